section
/-- what attributes an element of this kind may have -/
def ALW (k n : Int) : Prop := (k = 2 ∧ (n = 1851878757 ∨ n = 29807)) ∨ (k = 3 ∧ (n = 26980 ∨ n = 427020088179 ∨ n = 123563833388660 ∨ n = 7017298113369039732 ∨ n = 495589486693 ∨ n = 1818327673 ∨ n = 28817527407604345 ∨ n = 120282512125796 ∨ n = 1768843636 ∨ n = 28259044220366713 ∨ n = 28259031083541619)) ∨ (k = 4 ∧ (n = 24948 ∨ n = 1954115685 ∨ n = 508440638821 ∨ n = 7497062)) ∨ (k = 5 ∧ (n = 1851878757 ∨ n = 508440638821 ∨ n = 7497062)) ∨ (k = 8 ∧ (n = 1650811246)) ∨ (k = 10 ∧ (n = 1851878757 ∨ n = 1650811246))

set_option maxHeartbeats 4000000 in
set_option maxRecDepth 100000 in
theorem a_isAllowed2 (l : Launch) (dC : Nat → ClassId) (dI : Nat → Nat → Nat) (h0 : Nat) (ad : Nat → Nat) (cid : Nat → ClassId) (sg : Nat → Int32) (gm : Nat → Nat → Int32) (lg : Nat → Nat → Int64) (x : Int32) (nn : Int64) (hI : MI sg gm) : MMi l dC dI yX13_isAllowed wm_X13_isAllowed ({ frames := 0, cells := 0, slots := 0, locals := 0 }) h0 ad cid [.int x, .long nn] sg gm lg (fun r v => (iv 0 1 r) ∧ ((r.toInt = 1 ∧ (ALW x.toInt nn.toInt)) ∨ (r.toInt = 0 ∧ ¬ (ALW x.toInt nn.toInt))) ∧ v = (sg, gm, lg)) := by
  intro sz
  refine Met.ofW (cc := cX13_isAllowed) (maxL := 4) (ret := (some .boolean)) (by decide) rfl ?_
  intro p e s m args below meth c s₁ B hml hv
  obtain ⟨rfl, hsz, hP, hK, hD0⟩ := hv
  have hx := B.exec
  have hb := B.bytes
  have hr := B.returns
  have hts := atoms_spec (ws := wm_X13_isAllowed) B.pre
  have htb := fun (w : Cond) (h : w ∈ tb) => hts w (List.mem_cons_of_mem _ h)
  have hown : s.vm.findClass RX13 = some m.cls := findClass_of_methodNamed B.named
  have hlocks := B.notSynchronized
  subst hsz
  have hD := hD0.self (sz := s.heap.size)
  generalize hAe : va_A (mW h0 ad cid sg gm lg) s.heap.size = A at hD ⊢
  have hA : ∀ q : Nat, s.heap.size ≤ q → A q := fun q h => by rw [← hAe]; exact Or.inr h
  have hS : va_S A s.heap s.heap [] := va_S.rf
  have hl := lv_entry ([.ref h0, .int x, .long nn]) (n := 4) (Nat.le_of_ble_eq_true rfl)
  rw [lg_entry_eq]
  generalize (lg_sl ([.ref h0, .int x, .long nn]) ++ List.replicate (4 - (lg_sl ([.ref h0, .int x, .long nn])).length) Slot.unset).toArray = ls at hl ⊢
  have hl : lv_has ls 4 [(0, .ref h0), (1, .int x), (2, .long nn)] := hl
  have hj73 : ∀ (y0_73 : Int32) (_ : iv 2 2 x) (_ : iv 0 1 y0_73) (_ : (y0_73.toInt = 1 ∧ (ALW x.toInt nn.toInt)) ∨ (y0_73.toInt = 0 ∧ ¬ (ALW x.toInt nn.toInt))) (H : Heap) (locs : List Loc) (ls : Array Slot), va_P (dC, dI) vwCl (mW h0 ad cid sg gm lg) H → va_D A (mW h0 ad cid sg gm lg) → va_S A s.heap H locs → lv_has ls 4 [(0, .ref h0), (1, .int x), (2, .long nn)] → W p l e (headSpec wm_X13_isAllowed ({ frames := 0, cells := 0, slots := 0, locals := 0 })).room s m ([.ref h0, .int x, .long nn] : List Value).toArray below meth c H locs 0 0 (MQ below (va_Qi (fun r v => (iv 0 1 r) ∧ ((r.toInt = 1 ∧ (ALW x.toInt nn.toInt)) ∨ (r.toInt = 0 ∧ ¬ (ALW x.toInt nn.toInt))) ∧ v = (sg, gm, lg)) (MB dC dI h0 ad cid A) A) ([.ref h0, .int x, .long nn] : List Value).toArray s 0 0 A) (F0 m 73 ls [.int y0_73]) := by
    intro y0_73 hsx1_73 hy0_73 u73 H locs ls hP hD hS hl
    exact W.zret (v := y0_73) hx hb hr (iv_nb hy0_73) (fun t ht hW => ⟨⟨y0_73, (sg, gm, lg), rfl, ⟨hy0_73, (u73), rfl⟩, by rw [ht]; exact hP, va_K.moved hW.alike hK, hD⟩, hS.F ht⟩) hS.2.2 dX13_isAllowed_73
  have hj68 : ∀ (_ : iv 2 2 x) (_ : (nn.toInt = 1851878757 ∨ nn.toInt = 29807)) (_ : x.toInt = 2) (H : Heap) (locs : List Loc) (ls : Array Slot), va_P (dC, dI) vwCl (mW h0 ad cid sg gm lg) H → va_D A (mW h0 ad cid sg gm lg) → va_S A s.heap H locs → lv_has ls 4 [(0, .ref h0), (1, .int x), (2, .long nn)] → W p l e (headSpec wm_X13_isAllowed ({ frames := 0, cells := 0, slots := 0, locals := 0 })).room s m ([.ref h0, .int x, .long nn] : List Value).toArray below meth c H locs 0 0 (MQ below (va_Qi (fun r v => (iv 0 1 r) ∧ ((r.toInt = 1 ∧ (ALW x.toInt nn.toInt)) ∨ (r.toInt = 0 ∧ ¬ (ALW x.toInt nn.toInt))) ∧ v = (sg, gm, lg)) (MB dC dI h0 ad cid A) A) ([.ref h0, .int x, .long nn] : List Value).toArray s 0 0 A) (F0 m 68 ls []) := by
    intro  hsx1_68 u68 hk H locs ls hP hD hS hl
    refine lv_iconst (v := 1) hx hb dX13_isAllowed_68 (by decide) ?_
    refine lv_goto (tgt := 73) hx hb dX13_isAllowed_69 (by decide) ?_
    exact hj73 1 hsx1_68 (iv_w (iv_k (by decide) : iv 1 1 1) (by decide)) ((by have hk9 : x.toInt = 2 := (hk); exact Or.inl ⟨rfl, Or.inl ⟨hk9, u68⟩⟩)) _ _ _ hP hD hS (lv_sub hl [0, 1, 2] rfl)
  have hj167 : ∀ (y0_167 : Int32) (_ : iv 3 3 x) (_ : iv 0 1 y0_167) (_ : (y0_167.toInt = 1 ∧ (ALW x.toInt nn.toInt)) ∨ (y0_167.toInt = 0 ∧ ¬ (ALW x.toInt nn.toInt))) (H : Heap) (locs : List Loc) (ls : Array Slot), va_P (dC, dI) vwCl (mW h0 ad cid sg gm lg) H → va_D A (mW h0 ad cid sg gm lg) → va_S A s.heap H locs → lv_has ls 4 [(0, .ref h0), (1, .int x), (2, .long nn)] → W p l e (headSpec wm_X13_isAllowed ({ frames := 0, cells := 0, slots := 0, locals := 0 })).room s m ([.ref h0, .int x, .long nn] : List Value).toArray below meth c H locs 0 0 (MQ below (va_Qi (fun r v => (iv 0 1 r) ∧ ((r.toInt = 1 ∧ (ALW x.toInt nn.toInt)) ∨ (r.toInt = 0 ∧ ¬ (ALW x.toInt nn.toInt))) ∧ v = (sg, gm, lg)) (MB dC dI h0 ad cid A) A) ([.ref h0, .int x, .long nn] : List Value).toArray s 0 0 A) (F0 m 167 ls [.int y0_167]) := by
    intro y0_167 hsx1_167 hy0_167 u167 H locs ls hP hD hS hl
    exact W.zret (v := y0_167) hx hb hr (iv_nb hy0_167) (fun t ht hW => ⟨⟨y0_167, (sg, gm, lg), rfl, ⟨hy0_167, (u167), rfl⟩, by rw [ht]; exact hP, va_K.moved hW.alike hK, hD⟩, hS.F ht⟩) hS.2.2 dX13_isAllowed_167
  have hj162 : ∀ (_ : iv 3 3 x) (_ : (nn.toInt = 26980 ∨ nn.toInt = 427020088179 ∨ nn.toInt = 123563833388660 ∨ nn.toInt = 7017298113369039732 ∨ nn.toInt = 495589486693 ∨ nn.toInt = 1818327673 ∨ nn.toInt = 28817527407604345 ∨ nn.toInt = 120282512125796 ∨ nn.toInt = 1768843636 ∨ nn.toInt = 28259044220366713 ∨ nn.toInt = 28259031083541619)) (_ : x.toInt = 3) (H : Heap) (locs : List Loc) (ls : Array Slot), va_P (dC, dI) vwCl (mW h0 ad cid sg gm lg) H → va_D A (mW h0 ad cid sg gm lg) → va_S A s.heap H locs → lv_has ls 4 [(0, .ref h0), (1, .int x), (2, .long nn)] → W p l e (headSpec wm_X13_isAllowed ({ frames := 0, cells := 0, slots := 0, locals := 0 })).room s m ([.ref h0, .int x, .long nn] : List Value).toArray below meth c H locs 0 0 (MQ below (va_Qi (fun r v => (iv 0 1 r) ∧ ((r.toInt = 1 ∧ (ALW x.toInt nn.toInt)) ∨ (r.toInt = 0 ∧ ¬ (ALW x.toInt nn.toInt))) ∧ v = (sg, gm, lg)) (MB dC dI h0 ad cid A) A) ([.ref h0, .int x, .long nn] : List Value).toArray s 0 0 A) (F0 m 162 ls []) := by
    intro  hsx1_162 u162 hk H locs ls hP hD hS hl
    refine lv_iconst (v := 1) hx hb dX13_isAllowed_162 (by decide) ?_
    refine lv_goto (tgt := 167) hx hb dX13_isAllowed_163 (by decide) ?_
    exact hj167 1 hsx1_162 (iv_w (iv_k (by decide) : iv 1 1 1) (by decide)) ((by have hk9 : x.toInt = 3 := (hk); exact Or.inl ⟨rfl, Or.inr (Or.inl ⟨hk9, u162⟩)⟩)) _ _ _ hP hD hS (lv_sub hl [0, 1, 2] rfl)
  have hj205 : ∀ (y0_205 : Int32) (_ : iv 4 4 x) (_ : iv 0 1 y0_205) (_ : (y0_205.toInt = 1 ∧ (ALW x.toInt nn.toInt)) ∨ (y0_205.toInt = 0 ∧ ¬ (ALW x.toInt nn.toInt))) (H : Heap) (locs : List Loc) (ls : Array Slot), va_P (dC, dI) vwCl (mW h0 ad cid sg gm lg) H → va_D A (mW h0 ad cid sg gm lg) → va_S A s.heap H locs → lv_has ls 4 [(0, .ref h0), (1, .int x), (2, .long nn)] → W p l e (headSpec wm_X13_isAllowed ({ frames := 0, cells := 0, slots := 0, locals := 0 })).room s m ([.ref h0, .int x, .long nn] : List Value).toArray below meth c H locs 0 0 (MQ below (va_Qi (fun r v => (iv 0 1 r) ∧ ((r.toInt = 1 ∧ (ALW x.toInt nn.toInt)) ∨ (r.toInt = 0 ∧ ¬ (ALW x.toInt nn.toInt))) ∧ v = (sg, gm, lg)) (MB dC dI h0 ad cid A) A) ([.ref h0, .int x, .long nn] : List Value).toArray s 0 0 A) (F0 m 205 ls [.int y0_205]) := by
    intro y0_205 hsx1_205 hy0_205 u205 H locs ls hP hD hS hl
    exact W.zret (v := y0_205) hx hb hr (iv_nb hy0_205) (fun t ht hW => ⟨⟨y0_205, (sg, gm, lg), rfl, ⟨hy0_205, (u205), rfl⟩, by rw [ht]; exact hP, va_K.moved hW.alike hK, hD⟩, hS.F ht⟩) hS.2.2 dX13_isAllowed_205
  have hj200 : ∀ (_ : iv 4 4 x) (_ : (nn.toInt = 24948 ∨ nn.toInt = 1954115685 ∨ nn.toInt = 508440638821 ∨ nn.toInt = 7497062)) (_ : x.toInt = 4) (H : Heap) (locs : List Loc) (ls : Array Slot), va_P (dC, dI) vwCl (mW h0 ad cid sg gm lg) H → va_D A (mW h0 ad cid sg gm lg) → va_S A s.heap H locs → lv_has ls 4 [(0, .ref h0), (1, .int x), (2, .long nn)] → W p l e (headSpec wm_X13_isAllowed ({ frames := 0, cells := 0, slots := 0, locals := 0 })).room s m ([.ref h0, .int x, .long nn] : List Value).toArray below meth c H locs 0 0 (MQ below (va_Qi (fun r v => (iv 0 1 r) ∧ ((r.toInt = 1 ∧ (ALW x.toInt nn.toInt)) ∨ (r.toInt = 0 ∧ ¬ (ALW x.toInt nn.toInt))) ∧ v = (sg, gm, lg)) (MB dC dI h0 ad cid A) A) ([.ref h0, .int x, .long nn] : List Value).toArray s 0 0 A) (F0 m 200 ls []) := by
    intro  hsx1_200 u200 hk H locs ls hP hD hS hl
    refine lv_iconst (v := 1) hx hb dX13_isAllowed_200 (by decide) ?_
    refine lv_goto (tgt := 205) hx hb dX13_isAllowed_201 (by decide) ?_
    exact hj205 1 hsx1_200 (iv_w (iv_k (by decide) : iv 1 1 1) (by decide)) ((by have hk9 : x.toInt = 4 := (hk); exact Or.inl ⟨rfl, Or.inr (Or.inr (Or.inl ⟨hk9, u200⟩))⟩)) _ _ _ hP hD hS (lv_sub hl [0, 1, 2] rfl)
  have hj235 : ∀ (y0_235 : Int32) (_ : iv 5 5 x) (_ : iv 0 1 y0_235) (_ : (y0_235.toInt = 1 ∧ (ALW x.toInt nn.toInt)) ∨ (y0_235.toInt = 0 ∧ ¬ (ALW x.toInt nn.toInt))) (H : Heap) (locs : List Loc) (ls : Array Slot), va_P (dC, dI) vwCl (mW h0 ad cid sg gm lg) H → va_D A (mW h0 ad cid sg gm lg) → va_S A s.heap H locs → lv_has ls 4 [(0, .ref h0), (1, .int x), (2, .long nn)] → W p l e (headSpec wm_X13_isAllowed ({ frames := 0, cells := 0, slots := 0, locals := 0 })).room s m ([.ref h0, .int x, .long nn] : List Value).toArray below meth c H locs 0 0 (MQ below (va_Qi (fun r v => (iv 0 1 r) ∧ ((r.toInt = 1 ∧ (ALW x.toInt nn.toInt)) ∨ (r.toInt = 0 ∧ ¬ (ALW x.toInt nn.toInt))) ∧ v = (sg, gm, lg)) (MB dC dI h0 ad cid A) A) ([.ref h0, .int x, .long nn] : List Value).toArray s 0 0 A) (F0 m 235 ls [.int y0_235]) := by
    intro y0_235 hsx1_235 hy0_235 u235 H locs ls hP hD hS hl
    exact W.zret (v := y0_235) hx hb hr (iv_nb hy0_235) (fun t ht hW => ⟨⟨y0_235, (sg, gm, lg), rfl, ⟨hy0_235, (u235), rfl⟩, by rw [ht]; exact hP, va_K.moved hW.alike hK, hD⟩, hS.F ht⟩) hS.2.2 dX13_isAllowed_235
  have hj230 : ∀ (_ : iv 5 5 x) (_ : (nn.toInt = 1851878757 ∨ nn.toInt = 508440638821 ∨ nn.toInt = 7497062)) (_ : x.toInt = 5) (H : Heap) (locs : List Loc) (ls : Array Slot), va_P (dC, dI) vwCl (mW h0 ad cid sg gm lg) H → va_D A (mW h0 ad cid sg gm lg) → va_S A s.heap H locs → lv_has ls 4 [(0, .ref h0), (1, .int x), (2, .long nn)] → W p l e (headSpec wm_X13_isAllowed ({ frames := 0, cells := 0, slots := 0, locals := 0 })).room s m ([.ref h0, .int x, .long nn] : List Value).toArray below meth c H locs 0 0 (MQ below (va_Qi (fun r v => (iv 0 1 r) ∧ ((r.toInt = 1 ∧ (ALW x.toInt nn.toInt)) ∨ (r.toInt = 0 ∧ ¬ (ALW x.toInt nn.toInt))) ∧ v = (sg, gm, lg)) (MB dC dI h0 ad cid A) A) ([.ref h0, .int x, .long nn] : List Value).toArray s 0 0 A) (F0 m 230 ls []) := by
    intro  hsx1_230 u230 hk H locs ls hP hD hS hl
    refine lv_iconst (v := 1) hx hb dX13_isAllowed_230 (by decide) ?_
    refine lv_goto (tgt := 235) hx hb dX13_isAllowed_231 (by decide) ?_
    exact hj235 1 hsx1_230 (iv_w (iv_k (by decide) : iv 1 1 1) (by decide)) ((by have hk9 : x.toInt = 5 := (hk); exact Or.inl ⟨rfl, Or.inr (Or.inr (Or.inr (Or.inl ⟨hk9, u230⟩)))⟩)) _ _ _ hP hD hS (lv_sub hl [0, 1, 2] rfl)
  have hj272 : ∀ (_ : ¬ ALW x.toInt nn.toInt) (H : Heap) (locs : List Loc) (ls : Array Slot), va_P (dC, dI) vwCl (mW h0 ad cid sg gm lg) H → va_D A (mW h0 ad cid sg gm lg) → va_S A s.heap H locs → lv_has ls 4 [(0, .ref h0), (1, .int x), (2, .long nn)] → W p l e (headSpec wm_X13_isAllowed ({ frames := 0, cells := 0, slots := 0, locals := 0 })).room s m ([.ref h0, .int x, .long nn] : List Value).toArray below meth c H locs 0 0 (MQ below (va_Qi (fun r v => (iv 0 1 r) ∧ ((r.toInt = 1 ∧ (ALW x.toInt nn.toInt)) ∨ (r.toInt = 0 ∧ ¬ (ALW x.toInt nn.toInt))) ∧ v = (sg, gm, lg)) (MB dC dI h0 ad cid A) A) ([.ref h0, .int x, .long nn] : List Value).toArray s 0 0 A) (F0 m 272 ls []) := by
    intro  u272 H locs ls hP hD hS hl
    refine lv_iconst (v := 0) hx hb dX13_isAllowed_272 (by decide) ?_
    exact W.zret (v := 0) hx hb hr (iv_nb (iv_w (iv_k (by decide) : iv 0 0 0) (by decide))) (fun t ht hW => ⟨⟨0, (sg, gm, lg), rfl, ⟨(iv_w (iv_k (by decide) : iv 0 0 0) (by decide)), (Or.inr ⟨rfl, u272⟩), rfl⟩, by rw [ht]; exact hP, va_K.moved hW.alike hK, hD⟩, hS.F ht⟩) hS.2.2 dX13_isAllowed_273
  have hj249 : ∀ (y0_249 : Int32) (_ : iv 8 8 x) (_ : iv 0 1 y0_249) (_ : (y0_249.toInt = 1 ∧ (ALW x.toInt nn.toInt)) ∨ (y0_249.toInt = 0 ∧ ¬ (ALW x.toInt nn.toInt))) (H : Heap) (locs : List Loc) (ls : Array Slot), va_P (dC, dI) vwCl (mW h0 ad cid sg gm lg) H → va_D A (mW h0 ad cid sg gm lg) → va_S A s.heap H locs → lv_has ls 4 [(0, .ref h0), (1, .int x), (2, .long nn)] → W p l e (headSpec wm_X13_isAllowed ({ frames := 0, cells := 0, slots := 0, locals := 0 })).room s m ([.ref h0, .int x, .long nn] : List Value).toArray below meth c H locs 0 0 (MQ below (va_Qi (fun r v => (iv 0 1 r) ∧ ((r.toInt = 1 ∧ (ALW x.toInt nn.toInt)) ∨ (r.toInt = 0 ∧ ¬ (ALW x.toInt nn.toInt))) ∧ v = (sg, gm, lg)) (MB dC dI h0 ad cid A) A) ([.ref h0, .int x, .long nn] : List Value).toArray s 0 0 A) (F0 m 249 ls [.int y0_249]) := by
    intro y0_249 hsx1_249 hy0_249 u249 H locs ls hP hD hS hl
    exact W.zret (v := y0_249) hx hb hr (iv_nb hy0_249) (fun t ht hW => ⟨⟨y0_249, (sg, gm, lg), rfl, ⟨hy0_249, (u249), rfl⟩, by rw [ht]; exact hP, va_K.moved hW.alike hK, hD⟩, hS.F ht⟩) hS.2.2 dX13_isAllowed_249
  have hj271 : ∀ (y0_271 : Int32) (_ : iv 10 10 x) (_ : iv 0 1 y0_271) (_ : (y0_271.toInt = 1 ∧ (ALW x.toInt nn.toInt)) ∨ (y0_271.toInt = 0 ∧ ¬ (ALW x.toInt nn.toInt))) (H : Heap) (locs : List Loc) (ls : Array Slot), va_P (dC, dI) vwCl (mW h0 ad cid sg gm lg) H → va_D A (mW h0 ad cid sg gm lg) → va_S A s.heap H locs → lv_has ls 4 [(0, .ref h0), (1, .int x), (2, .long nn)] → W p l e (headSpec wm_X13_isAllowed ({ frames := 0, cells := 0, slots := 0, locals := 0 })).room s m ([.ref h0, .int x, .long nn] : List Value).toArray below meth c H locs 0 0 (MQ below (va_Qi (fun r v => (iv 0 1 r) ∧ ((r.toInt = 1 ∧ (ALW x.toInt nn.toInt)) ∨ (r.toInt = 0 ∧ ¬ (ALW x.toInt nn.toInt))) ∧ v = (sg, gm, lg)) (MB dC dI h0 ad cid A) A) ([.ref h0, .int x, .long nn] : List Value).toArray s 0 0 A) (F0 m 271 ls [.int y0_271]) := by
    intro y0_271 hsx1_271 hy0_271 u271 H locs ls hP hD hS hl
    exact W.zret (v := y0_271) hx hb hr (iv_nb hy0_271) (fun t ht hW => ⟨⟨y0_271, (sg, gm, lg), rfl, ⟨hy0_271, (u271), rfl⟩, by rw [ht]; exact hP, va_K.moved hW.alike hK, hD⟩, hS.F ht⟩) hS.2.2 dX13_isAllowed_271
  have hj266 : ∀ (_ : iv 10 10 x) (_ : (nn.toInt = 1851878757 ∨ nn.toInt = 1650811246)) (_ : x.toInt = 10) (H : Heap) (locs : List Loc) (ls : Array Slot), va_P (dC, dI) vwCl (mW h0 ad cid sg gm lg) H → va_D A (mW h0 ad cid sg gm lg) → va_S A s.heap H locs → lv_has ls 4 [(0, .ref h0), (1, .int x), (2, .long nn)] → W p l e (headSpec wm_X13_isAllowed ({ frames := 0, cells := 0, slots := 0, locals := 0 })).room s m ([.ref h0, .int x, .long nn] : List Value).toArray below meth c H locs 0 0 (MQ below (va_Qi (fun r v => (iv 0 1 r) ∧ ((r.toInt = 1 ∧ (ALW x.toInt nn.toInt)) ∨ (r.toInt = 0 ∧ ¬ (ALW x.toInt nn.toInt))) ∧ v = (sg, gm, lg)) (MB dC dI h0 ad cid A) A) ([.ref h0, .int x, .long nn] : List Value).toArray s 0 0 A) (F0 m 266 ls []) := by
    intro  hsx1_266 u266 hk H locs ls hP hD hS hl
    refine lv_iconst (v := 1) hx hb dX13_isAllowed_266 (by decide) ?_
    refine lv_goto (tgt := 271) hx hb dX13_isAllowed_267 (by decide) ?_
    exact hj271 1 hsx1_266 (iv_w (iv_k (by decide) : iv 1 1 1) (by decide)) ((by have hk9 : x.toInt = 10 := (hk); exact Or.inl ⟨rfl, Or.inr (Or.inr (Or.inr (Or.inr (Or.inr (⟨hk9, u266⟩)))))⟩)) _ _ _ hP hD hS (lv_sub hl [0, 1, 2] rfl)
  refine lv_iload_n hx hb dX13_isAllowed_0 rfl (lv_at hl 1 rfl) ?_
  by_cases c_1 : (x : Int32).toInt = 2
  · refine lv_tableIn (tgt := 52) hx hb dX13_isAllowed_1 (by rw [c_1]; decide) (by rw [c_1]; decide) (by rw [c_1]; rfl) (by decide) ?_
    have h_2 : iv 2 2 x := iv_at c_1
    refine lv_lload_n hx hb dX13_isAllowed_52 rfl (lv_at hl 2 rfl) ?_
    refine lv_ldc2 (own := RX13) (v := 1851878757) hx hb hown (htb _ kw_887) dX13_isAllowed_53 ?_
    refine W.lcmp hx hb dX13_isAllowed_56 ?_
    refine lv_topi (fun z_3 ez_3 => ?_)
    have hz_3 : iv (-1) 1 z_3 := iv_of ez_3 (iv_cmp _ _)
    have hl_z_3 := lg_tr7 ez_3
    rw [show (1851878757 : Int64).toInt = 1851878757 from by decide] at hl_z_3
    refine lv_if_eq (tgt := 68) hx hb dX13_isAllowed_57 (by decide) (fun c_4 => ?_) (fun c_4 => ?_)
    · have h_5 : iv 0 0 z_3 := iv_eq c_4 hz_3 (iv_k (by decide) : iv 0 0 0) (by decide)
      exact hj68 h_2 (by have := i32_0; have := i32_1; have := i32_2; have := i32_m1; have := (h_2).1; have := (h_2).2; have := (h_5).1; have := (h_5).2; omega) (by have := i32_0; have := i32_1; have := i32_2; have := i32_m1; have := (h_2).1; have := (h_2).2; have := (h_5).1; have := (h_5).2; omega) _ _ _ hP hD hS (lv_sub hl [0, 1, 2] rfl)
    · have d_6 : ¬ (z_3 : Int32).toInt = 0 := lv_neT c_4 rfl
      refine lv_lload_n hx hb dX13_isAllowed_60 rfl (lv_at hl 2 rfl) ?_
      refine lv_ldc2 (own := RX13) (v := 29807) hx hb hown (htb _ kw_888) dX13_isAllowed_61 ?_
      refine W.lcmp hx hb dX13_isAllowed_64 ?_
      refine lv_topi (fun z_7 ez_7 => ?_)
      have hz_7 : iv (-1) 1 z_7 := iv_of ez_7 (iv_cmp _ _)
      have hl_z_7 := lg_tr7 ez_7
      rw [show (29807 : Int64).toInt = 29807 from by decide] at hl_z_7
      refine lv_if_ne (tgt := 72) hx hb dX13_isAllowed_65 (by decide) (fun c_8 => ?_) (fun c_8 => ?_)
      · have d_9 : ¬ (z_7 : Int32).toInt = 0 := lv_neT c_8 rfl
        refine lv_iconst (v := 0) hx hb dX13_isAllowed_72 (by decide) ?_
        exact hj73 0 h_2 (iv_w (iv_k (by decide) : iv 0 0 0) (by decide)) ((by have hk9 : x.toInt = 2 := (by have := i32_0; have := i32_1; have := i32_2; have := i32_m1; have := (h_2).1; have := (h_2).2; have := (hz_3).1; have := (hz_3).2; have := (hz_7).1; have := (hz_7).2; omega); exact Or.inr ⟨rfl, by unfold ALW; have := i32_0; have := i32_1; have := i32_2; have := i32_m1; have := (h_2).1; have := (h_2).2; have := (hz_3).1; have := (hz_3).2; have := (hz_7).1; have := (hz_7).2; omega⟩)) _ _ _ hP hD hS (lv_sub hl [0, 1, 2] rfl)
      · have h_10 : iv 0 0 z_7 := iv_eq c_8 hz_7 (iv_k (by decide) : iv 0 0 0) (by decide)
        exact hj68 h_2 (by have := i32_0; have := i32_1; have := i32_2; have := i32_m1; have := (h_2).1; have := (h_2).2; have := (hz_3).1; have := (hz_3).2; have := (h_10).1; have := (h_10).2; omega) (by have := i32_0; have := i32_1; have := i32_2; have := i32_m1; have := (h_2).1; have := (h_2).2; have := (hz_3).1; have := (hz_3).2; have := (h_10).1; have := (h_10).2; omega) _ _ _ hP hD hS (lv_sub hl [0, 1, 2] rfl)
  by_cases c_11 : (x : Int32).toInt = 3
  · refine lv_tableIn (tgt := 74) hx hb dX13_isAllowed_1 (by rw [c_11]; decide) (by rw [c_11]; decide) (by rw [c_11]; rfl) (by decide) ?_
    have h_12 : iv 3 3 x := iv_at c_11
    refine lv_lload_n hx hb dX13_isAllowed_74 rfl (lv_at hl 2 rfl) ?_
    refine lv_ldc2 (own := RX13) (v := 26980) hx hb hown (htb _ kw_899) dX13_isAllowed_75 ?_
    refine W.lcmp hx hb dX13_isAllowed_78 ?_
    refine lv_topi (fun z_13 ez_13 => ?_)
    have hz_13 : iv (-1) 1 z_13 := iv_of ez_13 (iv_cmp _ _)
    have hl_z_13 := lg_tr7 ez_13
    rw [show (26980 : Int64).toInt = 26980 from by decide] at hl_z_13
    refine lv_if_eq (tgt := 162) hx hb dX13_isAllowed_79 (by decide) (fun c_14 => ?_) (fun c_14 => ?_)
    · have h_15 : iv 0 0 z_13 := iv_eq c_14 hz_13 (iv_k (by decide) : iv 0 0 0) (by decide)
      exact hj162 h_12 (by have := i32_0; have := i32_1; have := i32_2; have := i32_m1; have := (h_12).1; have := (h_12).2; have := (h_15).1; have := (h_15).2; omega) (by have := i32_0; have := i32_1; have := i32_2; have := i32_m1; have := (h_12).1; have := (h_12).2; have := (h_15).1; have := (h_15).2; omega) _ _ _ hP hD hS (lv_sub hl [0, 1, 2] rfl)
    · have d_16 : ¬ (z_13 : Int32).toInt = 0 := lv_neT c_14 rfl
      refine lv_lload_n hx hb dX13_isAllowed_82 rfl (lv_at hl 2 rfl) ?_
      refine lv_ldc2 (own := RX13) (v := 427020088179) hx hb hown (htb _ kw_900) dX13_isAllowed_83 ?_
      refine W.lcmp hx hb dX13_isAllowed_86 ?_
      refine lv_topi (fun z_17 ez_17 => ?_)
      have hz_17 : iv (-1) 1 z_17 := iv_of ez_17 (iv_cmp _ _)
      have hl_z_17 := lg_tr7 ez_17
      rw [show (427020088179 : Int64).toInt = 427020088179 from by decide] at hl_z_17
      refine lv_if_eq (tgt := 162) hx hb dX13_isAllowed_87 (by decide) (fun c_18 => ?_) (fun c_18 => ?_)
      · have h_19 : iv 0 0 z_17 := iv_eq c_18 hz_17 (iv_k (by decide) : iv 0 0 0) (by decide)
        exact hj162 h_12 (by have := i32_0; have := i32_1; have := i32_2; have := i32_m1; have := (h_12).1; have := (h_12).2; have := (hz_13).1; have := (hz_13).2; have := (h_19).1; have := (h_19).2; omega) (by have := i32_0; have := i32_1; have := i32_2; have := i32_m1; have := (h_12).1; have := (h_12).2; have := (hz_13).1; have := (hz_13).2; have := (h_19).1; have := (h_19).2; omega) _ _ _ hP hD hS (lv_sub hl [0, 1, 2] rfl)
      · have d_20 : ¬ (z_17 : Int32).toInt = 0 := lv_neT c_18 rfl
        refine lv_lload_n hx hb dX13_isAllowed_90 rfl (lv_at hl 2 rfl) ?_
        refine lv_ldc2 (own := RX13) (v := 123563833388660) hx hb hown (htb _ kw_901) dX13_isAllowed_91 ?_
        refine W.lcmp hx hb dX13_isAllowed_94 ?_
        refine lv_topi (fun z_21 ez_21 => ?_)
        have hz_21 : iv (-1) 1 z_21 := iv_of ez_21 (iv_cmp _ _)
        have hl_z_21 := lg_tr7 ez_21
        rw [show (123563833388660 : Int64).toInt = 123563833388660 from by decide] at hl_z_21
        refine lv_if_eq (tgt := 162) hx hb dX13_isAllowed_95 (by decide) (fun c_22 => ?_) (fun c_22 => ?_)
        · have h_23 : iv 0 0 z_21 := iv_eq c_22 hz_21 (iv_k (by decide) : iv 0 0 0) (by decide)
          exact hj162 h_12 (by have := i32_0; have := i32_1; have := i32_2; have := i32_m1; have := (h_12).1; have := (h_12).2; have := (hz_13).1; have := (hz_13).2; have := (hz_17).1; have := (hz_17).2; have := (h_23).1; have := (h_23).2; omega) (by have := i32_0; have := i32_1; have := i32_2; have := i32_m1; have := (h_12).1; have := (h_12).2; have := (hz_13).1; have := (hz_13).2; have := (hz_17).1; have := (hz_17).2; have := (h_23).1; have := (h_23).2; omega) _ _ _ hP hD hS (lv_sub hl [0, 1, 2] rfl)
        · have d_24 : ¬ (z_21 : Int32).toInt = 0 := lv_neT c_22 rfl
          refine lv_lload_n hx hb dX13_isAllowed_98 rfl (lv_at hl 2 rfl) ?_
          refine lv_ldc2 (own := RX13) (v := 7017298113369039732) hx hb hown (htb _ kw_902) dX13_isAllowed_99 ?_
          refine W.lcmp hx hb dX13_isAllowed_102 ?_
          refine lv_topi (fun z_25 ez_25 => ?_)
          have hz_25 : iv (-1) 1 z_25 := iv_of ez_25 (iv_cmp _ _)
          have hl_z_25 := lg_tr7 ez_25
          rw [show (7017298113369039732 : Int64).toInt = 7017298113369039732 from by decide] at hl_z_25
          refine lv_if_eq (tgt := 162) hx hb dX13_isAllowed_103 (by decide) (fun c_26 => ?_) (fun c_26 => ?_)
          · have h_27 : iv 0 0 z_25 := iv_eq c_26 hz_25 (iv_k (by decide) : iv 0 0 0) (by decide)
            exact hj162 h_12 (by have := i32_0; have := i32_1; have := i32_2; have := i32_m1; have := (h_12).1; have := (h_12).2; have := (hz_13).1; have := (hz_13).2; have := (hz_17).1; have := (hz_17).2; have := (hz_21).1; have := (hz_21).2; have := (h_27).1; have := (h_27).2; omega) (by have := i32_0; have := i32_1; have := i32_2; have := i32_m1; have := (h_12).1; have := (h_12).2; have := (hz_13).1; have := (hz_13).2; have := (hz_17).1; have := (hz_17).2; have := (hz_21).1; have := (hz_21).2; have := (h_27).1; have := (h_27).2; omega) _ _ _ hP hD hS (lv_sub hl [0, 1, 2] rfl)
          · have d_28 : ¬ (z_25 : Int32).toInt = 0 := lv_neT c_26 rfl
            refine lv_lload_n hx hb dX13_isAllowed_106 rfl (lv_at hl 2 rfl) ?_
            refine lv_ldc2 (own := RX13) (v := 495589486693) hx hb hown (htb _ kw_903) dX13_isAllowed_107 ?_
            refine W.lcmp hx hb dX13_isAllowed_110 ?_
            refine lv_topi (fun z_29 ez_29 => ?_)
            have hz_29 : iv (-1) 1 z_29 := iv_of ez_29 (iv_cmp _ _)
            have hl_z_29 := lg_tr7 ez_29
            rw [show (495589486693 : Int64).toInt = 495589486693 from by decide] at hl_z_29
            refine lv_if_eq (tgt := 162) hx hb dX13_isAllowed_111 (by decide) (fun c_30 => ?_) (fun c_30 => ?_)
            · have h_31 : iv 0 0 z_29 := iv_eq c_30 hz_29 (iv_k (by decide) : iv 0 0 0) (by decide)
              exact hj162 h_12 (by have := i32_0; have := i32_1; have := i32_2; have := i32_m1; have := (h_12).1; have := (h_12).2; have := (hz_13).1; have := (hz_13).2; have := (hz_17).1; have := (hz_17).2; have := (hz_21).1; have := (hz_21).2; have := (hz_25).1; have := (hz_25).2; have := (h_31).1; have := (h_31).2; omega) (by have := i32_0; have := i32_1; have := i32_2; have := i32_m1; have := (h_12).1; have := (h_12).2; have := (hz_13).1; have := (hz_13).2; have := (hz_17).1; have := (hz_17).2; have := (hz_21).1; have := (hz_21).2; have := (hz_25).1; have := (hz_25).2; have := (h_31).1; have := (h_31).2; omega) _ _ _ hP hD hS (lv_sub hl [0, 1, 2] rfl)
            · have d_32 : ¬ (z_29 : Int32).toInt = 0 := lv_neT c_30 rfl
              refine lv_lload_n hx hb dX13_isAllowed_114 rfl (lv_at hl 2 rfl) ?_
              refine lv_ldc2 (own := RX13) (v := 1818327673) hx hb hown (htb _ kw_904) dX13_isAllowed_115 ?_
              refine W.lcmp hx hb dX13_isAllowed_118 ?_
              refine lv_topi (fun z_33 ez_33 => ?_)
              have hz_33 : iv (-1) 1 z_33 := iv_of ez_33 (iv_cmp _ _)
              have hl_z_33 := lg_tr7 ez_33
              rw [show (1818327673 : Int64).toInt = 1818327673 from by decide] at hl_z_33
              refine lv_if_eq (tgt := 162) hx hb dX13_isAllowed_119 (by decide) (fun c_34 => ?_) (fun c_34 => ?_)
              · have h_35 : iv 0 0 z_33 := iv_eq c_34 hz_33 (iv_k (by decide) : iv 0 0 0) (by decide)
                exact hj162 h_12 (by have := i32_0; have := i32_1; have := i32_2; have := i32_m1; have := (h_12).1; have := (h_12).2; have := (hz_13).1; have := (hz_13).2; have := (hz_17).1; have := (hz_17).2; have := (hz_21).1; have := (hz_21).2; have := (hz_25).1; have := (hz_25).2; have := (hz_29).1; have := (hz_29).2; have := (h_35).1; have := (h_35).2; omega) (by have := i32_0; have := i32_1; have := i32_2; have := i32_m1; have := (h_12).1; have := (h_12).2; have := (hz_13).1; have := (hz_13).2; have := (hz_17).1; have := (hz_17).2; have := (hz_21).1; have := (hz_21).2; have := (hz_25).1; have := (hz_25).2; have := (hz_29).1; have := (hz_29).2; have := (h_35).1; have := (h_35).2; omega) _ _ _ hP hD hS (lv_sub hl [0, 1, 2] rfl)
              · have d_36 : ¬ (z_33 : Int32).toInt = 0 := lv_neT c_34 rfl
                refine lv_lload_n hx hb dX13_isAllowed_122 rfl (lv_at hl 2 rfl) ?_
                refine lv_ldc2 (own := RX13) (v := 28817527407604345) hx hb hown (htb _ kw_905) dX13_isAllowed_123 ?_
                refine W.lcmp hx hb dX13_isAllowed_126 ?_
                refine lv_topi (fun z_37 ez_37 => ?_)
                have hz_37 : iv (-1) 1 z_37 := iv_of ez_37 (iv_cmp _ _)
                have hl_z_37 := lg_tr7 ez_37
                rw [show (28817527407604345 : Int64).toInt = 28817527407604345 from by decide] at hl_z_37
                refine lv_if_eq (tgt := 162) hx hb dX13_isAllowed_127 (by decide) (fun c_38 => ?_) (fun c_38 => ?_)
                · have h_39 : iv 0 0 z_37 := iv_eq c_38 hz_37 (iv_k (by decide) : iv 0 0 0) (by decide)
                  exact hj162 h_12 (by have := i32_0; have := i32_1; have := i32_2; have := i32_m1; have := (h_12).1; have := (h_12).2; have := (hz_13).1; have := (hz_13).2; have := (hz_17).1; have := (hz_17).2; have := (hz_21).1; have := (hz_21).2; have := (hz_25).1; have := (hz_25).2; have := (hz_29).1; have := (hz_29).2; have := (hz_33).1; have := (hz_33).2; have := (h_39).1; have := (h_39).2; omega) (by have := i32_0; have := i32_1; have := i32_2; have := i32_m1; have := (h_12).1; have := (h_12).2; have := (hz_13).1; have := (hz_13).2; have := (hz_17).1; have := (hz_17).2; have := (hz_21).1; have := (hz_21).2; have := (hz_25).1; have := (hz_25).2; have := (hz_29).1; have := (hz_29).2; have := (hz_33).1; have := (hz_33).2; have := (h_39).1; have := (h_39).2; omega) _ _ _ hP hD hS (lv_sub hl [0, 1, 2] rfl)
                · have d_40 : ¬ (z_37 : Int32).toInt = 0 := lv_neT c_38 rfl
                  refine lv_lload_n hx hb dX13_isAllowed_130 rfl (lv_at hl 2 rfl) ?_
                  refine lv_ldc2 (own := RX13) (v := 120282512125796) hx hb hown (htb _ kw_906) dX13_isAllowed_131 ?_
                  refine W.lcmp hx hb dX13_isAllowed_134 ?_
                  refine lv_topi (fun z_41 ez_41 => ?_)
                  have hz_41 : iv (-1) 1 z_41 := iv_of ez_41 (iv_cmp _ _)
                  have hl_z_41 := lg_tr7 ez_41
                  rw [show (120282512125796 : Int64).toInt = 120282512125796 from by decide] at hl_z_41
                  refine lv_if_eq (tgt := 162) hx hb dX13_isAllowed_135 (by decide) (fun c_42 => ?_) (fun c_42 => ?_)
                  · have h_43 : iv 0 0 z_41 := iv_eq c_42 hz_41 (iv_k (by decide) : iv 0 0 0) (by decide)
                    exact hj162 h_12 (by have := i32_0; have := i32_1; have := i32_2; have := i32_m1; have := (h_12).1; have := (h_12).2; have := (hz_13).1; have := (hz_13).2; have := (hz_17).1; have := (hz_17).2; have := (hz_21).1; have := (hz_21).2; have := (hz_25).1; have := (hz_25).2; have := (hz_29).1; have := (hz_29).2; have := (hz_33).1; have := (hz_33).2; have := (hz_37).1; have := (hz_37).2; have := (h_43).1; have := (h_43).2; omega) (by have := i32_0; have := i32_1; have := i32_2; have := i32_m1; have := (h_12).1; have := (h_12).2; have := (hz_13).1; have := (hz_13).2; have := (hz_17).1; have := (hz_17).2; have := (hz_21).1; have := (hz_21).2; have := (hz_25).1; have := (hz_25).2; have := (hz_29).1; have := (hz_29).2; have := (hz_33).1; have := (hz_33).2; have := (hz_37).1; have := (hz_37).2; have := (h_43).1; have := (h_43).2; omega) _ _ _ hP hD hS (lv_sub hl [0, 1, 2] rfl)
                  · have d_44 : ¬ (z_41 : Int32).toInt = 0 := lv_neT c_42 rfl
                    refine lv_lload_n hx hb dX13_isAllowed_138 rfl (lv_at hl 2 rfl) ?_
                    refine lv_ldc2 (own := RX13) (v := 1768843636) hx hb hown (htb _ kw_907) dX13_isAllowed_139 ?_
                    refine W.lcmp hx hb dX13_isAllowed_142 ?_
                    refine lv_topi (fun z_45 ez_45 => ?_)
                    have hz_45 : iv (-1) 1 z_45 := iv_of ez_45 (iv_cmp _ _)
                    have hl_z_45 := lg_tr7 ez_45
                    rw [show (1768843636 : Int64).toInt = 1768843636 from by decide] at hl_z_45
                    refine lv_if_eq (tgt := 162) hx hb dX13_isAllowed_143 (by decide) (fun c_46 => ?_) (fun c_46 => ?_)
                    · have h_47 : iv 0 0 z_45 := iv_eq c_46 hz_45 (iv_k (by decide) : iv 0 0 0) (by decide)
                      exact hj162 h_12 (by have := i32_0; have := i32_1; have := i32_2; have := i32_m1; have := (h_12).1; have := (h_12).2; have := (hz_13).1; have := (hz_13).2; have := (hz_17).1; have := (hz_17).2; have := (hz_21).1; have := (hz_21).2; have := (hz_25).1; have := (hz_25).2; have := (hz_29).1; have := (hz_29).2; have := (hz_33).1; have := (hz_33).2; have := (hz_37).1; have := (hz_37).2; have := (hz_41).1; have := (hz_41).2; have := (h_47).1; have := (h_47).2; omega) (by have := i32_0; have := i32_1; have := i32_2; have := i32_m1; have := (h_12).1; have := (h_12).2; have := (hz_13).1; have := (hz_13).2; have := (hz_17).1; have := (hz_17).2; have := (hz_21).1; have := (hz_21).2; have := (hz_25).1; have := (hz_25).2; have := (hz_29).1; have := (hz_29).2; have := (hz_33).1; have := (hz_33).2; have := (hz_37).1; have := (hz_37).2; have := (hz_41).1; have := (hz_41).2; have := (h_47).1; have := (h_47).2; omega) _ _ _ hP hD hS (lv_sub hl [0, 1, 2] rfl)
                    · have d_48 : ¬ (z_45 : Int32).toInt = 0 := lv_neT c_46 rfl
                      refine lv_lload_n hx hb dX13_isAllowed_146 rfl (lv_at hl 2 rfl) ?_
                      refine lv_ldc2 (own := RX13) (v := 28259044220366713) hx hb hown (htb _ kw_908) dX13_isAllowed_147 ?_
                      refine W.lcmp hx hb dX13_isAllowed_150 ?_
                      refine lv_topi (fun z_49 ez_49 => ?_)
                      have hz_49 : iv (-1) 1 z_49 := iv_of ez_49 (iv_cmp _ _)
                      have hl_z_49 := lg_tr7 ez_49
                      rw [show (28259044220366713 : Int64).toInt = 28259044220366713 from by decide] at hl_z_49
                      refine lv_if_eq (tgt := 162) hx hb dX13_isAllowed_151 (by decide) (fun c_50 => ?_) (fun c_50 => ?_)
                      · have h_51 : iv 0 0 z_49 := iv_eq c_50 hz_49 (iv_k (by decide) : iv 0 0 0) (by decide)
                        exact hj162 h_12 (by have := i32_0; have := i32_1; have := i32_2; have := i32_m1; have := (h_12).1; have := (h_12).2; have := (hz_13).1; have := (hz_13).2; have := (hz_17).1; have := (hz_17).2; have := (hz_21).1; have := (hz_21).2; have := (hz_25).1; have := (hz_25).2; have := (hz_29).1; have := (hz_29).2; have := (hz_33).1; have := (hz_33).2; have := (hz_37).1; have := (hz_37).2; have := (hz_41).1; have := (hz_41).2; have := (hz_45).1; have := (hz_45).2; have := (h_51).1; have := (h_51).2; omega) (by have := i32_0; have := i32_1; have := i32_2; have := i32_m1; have := (h_12).1; have := (h_12).2; have := (hz_13).1; have := (hz_13).2; have := (hz_17).1; have := (hz_17).2; have := (hz_21).1; have := (hz_21).2; have := (hz_25).1; have := (hz_25).2; have := (hz_29).1; have := (hz_29).2; have := (hz_33).1; have := (hz_33).2; have := (hz_37).1; have := (hz_37).2; have := (hz_41).1; have := (hz_41).2; have := (hz_45).1; have := (hz_45).2; have := (h_51).1; have := (h_51).2; omega) _ _ _ hP hD hS (lv_sub hl [0, 1, 2] rfl)
                      · have d_52 : ¬ (z_49 : Int32).toInt = 0 := lv_neT c_50 rfl
                        refine lv_lload_n hx hb dX13_isAllowed_154 rfl (lv_at hl 2 rfl) ?_
                        refine lv_ldc2 (own := RX13) (v := 28259031083541619) hx hb hown (htb _ kw_909) dX13_isAllowed_155 ?_
                        refine W.lcmp hx hb dX13_isAllowed_158 ?_
                        refine lv_topi (fun z_53 ez_53 => ?_)
                        have hz_53 : iv (-1) 1 z_53 := iv_of ez_53 (iv_cmp _ _)
                        have hl_z_53 := lg_tr7 ez_53
                        rw [show (28259031083541619 : Int64).toInt = 28259031083541619 from by decide] at hl_z_53
                        refine lv_if_ne (tgt := 166) hx hb dX13_isAllowed_159 (by decide) (fun c_54 => ?_) (fun c_54 => ?_)
                        · have d_55 : ¬ (z_53 : Int32).toInt = 0 := lv_neT c_54 rfl
                          refine lv_iconst (v := 0) hx hb dX13_isAllowed_166 (by decide) ?_
                          exact hj167 0 h_12 (iv_w (iv_k (by decide) : iv 0 0 0) (by decide)) ((by have hk9 : x.toInt = 3 := (by have := i32_0; have := i32_1; have := i32_2; have := i32_m1; have := (h_12).1; have := (h_12).2; have := (hz_13).1; have := (hz_13).2; have := (hz_17).1; have := (hz_17).2; have := (hz_21).1; have := (hz_21).2; have := (hz_25).1; have := (hz_25).2; have := (hz_29).1; have := (hz_29).2; have := (hz_33).1; have := (hz_33).2; have := (hz_37).1; have := (hz_37).2; have := (hz_41).1; have := (hz_41).2; have := (hz_45).1; have := (hz_45).2; have := (hz_49).1; have := (hz_49).2; have := (hz_53).1; have := (hz_53).2; omega); exact Or.inr ⟨rfl, by unfold ALW; have := i32_0; have := i32_1; have := i32_2; have := i32_m1; have := (h_12).1; have := (h_12).2; have := (hz_13).1; have := (hz_13).2; have := (hz_17).1; have := (hz_17).2; have := (hz_21).1; have := (hz_21).2; have := (hz_25).1; have := (hz_25).2; have := (hz_29).1; have := (hz_29).2; have := (hz_33).1; have := (hz_33).2; have := (hz_37).1; have := (hz_37).2; have := (hz_41).1; have := (hz_41).2; have := (hz_45).1; have := (hz_45).2; have := (hz_49).1; have := (hz_49).2; have := (hz_53).1; have := (hz_53).2; omega⟩)) _ _ _ hP hD hS (lv_sub hl [0, 1, 2] rfl)
                        · have h_56 : iv 0 0 z_53 := iv_eq c_54 hz_53 (iv_k (by decide) : iv 0 0 0) (by decide)
                          exact hj162 h_12 (by have := i32_0; have := i32_1; have := i32_2; have := i32_m1; have := (h_12).1; have := (h_12).2; have := (hz_13).1; have := (hz_13).2; have := (hz_17).1; have := (hz_17).2; have := (hz_21).1; have := (hz_21).2; have := (hz_25).1; have := (hz_25).2; have := (hz_29).1; have := (hz_29).2; have := (hz_33).1; have := (hz_33).2; have := (hz_37).1; have := (hz_37).2; have := (hz_41).1; have := (hz_41).2; have := (hz_45).1; have := (hz_45).2; have := (hz_49).1; have := (hz_49).2; have := (h_56).1; have := (h_56).2; omega) (by have := i32_0; have := i32_1; have := i32_2; have := i32_m1; have := (h_12).1; have := (h_12).2; have := (hz_13).1; have := (hz_13).2; have := (hz_17).1; have := (hz_17).2; have := (hz_21).1; have := (hz_21).2; have := (hz_25).1; have := (hz_25).2; have := (hz_29).1; have := (hz_29).2; have := (hz_33).1; have := (hz_33).2; have := (hz_37).1; have := (hz_37).2; have := (hz_41).1; have := (hz_41).2; have := (hz_45).1; have := (hz_45).2; have := (hz_49).1; have := (hz_49).2; have := (h_56).1; have := (h_56).2; omega) _ _ _ hP hD hS (lv_sub hl [0, 1, 2] rfl)
  by_cases c_57 : (x : Int32).toInt = 4
  · refine lv_tableIn (tgt := 168) hx hb dX13_isAllowed_1 (by rw [c_57]; decide) (by rw [c_57]; decide) (by rw [c_57]; rfl) (by decide) ?_
    have h_58 : iv 4 4 x := iv_at c_57
    refine lv_lload_n hx hb dX13_isAllowed_168 rfl (lv_at hl 2 rfl) ?_
    refine lv_ldc2 (own := RX13) (v := 24948) hx hb hown (htb _ kw_889) dX13_isAllowed_169 ?_
    refine W.lcmp hx hb dX13_isAllowed_172 ?_
    refine lv_topi (fun z_59 ez_59 => ?_)
    have hz_59 : iv (-1) 1 z_59 := iv_of ez_59 (iv_cmp _ _)
    have hl_z_59 := lg_tr7 ez_59
    rw [show (24948 : Int64).toInt = 24948 from by decide] at hl_z_59
    refine lv_if_eq (tgt := 200) hx hb dX13_isAllowed_173 (by decide) (fun c_60 => ?_) (fun c_60 => ?_)
    · have h_61 : iv 0 0 z_59 := iv_eq c_60 hz_59 (iv_k (by decide) : iv 0 0 0) (by decide)
      exact hj200 h_58 (by have := i32_0; have := i32_1; have := i32_2; have := i32_m1; have := (h_58).1; have := (h_58).2; have := (h_61).1; have := (h_61).2; omega) (by have := i32_0; have := i32_1; have := i32_2; have := i32_m1; have := (h_58).1; have := (h_58).2; have := (h_61).1; have := (h_61).2; omega) _ _ _ hP hD hS (lv_sub hl [0, 1, 2] rfl)
    · have d_62 : ¬ (z_59 : Int32).toInt = 0 := lv_neT c_60 rfl
      refine lv_lload_n hx hb dX13_isAllowed_176 rfl (lv_at hl 2 rfl) ?_
      refine lv_ldc2 (own := RX13) (v := 1954115685) hx hb hown (htb _ kw_892) dX13_isAllowed_177 ?_
      refine W.lcmp hx hb dX13_isAllowed_180 ?_
      refine lv_topi (fun z_63 ez_63 => ?_)
      have hz_63 : iv (-1) 1 z_63 := iv_of ez_63 (iv_cmp _ _)
      have hl_z_63 := lg_tr7 ez_63
      rw [show (1954115685 : Int64).toInt = 1954115685 from by decide] at hl_z_63
      refine lv_if_eq (tgt := 200) hx hb dX13_isAllowed_181 (by decide) (fun c_64 => ?_) (fun c_64 => ?_)
      · have h_65 : iv 0 0 z_63 := iv_eq c_64 hz_63 (iv_k (by decide) : iv 0 0 0) (by decide)
        exact hj200 h_58 (by have := i32_0; have := i32_1; have := i32_2; have := i32_m1; have := (h_58).1; have := (h_58).2; have := (hz_59).1; have := (hz_59).2; have := (h_65).1; have := (h_65).2; omega) (by have := i32_0; have := i32_1; have := i32_2; have := i32_m1; have := (h_58).1; have := (h_58).2; have := (hz_59).1; have := (hz_59).2; have := (h_65).1; have := (h_65).2; omega) _ _ _ hP hD hS (lv_sub hl [0, 1, 2] rfl)
      · have d_66 : ¬ (z_63 : Int32).toInt = 0 := lv_neT c_64 rfl
        refine lv_lload_n hx hb dX13_isAllowed_184 rfl (lv_at hl 2 rfl) ?_
        refine lv_ldc2 (own := RX13) (v := 508440638821) hx hb hown (htb _ kw_140) dX13_isAllowed_185 ?_
        refine W.lcmp hx hb dX13_isAllowed_188 ?_
        refine lv_topi (fun z_67 ez_67 => ?_)
        have hz_67 : iv (-1) 1 z_67 := iv_of ez_67 (iv_cmp _ _)
        have hl_z_67 := lg_tr7 ez_67
        rw [show (508440638821 : Int64).toInt = 508440638821 from by decide] at hl_z_67
        refine lv_if_eq (tgt := 200) hx hb dX13_isAllowed_189 (by decide) (fun c_68 => ?_) (fun c_68 => ?_)
        · have h_69 : iv 0 0 z_67 := iv_eq c_68 hz_67 (iv_k (by decide) : iv 0 0 0) (by decide)
          exact hj200 h_58 (by have := i32_0; have := i32_1; have := i32_2; have := i32_m1; have := (h_58).1; have := (h_58).2; have := (hz_59).1; have := (hz_59).2; have := (hz_63).1; have := (hz_63).2; have := (h_69).1; have := (h_69).2; omega) (by have := i32_0; have := i32_1; have := i32_2; have := i32_m1; have := (h_58).1; have := (h_58).2; have := (hz_59).1; have := (hz_59).2; have := (hz_63).1; have := (hz_63).2; have := (h_69).1; have := (h_69).2; omega) _ _ _ hP hD hS (lv_sub hl [0, 1, 2] rfl)
        · have d_70 : ¬ (z_67 : Int32).toInt = 0 := lv_neT c_68 rfl
          refine lv_lload_n hx hb dX13_isAllowed_192 rfl (lv_at hl 2 rfl) ?_
          refine lv_ldc2 (own := RX13) (v := 7497062) hx hb hown (htb _ kw_141) dX13_isAllowed_193 ?_
          refine W.lcmp hx hb dX13_isAllowed_196 ?_
          refine lv_topi (fun z_71 ez_71 => ?_)
          have hz_71 : iv (-1) 1 z_71 := iv_of ez_71 (iv_cmp _ _)
          have hl_z_71 := lg_tr7 ez_71
          rw [show (7497062 : Int64).toInt = 7497062 from by decide] at hl_z_71
          refine lv_if_ne (tgt := 204) hx hb dX13_isAllowed_197 (by decide) (fun c_72 => ?_) (fun c_72 => ?_)
          · have d_73 : ¬ (z_71 : Int32).toInt = 0 := lv_neT c_72 rfl
            refine lv_iconst (v := 0) hx hb dX13_isAllowed_204 (by decide) ?_
            exact hj205 0 h_58 (iv_w (iv_k (by decide) : iv 0 0 0) (by decide)) ((by have hk9 : x.toInt = 4 := (by have := i32_0; have := i32_1; have := i32_2; have := i32_m1; have := (h_58).1; have := (h_58).2; have := (hz_59).1; have := (hz_59).2; have := (hz_63).1; have := (hz_63).2; have := (hz_67).1; have := (hz_67).2; have := (hz_71).1; have := (hz_71).2; omega); exact Or.inr ⟨rfl, by unfold ALW; have := i32_0; have := i32_1; have := i32_2; have := i32_m1; have := (h_58).1; have := (h_58).2; have := (hz_59).1; have := (hz_59).2; have := (hz_63).1; have := (hz_63).2; have := (hz_67).1; have := (hz_67).2; have := (hz_71).1; have := (hz_71).2; omega⟩)) _ _ _ hP hD hS (lv_sub hl [0, 1, 2] rfl)
          · have h_74 : iv 0 0 z_71 := iv_eq c_72 hz_71 (iv_k (by decide) : iv 0 0 0) (by decide)
            exact hj200 h_58 (by have := i32_0; have := i32_1; have := i32_2; have := i32_m1; have := (h_58).1; have := (h_58).2; have := (hz_59).1; have := (hz_59).2; have := (hz_63).1; have := (hz_63).2; have := (hz_67).1; have := (hz_67).2; have := (h_74).1; have := (h_74).2; omega) (by have := i32_0; have := i32_1; have := i32_2; have := i32_m1; have := (h_58).1; have := (h_58).2; have := (hz_59).1; have := (hz_59).2; have := (hz_63).1; have := (hz_63).2; have := (hz_67).1; have := (hz_67).2; have := (h_74).1; have := (h_74).2; omega) _ _ _ hP hD hS (lv_sub hl [0, 1, 2] rfl)
  by_cases c_75 : (x : Int32).toInt = 5
  · refine lv_tableIn (tgt := 206) hx hb dX13_isAllowed_1 (by rw [c_75]; decide) (by rw [c_75]; decide) (by rw [c_75]; rfl) (by decide) ?_
    have h_76 : iv 5 5 x := iv_at c_75
    refine lv_lload_n hx hb dX13_isAllowed_206 rfl (lv_at hl 2 rfl) ?_
    refine lv_ldc2 (own := RX13) (v := 1851878757) hx hb hown (htb _ kw_887) dX13_isAllowed_207 ?_
    refine W.lcmp hx hb dX13_isAllowed_210 ?_
    refine lv_topi (fun z_77 ez_77 => ?_)
    have hz_77 : iv (-1) 1 z_77 := iv_of ez_77 (iv_cmp _ _)
    have hl_z_77 := lg_tr7 ez_77
    rw [show (1851878757 : Int64).toInt = 1851878757 from by decide] at hl_z_77
    refine lv_if_eq (tgt := 230) hx hb dX13_isAllowed_211 (by decide) (fun c_78 => ?_) (fun c_78 => ?_)
    · have h_79 : iv 0 0 z_77 := iv_eq c_78 hz_77 (iv_k (by decide) : iv 0 0 0) (by decide)
      exact hj230 h_76 (by have := i32_0; have := i32_1; have := i32_2; have := i32_m1; have := (h_76).1; have := (h_76).2; have := (h_79).1; have := (h_79).2; omega) (by have := i32_0; have := i32_1; have := i32_2; have := i32_m1; have := (h_76).1; have := (h_76).2; have := (h_79).1; have := (h_79).2; omega) _ _ _ hP hD hS (lv_sub hl [0, 1, 2] rfl)
    · have d_80 : ¬ (z_77 : Int32).toInt = 0 := lv_neT c_78 rfl
      refine lv_lload_n hx hb dX13_isAllowed_214 rfl (lv_at hl 2 rfl) ?_
      refine lv_ldc2 (own := RX13) (v := 508440638821) hx hb hown (htb _ kw_140) dX13_isAllowed_215 ?_
      refine W.lcmp hx hb dX13_isAllowed_218 ?_
      refine lv_topi (fun z_81 ez_81 => ?_)
      have hz_81 : iv (-1) 1 z_81 := iv_of ez_81 (iv_cmp _ _)
      have hl_z_81 := lg_tr7 ez_81
      rw [show (508440638821 : Int64).toInt = 508440638821 from by decide] at hl_z_81
      refine lv_if_eq (tgt := 230) hx hb dX13_isAllowed_219 (by decide) (fun c_82 => ?_) (fun c_82 => ?_)
      · have h_83 : iv 0 0 z_81 := iv_eq c_82 hz_81 (iv_k (by decide) : iv 0 0 0) (by decide)
        exact hj230 h_76 (by have := i32_0; have := i32_1; have := i32_2; have := i32_m1; have := (h_76).1; have := (h_76).2; have := (hz_77).1; have := (hz_77).2; have := (h_83).1; have := (h_83).2; omega) (by have := i32_0; have := i32_1; have := i32_2; have := i32_m1; have := (h_76).1; have := (h_76).2; have := (hz_77).1; have := (hz_77).2; have := (h_83).1; have := (h_83).2; omega) _ _ _ hP hD hS (lv_sub hl [0, 1, 2] rfl)
      · have d_84 : ¬ (z_81 : Int32).toInt = 0 := lv_neT c_82 rfl
        refine lv_lload_n hx hb dX13_isAllowed_222 rfl (lv_at hl 2 rfl) ?_
        refine lv_ldc2 (own := RX13) (v := 7497062) hx hb hown (htb _ kw_141) dX13_isAllowed_223 ?_
        refine W.lcmp hx hb dX13_isAllowed_226 ?_
        refine lv_topi (fun z_85 ez_85 => ?_)
        have hz_85 : iv (-1) 1 z_85 := iv_of ez_85 (iv_cmp _ _)
        have hl_z_85 := lg_tr7 ez_85
        rw [show (7497062 : Int64).toInt = 7497062 from by decide] at hl_z_85
        refine lv_if_ne (tgt := 234) hx hb dX13_isAllowed_227 (by decide) (fun c_86 => ?_) (fun c_86 => ?_)
        · have d_87 : ¬ (z_85 : Int32).toInt = 0 := lv_neT c_86 rfl
          refine lv_iconst (v := 0) hx hb dX13_isAllowed_234 (by decide) ?_
          exact hj235 0 h_76 (iv_w (iv_k (by decide) : iv 0 0 0) (by decide)) ((by have hk9 : x.toInt = 5 := (by have := i32_0; have := i32_1; have := i32_2; have := i32_m1; have := (h_76).1; have := (h_76).2; have := (hz_77).1; have := (hz_77).2; have := (hz_81).1; have := (hz_81).2; have := (hz_85).1; have := (hz_85).2; omega); exact Or.inr ⟨rfl, by unfold ALW; have := i32_0; have := i32_1; have := i32_2; have := i32_m1; have := (h_76).1; have := (h_76).2; have := (hz_77).1; have := (hz_77).2; have := (hz_81).1; have := (hz_81).2; have := (hz_85).1; have := (hz_85).2; omega⟩)) _ _ _ hP hD hS (lv_sub hl [0, 1, 2] rfl)
        · have h_88 : iv 0 0 z_85 := iv_eq c_86 hz_85 (iv_k (by decide) : iv 0 0 0) (by decide)
          exact hj230 h_76 (by have := i32_0; have := i32_1; have := i32_2; have := i32_m1; have := (h_76).1; have := (h_76).2; have := (hz_77).1; have := (hz_77).2; have := (hz_81).1; have := (hz_81).2; have := (h_88).1; have := (h_88).2; omega) (by have := i32_0; have := i32_1; have := i32_2; have := i32_m1; have := (h_76).1; have := (h_76).2; have := (hz_77).1; have := (hz_77).2; have := (hz_81).1; have := (hz_81).2; have := (h_88).1; have := (h_88).2; omega) _ _ _ hP hD hS (lv_sub hl [0, 1, 2] rfl)
  by_cases c_89 : (x : Int32).toInt = 6
  · refine lv_tableIn (tgt := 272) hx hb dX13_isAllowed_1 (by rw [c_89]; decide) (by rw [c_89]; decide) (by rw [c_89]; rfl) (by decide) ?_
    have h_90 : iv 6 6 x := iv_at c_89
    exact hj272 ((by unfold ALW; have := i32_0; have := i32_1; have := i32_2; have := i32_m1; have := (h_90).1; have := (h_90).2; omega)) _ _ _ hP hD hS (lv_sub hl [0, 1, 2] rfl)
  by_cases c_91 : (x : Int32).toInt = 7
  · refine lv_tableIn (tgt := 272) hx hb dX13_isAllowed_1 (by rw [c_91]; decide) (by rw [c_91]; decide) (by rw [c_91]; rfl) (by decide) ?_
    have h_92 : iv 7 7 x := iv_at c_91
    exact hj272 ((by unfold ALW; have := i32_0; have := i32_1; have := i32_2; have := i32_m1; have := (h_92).1; have := (h_92).2; omega)) _ _ _ hP hD hS (lv_sub hl [0, 1, 2] rfl)
  by_cases c_93 : (x : Int32).toInt = 8
  · refine lv_tableIn (tgt := 236) hx hb dX13_isAllowed_1 (by rw [c_93]; decide) (by rw [c_93]; decide) (by rw [c_93]; rfl) (by decide) ?_
    have h_94 : iv 8 8 x := iv_at c_93
    refine lv_lload_n hx hb dX13_isAllowed_236 rfl (lv_at hl 2 rfl) ?_
    refine lv_ldc2 (own := RX13) (v := 1650811246) hx hb hown (htb _ kw_136) dX13_isAllowed_237 ?_
    refine W.lcmp hx hb dX13_isAllowed_240 ?_
    refine lv_topi (fun z_95 ez_95 => ?_)
    have hz_95 : iv (-1) 1 z_95 := iv_of ez_95 (iv_cmp _ _)
    have hl_z_95 := lg_tr7 ez_95
    rw [show (1650811246 : Int64).toInt = 1650811246 from by decide] at hl_z_95
    refine lv_if_ne (tgt := 248) hx hb dX13_isAllowed_241 (by decide) (fun c_96 => ?_) (fun c_96 => ?_)
    · have d_97 : ¬ (z_95 : Int32).toInt = 0 := lv_neT c_96 rfl
      refine lv_iconst (v := 0) hx hb dX13_isAllowed_248 (by decide) ?_
      exact hj249 0 h_94 (iv_w (iv_k (by decide) : iv 0 0 0) (by decide)) ((by have hk9 : x.toInt = 8 := (by have := i32_0; have := i32_1; have := i32_2; have := i32_m1; have := (h_94).1; have := (h_94).2; have := (hz_95).1; have := (hz_95).2; omega); exact Or.inr ⟨rfl, by unfold ALW; have := i32_0; have := i32_1; have := i32_2; have := i32_m1; have := (h_94).1; have := (h_94).2; have := (hz_95).1; have := (hz_95).2; omega⟩)) _ _ _ hP hD hS (lv_sub hl [0, 1, 2] rfl)
    · have h_98 : iv 0 0 z_95 := iv_eq c_96 hz_95 (iv_k (by decide) : iv 0 0 0) (by decide)
      refine lv_iconst (v := 1) hx hb dX13_isAllowed_244 (by decide) ?_
      refine lv_goto (tgt := 249) hx hb dX13_isAllowed_245 (by decide) ?_
      exact hj249 1 h_94 (iv_w (iv_k (by decide) : iv 1 1 1) (by decide)) ((by have hk9 : x.toInt = 8 := (by have := i32_0; have := i32_1; have := i32_2; have := i32_m1; have := (h_94).1; have := (h_94).2; have := (h_98).1; have := (h_98).2; omega); exact Or.inl ⟨rfl, Or.inr (Or.inr (Or.inr (Or.inr (Or.inl ⟨hk9, (by have := i32_0; have := i32_1; have := i32_2; have := i32_m1; have := (h_94).1; have := (h_94).2; have := (h_98).1; have := (h_98).2; omega)⟩))))⟩)) _ _ _ hP hD hS (lv_sub hl [0, 1, 2] rfl)
  by_cases c_99 : (x : Int32).toInt = 9
  · refine lv_tableIn (tgt := 272) hx hb dX13_isAllowed_1 (by rw [c_99]; decide) (by rw [c_99]; decide) (by rw [c_99]; rfl) (by decide) ?_
    have h_100 : iv 9 9 x := iv_at c_99
    exact hj272 ((by unfold ALW; have := i32_0; have := i32_1; have := i32_2; have := i32_m1; have := (h_100).1; have := (h_100).2; omega)) _ _ _ hP hD hS (lv_sub hl [0, 1, 2] rfl)
  by_cases c_101 : (x : Int32).toInt = 10
  · refine lv_tableIn (tgt := 250) hx hb dX13_isAllowed_1 (by rw [c_101]; decide) (by rw [c_101]; decide) (by rw [c_101]; rfl) (by decide) ?_
    have h_102 : iv 10 10 x := iv_at c_101
    refine lv_lload_n hx hb dX13_isAllowed_250 rfl (lv_at hl 2 rfl) ?_
    refine lv_ldc2 (own := RX13) (v := 1851878757) hx hb hown (htb _ kw_887) dX13_isAllowed_251 ?_
    refine W.lcmp hx hb dX13_isAllowed_254 ?_
    refine lv_topi (fun z_103 ez_103 => ?_)
    have hz_103 : iv (-1) 1 z_103 := iv_of ez_103 (iv_cmp _ _)
    have hl_z_103 := lg_tr7 ez_103
    rw [show (1851878757 : Int64).toInt = 1851878757 from by decide] at hl_z_103
    refine lv_if_eq (tgt := 266) hx hb dX13_isAllowed_255 (by decide) (fun c_104 => ?_) (fun c_104 => ?_)
    · have h_105 : iv 0 0 z_103 := iv_eq c_104 hz_103 (iv_k (by decide) : iv 0 0 0) (by decide)
      exact hj266 h_102 (by have := i32_0; have := i32_1; have := i32_2; have := i32_m1; have := (h_102).1; have := (h_102).2; have := (h_105).1; have := (h_105).2; omega) (by have := i32_0; have := i32_1; have := i32_2; have := i32_m1; have := (h_102).1; have := (h_102).2; have := (h_105).1; have := (h_105).2; omega) _ _ _ hP hD hS (lv_sub hl [0, 1, 2] rfl)
    · have d_106 : ¬ (z_103 : Int32).toInt = 0 := lv_neT c_104 rfl
      refine lv_lload_n hx hb dX13_isAllowed_258 rfl (lv_at hl 2 rfl) ?_
      refine lv_ldc2 (own := RX13) (v := 1650811246) hx hb hown (htb _ kw_136) dX13_isAllowed_259 ?_
      refine W.lcmp hx hb dX13_isAllowed_262 ?_
      refine lv_topi (fun z_107 ez_107 => ?_)
      have hz_107 : iv (-1) 1 z_107 := iv_of ez_107 (iv_cmp _ _)
      have hl_z_107 := lg_tr7 ez_107
      rw [show (1650811246 : Int64).toInt = 1650811246 from by decide] at hl_z_107
      refine lv_if_ne (tgt := 270) hx hb dX13_isAllowed_263 (by decide) (fun c_108 => ?_) (fun c_108 => ?_)
      · have d_109 : ¬ (z_107 : Int32).toInt = 0 := lv_neT c_108 rfl
        refine lv_iconst (v := 0) hx hb dX13_isAllowed_270 (by decide) ?_
        exact hj271 0 h_102 (iv_w (iv_k (by decide) : iv 0 0 0) (by decide)) ((by have hk9 : x.toInt = 10 := (by have := i32_0; have := i32_1; have := i32_2; have := i32_m1; have := (h_102).1; have := (h_102).2; have := (hz_103).1; have := (hz_103).2; have := (hz_107).1; have := (hz_107).2; omega); exact Or.inr ⟨rfl, by unfold ALW; have := i32_0; have := i32_1; have := i32_2; have := i32_m1; have := (h_102).1; have := (h_102).2; have := (hz_103).1; have := (hz_103).2; have := (hz_107).1; have := (hz_107).2; omega⟩)) _ _ _ hP hD hS (lv_sub hl [0, 1, 2] rfl)
      · have h_110 : iv 0 0 z_107 := iv_eq c_108 hz_107 (iv_k (by decide) : iv 0 0 0) (by decide)
        exact hj266 h_102 (by have := i32_0; have := i32_1; have := i32_2; have := i32_m1; have := (h_102).1; have := (h_102).2; have := (hz_103).1; have := (hz_103).2; have := (h_110).1; have := (h_110).2; omega) (by have := i32_0; have := i32_1; have := i32_2; have := i32_m1; have := (h_102).1; have := (h_102).2; have := (hz_103).1; have := (hz_103).2; have := (h_110).1; have := (h_110).2; omega) _ _ _ hP hD hS (lv_sub hl [0, 1, 2] rfl)
  refine lv_tableOut (tgt := 272) hx hb dX13_isAllowed_1 (by have q1 := ((iv_all x)).1; have q2 := ((iv_all x)).2; omega) (by decide) ?_
  exact hj272 ((by unfold ALW; have := i32_0; have := i32_1; have := i32_2; have := i32_m1; omega)) _ _ _ hP hD hS (lv_sub hl [0, 1, 2] rfl)
end
section
/-- the kind of what an element stands in, 0 if it stands in nothing -/
def abk (g : Nat → Nat → Int32) (x : Nat) : Int := if (g 28 x).toInt = -1 then 0 else (g 26 (g 28 x).toNatClampNeg).toInt
theorem abk_0 {g : Nat → Nat → Int32} {x : Nat} (h : (g 28 x).toInt = -1) : abk g x = 0 := if_pos h
theorem abk_1 {g : Nat → Nat → Int32} {x : Nat} (h : ¬ (g 28 x).toInt = -1) : abk g x = (g 26 (g 28 x).toNatClampNeg).toInt := if_neg h
/-- what kind stands in what kind -/
def INP7 (k a : Int) : Prop := (k = 1 ∧ a = 0) ∨ (k = 2 ∧ a = 1) ∨ (k = 3 ∧ (a = 1 ∨ a = 4 ∨ a = 5 ∨ a = 6)) ∨ ((k = 4 ∨ k = 5 ∨ k = 10) ∧ a = 3) ∨ (k = 6 ∧ (a = 4 ∨ a = 5)) ∨ ((k = 7 ∨ k = 8 ∨ k = 9) ∧ (a = 4 ∨ a = 5 ∨ a = 6))

set_option maxHeartbeats 4000000 in
set_option maxRecDepth 100000 in
theorem f_isInPlace2 (l : Launch) (dC : Nat → ClassId) (dI : Nat → Nat → Nat) (h0 : Nat) (ad : Nat → Nat) (cid : Nat → ClassId) (sg : Nat → Int32) (gm : Nat → Nat → Int32) (lg : Nat → Nat → Int64) (x : Int32) (hI : MI sg gm) (hvx : iv 0 79 x) : MMi l dC dI yX13_isInPlace wm_X13_isInPlace ({ frames := 0, cells := 0, slots := 0, locals := 0 }) h0 ad cid [.int x] sg gm lg (fun r v => (iv 0 1 r) ∧ ((r.toInt = 1 ∧ (INP7 ((gm 26 x.toNatClampNeg).toInt) (abk gm x.toNatClampNeg))) ∨ (r.toInt = 0 ∧ ¬ (INP7 ((gm 26 x.toNatClampNeg).toInt) (abk gm x.toNatClampNeg)))) ∧ v = (sg, gm, lg)) := by
  intro sz
  refine Met.ofW (cc := cX13_isInPlace) (maxL := 3) (ret := (some .boolean)) (by decide) rfl ?_
  intro p e s m args below meth c s₁ B hml hv
  obtain ⟨rfl, hsz, hP, hK, hD0⟩ := hv
  have hx := B.exec
  have hb := B.bytes
  have hr := B.returns
  have hts := atoms_spec (ws := wm_X13_isInPlace) B.pre
  have htb := fun (w : Cond) (h : w ∈ tb) => hts w (List.mem_cons_of_mem _ h)
  have hown : s.vm.findClass RX13 = some m.cls := findClass_of_methodNamed B.named
  have hlocks := B.notSynchronized
  subst hsz
  have hD := hD0.self (sz := s.heap.size)
  generalize hAe : va_A (mW h0 ad cid sg gm lg) s.heap.size = A at hD ⊢
  have hA : ∀ q : Nat, s.heap.size ≤ q → A q := fun q h => by rw [← hAe]; exact Or.inr h
  have hS : va_S A s.heap s.heap [] := va_S.rf
  have hl := lv_entry ([.ref h0, .int x]) (n := 3) (Nat.le_of_ble_eq_true rfl)
  rw [lg_entry_eq]
  generalize (lg_sl ([.ref h0, .int x]) ++ List.replicate (3 - (lg_sl ([.ref h0, .int x])).length) Slot.unset).toArray = ls at hl ⊢
  have hl : lv_has ls 3 [(0, .ref h0), (1, .int x)] := hl
  have hj97 : ∀ (x2_97 : Int32) (y0_97 : Int32) (_ : iv 0 10 x2_97) (_ : iv 0 79 x) (_ : iv 0 1 y0_97) (_ : (y0_97.toInt = 1 ∧ (INP7 ((gm 26 x.toNatClampNeg).toInt) (abk gm x.toNatClampNeg))) ∨ (y0_97.toInt = 0 ∧ ¬ (INP7 ((gm 26 x.toNatClampNeg).toInt) (abk gm x.toNatClampNeg)))) (H : Heap) (locs : List Loc) (ls : Array Slot), va_P (dC, dI) vwCl (mW h0 ad cid sg gm lg) H → va_D A (mW h0 ad cid sg gm lg) → va_S A s.heap H locs → lv_has ls 3 [(2, .int x2_97), (0, .ref h0), (1, .int x)] → W p l e (headSpec wm_X13_isInPlace ({ frames := 0, cells := 0, slots := 0, locals := 0 })).room s m ([.ref h0, .int x] : List Value).toArray below meth c H locs 0 0 (MQ below (va_Qi (fun r v => (iv 0 1 r) ∧ ((r.toInt = 1 ∧ (INP7 ((gm 26 x.toNatClampNeg).toInt) (abk gm x.toNatClampNeg))) ∨ (r.toInt = 0 ∧ ¬ (INP7 ((gm 26 x.toNatClampNeg).toInt) (abk gm x.toNatClampNeg)))) ∧ v = (sg, gm, lg)) (MB dC dI h0 ad cid A) A) ([.ref h0, .int x] : List Value).toArray s 0 0 A) (F0 m 97 ls [.int y0_97]) := by
    intro x2_97 y0_97 hx2_97 hsx1_97 hy0_97 u97 H locs ls hP hD hS hl
    exact W.zret (v := y0_97) hx hb hr (iv_nb hy0_97) (fun t ht hW => ⟨⟨y0_97, (sg, gm, lg), rfl, ⟨hy0_97, (u97), rfl⟩, by rw [ht]; exact hP, va_K.moved hW.alike hK, hD⟩, hS.F ht⟩) hS.2.2 dX13_isInPlace_97
  have hj108 : ∀ (x2_108 : Int32) (y0_108 : Int32) (_ : iv 0 10 x2_108) (_ : iv 0 79 x) (_ : iv 0 1 y0_108) (_ : (y0_108.toInt = 1 ∧ (INP7 ((gm 26 x.toNatClampNeg).toInt) (abk gm x.toNatClampNeg))) ∨ (y0_108.toInt = 0 ∧ ¬ (INP7 ((gm 26 x.toNatClampNeg).toInt) (abk gm x.toNatClampNeg)))) (H : Heap) (locs : List Loc) (ls : Array Slot), va_P (dC, dI) vwCl (mW h0 ad cid sg gm lg) H → va_D A (mW h0 ad cid sg gm lg) → va_S A s.heap H locs → lv_has ls 3 [(2, .int x2_108), (0, .ref h0), (1, .int x)] → W p l e (headSpec wm_X13_isInPlace ({ frames := 0, cells := 0, slots := 0, locals := 0 })).room s m ([.ref h0, .int x] : List Value).toArray below meth c H locs 0 0 (MQ below (va_Qi (fun r v => (iv 0 1 r) ∧ ((r.toInt = 1 ∧ (INP7 ((gm 26 x.toNatClampNeg).toInt) (abk gm x.toNatClampNeg))) ∨ (r.toInt = 0 ∧ ¬ (INP7 ((gm 26 x.toNatClampNeg).toInt) (abk gm x.toNatClampNeg)))) ∧ v = (sg, gm, lg)) (MB dC dI h0 ad cid A) A) ([.ref h0, .int x] : List Value).toArray s 0 0 A) (F0 m 108 ls [.int y0_108]) := by
    intro x2_108 y0_108 hx2_108 hsx1_108 hy0_108 u108 H locs ls hP hD hS hl
    exact W.zret (v := y0_108) hx hb hr (iv_nb hy0_108) (fun t ht hW => ⟨⟨y0_108, (sg, gm, lg), rfl, ⟨hy0_108, (u108), rfl⟩, by rw [ht]; exact hP, va_K.moved hW.alike hK, hD⟩, hS.F ht⟩) hS.2.2 dX13_isInPlace_108
  have hj135 : ∀ (x2_135 : Int32) (y0_135 : Int32) (_ : iv 0 10 x2_135) (_ : iv 0 79 x) (_ : iv 0 1 y0_135) (_ : (y0_135.toInt = 1 ∧ (INP7 ((gm 26 x.toNatClampNeg).toInt) (abk gm x.toNatClampNeg))) ∨ (y0_135.toInt = 0 ∧ ¬ (INP7 ((gm 26 x.toNatClampNeg).toInt) (abk gm x.toNatClampNeg)))) (H : Heap) (locs : List Loc) (ls : Array Slot), va_P (dC, dI) vwCl (mW h0 ad cid sg gm lg) H → va_D A (mW h0 ad cid sg gm lg) → va_S A s.heap H locs → lv_has ls 3 [(2, .int x2_135), (0, .ref h0), (1, .int x)] → W p l e (headSpec wm_X13_isInPlace ({ frames := 0, cells := 0, slots := 0, locals := 0 })).room s m ([.ref h0, .int x] : List Value).toArray below meth c H locs 0 0 (MQ below (va_Qi (fun r v => (iv 0 1 r) ∧ ((r.toInt = 1 ∧ (INP7 ((gm 26 x.toNatClampNeg).toInt) (abk gm x.toNatClampNeg))) ∨ (r.toInt = 0 ∧ ¬ (INP7 ((gm 26 x.toNatClampNeg).toInt) (abk gm x.toNatClampNeg)))) ∧ v = (sg, gm, lg)) (MB dC dI h0 ad cid A) A) ([.ref h0, .int x] : List Value).toArray s 0 0 A) (F0 m 135 ls [.int y0_135]) := by
    intro x2_135 y0_135 hx2_135 hsx1_135 hy0_135 u135 H locs ls hP hD hS hl
    exact W.zret (v := y0_135) hx hb hr (iv_nb hy0_135) (fun t ht hW => ⟨⟨y0_135, (sg, gm, lg), rfl, ⟨hy0_135, (u135), rfl⟩, by rw [ht]; exact hP, va_K.moved hW.alike hK, hD⟩, hS.F ht⟩) hS.2.2 dX13_isInPlace_135
  have hj130 : ∀ (x2_130 : Int32) (_ : iv 1 6 x2_130) (_ : iv 0 79 x) (_ : INP7 ((gm 26 x.toNatClampNeg).toInt) (abk gm x.toNatClampNeg)) (H : Heap) (locs : List Loc) (ls : Array Slot), va_P (dC, dI) vwCl (mW h0 ad cid sg gm lg) H → va_D A (mW h0 ad cid sg gm lg) → va_S A s.heap H locs → lv_has ls 3 [(2, .int x2_130), (0, .ref h0), (1, .int x)] → W p l e (headSpec wm_X13_isInPlace ({ frames := 0, cells := 0, slots := 0, locals := 0 })).room s m ([.ref h0, .int x] : List Value).toArray below meth c H locs 0 0 (MQ below (va_Qi (fun r v => (iv 0 1 r) ∧ ((r.toInt = 1 ∧ (INP7 ((gm 26 x.toNatClampNeg).toInt) (abk gm x.toNatClampNeg))) ∨ (r.toInt = 0 ∧ ¬ (INP7 ((gm 26 x.toNatClampNeg).toInt) (abk gm x.toNatClampNeg)))) ∧ v = (sg, gm, lg)) (MB dC dI h0 ad cid A) A) ([.ref h0, .int x] : List Value).toArray s 0 0 A) (F0 m 130 ls []) := by
    intro x2_130 hx2_130 hsx1_130 u130 H locs ls hP hD hS hl
    refine lv_iconst (v := 1) hx hb dX13_isInPlace_130 (by decide) ?_
    refine lv_goto (tgt := 135) hx hb dX13_isInPlace_131 (by decide) ?_
    exact hj135 x2_130 1 (iv_w hx2_130 (by decide)) hsx1_130 (iv_w (iv_k (by decide) : iv 1 1 1) (by decide)) (Or.inl ⟨rfl, u130⟩) _ _ _ hP hD hS (lv_sub hl [0, 1, 2] rfl)
  have hj146 : ∀ (x2_146 : Int32) (y0_146 : Int32) (_ : iv 0 10 x2_146) (_ : iv 0 79 x) (_ : iv 0 1 y0_146) (_ : (y0_146.toInt = 1 ∧ (INP7 ((gm 26 x.toNatClampNeg).toInt) (abk gm x.toNatClampNeg))) ∨ (y0_146.toInt = 0 ∧ ¬ (INP7 ((gm 26 x.toNatClampNeg).toInt) (abk gm x.toNatClampNeg)))) (H : Heap) (locs : List Loc) (ls : Array Slot), va_P (dC, dI) vwCl (mW h0 ad cid sg gm lg) H → va_D A (mW h0 ad cid sg gm lg) → va_S A s.heap H locs → lv_has ls 3 [(2, .int x2_146), (0, .ref h0), (1, .int x)] → W p l e (headSpec wm_X13_isInPlace ({ frames := 0, cells := 0, slots := 0, locals := 0 })).room s m ([.ref h0, .int x] : List Value).toArray below meth c H locs 0 0 (MQ below (va_Qi (fun r v => (iv 0 1 r) ∧ ((r.toInt = 1 ∧ (INP7 ((gm 26 x.toNatClampNeg).toInt) (abk gm x.toNatClampNeg))) ∨ (r.toInt = 0 ∧ ¬ (INP7 ((gm 26 x.toNatClampNeg).toInt) (abk gm x.toNatClampNeg)))) ∧ v = (sg, gm, lg)) (MB dC dI h0 ad cid A) A) ([.ref h0, .int x] : List Value).toArray s 0 0 A) (F0 m 146 ls [.int y0_146]) := by
    intro x2_146 y0_146 hx2_146 hsx1_146 hy0_146 u146 H locs ls hP hD hS hl
    exact W.zret (v := y0_146) hx hb hr (iv_nb hy0_146) (fun t ht hW => ⟨⟨y0_146, (sg, gm, lg), rfl, ⟨hy0_146, (u146), rfl⟩, by rw [ht]; exact hP, va_K.moved hW.alike hK, hD⟩, hS.F ht⟩) hS.2.2 dX13_isInPlace_146
  have hj136 : ∀ (x2_136 : Int32) (_ : iv 0 10 x2_136) (_ : iv 0 79 x) (_ : x2_136.toInt = abk gm x.toNatClampNeg) (_ : (gm 26 x.toNatClampNeg).toInt = 4 ∨ (gm 26 x.toNatClampNeg).toInt = 5 ∨ (gm 26 x.toNatClampNeg).toInt = 10) (H : Heap) (locs : List Loc) (ls : Array Slot), va_P (dC, dI) vwCl (mW h0 ad cid sg gm lg) H → va_D A (mW h0 ad cid sg gm lg) → va_S A s.heap H locs → lv_has ls 3 [(2, .int x2_136), (0, .ref h0), (1, .int x)] → W p l e (headSpec wm_X13_isInPlace ({ frames := 0, cells := 0, slots := 0, locals := 0 })).room s m ([.ref h0, .int x] : List Value).toArray below meth c H locs 0 0 (MQ below (va_Qi (fun r v => (iv 0 1 r) ∧ ((r.toInt = 1 ∧ (INP7 ((gm 26 x.toNatClampNeg).toInt) (abk gm x.toNatClampNeg))) ∨ (r.toInt = 0 ∧ ¬ (INP7 ((gm 26 x.toNatClampNeg).toInt) (abk gm x.toNatClampNeg)))) ∧ v = (sg, gm, lg)) (MB dC dI h0 ad cid A) A) ([.ref h0, .int x] : List Value).toArray s 0 0 A) (F0 m 136 ls []) := by
    intro x2_136 hx2_136 hsx1_136 u2 hk H locs ls hP hD hS hl
    refine lv_iload_n hx hb dX13_isInPlace_136 rfl (lv_at hl 0 rfl) ?_
    refine lv_iconst (v := 3) hx hb dX13_isInPlace_137 (by decide) ?_
    refine lv_icmp_ne (tgt := 145) hx hb dX13_isInPlace_138 (by decide) (fun c_1 => ?_) (fun c_1 => ?_)
    · have d_2 : ¬ (x2_136 : Int32).toInt = 3 := lv_neT c_1 rfl
      refine lv_iconst (v := 0) hx hb dX13_isInPlace_145 (by decide) ?_
      exact hj146 x2_136 0 hx2_136 hsx1_136 (iv_w (iv_k (by decide) : iv 0 0 0) (by decide)) (Or.inr ⟨rfl, (by unfold INP7; have := i32_0; have := i32_1; have := i32_2; have := i32_m1; have := (hsx1_136).1; have := (hsx1_136).2; have := (hx2_136).1; have := (hx2_136).2; omega)⟩) _ _ _ hP hD hS (lv_sub hl [0, 1, 2] rfl)
    · have h_3 : iv 3 3 x2_136 := iv_eq c_1 hx2_136 (iv_k (by decide) : iv 3 3 3) (by decide)
      refine lv_iconst (v := 1) hx hb dX13_isInPlace_141 (by decide) ?_
      refine lv_goto (tgt := 146) hx hb dX13_isInPlace_142 (by decide) ?_
      exact hj146 x2_136 1 (iv_w h_3 (by decide)) hsx1_136 (iv_w (iv_k (by decide) : iv 1 1 1) (by decide)) (Or.inl ⟨rfl, (by unfold INP7; have := i32_0; have := i32_1; have := i32_2; have := i32_m1; have := (hsx1_136).1; have := (hsx1_136).2; have := (h_3).1; have := (h_3).2; omega)⟩) _ _ _ hP hD hS (lv_sub hl [0, 1, 2] rfl)
  have hj162 : ∀ (x2_162 : Int32) (y0_162 : Int32) (_ : iv 0 10 x2_162) (_ : iv 0 79 x) (_ : iv 0 1 y0_162) (_ : (y0_162.toInt = 1 ∧ (INP7 ((gm 26 x.toNatClampNeg).toInt) (abk gm x.toNatClampNeg))) ∨ (y0_162.toInt = 0 ∧ ¬ (INP7 ((gm 26 x.toNatClampNeg).toInt) (abk gm x.toNatClampNeg)))) (H : Heap) (locs : List Loc) (ls : Array Slot), va_P (dC, dI) vwCl (mW h0 ad cid sg gm lg) H → va_D A (mW h0 ad cid sg gm lg) → va_S A s.heap H locs → lv_has ls 3 [(2, .int x2_162), (0, .ref h0), (1, .int x)] → W p l e (headSpec wm_X13_isInPlace ({ frames := 0, cells := 0, slots := 0, locals := 0 })).room s m ([.ref h0, .int x] : List Value).toArray below meth c H locs 0 0 (MQ below (va_Qi (fun r v => (iv 0 1 r) ∧ ((r.toInt = 1 ∧ (INP7 ((gm 26 x.toNatClampNeg).toInt) (abk gm x.toNatClampNeg))) ∨ (r.toInt = 0 ∧ ¬ (INP7 ((gm 26 x.toNatClampNeg).toInt) (abk gm x.toNatClampNeg)))) ∧ v = (sg, gm, lg)) (MB dC dI h0 ad cid A) A) ([.ref h0, .int x] : List Value).toArray s 0 0 A) (F0 m 162 ls [.int y0_162]) := by
    intro x2_162 y0_162 hx2_162 hsx1_162 hy0_162 u162 H locs ls hP hD hS hl
    exact W.zret (v := y0_162) hx hb hr (iv_nb hy0_162) (fun t ht hW => ⟨⟨y0_162, (sg, gm, lg), rfl, ⟨hy0_162, (u162), rfl⟩, by rw [ht]; exact hP, va_K.moved hW.alike hK, hD⟩, hS.F ht⟩) hS.2.2 dX13_isInPlace_162
  have hj157 : ∀ (x2_157 : Int32) (_ : iv 4 5 x2_157) (_ : iv 0 79 x) (_ : INP7 ((gm 26 x.toNatClampNeg).toInt) (abk gm x.toNatClampNeg)) (H : Heap) (locs : List Loc) (ls : Array Slot), va_P (dC, dI) vwCl (mW h0 ad cid sg gm lg) H → va_D A (mW h0 ad cid sg gm lg) → va_S A s.heap H locs → lv_has ls 3 [(2, .int x2_157), (0, .ref h0), (1, .int x)] → W p l e (headSpec wm_X13_isInPlace ({ frames := 0, cells := 0, slots := 0, locals := 0 })).room s m ([.ref h0, .int x] : List Value).toArray below meth c H locs 0 0 (MQ below (va_Qi (fun r v => (iv 0 1 r) ∧ ((r.toInt = 1 ∧ (INP7 ((gm 26 x.toNatClampNeg).toInt) (abk gm x.toNatClampNeg))) ∨ (r.toInt = 0 ∧ ¬ (INP7 ((gm 26 x.toNatClampNeg).toInt) (abk gm x.toNatClampNeg)))) ∧ v = (sg, gm, lg)) (MB dC dI h0 ad cid A) A) ([.ref h0, .int x] : List Value).toArray s 0 0 A) (F0 m 157 ls []) := by
    intro x2_157 hx2_157 hsx1_157 u157 H locs ls hP hD hS hl
    refine lv_iconst (v := 1) hx hb dX13_isInPlace_157 (by decide) ?_
    refine lv_goto (tgt := 162) hx hb dX13_isInPlace_158 (by decide) ?_
    exact hj162 x2_157 1 (iv_w hx2_157 (by decide)) hsx1_157 (iv_w (iv_k (by decide) : iv 1 1 1) (by decide)) (Or.inl ⟨rfl, u157⟩) _ _ _ hP hD hS (lv_sub hl [0, 1, 2] rfl)
  have hj184 : ∀ (x2_184 : Int32) (y0_184 : Int32) (_ : iv 0 10 x2_184) (_ : iv 0 79 x) (_ : iv 0 1 y0_184) (_ : (y0_184.toInt = 1 ∧ (INP7 ((gm 26 x.toNatClampNeg).toInt) (abk gm x.toNatClampNeg))) ∨ (y0_184.toInt = 0 ∧ ¬ (INP7 ((gm 26 x.toNatClampNeg).toInt) (abk gm x.toNatClampNeg)))) (H : Heap) (locs : List Loc) (ls : Array Slot), va_P (dC, dI) vwCl (mW h0 ad cid sg gm lg) H → va_D A (mW h0 ad cid sg gm lg) → va_S A s.heap H locs → lv_has ls 3 [(2, .int x2_184), (0, .ref h0), (1, .int x)] → W p l e (headSpec wm_X13_isInPlace ({ frames := 0, cells := 0, slots := 0, locals := 0 })).room s m ([.ref h0, .int x] : List Value).toArray below meth c H locs 0 0 (MQ below (va_Qi (fun r v => (iv 0 1 r) ∧ ((r.toInt = 1 ∧ (INP7 ((gm 26 x.toNatClampNeg).toInt) (abk gm x.toNatClampNeg))) ∨ (r.toInt = 0 ∧ ¬ (INP7 ((gm 26 x.toNatClampNeg).toInt) (abk gm x.toNatClampNeg)))) ∧ v = (sg, gm, lg)) (MB dC dI h0 ad cid A) A) ([.ref h0, .int x] : List Value).toArray s 0 0 A) (F0 m 184 ls [.int y0_184]) := by
    intro x2_184 y0_184 hx2_184 hsx1_184 hy0_184 u184 H locs ls hP hD hS hl
    exact W.zret (v := y0_184) hx hb hr (iv_nb hy0_184) (fun t ht hW => ⟨⟨y0_184, (sg, gm, lg), rfl, ⟨hy0_184, (u184), rfl⟩, by rw [ht]; exact hP, va_K.moved hW.alike hK, hD⟩, hS.F ht⟩) hS.2.2 dX13_isInPlace_184
  have hj179 : ∀ (x2_179 : Int32) (_ : iv 4 6 x2_179) (_ : iv 0 79 x) (_ : INP7 ((gm 26 x.toNatClampNeg).toInt) (abk gm x.toNatClampNeg)) (H : Heap) (locs : List Loc) (ls : Array Slot), va_P (dC, dI) vwCl (mW h0 ad cid sg gm lg) H → va_D A (mW h0 ad cid sg gm lg) → va_S A s.heap H locs → lv_has ls 3 [(2, .int x2_179), (0, .ref h0), (1, .int x)] → W p l e (headSpec wm_X13_isInPlace ({ frames := 0, cells := 0, slots := 0, locals := 0 })).room s m ([.ref h0, .int x] : List Value).toArray below meth c H locs 0 0 (MQ below (va_Qi (fun r v => (iv 0 1 r) ∧ ((r.toInt = 1 ∧ (INP7 ((gm 26 x.toNatClampNeg).toInt) (abk gm x.toNatClampNeg))) ∨ (r.toInt = 0 ∧ ¬ (INP7 ((gm 26 x.toNatClampNeg).toInt) (abk gm x.toNatClampNeg)))) ∧ v = (sg, gm, lg)) (MB dC dI h0 ad cid A) A) ([.ref h0, .int x] : List Value).toArray s 0 0 A) (F0 m 179 ls []) := by
    intro x2_179 hx2_179 hsx1_179 u179 H locs ls hP hD hS hl
    refine lv_iconst (v := 1) hx hb dX13_isInPlace_179 (by decide) ?_
    refine lv_goto (tgt := 184) hx hb dX13_isInPlace_180 (by decide) ?_
    exact hj184 x2_179 1 (iv_w hx2_179 (by decide)) hsx1_179 (iv_w (iv_k (by decide) : iv 1 1 1) (by decide)) (Or.inl ⟨rfl, u179⟩) _ _ _ hP hD hS (lv_sub hl [0, 1, 2] rfl)
  have hj163 : ∀ (x2_163 : Int32) (_ : iv 0 10 x2_163) (_ : iv 0 79 x) (_ : x2_163.toInt = abk gm x.toNatClampNeg) (_ : (gm 26 x.toNatClampNeg).toInt = 7 ∨ (gm 26 x.toNatClampNeg).toInt = 8 ∨ (gm 26 x.toNatClampNeg).toInt = 9) (H : Heap) (locs : List Loc) (ls : Array Slot), va_P (dC, dI) vwCl (mW h0 ad cid sg gm lg) H → va_D A (mW h0 ad cid sg gm lg) → va_S A s.heap H locs → lv_has ls 3 [(2, .int x2_163), (0, .ref h0), (1, .int x)] → W p l e (headSpec wm_X13_isInPlace ({ frames := 0, cells := 0, slots := 0, locals := 0 })).room s m ([.ref h0, .int x] : List Value).toArray below meth c H locs 0 0 (MQ below (va_Qi (fun r v => (iv 0 1 r) ∧ ((r.toInt = 1 ∧ (INP7 ((gm 26 x.toNatClampNeg).toInt) (abk gm x.toNatClampNeg))) ∨ (r.toInt = 0 ∧ ¬ (INP7 ((gm 26 x.toNatClampNeg).toInt) (abk gm x.toNatClampNeg)))) ∧ v = (sg, gm, lg)) (MB dC dI h0 ad cid A) A) ([.ref h0, .int x] : List Value).toArray s 0 0 A) (F0 m 163 ls []) := by
    intro x2_163 hx2_163 hsx1_163 u2 hk H locs ls hP hD hS hl
    refine lv_iload_n hx hb dX13_isInPlace_163 rfl (lv_at hl 0 rfl) ?_
    refine lv_iconst (v := 4) hx hb dX13_isInPlace_164 (by decide) ?_
    refine lv_icmp_eq (tgt := 179) hx hb dX13_isInPlace_165 (by decide) (fun c_4 => ?_) (fun c_4 => ?_)
    · have h_5 : iv 4 4 x2_163 := iv_eq c_4 hx2_163 (iv_k (by decide) : iv 4 4 4) (by decide)
      exact hj179 x2_163 (iv_w h_5 (by decide)) hsx1_163 ((by unfold INP7; have := i32_0; have := i32_1; have := i32_2; have := i32_m1; have := (hsx1_163).1; have := (hsx1_163).2; have := (h_5).1; have := (h_5).2; omega)) _ _ _ hP hD hS (lv_sub hl [0, 1, 2] rfl)
    · have d_6 : ¬ (x2_163 : Int32).toInt = 4 := lv_neT c_4 rfl
      refine lv_iload_n hx hb dX13_isInPlace_168 rfl (lv_at hl 0 rfl) ?_
      refine lv_iconst (v := 5) hx hb dX13_isInPlace_169 (by decide) ?_
      refine lv_icmp_eq (tgt := 179) hx hb dX13_isInPlace_170 (by decide) (fun c_7 => ?_) (fun c_7 => ?_)
      · have h_8 : iv 5 5 x2_163 := iv_eq c_7 hx2_163 (iv_k (by decide) : iv 5 5 5) (by decide)
        exact hj179 x2_163 (iv_w h_8 (by decide)) hsx1_163 ((by unfold INP7; have := i32_0; have := i32_1; have := i32_2; have := i32_m1; have := (hsx1_163).1; have := (hsx1_163).2; have := (h_8).1; have := (h_8).2; omega)) _ _ _ hP hD hS (lv_sub hl [0, 1, 2] rfl)
      · have d_9 : ¬ (x2_163 : Int32).toInt = 5 := lv_neT c_7 rfl
        refine lv_iload_n hx hb dX13_isInPlace_173 rfl (lv_at hl 0 rfl) ?_
        refine lv_bipush (v := 6) hx hb dX13_isInPlace_174 (by decide) ?_
        refine lv_icmp_ne (tgt := 183) hx hb dX13_isInPlace_176 (by decide) (fun c_10 => ?_) (fun c_10 => ?_)
        · have d_11 : ¬ (x2_163 : Int32).toInt = 6 := lv_neT c_10 rfl
          refine lv_iconst (v := 0) hx hb dX13_isInPlace_183 (by decide) ?_
          exact hj184 x2_163 0 hx2_163 hsx1_163 (iv_w (iv_k (by decide) : iv 0 0 0) (by decide)) (Or.inr ⟨rfl, (by unfold INP7; have := i32_0; have := i32_1; have := i32_2; have := i32_m1; have := (hsx1_163).1; have := (hsx1_163).2; have := (hx2_163).1; have := (hx2_163).2; omega)⟩) _ _ _ hP hD hS (lv_sub hl [0, 1, 2] rfl)
        · have h_12 : iv 6 6 x2_163 := iv_eq c_10 hx2_163 (iv_k (by decide) : iv 6 6 6) (by decide)
          exact hj179 x2_163 (iv_w h_12 (by decide)) hsx1_163 ((by unfold INP7; have := i32_0; have := i32_1; have := i32_2; have := i32_m1; have := (hsx1_163).1; have := (hsx1_163).2; have := (h_12).1; have := (h_12).2; omega)) _ _ _ hP hD hS (lv_sub hl [0, 1, 2] rfl)
  have hj25 : ∀ (y0_25 : Int32) (_ : iv 0 79 x) (_ : iv 0 10 y0_25) (_ : y0_25.toInt = abk gm x.toNatClampNeg) (H : Heap) (locs : List Loc) (ls : Array Slot), va_P (dC, dI) vwCl (mW h0 ad cid sg gm lg) H → va_D A (mW h0 ad cid sg gm lg) → va_S A s.heap H locs → lv_has ls 3 [(0, .ref h0), (1, .int x)] → W p l e (headSpec wm_X13_isInPlace ({ frames := 0, cells := 0, slots := 0, locals := 0 })).room s m ([.ref h0, .int x] : List Value).toArray below meth c H locs 0 0 (MQ below (va_Qi (fun r v => (iv 0 1 r) ∧ ((r.toInt = 1 ∧ (INP7 ((gm 26 x.toNatClampNeg).toInt) (abk gm x.toNatClampNeg))) ∨ (r.toInt = 0 ∧ ¬ (INP7 ((gm 26 x.toNatClampNeg).toInt) (abk gm x.toNatClampNeg)))) ∧ v = (sg, gm, lg)) (MB dC dI h0 ad cid A) A) ([.ref h0, .int x] : List Value).toArray s 0 0 A) (F0 m 25 ls [.int y0_25]) := by
    intro y0_25 hsx1_25 hy0_25 u25 H locs ls hP hD hS hl
    refine lv_istore_n (lv' := [(2, .int y0_25), (0, .ref h0), (1, .int x)]) hx hb dX13_isInPlace_25 rfl hl (by decide) rfl (fun ls hl => ?_)
    refine lv_aload_n hx hb dX13_isInPlace_26 rfl (lv_at hl 1 rfl) ?_
    refine mr_get (v := .ref (ad 26)) hx hb htb inX13 hown hK hP 26 (by decide) (htb _ kw_182) rfl dX13_isInPlace_27 ?_
    refine lv_iload_n hx hb dX13_isInPlace_30 rfl (lv_at hl 2 rfl) ?_
    refine mr_iald hx hb hK hP 19 (k := 26) rfl rfl rfl (show vp_in x 80 from (iv_in hsx1_25 (by decide))) dX13_isInPlace_31 ?_
    refine lv_topi (fun z_13 ez_13 => ?_)
    have hz_13 : iv 0 10 z_13 := iv_of ez_13 (MI_a hI 26 hsx1_25 (by decide))
    by_cases c_14 : (z_13 : Int32).toInt = 1
    · refine lv_tableIn (tgt := 88) hx hb dX13_isInPlace_32 (by rw [c_14]; decide) (by rw [c_14]; decide) (by rw [c_14]; rfl) (by decide) ?_
      have h_15 : iv 1 1 z_13 := iv_at c_14
      refine lv_iload_n hx hb dX13_isInPlace_88 rfl (lv_at hl 0 rfl) ?_
      refine lv_if_ne (tgt := 96) hx hb dX13_isInPlace_89 (by decide) (fun c_16 => ?_) (fun c_16 => ?_)
      · have h_17 : iv 1 10 y0_25 := iv_neL c_16 hy0_25 (by decide)
        refine lv_iconst (v := 0) hx hb dX13_isInPlace_96 (by decide) ?_
        exact hj97 y0_25 0 (iv_w h_17 (by decide)) hsx1_25 (iv_w (iv_k (by decide) : iv 0 0 0) (by decide)) (Or.inr ⟨rfl, (by unfold INP7; have hk8 : (gm 26 x.toNatClampNeg).toInt = 1 := (by rw [← ez_13]; exact c_14); have := i32_0; have := i32_1; have := i32_2; have := i32_m1; have := (hsx1_25).1; have := (hsx1_25).2; have := (h_17).1; have := (h_17).2; have := (h_15).1; have := (h_15).2; omega)⟩) _ _ _ hP hD hS (lv_sub hl [0, 1, 2] rfl)
      · have h_18 : iv 0 0 y0_25 := iv_eq c_16 hy0_25 (iv_k (by decide) : iv 0 0 0) (by decide)
        refine lv_iconst (v := 1) hx hb dX13_isInPlace_92 (by decide) ?_
        refine lv_goto (tgt := 97) hx hb dX13_isInPlace_93 (by decide) ?_
        exact hj97 y0_25 1 (iv_w h_18 (by decide)) hsx1_25 (iv_w (iv_k (by decide) : iv 1 1 1) (by decide)) (Or.inl ⟨rfl, (by unfold INP7; have hk8 : (gm 26 x.toNatClampNeg).toInt = 1 := (by rw [← ez_13]; exact c_14); have := i32_0; have := i32_1; have := i32_2; have := i32_m1; have := (hsx1_25).1; have := (hsx1_25).2; have := (h_18).1; have := (h_18).2; have := (h_15).1; have := (h_15).2; omega)⟩) _ _ _ hP hD hS (lv_sub hl [0, 1, 2] rfl)
    by_cases c_19 : (z_13 : Int32).toInt = 2
    · refine lv_tableIn (tgt := 98) hx hb dX13_isInPlace_32 (by rw [c_19]; decide) (by rw [c_19]; decide) (by rw [c_19]; rfl) (by decide) ?_
      have h_20 : iv 2 2 z_13 := iv_at c_19
      refine lv_iload_n hx hb dX13_isInPlace_98 rfl (lv_at hl 0 rfl) ?_
      refine lv_iconst (v := 1) hx hb dX13_isInPlace_99 (by decide) ?_
      refine lv_icmp_ne (tgt := 107) hx hb dX13_isInPlace_100 (by decide) (fun c_21 => ?_) (fun c_21 => ?_)
      · have d_22 : ¬ (y0_25 : Int32).toInt = 1 := lv_neT c_21 rfl
        refine lv_iconst (v := 0) hx hb dX13_isInPlace_107 (by decide) ?_
        exact hj108 y0_25 0 hy0_25 hsx1_25 (iv_w (iv_k (by decide) : iv 0 0 0) (by decide)) (Or.inr ⟨rfl, (by unfold INP7; have hk8 : (gm 26 x.toNatClampNeg).toInt = 2 := (by rw [← ez_13]; exact c_19); have := i32_0; have := i32_1; have := i32_2; have := i32_m1; have := (hsx1_25).1; have := (hsx1_25).2; have := (hy0_25).1; have := (hy0_25).2; have := (h_20).1; have := (h_20).2; omega)⟩) _ _ _ hP hD hS (lv_sub hl [0, 1, 2] rfl)
      · have h_23 : iv 1 1 y0_25 := iv_eq c_21 hy0_25 (iv_k (by decide) : iv 1 1 1) (by decide)
        refine lv_iconst (v := 1) hx hb dX13_isInPlace_103 (by decide) ?_
        refine lv_goto (tgt := 108) hx hb dX13_isInPlace_104 (by decide) ?_
        exact hj108 y0_25 1 (iv_w h_23 (by decide)) hsx1_25 (iv_w (iv_k (by decide) : iv 1 1 1) (by decide)) (Or.inl ⟨rfl, (by unfold INP7; have hk8 : (gm 26 x.toNatClampNeg).toInt = 2 := (by rw [← ez_13]; exact c_19); have := i32_0; have := i32_1; have := i32_2; have := i32_m1; have := (hsx1_25).1; have := (hsx1_25).2; have := (h_23).1; have := (h_23).2; have := (h_20).1; have := (h_20).2; omega)⟩) _ _ _ hP hD hS (lv_sub hl [0, 1, 2] rfl)
    by_cases c_24 : (z_13 : Int32).toInt = 3
    · refine lv_tableIn (tgt := 109) hx hb dX13_isInPlace_32 (by rw [c_24]; decide) (by rw [c_24]; decide) (by rw [c_24]; rfl) (by decide) ?_
      have h_25 : iv 3 3 z_13 := iv_at c_24
      refine lv_iload_n hx hb dX13_isInPlace_109 rfl (lv_at hl 0 rfl) ?_
      refine lv_iconst (v := 1) hx hb dX13_isInPlace_110 (by decide) ?_
      refine lv_icmp_eq (tgt := 130) hx hb dX13_isInPlace_111 (by decide) (fun c_26 => ?_) (fun c_26 => ?_)
      · have h_27 : iv 1 1 y0_25 := iv_eq c_26 hy0_25 (iv_k (by decide) : iv 1 1 1) (by decide)
        exact hj130 y0_25 (iv_w h_27 (by decide)) hsx1_25 ((by unfold INP7; have hk8 : (gm 26 x.toNatClampNeg).toInt = 3 := (by rw [← ez_13]; exact c_24); have := i32_0; have := i32_1; have := i32_2; have := i32_m1; have := (hsx1_25).1; have := (hsx1_25).2; have := (h_27).1; have := (h_27).2; have := (h_25).1; have := (h_25).2; omega)) _ _ _ hP hD hS (lv_sub hl [0, 1, 2] rfl)
      · have d_28 : ¬ (y0_25 : Int32).toInt = 1 := lv_neT c_26 rfl
        refine lv_iload_n hx hb dX13_isInPlace_114 rfl (lv_at hl 0 rfl) ?_
        refine lv_iconst (v := 4) hx hb dX13_isInPlace_115 (by decide) ?_
        refine lv_icmp_eq (tgt := 130) hx hb dX13_isInPlace_116 (by decide) (fun c_29 => ?_) (fun c_29 => ?_)
        · have h_30 : iv 4 4 y0_25 := iv_eq c_29 hy0_25 (iv_k (by decide) : iv 4 4 4) (by decide)
          exact hj130 y0_25 (iv_w h_30 (by decide)) hsx1_25 ((by unfold INP7; have hk8 : (gm 26 x.toNatClampNeg).toInt = 3 := (by rw [← ez_13]; exact c_24); have := i32_0; have := i32_1; have := i32_2; have := i32_m1; have := (hsx1_25).1; have := (hsx1_25).2; have := (h_30).1; have := (h_30).2; have := (h_25).1; have := (h_25).2; omega)) _ _ _ hP hD hS (lv_sub hl [0, 1, 2] rfl)
        · have d_31 : ¬ (y0_25 : Int32).toInt = 4 := lv_neT c_29 rfl
          refine lv_iload_n hx hb dX13_isInPlace_119 rfl (lv_at hl 0 rfl) ?_
          refine lv_iconst (v := 5) hx hb dX13_isInPlace_120 (by decide) ?_
          refine lv_icmp_eq (tgt := 130) hx hb dX13_isInPlace_121 (by decide) (fun c_32 => ?_) (fun c_32 => ?_)
          · have h_33 : iv 5 5 y0_25 := iv_eq c_32 hy0_25 (iv_k (by decide) : iv 5 5 5) (by decide)
            exact hj130 y0_25 (iv_w h_33 (by decide)) hsx1_25 ((by unfold INP7; have hk8 : (gm 26 x.toNatClampNeg).toInt = 3 := (by rw [← ez_13]; exact c_24); have := i32_0; have := i32_1; have := i32_2; have := i32_m1; have := (hsx1_25).1; have := (hsx1_25).2; have := (h_33).1; have := (h_33).2; have := (h_25).1; have := (h_25).2; omega)) _ _ _ hP hD hS (lv_sub hl [0, 1, 2] rfl)
          · have d_34 : ¬ (y0_25 : Int32).toInt = 5 := lv_neT c_32 rfl
            refine lv_iload_n hx hb dX13_isInPlace_124 rfl (lv_at hl 0 rfl) ?_
            refine lv_bipush (v := 6) hx hb dX13_isInPlace_125 (by decide) ?_
            refine lv_icmp_ne (tgt := 134) hx hb dX13_isInPlace_127 (by decide) (fun c_35 => ?_) (fun c_35 => ?_)
            · have d_36 : ¬ (y0_25 : Int32).toInt = 6 := lv_neT c_35 rfl
              refine lv_iconst (v := 0) hx hb dX13_isInPlace_134 (by decide) ?_
              exact hj135 y0_25 0 hy0_25 hsx1_25 (iv_w (iv_k (by decide) : iv 0 0 0) (by decide)) (Or.inr ⟨rfl, (by unfold INP7; have hk8 : (gm 26 x.toNatClampNeg).toInt = 3 := (by rw [← ez_13]; exact c_24); have := i32_0; have := i32_1; have := i32_2; have := i32_m1; have := (hsx1_25).1; have := (hsx1_25).2; have := (hy0_25).1; have := (hy0_25).2; have := (h_25).1; have := (h_25).2; omega)⟩) _ _ _ hP hD hS (lv_sub hl [0, 1, 2] rfl)
            · have h_37 : iv 6 6 y0_25 := iv_eq c_35 hy0_25 (iv_k (by decide) : iv 6 6 6) (by decide)
              exact hj130 y0_25 (iv_w h_37 (by decide)) hsx1_25 ((by unfold INP7; have hk8 : (gm 26 x.toNatClampNeg).toInt = 3 := (by rw [← ez_13]; exact c_24); have := i32_0; have := i32_1; have := i32_2; have := i32_m1; have := (hsx1_25).1; have := (hsx1_25).2; have := (h_37).1; have := (h_37).2; have := (h_25).1; have := (h_25).2; omega)) _ _ _ hP hD hS (lv_sub hl [0, 1, 2] rfl)
    by_cases c_38 : (z_13 : Int32).toInt = 4
    · refine lv_tableIn (tgt := 136) hx hb dX13_isInPlace_32 (by rw [c_38]; decide) (by rw [c_38]; decide) (by rw [c_38]; rfl) (by decide) ?_
      have h_39 : iv 4 4 z_13 := iv_at c_38
      exact hj136 y0_25 hy0_25 hsx1_25 (u25) ((by have hk8 : (gm 26 x.toNatClampNeg).toInt = 4 := (by rw [← ez_13]; exact c_38); have := i32_0; have := i32_1; have := i32_2; have := i32_m1; have := (hsx1_25).1; have := (hsx1_25).2; have := (hy0_25).1; have := (hy0_25).2; have := (h_39).1; have := (h_39).2; omega)) _ _ _ hP hD hS (lv_sub hl [0, 1, 2] rfl)
    by_cases c_40 : (z_13 : Int32).toInt = 5
    · refine lv_tableIn (tgt := 136) hx hb dX13_isInPlace_32 (by rw [c_40]; decide) (by rw [c_40]; decide) (by rw [c_40]; rfl) (by decide) ?_
      have h_41 : iv 5 5 z_13 := iv_at c_40
      exact hj136 y0_25 hy0_25 hsx1_25 (u25) ((by have hk8 : (gm 26 x.toNatClampNeg).toInt = 5 := (by rw [← ez_13]; exact c_40); have := i32_0; have := i32_1; have := i32_2; have := i32_m1; have := (hsx1_25).1; have := (hsx1_25).2; have := (hy0_25).1; have := (hy0_25).2; have := (h_41).1; have := (h_41).2; omega)) _ _ _ hP hD hS (lv_sub hl [0, 1, 2] rfl)
    by_cases c_42 : (z_13 : Int32).toInt = 6
    · refine lv_tableIn (tgt := 147) hx hb dX13_isInPlace_32 (by rw [c_42]; decide) (by rw [c_42]; decide) (by rw [c_42]; rfl) (by decide) ?_
      have h_43 : iv 6 6 z_13 := iv_at c_42
      refine lv_iload_n hx hb dX13_isInPlace_147 rfl (lv_at hl 0 rfl) ?_
      refine lv_iconst (v := 4) hx hb dX13_isInPlace_148 (by decide) ?_
      refine lv_icmp_eq (tgt := 157) hx hb dX13_isInPlace_149 (by decide) (fun c_44 => ?_) (fun c_44 => ?_)
      · have h_45 : iv 4 4 y0_25 := iv_eq c_44 hy0_25 (iv_k (by decide) : iv 4 4 4) (by decide)
        exact hj157 y0_25 (iv_w h_45 (by decide)) hsx1_25 ((by unfold INP7; have hk8 : (gm 26 x.toNatClampNeg).toInt = 6 := (by rw [← ez_13]; exact c_42); have := i32_0; have := i32_1; have := i32_2; have := i32_m1; have := (hsx1_25).1; have := (hsx1_25).2; have := (h_45).1; have := (h_45).2; have := (h_43).1; have := (h_43).2; omega)) _ _ _ hP hD hS (lv_sub hl [0, 1, 2] rfl)
      · have d_46 : ¬ (y0_25 : Int32).toInt = 4 := lv_neT c_44 rfl
        refine lv_iload_n hx hb dX13_isInPlace_152 rfl (lv_at hl 0 rfl) ?_
        refine lv_iconst (v := 5) hx hb dX13_isInPlace_153 (by decide) ?_
        refine lv_icmp_ne (tgt := 161) hx hb dX13_isInPlace_154 (by decide) (fun c_47 => ?_) (fun c_47 => ?_)
        · have d_48 : ¬ (y0_25 : Int32).toInt = 5 := lv_neT c_47 rfl
          refine lv_iconst (v := 0) hx hb dX13_isInPlace_161 (by decide) ?_
          exact hj162 y0_25 0 hy0_25 hsx1_25 (iv_w (iv_k (by decide) : iv 0 0 0) (by decide)) (Or.inr ⟨rfl, (by unfold INP7; have hk8 : (gm 26 x.toNatClampNeg).toInt = 6 := (by rw [← ez_13]; exact c_42); have := i32_0; have := i32_1; have := i32_2; have := i32_m1; have := (hsx1_25).1; have := (hsx1_25).2; have := (hy0_25).1; have := (hy0_25).2; have := (h_43).1; have := (h_43).2; omega)⟩) _ _ _ hP hD hS (lv_sub hl [0, 1, 2] rfl)
        · have h_49 : iv 5 5 y0_25 := iv_eq c_47 hy0_25 (iv_k (by decide) : iv 5 5 5) (by decide)
          exact hj157 y0_25 (iv_w h_49 (by decide)) hsx1_25 ((by unfold INP7; have hk8 : (gm 26 x.toNatClampNeg).toInt = 6 := (by rw [← ez_13]; exact c_42); have := i32_0; have := i32_1; have := i32_2; have := i32_m1; have := (hsx1_25).1; have := (hsx1_25).2; have := (h_49).1; have := (h_49).2; have := (h_43).1; have := (h_43).2; omega)) _ _ _ hP hD hS (lv_sub hl [0, 1, 2] rfl)
    by_cases c_50 : (z_13 : Int32).toInt = 7
    · refine lv_tableIn (tgt := 163) hx hb dX13_isInPlace_32 (by rw [c_50]; decide) (by rw [c_50]; decide) (by rw [c_50]; rfl) (by decide) ?_
      have h_51 : iv 7 7 z_13 := iv_at c_50
      exact hj163 y0_25 hy0_25 hsx1_25 (u25) ((by have hk8 : (gm 26 x.toNatClampNeg).toInt = 7 := (by rw [← ez_13]; exact c_50); have := i32_0; have := i32_1; have := i32_2; have := i32_m1; have := (hsx1_25).1; have := (hsx1_25).2; have := (hy0_25).1; have := (hy0_25).2; have := (h_51).1; have := (h_51).2; omega)) _ _ _ hP hD hS (lv_sub hl [0, 1, 2] rfl)
    by_cases c_52 : (z_13 : Int32).toInt = 8
    · refine lv_tableIn (tgt := 163) hx hb dX13_isInPlace_32 (by rw [c_52]; decide) (by rw [c_52]; decide) (by rw [c_52]; rfl) (by decide) ?_
      have h_53 : iv 8 8 z_13 := iv_at c_52
      exact hj163 y0_25 hy0_25 hsx1_25 (u25) ((by have hk8 : (gm 26 x.toNatClampNeg).toInt = 8 := (by rw [← ez_13]; exact c_52); have := i32_0; have := i32_1; have := i32_2; have := i32_m1; have := (hsx1_25).1; have := (hsx1_25).2; have := (hy0_25).1; have := (hy0_25).2; have := (h_53).1; have := (h_53).2; omega)) _ _ _ hP hD hS (lv_sub hl [0, 1, 2] rfl)
    by_cases c_54 : (z_13 : Int32).toInt = 9
    · refine lv_tableIn (tgt := 163) hx hb dX13_isInPlace_32 (by rw [c_54]; decide) (by rw [c_54]; decide) (by rw [c_54]; rfl) (by decide) ?_
      have h_55 : iv 9 9 z_13 := iv_at c_54
      exact hj163 y0_25 hy0_25 hsx1_25 (u25) ((by have hk8 : (gm 26 x.toNatClampNeg).toInt = 9 := (by rw [← ez_13]; exact c_54); have := i32_0; have := i32_1; have := i32_2; have := i32_m1; have := (hsx1_25).1; have := (hsx1_25).2; have := (hy0_25).1; have := (hy0_25).2; have := (h_55).1; have := (h_55).2; omega)) _ _ _ hP hD hS (lv_sub hl [0, 1, 2] rfl)
    by_cases c_56 : (z_13 : Int32).toInt = 10
    · refine lv_tableIn (tgt := 136) hx hb dX13_isInPlace_32 (by rw [c_56]; decide) (by rw [c_56]; decide) (by rw [c_56]; rfl) (by decide) ?_
      have h_57 : iv 10 10 z_13 := iv_at c_56
      exact hj136 y0_25 hy0_25 hsx1_25 (u25) ((by have hk8 : (gm 26 x.toNatClampNeg).toInt = 10 := (by rw [← ez_13]; exact c_56); have := i32_0; have := i32_1; have := i32_2; have := i32_m1; have := (hsx1_25).1; have := (hsx1_25).2; have := (hy0_25).1; have := (hy0_25).2; have := (h_57).1; have := (h_57).2; omega)) _ _ _ hP hD hS (lv_sub hl [0, 1, 2] rfl)
    refine lv_tableOut (tgt := 185) hx hb dX13_isInPlace_32 (by have q1 := (hz_13).1; have q2 := (hz_13).2; omega) (by decide) ?_
    have h_58 : iv 0 0 z_13 := ⟨by have q1 := (hz_13).1; have q2 := (hz_13).2; omega, by have q1 := (hz_13).1; have q2 := (hz_13).2; omega⟩
    refine lv_iconst (v := 0) hx hb dX13_isInPlace_185 (by decide) ?_
    exact W.zret (v := 0) hx hb hr (iv_nb (iv_w (iv_k (by decide) : iv 0 0 0) (by decide))) (fun t ht hW => ⟨⟨0, (sg, gm, lg), rfl, ⟨(iv_w (iv_k (by decide) : iv 0 0 0) (by decide)), (Or.inr ⟨rfl, by have := congrArg Int32.toInt ez_13; have := (h_58).1; have := (h_58).2; unfold INP7; have := i32_0; have := i32_1; have := i32_2; have := i32_m1; have := (hsx1_25).1; have := (hsx1_25).2; have := (hy0_25).1; have := (hy0_25).2; have := (h_58).1; have := (h_58).2; omega⟩), rfl⟩, by rw [ht]; exact hP, va_K.moved hW.alike hK, hD⟩, hS.F ht⟩) hS.2.2 dX13_isInPlace_186
  refine lv_aload_n hx hb dX13_isInPlace_0 rfl (lv_at hl 0 rfl) ?_
  refine mr_get (v := .ref (ad 28)) hx hb htb inX13 hown hK hP 28 (by decide) (htb _ kw_184) rfl dX13_isInPlace_1 ?_
  refine lv_iload_n hx hb dX13_isInPlace_4 rfl (lv_at hl 1 rfl) ?_
  refine mr_iald hx hb hK hP 21 (k := 28) rfl rfl rfl (show vp_in x 80 from (iv_in hvx (by decide))) dX13_isInPlace_5 ?_
  refine lv_topi (fun z_59 ez_59 => ?_)
  have hz_59 : iv (-1) 79 z_59 := iv_of ez_59 (MI_a hI 28 hvx (by decide))
  refine lv_iconst (v := (-1)) hx hb dX13_isInPlace_6 (by decide) ?_
  refine lv_icmp_ne (tgt := 14) hx hb dX13_isInPlace_7 (by decide) (fun c_60 => ?_) (fun c_60 => ?_)
  · have h_61 : iv 0 79 z_59 := iv_neL c_60 hz_59 (by decide)
    refine lv_aload_n hx hb dX13_isInPlace_14 rfl (lv_at hl 0 rfl) ?_
    refine mr_get (v := .ref (ad 26)) hx hb htb inX13 hown hK hP 26 (by decide) (htb _ kw_182) rfl dX13_isInPlace_15 ?_
    refine lv_aload_n hx hb dX13_isInPlace_18 rfl (lv_at hl 0 rfl) ?_
    refine mr_get (v := .ref (ad 28)) hx hb htb inX13 hown hK hP 28 (by decide) (htb _ kw_184) rfl dX13_isInPlace_19 ?_
    refine lv_iload_n hx hb dX13_isInPlace_22 rfl (lv_at hl 1 rfl) ?_
    refine mr_iald hx hb hK hP 21 (k := 28) rfl rfl rfl (show vp_in x 80 from (iv_in hvx (by decide))) dX13_isInPlace_23 ?_
    refine lv_topi (fun z_62 ez_62 => ?_)
    obtain rfl : z_59 = z_62 := ez_59.trans ez_62.symm
    refine mr_iald hx hb hK hP 19 (k := 26) rfl rfl rfl (show vp_in z_59 80 from (iv_in h_61 (by decide))) dX13_isInPlace_24 ?_
    refine lv_topi (fun z_63 ez_63 => ?_)
    have hz_63 : iv 0 10 z_63 := iv_of ez_63 (MI_a hI 26 h_61 (by decide))
    exact hj25 z_63 hvx hz_63 ((by have q := congrArg Int32.toInt ez_59; rw [abk_1 (g := gm) (x := x.toNatClampNeg) (by have := i32_0; have := i32_1; have := i32_2; have := i32_m1; have := (hvx).1; have := (hvx).2; have := (h_61).1; have := (h_61).2; have := (hz_63).1; have := (hz_63).2; omega), ← ez_59, ← ez_63])) _ _ _ hP hD hS (lv_sub hl [0, 1] rfl)
  · have h_64 : iv (-1) (-1) z_59 := iv_eq c_60 hz_59 (iv_k (by decide) : iv (-1) (-1) (-1)) (by decide)
    refine lv_iconst (v := 0) hx hb dX13_isInPlace_10 (by decide) ?_
    refine lv_goto (tgt := 25) hx hb dX13_isInPlace_11 (by decide) ?_
    exact hj25 0 hvx (iv_w (iv_k (by decide) : iv 0 0 0) (by decide)) ((by have q := congrArg Int32.toInt ez_59; have := abk_0 (g := gm) (x := x.toNatClampNeg) (by have := i32_0; have := i32_1; have := i32_2; have := i32_m1; have := (hvx).1; have := (hvx).2; have := (h_64).1; have := (h_64).2; omega); have := i32_0; have := i32_1; have := i32_2; have := i32_m1; have := (hvx).1; have := (hvx).2; have := (h_64).1; have := (h_64).2; omega)) _ _ _ hP hD hS (lv_sub hl [0, 1] rfl)

set_option maxHeartbeats 4000000 in
set_option maxRecDepth 100000 in
theorem f_isGoodHolder2 (l : Launch) (dC : Nat → ClassId) (dI : Nat → Nat → Nat) (h0 : Nat) (ad : Nat → Nat) (cid : Nat → ClassId) (sg : Nat → Int32) (gm : Nat → Nat → Int32) (lg : Nat → Nat → Int64) (x : Int32) (hI : MI sg gm) (hvx : iv 0 79 x) : MMi l dC dI yX13_isGoodHolder wm_X13_isGoodHolder ({ frames := 2, cells := 0, slots := 0, locals := 49 }) h0 ad cid [.int x] sg gm lg (fun r v => (iv 0 1 r) ∧ ((r.toInt = 1 ∧ ((mHas gm lg x.toNatClampNeg 508440638821).toInt + (mHas gm lg x.toNatClampNeg 7497062).toInt + (gm 29 x.toNatClampNeg).toInt = 1 ∧ ((mHas gm lg x.toNatClampNeg 7497062).toInt = 0 ∨ (mIsW gm lg x.toNatClampNeg 7497062).toInt = 1))) ∨ (r.toInt = 0 ∧ ¬ ((mHas gm lg x.toNatClampNeg 508440638821).toInt + (mHas gm lg x.toNatClampNeg 7497062).toInt + (gm 29 x.toNatClampNeg).toInt = 1 ∧ ((mHas gm lg x.toNatClampNeg 7497062).toInt = 0 ∨ (mIsW gm lg x.toNatClampNeg 7497062).toInt = 1)))) ∧ v = (sg, gm, lg)) := by
  intro sz
  refine Met.ofW (cc := cX13_isGoodHolder) (maxL := 3) (ret := (some .boolean)) (by decide) rfl ?_
  intro p e s m args below meth c s₁ B hml hv
  obtain ⟨rfl, hsz, hP, hK, hD0⟩ := hv
  have hx := B.exec
  have hb := B.bytes
  have hr := B.returns
  have hts := atoms_spec (ws := wm_X13_isGoodHolder) B.pre
  have htb := fun (w : Cond) (h : w ∈ tb) => hts w (List.mem_cons_of_mem _ h)
  have hown : s.vm.findClass RX13 = some m.cls := findClass_of_methodNamed B.named
  have hlocks := B.notSynchronized
  subst hsz
  have hD := hD0.self (sz := s.heap.size)
  generalize hAe : va_A (mW h0 ad cid sg gm lg) s.heap.size = A at hD ⊢
  have hA : ∀ q : Nat, s.heap.size ≤ q → A q := fun q h => by rw [← hAe]; exact Or.inr h
  have hS : va_S A s.heap s.heap [] := va_S.rf
  have hl := lv_entry ([.ref h0, .int x]) (n := 3) (Nat.le_of_ble_eq_true rfl)
  rw [lg_entry_eq]
  generalize (lg_sl ([.ref h0, .int x]) ++ List.replicate (3 - (lg_sl ([.ref h0, .int x])).length) Slot.unset).toArray = ls at hl ⊢
  have hl : lv_has ls 3 [(0, .ref h0), (1, .int x)] := hl
  have hj73 : ∀ (x2_73 : Int32) (y0_73 : Int32) (_ : iv 0 82 x2_73) (_ : iv 0 79 x) (_ : iv 0 1 y0_73) (_ : (y0_73.toInt = 1 ∧ ((mHas gm lg x.toNatClampNeg 508440638821).toInt + (mHas gm lg x.toNatClampNeg 7497062).toInt + (gm 29 x.toNatClampNeg).toInt = 1 ∧ ((mHas gm lg x.toNatClampNeg 7497062).toInt = 0 ∨ (mIsW gm lg x.toNatClampNeg 7497062).toInt = 1))) ∨ (y0_73.toInt = 0 ∧ ¬ ((mHas gm lg x.toNatClampNeg 508440638821).toInt + (mHas gm lg x.toNatClampNeg 7497062).toInt + (gm 29 x.toNatClampNeg).toInt = 1 ∧ ((mHas gm lg x.toNatClampNeg 7497062).toInt = 0 ∨ (mIsW gm lg x.toNatClampNeg 7497062).toInt = 1)))) (H : Heap) (locs : List Loc) (ls : Array Slot), va_P (dC, dI) vwCl (mW h0 ad cid sg gm lg) H → va_D A (mW h0 ad cid sg gm lg) → va_S A s.heap H locs → lv_has ls 3 [(2, .int x2_73), (0, .ref h0), (1, .int x)] → W p l e (headSpec wm_X13_isGoodHolder ({ frames := 2, cells := 0, slots := 0, locals := 49 })).room s m ([.ref h0, .int x] : List Value).toArray below meth c H locs 0 0 (MQ below (va_Qi (fun r v => (iv 0 1 r) ∧ ((r.toInt = 1 ∧ ((mHas gm lg x.toNatClampNeg 508440638821).toInt + (mHas gm lg x.toNatClampNeg 7497062).toInt + (gm 29 x.toNatClampNeg).toInt = 1 ∧ ((mHas gm lg x.toNatClampNeg 7497062).toInt = 0 ∨ (mIsW gm lg x.toNatClampNeg 7497062).toInt = 1))) ∨ (r.toInt = 0 ∧ ¬ ((mHas gm lg x.toNatClampNeg 508440638821).toInt + (mHas gm lg x.toNatClampNeg 7497062).toInt + (gm 29 x.toNatClampNeg).toInt = 1 ∧ ((mHas gm lg x.toNatClampNeg 7497062).toInt = 0 ∨ (mIsW gm lg x.toNatClampNeg 7497062).toInt = 1)))) ∧ v = (sg, gm, lg)) (MB dC dI h0 ad cid A) A) ([.ref h0, .int x] : List Value).toArray s 0 0 A) (F0 m 73 ls [.int y0_73]) := by
    intro x2_73 y0_73 hx2_73 hsx1_73 hy0_73 u73 H locs ls hP hD hS hl
    exact W.zret (v := y0_73) hx hb hr (iv_nb hy0_73) (fun t ht hW => ⟨⟨y0_73, (sg, gm, lg), rfl, ⟨hy0_73, (u73), rfl⟩, by rw [ht]; exact hP, va_K.moved hW.alike hK, hD⟩, hS.F ht⟩) hS.2.2 dX13_isGoodHolder_73
  have hj72 : ∀ (x2_72 : Int32) (_ : iv 0 82 x2_72) (_ : iv 0 79 x) (_ : ¬ ((mHas gm lg x.toNatClampNeg 508440638821).toInt + (mHas gm lg x.toNatClampNeg 7497062).toInt + (gm 29 x.toNatClampNeg).toInt = 1 ∧ ((mHas gm lg x.toNatClampNeg 7497062).toInt = 0 ∨ (mIsW gm lg x.toNatClampNeg 7497062).toInt = 1))) (H : Heap) (locs : List Loc) (ls : Array Slot), va_P (dC, dI) vwCl (mW h0 ad cid sg gm lg) H → va_D A (mW h0 ad cid sg gm lg) → va_S A s.heap H locs → lv_has ls 3 [(2, .int x2_72), (0, .ref h0), (1, .int x)] → W p l e (headSpec wm_X13_isGoodHolder ({ frames := 2, cells := 0, slots := 0, locals := 49 })).room s m ([.ref h0, .int x] : List Value).toArray below meth c H locs 0 0 (MQ below (va_Qi (fun r v => (iv 0 1 r) ∧ ((r.toInt = 1 ∧ ((mHas gm lg x.toNatClampNeg 508440638821).toInt + (mHas gm lg x.toNatClampNeg 7497062).toInt + (gm 29 x.toNatClampNeg).toInt = 1 ∧ ((mHas gm lg x.toNatClampNeg 7497062).toInt = 0 ∨ (mIsW gm lg x.toNatClampNeg 7497062).toInt = 1))) ∨ (r.toInt = 0 ∧ ¬ ((mHas gm lg x.toNatClampNeg 508440638821).toInt + (mHas gm lg x.toNatClampNeg 7497062).toInt + (gm 29 x.toNatClampNeg).toInt = 1 ∧ ((mHas gm lg x.toNatClampNeg 7497062).toInt = 0 ∨ (mIsW gm lg x.toNatClampNeg 7497062).toInt = 1)))) ∧ v = (sg, gm, lg)) (MB dC dI h0 ad cid A) A) ([.ref h0, .int x] : List Value).toArray s 0 0 A) (F0 m 72 ls []) := by
    intro x2_72 hx2_72 hsx1_72 u72 H locs ls hP hD hS hl
    refine lv_iconst (v := 0) hx hb dX13_isGoodHolder_72 (by decide) ?_
    exact hj73 x2_72 0 hx2_72 hsx1_72 (iv_w (iv_k (by decide) : iv 0 0 0) (by decide)) (Or.inr ⟨rfl, u72⟩) _ _ _ hP hD hS (lv_sub hl [0, 1, 2] rfl)
  have hj68 : ∀ (x2_68 : Int32) (_ : iv 1 1 x2_68) (_ : iv 0 79 x) (_ : (mHas gm lg x.toNatClampNeg 508440638821).toInt + (mHas gm lg x.toNatClampNeg 7497062).toInt + (gm 29 x.toNatClampNeg).toInt = 1 ∧ ((mHas gm lg x.toNatClampNeg 7497062).toInt = 0 ∨ (mIsW gm lg x.toNatClampNeg 7497062).toInt = 1)) (H : Heap) (locs : List Loc) (ls : Array Slot), va_P (dC, dI) vwCl (mW h0 ad cid sg gm lg) H → va_D A (mW h0 ad cid sg gm lg) → va_S A s.heap H locs → lv_has ls 3 [(2, .int x2_68), (0, .ref h0), (1, .int x)] → W p l e (headSpec wm_X13_isGoodHolder ({ frames := 2, cells := 0, slots := 0, locals := 49 })).room s m ([.ref h0, .int x] : List Value).toArray below meth c H locs 0 0 (MQ below (va_Qi (fun r v => (iv 0 1 r) ∧ ((r.toInt = 1 ∧ ((mHas gm lg x.toNatClampNeg 508440638821).toInt + (mHas gm lg x.toNatClampNeg 7497062).toInt + (gm 29 x.toNatClampNeg).toInt = 1 ∧ ((mHas gm lg x.toNatClampNeg 7497062).toInt = 0 ∨ (mIsW gm lg x.toNatClampNeg 7497062).toInt = 1))) ∨ (r.toInt = 0 ∧ ¬ ((mHas gm lg x.toNatClampNeg 508440638821).toInt + (mHas gm lg x.toNatClampNeg 7497062).toInt + (gm 29 x.toNatClampNeg).toInt = 1 ∧ ((mHas gm lg x.toNatClampNeg 7497062).toInt = 0 ∨ (mIsW gm lg x.toNatClampNeg 7497062).toInt = 1)))) ∧ v = (sg, gm, lg)) (MB dC dI h0 ad cid A) A) ([.ref h0, .int x] : List Value).toArray s 0 0 A) (F0 m 68 ls []) := by
    intro x2_68 hx2_68 hsx1_68 u68 H locs ls hP hD hS hl
    refine lv_iconst (v := 1) hx hb dX13_isGoodHolder_68 (by decide) ?_
    refine lv_goto (tgt := 73) hx hb dX13_isGoodHolder_69 (by decide) ?_
    exact hj73 x2_68 1 (iv_w hx2_68 (by decide)) hsx1_68 (iv_w (iv_k (by decide) : iv 1 1 1) (by decide)) (Or.inl ⟨rfl, u68⟩) _ _ _ hP hD hS (lv_sub hl [0, 1, 2] rfl)
  have hj32 : ∀ (y0_32 : Int32) (y1_32 : Int32) (_ : iv 0 79 x) (_ : iv 0 1 y0_32) (_ : iv 0 1 y1_32) (_ : y0_32.toInt = (mHas gm lg x.toNatClampNeg 7497062).toInt) (_ : y1_32.toInt = (mHas gm lg x.toNatClampNeg 508440638821).toInt) (H : Heap) (locs : List Loc) (ls : Array Slot), va_P (dC, dI) vwCl (mW h0 ad cid sg gm lg) H → va_D A (mW h0 ad cid sg gm lg) → va_S A s.heap H locs → lv_has ls 3 [(0, .ref h0), (1, .int x)] → W p l e (headSpec wm_X13_isGoodHolder ({ frames := 2, cells := 0, slots := 0, locals := 49 })).room s m ([.ref h0, .int x] : List Value).toArray below meth c H locs 0 0 (MQ below (va_Qi (fun r v => (iv 0 1 r) ∧ ((r.toInt = 1 ∧ ((mHas gm lg x.toNatClampNeg 508440638821).toInt + (mHas gm lg x.toNatClampNeg 7497062).toInt + (gm 29 x.toNatClampNeg).toInt = 1 ∧ ((mHas gm lg x.toNatClampNeg 7497062).toInt = 0 ∨ (mIsW gm lg x.toNatClampNeg 7497062).toInt = 1))) ∨ (r.toInt = 0 ∧ ¬ ((mHas gm lg x.toNatClampNeg 508440638821).toInt + (mHas gm lg x.toNatClampNeg 7497062).toInt + (gm 29 x.toNatClampNeg).toInt = 1 ∧ ((mHas gm lg x.toNatClampNeg 7497062).toInt = 0 ∨ (mIsW gm lg x.toNatClampNeg 7497062).toInt = 1)))) ∧ v = (sg, gm, lg)) (MB dC dI h0 ad cid A) A) ([.ref h0, .int x] : List Value).toArray s 0 0 A) (F0 m 32 ls [.int y0_32, .int y1_32]) := by
    intro y0_32 y1_32 hsx1_32 hy0_32 hy1_32 u32 u16 H locs ls hP hD hS hl
    refine lv_iadd hx hb dX13_isGoodHolder_32 ?_
    refine lv_topi (fun z_1 ez_1 => ?_)
    have hz_1 : iv 0 2 z_1 := iv_of ez_1 (iv_add hy1_32 hy0_32 (by decide))
    have tz_1 : z_1.toInt = (y1_32 : Int32).toInt + (y0_32 : Int32).toInt := by rw [ez_1]; exact iv_addE hy1_32 hy0_32 (by decide)
    refine lv_aload_n hx hb dX13_isGoodHolder_33 rfl (lv_at hl 0 rfl) ?_
    refine mr_get (v := .ref (ad 29)) hx hb htb inX13 hown hK hP 29 (by decide) (htb _ kw_185) rfl dX13_isGoodHolder_34 ?_
    refine lv_iload_n hx hb dX13_isGoodHolder_37 rfl (lv_at hl 1 rfl) ?_
    refine mr_iald hx hb hK hP 22 (k := 29) rfl rfl rfl (show vp_in x 80 from (iv_in hsx1_32 (by decide))) dX13_isGoodHolder_38 ?_
    refine lv_topi (fun z_2 ez_2 => ?_)
    have hz_2 : iv 0 80 z_2 := iv_of ez_2 (MI_a hI 29 hsx1_32 (by decide))
    refine lv_iadd hx hb dX13_isGoodHolder_39 ?_
    refine lv_topi (fun z_3 ez_3 => ?_)
    have hz_3 : iv 0 82 z_3 := iv_of ez_3 (iv_add hz_1 hz_2 (by decide))
    have tz_3 : z_3.toInt = (z_1 : Int32).toInt + (z_2 : Int32).toInt := by rw [ez_3]; exact iv_addE hz_1 hz_2 (by decide)
    refine lv_istore_n (lv' := [(2, .int z_3), (0, .ref h0), (1, .int x)]) hx hb dX13_isGoodHolder_40 rfl hl (by decide) rfl (fun ls hl => ?_)
    refine lv_iload_n hx hb dX13_isGoodHolder_41 rfl (lv_at hl 0 rfl) ?_
    refine lv_iconst (v := 1) hx hb dX13_isGoodHolder_42 (by decide) ?_
    refine lv_icmp_ne (tgt := 72) hx hb dX13_isGoodHolder_43 (by decide) (fun c_4 => ?_) (fun c_4 => ?_)
    · have d_5 : ¬ (z_3 : Int32).toInt = 1 := lv_neT c_4 rfl
      exact hj72 z_3 hz_3 hsx1_32 ((by have := (mHas_iv (gm := gm) (lg := lg) (x := x.toNatClampNeg) 508440638821).1; have := (mHas_iv (gm := gm) (lg := lg) (x := x.toNatClampNeg) 508440638821).2; have := (mHas_iv (gm := gm) (lg := lg) (x := x.toNatClampNeg) 7497062).1; have := (mHas_iv (gm := gm) (lg := lg) (x := x.toNatClampNeg) 7497062).2; have := congrArg Int32.toInt ez_2; have := i32_0; have := i32_1; have := i32_2; have := i32_m1; have := (hsx1_32).1; have := (hsx1_32).2; have := (hy0_32).1; have := (hy0_32).2; have := (hy1_32).1; have := (hy1_32).2; have := (hz_1).1; have := (hz_1).2; have := (hz_2).1; have := (hz_2).2; have := (hz_3).1; have := (hz_3).2; omega)) _ _ _ hP hD hS (lv_sub hl [0, 1, 2] rfl)
    · have h_6 : iv 1 1 z_3 := iv_eq c_4 hz_3 (iv_k (by decide) : iv 1 1 1) (by decide)
      refine lv_aload_n hx hb dX13_isGoodHolder_46 rfl (lv_at hl 1 rfl) ?_
      refine lv_iload_n hx hb dX13_isGoodHolder_47 rfl (lv_at hl 2 rfl) ?_
      refine lv_ldc2 (own := RX13) (v := 7497062) hx hb hown (htb _ kw_141) dX13_isGoodHolder_48 ?_
      refine mr_calli (rest := []) ⟨hx, hb, hml, hown, htb⟩ (f_has l dC dI h0 ad cid sg gm lg x 7497062 hI hsx1_32) (cwV 2 htb (gd_V kw_916 kw_917 kw_918 kw_5 kw_1543) rfl rfl rfl (by decide +kernel) ⟨Nat.le_of_ble_eq_true rfl, Nat.le_of_ble_eq_true rfl⟩) rfl hl.1 rfl (Nat.le_of_ble_eq_true rfl) dX13_isGoodHolder_51 ⟨Nat.zero_le _, Nat.zero_le _⟩ hK hP hD hS hA (fun r_7 u_8 H locs hw hP hD hS => ?_)
      obtain ⟨hr_7, fH_r_7, rfl⟩ := hw
      have hP : va_P (dC, dI) vwCl (mW h0 ad cid sg gm lg) H := hP
      have hD : va_D A (mW h0 ad cid sg gm lg) := hD
      refine lv_if_eq (tgt := 68) hx hb dX13_isGoodHolder_54 (by decide) (fun c_9 => ?_) (fun c_9 => ?_)
      · have h_10 : iv 0 0 r_7 := iv_eq c_9 hr_7 (iv_k (by decide) : iv 0 0 0) (by decide)
        exact hj68 z_3 h_6 hsx1_32 ((by have := (mHas_iv (gm := gm) (lg := lg) (x := x.toNatClampNeg) 508440638821).1; have := (mHas_iv (gm := gm) (lg := lg) (x := x.toNatClampNeg) 508440638821).2; have := (mHas_iv (gm := gm) (lg := lg) (x := x.toNatClampNeg) 7497062).1; have := (mHas_iv (gm := gm) (lg := lg) (x := x.toNatClampNeg) 7497062).2; have := congrArg Int32.toInt ez_2; have := i32_0; have := i32_1; have := i32_2; have := i32_m1; have := (hsx1_32).1; have := (hsx1_32).2; have := (hy0_32).1; have := (hy0_32).2; have := (hy1_32).1; have := (hy1_32).2; have := (hz_1).1; have := (hz_1).2; have := (hz_2).1; have := (hz_2).2; have := (h_6).1; have := (h_6).2; have := (h_10).1; have := (h_10).2; have := congrArg Int32.toInt fH_r_7; omega)) _ _ _ hP hD hS (lv_sub hl [0, 1, 2] rfl)
      · have h_11 : iv 1 1 r_7 := iv_neL c_9 hr_7 (by decide)
        refine lv_aload_n hx hb dX13_isGoodHolder_57 rfl (lv_at hl 1 rfl) ?_
        refine lv_iload_n hx hb dX13_isGoodHolder_58 rfl (lv_at hl 2 rfl) ?_
        refine lv_ldc2 (own := RX13) (v := 7497062) hx hb hown (htb _ kw_141) dX13_isGoodHolder_59 ?_
        refine mr_calli (rest := []) ⟨hx, hb, hml, hown, htb⟩ (f_isWord l dC dI h0 ad cid sg gm lg x 7497062 hI hsx1_32) (cwV 2 htb (gd_V kw_910 kw_911 kw_912 kw_5 kw_1541) rfl rfl rfl (by decide +kernel) ⟨Nat.le_of_ble_eq_true rfl, Nat.le_of_ble_eq_true rfl⟩) rfl hl.1 rfl (Nat.le_of_ble_eq_true rfl) dX13_isGoodHolder_62 ⟨Nat.zero_le _, Nat.zero_le _⟩ hK hP hD hS hA (fun r_12 u_13 H locs hw hP hD hS => ?_)
        obtain ⟨hr_12, fI_r_12, rfl⟩ := hw
        have hP : va_P (dC, dI) vwCl (mW h0 ad cid sg gm lg) H := hP
        have hD : va_D A (mW h0 ad cid sg gm lg) := hD
        refine lv_if_eq (tgt := 72) hx hb dX13_isGoodHolder_65 (by decide) (fun c_14 => ?_) (fun c_14 => ?_)
        · have h_15 : iv 0 0 r_12 := iv_eq c_14 hr_12 (iv_k (by decide) : iv 0 0 0) (by decide)
          exact hj72 z_3 (iv_w h_6 (by decide)) hsx1_32 ((by have := (mHas_iv (gm := gm) (lg := lg) (x := x.toNatClampNeg) 508440638821).1; have := (mHas_iv (gm := gm) (lg := lg) (x := x.toNatClampNeg) 508440638821).2; have := (mHas_iv (gm := gm) (lg := lg) (x := x.toNatClampNeg) 7497062).1; have := (mHas_iv (gm := gm) (lg := lg) (x := x.toNatClampNeg) 7497062).2; have := congrArg Int32.toInt ez_2; have := i32_0; have := i32_1; have := i32_2; have := i32_m1; have := (hsx1_32).1; have := (hsx1_32).2; have := (hy0_32).1; have := (hy0_32).2; have := (hy1_32).1; have := (hy1_32).2; have := (hz_1).1; have := (hz_1).2; have := (hz_2).1; have := (hz_2).2; have := (h_6).1; have := (h_6).2; have := (h_11).1; have := (h_11).2; have := (h_15).1; have := (h_15).2; have := congrArg Int32.toInt fH_r_7; have := congrArg Int32.toInt fI_r_12; omega)) _ _ _ hP hD hS (lv_sub hl [0, 1, 2] rfl)
        · have h_16 : iv 1 1 r_12 := iv_neL c_14 hr_12 (by decide)
          exact hj68 z_3 h_6 hsx1_32 ((by have := (mHas_iv (gm := gm) (lg := lg) (x := x.toNatClampNeg) 508440638821).1; have := (mHas_iv (gm := gm) (lg := lg) (x := x.toNatClampNeg) 508440638821).2; have := (mHas_iv (gm := gm) (lg := lg) (x := x.toNatClampNeg) 7497062).1; have := (mHas_iv (gm := gm) (lg := lg) (x := x.toNatClampNeg) 7497062).2; have := congrArg Int32.toInt ez_2; have := i32_0; have := i32_1; have := i32_2; have := i32_m1; have := (hsx1_32).1; have := (hsx1_32).2; have := (hy0_32).1; have := (hy0_32).2; have := (hy1_32).1; have := (hy1_32).2; have := (hz_1).1; have := (hz_1).2; have := (hz_2).1; have := (hz_2).2; have := (h_6).1; have := (h_6).2; have := (h_11).1; have := (h_11).2; have := (h_16).1; have := (h_16).2; have := congrArg Int32.toInt fH_r_7; have := congrArg Int32.toInt fI_r_12; omega)) _ _ _ hP hD hS (lv_sub hl [0, 1, 2] rfl)
  have hj16 : ∀ (y0_16 : Int32) (_ : iv 0 79 x) (_ : iv 0 1 y0_16) (_ : y0_16.toInt = (mHas gm lg x.toNatClampNeg 508440638821).toInt) (H : Heap) (locs : List Loc) (ls : Array Slot), va_P (dC, dI) vwCl (mW h0 ad cid sg gm lg) H → va_D A (mW h0 ad cid sg gm lg) → va_S A s.heap H locs → lv_has ls 3 [(0, .ref h0), (1, .int x)] → W p l e (headSpec wm_X13_isGoodHolder ({ frames := 2, cells := 0, slots := 0, locals := 49 })).room s m ([.ref h0, .int x] : List Value).toArray below meth c H locs 0 0 (MQ below (va_Qi (fun r v => (iv 0 1 r) ∧ ((r.toInt = 1 ∧ ((mHas gm lg x.toNatClampNeg 508440638821).toInt + (mHas gm lg x.toNatClampNeg 7497062).toInt + (gm 29 x.toNatClampNeg).toInt = 1 ∧ ((mHas gm lg x.toNatClampNeg 7497062).toInt = 0 ∨ (mIsW gm lg x.toNatClampNeg 7497062).toInt = 1))) ∨ (r.toInt = 0 ∧ ¬ ((mHas gm lg x.toNatClampNeg 508440638821).toInt + (mHas gm lg x.toNatClampNeg 7497062).toInt + (gm 29 x.toNatClampNeg).toInt = 1 ∧ ((mHas gm lg x.toNatClampNeg 7497062).toInt = 0 ∨ (mIsW gm lg x.toNatClampNeg 7497062).toInt = 1)))) ∧ v = (sg, gm, lg)) (MB dC dI h0 ad cid A) A) ([.ref h0, .int x] : List Value).toArray s 0 0 A) (F0 m 16 ls [.int y0_16]) := by
    intro y0_16 hsx1_16 hy0_16 u16 H locs ls hP hD hS hl
    refine lv_aload_n hx hb dX13_isGoodHolder_16 rfl (lv_at hl 0 rfl) ?_
    refine lv_iload_n hx hb dX13_isGoodHolder_17 rfl (lv_at hl 1 rfl) ?_
    refine lv_ldc2 (own := RX13) (v := 7497062) hx hb hown (htb _ kw_141) dX13_isGoodHolder_18 ?_
    refine mr_calli (rest := [.int y0_16]) ⟨hx, hb, hml, hown, htb⟩ (f_has l dC dI h0 ad cid sg gm lg x 7497062 hI hsx1_16) (cwV 2 htb (gd_V kw_916 kw_917 kw_918 kw_5 kw_1543) rfl rfl rfl (by decide +kernel) ⟨Nat.le_of_ble_eq_true rfl, Nat.le_of_ble_eq_true rfl⟩) rfl hl.1 rfl (Nat.le_of_ble_eq_true rfl) dX13_isGoodHolder_21 ⟨Nat.zero_le _, Nat.zero_le _⟩ hK hP hD hS hA (fun r_17 u_18 H locs hw hP hD hS => ?_)
    obtain ⟨hr_17, fH_r_17, rfl⟩ := hw
    have hP : va_P (dC, dI) vwCl (mW h0 ad cid sg gm lg) H := hP
    have hD : va_D A (mW h0 ad cid sg gm lg) := hD
    refine lv_if_eq (tgt := 31) hx hb dX13_isGoodHolder_24 (by decide) (fun c_19 => ?_) (fun c_19 => ?_)
    · have h_20 : iv 0 0 r_17 := iv_eq c_19 hr_17 (iv_k (by decide) : iv 0 0 0) (by decide)
      refine lv_iconst (v := 0) hx hb dX13_isGoodHolder_31 (by decide) ?_
      exact hj32 0 y0_16 hsx1_16 (iv_w (iv_k (by decide) : iv 0 0 0) (by decide)) hy0_16 ((by have := (mHas_iv (gm := gm) (lg := lg) (x := x.toNatClampNeg) 508440638821).1; have := (mHas_iv (gm := gm) (lg := lg) (x := x.toNatClampNeg) 508440638821).2; have := (mHas_iv (gm := gm) (lg := lg) (x := x.toNatClampNeg) 7497062).1; have := (mHas_iv (gm := gm) (lg := lg) (x := x.toNatClampNeg) 7497062).2; have := i32_0; have := i32_1; have := i32_2; have := i32_m1; have := (hsx1_16).1; have := (hsx1_16).2; have := (hy0_16).1; have := (hy0_16).2; have := (h_20).1; have := (h_20).2; have := congrArg Int32.toInt fH_r_17; omega)) (u16) _ _ _ hP hD hS (lv_sub hl [0, 1] rfl)
    · have h_21 : iv 1 1 r_17 := iv_neL c_19 hr_17 (by decide)
      refine lv_iconst (v := 1) hx hb dX13_isGoodHolder_27 (by decide) ?_
      refine lv_goto (tgt := 32) hx hb dX13_isGoodHolder_28 (by decide) ?_
      exact hj32 1 y0_16 hsx1_16 (iv_w (iv_k (by decide) : iv 1 1 1) (by decide)) hy0_16 ((by have := (mHas_iv (gm := gm) (lg := lg) (x := x.toNatClampNeg) 508440638821).1; have := (mHas_iv (gm := gm) (lg := lg) (x := x.toNatClampNeg) 508440638821).2; have := (mHas_iv (gm := gm) (lg := lg) (x := x.toNatClampNeg) 7497062).1; have := (mHas_iv (gm := gm) (lg := lg) (x := x.toNatClampNeg) 7497062).2; have := i32_0; have := i32_1; have := i32_2; have := i32_m1; have := (hsx1_16).1; have := (hsx1_16).2; have := (hy0_16).1; have := (hy0_16).2; have := (h_21).1; have := (h_21).2; have := congrArg Int32.toInt fH_r_17; omega)) (u16) _ _ _ hP hD hS (lv_sub hl [0, 1] rfl)
  refine lv_aload_n hx hb dX13_isGoodHolder_0 rfl (lv_at hl 0 rfl) ?_
  refine lv_iload_n hx hb dX13_isGoodHolder_1 rfl (lv_at hl 1 rfl) ?_
  refine lv_ldc2 (own := RX13) (v := 508440638821) hx hb hown (htb _ kw_140) dX13_isGoodHolder_2 ?_
  refine mr_calli (rest := []) ⟨hx, hb, hml, hown, htb⟩ (f_has l dC dI h0 ad cid sg gm lg x 508440638821 hI hvx) (cwV 2 htb (gd_V kw_916 kw_917 kw_918 kw_5 kw_1543) rfl rfl rfl (by decide +kernel) ⟨Nat.le_of_ble_eq_true rfl, Nat.le_of_ble_eq_true rfl⟩) rfl hl.1 rfl (Nat.le_of_ble_eq_true rfl) dX13_isGoodHolder_5 ⟨Nat.zero_le _, Nat.zero_le _⟩ hK hP hD hS hA (fun r_22 u_23 H locs hw hP hD hS => ?_)
  obtain ⟨hr_22, fH_r_22, rfl⟩ := hw
  have hP : va_P (dC, dI) vwCl (mW h0 ad cid sg gm lg) H := hP
  have hD : va_D A (mW h0 ad cid sg gm lg) := hD
  refine lv_if_eq (tgt := 15) hx hb dX13_isGoodHolder_8 (by decide) (fun c_24 => ?_) (fun c_24 => ?_)
  · have h_25 : iv 0 0 r_22 := iv_eq c_24 hr_22 (iv_k (by decide) : iv 0 0 0) (by decide)
    refine lv_iconst (v := 0) hx hb dX13_isGoodHolder_15 (by decide) ?_
    exact hj16 0 hvx (iv_w (iv_k (by decide) : iv 0 0 0) (by decide)) ((by have := (mHas_iv (gm := gm) (lg := lg) (x := x.toNatClampNeg) 508440638821).1; have := (mHas_iv (gm := gm) (lg := lg) (x := x.toNatClampNeg) 508440638821).2; have := (mHas_iv (gm := gm) (lg := lg) (x := x.toNatClampNeg) 7497062).1; have := (mHas_iv (gm := gm) (lg := lg) (x := x.toNatClampNeg) 7497062).2; have := i32_0; have := i32_1; have := i32_2; have := i32_m1; have := (hvx).1; have := (hvx).2; have := (h_25).1; have := (h_25).2; have := congrArg Int32.toInt fH_r_22; omega)) _ _ _ hP hD hS (lv_sub hl [0, 1] rfl)
  · have h_26 : iv 1 1 r_22 := iv_neL c_24 hr_22 (by decide)
    refine lv_iconst (v := 1) hx hb dX13_isGoodHolder_11 (by decide) ?_
    refine lv_goto (tgt := 16) hx hb dX13_isGoodHolder_12 (by decide) ?_
    exact hj16 1 hvx (iv_w (iv_k (by decide) : iv 1 1 1) (by decide)) ((by have := (mHas_iv (gm := gm) (lg := lg) (x := x.toNatClampNeg) 508440638821).1; have := (mHas_iv (gm := gm) (lg := lg) (x := x.toNatClampNeg) 508440638821).2; have := (mHas_iv (gm := gm) (lg := lg) (x := x.toNatClampNeg) 7497062).1; have := (mHas_iv (gm := gm) (lg := lg) (x := x.toNatClampNeg) 7497062).2; have := i32_0; have := i32_1; have := i32_2; have := i32_m1; have := (hvx).1; have := (hvx).2; have := (h_26).1; have := (h_26).2; have := congrArg Int32.toInt fH_r_22; omega)) _ _ _ hP hD hS (lv_sub hl [0, 1] rfl)
end
section
/-- alike: in the same element, of the same kind, and if asked of the same name -/
abbrev AQ7 (gm : Nat → Nat → Int32) (lg : Nat → Nat → Int64) (f : Int) (e k : Nat) : Prop := (gm 28 k).toInt = (gm 28 e).toInt ∧ (gm 26 k).toInt = (gm 26 e).toInt ∧ (f = 0 ∨ (mWord gm lg k 1851878757).toInt = (mWord gm lg e 1851878757).toInt)
def ahF (gm : Nat → Nat → Int32) (lg : Nat → Nat → Int64) (f : Int) (e : Nat) : Nat → Nat
  | 0 => 0
  | k + 1 => ahF gm lg f e k + (if AQ7 gm lg f e k then 1 else 0)
theorem ahF_s {gm : Nat → Nat → Int32} {lg : Nat → Nat → Int64} {f : Int} {i i2 n t z : Int32} {e : Nat} (hi : iv 0 78 i) (h2 : i2.toInt = i.toInt + 1) (hz : z.toInt = n.toInt + t.toInt) (hn : n.toInt = (ahF gm lg f e i.toNatClampNeg : Int)) (ht : (t.toInt = 1 ∧ AQ7 gm lg f e i.toNatClampNeg) ∨ (t.toInt = 0 ∧ ¬ AQ7 gm lg f e i.toNatClampNeg)) : z.toInt = (ahF gm lg f e i2.toNatClampNeg : Int) := by
  have k0 := hi.1
  have k1 := hi.2
  have k2 := iv_cl hi (by decide)
  have k3 := iv_cl (show iv 0 79 i2 from ⟨by omega, by omega⟩) (by decide)
  have k4 : i2.toNatClampNeg = i.toNatClampNeg + 1 := by omega
  rw [k4]
  show _ = ((ahF gm lg f e i.toNatClampNeg + (if AQ7 gm lg f e i.toNatClampNeg then 1 else 0) : Nat) : Int)
  rcases ht with ⟨t1, t2⟩ | ⟨t1, t2⟩
  · rw [if_pos t2, hz, hn, t1]; rfl
  · rw [if_neg t2, hz, hn, t1]; rfl

set_option maxHeartbeats 4000000 in
set_option maxRecDepth 100000 in
theorem f_ahead2 (l : Launch) (dC : Nat → ClassId) (dI : Nat → Nat → Nat) (h0 : Nat) (ad : Nat → Nat) (cid : Nat → ClassId) (sg : Nat → Int32) (gm : Nat → Nat → Int32) (lg : Nat → Nat → Int64) (x : Int32) (f : Int32) (hI : MI sg gm) (hvx : iv 0 79 x) (hvf : iv 0 1 f) : MMi l dC dI yX13_ahead wm_X13_ahead ({ frames := 2, cells := 0, slots := 0, locals := 51 }) h0 ad cid [.int x, .int f] sg gm lg (fun r v => (iv 0 79 r) ∧ (r.toInt = (ahF gm lg f.toInt x.toNatClampNeg x.toNatClampNeg : Int)) ∧ v = (sg, gm, lg)) := by
  intro sz
  refine Met.ofW (cc := cX13_ahead) (maxL := 5) (ret := (some .int)) (by decide) rfl ?_
  intro p e s m args below meth c s₁ B hml hv
  obtain ⟨rfl, hsz, hP, hK, hD0⟩ := hv
  have hx := B.exec
  have hb := B.bytes
  have hr := B.returns
  have hts := atoms_spec (ws := wm_X13_ahead) B.pre
  have htb := fun (w : Cond) (h : w ∈ tb) => hts w (List.mem_cons_of_mem _ h)
  have hown : s.vm.findClass RX13 = some m.cls := findClass_of_methodNamed B.named
  have hlocks := B.notSynchronized
  subst hsz
  have hD := hD0.self (sz := s.heap.size)
  generalize hAe : va_A (mW h0 ad cid sg gm lg) s.heap.size = A at hD ⊢
  have hA : ∀ q : Nat, s.heap.size ≤ q → A q := fun q h => by rw [← hAe]; exact Or.inr h
  have hS : va_S A s.heap s.heap [] := va_S.rf
  have hl := lv_entry ([.ref h0, .int x, .int f]) (n := 5) (Nat.le_of_ble_eq_true rfl)
  rw [lg_entry_eq]
  generalize (lg_sl ([.ref h0, .int x, .int f]) ++ List.replicate (5 - (lg_sl ([.ref h0, .int x, .int f])).length) Slot.unset).toArray = ls at hl ⊢
  have hl : lv_has ls 5 [(0, .ref h0), (1, .int x), (2, .int f)] := hl
  have hj5 : ∀ (n : Nat) (x4_5 : Int32) (x3_5 : Int32) (_ : (79 - x4_5.toInt).toNat = n) (_ : iv 0 79 x4_5) (_ : iv 0 79 x3_5) (_ : iv 0 79 x) (_ : iv 0 1 f) (_ : x3_5.toInt = (ahF gm lg f.toInt x.toNatClampNeg x4_5.toNatClampNeg : Int)) (_ : x3_5.toInt ≤ x4_5.toInt) (_ : x4_5.toInt ≤ x.toInt) (H : Heap) (locs : List Loc) (ls : Array Slot), va_P (dC, dI) vwCl (mW h0 ad cid sg gm lg) H → va_D A (mW h0 ad cid sg gm lg) → va_S A s.heap H locs → lv_has ls 5 [(4, .int x4_5), (3, .int x3_5), (0, .ref h0), (1, .int x), (2, .int f)] → W p l e (headSpec wm_X13_ahead ({ frames := 2, cells := 0, slots := 0, locals := 51 })).room s m ([.ref h0, .int x, .int f] : List Value).toArray below meth c H locs 0 0 (MQ below (va_Qi (fun r v => (iv 0 79 r) ∧ (r.toInt = (ahF gm lg f.toInt x.toNatClampNeg x.toNatClampNeg : Int)) ∧ v = (sg, gm, lg)) (MB dC dI h0 ad cid A) A) ([.ref h0, .int x, .int f] : List Value).toArray s 0 0 A) (F0 m 5 ls []) := by
    intro n
    induction n using Nat.strongRecOn with
    | ind n ih5 =>
      intro x4_5 x3_5 hn5 hx4_5 hx3_5 hsx1_5 hsx2_5 hc hle hlx H locs ls hP hD hS hl
      have hj74 : ∀ (y0_74 : Int32) (_ : iv 0 78 x4_5) (_ : iv 0 79 x3_5) (_ : iv 1 79 x) (_ : iv 0 1 f) (_ : iv 0 1 y0_74) (_ : iv 0 79 x3_5) (_ : x4_5.toInt < x.toInt) (_ : (y0_74.toInt = 1 ∧ (AQ7 gm lg f.toInt x.toNatClampNeg x4_5.toNatClampNeg)) ∨ (y0_74.toInt = 0 ∧ ¬ (AQ7 gm lg f.toInt x.toNatClampNeg x4_5.toNatClampNeg))) (H : Heap) (locs : List Loc) (ls : Array Slot), va_P (dC, dI) vwCl (mW h0 ad cid sg gm lg) H → va_D A (mW h0 ad cid sg gm lg) → va_S A s.heap H locs → lv_has ls 5 [(4, .int x4_5), (3, .int x3_5), (0, .ref h0), (1, .int x), (2, .int f)] → W p l e (headSpec wm_X13_ahead ({ frames := 2, cells := 0, slots := 0, locals := 51 })).room s m ([.ref h0, .int x, .int f] : List Value).toArray below meth c H locs 0 0 (MQ below (va_Qi (fun r v => (iv 0 79 r) ∧ (r.toInt = (ahF gm lg f.toInt x.toNatClampNeg x.toNatClampNeg : Int)) ∧ v = (sg, gm, lg)) (MB dC dI h0 ad cid A) A) ([.ref h0, .int x, .int f] : List Value).toArray s 0 0 A) (F0 m 74 ls [.int y0_74, .int x3_5]) := by
        intro y0_74 hsx4_74 hsx3_74 hsx1_74 hsx2_74 hy0_74 hsy1_74 hl4 u74 H locs ls hP hD hS hl
        refine lv_iadd hx hb dX13_ahead_74 ?_
        refine lv_topi (fun z_1 ez_1 => ?_)
        have hz_1 : iv 0 80 z_1 := iv_of ez_1 (iv_add hsy1_74 hy0_74 (by decide))
        have tz_1 : z_1.toInt = (x3_5 : Int32).toInt + (y0_74 : Int32).toInt := by rw [ez_1]; exact iv_addE hsy1_74 hy0_74 (by decide)
        have h75 : iv 0 79 z_1 := ⟨(hz_1).1, by have := i32_0; have := i32_1; have := i32_2; have := i32_m1; have := (hsx1_74).1; have := (hsx1_74).2; have := (hsx2_74).1; have := (hsx2_74).2; have := (hsx4_74).1; have := (hsx4_74).2; have := (hsy1_74).1; have := (hsy1_74).2; have := (hy0_74).1; have := (hy0_74).2; have := (hz_1).1; have := (hz_1).2; omega⟩
        refine lv_istore_n (lv' := [(3, .int z_1), (4, .int x4_5), (0, .ref h0), (1, .int x), (2, .int f)]) hx hb dX13_ahead_75 rfl hl (by decide) rfl (fun ls hl => ?_)
        obtain ⟨z_2, ez_2⟩ : ∃ z : Int32, z = x4_5 + 1 := ⟨_, rfl⟩
        have hz_2 : iv 1 79 z_2 := iv_of ez_2 (iv_add hsx4_74 (iv_k (by decide) : iv 1 1 1) (by decide))
        have tz_2 : z_2.toInt = x4_5.toInt + 1 := by rw [ez_2]; exact iv_addE hsx4_74 (iv_k (by decide) : iv 1 1 1) (by decide)
        refine lv_iinc (v := z_2) (lv' := [(4, .int z_2), (3, .int z_1), (0, .ref h0), (1, .int x), (2, .int f)]) hx hb dX13_ahead_76 hl (k := 1) rfl ez_2.symm (by decide) rfl (fun ls hl => ?_)
        refine lv_goto (tgt := 5) hx hb dX13_ahead_79 (by decide) ?_
        exact ih5 _ (by rw [← hn5]; exact (iv_meas tz_2 hsx4_74 (by decide))) z_2 z_1 rfl (iv_w hz_2 (by decide)) h75 (iv_w hsx1_74 (by decide)) hsx2_74 (ahF_s hsx4_74 tz_2 tz_1 hc u74) (by have := i32_0; have := i32_1; have := i32_2; have := i32_m1; have := (show iv 0 1200 (sg 20) from MI_s hI 20).1; have := (show iv 0 1200 (sg 20) from MI_s hI 20).2; have := (show iv 0 1201 (sg 21) from MI_s hI 21).1; have := (show iv 0 1201 (sg 21) from MI_s hI 21).2; have := (show iv 0 3 (sg 22) from MI_s hI 22).1; have := (show iv 0 3 (sg 22) from MI_s hI 22).2; have := (show iv 0 80 (sg 24) from MI_s hI 24).1; have := (show iv 0 80 (sg 24) from MI_s hI 24).2; have := (show iv 0 1201 (sg 25) from MI_s hI 25).1; have := (show iv 0 1201 (sg 25) from MI_s hI 25).2; have := (hsx1_74).1; have := (hsx1_74).2; have := (hsx2_74).1; have := (hsx2_74).2; have := (hsx4_74).1; have := (hsx4_74).2; have := (hsy1_74).1; have := (hsy1_74).2; have := (hy0_74).1; have := (hy0_74).2; have := (h75).1; have := (h75).2; have := (hz_2).1; have := (hz_2).2; omega) (by have := i32_0; have := i32_1; have := i32_2; have := i32_m1; have := (show iv 0 1200 (sg 20) from MI_s hI 20).1; have := (show iv 0 1200 (sg 20) from MI_s hI 20).2; have := (show iv 0 1201 (sg 21) from MI_s hI 21).1; have := (show iv 0 1201 (sg 21) from MI_s hI 21).2; have := (show iv 0 3 (sg 22) from MI_s hI 22).1; have := (show iv 0 3 (sg 22) from MI_s hI 22).2; have := (show iv 0 80 (sg 24) from MI_s hI 24).1; have := (show iv 0 80 (sg 24) from MI_s hI 24).2; have := (show iv 0 1201 (sg 25) from MI_s hI 25).1; have := (show iv 0 1201 (sg 25) from MI_s hI 25).2; have := (hsx1_74).1; have := (hsx1_74).2; have := (hsx2_74).1; have := (hsx2_74).2; have := (hsx4_74).1; have := (hsx4_74).2; have := (hsy1_74).1; have := (hsy1_74).2; have := (hy0_74).1; have := (hy0_74).2; have := (h75).1; have := (h75).2; have := (hz_2).1; have := (hz_2).2; omega) _ _ _ hP hD hS (lv_sub hl [0, 1, 2, 3, 4] rfl)
      have hj73 : ∀ (_ : iv 0 78 x4_5) (_ : iv 0 79 x3_5) (_ : iv 1 79 x) (_ : iv 0 1 f) (_ : iv 0 79 x3_5) (_ : ¬ AQ7 gm lg f.toInt x.toNatClampNeg x4_5.toNatClampNeg) (_ : x4_5.toInt < x.toInt) (H : Heap) (locs : List Loc) (ls : Array Slot), va_P (dC, dI) vwCl (mW h0 ad cid sg gm lg) H → va_D A (mW h0 ad cid sg gm lg) → va_S A s.heap H locs → lv_has ls 5 [(4, .int x4_5), (3, .int x3_5), (0, .ref h0), (1, .int x), (2, .int f)] → W p l e (headSpec wm_X13_ahead ({ frames := 2, cells := 0, slots := 0, locals := 51 })).room s m ([.ref h0, .int x, .int f] : List Value).toArray below meth c H locs 0 0 (MQ below (va_Qi (fun r v => (iv 0 79 r) ∧ (r.toInt = (ahF gm lg f.toInt x.toNatClampNeg x.toNatClampNeg : Int)) ∧ v = (sg, gm, lg)) (MB dC dI h0 ad cid A) A) ([.ref h0, .int x, .int f] : List Value).toArray s 0 0 A) (F0 m 73 ls [.int x3_5]) := by
        intro  hsx4_73 hsx3_73 hsx1_73 hsx2_73 hsy0_73 u73 hl4 H locs ls hP hD hS hl
        refine lv_iconst (v := 0) hx hb dX13_ahead_73 (by decide) ?_
        exact hj74 0 hsx4_73 hsy0_73 hsx1_73 hsx2_73 (iv_w (iv_k (by decide) : iv 0 0 0) (by decide)) hsy0_73 (by have := i32_0; have := i32_1; have := i32_2; have := i32_m1; have := (show iv 0 1200 (sg 20) from MI_s hI 20).1; have := (show iv 0 1200 (sg 20) from MI_s hI 20).2; have := (show iv 0 1201 (sg 21) from MI_s hI 21).1; have := (show iv 0 1201 (sg 21) from MI_s hI 21).2; have := (show iv 0 3 (sg 22) from MI_s hI 22).1; have := (show iv 0 3 (sg 22) from MI_s hI 22).2; have := (show iv 0 80 (sg 24) from MI_s hI 24).1; have := (show iv 0 80 (sg 24) from MI_s hI 24).2; have := (show iv 0 1201 (sg 25) from MI_s hI 25).1; have := (show iv 0 1201 (sg 25) from MI_s hI 25).2; have := (hsx1_73).1; have := (hsx1_73).2; have := (hsx2_73).1; have := (hsx2_73).2; have := (hsx4_73).1; have := (hsx4_73).2; have := (hsy0_73).1; have := (hsy0_73).2; omega) (Or.inr ⟨rfl, u73⟩) _ _ _ hP hD hS (lv_sub hl [0, 1, 2, 3, 4] rfl)
      have hj69 : ∀ (_ : iv 0 78 x4_5) (_ : iv 0 79 x3_5) (_ : iv 1 79 x) (_ : iv 0 1 f) (_ : iv 0 79 x3_5) (_ : AQ7 gm lg f.toInt x.toNatClampNeg x4_5.toNatClampNeg) (_ : x4_5.toInt < x.toInt) (H : Heap) (locs : List Loc) (ls : Array Slot), va_P (dC, dI) vwCl (mW h0 ad cid sg gm lg) H → va_D A (mW h0 ad cid sg gm lg) → va_S A s.heap H locs → lv_has ls 5 [(4, .int x4_5), (3, .int x3_5), (0, .ref h0), (1, .int x), (2, .int f)] → W p l e (headSpec wm_X13_ahead ({ frames := 2, cells := 0, slots := 0, locals := 51 })).room s m ([.ref h0, .int x, .int f] : List Value).toArray below meth c H locs 0 0 (MQ below (va_Qi (fun r v => (iv 0 79 r) ∧ (r.toInt = (ahF gm lg f.toInt x.toNatClampNeg x.toNatClampNeg : Int)) ∧ v = (sg, gm, lg)) (MB dC dI h0 ad cid A) A) ([.ref h0, .int x, .int f] : List Value).toArray s 0 0 A) (F0 m 69 ls [.int x3_5]) := by
        intro  hsx4_69 hsx3_69 hsx1_69 hsx2_69 hsy0_69 u69 hl4 H locs ls hP hD hS hl
        refine lv_iconst (v := 1) hx hb dX13_ahead_69 (by decide) ?_
        refine lv_goto (tgt := 74) hx hb dX13_ahead_70 (by decide) ?_
        exact hj74 1 hsx4_69 hsy0_69 hsx1_69 hsx2_69 (iv_w (iv_k (by decide) : iv 1 1 1) (by decide)) hsy0_69 (by have := i32_0; have := i32_1; have := i32_2; have := i32_m1; have := (show iv 0 1200 (sg 20) from MI_s hI 20).1; have := (show iv 0 1200 (sg 20) from MI_s hI 20).2; have := (show iv 0 1201 (sg 21) from MI_s hI 21).1; have := (show iv 0 1201 (sg 21) from MI_s hI 21).2; have := (show iv 0 3 (sg 22) from MI_s hI 22).1; have := (show iv 0 3 (sg 22) from MI_s hI 22).2; have := (show iv 0 80 (sg 24) from MI_s hI 24).1; have := (show iv 0 80 (sg 24) from MI_s hI 24).2; have := (show iv 0 1201 (sg 25) from MI_s hI 25).1; have := (show iv 0 1201 (sg 25) from MI_s hI 25).2; have := (hsx1_69).1; have := (hsx1_69).2; have := (hsx2_69).1; have := (hsx2_69).2; have := (hsx4_69).1; have := (hsx4_69).2; have := (hsy0_69).1; have := (hsy0_69).2; omega) (Or.inl ⟨rfl, u69⟩) _ _ _ hP hD hS (lv_sub hl [0, 1, 2, 3, 4] rfl)
      refine lv_iload hx hb dX13_ahead_5 (lv_at hl 0 rfl) ?_
      refine lv_iload_n hx hb dX13_ahead_7 rfl (lv_at hl 3 rfl) ?_
      refine lv_icmp_ge (tgt := 82) hx hb dX13_ahead_8 (by decide) (fun c_3 => ?_) (fun c_3 => ?_)
      · have d_4 : (x : Int32).toInt ≤ (x4_5 : Int32).toInt := Int32.le_iff_toInt_le.mp c_3
        refine lv_iload_n hx hb dX13_ahead_82 rfl (lv_at hl 1 rfl) ?_
        exact W.iret (v := x3_5) hx hb hr (fun t ht hW => ⟨⟨x3_5, (sg, gm, lg), rfl, ⟨hx3_5, (by have q9 : x4_5.toNatClampNeg = x.toNatClampNeg := (by have := iv_cl hx4_5 (by decide); have := iv_cl hvx (by decide); have := hlx; omega); rw [q9] at hc; exact hc), rfl⟩, by rw [ht]; exact hP, va_K.moved hW.alike hK, hD⟩, hS.F ht⟩) hS.2.2 dX13_ahead_83
      · have d_5 : (x4_5 : Int32).toInt < (x : Int32).toInt := Int32.lt_iff_toInt_lt.mp (i32_lt c_3)
        have h_6 : iv 0 78 x4_5 := iv_ltL (i32_lt c_3) hx4_5 hsx1_5 (by decide)
        have h_7 : iv 1 79 x := iv_ltR (i32_lt c_3) hx4_5 hsx1_5 (by decide)
        refine lv_iload_n hx hb dX13_ahead_11 rfl (lv_at hl 1 rfl) ?_
        refine lv_aload_n hx hb dX13_ahead_12 rfl (lv_at hl 2 rfl) ?_
        refine mr_get (v := .ref (ad 28)) hx hb htb inX13 hown hK hP 28 (by decide) (htb _ kw_184) rfl dX13_ahead_13 ?_
        refine lv_iload hx hb dX13_ahead_16 (lv_at hl 0 rfl) ?_
        refine mr_iald hx hb hK hP 21 (k := 28) rfl rfl rfl (show vp_in x4_5 80 from (iv_in h_6 (by decide))) dX13_ahead_18 ?_
        refine lv_topi (fun z_8 ez_8 => ?_)
        have hz_8 : iv (-1) 79 z_8 := iv_of ez_8 (MI_a hI 28 h_6 (by decide))
        refine lv_aload_n hx hb dX13_ahead_19 rfl (lv_at hl 2 rfl) ?_
        refine mr_get (v := .ref (ad 28)) hx hb htb inX13 hown hK hP 28 (by decide) (htb _ kw_184) rfl dX13_ahead_20 ?_
        refine lv_iload_n hx hb dX13_ahead_23 rfl (lv_at hl 3 rfl) ?_
        refine mr_iald hx hb hK hP 21 (k := 28) rfl rfl rfl (show vp_in x 80 from (iv_in h_7 (by decide))) dX13_ahead_24 ?_
        refine lv_topi (fun z_9 ez_9 => ?_)
        have hz_9 : iv (-1) 79 z_9 := iv_of ez_9 (MI_a hI 28 h_7 (by decide))
        refine lv_icmp_ne (tgt := 73) hx hb dX13_ahead_25 (by decide) (fun c_10 => ?_) (fun c_10 => ?_)
        · exact hj73 h_6 hx3_5 h_7 hsx2_5 hx3_5 ((by have := congrArg Int32.toInt ez_8; have := congrArg Int32.toInt ez_9; have : ¬ z_8.toInt = z_9.toInt := fun q => c_10 (Int32.toInt_inj.mp q); unfold AQ7; have := i32_0; have := i32_1; have := i32_2; have := i32_m1; have := (h_7).1; have := (h_7).2; have := (hsx2_5).1; have := (hsx2_5).2; have := (h_6).1; have := (h_6).2; have := (hx3_5).1; have := (hx3_5).2; have := (hz_8).1; have := (hz_8).2; have := (hz_9).1; have := (hz_9).2; omega)) (by have := i32_0; have := i32_1; have := i32_2; have := i32_m1; have := (show iv 0 1200 (sg 20) from MI_s hI 20).1; have := (show iv 0 1200 (sg 20) from MI_s hI 20).2; have := (show iv 0 1201 (sg 21) from MI_s hI 21).1; have := (show iv 0 1201 (sg 21) from MI_s hI 21).2; have := (show iv 0 3 (sg 22) from MI_s hI 22).1; have := (show iv 0 3 (sg 22) from MI_s hI 22).2; have := (show iv 0 80 (sg 24) from MI_s hI 24).1; have := (show iv 0 80 (sg 24) from MI_s hI 24).2; have := (show iv 0 1201 (sg 25) from MI_s hI 25).1; have := (show iv 0 1201 (sg 25) from MI_s hI 25).2; have := (h_7).1; have := (h_7).2; have := (hsx2_5).1; have := (hsx2_5).2; have := (h_6).1; have := (h_6).2; have := (hx3_5).1; have := (hx3_5).2; have := (hz_8).1; have := (hz_8).2; have := (hz_9).1; have := (hz_9).2; omega) _ _ _ hP hD hS (lv_sub hl [0, 1, 2, 3, 4] rfl)
        · have d_11 : (z_8 : Int32).toInt = (z_9 : Int32).toInt := congrArg Int32.toInt c_10
          refine lv_aload_n hx hb dX13_ahead_28 rfl (lv_at hl 2 rfl) ?_
          refine mr_get (v := .ref (ad 26)) hx hb htb inX13 hown hK hP 26 (by decide) (htb _ kw_182) rfl dX13_ahead_29 ?_
          refine lv_iload hx hb dX13_ahead_32 (lv_at hl 0 rfl) ?_
          refine mr_iald hx hb hK hP 19 (k := 26) rfl rfl rfl (show vp_in x4_5 80 from (iv_in h_6 (by decide))) dX13_ahead_34 ?_
          refine lv_topi (fun z_12 ez_12 => ?_)
          have hz_12 : iv 0 10 z_12 := iv_of ez_12 (MI_a hI 26 h_6 (by decide))
          refine lv_aload_n hx hb dX13_ahead_35 rfl (lv_at hl 2 rfl) ?_
          refine mr_get (v := .ref (ad 26)) hx hb htb inX13 hown hK hP 26 (by decide) (htb _ kw_182) rfl dX13_ahead_36 ?_
          refine lv_iload_n hx hb dX13_ahead_39 rfl (lv_at hl 3 rfl) ?_
          refine mr_iald hx hb hK hP 19 (k := 26) rfl rfl rfl (show vp_in x 80 from (iv_in h_7 (by decide))) dX13_ahead_40 ?_
          refine lv_topi (fun z_13 ez_13 => ?_)
          have hz_13 : iv 0 10 z_13 := iv_of ez_13 (MI_a hI 26 h_7 (by decide))
          refine lv_icmp_ne (tgt := 73) hx hb dX13_ahead_41 (by decide) (fun c_14 => ?_) (fun c_14 => ?_)
          · exact hj73 h_6 hx3_5 h_7 hsx2_5 hx3_5 ((by have := congrArg Int32.toInt ez_8; have := congrArg Int32.toInt ez_9; have := congrArg Int32.toInt ez_12; have := congrArg Int32.toInt ez_13; have := congrArg Int32.toInt c_10; have : ¬ z_12.toInt = z_13.toInt := fun q => c_14 (Int32.toInt_inj.mp q); unfold AQ7; have := i32_0; have := i32_1; have := i32_2; have := i32_m1; have := (h_7).1; have := (h_7).2; have := (hsx2_5).1; have := (hsx2_5).2; have := (h_6).1; have := (h_6).2; have := (hx3_5).1; have := (hx3_5).2; have := (hz_8).1; have := (hz_8).2; have := (hz_9).1; have := (hz_9).2; have := (hz_12).1; have := (hz_12).2; have := (hz_13).1; have := (hz_13).2; omega)) (by have := i32_0; have := i32_1; have := i32_2; have := i32_m1; have := (show iv 0 1200 (sg 20) from MI_s hI 20).1; have := (show iv 0 1200 (sg 20) from MI_s hI 20).2; have := (show iv 0 1201 (sg 21) from MI_s hI 21).1; have := (show iv 0 1201 (sg 21) from MI_s hI 21).2; have := (show iv 0 3 (sg 22) from MI_s hI 22).1; have := (show iv 0 3 (sg 22) from MI_s hI 22).2; have := (show iv 0 80 (sg 24) from MI_s hI 24).1; have := (show iv 0 80 (sg 24) from MI_s hI 24).2; have := (show iv 0 1201 (sg 25) from MI_s hI 25).1; have := (show iv 0 1201 (sg 25) from MI_s hI 25).2; have := (h_7).1; have := (h_7).2; have := (hsx2_5).1; have := (hsx2_5).2; have := (h_6).1; have := (h_6).2; have := (hx3_5).1; have := (hx3_5).2; have := (hz_8).1; have := (hz_8).2; have := (hz_9).1; have := (hz_9).2; have := (hz_12).1; have := (hz_12).2; have := (hz_13).1; have := (hz_13).2; omega) _ _ _ hP hD hS (lv_sub hl [0, 1, 2, 3, 4] rfl)
          · have d_15 : (z_12 : Int32).toInt = (z_13 : Int32).toInt := congrArg Int32.toInt c_14
            refine lv_iload_n hx hb dX13_ahead_44 rfl (lv_at hl 4 rfl) ?_
            refine lv_if_eq (tgt := 69) hx hb dX13_ahead_45 (by decide) (fun c_16 => ?_) (fun c_16 => ?_)
            · have h_17 : iv 0 0 f := iv_eq c_16 hsx2_5 (iv_k (by decide) : iv 0 0 0) (by decide)
              exact hj69 h_6 hx3_5 h_7 (iv_w h_17 (by decide)) hx3_5 ((by have := congrArg Int32.toInt ez_8; have := congrArg Int32.toInt ez_9; have := congrArg Int32.toInt ez_12; have := congrArg Int32.toInt ez_13; have := congrArg Int32.toInt c_10; have := congrArg Int32.toInt c_14; unfold AQ7; have := i32_0; have := i32_1; have := i32_2; have := i32_m1; have := (h_7).1; have := (h_7).2; have := (h_17).1; have := (h_17).2; have := (h_6).1; have := (h_6).2; have := (hx3_5).1; have := (hx3_5).2; have := (hz_8).1; have := (hz_8).2; have := (hz_9).1; have := (hz_9).2; have := (hz_12).1; have := (hz_12).2; have := (hz_13).1; have := (hz_13).2; omega)) (by have := i32_0; have := i32_1; have := i32_2; have := i32_m1; have := (show iv 0 1200 (sg 20) from MI_s hI 20).1; have := (show iv 0 1200 (sg 20) from MI_s hI 20).2; have := (show iv 0 1201 (sg 21) from MI_s hI 21).1; have := (show iv 0 1201 (sg 21) from MI_s hI 21).2; have := (show iv 0 3 (sg 22) from MI_s hI 22).1; have := (show iv 0 3 (sg 22) from MI_s hI 22).2; have := (show iv 0 80 (sg 24) from MI_s hI 24).1; have := (show iv 0 80 (sg 24) from MI_s hI 24).2; have := (show iv 0 1201 (sg 25) from MI_s hI 25).1; have := (show iv 0 1201 (sg 25) from MI_s hI 25).2; have := (h_7).1; have := (h_7).2; have := (h_17).1; have := (h_17).2; have := (h_6).1; have := (h_6).2; have := (hx3_5).1; have := (hx3_5).2; have := (hz_8).1; have := (hz_8).2; have := (hz_9).1; have := (hz_9).2; have := (hz_12).1; have := (hz_12).2; have := (hz_13).1; have := (hz_13).2; omega) _ _ _ hP hD hS (lv_sub hl [0, 1, 2, 3, 4] rfl)
            · have h_18 : iv 1 1 f := iv_neL c_16 hsx2_5 (by decide)
              refine lv_aload_n hx hb dX13_ahead_48 rfl (lv_at hl 2 rfl) ?_
              refine lv_iload hx hb dX13_ahead_49 (lv_at hl 0 rfl) ?_
              refine lv_ldc2 (own := RX13) (v := 1851878757) hx hb hown (htb _ kw_887) dX13_ahead_51 ?_
              refine mr_calll (rest := [.int x3_5]) ⟨hx, hb, hml, hown, htb⟩ (f_word l dC dI h0 ad cid sg gm lg x4_5 1851878757 hI (iv_w h_6 (by decide))) (cwV 2 htb (gd_V kw_923 kw_924 kw_925 kw_5 kw_1545) rfl rfl rfl (by decide +kernel) ⟨Nat.le_of_ble_eq_true rfl, Nat.le_of_ble_eq_true rfl⟩) rfl hl.1 rfl (Nat.le_of_ble_eq_true rfl) dX13_ahead_54 ⟨Nat.zero_le _, Nat.zero_le _⟩ hK hP hD hS hA (fun r_19 u_20 H locs hw hP hD hS => ?_)
              obtain ⟨fW_r_19, rfl⟩ := hw
              have hP : va_P (dC, dI) vwCl (mW h0 ad cid sg gm lg) H := hP
              have hD : va_D A (mW h0 ad cid sg gm lg) := hD
              refine lv_aload_n hx hb dX13_ahead_57 rfl (lv_at hl 2 rfl) ?_
              refine lv_iload_n hx hb dX13_ahead_58 rfl (lv_at hl 3 rfl) ?_
              refine lv_ldc2 (own := RX13) (v := 1851878757) hx hb hown (htb _ kw_887) dX13_ahead_59 ?_
              refine mr_calll (rest := [.long r_19, .int x3_5]) ⟨hx, hb, hml, hown, htb⟩ (f_word l dC dI h0 ad cid sg gm lg x 1851878757 hI (iv_w h_7 (by decide))) (cwV 2 htb (gd_V kw_923 kw_924 kw_925 kw_5 kw_1545) rfl rfl rfl (by decide +kernel) ⟨Nat.le_of_ble_eq_true rfl, Nat.le_of_ble_eq_true rfl⟩) rfl hl.1 rfl (Nat.le_of_ble_eq_true rfl) dX13_ahead_62 ⟨Nat.zero_le _, Nat.zero_le _⟩ hK hP hD hS hA (fun r_21 u_22 H locs hw hP hD hS => ?_)
              obtain ⟨fW_r_21, rfl⟩ := hw
              have hP : va_P (dC, dI) vwCl (mW h0 ad cid sg gm lg) H := hP
              have hD : va_D A (mW h0 ad cid sg gm lg) := hD
              refine W.lcmp hx hb dX13_ahead_65 ?_
              refine lv_topi (fun z_23 ez_23 => ?_)
              have hz_23 : iv (-1) 1 z_23 := iv_of ez_23 (iv_cmp _ _)
              have hl_z_23 := lg_tr7 ez_23
              refine lv_if_ne (tgt := 73) hx hb dX13_ahead_66 (by decide) (fun c_24 => ?_) (fun c_24 => ?_)
              · have d_25 : ¬ (z_23 : Int32).toInt = 0 := lv_neT c_24 rfl
                exact hj73 h_6 hx3_5 h_7 (iv_w h_18 (by decide)) hx3_5 ((by have := congrArg Int32.toInt ez_8; have := congrArg Int32.toInt ez_9; have := congrArg Int32.toInt ez_12; have := congrArg Int32.toInt ez_13; have := congrArg Int32.toInt c_10; have := congrArg Int32.toInt c_14; have := congrArg Int64.toInt fW_r_19; have := congrArg Int64.toInt fW_r_21; unfold AQ7; have := i32_0; have := i32_1; have := i32_2; have := i32_m1; have := (h_7).1; have := (h_7).2; have := (h_18).1; have := (h_18).2; have := (h_6).1; have := (h_6).2; have := (hx3_5).1; have := (hx3_5).2; have := (hz_8).1; have := (hz_8).2; have := (hz_9).1; have := (hz_9).2; have := (hz_12).1; have := (hz_12).2; have := (hz_13).1; have := (hz_13).2; have := (hz_23).1; have := (hz_23).2; omega)) (by have := i32_0; have := i32_1; have := i32_2; have := i32_m1; have := (show iv 0 1200 (sg 20) from MI_s hI 20).1; have := (show iv 0 1200 (sg 20) from MI_s hI 20).2; have := (show iv 0 1201 (sg 21) from MI_s hI 21).1; have := (show iv 0 1201 (sg 21) from MI_s hI 21).2; have := (show iv 0 3 (sg 22) from MI_s hI 22).1; have := (show iv 0 3 (sg 22) from MI_s hI 22).2; have := (show iv 0 80 (sg 24) from MI_s hI 24).1; have := (show iv 0 80 (sg 24) from MI_s hI 24).2; have := (show iv 0 1201 (sg 25) from MI_s hI 25).1; have := (show iv 0 1201 (sg 25) from MI_s hI 25).2; have := (h_7).1; have := (h_7).2; have := (h_18).1; have := (h_18).2; have := (h_6).1; have := (h_6).2; have := (hx3_5).1; have := (hx3_5).2; have := (hz_8).1; have := (hz_8).2; have := (hz_9).1; have := (hz_9).2; have := (hz_12).1; have := (hz_12).2; have := (hz_13).1; have := (hz_13).2; have := (hz_23).1; have := (hz_23).2; omega) _ _ _ hP hD hS (lv_sub hl [0, 1, 2, 3, 4] rfl)
              · have h_26 : iv 0 0 z_23 := iv_eq c_24 hz_23 (iv_k (by decide) : iv 0 0 0) (by decide)
                exact hj69 h_6 hx3_5 h_7 (iv_w h_18 (by decide)) hx3_5 ((by have := congrArg Int32.toInt ez_8; have := congrArg Int32.toInt ez_9; have := congrArg Int32.toInt ez_12; have := congrArg Int32.toInt ez_13; have := congrArg Int32.toInt c_10; have := congrArg Int32.toInt c_14; have := congrArg Int64.toInt fW_r_19; have := congrArg Int64.toInt fW_r_21; unfold AQ7; have := i32_0; have := i32_1; have := i32_2; have := i32_m1; have := (h_7).1; have := (h_7).2; have := (h_18).1; have := (h_18).2; have := (h_6).1; have := (h_6).2; have := (hx3_5).1; have := (hx3_5).2; have := (hz_8).1; have := (hz_8).2; have := (hz_9).1; have := (hz_9).2; have := (hz_12).1; have := (hz_12).2; have := (hz_13).1; have := (hz_13).2; have := (h_26).1; have := (h_26).2; omega)) (by have := i32_0; have := i32_1; have := i32_2; have := i32_m1; have := (show iv 0 1200 (sg 20) from MI_s hI 20).1; have := (show iv 0 1200 (sg 20) from MI_s hI 20).2; have := (show iv 0 1201 (sg 21) from MI_s hI 21).1; have := (show iv 0 1201 (sg 21) from MI_s hI 21).2; have := (show iv 0 3 (sg 22) from MI_s hI 22).1; have := (show iv 0 3 (sg 22) from MI_s hI 22).2; have := (show iv 0 80 (sg 24) from MI_s hI 24).1; have := (show iv 0 80 (sg 24) from MI_s hI 24).2; have := (show iv 0 1201 (sg 25) from MI_s hI 25).1; have := (show iv 0 1201 (sg 25) from MI_s hI 25).2; have := (h_7).1; have := (h_7).2; have := (h_18).1; have := (h_18).2; have := (h_6).1; have := (h_6).2; have := (hx3_5).1; have := (hx3_5).2; have := (hz_8).1; have := (hz_8).2; have := (hz_9).1; have := (hz_9).2; have := (hz_12).1; have := (hz_12).2; have := (hz_13).1; have := (hz_13).2; have := (h_26).1; have := (h_26).2; omega) _ _ _ hP hD hS (lv_sub hl [0, 1, 2, 3, 4] rfl)
  refine lv_iconst (v := 0) hx hb dX13_ahead_0 (by decide) ?_
  refine lv_istore_n (lv' := [(3, .int 0), (0, .ref h0), (1, .int x), (2, .int f)]) hx hb dX13_ahead_1 rfl hl (by decide) rfl (fun ls hl => ?_)
  refine lv_iconst (v := 0) hx hb dX13_ahead_2 (by decide) ?_
  refine lv_istore (lv' := [(4, .int 0), (3, .int 0), (0, .ref h0), (1, .int x), (2, .int f)]) hx hb dX13_ahead_3 hl (by decide) rfl (fun ls hl => ?_)
  exact hj5 _ 0 0 rfl (iv_w (iv_k (by decide) : iv 0 0 0) (by decide)) (iv_w (iv_k (by decide) : iv 0 0 0) (by decide)) hvx hvf (rfl) (by have := i32_0; have := i32_1; have := i32_2; have := i32_m1; have := (show iv 0 1200 (sg 20) from MI_s hI 20).1; have := (show iv 0 1200 (sg 20) from MI_s hI 20).2; have := (show iv 0 1201 (sg 21) from MI_s hI 21).1; have := (show iv 0 1201 (sg 21) from MI_s hI 21).2; have := (show iv 0 3 (sg 22) from MI_s hI 22).1; have := (show iv 0 3 (sg 22) from MI_s hI 22).2; have := (show iv 0 80 (sg 24) from MI_s hI 24).1; have := (show iv 0 80 (sg 24) from MI_s hI 24).2; have := (show iv 0 1201 (sg 25) from MI_s hI 25).1; have := (show iv 0 1201 (sg 25) from MI_s hI 25).2; have := (hvx).1; have := (hvx).2; have := (hvf).1; have := (hvf).2; omega) (by have := i32_0; have := i32_1; have := i32_2; have := i32_m1; have := (show iv 0 1200 (sg 20) from MI_s hI 20).1; have := (show iv 0 1200 (sg 20) from MI_s hI 20).2; have := (show iv 0 1201 (sg 21) from MI_s hI 21).1; have := (show iv 0 1201 (sg 21) from MI_s hI 21).2; have := (show iv 0 3 (sg 22) from MI_s hI 22).1; have := (show iv 0 3 (sg 22) from MI_s hI 22).2; have := (show iv 0 80 (sg 24) from MI_s hI 24).1; have := (show iv 0 80 (sg 24) from MI_s hI 24).2; have := (show iv 0 1201 (sg 25) from MI_s hI 25).1; have := (show iv 0 1201 (sg 25) from MI_s hI 25).2; have := (hvx).1; have := (hvx).2; have := (hvf).1; have := (hvf).2; omega) _ _ _ hP hD hS (lv_sub hl [0, 1, 2, 3, 4] rfl)
end
section
theorem wd7_5 {l0 l1 : Nat → Int64} (h : WRD7 l0 l1) {i k : Int32} (hk : iv 0 4 k) (hi : i.toInt = 4 + k.toInt) : (k.toInt = 0 ∧ (l1 i.toNatClampNeg).toInt = 6909556) ∨ (k.toInt = 1 ∧ (l1 i.toNatClampNeg).toInt = 500136506472) ∨ (k.toInt = 2 ∧ (l1 i.toNatClampNeg).toInt = 1667785074) ∨ (k.toInt = 3 ∧ (l1 i.toNatClampNeg).toInt = 1952807028) ∨ (k.toInt = 4 ∧ (l1 i.toNatClampNeg).toInt = 7499639) := by
  have k0 := hk.1
  have k1 := hk.2
  have k2 := iv_cl (show iv 0 8 i from ⟨by omega, by omega⟩) (by decide)
  have k3 := WRD7_1 h (k := i.toNatClampNeg) (by omega)
  rcases (show k.toInt = 0 ∨ k.toInt = 1 ∨ k.toInt = 2 ∨ k.toInt = 3 ∨ k.toInt = 4 by omega) with q | q | q | q | q
  · rw [show i.toNatClampNeg = 4 by omega] at k3 ⊢
    exact Or.inl ⟨q, k3⟩
  · rw [show i.toNatClampNeg = 5 by omega] at k3 ⊢
    exact Or.inr (Or.inl ⟨q, k3⟩)
  · rw [show i.toNatClampNeg = 6 by omega] at k3 ⊢
    exact Or.inr (Or.inr (Or.inl ⟨q, k3⟩))
  · rw [show i.toNatClampNeg = 7 by omega] at k3 ⊢
    exact Or.inr (Or.inr (Or.inr (Or.inl ⟨q, k3⟩)))
  · rw [show i.toNatClampNeg = 8 by omega] at k3 ⊢
    exact Or.inr (Or.inr (Or.inr (Or.inr (⟨q, k3⟩))))

set_option maxHeartbeats 4000000 in
set_option maxRecDepth 100000 in
theorem f_typeIn2 (l : Launch) (dC : Nat → ClassId) (dI : Nat → Nat → Nat) (h0 : Nat) (ad : Nat → Nat) (cid : Nat → ClassId) (sg : Nat → Int32) (gm : Nat → Nat → Int32) (lg : Nat → Nat → Int64) (x : Int32) (hI : MI sg gm) (hvx : iv 0 79 x) (hwd : WRD7 (lg 0) (lg 1)) : MMi l dC dI yX13_typeIn wm_X13_typeIn ({ frames := 2, cells := 0, slots := 0, locals := 51 }) h0 ad cid [.int x] sg gm lg (fun r v => (iv (-1) 15 r) ∧ ((r.toInt = -1 ∧ ¬ (((mWord gm lg x.toNatClampNeg 1954115685).toInt = 6909556 ∨ (mWord gm lg x.toNatClampNeg 1954115685).toInt = 500136506472 ∨ (mWord gm lg x.toNatClampNeg 1954115685).toInt = 1667785074 ∨ (mWord gm lg x.toNatClampNeg 1954115685).toInt = 1952807028 ∨ (mWord gm lg x.toNatClampNeg 1954115685).toInt = 7499639) ∨ ((mHas gm lg x.toNatClampNeg 1954115685).toInt = 1 ∧ CLSV (mWord gm lg x.toNatClampNeg 1954115685).toInt))) ∨ (0 ≤ r.toInt ∧ (((mWord gm lg x.toNatClampNeg 1954115685).toInt = 6909556 ∨ (mWord gm lg x.toNatClampNeg 1954115685).toInt = 500136506472 ∨ (mWord gm lg x.toNatClampNeg 1954115685).toInt = 1667785074 ∨ (mWord gm lg x.toNatClampNeg 1954115685).toInt = 1952807028 ∨ (mWord gm lg x.toNatClampNeg 1954115685).toInt = 7499639) ∨ ((mHas gm lg x.toNatClampNeg 1954115685).toInt = 1 ∧ CLSV (mWord gm lg x.toNatClampNeg 1954115685).toInt)))) ∧ v = (sg, gm, lg)) := by
  intro sz
  refine Met.ofW (cc := cX13_typeIn) (maxL := 5) (ret := (some .int)) (by decide) rfl ?_
  intro p e s m args below meth c s₁ B hml hv
  obtain ⟨rfl, hsz, hP, hK, hD0⟩ := hv
  have hx := B.exec
  have hb := B.bytes
  have hr := B.returns
  have hts := atoms_spec (ws := wm_X13_typeIn) B.pre
  have htb := fun (w : Cond) (h : w ∈ tb) => hts w (List.mem_cons_of_mem _ h)
  have hown : s.vm.findClass RX13 = some m.cls := findClass_of_methodNamed B.named
  have hlocks := B.notSynchronized
  subst hsz
  have hD := hD0.self (sz := s.heap.size)
  generalize hAe : va_A (mW h0 ad cid sg gm lg) s.heap.size = A at hD ⊢
  have hA : ∀ q : Nat, s.heap.size ≤ q → A q := fun q h => by rw [← hAe]; exact Or.inr h
  have hS : va_S A s.heap s.heap [] := va_S.rf
  have hl := lv_entry ([.ref h0, .int x]) (n := 5) (Nat.le_of_ble_eq_true rfl)
  rw [lg_entry_eq]
  generalize (lg_sl ([.ref h0, .int x]) ++ List.replicate (5 - (lg_sl ([.ref h0, .int x])).length) Slot.unset).toArray = ls at hl ⊢
  have hl : lv_has ls 5 [(0, .ref h0), (1, .int x)] := hl
  have hj71 : ∀ (x4_71 : Int32) (x2_71 : Int64) (y0_71 : Int32) (_ : iv 5 6 x4_71) (_ : iv 0 79 x) (_ : iv (-1) 15 y0_71) (_ : (y0_71.toInt = -1 ∧ ¬ (((mWord gm lg x.toNatClampNeg 1954115685).toInt = 6909556 ∨ (mWord gm lg x.toNatClampNeg 1954115685).toInt = 500136506472 ∨ (mWord gm lg x.toNatClampNeg 1954115685).toInt = 1667785074 ∨ (mWord gm lg x.toNatClampNeg 1954115685).toInt = 1952807028 ∨ (mWord gm lg x.toNatClampNeg 1954115685).toInt = 7499639) ∨ ((mHas gm lg x.toNatClampNeg 1954115685).toInt = 1 ∧ CLSV (mWord gm lg x.toNatClampNeg 1954115685).toInt))) ∨ (0 ≤ y0_71.toInt ∧ (((mWord gm lg x.toNatClampNeg 1954115685).toInt = 6909556 ∨ (mWord gm lg x.toNatClampNeg 1954115685).toInt = 500136506472 ∨ (mWord gm lg x.toNatClampNeg 1954115685).toInt = 1667785074 ∨ (mWord gm lg x.toNatClampNeg 1954115685).toInt = 1952807028 ∨ (mWord gm lg x.toNatClampNeg 1954115685).toInt = 7499639) ∨ ((mHas gm lg x.toNatClampNeg 1954115685).toInt = 1 ∧ CLSV (mWord gm lg x.toNatClampNeg 1954115685).toInt)))) (H : Heap) (locs : List Loc) (ls : Array Slot), va_P (dC, dI) vwCl (mW h0 ad cid sg gm lg) H → va_D A (mW h0 ad cid sg gm lg) → va_S A s.heap H locs → lv_has ls 5 [(4, .int x4_71), (2, .long x2_71), (0, .ref h0), (1, .int x)] → W p l e (headSpec wm_X13_typeIn ({ frames := 2, cells := 0, slots := 0, locals := 51 })).room s m ([.ref h0, .int x] : List Value).toArray below meth c H locs 0 0 (MQ below (va_Qi (fun r v => (iv (-1) 15 r) ∧ ((r.toInt = -1 ∧ ¬ (((mWord gm lg x.toNatClampNeg 1954115685).toInt = 6909556 ∨ (mWord gm lg x.toNatClampNeg 1954115685).toInt = 500136506472 ∨ (mWord gm lg x.toNatClampNeg 1954115685).toInt = 1667785074 ∨ (mWord gm lg x.toNatClampNeg 1954115685).toInt = 1952807028 ∨ (mWord gm lg x.toNatClampNeg 1954115685).toInt = 7499639) ∨ ((mHas gm lg x.toNatClampNeg 1954115685).toInt = 1 ∧ CLSV (mWord gm lg x.toNatClampNeg 1954115685).toInt))) ∨ (0 ≤ r.toInt ∧ (((mWord gm lg x.toNatClampNeg 1954115685).toInt = 6909556 ∨ (mWord gm lg x.toNatClampNeg 1954115685).toInt = 500136506472 ∨ (mWord gm lg x.toNatClampNeg 1954115685).toInt = 1667785074 ∨ (mWord gm lg x.toNatClampNeg 1954115685).toInt = 1952807028 ∨ (mWord gm lg x.toNatClampNeg 1954115685).toInt = 7499639) ∨ ((mHas gm lg x.toNatClampNeg 1954115685).toInt = 1 ∧ CLSV (mWord gm lg x.toNatClampNeg 1954115685).toInt)))) ∧ v = (sg, gm, lg)) (MB dC dI h0 ad cid A) A) ([.ref h0, .int x] : List Value).toArray s 0 0 A) (F0 m 71 ls [.int y0_71]) := by
    intro x4_71 x2_71 y0_71 hx4_71 hsx1_71 hy0_71 u71 H locs ls hP hD hS hl
    exact W.iret (v := y0_71) hx hb hr (fun t ht hW => ⟨⟨y0_71, (sg, gm, lg), rfl, ⟨hy0_71, (u71), rfl⟩, by rw [ht]; exact hP, va_K.moved hW.alike hK, hD⟩, hS.F ht⟩) hS.2.2 dX13_typeIn_71
  have hj70 : ∀ (x4_70 : Int32) (x2_70 : Int64) (_ : iv 5 6 x4_70) (_ : iv 0 79 x) (_ : ¬ (((mWord gm lg x.toNatClampNeg 1954115685).toInt = 6909556 ∨ (mWord gm lg x.toNatClampNeg 1954115685).toInt = 500136506472 ∨ (mWord gm lg x.toNatClampNeg 1954115685).toInt = 1667785074 ∨ (mWord gm lg x.toNatClampNeg 1954115685).toInt = 1952807028 ∨ (mWord gm lg x.toNatClampNeg 1954115685).toInt = 7499639) ∨ ((mHas gm lg x.toNatClampNeg 1954115685).toInt = 1 ∧ CLSV (mWord gm lg x.toNatClampNeg 1954115685).toInt))) (H : Heap) (locs : List Loc) (ls : Array Slot), va_P (dC, dI) vwCl (mW h0 ad cid sg gm lg) H → va_D A (mW h0 ad cid sg gm lg) → va_S A s.heap H locs → lv_has ls 5 [(4, .int x4_70), (2, .long x2_70), (0, .ref h0), (1, .int x)] → W p l e (headSpec wm_X13_typeIn ({ frames := 2, cells := 0, slots := 0, locals := 51 })).room s m ([.ref h0, .int x] : List Value).toArray below meth c H locs 0 0 (MQ below (va_Qi (fun r v => (iv (-1) 15 r) ∧ ((r.toInt = -1 ∧ ¬ (((mWord gm lg x.toNatClampNeg 1954115685).toInt = 6909556 ∨ (mWord gm lg x.toNatClampNeg 1954115685).toInt = 500136506472 ∨ (mWord gm lg x.toNatClampNeg 1954115685).toInt = 1667785074 ∨ (mWord gm lg x.toNatClampNeg 1954115685).toInt = 1952807028 ∨ (mWord gm lg x.toNatClampNeg 1954115685).toInt = 7499639) ∨ ((mHas gm lg x.toNatClampNeg 1954115685).toInt = 1 ∧ CLSV (mWord gm lg x.toNatClampNeg 1954115685).toInt))) ∨ (0 ≤ r.toInt ∧ (((mWord gm lg x.toNatClampNeg 1954115685).toInt = 6909556 ∨ (mWord gm lg x.toNatClampNeg 1954115685).toInt = 500136506472 ∨ (mWord gm lg x.toNatClampNeg 1954115685).toInt = 1667785074 ∨ (mWord gm lg x.toNatClampNeg 1954115685).toInt = 1952807028 ∨ (mWord gm lg x.toNatClampNeg 1954115685).toInt = 7499639) ∨ ((mHas gm lg x.toNatClampNeg 1954115685).toInt = 1 ∧ CLSV (mWord gm lg x.toNatClampNeg 1954115685).toInt)))) ∧ v = (sg, gm, lg)) (MB dC dI h0 ad cid A) A) ([.ref h0, .int x] : List Value).toArray s 0 0 A) (F0 m 70 ls []) := by
    intro x4_70 x2_70 hx4_70 hsx1_70 u70 H locs ls hP hD hS hl
    refine lv_iconst (v := (-1)) hx hb dX13_typeIn_70 (by decide) ?_
    exact hj71 x4_70 x2_70 (-1) hx4_70 hsx1_70 (iv_w (iv_k (by decide) : iv (-1) (-1) (-1)) (by decide)) (Or.inl ⟨rfl, u70⟩) _ _ _ hP hD hS (lv_sub hl [0, 1, 2, 3] rfl)
  have hj12 : ∀ (n : Nat) (x4_12 : Int32) (x2_12 : Int64) (_ : (6 - x4_12.toInt).toNat = n) (_ : iv 0 6 x4_12) (_ : iv 0 79 x) (_ : (x4_12.toInt ≤ 0 ∨ ¬ (mWord gm lg x.toNatClampNeg 1954115685).toInt = 6909556) ∧ (x4_12.toInt ≤ 1 ∨ ¬ (mWord gm lg x.toNatClampNeg 1954115685).toInt = 500136506472) ∧ (x4_12.toInt ≤ 2 ∨ ¬ (mWord gm lg x.toNatClampNeg 1954115685).toInt = 1667785074) ∧ (x4_12.toInt ≤ 3 ∨ ¬ (mWord gm lg x.toNatClampNeg 1954115685).toInt = 1952807028) ∧ (x4_12.toInt ≤ 4 ∨ ¬ (mWord gm lg x.toNatClampNeg 1954115685).toInt = 7499639)) (_ : x2_12.toInt = (mWord gm lg x.toNatClampNeg 1954115685).toInt) (H : Heap) (locs : List Loc) (ls : Array Slot), va_P (dC, dI) vwCl (mW h0 ad cid sg gm lg) H → va_D A (mW h0 ad cid sg gm lg) → va_S A s.heap H locs → lv_has ls 5 [(4, .int x4_12), (2, .long x2_12), (0, .ref h0), (1, .int x)] → W p l e (headSpec wm_X13_typeIn ({ frames := 2, cells := 0, slots := 0, locals := 51 })).room s m ([.ref h0, .int x] : List Value).toArray below meth c H locs 0 0 (MQ below (va_Qi (fun r v => (iv (-1) 15 r) ∧ ((r.toInt = -1 ∧ ¬ (((mWord gm lg x.toNatClampNeg 1954115685).toInt = 6909556 ∨ (mWord gm lg x.toNatClampNeg 1954115685).toInt = 500136506472 ∨ (mWord gm lg x.toNatClampNeg 1954115685).toInt = 1667785074 ∨ (mWord gm lg x.toNatClampNeg 1954115685).toInt = 1952807028 ∨ (mWord gm lg x.toNatClampNeg 1954115685).toInt = 7499639) ∨ ((mHas gm lg x.toNatClampNeg 1954115685).toInt = 1 ∧ CLSV (mWord gm lg x.toNatClampNeg 1954115685).toInt))) ∨ (0 ≤ r.toInt ∧ (((mWord gm lg x.toNatClampNeg 1954115685).toInt = 6909556 ∨ (mWord gm lg x.toNatClampNeg 1954115685).toInt = 500136506472 ∨ (mWord gm lg x.toNatClampNeg 1954115685).toInt = 1667785074 ∨ (mWord gm lg x.toNatClampNeg 1954115685).toInt = 1952807028 ∨ (mWord gm lg x.toNatClampNeg 1954115685).toInt = 7499639) ∨ ((mHas gm lg x.toNatClampNeg 1954115685).toInt = 1 ∧ CLSV (mWord gm lg x.toNatClampNeg 1954115685).toInt)))) ∧ v = (sg, gm, lg)) (MB dC dI h0 ad cid A) A) ([.ref h0, .int x] : List Value).toArray s 0 0 A) (F0 m 12 ls []) := by
    intro n
    induction n using Nat.strongRecOn with
    | ind n ih12 =>
      intro x4_12 x2_12 hn12 hx4_12 hsx1_12 hc hw H locs ls hP hD hS hl
      refine lv_iload hx hb dX13_typeIn_12 (lv_at hl 0 rfl) ?_
      refine lv_iconst (v := 5) hx hb dX13_typeIn_14 (by decide) ?_
      refine lv_icmp_ge (tgt := 41) hx hb dX13_typeIn_15 (by decide) (fun c_1 => ?_) (fun c_1 => ?_)
      · have h_2 : iv 5 6 x4_12 := iv_leR c_1 (iv_k (by decide) : iv 5 5 5) hx4_12 (by decide)
        refine lv_aload_n hx hb dX13_typeIn_41 rfl (lv_at hl 2 rfl) ?_
        refine lv_iload_n hx hb dX13_typeIn_42 rfl (lv_at hl 3 rfl) ?_
        refine lv_ldc2 (own := RX13) (v := 1954115685) hx hb hown (htb _ kw_892) dX13_typeIn_43 ?_
        refine mr_calli (rest := []) ⟨hx, hb, hml, hown, htb⟩ (f_has l dC dI h0 ad cid sg gm lg x 1954115685 hI hsx1_12) (cwV 2 htb (gd_V kw_916 kw_917 kw_918 kw_5 kw_1543) rfl rfl rfl (by decide +kernel) ⟨Nat.le_of_ble_eq_true rfl, Nat.le_of_ble_eq_true rfl⟩) rfl hl.1 rfl (Nat.le_of_ble_eq_true rfl) dX13_typeIn_46 ⟨Nat.zero_le _, Nat.zero_le _⟩ hK hP hD hS hA (fun r_3 u_4 H locs hw hP hD hS => ?_)
        obtain ⟨hr_3, fH_r_3, rfl⟩ := hw
        have hP : va_P (dC, dI) vwCl (mW h0 ad cid sg gm lg) H := hP
        have hD : va_D A (mW h0 ad cid sg gm lg) := hD
        refine lv_if_eq (tgt := 70) hx hb dX13_typeIn_49 (by decide) (fun c_5 => ?_) (fun c_5 => ?_)
        · have h_6 : iv 0 0 r_3 := iv_eq c_5 hr_3 (iv_k (by decide) : iv 0 0 0) (by decide)
          exact hj70 x4_12 x2_12 h_2 hsx1_12 ((by have := congrArg Int32.toInt fH_r_3; have := (mHas_iv (gm := gm) (lg := lg) (x := x.toNatClampNeg) 1954115685).1; have := (mHas_iv (gm := gm) (lg := lg) (x := x.toNatClampNeg) 1954115685).2; have := i32_0; have := i32_1; have := i32_2; have := i32_m1; have := (hsx1_12).1; have := (hsx1_12).2; have := (h_2).1; have := (h_2).2; have := (h_6).1; have := (h_6).2; omega)) _ _ _ hP hD hS (lv_sub hl [0, 1, 2, 3] rfl)
        · have h_7 : iv 1 1 r_3 := iv_neL c_5 hr_3 (by decide)
          refine lv_lload_n hx hb dX13_typeIn_52 rfl (lv_at hl 1 rfl) ?_
          have hPc := hP.sub (ws' := []) [] rfl
          have hDc := hD.sub (ws' := []) [] (by decide) rfl
          have hKc := hK.sub (tys' := []) [] rfl
          have hFc := va_free (wc := []) hD hS hA [] rfl
          refine va_calli (va_runS (As := [.long x2_12]) (rest := []) ⟨hx, hb, hml, hown, htb⟩ (a_classIn2 l dC dI H.size x2_12) (va_cwS 1 htb (gd_S kw_927 kw_928 kw_5 kw_1546) rfl rfl rfl (by decide +kernel) ⟨Nat.le_of_ble_eq_true rfl, Nat.le_of_ble_eq_true rfl⟩) ⟨fun a U g mk q => by obtain ⟨q0, q1, qP, qK, qD⟩ := q; exact ⟨q0, q1, qP, va_K.moved (u := U) (U := U.calling g mk a) (Vm.Alike.refl U.vm) qK, qD⟩, fun U hU hW => ⟨rfl, by rw [hU], by rw [hU]; exact hPc, va_K.moved hW.alike hKc, hDc.weaken (fun _ _ _ _ => trivial)⟩⟩ rfl rfl hl.1 rfl (lv_room (Nat.le_of_ble_eq_true rfl)) dX13_typeIn_53 ⟨Nat.zero_le _, Nat.zero_le _⟩) hS (fun q _ h => hFc q h) hFc (fun r_8 u9 t H1 locs ht hvm hw hB hz1 hk1 hS => ?_)
          have hP := ms_kept hP hz1 hk1
          generalize H1 = H at hP hS ⊢
          have fK_r_8 := hw.2
          have hw := hw.1
          have hr_8 := hw
          refine lv_iconst (v := (-1)) hx hb dX13_typeIn_56 (by decide) ?_
          refine lv_icmp_eq (tgt := 70) hx hb dX13_typeIn_57 (by decide) (fun c_9 => ?_) (fun c_9 => ?_)
          · have h_10 : iv (-1) (-1) r_8 := iv_eq c_9 hr_8 (iv_k (by decide) : iv (-1) (-1) (-1)) (by decide)
            exact hj70 x4_12 x2_12 h_2 hsx1_12 ((by have := congrArg Int32.toInt fH_r_3; have := (mHas_iv (gm := gm) (lg := lg) (x := x.toNatClampNeg) 1954115685).1; have := (mHas_iv (gm := gm) (lg := lg) (x := x.toNatClampNeg) 1954115685).2; have := i32_0; have := i32_1; have := i32_2; have := i32_m1; have := (hsx1_12).1; have := (hsx1_12).2; have := (h_2).1; have := (h_2).2; have := (h_7).1; have := (h_7).2; have := (h_10).1; have := (h_10).2; omega)) _ _ _ hP hD hS (lv_sub hl [0, 1, 2, 3] rfl)
          · have h_11 : iv 0 7 r_8 := iv_neL c_9 hr_8 (by decide)
            refine lv_bipush (v := 8) hx hb dX13_typeIn_60 (by decide) ?_
            refine lv_lload_n hx hb dX13_typeIn_62 rfl (lv_at hl 1 rfl) ?_
            have hPc := hP.sub (ws' := []) [] rfl
            have hDc := hD.sub (ws' := []) [] (by decide) rfl
            have hKc := hK.sub (tys' := []) [] rfl
            have hFc := va_free (wc := []) hD hS hA [] rfl
            refine va_calli (va_runS (As := [.long x2_12]) (rest := [.int 8]) ⟨hx, hb, hml, hown, htb⟩ (a_classIn2 l dC dI H.size x2_12) (va_cwS 1 htb (gd_S kw_927 kw_928 kw_5 kw_1546) rfl rfl rfl (by decide +kernel) ⟨Nat.le_of_ble_eq_true rfl, Nat.le_of_ble_eq_true rfl⟩) ⟨fun a U g mk q => by obtain ⟨q0, q1, qP, qK, qD⟩ := q; exact ⟨q0, q1, qP, va_K.moved (u := U) (U := U.calling g mk a) (Vm.Alike.refl U.vm) qK, qD⟩, fun U hU hW => ⟨rfl, by rw [hU], by rw [hU]; exact hPc, va_K.moved hW.alike hKc, hDc.weaken (fun _ _ _ _ => trivial)⟩⟩ rfl rfl hl.1 rfl (lv_room (Nat.le_of_ble_eq_true rfl)) dX13_typeIn_63 ⟨Nat.zero_le _, Nat.zero_le _⟩) hS (fun q _ h => hFc q h) hFc (fun r_12 u9 t H1 locs ht hvm hw hB hz1 hk1 hS => ?_)
            have hP := ms_kept hP hz1 hk1
            generalize H1 = H at hP hS ⊢
            have fK_r_12 := hw.2
            have hw := hw.1
            have hr_12 := hw
            refine lv_iadd hx hb dX13_typeIn_66 ?_
            refine lv_topi (fun z_13 ez_13 => ?_)
            have hz_13 : iv 7 15 z_13 := iv_of ez_13 (iv_add (iv_k (by decide) : iv 8 8 8) hr_12 (by decide))
            have tz_13 : z_13.toInt = 8 + (r_12 : Int32).toInt := by rw [ez_13]; exact iv_addE (iv_k (by decide) : iv 8 8 8) hr_12 (by decide)
            refine lv_goto (tgt := 71) hx hb dX13_typeIn_67 (by decide) ?_
            exact hj71 x4_12 x2_12 z_13 h_2 hsx1_12 (iv_w hz_13 (by decide)) (Or.inr ⟨(by have := congrArg Int32.toInt fH_r_3; have := (mHas_iv (gm := gm) (lg := lg) (x := x.toNatClampNeg) 1954115685).1; have := (mHas_iv (gm := gm) (lg := lg) (x := x.toNatClampNeg) 1954115685).2; have := i32_0; have := i32_1; have := i32_2; have := i32_m1; have := (hsx1_12).1; have := (hsx1_12).2; have := (h_2).1; have := (h_2).2; have := (h_7).1; have := (h_7).2; have := (h_11).1; have := (h_11).2; have := (hr_12).1; have := (hr_12).2; have := (hz_13).1; have := (hz_13).2; omega), (by have := congrArg Int32.toInt fH_r_3; have := (mHas_iv (gm := gm) (lg := lg) (x := x.toNatClampNeg) 1954115685).1; have := (mHas_iv (gm := gm) (lg := lg) (x := x.toNatClampNeg) 1954115685).2; have := i32_0; have := i32_1; have := i32_2; have := i32_m1; have := (hsx1_12).1; have := (hsx1_12).2; have := (h_2).1; have := (h_2).2; have := (h_7).1; have := (h_7).2; have := (h_11).1; have := (h_11).2; have := (hr_12).1; have := (hr_12).2; have := (hz_13).1; have := (hz_13).2; omega)⟩) _ _ _ hP hD hS (lv_sub hl [0, 1, 2, 3] rfl)
      · have h_14 : iv 0 4 x4_12 := iv_ltL (i32_lt c_1) hx4_12 (iv_k (by decide) : iv 5 5 5) (by decide)
        refine lv_lload_n hx hb dX13_typeIn_18 rfl (lv_at hl 1 rfl) ?_
        refine lv_aload_n hx hb dX13_typeIn_19 rfl (lv_at hl 2 rfl) ?_
        refine mr_get (v := .ref (ad 1)) hx hb htb inX13 hown hK hP 1 (by decide) (htb _ kw_156) rfl dX13_typeIn_20 ?_
        refine lv_iconst (v := 4) hx hb dX13_typeIn_23 (by decide) ?_
        refine lv_iload hx hb dX13_typeIn_24 (lv_at hl 0 rfl) ?_
        refine lv_iadd hx hb dX13_typeIn_26 ?_
        refine lv_topi (fun z_15 ez_15 => ?_)
        have hz_15 : iv 4 8 z_15 := iv_of ez_15 (iv_add (iv_k (by decide) : iv 4 4 4) h_14 (by decide))
        have tz_15 : z_15.toInt = 4 + (x4_12 : Int32).toInt := by rw [ez_15]; exact iv_addE (iv_k (by decide) : iv 4 4 4) h_14 (by decide)
        refine mr_lald hx hb hK hP 1 (k := 1) rfl rfl rfl (show vp_in z_15 11 from (iv_in hz_15 (by decide))) dX13_typeIn_27 ?_
        refine lv_topl (fun z_16 ez_16 => ?_)
        have gz_16 := wd7_5 hwd (i := z_15) (k := x4_12) h_14 (by have := tz_15; omega)
        rw [← ez_16] at gz_16
        refine W.lcmp hx hb dX13_typeIn_28 ?_
        refine lv_topi (fun z_17 ez_17 => ?_)
        have hz_17 : iv (-1) 1 z_17 := iv_of ez_17 (iv_cmp _ _)
        have hl_z_17 := lg_tr7 ez_17
        refine lv_if_ne (tgt := 35) hx hb dX13_typeIn_29 (by decide) (fun c_18 => ?_) (fun c_18 => ?_)
        · have d_19 : ¬ (z_17 : Int32).toInt = 0 := lv_neT c_18 rfl
          obtain ⟨z_20, ez_20⟩ : ∃ z : Int32, z = x4_12 + 1 := ⟨_, rfl⟩
          have hz_20 : iv 1 5 z_20 := iv_of ez_20 (iv_add h_14 (iv_k (by decide) : iv 1 1 1) (by decide))
          have tz_20 : z_20.toInt = x4_12.toInt + 1 := by rw [ez_20]; exact iv_addE h_14 (iv_k (by decide) : iv 1 1 1) (by decide)
          refine lv_iinc (v := z_20) (lv' := [(4, .int z_20), (2, .long x2_12), (0, .ref h0), (1, .int x)]) hx hb dX13_typeIn_35 hl (k := 0) rfl ez_20.symm (by decide) rfl (fun ls hl => ?_)
          refine lv_goto (tgt := 12) hx hb dX13_typeIn_38 (by decide) ?_
          exact ih12 _ (by rw [← hn12]; exact (iv_meas tz_20 h_14 (by decide))) z_20 x2_12 rfl (iv_w hz_20 (by decide)) hsx1_12 ((by have := (mHas_iv (gm := gm) (lg := lg) (x := x.toNatClampNeg) 1954115685).1; have := (mHas_iv (gm := gm) (lg := lg) (x := x.toNatClampNeg) 1954115685).2; have := i32_0; have := i32_1; have := i32_2; have := i32_m1; have := (hsx1_12).1; have := (hsx1_12).2; have := (h_14).1; have := (h_14).2; have := (hz_15).1; have := (hz_15).2; have := (hz_17).1; have := (hz_17).2; have := (hz_20).1; have := (hz_20).2; omega)) ((by have := (mHas_iv (gm := gm) (lg := lg) (x := x.toNatClampNeg) 1954115685).1; have := (mHas_iv (gm := gm) (lg := lg) (x := x.toNatClampNeg) 1954115685).2; have := i32_0; have := i32_1; have := i32_2; have := i32_m1; have := (hsx1_12).1; have := (hsx1_12).2; have := (h_14).1; have := (h_14).2; have := (hz_15).1; have := (hz_15).2; have := (hz_17).1; have := (hz_17).2; have := (hz_20).1; have := (hz_20).2; omega)) _ _ _ hP hD hS (lv_sub hl [0, 1, 2, 3] rfl)
        · have h_21 : iv 0 0 z_17 := iv_eq c_18 hz_17 (iv_k (by decide) : iv 0 0 0) (by decide)
          refine lv_iload hx hb dX13_typeIn_32 (lv_at hl 0 rfl) ?_
          exact W.iret (v := x4_12) hx hb hr (fun t ht hW => ⟨⟨x4_12, (sg, gm, lg), rfl, ⟨(iv_w h_14 (by decide)), (Or.inr ⟨(by have := (mHas_iv (gm := gm) (lg := lg) (x := x.toNatClampNeg) 1954115685).1; have := (mHas_iv (gm := gm) (lg := lg) (x := x.toNatClampNeg) 1954115685).2; have := i32_0; have := i32_1; have := i32_2; have := i32_m1; have := (hsx1_12).1; have := (hsx1_12).2; have := (h_14).1; have := (h_14).2; have := (hz_15).1; have := (hz_15).2; have := (h_21).1; have := (h_21).2; omega), (by have := (mHas_iv (gm := gm) (lg := lg) (x := x.toNatClampNeg) 1954115685).1; have := (mHas_iv (gm := gm) (lg := lg) (x := x.toNatClampNeg) 1954115685).2; have := i32_0; have := i32_1; have := i32_2; have := i32_m1; have := (hsx1_12).1; have := (hsx1_12).2; have := (h_14).1; have := (h_14).2; have := (hz_15).1; have := (hz_15).2; have := (h_21).1; have := (h_21).2; omega)⟩), rfl⟩, by rw [ht]; exact hP, va_K.moved hW.alike hK, hD⟩, hS.F ht⟩) hS.2.2 dX13_typeIn_34
  refine lv_aload_n hx hb dX13_typeIn_0 rfl (lv_at hl 0 rfl) ?_
  refine lv_iload_n hx hb dX13_typeIn_1 rfl (lv_at hl 1 rfl) ?_
  refine lv_ldc2 (own := RX13) (v := 1954115685) hx hb hown (htb _ kw_892) dX13_typeIn_2 ?_
  refine mr_calll (rest := []) ⟨hx, hb, hml, hown, htb⟩ (f_word l dC dI h0 ad cid sg gm lg x 1954115685 hI hvx) (cwV 2 htb (gd_V kw_923 kw_924 kw_925 kw_5 kw_1545) rfl rfl rfl (by decide +kernel) ⟨Nat.le_of_ble_eq_true rfl, Nat.le_of_ble_eq_true rfl⟩) rfl hl.1 rfl (Nat.le_of_ble_eq_true rfl) dX13_typeIn_5 ⟨Nat.zero_le _, Nat.zero_le _⟩ hK hP hD hS hA (fun r_22 u_23 H locs hw hP hD hS => ?_)
  obtain ⟨fW_r_22, rfl⟩ := hw
  have hP : va_P (dC, dI) vwCl (mW h0 ad cid sg gm lg) H := hP
  have hD : va_D A (mW h0 ad cid sg gm lg) := hD
  refine lv_lstore_n (lv' := [(2, .long r_22), (0, .ref h0), (1, .int x)]) hx hb dX13_typeIn_8 rfl hl (by decide) rfl (fun ls hl => ?_)
  refine lv_iconst (v := 0) hx hb dX13_typeIn_9 (by decide) ?_
  refine lv_istore (lv' := [(4, .int 0), (2, .long r_22), (0, .ref h0), (1, .int x)]) hx hb dX13_typeIn_10 hl (by decide) rfl (fun ls hl => ?_)
  exact hj12 _ 0 r_22 rfl (iv_w (iv_k (by decide) : iv 0 0 0) (by decide)) hvx ((by have := congrArg Int64.toInt fW_r_22; have := (mHas_iv (gm := gm) (lg := lg) (x := x.toNatClampNeg) 1954115685).1; have := (mHas_iv (gm := gm) (lg := lg) (x := x.toNatClampNeg) 1954115685).2; have := i32_0; have := i32_1; have := i32_2; have := i32_m1; have := (hvx).1; have := (hvx).2; omega)) ((by have := congrArg Int64.toInt fW_r_22; have := (mHas_iv (gm := gm) (lg := lg) (x := x.toNatClampNeg) 1954115685).1; have := (mHas_iv (gm := gm) (lg := lg) (x := x.toNatClampNeg) 1954115685).2; have := i32_0; have := i32_1; have := i32_2; have := i32_m1; have := (hvx).1; have := (hvx).2; omega)) _ _ _ hP hD hS (lv_sub hl [0, 1, 2, 3] rfl)
end
