/-- a number that grows by one, or an answer no -/
def ADD9 (P : Prop) (r : Int32) (c : Nat) (g g2 : Nat → Int32) : Prop := (r.toInt = 1 ∧ P ∧ (g c).toInt < 4 ∧ ∃ z : Int32, z.toInt = (g c).toInt + 1 ∧ g2 = upd g c z) ∨ (r.toInt = 0 ∧ (¬ P ∨ 4 ≤ (g c).toInt) ∧ g2 = g)
theorem ADD9_0 {r : Int32} {c : Nat} {g g2 : Nat → Int32} (h : ADD9 True r c g g2) (h0 : r.toInt = 0) : 4 ≤ (g c).toInt ∧ g2 = g := by
  rcases h with h | h
  · have := h.1; omega
  · exact ⟨h.2.1.resolve_left (fun q => q trivial), h.2.2⟩
theorem ADD9_1 {P : Prop} {r r2 : Int32} {c : Nat} {g g2 : Nat → Int32} (h : ADD9 True r c g g2) (h0 : r.toInt = 1) (hP : P) (h2 : r2.toInt = 1) : ADD9 P r2 c g g2 := by
  rcases h with h | h
  · exact Or.inl ⟨h2, hP, h.2.2⟩
  · have := h.1; omega
/-- a number that begins anew, or an answer no -/
def DEC9 (P : Prop) (r : Int32) (c : Nat) (g g2 : Nat → Int32) : Prop := (r.toInt = 1 ∧ P ∧ g2 = upd g c 0) ∨ (r.toInt = 0 ∧ ¬ P ∧ g2 = g)
theorem ADD9_e {P Q : Prop} {r r' : Int32} {c : Nat} {g g2 h h2 : Nat → Int32} (hPQ : P ↔ Q) (hc : P → c < 8) (hg : ∀ j, j < 8 → g j = h j) (a : ADD9 P r c g g2) (b : ADD9 Q r' c h h2) : r = r' ∧ ∀ j, j < 8 → g2 j = h2 j := by
  rcases a with ⟨a1, a2, a3, z, a4, a5⟩ | ⟨a1, a2, a3⟩
  · have e0 := hg c (hc a2)
    rcases b with ⟨b1, b2, b3, y, b4, b5⟩ | ⟨b1, b2, b3⟩
    · have ez : z = y := Int32.toInt_inj.mp (by rw [a4, b4, e0])
      refine ⟨Int32.toInt_inj.mp (by rw [a1, b1]), fun j hj => ?_⟩
      rw [a5, b5, ez]
      by_cases e9 : j = c
      · rw [e9, upd_at, upd_at]
      · rw [upd_ne e9, upd_ne e9]; exact hg j hj
    · rcases b2 with q | q
      · exact absurd (hPQ.mp a2) q
      · rw [← e0] at q; omega
  · rcases b with ⟨b1, b2, b3, y, b4, b5⟩ | ⟨b1, b2, b3⟩
    · rcases a2 with q | q
      · exact absurd (hPQ.mpr b2) q
      · rw [hg c (hc (hPQ.mpr b2))] at q; omega
    · refine ⟨Int32.toInt_inj.mp (by rw [a1, b1]), fun j hj => ?_⟩
      rw [a3, b3]; exact hg j hj
theorem DEC9_e {P Q : Prop} {r r' : Int32} {c : Nat} {g g2 h h2 : Nat → Int32} (hPQ : P ↔ Q) (hg : ∀ j, j < 8 → g j = h j) (a : DEC9 P r c g g2) (b : DEC9 Q r' c h h2) : ∀ j, j < 8 → g2 j = h2 j := by
  rcases a with ⟨a1, a2, a3⟩ | ⟨a1, a2, a3⟩
  · rcases b with ⟨b1, b2, b3⟩ | ⟨b1, b2, b3⟩
    · intro j hj
      rw [a3, b3]
      by_cases e9 : j = c
      · rw [e9, upd_at, upd_at]
      · rw [upd_ne e9, upd_ne e9]; exact hg j hj
    · exact absurd (hPQ.mp a2) b2
  · rcases b with ⟨b1, b2, b3⟩ | ⟨b1, b2, b3⟩
    · exact absurd (hPQ.mpr b2) a2
    · intro j hj
      rw [a3, b3]; exact hg j hj

set_option maxHeartbeats 4000000 in
set_option maxRecDepth 100000 in
theorem d_isLetter2 (l : Launch) (dC : Nat → ClassId) (dI : Nat → Nat → Nat) (ad : Nat → Nat → Nat) (cid : Nat → ClassId) (a2 : Nat → Nat) (lx : List Nat) (sg : Nat → Int32) (gm : Nat → Nat → Int32) (lg : Nat → Nat → Int64) (a : Int32) (hI : CI sg gm) : CMt dC dI ad cid a2 lx l yX12_isLetter wm_X12_isLetter ({ frames := 0, cells := 1, slots := 6, locals := 0 }) [.int a] sg gm lg (fun v u => ∃ r : Int32, v = some (.int r) ∧ u = (sg, gm, lg) ∧ (iv 0 1 r) ∧ (r.toInt = 1 ∧ (0 ≤ a.toInt ∧ a.toInt ≤ 25) ∨ r.toInt = 0 ∧ ¬ (0 ≤ a.toInt ∧ a.toInt ≤ 25))) (fun _ _ => False) := by
  intro sz
  refine vx_ofW (cc := cX12_isLetter) (maxL := 1) (ret := (some .boolean)) (by decide) rfl ?_
  intro p e s m args below meth c s₁ B hml hxt hv
  obtain ⟨rfl, hsz, hP, hK, hD0, hG⟩ := hv
  have hx := B.exec
  have hb := B.bytes
  have hr := B.returns
  have hts := atoms_spec (ws := wm_X12_isLetter) B.pre
  have htb := fun (w : Cond) (h : w ∈ tb) => hts w (List.mem_cons_of_mem _ h)
  have hown : s.vm.findClass RX12 = some m.cls := findClass_of_methodNamed B.named
  have hlocks := B.notSynchronized
  subst hsz
  have hD := hD0.self (sz := s.heap.size)
  generalize hAe : va_A (cW ad cid a2 lx sg gm lg) s.heap.size = A at hD hG ⊢
  have hA : ∀ q : Nat, s.heap.size ≤ q → A q := fun q h => by rw [← hAe]; exact Or.inr h
  have hS : va_S A s.heap s.heap [] := va_S.rf
  have hl := lv_entry ([.int a]) (n := 1) (Nat.le_of_ble_eq_true rfl)
  rw [lg_entry_eq]
  generalize (lg_sl ([.int a]) ++ List.replicate (1 - (lg_sl ([.int a])).length) Slot.unset).toArray = ls at hl ⊢
  have hl : lv_has ls 1 [(0, .int a)] := hl
  have hj15 : ∀ (y0_15 : Int32) (_ : iv 0 1 y0_15) (_ : y0_15.toInt = 1 ∧ (0 ≤ a.toInt ∧ a.toInt ≤ 25) ∨ y0_15.toInt = 0 ∧ ¬ (0 ≤ a.toInt ∧ a.toInt ≤ 25)) (H : Heap) (locs : List Loc) (ls : Array Slot), va_P (dC, dI) vwCl (cW ad cid a2 lx sg gm lg) H → va_D A (cW ad cid a2 lx sg gm lg) → va_S A s.heap H locs → lv_has ls 1 [(0, .int a)] → W p l e (headSpec wm_X12_isLetter ({ frames := 0, cells := 1, slots := 6, locals := 0 })).room s m ([.int a] : List Value).toArray below meth c H locs 0 0 (vx_MQ below (cQx dC dI ad cid a2 lx (fun v u => ∃ r : Int32, v = some (.int r) ∧ u = (sg, gm, lg) ∧ (iv 0 1 r) ∧ (r.toInt = 1 ∧ (0 ≤ a.toInt ∧ a.toInt ≤ 25) ∨ r.toInt = 0 ∧ ¬ (0 ≤ a.toInt ∧ a.toInt ≤ 25))) A) (cX dC dI ad cid a2 lx (fun _ _ => False) A) ([.int a] : List Value).toArray s 1 6 A) (F0 m 15 ls [.int y0_15]) := by
    intro y0_15 hy0_15 hc H locs ls hP hD hS hl
    exact W.nb (fun hN => W.widen (k := 1) (n := 6) (by decide) (by decide) (vx_ret (W.zret (v := y0_15) hx hb hr (iv_nb hy0_15) (fun t ht hW => ⟨⟨some (.int y0_15), (sg, gm, lg), rfl, ⟨y0_15, rfl, rfl, hy0_15, (hc)⟩, by rw [ht]; exact hP, va_K.moved hW.alike hK, hD⟩, hS.F ht, by rw [ht]; exact hN⟩) hS.2.2 dX12_isLetter_15)))
  have hj14 : ∀ (_ : ¬ (0 ≤ a.toInt ∧ a.toInt ≤ 25)) (H : Heap) (locs : List Loc) (ls : Array Slot), va_P (dC, dI) vwCl (cW ad cid a2 lx sg gm lg) H → va_D A (cW ad cid a2 lx sg gm lg) → va_S A s.heap H locs → lv_has ls 1 [(0, .int a)] → W p l e (headSpec wm_X12_isLetter ({ frames := 0, cells := 1, slots := 6, locals := 0 })).room s m ([.int a] : List Value).toArray below meth c H locs 0 0 (vx_MQ below (cQx dC dI ad cid a2 lx (fun v u => ∃ r : Int32, v = some (.int r) ∧ u = (sg, gm, lg) ∧ (iv 0 1 r) ∧ (r.toInt = 1 ∧ (0 ≤ a.toInt ∧ a.toInt ≤ 25) ∨ r.toInt = 0 ∧ ¬ (0 ≤ a.toInt ∧ a.toInt ≤ 25))) A) (cX dC dI ad cid a2 lx (fun _ _ => False) A) ([.int a] : List Value).toArray s 1 6 A) (F0 m 14 ls []) := by
    intro  hnn H locs ls hP hD hS hl
    refine lv_iconst (v := 0) hx hb dX12_isLetter_14 (by decide) ?_
    exact hj15 0 (iv_w (iv_k (by decide) : iv 0 0 0) (by decide)) (Or.inr ⟨rfl, hnn⟩) _ _ _ hP hD hS (lv_sub hl [0] rfl)
  refine lv_iload_n hx hb dX12_isLetter_0 rfl (lv_at hl 0 rfl) ?_
  refine lv_if_lt (tgt := 14) hx hb dX12_isLetter_1 (by decide) (fun c_1 => ?_) (fun c_1 => ?_)
  · have h_2 : iv (-2147483648) (-1) a := iv_ltL c_1 (iv_all a) (iv_k (by decide) : iv 0 0 0) (by decide)
    exact hj14 (fun q9 => by { have := i32_0; have := i32_1; have := i32_2; have := i32_m1; have := (h_2).1; have := (h_2).2; omega }) _ _ _ hP hD hS (lv_sub hl [0] rfl)
  · have h_3 : iv 0 2147483647 a := iv_leR (i32_ge c_1) (iv_k (by decide) : iv 0 0 0) (iv_all a) (by decide)
    refine lv_iload_n hx hb dX12_isLetter_4 rfl (lv_at hl 0 rfl) ?_
    refine lv_bipush (v := 26) hx hb dX12_isLetter_5 (by decide) ?_
    refine lv_icmp_ge (tgt := 14) hx hb dX12_isLetter_7 (by decide) (fun c_4 => ?_) (fun c_4 => ?_)
    · have h_5 : iv 26 2147483647 a := iv_leR c_4 (iv_k (by decide) : iv 26 26 26) h_3 (by decide)
      exact hj14 (fun q9 => by { have := i32_0; have := i32_1; have := i32_2; have := i32_m1; have := (h_5).1; have := (h_5).2; omega }) _ _ _ hP hD hS (lv_sub hl [0] rfl)
    · have h_6 : iv 0 25 a := iv_ltL (i32_lt c_4) h_3 (iv_k (by decide) : iv 26 26 26) (by decide)
      refine lv_iconst (v := 1) hx hb dX12_isLetter_10 (by decide) ?_
      refine lv_goto (tgt := 15) hx hb dX12_isLetter_11 (by decide) ?_
      exact hj15 1 (iv_w (iv_k (by decide) : iv 1 1 1) (by decide)) (Or.inl ⟨rfl, by have := i32_0; have := i32_1; have := i32_2; have := i32_m1; have := (h_6).1; have := (h_6).2; omega⟩) _ _ _ hP hD hS (lv_sub hl [0] rfl)

set_option maxHeartbeats 4000000 in
set_option maxRecDepth 100000 in
theorem d_isType2 (l : Launch) (dC : Nat → ClassId) (dI : Nat → Nat → Nat) (ad : Nat → Nat → Nat) (cid : Nat → ClassId) (a2 : Nat → Nat) (lx : List Nat) (sg : Nat → Int32) (gm : Nat → Nat → Int32) (lg : Nat → Nat → Int64) (a : Int32) (hI : CI sg gm) : CMt dC dI ad cid a2 lx l yX12_isType wm_X12_isType ({ frames := 0, cells := 1, slots := 6, locals := 0 }) [.int a] sg gm lg (fun v u => ∃ r : Int32, v = some (.int r) ∧ u = (sg, gm, lg) ∧ (iv 0 1 r) ∧ (r.toInt = 1 ∧ ((0 ≤ a.toInt ∧ a.toInt ≤ 4 ∨ 8 ≤ a.toInt ∧ a.toInt ≤ 15)) ∨ r.toInt = 0 ∧ ¬ ((0 ≤ a.toInt ∧ a.toInt ≤ 4 ∨ 8 ≤ a.toInt ∧ a.toInt ≤ 15)))) (fun _ _ => False) := by
  intro sz
  refine vx_ofW (cc := cX12_isType) (maxL := 1) (ret := (some .boolean)) (by decide) rfl ?_
  intro p e s m args below meth c s₁ B hml hxt hv
  obtain ⟨rfl, hsz, hP, hK, hD0, hG⟩ := hv
  have hx := B.exec
  have hb := B.bytes
  have hr := B.returns
  have hts := atoms_spec (ws := wm_X12_isType) B.pre
  have htb := fun (w : Cond) (h : w ∈ tb) => hts w (List.mem_cons_of_mem _ h)
  have hown : s.vm.findClass RX12 = some m.cls := findClass_of_methodNamed B.named
  have hlocks := B.notSynchronized
  subst hsz
  have hD := hD0.self (sz := s.heap.size)
  generalize hAe : va_A (cW ad cid a2 lx sg gm lg) s.heap.size = A at hD hG ⊢
  have hA : ∀ q : Nat, s.heap.size ≤ q → A q := fun q h => by rw [← hAe]; exact Or.inr h
  have hS : va_S A s.heap s.heap [] := va_S.rf
  have hl := lv_entry ([.int a]) (n := 1) (Nat.le_of_ble_eq_true rfl)
  rw [lg_entry_eq]
  generalize (lg_sl ([.int a]) ++ List.replicate (1 - (lg_sl ([.int a])).length) Slot.unset).toArray = ls at hl ⊢
  have hl : lv_has ls 1 [(0, .int a)] := hl
  have hj26 : ∀ (y0_26 : Int32) (_ : iv 0 1 y0_26) (_ : y0_26.toInt = 1 ∧ ((0 ≤ a.toInt ∧ a.toInt ≤ 4 ∨ 8 ≤ a.toInt ∧ a.toInt ≤ 15)) ∨ y0_26.toInt = 0 ∧ ¬ ((0 ≤ a.toInt ∧ a.toInt ≤ 4 ∨ 8 ≤ a.toInt ∧ a.toInt ≤ 15))) (H : Heap) (locs : List Loc) (ls : Array Slot), va_P (dC, dI) vwCl (cW ad cid a2 lx sg gm lg) H → va_D A (cW ad cid a2 lx sg gm lg) → va_S A s.heap H locs → lv_has ls 1 [(0, .int a)] → W p l e (headSpec wm_X12_isType ({ frames := 0, cells := 1, slots := 6, locals := 0 })).room s m ([.int a] : List Value).toArray below meth c H locs 0 0 (vx_MQ below (cQx dC dI ad cid a2 lx (fun v u => ∃ r : Int32, v = some (.int r) ∧ u = (sg, gm, lg) ∧ (iv 0 1 r) ∧ (r.toInt = 1 ∧ ((0 ≤ a.toInt ∧ a.toInt ≤ 4 ∨ 8 ≤ a.toInt ∧ a.toInt ≤ 15)) ∨ r.toInt = 0 ∧ ¬ ((0 ≤ a.toInt ∧ a.toInt ≤ 4 ∨ 8 ≤ a.toInt ∧ a.toInt ≤ 15)))) A) (cX dC dI ad cid a2 lx (fun _ _ => False) A) ([.int a] : List Value).toArray s 1 6 A) (F0 m 26 ls [.int y0_26]) := by
    intro y0_26 hy0_26 hc H locs ls hP hD hS hl
    exact W.nb (fun hN => W.widen (k := 1) (n := 6) (by decide) (by decide) (vx_ret (W.zret (v := y0_26) hx hb hr (iv_nb hy0_26) (fun t ht hW => ⟨⟨some (.int y0_26), (sg, gm, lg), rfl, ⟨y0_26, rfl, rfl, hy0_26, (hc)⟩, by rw [ht]; exact hP, va_K.moved hW.alike hK, hD⟩, hS.F ht, by rw [ht]; exact hN⟩) hS.2.2 dX12_isType_26)))
  have hj25 : ∀ (_ : ¬ ((0 ≤ a.toInt ∧ a.toInt ≤ 4 ∨ 8 ≤ a.toInt ∧ a.toInt ≤ 15))) (H : Heap) (locs : List Loc) (ls : Array Slot), va_P (dC, dI) vwCl (cW ad cid a2 lx sg gm lg) H → va_D A (cW ad cid a2 lx sg gm lg) → va_S A s.heap H locs → lv_has ls 1 [(0, .int a)] → W p l e (headSpec wm_X12_isType ({ frames := 0, cells := 1, slots := 6, locals := 0 })).room s m ([.int a] : List Value).toArray below meth c H locs 0 0 (vx_MQ below (cQx dC dI ad cid a2 lx (fun v u => ∃ r : Int32, v = some (.int r) ∧ u = (sg, gm, lg) ∧ (iv 0 1 r) ∧ (r.toInt = 1 ∧ ((0 ≤ a.toInt ∧ a.toInt ≤ 4 ∨ 8 ≤ a.toInt ∧ a.toInt ≤ 15)) ∨ r.toInt = 0 ∧ ¬ ((0 ≤ a.toInt ∧ a.toInt ≤ 4 ∨ 8 ≤ a.toInt ∧ a.toInt ≤ 15)))) A) (cX dC dI ad cid a2 lx (fun _ _ => False) A) ([.int a] : List Value).toArray s 1 6 A) (F0 m 25 ls []) := by
    intro  hnn H locs ls hP hD hS hl
    refine lv_iconst (v := 0) hx hb dX12_isType_25 (by decide) ?_
    exact hj26 0 (iv_w (iv_k (by decide) : iv 0 0 0) (by decide)) (Or.inr ⟨rfl, hnn⟩) _ _ _ hP hD hS (lv_sub hl [0] rfl)
  have hj21 : ∀ (_ : iv 0 15 a) (_ : (0 ≤ a.toInt ∧ a.toInt ≤ 4 ∨ 8 ≤ a.toInt ∧ a.toInt ≤ 15)) (H : Heap) (locs : List Loc) (ls : Array Slot), va_P (dC, dI) vwCl (cW ad cid a2 lx sg gm lg) H → va_D A (cW ad cid a2 lx sg gm lg) → va_S A s.heap H locs → lv_has ls 1 [(0, .int a)] → W p l e (headSpec wm_X12_isType ({ frames := 0, cells := 1, slots := 6, locals := 0 })).room s m ([.int a] : List Value).toArray below meth c H locs 0 0 (vx_MQ below (cQx dC dI ad cid a2 lx (fun v u => ∃ r : Int32, v = some (.int r) ∧ u = (sg, gm, lg) ∧ (iv 0 1 r) ∧ (r.toInt = 1 ∧ ((0 ≤ a.toInt ∧ a.toInt ≤ 4 ∨ 8 ≤ a.toInt ∧ a.toInt ≤ 15)) ∨ r.toInt = 0 ∧ ¬ ((0 ≤ a.toInt ∧ a.toInt ≤ 4 ∨ 8 ≤ a.toInt ∧ a.toInt ≤ 15)))) A) (cX dC dI ad cid a2 lx (fun _ _ => False) A) ([.int a] : List Value).toArray s 1 6 A) (F0 m 21 ls []) := by
    intro  hsx0_21 hy H locs ls hP hD hS hl
    refine lv_iconst (v := 1) hx hb dX12_isType_21 (by decide) ?_
    refine lv_goto (tgt := 26) hx hb dX12_isType_22 (by decide) ?_
    exact hj26 1 (iv_w (iv_k (by decide) : iv 1 1 1) (by decide)) (Or.inl ⟨rfl, hy⟩) _ _ _ hP hD hS (lv_sub hl [0] rfl)
  have hj9 : ∀ (_ : a.toInt < 0 ∨ 4 < a.toInt) (H : Heap) (locs : List Loc) (ls : Array Slot), va_P (dC, dI) vwCl (cW ad cid a2 lx sg gm lg) H → va_D A (cW ad cid a2 lx sg gm lg) → va_S A s.heap H locs → lv_has ls 1 [(0, .int a)] → W p l e (headSpec wm_X12_isType ({ frames := 0, cells := 1, slots := 6, locals := 0 })).room s m ([.int a] : List Value).toArray below meth c H locs 0 0 (vx_MQ below (cQx dC dI ad cid a2 lx (fun v u => ∃ r : Int32, v = some (.int r) ∧ u = (sg, gm, lg) ∧ (iv 0 1 r) ∧ (r.toInt = 1 ∧ ((0 ≤ a.toInt ∧ a.toInt ≤ 4 ∨ 8 ≤ a.toInt ∧ a.toInt ≤ 15)) ∨ r.toInt = 0 ∧ ¬ ((0 ≤ a.toInt ∧ a.toInt ≤ 4 ∨ 8 ≤ a.toInt ∧ a.toInt ≤ 15)))) A) (cX dC dI ad cid a2 lx (fun _ _ => False) A) ([.int a] : List Value).toArray s 1 6 A) (F0 m 9 ls []) := by
    intro  h9 H locs ls hP hD hS hl
    refine lv_iload_n hx hb dX12_isType_9 rfl (lv_at hl 0 rfl) ?_
    refine lv_bipush (v := 8) hx hb dX12_isType_10 (by decide) ?_
    refine lv_icmp_lt (tgt := 25) hx hb dX12_isType_12 (by decide) (fun c_1 => ?_) (fun c_1 => ?_)
    · have h_2 : iv (-2147483648) 7 a := iv_ltL c_1 (iv_all a) (iv_k (by decide) : iv 8 8 8) (by decide)
      exact hj25 (fun q9 => by { have := i32_0; have := i32_1; have := i32_2; have := i32_m1; have := (h_2).1; have := (h_2).2; omega }) _ _ _ hP hD hS (lv_sub hl [0] rfl)
    · have h_3 : iv 8 2147483647 a := iv_leR (i32_ge c_1) (iv_k (by decide) : iv 8 8 8) (iv_all a) (by decide)
      refine lv_iload_n hx hb dX12_isType_15 rfl (lv_at hl 0 rfl) ?_
      refine lv_bipush (v := 16) hx hb dX12_isType_16 (by decide) ?_
      refine lv_icmp_ge (tgt := 25) hx hb dX12_isType_18 (by decide) (fun c_4 => ?_) (fun c_4 => ?_)
      · have h_5 : iv 16 2147483647 a := iv_leR c_4 (iv_k (by decide) : iv 16 16 16) h_3 (by decide)
        exact hj25 (fun q9 => by { have := i32_0; have := i32_1; have := i32_2; have := i32_m1; have := (h_5).1; have := (h_5).2; omega }) _ _ _ hP hD hS (lv_sub hl [0] rfl)
      · have h_6 : iv 8 15 a := iv_ltL (i32_lt c_4) h_3 (iv_k (by decide) : iv 16 16 16) (by decide)
        exact hj21 (iv_w h_6 (by decide)) (by have := i32_0; have := i32_1; have := i32_2; have := i32_m1; have := (h_6).1; have := (h_6).2; omega) _ _ _ hP hD hS (lv_sub hl [0] rfl)
  refine lv_iload_n hx hb dX12_isType_0 rfl (lv_at hl 0 rfl) ?_
  refine lv_if_lt (tgt := 9) hx hb dX12_isType_1 (by decide) (fun c_7 => ?_) (fun c_7 => ?_)
  · have h_8 : iv (-2147483648) (-1) a := iv_ltL c_7 (iv_all a) (iv_k (by decide) : iv 0 0 0) (by decide)
    exact hj9 (by have := i32_0; have := i32_1; have := i32_2; have := i32_m1; have := (h_8).1; have := (h_8).2; omega) _ _ _ hP hD hS (lv_sub hl [0] rfl)
  · have h_9 : iv 0 2147483647 a := iv_leR (i32_ge c_7) (iv_k (by decide) : iv 0 0 0) (iv_all a) (by decide)
    refine lv_iload_n hx hb dX12_isType_4 rfl (lv_at hl 0 rfl) ?_
    refine lv_iconst (v := 4) hx hb dX12_isType_5 (by decide) ?_
    refine lv_icmp_le (tgt := 21) hx hb dX12_isType_6 (by decide) (fun c_10 => ?_) (fun c_10 => ?_)
    · have h_11 : iv 0 4 a := iv_leL c_10 h_9 (iv_k (by decide) : iv 4 4 4) (by decide)
      exact hj21 (iv_w h_11 (by decide)) (by have := i32_0; have := i32_1; have := i32_2; have := i32_m1; have := (h_11).1; have := (h_11).2; omega) _ _ _ hP hD hS (lv_sub hl [0] rfl)
    · have h_12 : iv 5 2147483647 a := iv_ltR (i32_lt c_10) (iv_k (by decide) : iv 4 4 4) h_9 (by decide)
      exact hj9 (by have := i32_0; have := i32_1; have := i32_2; have := i32_m1; have := (h_12).1; have := (h_12).2; omega) _ _ _ hP hD hS (lv_sub hl [0] rfl)

set_option maxHeartbeats 4000000 in
set_option maxRecDepth 100000 in
theorem d_areTypes2 (l : Launch) (dC : Nat → ClassId) (dI : Nat → Nat → Nat) (ad : Nat → Nat → Nat) (cid : Nat → ClassId) (a2 : Nat → Nat) (lx : List Nat) (sg : Nat → Int32) (gm : Nat → Nat → Int32) (lg : Nat → Nat → Int64) (a : Int32) (b : Int32) (f : Int32) (g : Int32) (hI : CI sg gm) : CMt dC dI ad cid a2 lx l yX12_areTypes wm_X12_areTypes ({ frames := 1, cells := 1, slots := 6, locals := 20 }) [.int a, .int b, .int f, .int g] sg gm lg (fun v u => ∃ r : Int32, v = some (.int r) ∧ u = (sg, gm, lg) ∧ (iv 0 1 r) ∧ (r.toInt = 1 ∧ (0 ≤ a.toInt ∧ a.toInt ≤ 3 ∧ (1 ≤ a.toInt → (0 ≤ b.toInt ∧ b.toInt ≤ 4 ∨ 8 ≤ b.toInt ∧ b.toInt ≤ 15)) ∧ (2 ≤ a.toInt → (0 ≤ f.toInt ∧ f.toInt ≤ 4 ∨ 8 ≤ f.toInt ∧ f.toInt ≤ 15)) ∧ (3 ≤ a.toInt → (0 ≤ g.toInt ∧ g.toInt ≤ 4 ∨ 8 ≤ g.toInt ∧ g.toInt ≤ 15))) ∨ r.toInt = 0 ∧ ¬ (0 ≤ a.toInt ∧ a.toInt ≤ 3 ∧ (1 ≤ a.toInt → (0 ≤ b.toInt ∧ b.toInt ≤ 4 ∨ 8 ≤ b.toInt ∧ b.toInt ≤ 15)) ∧ (2 ≤ a.toInt → (0 ≤ f.toInt ∧ f.toInt ≤ 4 ∨ 8 ≤ f.toInt ∧ f.toInt ≤ 15)) ∧ (3 ≤ a.toInt → (0 ≤ g.toInt ∧ g.toInt ≤ 4 ∨ 8 ≤ g.toInt ∧ g.toInt ≤ 15))))) (fun _ _ => False) := by
  intro sz
  refine vx_ofW (cc := cX12_areTypes) (maxL := 4) (ret := (some .boolean)) (by decide) rfl ?_
  intro p e s m args below meth c s₁ B hml hxt hv
  obtain ⟨rfl, hsz, hP, hK, hD0, hG⟩ := hv
  have hx := B.exec
  have hb := B.bytes
  have hr := B.returns
  have hts := atoms_spec (ws := wm_X12_areTypes) B.pre
  have htb := fun (w : Cond) (h : w ∈ tb) => hts w (List.mem_cons_of_mem _ h)
  have hown : s.vm.findClass RX12 = some m.cls := findClass_of_methodNamed B.named
  have hlocks := B.notSynchronized
  subst hsz
  have hD := hD0.self (sz := s.heap.size)
  generalize hAe : va_A (cW ad cid a2 lx sg gm lg) s.heap.size = A at hD hG ⊢
  have hA : ∀ q : Nat, s.heap.size ≤ q → A q := fun q h => by rw [← hAe]; exact Or.inr h
  have hS : va_S A s.heap s.heap [] := va_S.rf
  have hl := lv_entry ([.int a, .int b, .int f, .int g]) (n := 4) (Nat.le_of_ble_eq_true rfl)
  rw [lg_entry_eq]
  generalize (lg_sl ([.int a, .int b, .int f, .int g]) ++ List.replicate (4 - (lg_sl ([.int a, .int b, .int f, .int g])).length) Slot.unset).toArray = ls at hl ⊢
  have hl : lv_has ls 4 [(0, .int a), (1, .int b), (2, .int f), (3, .int g)] := hl
  have hj50 : ∀ (y0_50 : Int32) (_ : iv 0 1 y0_50) (_ : y0_50.toInt = 1 ∧ (0 ≤ a.toInt ∧ a.toInt ≤ 3 ∧ (1 ≤ a.toInt → (0 ≤ b.toInt ∧ b.toInt ≤ 4 ∨ 8 ≤ b.toInt ∧ b.toInt ≤ 15)) ∧ (2 ≤ a.toInt → (0 ≤ f.toInt ∧ f.toInt ≤ 4 ∨ 8 ≤ f.toInt ∧ f.toInt ≤ 15)) ∧ (3 ≤ a.toInt → (0 ≤ g.toInt ∧ g.toInt ≤ 4 ∨ 8 ≤ g.toInt ∧ g.toInt ≤ 15))) ∨ y0_50.toInt = 0 ∧ ¬ (0 ≤ a.toInt ∧ a.toInt ≤ 3 ∧ (1 ≤ a.toInt → (0 ≤ b.toInt ∧ b.toInt ≤ 4 ∨ 8 ≤ b.toInt ∧ b.toInt ≤ 15)) ∧ (2 ≤ a.toInt → (0 ≤ f.toInt ∧ f.toInt ≤ 4 ∨ 8 ≤ f.toInt ∧ f.toInt ≤ 15)) ∧ (3 ≤ a.toInt → (0 ≤ g.toInt ∧ g.toInt ≤ 4 ∨ 8 ≤ g.toInt ∧ g.toInt ≤ 15)))) (H : Heap) (locs : List Loc) (ls : Array Slot), va_P (dC, dI) vwCl (cW ad cid a2 lx sg gm lg) H → va_D A (cW ad cid a2 lx sg gm lg) → va_S A s.heap H locs → lv_has ls 4 [(0, .int a), (1, .int b), (2, .int f), (3, .int g)] → W p l e (headSpec wm_X12_areTypes ({ frames := 1, cells := 1, slots := 6, locals := 20 })).room s m ([.int a, .int b, .int f, .int g] : List Value).toArray below meth c H locs 0 0 (vx_MQ below (cQx dC dI ad cid a2 lx (fun v u => ∃ r : Int32, v = some (.int r) ∧ u = (sg, gm, lg) ∧ (iv 0 1 r) ∧ (r.toInt = 1 ∧ (0 ≤ a.toInt ∧ a.toInt ≤ 3 ∧ (1 ≤ a.toInt → (0 ≤ b.toInt ∧ b.toInt ≤ 4 ∨ 8 ≤ b.toInt ∧ b.toInt ≤ 15)) ∧ (2 ≤ a.toInt → (0 ≤ f.toInt ∧ f.toInt ≤ 4 ∨ 8 ≤ f.toInt ∧ f.toInt ≤ 15)) ∧ (3 ≤ a.toInt → (0 ≤ g.toInt ∧ g.toInt ≤ 4 ∨ 8 ≤ g.toInt ∧ g.toInt ≤ 15))) ∨ r.toInt = 0 ∧ ¬ (0 ≤ a.toInt ∧ a.toInt ≤ 3 ∧ (1 ≤ a.toInt → (0 ≤ b.toInt ∧ b.toInt ≤ 4 ∨ 8 ≤ b.toInt ∧ b.toInt ≤ 15)) ∧ (2 ≤ a.toInt → (0 ≤ f.toInt ∧ f.toInt ≤ 4 ∨ 8 ≤ f.toInt ∧ f.toInt ≤ 15)) ∧ (3 ≤ a.toInt → (0 ≤ g.toInt ∧ g.toInt ≤ 4 ∨ 8 ≤ g.toInt ∧ g.toInt ≤ 15))))) A) (cX dC dI ad cid a2 lx (fun _ _ => False) A) ([.int a, .int b, .int f, .int g] : List Value).toArray s 1 6 A) (F0 m 50 ls [.int y0_50]) := by
    intro y0_50 hy0_50 hc H locs ls hP hD hS hl
    exact W.nb (fun hN => W.widen (k := 1) (n := 6) (by decide) (by decide) (vx_ret (W.zret (v := y0_50) hx hb hr (iv_nb hy0_50) (fun t ht hW => ⟨⟨some (.int y0_50), (sg, gm, lg), rfl, ⟨y0_50, rfl, rfl, hy0_50, (hc)⟩, by rw [ht]; exact hP, va_K.moved hW.alike hK, hD⟩, hS.F ht, by rw [ht]; exact hN⟩) hS.2.2 dX12_areTypes_50)))
  have hj49 : ∀ (_ : ¬ (0 ≤ a.toInt ∧ a.toInt ≤ 3 ∧ (1 ≤ a.toInt → (0 ≤ b.toInt ∧ b.toInt ≤ 4 ∨ 8 ≤ b.toInt ∧ b.toInt ≤ 15)) ∧ (2 ≤ a.toInt → (0 ≤ f.toInt ∧ f.toInt ≤ 4 ∨ 8 ≤ f.toInt ∧ f.toInt ≤ 15)) ∧ (3 ≤ a.toInt → (0 ≤ g.toInt ∧ g.toInt ≤ 4 ∨ 8 ≤ g.toInt ∧ g.toInt ≤ 15)))) (H : Heap) (locs : List Loc) (ls : Array Slot), va_P (dC, dI) vwCl (cW ad cid a2 lx sg gm lg) H → va_D A (cW ad cid a2 lx sg gm lg) → va_S A s.heap H locs → lv_has ls 4 [(0, .int a), (1, .int b), (2, .int f), (3, .int g)] → W p l e (headSpec wm_X12_areTypes ({ frames := 1, cells := 1, slots := 6, locals := 20 })).room s m ([.int a, .int b, .int f, .int g] : List Value).toArray below meth c H locs 0 0 (vx_MQ below (cQx dC dI ad cid a2 lx (fun v u => ∃ r : Int32, v = some (.int r) ∧ u = (sg, gm, lg) ∧ (iv 0 1 r) ∧ (r.toInt = 1 ∧ (0 ≤ a.toInt ∧ a.toInt ≤ 3 ∧ (1 ≤ a.toInt → (0 ≤ b.toInt ∧ b.toInt ≤ 4 ∨ 8 ≤ b.toInt ∧ b.toInt ≤ 15)) ∧ (2 ≤ a.toInt → (0 ≤ f.toInt ∧ f.toInt ≤ 4 ∨ 8 ≤ f.toInt ∧ f.toInt ≤ 15)) ∧ (3 ≤ a.toInt → (0 ≤ g.toInt ∧ g.toInt ≤ 4 ∨ 8 ≤ g.toInt ∧ g.toInt ≤ 15))) ∨ r.toInt = 0 ∧ ¬ (0 ≤ a.toInt ∧ a.toInt ≤ 3 ∧ (1 ≤ a.toInt → (0 ≤ b.toInt ∧ b.toInt ≤ 4 ∨ 8 ≤ b.toInt ∧ b.toInt ≤ 15)) ∧ (2 ≤ a.toInt → (0 ≤ f.toInt ∧ f.toInt ≤ 4 ∨ 8 ≤ f.toInt ∧ f.toInt ≤ 15)) ∧ (3 ≤ a.toInt → (0 ≤ g.toInt ∧ g.toInt ≤ 4 ∨ 8 ≤ g.toInt ∧ g.toInt ≤ 15))))) A) (cX dC dI ad cid a2 lx (fun _ _ => False) A) ([.int a, .int b, .int f, .int g] : List Value).toArray s 1 6 A) (F0 m 49 ls []) := by
    intro  hnn H locs ls hP hD hS hl
    refine lv_iconst (v := 0) hx hb dX12_areTypes_49 (by decide) ?_
    exact hj50 0 (iv_w (iv_k (by decide) : iv 0 0 0) (by decide)) (Or.inr ⟨rfl, hnn⟩) _ _ _ hP hD hS (lv_sub hl [0, 1, 2, 3] rfl)
  have hj45 : ∀ (_ : iv 0 3 a) (_ : 0 ≤ a.toInt ∧ a.toInt ≤ 3 ∧ (1 ≤ a.toInt → (0 ≤ b.toInt ∧ b.toInt ≤ 4 ∨ 8 ≤ b.toInt ∧ b.toInt ≤ 15)) ∧ (2 ≤ a.toInt → (0 ≤ f.toInt ∧ f.toInt ≤ 4 ∨ 8 ≤ f.toInt ∧ f.toInt ≤ 15)) ∧ (3 ≤ a.toInt → (0 ≤ g.toInt ∧ g.toInt ≤ 4 ∨ 8 ≤ g.toInt ∧ g.toInt ≤ 15))) (H : Heap) (locs : List Loc) (ls : Array Slot), va_P (dC, dI) vwCl (cW ad cid a2 lx sg gm lg) H → va_D A (cW ad cid a2 lx sg gm lg) → va_S A s.heap H locs → lv_has ls 4 [(0, .int a), (1, .int b), (2, .int f), (3, .int g)] → W p l e (headSpec wm_X12_areTypes ({ frames := 1, cells := 1, slots := 6, locals := 20 })).room s m ([.int a, .int b, .int f, .int g] : List Value).toArray below meth c H locs 0 0 (vx_MQ below (cQx dC dI ad cid a2 lx (fun v u => ∃ r : Int32, v = some (.int r) ∧ u = (sg, gm, lg) ∧ (iv 0 1 r) ∧ (r.toInt = 1 ∧ (0 ≤ a.toInt ∧ a.toInt ≤ 3 ∧ (1 ≤ a.toInt → (0 ≤ b.toInt ∧ b.toInt ≤ 4 ∨ 8 ≤ b.toInt ∧ b.toInt ≤ 15)) ∧ (2 ≤ a.toInt → (0 ≤ f.toInt ∧ f.toInt ≤ 4 ∨ 8 ≤ f.toInt ∧ f.toInt ≤ 15)) ∧ (3 ≤ a.toInt → (0 ≤ g.toInt ∧ g.toInt ≤ 4 ∨ 8 ≤ g.toInt ∧ g.toInt ≤ 15))) ∨ r.toInt = 0 ∧ ¬ (0 ≤ a.toInt ∧ a.toInt ≤ 3 ∧ (1 ≤ a.toInt → (0 ≤ b.toInt ∧ b.toInt ≤ 4 ∨ 8 ≤ b.toInt ∧ b.toInt ≤ 15)) ∧ (2 ≤ a.toInt → (0 ≤ f.toInt ∧ f.toInt ≤ 4 ∨ 8 ≤ f.toInt ∧ f.toInt ≤ 15)) ∧ (3 ≤ a.toInt → (0 ≤ g.toInt ∧ g.toInt ≤ 4 ∨ 8 ≤ g.toInt ∧ g.toInt ≤ 15))))) A) (cX dC dI ad cid a2 lx (fun _ _ => False) A) ([.int a, .int b, .int f, .int g] : List Value).toArray s 1 6 A) (F0 m 45 ls []) := by
    intro  hsx0_45 h3 H locs ls hP hD hS hl
    refine lv_iconst (v := 1) hx hb dX12_areTypes_45 (by decide) ?_
    refine lv_goto (tgt := 50) hx hb dX12_areTypes_46 (by decide) ?_
    exact hj50 1 (iv_w (iv_k (by decide) : iv 1 1 1) (by decide)) (Or.inl ⟨rfl, h3⟩) _ _ _ hP hD hS (lv_sub hl [0, 1, 2, 3] rfl)
  have hj33 : ∀ (_ : iv 0 3 a) (_ : 0 ≤ a.toInt ∧ a.toInt ≤ 3 ∧ (1 ≤ a.toInt → (0 ≤ b.toInt ∧ b.toInt ≤ 4 ∨ 8 ≤ b.toInt ∧ b.toInt ≤ 15)) ∧ (2 ≤ a.toInt → (0 ≤ f.toInt ∧ f.toInt ≤ 4 ∨ 8 ≤ f.toInt ∧ f.toInt ≤ 15))) (H : Heap) (locs : List Loc) (ls : Array Slot), va_P (dC, dI) vwCl (cW ad cid a2 lx sg gm lg) H → va_D A (cW ad cid a2 lx sg gm lg) → va_S A s.heap H locs → lv_has ls 4 [(0, .int a), (1, .int b), (2, .int f), (3, .int g)] → W p l e (headSpec wm_X12_areTypes ({ frames := 1, cells := 1, slots := 6, locals := 20 })).room s m ([.int a, .int b, .int f, .int g] : List Value).toArray below meth c H locs 0 0 (vx_MQ below (cQx dC dI ad cid a2 lx (fun v u => ∃ r : Int32, v = some (.int r) ∧ u = (sg, gm, lg) ∧ (iv 0 1 r) ∧ (r.toInt = 1 ∧ (0 ≤ a.toInt ∧ a.toInt ≤ 3 ∧ (1 ≤ a.toInt → (0 ≤ b.toInt ∧ b.toInt ≤ 4 ∨ 8 ≤ b.toInt ∧ b.toInt ≤ 15)) ∧ (2 ≤ a.toInt → (0 ≤ f.toInt ∧ f.toInt ≤ 4 ∨ 8 ≤ f.toInt ∧ f.toInt ≤ 15)) ∧ (3 ≤ a.toInt → (0 ≤ g.toInt ∧ g.toInt ≤ 4 ∨ 8 ≤ g.toInt ∧ g.toInt ≤ 15))) ∨ r.toInt = 0 ∧ ¬ (0 ≤ a.toInt ∧ a.toInt ≤ 3 ∧ (1 ≤ a.toInt → (0 ≤ b.toInt ∧ b.toInt ≤ 4 ∨ 8 ≤ b.toInt ∧ b.toInt ≤ 15)) ∧ (2 ≤ a.toInt → (0 ≤ f.toInt ∧ f.toInt ≤ 4 ∨ 8 ≤ f.toInt ∧ f.toInt ≤ 15)) ∧ (3 ≤ a.toInt → (0 ≤ g.toInt ∧ g.toInt ≤ 4 ∨ 8 ≤ g.toInt ∧ g.toInt ≤ 15))))) A) (cX dC dI ad cid a2 lx (fun _ _ => False) A) ([.int a, .int b, .int f, .int g] : List Value).toArray s 1 6 A) (F0 m 33 ls []) := by
    intro  hsx0_33 h2 H locs ls hP hD hS hl
    refine lv_iload_n hx hb dX12_areTypes_33 rfl (lv_at hl 0 rfl) ?_
    refine lv_iconst (v := 3) hx hb dX12_areTypes_34 (by decide) ?_
    refine lv_icmp_lt (tgt := 45) hx hb dX12_areTypes_35 (by decide) (fun c_1 => ?_) (fun c_1 => ?_)
    · have h_2 : iv 0 2 a := iv_ltL c_1 hsx0_33 (iv_k (by decide) : iv 3 3 3) (by decide)
      exact hj45 (iv_w h_2 (by decide)) (by have := i32_0; have := i32_1; have := i32_2; have := i32_m1; have := (h_2).1; have := (h_2).2; omega) _ _ _ hP hD hS (lv_sub hl [0, 1, 2, 3] rfl)
    · have h_3 : iv 3 3 a := iv_leR (i32_ge c_1) (iv_k (by decide) : iv 3 3 3) hsx0_33 (by decide)
      refine lv_iload_n hx hb dX12_areTypes_38 rfl (lv_at hl 3 rfl) ?_
      refine cm_callS (rest := []) (as := [.int g]) ⟨hx, hb, hml, hown, htb⟩ (d_isType2 l dC dI ad cid a2 lx sg gm lg g hI) (va_cwS 1 htb (gd_S kw_247 kw_248 kw_2 kw_1391) rfl rfl rfl (by decide +kernel) ⟨Nat.le_of_ble_eq_true rfl, Nat.le_of_ble_eq_true rfl⟩)  rfl hl.1 rfl (Nat.le_trans cs_n (by decide)) dX12_areTypes_39 ⟨Nat.le_of_ble_eq_true rfl, Nat.le_of_ble_eq_true rfl⟩ hK hP hD hS hA hG (fun E ce q9 u_5 H locs hw hP hD hS hce hcv hcl => ?_) (fun v9 u_5 H locs hw hP hD hS => ?_)
      · exact hw.elim
      obtain ⟨r_4, rfl, rfl, hr_4, fl_r_4⟩ := hw
      have hP : va_P (dC, dI) vwCl (cW ad cid a2 lx sg gm lg) H := hP
      have hD : va_D A (cW ad cid a2 lx sg gm lg) := hD
      refine W.eq (g2 := F0 m 42 ls [.int r_4]) rfl ?_
      refine lv_if_eq (tgt := 49) hx hb dX12_areTypes_42 (by decide) (fun c_7 => ?_) (fun c_7 => ?_)
      · have h_8 : iv 0 0 r_4 := iv_eq c_7 hr_4 (iv_k (by decide) : iv 0 0 0) (by decide)
        exact hj49 (fun q9 => by { have := i32_0; have := i32_1; have := i32_2; have := i32_m1; have := (h_3).1; have := (h_3).2; have := (h_8).1; have := (h_8).2; omega }) _ _ _ hP hD hS (lv_sub hl [0, 1, 2, 3] rfl)
      · have h_9 : iv 1 1 r_4 := iv_neL c_7 hr_4 (by decide)
        exact hj45 (iv_w h_3 (by decide)) (by have := i32_0; have := i32_1; have := i32_2; have := i32_m1; have := (h_3).1; have := (h_3).2; have := (h_9).1; have := (h_9).2; omega) _ _ _ hP hD hS (lv_sub hl [0, 1, 2, 3] rfl)
  have hj21 : ∀ (_ : iv 0 3 a) (_ : 0 ≤ a.toInt ∧ a.toInt ≤ 3 ∧ (1 ≤ a.toInt → (0 ≤ b.toInt ∧ b.toInt ≤ 4 ∨ 8 ≤ b.toInt ∧ b.toInt ≤ 15))) (H : Heap) (locs : List Loc) (ls : Array Slot), va_P (dC, dI) vwCl (cW ad cid a2 lx sg gm lg) H → va_D A (cW ad cid a2 lx sg gm lg) → va_S A s.heap H locs → lv_has ls 4 [(0, .int a), (1, .int b), (2, .int f), (3, .int g)] → W p l e (headSpec wm_X12_areTypes ({ frames := 1, cells := 1, slots := 6, locals := 20 })).room s m ([.int a, .int b, .int f, .int g] : List Value).toArray below meth c H locs 0 0 (vx_MQ below (cQx dC dI ad cid a2 lx (fun v u => ∃ r : Int32, v = some (.int r) ∧ u = (sg, gm, lg) ∧ (iv 0 1 r) ∧ (r.toInt = 1 ∧ (0 ≤ a.toInt ∧ a.toInt ≤ 3 ∧ (1 ≤ a.toInt → (0 ≤ b.toInt ∧ b.toInt ≤ 4 ∨ 8 ≤ b.toInt ∧ b.toInt ≤ 15)) ∧ (2 ≤ a.toInt → (0 ≤ f.toInt ∧ f.toInt ≤ 4 ∨ 8 ≤ f.toInt ∧ f.toInt ≤ 15)) ∧ (3 ≤ a.toInt → (0 ≤ g.toInt ∧ g.toInt ≤ 4 ∨ 8 ≤ g.toInt ∧ g.toInt ≤ 15))) ∨ r.toInt = 0 ∧ ¬ (0 ≤ a.toInt ∧ a.toInt ≤ 3 ∧ (1 ≤ a.toInt → (0 ≤ b.toInt ∧ b.toInt ≤ 4 ∨ 8 ≤ b.toInt ∧ b.toInt ≤ 15)) ∧ (2 ≤ a.toInt → (0 ≤ f.toInt ∧ f.toInt ≤ 4 ∨ 8 ≤ f.toInt ∧ f.toInt ≤ 15)) ∧ (3 ≤ a.toInt → (0 ≤ g.toInt ∧ g.toInt ≤ 4 ∨ 8 ≤ g.toInt ∧ g.toInt ≤ 15))))) A) (cX dC dI ad cid a2 lx (fun _ _ => False) A) ([.int a, .int b, .int f, .int g] : List Value).toArray s 1 6 A) (F0 m 21 ls []) := by
    intro  hsx0_21 h1 H locs ls hP hD hS hl
    refine lv_iload_n hx hb dX12_areTypes_21 rfl (lv_at hl 0 rfl) ?_
    refine lv_iconst (v := 2) hx hb dX12_areTypes_22 (by decide) ?_
    refine lv_icmp_lt (tgt := 33) hx hb dX12_areTypes_23 (by decide) (fun c_10 => ?_) (fun c_10 => ?_)
    · have h_11 : iv 0 1 a := iv_ltL c_10 hsx0_21 (iv_k (by decide) : iv 2 2 2) (by decide)
      exact hj33 (iv_w h_11 (by decide)) (by have := i32_0; have := i32_1; have := i32_2; have := i32_m1; have := (h_11).1; have := (h_11).2; omega) _ _ _ hP hD hS (lv_sub hl [0, 1, 2, 3] rfl)
    · have h_12 : iv 2 3 a := iv_leR (i32_ge c_10) (iv_k (by decide) : iv 2 2 2) hsx0_21 (by decide)
      refine lv_iload_n hx hb dX12_areTypes_26 rfl (lv_at hl 2 rfl) ?_
      refine cm_callS (rest := []) (as := [.int f]) ⟨hx, hb, hml, hown, htb⟩ (d_isType2 l dC dI ad cid a2 lx sg gm lg f hI) (va_cwS 1 htb (gd_S kw_247 kw_248 kw_2 kw_1391) rfl rfl rfl (by decide +kernel) ⟨Nat.le_of_ble_eq_true rfl, Nat.le_of_ble_eq_true rfl⟩)  rfl hl.1 rfl (Nat.le_trans cs_n (by decide)) dX12_areTypes_27 ⟨Nat.le_of_ble_eq_true rfl, Nat.le_of_ble_eq_true rfl⟩ hK hP hD hS hA hG (fun E ce q9 u_14 H locs hw hP hD hS hce hcv hcl => ?_) (fun v9 u_14 H locs hw hP hD hS => ?_)
      · exact hw.elim
      obtain ⟨r_13, rfl, rfl, hr_13, fl_r_13⟩ := hw
      have hP : va_P (dC, dI) vwCl (cW ad cid a2 lx sg gm lg) H := hP
      have hD : va_D A (cW ad cid a2 lx sg gm lg) := hD
      refine W.eq (g2 := F0 m 30 ls [.int r_13]) rfl ?_
      refine lv_if_eq (tgt := 49) hx hb dX12_areTypes_30 (by decide) (fun c_16 => ?_) (fun c_16 => ?_)
      · have h_17 : iv 0 0 r_13 := iv_eq c_16 hr_13 (iv_k (by decide) : iv 0 0 0) (by decide)
        exact hj49 (fun q9 => by { have := i32_0; have := i32_1; have := i32_2; have := i32_m1; have := (h_12).1; have := (h_12).2; have := (h_17).1; have := (h_17).2; omega }) _ _ _ hP hD hS (lv_sub hl [0, 1, 2, 3] rfl)
      · have h_18 : iv 1 1 r_13 := iv_neL c_16 hr_13 (by decide)
        exact hj33 (iv_w h_12 (by decide)) (by have := i32_0; have := i32_1; have := i32_2; have := i32_m1; have := (h_12).1; have := (h_12).2; have := (h_18).1; have := (h_18).2; omega) _ _ _ hP hD hS (lv_sub hl [0, 1, 2, 3] rfl)
  refine lv_iload_n hx hb dX12_areTypes_0 rfl (lv_at hl 0 rfl) ?_
  refine lv_if_lt (tgt := 49) hx hb dX12_areTypes_1 (by decide) (fun c_19 => ?_) (fun c_19 => ?_)
  · have h_20 : iv (-2147483648) (-1) a := iv_ltL c_19 (iv_all a) (iv_k (by decide) : iv 0 0 0) (by decide)
    exact hj49 (fun q9 => by { have := i32_0; have := i32_1; have := i32_2; have := i32_m1; have := (h_20).1; have := (h_20).2; omega }) _ _ _ hP hD hS (lv_sub hl [0, 1, 2, 3] rfl)
  · have h_21 : iv 0 2147483647 a := iv_leR (i32_ge c_19) (iv_k (by decide) : iv 0 0 0) (iv_all a) (by decide)
    refine lv_iload_n hx hb dX12_areTypes_4 rfl (lv_at hl 0 rfl) ?_
    refine lv_iconst (v := 3) hx hb dX12_areTypes_5 (by decide) ?_
    refine lv_icmp_gt (tgt := 49) hx hb dX12_areTypes_6 (by decide) (fun c_22 => ?_) (fun c_22 => ?_)
    · have h_23 : iv 4 2147483647 a := iv_ltR c_22 (iv_k (by decide) : iv 3 3 3) h_21 (by decide)
      exact hj49 (fun q9 => by { have := i32_0; have := i32_1; have := i32_2; have := i32_m1; have := (h_23).1; have := (h_23).2; omega }) _ _ _ hP hD hS (lv_sub hl [0, 1, 2, 3] rfl)
    · have h_24 : iv 0 3 a := iv_leL (i32_ge c_22) h_21 (iv_k (by decide) : iv 3 3 3) (by decide)
      refine lv_iload_n hx hb dX12_areTypes_9 rfl (lv_at hl 0 rfl) ?_
      refine lv_iconst (v := 1) hx hb dX12_areTypes_10 (by decide) ?_
      refine lv_icmp_lt (tgt := 21) hx hb dX12_areTypes_11 (by decide) (fun c_25 => ?_) (fun c_25 => ?_)
      · have h_26 : iv 0 0 a := iv_ltL c_25 h_24 (iv_k (by decide) : iv 1 1 1) (by decide)
        exact hj21 (iv_w h_26 (by decide)) (by have := i32_0; have := i32_1; have := i32_2; have := i32_m1; have := (h_26).1; have := (h_26).2; omega) _ _ _ hP hD hS (lv_sub hl [0, 1, 2, 3] rfl)
      · have h_27 : iv 1 3 a := iv_leR (i32_ge c_25) (iv_k (by decide) : iv 1 1 1) h_24 (by decide)
        refine lv_iload_n hx hb dX12_areTypes_14 rfl (lv_at hl 1 rfl) ?_
        refine cm_callS (rest := []) (as := [.int b]) ⟨hx, hb, hml, hown, htb⟩ (d_isType2 l dC dI ad cid a2 lx sg gm lg b hI) (va_cwS 1 htb (gd_S kw_247 kw_248 kw_2 kw_1391) rfl rfl rfl (by decide +kernel) ⟨Nat.le_of_ble_eq_true rfl, Nat.le_of_ble_eq_true rfl⟩)  rfl hl.1 rfl (Nat.le_trans cs_n (by decide)) dX12_areTypes_15 ⟨Nat.le_of_ble_eq_true rfl, Nat.le_of_ble_eq_true rfl⟩ hK hP hD hS hA hG (fun E ce q9 u_29 H locs hw hP hD hS hce hcv hcl => ?_) (fun v9 u_29 H locs hw hP hD hS => ?_)
        · exact hw.elim
        obtain ⟨r_28, rfl, rfl, hr_28, fl_r_28⟩ := hw
        have hP : va_P (dC, dI) vwCl (cW ad cid a2 lx sg gm lg) H := hP
        have hD : va_D A (cW ad cid a2 lx sg gm lg) := hD
        refine W.eq (g2 := F0 m 18 ls [.int r_28]) rfl ?_
        refine lv_if_eq (tgt := 49) hx hb dX12_areTypes_18 (by decide) (fun c_31 => ?_) (fun c_31 => ?_)
        · have h_32 : iv 0 0 r_28 := iv_eq c_31 hr_28 (iv_k (by decide) : iv 0 0 0) (by decide)
          exact hj49 (fun q9 => by { have := i32_0; have := i32_1; have := i32_2; have := i32_m1; have := (h_27).1; have := (h_27).2; have := (h_32).1; have := (h_32).2; omega }) _ _ _ hP hD hS (lv_sub hl [0, 1, 2, 3] rfl)
        · have h_33 : iv 1 1 r_28 := iv_neL c_31 hr_28 (by decide)
          exact hj21 (iv_w h_27 (by decide)) (by have := i32_0; have := i32_1; have := i32_2; have := i32_m1; have := (h_27).1; have := (h_27).2; have := (h_33).1; have := (h_33).2; omega) _ _ _ hP hD hS (lv_sub hl [0, 1, 2, 3] rfl)

set_option maxHeartbeats 4000000 in
set_option maxRecDepth 100000 in
theorem d_addConstructor2 (l : Launch) (dC : Nat → ClassId) (dI : Nat → Nat → Nat) (ad : Nat → Nat → Nat) (cid : Nat → ClassId) (a2 : Nat → Nat) (lx : List Nat) (sg : Nat → Int32) (gm : Nat → Nat → Int32) (lg : Nat → Nat → Int64) (x : Int32) (n : Int32) (a : Int32) (b : Int32) (f : Int32) (hI : CI sg gm) (hvx : iv 0 7 x) (hvn : iv 0 3 n) : CMt dC dI ad cid a2 lx l yX2_addConstructor wm_X2_addConstructor ({ frames := 1, cells := 1, slots := 6, locals := 24 }) [eV (ad 7) x, .int n, .int a, .int b, .int f] sg gm lg (fun v u => ∃ r : Int32, v = some (.int r) ∧ ∃ (sg2 : Nat → Int32) (gm2 : Nat → Nat → Int32) (lg2 : Nat → Nat → Int64), u = (sg2, gm2, lg2) ∧ CI sg2 gm2 ∧ KS [] sg sg2 ∧ KS [0, 7, 8, 9, 10, 54] gm gm2 ∧ KS [] lg lg2 ∧ (iv 0 1 r) ∧ (ADD9 True r x.toNatClampNeg (gm 0) (gm2 0))) (fun _ _ => False) := by
  intro sz
  refine vx_ofW (cc := cX2_addConstructor) (maxL := 5) (ret := (some .boolean)) (by decide) rfl ?_
  intro p e s m args below meth c s₁ B hml hxt hv
  obtain ⟨rfl, hsz, hP, hK, hD0, hG⟩ := hv
  have hx := B.exec
  have hb := B.bytes
  have hr := B.returns
  have hts := atoms_spec (ws := wm_X2_addConstructor) B.pre
  have htb := fun (w : Cond) (h : w ∈ tb) => hts w (List.mem_cons_of_mem _ h)
  have hown : s.vm.findClass RX2 = some m.cls := findClass_of_methodNamed B.named
  have hlocks := B.notSynchronized
  subst hsz
  have hD := hD0.self (sz := s.heap.size)
  generalize hAe : va_A (cW ad cid a2 lx sg gm lg) s.heap.size = A at hD hG ⊢
  have hA : ∀ q : Nat, s.heap.size ≤ q → A q := fun q h => by rw [← hAe]; exact Or.inr h
  have hS : va_S A s.heap s.heap [] := va_S.rf
  have hl := lv_entry ([eV (ad 7) x, .int n, .int a, .int b, .int f]) (n := 5) (by rw [show (lg_sl ([eV (ad 7) x, .int n, .int a, .int b, .int f])).length = 5 from by simp [lg_sl, eV_cat, cat_i, cat_l]]; exact Nat.le_of_ble_eq_true rfl)
  rw [lg_entry_eq]
  generalize (lg_sl ([eV (ad 7) x, .int n, .int a, .int b, .int f]) ++ List.replicate (5 - (lg_sl ([eV (ad 7) x, .int n, .int a, .int b, .int f])).length) Slot.unset).toArray = ls at hl ⊢
  have hl : lv_has ls 5 [(0, eV (ad 7) x), (1, .int n), (2, .int a), (3, .int b), (4, .int f)] := by simp [lv_args, eV_cat, cat_i, cat_l] at hl; exact hl
  refine ec_aload_n hx hb dX2_addConstructor_0 rfl (lv_at hl 0 rfl) ?_
  refine cr_get (t := 7) (j := 2) (C := RX2) (T := TX2) (N := 8) (v := .int (gm 0 x.toNatClampNeg)) hx hb htb inX2 hown hK hP hvx (by decide) (by decide) (by decide) rfl (by decide) (htb _ kw_233) rfl dX2_addConstructor_1 ?_
  obtain ⟨z_1, ez_1⟩ : ∃ z : Int32, z = (gm 0 x.toNatClampNeg) := ⟨_, rfl⟩
  refine W.eq (g2 := F0 m 4 ls [.int z_1]) (by rw [ez_1]) ?_
  have hz_1 : iv 0 4 z_1 := iv_of ez_1 (CI_a hI 0 hvx (by decide))
  refine lv_iconst (v := 4) hx hb dX2_addConstructor_4 (by decide) ?_
  refine lv_icmp_lt (tgt := 10) hx hb dX2_addConstructor_5 (by decide) (fun c_2 => ?_) (fun c_2 => ?_)
  · have h_3 : iv 0 3 z_1 := iv_ltL c_2 hz_1 (iv_k (by decide) : iv 4 4 4) (by decide)
    refine ec_aload_n hx hb dX2_addConstructor_10 rfl (lv_at hl 0 rfl) ?_
    refine cr_get (t := 7) (j := 0) (C := RX2) (T := TX2) (N := 8) (v := eV (ad 28) x) hx hb htb inX2 hown hK hP hvx (by decide) (by decide) (by decide) rfl (by decide) (htb _ kw_48) (cV_c rfl (hvx).1 (by rw [show cMu 7 0 = 1 from rfl, Nat.one_mul]; rfl)) dX2_addConstructor_11 ?_
    refine ec_aload_n hx hb dX2_addConstructor_14 rfl (lv_at hl 0 rfl) ?_
    refine cr_get (t := 7) (j := 2) (C := RX2) (T := TX2) (N := 8) (v := .int (gm 0 x.toNatClampNeg)) hx hb htb inX2 hown hK hP hvx (by decide) (by decide) (by decide) rfl (by decide) (htb _ kw_233) rfl dX2_addConstructor_15 ?_
    refine W.eq (g2 := F0 m 18 ls [.int z_1, eV (ad 28) x]) (by rw [show (gm 0 x.toNatClampNeg) = z_1 from ez_1.symm]) ?_
    obtain ⟨q_4, hq_4, nq_4, tq_4⟩ := ix_mk (8 * x.toNatClampNeg + 0 + (z_1 : Int32).toNatClampNeg) 63 (by have q1 := iv_cl hvx (by decide); have q2 := (hvx).2; have q3 := iv_cl h_3 (by decide); have q4 := (h_3).2; omega) (by decide)
    refine cr_aald (t := 28) (C := RX8) (v := eV (ad 8) q_4) hx hb hK hP hvx (by decide) (by decide) (by decide) (by decide) (by decide) rfl (show vp_in z_1 (cLen 28) from (show vp_in z_1 4 from (iv_in h_3 (by decide)))) (cAr_c (by decide) hq_4.1 nq_4) dX2_addConstructor_18 ?_
    refine lv_iconst (v := (-1)) hx hb dX2_addConstructor_19 (by decide) ?_
    refine lv_iconst (v := 0) hx hb dX2_addConstructor_20 (by decide) ?_
    refine ec_aload_n hx hb dX2_addConstructor_21 rfl (lv_at hl 0 rfl) ?_
    refine cr_get (t := 7) (j := 4) (C := RX2) (T := TX2) (N := 8) (v := .int (gm 2 x.toNatClampNeg)) hx hb htb inX2 hown hK hP hvx (by decide) (by decide) (by decide) rfl (by decide) (htb _ kw_46) rfl dX2_addConstructor_22 ?_
    obtain ⟨z_5, ez_5⟩ : ∃ z : Int32, z = (gm 2 x.toNatClampNeg) := ⟨_, rfl⟩
    refine W.eq (g2 := F0 m 25 ls [.int z_5, .int 0, .int (-1), eV (ad 8) q_4]) (by rw [ez_5]) ?_
    have hz_5 : iv 0 7 z_5 := iv_of ez_5 (CI_a hI 2 hvx (by decide))
    refine cm_callV (t := 8) (C := RX8) (T := TX8) (N := 7) (rest := []) (as := [.int (-1), .int 0, .int z_5]) ⟨hx, hb, hml, hown, htb⟩ (d_describe l dC dI ad cid a2 lx sg gm lg q_4 (-1) 0 z_5 hI hq_4 (iv_w (iv_k (by decide) : iv (-1) (-1) (-1)) (by decide)) (iv_w (iv_k (by decide) : iv 0 0 0) (by decide)) hz_5) (cwV 3 htb (gd_V kw_252 kw_253 kw_254 kw_51 kw_1393) rfl rfl rfl (by decide +kernel) ⟨Nat.le_of_ble_eq_true rfl, Nat.le_of_ble_eq_true rfl⟩) hq_4 (by decide) (by decide) rfl rfl hl.1 rfl (Nat.le_trans cs_n (by decide)) dX2_addConstructor_25 ⟨Nat.le_of_ble_eq_true rfl, Nat.le_of_ble_eq_true rfl⟩ hK hP hD hS hA hG (fun E ce q9 u_7 H locs hw hP hD hS hce hcv hcl => ?_) (fun v9 u_7 H locs hw hP hD hS => ?_)
    · exact hw.elim
    obtain ⟨rfl, sgv_8, gmv_8, lgv_8, rfl, hIv_8, ksv_8, kgv_8, klv_8⟩ := hw
    obtain rfl := KS_nil ksv_8
    obtain rfl := KS_nil klv_8
    have hP : va_P (dC, dI) vwCl (cW ad cid a2 lx sg gmv_8 lg) H := hP
    have hD : va_D A (cW ad cid a2 lx sg gmv_8 lg) := hD
    refine W.eq (g2 := F0 m 28 ls []) rfl ?_
    refine ec_aload_n hx hb dX2_addConstructor_28 rfl (lv_at hl 0 rfl) ?_
    refine cr_get (t := 7) (j := 0) (C := RX2) (T := TX2) (N := 8) (v := eV (ad 28) x) hx hb htb inX2 hown hK hP hvx (by decide) (by decide) (by decide) rfl (by decide) (htb _ kw_48) (cV_c rfl (hvx).1 (by rw [show cMu 7 0 = 1 from rfl, Nat.one_mul]; rfl)) dX2_addConstructor_29 ?_
    refine ec_aload_n hx hb dX2_addConstructor_32 rfl (lv_at hl 0 rfl) ?_
    refine cr_get (t := 7) (j := 2) (C := RX2) (T := TX2) (N := 8) (v := .int (gmv_8 0 x.toNatClampNeg)) hx hb htb inX2 hown hK hP hvx (by decide) (by decide) (by decide) rfl (by decide) (htb _ kw_233) rfl dX2_addConstructor_33 ?_
    refine W.eq (g2 := F0 m 36 ls [.int z_1, eV (ad 28) x]) (by rw [show (gmv_8 0 x.toNatClampNeg) = z_1 from (Eq.trans (congrFun (kgv_8 0 (by decide)) _) ez_1.symm)]) ?_
    refine cr_aald (t := 28) (C := RX8) (v := eV (ad 8) q_4) hx hb hK hP hvx (by decide) (by decide) (by decide) (by decide) (by decide) rfl (show vp_in z_1 (cLen 28) from (show vp_in z_1 4 from (iv_in h_3 (by decide)))) (cAr_c (by decide) hq_4.1 nq_4) dX2_addConstructor_36 ?_
    refine lv_iload_n hx hb dX2_addConstructor_37 rfl (lv_at hl 1 rfl) ?_
    refine lv_iload_n hx hb dX2_addConstructor_38 rfl (lv_at hl 2 rfl) ?_
    refine lv_iload_n hx hb dX2_addConstructor_39 rfl (lv_at hl 3 rfl) ?_
    refine lv_iload hx hb dX2_addConstructor_40 (lv_at hl 4 rfl) ?_
    refine cm_callV (t := 8) (C := RX8) (T := TX8) (N := 7) (rest := []) (as := [.int n, .int a, .int b, .int f]) ⟨hx, hb, hml, hown, htb⟩ (d_setTypes l dC dI ad cid a2 lx sg gmv_8 lg q_4 n a b f hIv_8 hq_4 hvn) (cwV 4 htb (gd_V kw_258 kw_259 kw_260 kw_51 kw_1394) rfl rfl rfl (by decide +kernel) ⟨Nat.le_of_ble_eq_true rfl, Nat.le_of_ble_eq_true rfl⟩) hq_4 (by decide) (by decide) rfl rfl hl.1 rfl (Nat.le_trans cs_n (by decide)) dX2_addConstructor_42 ⟨Nat.le_of_ble_eq_true rfl, Nat.le_of_ble_eq_true rfl⟩ hK hP hD hS hA hG (fun E ce q9 u_10 H locs hw hP hD hS hce hcv hcl => ?_) (fun v9 u_10 H locs hw hP hD hS => ?_)
    · exact hw.elim
    obtain ⟨rfl, sgv_11, gmv_11, lgv_11, rfl, hIv_11, ksv_11, kgv_11, klv_11⟩ := hw
    obtain rfl := KS_nil ksv_11
    obtain rfl := KS_nil klv_11
    have hP : va_P (dC, dI) vwCl (cW ad cid a2 lx sg gmv_11 lg) H := hP
    have hD : va_D A (cW ad cid a2 lx sg gmv_11 lg) := hD
    refine W.eq (g2 := F0 m 45 ls []) rfl ?_
    refine ec_aload_n hx hb dX2_addConstructor_45 rfl (lv_at hl 0 rfl) ?_
    refine lv_dup hx hb dX2_addConstructor_46 (eV_cat _ _) ?_
    refine cr_get (t := 7) (j := 2) (C := RX2) (T := TX2) (N := 8) (v := .int (gmv_11 0 x.toNatClampNeg)) hx hb htb inX2 hown hK hP hvx (by decide) (by decide) (by decide) rfl (by decide) (htb _ kw_233) rfl dX2_addConstructor_47 ?_
    refine W.eq (g2 := F0 m 50 ls [.int z_1, eV (ad 7) x]) (by rw [show (gmv_11 0 x.toNatClampNeg) = z_1 from (Eq.trans (congrFun (Eq.trans (kgv_11 0 (by decide)) (kgv_8 0 (by decide))) _) ez_1.symm)]) ?_
    refine lv_iconst (v := 1) hx hb dX2_addConstructor_50 (by decide) ?_
    refine lv_iadd hx hb dX2_addConstructor_51 ?_
    refine lv_topi (fun z_12 ez_12 => ?_)
    have hz_12 : iv 1 4 z_12 := iv_of ez_12 (iv_add h_3 (iv_k (by decide) : iv 1 1 1) (by decide))
    have tz_12 : z_12.toInt = (z_1 : Int32).toInt + 1 := by rw [ez_12]; exact iv_addE h_3 (iv_k (by decide) : iv 1 1 1) (by decide)
    refine cr_putg (t := 7) (j := 2) (C := RX2) (T := TX2) (N := 8) (ty0 := tyX2) (k := 0) (y := z_12) hx hb htb inX2 tyX2_ok nmX2 hown hK hP hD hS hvx (by decide) (by decide) (by decide) (by decide) rfl rfl (by decide) (htb _ kw_233) rfl (by show Value.int z_12 = Value.int (va_up gmv_11 0 (upd (gmv_11 0) x.toNatClampNeg z_12) 0 x.toNatClampNeg); rw [va_up_self, upd_at]) rfl rfl dX2_addConstructor_52 (fun gm_13 H locs egm_13 hP hD hS => ?_)
    have hI_gm_13 := CI_st hIv_11 egm_13 hz_12 (by decide)
    refine lv_iconst (v := 1) hx hb dX2_addConstructor_55 (by decide) ?_
    exact W.nb (fun hN => W.widen (k := 1) (n := 6) (by decide) (by decide) (vx_ret (W.zret (v := 1) hx hb hr (iv_nb (iv_w (iv_k (by decide) : iv 1 1 1) (by decide))) (fun t ht hW => ⟨⟨some (.int 1), (sg, gm_13, lg), rfl, ⟨1, rfl, sg, gm_13, lg, rfl, hI_gm_13, KS_rf, (KS_up (KS_tr (L := [0, 7, 8, 9, 10, 54]) (KS_tr (L := [0, 7, 8, 9, 10, 54]) KS_rf kgv_8 (by decide)) kgv_11 (by decide)) egm_13 (by decide)), KS_rf, (iv_w (iv_k (by decide) : iv 1 1 1) (by decide)), (Or.inl ⟨rfl, trivial, (by rw [← ez_1]; have := i32_0; have := i32_1; have := i32_2; have := i32_m1; have := (hvx).1; have := (hvx).2; have := (hvn).1; have := (hvn).2; have := (h_3).1; have := (h_3).2; have := (hq_4).1; have := (hq_4).2; have := (hz_5).1; have := (hz_5).2; have := (hz_12).1; have := (hz_12).2; omega), _, (by rw [← ez_1]; have := i32_0; have := i32_1; have := i32_2; have := i32_m1; have := (hvx).1; have := (hvx).2; have := (hvn).1; have := (hvn).2; have := (h_3).1; have := (h_3).2; have := (hq_4).1; have := (hq_4).2; have := (hz_5).1; have := (hz_5).2; have := (hz_12).1; have := (hz_12).2; omega), (show gm_13 0 = upd (gm 0) (x : Int32).toNatClampNeg z_12 from ((up_at egm_13).trans (by rw [show gmv_11 0 = gm 0 from ((kgv_11 0 (by decide)).trans ((kgv_8 0 (by decide)).trans rfl))])))⟩)⟩, by rw [ht]; exact hP, va_K.moved hW.alike hK, hD⟩, hS.F ht, by rw [ht]; exact hN⟩) hS.2.2 dX2_addConstructor_56)))
  · have h_14 : iv 4 4 z_1 := iv_leR (i32_ge c_2) (iv_k (by decide) : iv 4 4 4) hz_1 (by decide)
    refine lv_iconst (v := 0) hx hb dX2_addConstructor_8 (by decide) ?_
    exact W.nb (fun hN => W.widen (k := 1) (n := 6) (by decide) (by decide) (vx_ret (W.zret (v := 0) hx hb hr (iv_nb (iv_w (iv_k (by decide) : iv 0 0 0) (by decide))) (fun t ht hW => ⟨⟨some (.int 0), (sg, gm, lg), rfl, ⟨0, rfl, sg, gm, lg, rfl, hI, KS_rf, KS_rf, KS_rf, (iv_w (iv_k (by decide) : iv 0 0 0) (by decide)), (Or.inr ⟨rfl, Or.inr (by rw [← ez_1]; have := i32_0; have := i32_1; have := i32_2; have := i32_m1; have := (hvx).1; have := (hvx).2; have := (hvn).1; have := (hvn).2; have := (h_14).1; have := (h_14).2; omega), (show gm 0 = gm 0 from rfl)⟩)⟩, by rw [ht]; exact hP, va_K.moved hW.alike hK, hD⟩, hS.F ht, by rw [ht]; exact hN⟩) hS.2.2 dX2_addConstructor_9)))

set_option maxHeartbeats 4000000 in
set_option maxRecDepth 100000 in
theorem d_addFactory2 (l : Launch) (dC : Nat → ClassId) (dI : Nat → Nat → Nat) (ad : Nat → Nat → Nat) (cid : Nat → ClassId) (a2 : Nat → Nat) (lx : List Nat) (sg : Nat → Int32) (gm : Nat → Nat → Int32) (lg : Nat → Nat → Int64) (x : Int32) (nm : Int32) (z : Int32) (re : Int32) (n : Int32) (a : Int32) (b : Int32) (f : Int32) (hI : CI sg gm) (hvx : iv 0 7 x) (hvnm : iv 0 25 nm) (hvz : iv 0 1 z) (hvre : iv 0 7 re) (hvn : iv 0 3 n) : CMt dC dI ad cid a2 lx l yX2_addFactory wm_X2_addFactory ({ frames := 1, cells := 1, slots := 6, locals := 24 }) [eV (ad 7) x, .int nm, .int z, .int re, .int n, .int a, .int b, .int f] sg gm lg (fun v u => ∃ r : Int32, v = some (.int r) ∧ ∃ (sg2 : Nat → Int32) (gm2 : Nat → Nat → Int32) (lg2 : Nat → Nat → Int64), u = (sg2, gm2, lg2) ∧ CI sg2 gm2 ∧ KS [] sg sg2 ∧ KS [1, 7, 8, 9, 10, 54] gm gm2 ∧ KS [] lg lg2 ∧ (iv 0 1 r) ∧ (ADD9 True r x.toNatClampNeg (gm 1) (gm2 1))) (fun _ _ => False) := by
  intro sz
  refine vx_ofW (cc := cX2_addFactory) (maxL := 8) (ret := (some .boolean)) (by decide) rfl ?_
  intro p e s m args below meth c s₁ B hml hxt hv
  obtain ⟨rfl, hsz, hP, hK, hD0, hG⟩ := hv
  have hx := B.exec
  have hb := B.bytes
  have hr := B.returns
  have hts := atoms_spec (ws := wm_X2_addFactory) B.pre
  have htb := fun (w : Cond) (h : w ∈ tb) => hts w (List.mem_cons_of_mem _ h)
  have hown : s.vm.findClass RX2 = some m.cls := findClass_of_methodNamed B.named
  have hlocks := B.notSynchronized
  subst hsz
  have hD := hD0.self (sz := s.heap.size)
  generalize hAe : va_A (cW ad cid a2 lx sg gm lg) s.heap.size = A at hD hG ⊢
  have hA : ∀ q : Nat, s.heap.size ≤ q → A q := fun q h => by rw [← hAe]; exact Or.inr h
  have hS : va_S A s.heap s.heap [] := va_S.rf
  have hl := lv_entry ([eV (ad 7) x, .int nm, .int z, .int re, .int n, .int a, .int b, .int f]) (n := 8) (by rw [show (lg_sl ([eV (ad 7) x, .int nm, .int z, .int re, .int n, .int a, .int b, .int f])).length = 8 from by simp [lg_sl, eV_cat, cat_i, cat_l]]; exact Nat.le_of_ble_eq_true rfl)
  rw [lg_entry_eq]
  generalize (lg_sl ([eV (ad 7) x, .int nm, .int z, .int re, .int n, .int a, .int b, .int f]) ++ List.replicate (8 - (lg_sl ([eV (ad 7) x, .int nm, .int z, .int re, .int n, .int a, .int b, .int f])).length) Slot.unset).toArray = ls at hl ⊢
  have hl : lv_has ls 8 [(0, eV (ad 7) x), (1, .int nm), (2, .int z), (3, .int re), (4, .int n), (5, .int a), (6, .int b), (7, .int f)] := by simp [lv_args, eV_cat, cat_i, cat_l] at hl; exact hl
  refine ec_aload_n hx hb dX2_addFactory_0 rfl (lv_at hl 0 rfl) ?_
  refine cr_get (t := 7) (j := 3) (C := RX2) (T := TX2) (N := 8) (v := .int (gm 1 x.toNatClampNeg)) hx hb htb inX2 hown hK hP hvx (by decide) (by decide) (by decide) rfl (by decide) (htb _ kw_234) rfl dX2_addFactory_1 ?_
  obtain ⟨z_1, ez_1⟩ : ∃ z : Int32, z = (gm 1 x.toNatClampNeg) := ⟨_, rfl⟩
  refine W.eq (g2 := F0 m 4 ls [.int z_1]) (by rw [ez_1]) ?_
  have hz_1 : iv 0 4 z_1 := iv_of ez_1 (CI_a hI 1 hvx (by decide))
  refine lv_iconst (v := 4) hx hb dX2_addFactory_4 (by decide) ?_
  refine lv_icmp_lt (tgt := 10) hx hb dX2_addFactory_5 (by decide) (fun c_2 => ?_) (fun c_2 => ?_)
  · have h_3 : iv 0 3 z_1 := iv_ltL c_2 hz_1 (iv_k (by decide) : iv 4 4 4) (by decide)
    refine ec_aload_n hx hb dX2_addFactory_10 rfl (lv_at hl 0 rfl) ?_
    refine cr_get (t := 7) (j := 1) (C := RX2) (T := TX2) (N := 8) (v := eV (ad 29) x) hx hb htb inX2 hown hK hP hvx (by decide) (by decide) (by decide) rfl (by decide) (htb _ kw_49) (cV_c rfl (hvx).1 (by rw [show cMu 7 1 = 1 from rfl, Nat.one_mul]; rfl)) dX2_addFactory_11 ?_
    refine ec_aload_n hx hb dX2_addFactory_14 rfl (lv_at hl 0 rfl) ?_
    refine cr_get (t := 7) (j := 3) (C := RX2) (T := TX2) (N := 8) (v := .int (gm 1 x.toNatClampNeg)) hx hb htb inX2 hown hK hP hvx (by decide) (by decide) (by decide) rfl (by decide) (htb _ kw_234) rfl dX2_addFactory_15 ?_
    refine W.eq (g2 := F0 m 18 ls [.int z_1, eV (ad 29) x]) (by rw [show (gm 1 x.toNatClampNeg) = z_1 from ez_1.symm]) ?_
    obtain ⟨q_4, hq_4, nq_4, tq_4⟩ := ix_mk (8 * x.toNatClampNeg + 4 + (z_1 : Int32).toNatClampNeg) 63 (by have q1 := iv_cl hvx (by decide); have q2 := (hvx).2; have q3 := iv_cl h_3 (by decide); have q4 := (h_3).2; omega) (by decide)
    refine cr_aald (t := 29) (C := RX8) (v := eV (ad 8) q_4) hx hb hK hP hvx (by decide) (by decide) (by decide) (by decide) (by decide) rfl (show vp_in z_1 (cLen 29) from (show vp_in z_1 4 from (iv_in h_3 (by decide)))) (cAr_c (by decide) hq_4.1 nq_4) dX2_addFactory_18 ?_
    refine lv_iload_n hx hb dX2_addFactory_19 rfl (lv_at hl 1 rfl) ?_
    refine lv_iload_n hx hb dX2_addFactory_20 rfl (lv_at hl 2 rfl) ?_
    refine lv_iload_n hx hb dX2_addFactory_21 rfl (lv_at hl 3 rfl) ?_
    refine cm_callV (t := 8) (C := RX8) (T := TX8) (N := 7) (rest := []) (as := [.int nm, .int z, .int re]) ⟨hx, hb, hml, hown, htb⟩ (d_describe l dC dI ad cid a2 lx sg gm lg q_4 nm z re hI hq_4 (iv_w hvnm (by decide)) hvz hvre) (cwV 3 htb (gd_V kw_252 kw_253 kw_254 kw_51 kw_1393) rfl rfl rfl (by decide +kernel) ⟨Nat.le_of_ble_eq_true rfl, Nat.le_of_ble_eq_true rfl⟩) hq_4 (by decide) (by decide) rfl rfl hl.1 rfl (Nat.le_trans cs_n (by decide)) dX2_addFactory_22 ⟨Nat.le_of_ble_eq_true rfl, Nat.le_of_ble_eq_true rfl⟩ hK hP hD hS hA hG (fun E ce q9 u_6 H locs hw hP hD hS hce hcv hcl => ?_) (fun v9 u_6 H locs hw hP hD hS => ?_)
    · exact hw.elim
    obtain ⟨rfl, sgv_7, gmv_7, lgv_7, rfl, hIv_7, ksv_7, kgv_7, klv_7⟩ := hw
    obtain rfl := KS_nil ksv_7
    obtain rfl := KS_nil klv_7
    have hP : va_P (dC, dI) vwCl (cW ad cid a2 lx sg gmv_7 lg) H := hP
    have hD : va_D A (cW ad cid a2 lx sg gmv_7 lg) := hD
    refine W.eq (g2 := F0 m 25 ls []) rfl ?_
    refine ec_aload_n hx hb dX2_addFactory_25 rfl (lv_at hl 0 rfl) ?_
    refine cr_get (t := 7) (j := 1) (C := RX2) (T := TX2) (N := 8) (v := eV (ad 29) x) hx hb htb inX2 hown hK hP hvx (by decide) (by decide) (by decide) rfl (by decide) (htb _ kw_49) (cV_c rfl (hvx).1 (by rw [show cMu 7 1 = 1 from rfl, Nat.one_mul]; rfl)) dX2_addFactory_26 ?_
    refine ec_aload_n hx hb dX2_addFactory_29 rfl (lv_at hl 0 rfl) ?_
    refine cr_get (t := 7) (j := 3) (C := RX2) (T := TX2) (N := 8) (v := .int (gmv_7 1 x.toNatClampNeg)) hx hb htb inX2 hown hK hP hvx (by decide) (by decide) (by decide) rfl (by decide) (htb _ kw_234) rfl dX2_addFactory_30 ?_
    refine W.eq (g2 := F0 m 33 ls [.int z_1, eV (ad 29) x]) (by rw [show (gmv_7 1 x.toNatClampNeg) = z_1 from (Eq.trans (congrFun (kgv_7 1 (by decide)) _) ez_1.symm)]) ?_
    refine cr_aald (t := 29) (C := RX8) (v := eV (ad 8) q_4) hx hb hK hP hvx (by decide) (by decide) (by decide) (by decide) (by decide) rfl (show vp_in z_1 (cLen 29) from (show vp_in z_1 4 from (iv_in h_3 (by decide)))) (cAr_c (by decide) hq_4.1 nq_4) dX2_addFactory_33 ?_
    refine lv_iload hx hb dX2_addFactory_34 (lv_at hl 4 rfl) ?_
    refine lv_iload hx hb dX2_addFactory_36 (lv_at hl 5 rfl) ?_
    refine lv_iload hx hb dX2_addFactory_38 (lv_at hl 6 rfl) ?_
    refine lv_iload hx hb dX2_addFactory_40 (lv_at hl 7 rfl) ?_
    refine cm_callV (t := 8) (C := RX8) (T := TX8) (N := 7) (rest := []) (as := [.int n, .int a, .int b, .int f]) ⟨hx, hb, hml, hown, htb⟩ (d_setTypes l dC dI ad cid a2 lx sg gmv_7 lg q_4 n a b f hIv_7 hq_4 hvn) (cwV 4 htb (gd_V kw_258 kw_259 kw_260 kw_51 kw_1394) rfl rfl rfl (by decide +kernel) ⟨Nat.le_of_ble_eq_true rfl, Nat.le_of_ble_eq_true rfl⟩) hq_4 (by decide) (by decide) rfl rfl hl.1 rfl (Nat.le_trans cs_n (by decide)) dX2_addFactory_42 ⟨Nat.le_of_ble_eq_true rfl, Nat.le_of_ble_eq_true rfl⟩ hK hP hD hS hA hG (fun E ce q9 u_9 H locs hw hP hD hS hce hcv hcl => ?_) (fun v9 u_9 H locs hw hP hD hS => ?_)
    · exact hw.elim
    obtain ⟨rfl, sgv_10, gmv_10, lgv_10, rfl, hIv_10, ksv_10, kgv_10, klv_10⟩ := hw
    obtain rfl := KS_nil ksv_10
    obtain rfl := KS_nil klv_10
    have hP : va_P (dC, dI) vwCl (cW ad cid a2 lx sg gmv_10 lg) H := hP
    have hD : va_D A (cW ad cid a2 lx sg gmv_10 lg) := hD
    refine W.eq (g2 := F0 m 45 ls []) rfl ?_
    refine ec_aload_n hx hb dX2_addFactory_45 rfl (lv_at hl 0 rfl) ?_
    refine lv_dup hx hb dX2_addFactory_46 (eV_cat _ _) ?_
    refine cr_get (t := 7) (j := 3) (C := RX2) (T := TX2) (N := 8) (v := .int (gmv_10 1 x.toNatClampNeg)) hx hb htb inX2 hown hK hP hvx (by decide) (by decide) (by decide) rfl (by decide) (htb _ kw_234) rfl dX2_addFactory_47 ?_
    refine W.eq (g2 := F0 m 50 ls [.int z_1, eV (ad 7) x]) (by rw [show (gmv_10 1 x.toNatClampNeg) = z_1 from (Eq.trans (congrFun (Eq.trans (kgv_10 1 (by decide)) (kgv_7 1 (by decide))) _) ez_1.symm)]) ?_
    refine lv_iconst (v := 1) hx hb dX2_addFactory_50 (by decide) ?_
    refine lv_iadd hx hb dX2_addFactory_51 ?_
    refine lv_topi (fun z_11 ez_11 => ?_)
    have hz_11 : iv 1 4 z_11 := iv_of ez_11 (iv_add h_3 (iv_k (by decide) : iv 1 1 1) (by decide))
    have tz_11 : z_11.toInt = (z_1 : Int32).toInt + 1 := by rw [ez_11]; exact iv_addE h_3 (iv_k (by decide) : iv 1 1 1) (by decide)
    refine cr_putg (t := 7) (j := 3) (C := RX2) (T := TX2) (N := 8) (ty0 := tyX2) (k := 1) (y := z_11) hx hb htb inX2 tyX2_ok nmX2 hown hK hP hD hS hvx (by decide) (by decide) (by decide) (by decide) rfl rfl (by decide) (htb _ kw_234) rfl (by show Value.int z_11 = Value.int (va_up gmv_10 1 (upd (gmv_10 1) x.toNatClampNeg z_11) 1 x.toNatClampNeg); rw [va_up_self, upd_at]) rfl rfl dX2_addFactory_52 (fun gm_12 H locs egm_12 hP hD hS => ?_)
    have hI_gm_12 := CI_st hIv_10 egm_12 hz_11 (by decide)
    refine lv_iconst (v := 1) hx hb dX2_addFactory_55 (by decide) ?_
    exact W.nb (fun hN => W.widen (k := 1) (n := 6) (by decide) (by decide) (vx_ret (W.zret (v := 1) hx hb hr (iv_nb (iv_w (iv_k (by decide) : iv 1 1 1) (by decide))) (fun t ht hW => ⟨⟨some (.int 1), (sg, gm_12, lg), rfl, ⟨1, rfl, sg, gm_12, lg, rfl, hI_gm_12, KS_rf, (KS_up (KS_tr (L := [1, 7, 8, 9, 10, 54]) (KS_tr (L := [1, 7, 8, 9, 10, 54]) KS_rf kgv_7 (by decide)) kgv_10 (by decide)) egm_12 (by decide)), KS_rf, (iv_w (iv_k (by decide) : iv 1 1 1) (by decide)), (Or.inl ⟨rfl, trivial, (by rw [← ez_1]; have := i32_0; have := i32_1; have := i32_2; have := i32_m1; have := (hvx).1; have := (hvx).2; have := (hvnm).1; have := (hvnm).2; have := (hvz).1; have := (hvz).2; have := (hvre).1; have := (hvre).2; have := (hvn).1; have := (hvn).2; have := (h_3).1; have := (h_3).2; have := (hq_4).1; have := (hq_4).2; have := (hz_11).1; have := (hz_11).2; omega), _, (by rw [← ez_1]; have := i32_0; have := i32_1; have := i32_2; have := i32_m1; have := (hvx).1; have := (hvx).2; have := (hvnm).1; have := (hvnm).2; have := (hvz).1; have := (hvz).2; have := (hvre).1; have := (hvre).2; have := (hvn).1; have := (hvn).2; have := (h_3).1; have := (h_3).2; have := (hq_4).1; have := (hq_4).2; have := (hz_11).1; have := (hz_11).2; omega), (show gm_12 1 = upd (gm 1) (x : Int32).toNatClampNeg z_11 from ((up_at egm_12).trans (by rw [show gmv_10 1 = gm 1 from ((kgv_10 1 (by decide)).trans ((kgv_7 1 (by decide)).trans rfl))])))⟩)⟩, by rw [ht]; exact hP, va_K.moved hW.alike hK, hD⟩, hS.F ht, by rw [ht]; exact hN⟩) hS.2.2 dX2_addFactory_56)))
  · have h_13 : iv 4 4 z_1 := iv_leR (i32_ge c_2) (iv_k (by decide) : iv 4 4 4) hz_1 (by decide)
    refine lv_iconst (v := 0) hx hb dX2_addFactory_8 (by decide) ?_
    exact W.nb (fun hN => W.widen (k := 1) (n := 6) (by decide) (by decide) (vx_ret (W.zret (v := 0) hx hb hr (iv_nb (iv_w (iv_k (by decide) : iv 0 0 0) (by decide))) (fun t ht hW => ⟨⟨some (.int 0), (sg, gm, lg), rfl, ⟨0, rfl, sg, gm, lg, rfl, hI, KS_rf, KS_rf, KS_rf, (iv_w (iv_k (by decide) : iv 0 0 0) (by decide)), (Or.inr ⟨rfl, Or.inr (by rw [← ez_1]; have := i32_0; have := i32_1; have := i32_2; have := i32_m1; have := (hvx).1; have := (hvx).2; have := (hvnm).1; have := (hvnm).2; have := (hvz).1; have := (hvz).2; have := (hvre).1; have := (hvre).2; have := (hvn).1; have := (hvn).2; have := (h_13).1; have := (h_13).2; omega), (show gm 1 = gm 1 from rfl)⟩)⟩, by rw [ht]; exact hP, va_K.moved hW.alike hK, hD⟩, hS.F ht, by rw [ht]; exact hN⟩) hS.2.2 dX2_addFactory_9)))

set_option maxHeartbeats 4000000 in
set_option maxRecDepth 100000 in
theorem d_beginDc2 (l : Launch) (dC : Nat → ClassId) (dI : Nat → Nat → Nat) (ad : Nat → Nat → Nat) (cid : Nat → ClassId) (a2 : Nat → Nat) (lx : List Nat) (sg : Nat → Int32) (gm : Nat → Nat → Int32) (lg : Nat → Nat → Int64) (x : Int32) (a : Int32) (hI : CI sg gm) (hvx : iv 0 7 x) (hva : iv (-1) 7 a) : CMt dC dI ad cid a2 lx l yX2_begin wm_X2_begin ({ frames := 0, cells := 1, slots := 6, locals := 0 }) [eV (ad 7) x, eV (ad 7) a] sg gm lg (fun v u => v = none ∧ ∃ (sg2 : Nat → Int32) (gm2 : Nat → Nat → Int32) (lg2 : Nat → Nat → Int64), u = (sg2, gm2, lg2) ∧ CI sg2 gm2 ∧ KS [] sg sg2 ∧ KS [0, 1, 3, 4, 55] gm gm2 ∧ KS [] lg lg2 ∧ (gm2 0 = upd (gm 0) x.toNatClampNeg 0) ∧ (gm2 1 = upd (gm 1) x.toNatClampNeg 0) ∧ (gm2 3 = upd (gm 3) x.toNatClampNeg 0)) (fun _ _ => False) := by
  intro sz
  refine vx_ofW (cc := cX2_begin) (maxL := 3) (ret := none) (by decide) rfl ?_
  intro p e s m args below meth c s₁ B hml hxt hv
  obtain ⟨rfl, hsz, hP, hK, hD0, hG⟩ := hv
  have hx := B.exec
  have hb := B.bytes
  have hr := B.returns
  have hts := atoms_spec (ws := wm_X2_begin) B.pre
  have htb := fun (w : Cond) (h : w ∈ tb) => hts w (List.mem_cons_of_mem _ h)
  have hown : s.vm.findClass RX2 = some m.cls := findClass_of_methodNamed B.named
  have hlocks := B.notSynchronized
  subst hsz
  have hD := hD0.self (sz := s.heap.size)
  generalize hAe : va_A (cW ad cid a2 lx sg gm lg) s.heap.size = A at hD hG ⊢
  have hA : ∀ q : Nat, s.heap.size ≤ q → A q := fun q h => by rw [← hAe]; exact Or.inr h
  have hS : va_S A s.heap s.heap [] := va_S.rf
  have hl := lv_entry ([eV (ad 7) x, eV (ad 7) a]) (n := 3) (by rw [show (lg_sl ([eV (ad 7) x, eV (ad 7) a])).length = 2 from by simp [lg_sl, eV_cat, cat_i, cat_l]]; exact Nat.le_of_ble_eq_true rfl)
  rw [lg_entry_eq]
  generalize (lg_sl ([eV (ad 7) x, eV (ad 7) a]) ++ List.replicate (3 - (lg_sl ([eV (ad 7) x, eV (ad 7) a])).length) Slot.unset).toArray = ls at hl ⊢
  have hl : lv_has ls 3 [(0, eV (ad 7) x), (1, eV (ad 7) a)] := by simp [lv_args, eV_cat, cat_i, cat_l] at hl; exact hl
  have hj22 : ∀ (n : Nat) (gm_j22 : Nat → Nat → Int32) (x2_22 : Int32) (_ : (26 - x2_22.toInt).toNat = n) (_ : iv 0 26 x2_22) (_ : iv 0 7 x) (_ : iv (-1) 7 a) (_ : KS [0, 1, 3, 4, 55] gm gm_j22) (_ : CI sg gm_j22) (_ : gm_j22 0 = upd (gm 0) x.toNatClampNeg 0) (_ : gm_j22 1 = upd (gm 1) x.toNatClampNeg 0) (_ : gm_j22 3 = upd (gm 3) x.toNatClampNeg 0) (H : Heap) (locs : List Loc) (ls : Array Slot), va_P (dC, dI) vwCl (cW ad cid a2 lx sg gm_j22 lg) H → va_D A (cW ad cid a2 lx sg gm_j22 lg) → va_S A s.heap H locs → lv_has ls 3 [(2, .int x2_22), (0, eV (ad 7) x), (1, eV (ad 7) a)] → W p l e (headSpec wm_X2_begin ({ frames := 0, cells := 1, slots := 6, locals := 0 })).room s m ([eV (ad 7) x, eV (ad 7) a] : List Value).toArray below meth c H locs 0 0 (vx_MQ below (cQx dC dI ad cid a2 lx (fun v u => v = none ∧ ∃ (sg2 : Nat → Int32) (gm2 : Nat → Nat → Int32) (lg2 : Nat → Nat → Int64), u = (sg2, gm2, lg2) ∧ CI sg2 gm2 ∧ KS [] sg sg2 ∧ KS [0, 1, 3, 4, 55] gm gm2 ∧ KS [] lg lg2 ∧ (gm2 0 = upd (gm 0) x.toNatClampNeg 0) ∧ (gm2 1 = upd (gm 1) x.toNatClampNeg 0) ∧ (gm2 3 = upd (gm 3) x.toNatClampNeg 0)) A) (cX dC dI ad cid a2 lx (fun _ _ => False) A) ([eV (ad 7) x, eV (ad 7) a] : List Value).toArray s 1 6 A) (F0 m 22 ls []) := by
    intro n
    induction n using Nat.strongRecOn with
    | ind n ih22 =>
      intro gm_j22 x2_22 hn22 hx2_22 hsx0_22 hsx1_22 hkg_j22 hI_j22 h0 h1 h3 H locs ls hP hD hS hl
      refine lv_iload_n hx hb dX2_begin_22 rfl (lv_at hl 0 rfl) ?_
      refine lv_bipush (v := 26) hx hb dX2_begin_23 (by decide) ?_
      refine lv_icmp_ge (tgt := 41) hx hb dX2_begin_25 (by decide) (fun c_1 => ?_) (fun c_1 => ?_)
      · have h_2 : iv 26 26 x2_22 := iv_leR c_1 (iv_k (by decide) : iv 26 26 26) hx2_22 (by decide)
        exact W.nb (fun hN => W.widen (k := 1) (n := 6) (by decide) (by decide) (vx_ret (W.vret hx hb hr (fun t ht hW => ⟨⟨none, (sg, gm_j22, lg), rfl, ⟨rfl, sg, gm_j22, lg, rfl, hI_j22, KS_rf, (KS_tr (L := [0, 1, 3, 4, 55]) KS_rf hkg_j22 (by decide)), KS_rf, ((show gm_j22 0 = gm_j22 0 from rfl).trans h0), ((show gm_j22 1 = gm_j22 1 from rfl).trans h1), ((show gm_j22 3 = gm_j22 3 from rfl).trans h3)⟩, by rw [ht]; exact hP, va_K.moved hW.alike hK, hD⟩, hS.F ht, by rw [ht]; exact hN⟩) hS.2.2 dX2_begin_41)))
      · have h_3 : iv 0 25 x2_22 := iv_ltL (i32_lt c_1) hx2_22 (iv_k (by decide) : iv 26 26 26) (by decide)
        refine ec_aload_n hx hb dX2_begin_28 rfl (lv_at hl 1 rfl) ?_
        refine cr_get (t := 7) (j := 5) (C := RX2) (T := TX2) (N := 8) (v := eV (ad 30) x) hx hb htb inX2 hown hK hP hsx0_22 (by decide) (by decide) (by decide) rfl (by decide) (htb _ kw_53) (cV_c rfl (hsx0_22).1 (by rw [show cMu 7 5 = 1 from rfl, Nat.one_mul]; rfl)) dX2_begin_29 ?_
        refine lv_iload_n hx hb dX2_begin_32 rfl (lv_at hl 0 rfl) ?_
        refine lv_iconst (v := (-1)) hx hb dX2_begin_33 (by decide) ?_
        refine cr_iast (t := 30) (k := 55) (n9 := (26 * x.toNatClampNeg + (x2_22 : Int32).toNatClampNeg)) (z := (-1)) hx hb hK hP hD hS hsx0_22 (by decide) (by decide) (by decide) rfl rfl rfl (show vp_in x2_22 (cLen 30) from (show vp_in x2_22 26 from (iv_in h_3 (by decide)))) (Or.inr (vin_lt (show vp_in x2_22 (cLen 30) from (show vp_in x2_22 26 from (iv_in h_3 (by decide)))))) rfl dX2_begin_34 (fun gm_4 H locs egm_4 hP hD hS => ?_)
        have hI_gm_4 := CI_st hI_j22 egm_4 (iv_k (by decide) : iv (-1) (-1) (-1)) (by decide)
        obtain ⟨z_5, ez_5⟩ : ∃ z : Int32, z = x2_22 + 1 := ⟨_, rfl⟩
        have hz_5 : iv 1 26 z_5 := iv_of ez_5 (iv_add h_3 (iv_k (by decide) : iv 1 1 1) (by decide))
        have tz_5 : z_5.toInt = x2_22.toInt + 1 := by rw [ez_5]; exact iv_addE h_3 (iv_k (by decide) : iv 1 1 1) (by decide)
        refine lv_iinc (v := z_5) (lv' := [(2, .int z_5), (0, eV (ad 7) x), (1, eV (ad 7) a)]) hx hb dX2_begin_35 hl (k := 0) rfl ez_5.symm (by decide) (by simp [List.filter, eV_cat, cat_i, cat_l]) (fun ls hl => ?_)
        refine lv_goto (tgt := 22) hx hb dX2_begin_38 (by decide) ?_
        exact ih22 _ (by rw [← hn22]; exact (iv_meas tz_5 h_3 (by decide))) gm_4 z_5 rfl (iv_w hz_5 (by decide)) hsx0_22 hsx1_22 (KS_up (KS_tr (L := [0, 1, 3, 4, 55]) KS_rf hkg_j22 (by decide)) egm_4 (by decide)) hI_gm_4 ((show gm_4 0 = gm_j22 0 from ((up_ne egm_4 (by decide)).trans rfl)).trans h0) ((show gm_4 1 = gm_j22 1 from ((up_ne egm_4 (by decide)).trans rfl)).trans h1) ((show gm_4 3 = gm_j22 3 from ((up_ne egm_4 (by decide)).trans rfl)).trans h3) _ _ _ hP hD hS (lv_sub hl [0, 1, 2] rfl)
  refine ec_aload_n hx hb dX2_begin_0 rfl (lv_at hl 0 rfl) ?_
  refine ec_aload_n hx hb dX2_begin_1 rfl (lv_at hl 1 rfl) ?_
  refine cr_putg (t := 7) (j := 7) (C := RX2) (T := TX2) (N := 8) (ty0 := tyX2) (k := 4) (y := a) hx hb htb inX2 tyX2_ok nmX2 hown hK hP hD hS hvx (by decide) (by decide) (by decide) (by decide) rfl rfl (by decide) (htb _ kw_232) rfl (by show eV (ad 7) a = eV (ad 7) (va_up gm 4 (upd (gm 4) x.toNatClampNeg a) 4 x.toNatClampNeg); rw [va_up_self, upd_at]) (ev_n _) (ev_f _) dX2_begin_2 (fun gm_6 H locs egm_6 hP hD hS => ?_)
  have hI_gm_6 := CI_st hI egm_6 hva (by decide)
  refine ec_aload_n hx hb dX2_begin_5 rfl (lv_at hl 0 rfl) ?_
  refine lv_iconst (v := 0) hx hb dX2_begin_6 (by decide) ?_
  refine cr_putg (t := 7) (j := 2) (C := RX2) (T := TX2) (N := 8) (ty0 := tyX2) (k := 0) (y := 0) hx hb htb inX2 tyX2_ok nmX2 hown hK hP hD hS hvx (by decide) (by decide) (by decide) (by decide) rfl rfl (by decide) (htb _ kw_233) rfl (by show Value.int 0 = Value.int (va_up gm_6 0 (upd (gm_6 0) x.toNatClampNeg 0) 0 x.toNatClampNeg); rw [va_up_self, upd_at]) rfl rfl dX2_begin_7 (fun gm_7 H locs egm_7 hP hD hS => ?_)
  have hI_gm_7 := CI_st hI_gm_6 egm_7 (iv_k (by decide) : iv 0 0 0) (by decide)
  refine ec_aload_n hx hb dX2_begin_10 rfl (lv_at hl 0 rfl) ?_
  refine lv_iconst (v := 0) hx hb dX2_begin_11 (by decide) ?_
  refine cr_putg (t := 7) (j := 3) (C := RX2) (T := TX2) (N := 8) (ty0 := tyX2) (k := 1) (y := 0) hx hb htb inX2 tyX2_ok nmX2 hown hK hP hD hS hvx (by decide) (by decide) (by decide) (by decide) rfl rfl (by decide) (htb _ kw_234) rfl (by show Value.int 0 = Value.int (va_up gm_7 1 (upd (gm_7 1) x.toNatClampNeg 0) 1 x.toNatClampNeg); rw [va_up_self, upd_at]) rfl rfl dX2_begin_12 (fun gm_8 H locs egm_8 hP hD hS => ?_)
  have hI_gm_8 := CI_st hI_gm_7 egm_8 (iv_k (by decide) : iv 0 0 0) (by decide)
  refine ec_aload_n hx hb dX2_begin_15 rfl (lv_at hl 0 rfl) ?_
  refine lv_iconst (v := 0) hx hb dX2_begin_16 (by decide) ?_
  refine cr_putg (t := 7) (j := 6) (C := RX2) (T := TX2) (N := 8) (ty0 := tyX2) (k := 3) (y := 0) hx hb htb inX2 tyX2_ok nmX2 hown hK hP hD hS hvx (by decide) (by decide) (by decide) (by decide) rfl rfl (by decide) (htb _ kw_235) rfl (by show Value.int 0 = Value.int (va_up gm_8 3 (upd (gm_8 3) x.toNatClampNeg 0) 3 x.toNatClampNeg); rw [va_up_self, upd_at]) rfl rfl dX2_begin_17 (fun gm_9 H locs egm_9 hP hD hS => ?_)
  have hI_gm_9 := CI_st hI_gm_8 egm_9 (iv_k (by decide) : iv 0 0 0) (by decide)
  refine lv_iconst (v := 0) hx hb dX2_begin_20 (by decide) ?_
  refine lv_istore_n (i := 2) (lv' := [(2, .int 0), (0, eV (ad 7) x), (1, eV (ad 7) a)]) hx hb dX2_begin_21 rfl hl (by decide) (by simp [List.filter, eV_cat, cat_i, cat_l]) (fun ls hl => ?_)
  exact hj22 _ gm_9 0 rfl (iv_w (iv_k (by decide) : iv 0 0 0) (by decide)) hvx hva (KS_up (KS_up (KS_up (KS_up KS_rf egm_6 (by decide)) egm_7 (by decide)) egm_8 (by decide)) egm_9 (by decide)) hI_gm_9 ((show gm_9 0 = upd (gm 0) (x : Int32).toNatClampNeg 0 from ((up_ne egm_9 (by decide)).trans ((up_ne egm_8 (by decide)).trans ((up_at egm_7).trans (by rw [show gm_6 0 = gm 0 from ((up_ne egm_6 (by decide)).trans rfl)])))))) ((show gm_9 1 = upd (gm 1) (x : Int32).toNatClampNeg 0 from ((up_ne egm_9 (by decide)).trans ((up_at egm_8).trans (by rw [show gm_7 1 = gm 1 from ((up_ne egm_7 (by decide)).trans ((up_ne egm_6 (by decide)).trans rfl))]))))) ((show gm_9 3 = upd (gm 3) (x : Int32).toNatClampNeg 0 from ((up_at egm_9).trans (by rw [show gm_8 3 = gm 3 from ((up_ne egm_8 (by decide)).trans ((up_ne egm_7 (by decide)).trans ((up_ne egm_6 (by decide)).trans rfl)))])))) _ _ _ hP hD hS (lv_sub hl [0, 1, 2] rfl)

set_option maxHeartbeats 4000000 in
set_option maxRecDepth 100000 in
theorem d_declare3 (l : Launch) (dC : Nat → ClassId) (dI : Nat → Nat → Nat) (ad : Nat → Nat → Nat) (cid : Nat → ClassId) (a2 : Nat → Nat) (lx : List Nat) (sg : Nat → Int32) (gm : Nat → Nat → Int32) (lg : Nat → Nat → Int64) (x : Int32) (ca : Int32) (pa : Int32) (hI : CI sg gm) (hvx : iv 0 0 x) : CMt dC dI ad cid a2 lx l yX12_declare wm_X12_declare ({ frames := 1, cells := 1, slots := 6, locals := 22 }) [eV (ad 0) x, .int ca, .int pa] sg gm lg (fun v u => ∃ r : Int32, v = some (.int r) ∧ ∃ (sg2 : Nat → Int32) (gm2 : Nat → Nat → Int32) (lg2 : Nat → Nat → Int64), u = (sg2, gm2, lg2) ∧ CI sg2 gm2 ∧ KS [] sg sg2 ∧ KS [0, 1, 3, 4, 55] gm gm2 ∧ KS [] lg lg2 ∧ (iv 0 1 r) ∧ (r.toInt = 1 ∧ (0 ≤ ca.toInt ∧ ca.toInt ≤ 7 ∧ -1 ≤ pa.toInt ∧ pa.toInt < ca.toInt) ∨ r.toInt = 0 ∧ ¬ (0 ≤ ca.toInt ∧ ca.toInt ≤ 7 ∧ -1 ≤ pa.toInt ∧ pa.toInt < ca.toInt)) ∧ (DEC9 (0 ≤ ca.toInt ∧ ca.toInt ≤ 7 ∧ -1 ≤ pa.toInt ∧ pa.toInt < ca.toInt) r ca.toNatClampNeg (gm 0) (gm2 0)) ∧ (DEC9 (0 ≤ ca.toInt ∧ ca.toInt ≤ 7 ∧ -1 ≤ pa.toInt ∧ pa.toInt < ca.toInt) r ca.toNatClampNeg (gm 1) (gm2 1)) ∧ (DEC9 (0 ≤ ca.toInt ∧ ca.toInt ≤ 7 ∧ -1 ≤ pa.toInt ∧ pa.toInt < ca.toInt) r ca.toNatClampNeg (gm 3) (gm2 3))) (fun _ _ => False) := by
  intro sz
  refine vx_ofW (cc := cX12_declare) (maxL := 3) (ret := (some .boolean)) (by decide) rfl ?_
  intro p e s m args below meth c s₁ B hml hxt hv
  obtain ⟨rfl, hsz, hP, hK, hD0, hG⟩ := hv
  have hx := B.exec
  have hb := B.bytes
  have hr := B.returns
  have hts := atoms_spec (ws := wm_X12_declare) B.pre
  have htb := fun (w : Cond) (h : w ∈ tb) => hts w (List.mem_cons_of_mem _ h)
  have hown : s.vm.findClass RX12 = some m.cls := findClass_of_methodNamed B.named
  have hlocks := B.notSynchronized
  subst hsz
  have hD := hD0.self (sz := s.heap.size)
  generalize hAe : va_A (cW ad cid a2 lx sg gm lg) s.heap.size = A at hD hG ⊢
  have hA : ∀ q : Nat, s.heap.size ≤ q → A q := fun q h => by rw [← hAe]; exact Or.inr h
  have hS : va_S A s.heap s.heap [] := va_S.rf
  have hl := lv_entry ([eV (ad 0) x, .int ca, .int pa]) (n := 3) (by rw [show (lg_sl ([eV (ad 0) x, .int ca, .int pa])).length = 3 from by simp [lg_sl, eV_cat, cat_i, cat_l]]; exact Nat.le_of_ble_eq_true rfl)
  rw [lg_entry_eq]
  generalize (lg_sl ([eV (ad 0) x, .int ca, .int pa]) ++ List.replicate (3 - (lg_sl ([eV (ad 0) x, .int ca, .int pa])).length) Slot.unset).toArray = ls at hl ⊢
  have hl : lv_has ls 3 [(0, eV (ad 0) x), (1, .int ca), (2, .int pa)] := by simp [lv_args, eV_cat, cat_i, cat_l] at hl; exact hl
  have hj17 : ∀ (_ : iv 0 0 x) (_ : ¬ (0 ≤ ca.toInt ∧ ca.toInt ≤ 7 ∧ -1 ≤ pa.toInt ∧ pa.toInt < ca.toInt)) (H : Heap) (locs : List Loc) (ls : Array Slot), va_P (dC, dI) vwCl (cW ad cid a2 lx sg gm lg) H → va_D A (cW ad cid a2 lx sg gm lg) → va_S A s.heap H locs → lv_has ls 3 [(0, eV (ad 0) x), (1, .int ca), (2, .int pa)] → W p l e (headSpec wm_X12_declare ({ frames := 1, cells := 1, slots := 6, locals := 22 })).room s m ([eV (ad 0) x, .int ca, .int pa] : List Value).toArray below meth c H locs 0 0 (vx_MQ below (cQx dC dI ad cid a2 lx (fun v u => ∃ r : Int32, v = some (.int r) ∧ ∃ (sg2 : Nat → Int32) (gm2 : Nat → Nat → Int32) (lg2 : Nat → Nat → Int64), u = (sg2, gm2, lg2) ∧ CI sg2 gm2 ∧ KS [] sg sg2 ∧ KS [0, 1, 3, 4, 55] gm gm2 ∧ KS [] lg lg2 ∧ (iv 0 1 r) ∧ (r.toInt = 1 ∧ (0 ≤ ca.toInt ∧ ca.toInt ≤ 7 ∧ -1 ≤ pa.toInt ∧ pa.toInt < ca.toInt) ∨ r.toInt = 0 ∧ ¬ (0 ≤ ca.toInt ∧ ca.toInt ≤ 7 ∧ -1 ≤ pa.toInt ∧ pa.toInt < ca.toInt)) ∧ (DEC9 (0 ≤ ca.toInt ∧ ca.toInt ≤ 7 ∧ -1 ≤ pa.toInt ∧ pa.toInt < ca.toInt) r ca.toNatClampNeg (gm 0) (gm2 0)) ∧ (DEC9 (0 ≤ ca.toInt ∧ ca.toInt ≤ 7 ∧ -1 ≤ pa.toInt ∧ pa.toInt < ca.toInt) r ca.toNatClampNeg (gm 1) (gm2 1)) ∧ (DEC9 (0 ≤ ca.toInt ∧ ca.toInt ≤ 7 ∧ -1 ≤ pa.toInt ∧ pa.toInt < ca.toInt) r ca.toNatClampNeg (gm 3) (gm2 3))) A) (cX dC dI ad cid a2 lx (fun _ _ => False) A) ([eV (ad 0) x, .int ca, .int pa] : List Value).toArray s 1 6 A) (F0 m 17 ls []) := by
    intro  hsx0_17 hno H locs ls hP hD hS hl
    refine lv_iconst (v := 0) hx hb dX12_declare_17 (by decide) ?_
    exact W.nb (fun hN => W.widen (k := 1) (n := 6) (by decide) (by decide) (vx_ret (W.zret (v := 0) hx hb hr (iv_nb (iv_w (iv_k (by decide) : iv 0 0 0) (by decide))) (fun t ht hW => ⟨⟨some (.int 0), (sg, gm, lg), rfl, ⟨0, rfl, sg, gm, lg, rfl, hI, KS_rf, KS_rf, KS_rf, (iv_w (iv_k (by decide) : iv 0 0 0) (by decide)), (Or.inr ⟨rfl, hno⟩), (Or.inr ⟨rfl, hno, (show gm 0 = gm 0 from rfl)⟩), (Or.inr ⟨rfl, hno, (show gm 1 = gm 1 from rfl)⟩), (Or.inr ⟨rfl, hno, (show gm 3 = gm 3 from rfl)⟩)⟩, by rw [ht]; exact hP, va_K.moved hW.alike hK, hD⟩, hS.F ht, by rw [ht]; exact hN⟩) hS.2.2 dX12_declare_18)))
  have hj40 : ∀ (y0_40 : Int32) (_ : iv 0 0 x) (_ : iv 0 7 ca) (_ : iv (-1) 7 pa) (_ : iv (-1) 7 y0_40) (_ : iv 0 7 ca) (_ : 0 ≤ ca.toInt ∧ ca.toInt ≤ 7 ∧ -1 ≤ pa.toInt ∧ pa.toInt < ca.toInt) (H : Heap) (locs : List Loc) (ls : Array Slot), va_P (dC, dI) vwCl (cW ad cid a2 lx sg gm lg) H → va_D A (cW ad cid a2 lx sg gm lg) → va_S A s.heap H locs → lv_has ls 3 [(0, eV (ad 0) x), (1, .int ca), (2, .int pa)] → W p l e (headSpec wm_X12_declare ({ frames := 1, cells := 1, slots := 6, locals := 22 })).room s m ([eV (ad 0) x, .int ca, .int pa] : List Value).toArray below meth c H locs 0 0 (vx_MQ below (cQx dC dI ad cid a2 lx (fun v u => ∃ r : Int32, v = some (.int r) ∧ ∃ (sg2 : Nat → Int32) (gm2 : Nat → Nat → Int32) (lg2 : Nat → Nat → Int64), u = (sg2, gm2, lg2) ∧ CI sg2 gm2 ∧ KS [] sg sg2 ∧ KS [0, 1, 3, 4, 55] gm gm2 ∧ KS [] lg lg2 ∧ (iv 0 1 r) ∧ (r.toInt = 1 ∧ (0 ≤ ca.toInt ∧ ca.toInt ≤ 7 ∧ -1 ≤ pa.toInt ∧ pa.toInt < ca.toInt) ∨ r.toInt = 0 ∧ ¬ (0 ≤ ca.toInt ∧ ca.toInt ≤ 7 ∧ -1 ≤ pa.toInt ∧ pa.toInt < ca.toInt)) ∧ (DEC9 (0 ≤ ca.toInt ∧ ca.toInt ≤ 7 ∧ -1 ≤ pa.toInt ∧ pa.toInt < ca.toInt) r ca.toNatClampNeg (gm 0) (gm2 0)) ∧ (DEC9 (0 ≤ ca.toInt ∧ ca.toInt ≤ 7 ∧ -1 ≤ pa.toInt ∧ pa.toInt < ca.toInt) r ca.toNatClampNeg (gm 1) (gm2 1)) ∧ (DEC9 (0 ≤ ca.toInt ∧ ca.toInt ≤ 7 ∧ -1 ≤ pa.toInt ∧ pa.toInt < ca.toInt) r ca.toNatClampNeg (gm 3) (gm2 3))) A) (cX dC dI ad cid a2 lx (fun _ _ => False) A) ([eV (ad 0) x, .int ca, .int pa] : List Value).toArray s 1 6 A) (F0 m 40 ls [eV (ad 7) y0_40, eV (ad 7) ca]) := by
    intro y0_40 hsx0_40 hsx1_40 hsx2_40 hy0_40 hsy1_40 hyes H locs ls hP hD hS hl
    refine cm_callV (t := 7) (C := RX2) (T := TX2) (N := 8) (rest := []) (as := [eV (ad 7) y0_40]) ⟨hx, hb, hml, hown, htb⟩ (d_beginDc2 l dC dI ad cid a2 lx sg gm lg ca y0_40 hI hsy1_40 hy0_40) (cwV 1 htb (gd_V kw_229 kw_230 kw_231 kw_15 kw_1386) rfl rfl rfl (by decide +kernel) ⟨Nat.le_of_ble_eq_true rfl, Nat.le_of_ble_eq_true rfl⟩) hsy1_40 (by decide) (by decide) rfl rfl hl.1 rfl (Nat.le_trans cs_n (by decide)) dX12_declare_40 ⟨Nat.le_of_ble_eq_true rfl, Nat.le_of_ble_eq_true rfl⟩ hK hP hD hS hA hG (fun E ce q9 u_2 H locs hw hP hD hS hce hcv hcl => ?_) (fun v9 u_2 H locs hw hP hD hS => ?_)
    · exact hw.elim
    obtain ⟨rfl, sgv_3, gmv_3, lgv_3, rfl, hIv_3, ksv_3, kgv_3, klv_3, f0_r_1, f1_r_1, f3_r_1⟩ := hw
    obtain rfl := KS_nil ksv_3
    obtain rfl := KS_nil klv_3
    have hP : va_P (dC, dI) vwCl (cW ad cid a2 lx sg gmv_3 lg) H := hP
    have hD : va_D A (cW ad cid a2 lx sg gmv_3 lg) := hD
    refine W.eq (g2 := F0 m 43 ls []) rfl ?_
    refine lv_iconst (v := 1) hx hb dX12_declare_43 (by decide) ?_
    exact W.nb (fun hN => W.widen (k := 1) (n := 6) (by decide) (by decide) (vx_ret (W.zret (v := 1) hx hb hr (iv_nb (iv_w (iv_k (by decide) : iv 1 1 1) (by decide))) (fun t ht hW => ⟨⟨some (.int 1), (sg, gmv_3, lg), rfl, ⟨1, rfl, sg, gmv_3, lg, rfl, hIv_3, KS_rf, (KS_tr (L := [0, 1, 3, 4, 55]) KS_rf kgv_3 (by decide)), KS_rf, (iv_w (iv_k (by decide) : iv 1 1 1) (by decide)), (Or.inl ⟨rfl, hyes⟩), (Or.inl ⟨rfl, hyes, f0_r_1⟩), (Or.inl ⟨rfl, hyes, f1_r_1⟩), (Or.inl ⟨rfl, hyes, f3_r_1⟩)⟩, by rw [ht]; exact hP, va_K.moved hW.alike hK, hD⟩, hS.F ht, by rw [ht]; exact hN⟩) hS.2.2 dX12_declare_44)))
  refine lv_iload_n hx hb dX12_declare_0 rfl (lv_at hl 1 rfl) ?_
  refine cm_callS (rest := []) (as := [.int ca]) ⟨hx, hb, hml, hown, htb⟩ (d_isClass2 l dC dI ad cid a2 lx sg gm lg ca hI) (va_cwS 1 htb (gd_S kw_227 kw_228 kw_2 kw_1385) rfl rfl rfl (by decide +kernel) ⟨Nat.le_of_ble_eq_true rfl, Nat.le_of_ble_eq_true rfl⟩)  rfl hl.1 rfl (Nat.le_trans cs_n (by decide)) dX12_declare_1 ⟨Nat.le_of_ble_eq_true rfl, Nat.le_of_ble_eq_true rfl⟩ hK hP hD hS hA hG (fun E ce q9 u_5 H locs hw hP hD hS hce hcv hcl => ?_) (fun v9 u_5 H locs hw hP hD hS => ?_)
  · exact hw.elim
  obtain ⟨r_4, rfl, rfl, hr_4, fl_r_4⟩ := hw
  have hP : va_P (dC, dI) vwCl (cW ad cid a2 lx sg gm lg) H := hP
  have hD : va_D A (cW ad cid a2 lx sg gm lg) := hD
  refine W.eq (g2 := F0 m 4 ls [.int r_4]) rfl ?_
  refine lv_if_eq (tgt := 17) hx hb dX12_declare_4 (by decide) (fun c_7 => ?_) (fun c_7 => ?_)
  · have h_8 : iv 0 0 r_4 := iv_eq c_7 hr_4 (iv_k (by decide) : iv 0 0 0) (by decide)
    exact hj17 hvx (fun q9 => by { have := fl_r_4; have := i32_0; have := i32_1; have := i32_2; have := i32_m1; have := (hvx).1; have := (hvx).2; have := (h_8).1; have := (h_8).2; omega }) _ _ _ hP hD hS (lv_sub hl [0, 1, 2] rfl)
  · have h_9 : iv 1 1 r_4 := iv_neL c_7 hr_4 (by decide)
    refine lv_iload_n hx hb dX12_declare_7 rfl (lv_at hl 2 rfl) ?_
    refine lv_iconst (v := (-1)) hx hb dX12_declare_8 (by decide) ?_
    refine lv_icmp_lt (tgt := 17) hx hb dX12_declare_9 (by decide) (fun c_10 => ?_) (fun c_10 => ?_)
    · have h_11 : iv (-2147483648) (-2) pa := iv_ltL c_10 (iv_all pa) (iv_k (by decide) : iv (-1) (-1) (-1)) (by decide)
      exact hj17 hvx (fun q9 => by { have := fl_r_4; have := i32_0; have := i32_1; have := i32_2; have := i32_m1; have := (hvx).1; have := (hvx).2; have := (h_9).1; have := (h_9).2; have := (h_11).1; have := (h_11).2; omega }) _ _ _ hP hD hS (lv_sub hl [0, 1, 2] rfl)
    · have h_12 : iv (-1) 2147483647 pa := iv_leR (i32_ge c_10) (iv_k (by decide) : iv (-1) (-1) (-1)) (iv_all pa) (by decide)
      refine lv_iload_n hx hb dX12_declare_12 rfl (lv_at hl 2 rfl) ?_
      refine lv_iload_n hx hb dX12_declare_13 rfl (lv_at hl 1 rfl) ?_
      refine lv_icmp_lt (tgt := 19) hx hb dX12_declare_14 (by decide) (fun c_13 => ?_) (fun c_13 => ?_)
      · have d_14 : (pa : Int32).toInt < (ca : Int32).toInt := Int32.lt_iff_toInt_lt.mp c_13
        have h_15 : iv (-1) 2147483646 pa := iv_ltL c_13 h_12 (iv_all ca) (by decide)
        have h_16 : iv 0 2147483647 ca := iv_ltR c_13 h_12 (iv_all ca) (by decide)
        have h_17 : iv 0 7 ca := ⟨by have := fl_r_4; have := i32_0; have := i32_1; have := i32_2; have := i32_m1; have := (hvx).1; have := (hvx).2; have := (h_9).1; have := (h_9).2; have := (h_15).1; have := (h_15).2; have := (h_16).1; have := (h_16).2; omega, by have := fl_r_4; have := i32_0; have := i32_1; have := i32_2; have := i32_m1; have := (hvx).1; have := (hvx).2; have := (h_9).1; have := (h_9).2; have := (h_15).1; have := (h_15).2; have := (h_16).1; have := (h_16).2; omega⟩
        refine ec_aload_n hx hb dX12_declare_19 rfl (lv_at hl 0 rfl) ?_
        refine cr_get (t := 0) (j := 0) (C := RX12) (T := TX12) (N := 12) (v := eV (ad 12) 0) hx hb htb inX12 hown hK hP hvx (by decide) (by decide) (by decide) rfl (by decide) (htb _ kw_13) (cV_c rfl (by decide) (by rw [show cMu 0 0 = 0 from rfl, Nat.zero_mul]; rfl)) dX12_declare_20 ?_
        refine lv_iload_n hx hb dX12_declare_23 rfl (lv_at hl 1 rfl) ?_
        refine cr_aald (t := 12) (C := RX2) (v := eV (ad 7) ca) hx hb hK hP (iv_k (by decide) : iv 0 0 0) (by decide) (by decide) (by decide) (by decide) (by decide) rfl (show vp_in ca (cLen 12) from (show vp_in ca 8 from (iv_in h_17 (by decide)))) (cAr_c (by decide) (h_17).1 (by rw [show cAm 12 = 0 from rfl, Nat.zero_mul, show cAo 12 = 0 from rfl]; omega)) dX12_declare_24 ?_
        refine lv_iload_n hx hb dX12_declare_25 rfl (lv_at hl 2 rfl) ?_
        refine lv_iconst (v := (-1)) hx hb dX12_declare_26 (by decide) ?_
        refine lv_icmp_ne (tgt := 34) hx hb dX12_declare_27 (by decide) (fun c_18 => ?_) (fun c_18 => ?_)
        · have h_19 : iv 0 2147483646 pa := iv_neL c_18 h_15 (by decide)
          have h_20 : iv 0 7 pa := ⟨by have := i32_0; have := i32_1; have := i32_2; have := i32_m1; have := (hvx).1; have := (hvx).2; have := (h_9).1; have := (h_9).2; have := (h_19).1; have := (h_19).2; have := (h_17).1; have := (h_17).2; omega, by have := i32_0; have := i32_1; have := i32_2; have := i32_m1; have := (hvx).1; have := (hvx).2; have := (h_9).1; have := (h_9).2; have := (h_19).1; have := (h_19).2; have := (h_17).1; have := (h_17).2; omega⟩
          refine ec_aload_n hx hb dX12_declare_34 rfl (lv_at hl 0 rfl) ?_
          refine cr_get (t := 0) (j := 0) (C := RX12) (T := TX12) (N := 12) (v := eV (ad 12) 0) hx hb htb inX12 hown hK hP hvx (by decide) (by decide) (by decide) rfl (by decide) (htb _ kw_13) (cV_c rfl (by decide) (by rw [show cMu 0 0 = 0 from rfl, Nat.zero_mul]; rfl)) dX12_declare_35 ?_
          refine lv_iload_n hx hb dX12_declare_38 rfl (lv_at hl 2 rfl) ?_
          refine cr_aald (t := 12) (C := RX2) (v := eV (ad 7) pa) hx hb hK hP (iv_k (by decide) : iv 0 0 0) (by decide) (by decide) (by decide) (by decide) (by decide) rfl (show vp_in pa (cLen 12) from (show vp_in pa 8 from (iv_in h_20 (by decide)))) (cAr_c (by decide) (h_20).1 (by rw [show cAm 12 = 0 from rfl, Nat.zero_mul, show cAo 12 = 0 from rfl]; omega)) dX12_declare_39 ?_
          exact hj40 pa hvx h_17 (iv_w h_20 (by decide)) (iv_w h_20 (by decide)) h_17 (⟨by have := i32_0; have := i32_1; have := i32_2; have := i32_m1; have := (hvx).1; have := (hvx).2; have := (h_9).1; have := (h_9).2; have := (h_20).1; have := (h_20).2; have := (h_17).1; have := (h_17).2; omega, by have := i32_0; have := i32_1; have := i32_2; have := i32_m1; have := (hvx).1; have := (hvx).2; have := (h_9).1; have := (h_9).2; have := (h_20).1; have := (h_20).2; have := (h_17).1; have := (h_17).2; omega, by have := i32_0; have := i32_1; have := i32_2; have := i32_m1; have := (hvx).1; have := (hvx).2; have := (h_9).1; have := (h_9).2; have := (h_20).1; have := (h_20).2; have := (h_17).1; have := (h_17).2; omega, by have := i32_0; have := i32_1; have := i32_2; have := i32_m1; have := (hvx).1; have := (hvx).2; have := (h_9).1; have := (h_9).2; have := (h_20).1; have := (h_20).2; have := (h_17).1; have := (h_17).2; omega⟩) _ _ _ hP hD hS (lv_sub hl [0, 1, 2] rfl)
        · have h_21 : iv (-1) (-1) pa := iv_eq c_18 h_15 (iv_k (by decide) : iv (-1) (-1) (-1)) (by decide)
          refine ec_null (a := ad 7) hx hb dX12_declare_30 ?_
          refine lv_goto (tgt := 40) hx hb dX12_declare_31 (by decide) ?_
          exact hj40 (-1) hvx h_17 (iv_w h_21 (by decide)) (iv_w (iv_k (by decide) : iv (-1) (-1) (-1)) (by decide)) h_17 (⟨by have := i32_0; have := i32_1; have := i32_2; have := i32_m1; have := (hvx).1; have := (hvx).2; have := (h_9).1; have := (h_9).2; have := (h_21).1; have := (h_21).2; have := (h_17).1; have := (h_17).2; omega, by have := i32_0; have := i32_1; have := i32_2; have := i32_m1; have := (hvx).1; have := (hvx).2; have := (h_9).1; have := (h_9).2; have := (h_21).1; have := (h_21).2; have := (h_17).1; have := (h_17).2; omega, by have := i32_0; have := i32_1; have := i32_2; have := i32_m1; have := (hvx).1; have := (hvx).2; have := (h_9).1; have := (h_9).2; have := (h_21).1; have := (h_21).2; have := (h_17).1; have := (h_17).2; omega, by have := i32_0; have := i32_1; have := i32_2; have := i32_m1; have := (hvx).1; have := (hvx).2; have := (h_9).1; have := (h_9).2; have := (h_21).1; have := (h_21).2; have := (h_17).1; have := (h_17).2; omega⟩) _ _ _ hP hD hS (lv_sub hl [0, 1, 2] rfl)
      · have d_22 : (ca : Int32).toInt ≤ (pa : Int32).toInt := Int32.le_iff_toInt_le.mp (i32_ge c_13)
        exact hj17 hvx (fun q9 => by { have := fl_r_4; have := i32_0; have := i32_1; have := i32_2; have := i32_m1; have := (hvx).1; have := (hvx).2; have := (h_9).1; have := (h_9).2; have := (h_12).1; have := (h_12).2; omega }) _ _ _ hP hD hS (lv_sub hl [0, 1, 2] rfl)

set_option maxHeartbeats 4000000 in
set_option maxRecDepth 100000 in
theorem d_constructor2 (l : Launch) (dC : Nat → ClassId) (dI : Nat → Nat → Nat) (ad : Nat → Nat → Nat) (cid : Nat → ClassId) (a2 : Nat → Nat) (lx : List Nat) (sg : Nat → Int32) (gm : Nat → Nat → Int32) (lg : Nat → Nat → Int64) (x : Int32) (ca : Int32) (na : Int32) (ta : Int32) (ub : Int32) (uc : Int32) (hI : CI sg gm) (hvx : iv 0 0 x) : CMt dC dI ad cid a2 lx l yX12_constructor wm_X12_constructor ({ frames := 2, cells := 1, slots := 6, locals := 48 }) [eV (ad 0) x, .int ca, .int na, .int ta, .int ub, .int uc] sg gm lg (fun v u => ∃ r : Int32, v = some (.int r) ∧ ∃ (sg2 : Nat → Int32) (gm2 : Nat → Nat → Int32) (lg2 : Nat → Nat → Int64), u = (sg2, gm2, lg2) ∧ CI sg2 gm2 ∧ KS [] sg sg2 ∧ KS [0, 7, 8, 9, 10, 54] gm gm2 ∧ KS [] lg lg2 ∧ (iv 0 1 r) ∧ (ADD9 (0 ≤ ca.toInt ∧ ca.toInt ≤ 7 ∧ 0 ≤ na.toInt ∧ na.toInt ≤ 3 ∧ (1 ≤ na.toInt → (0 ≤ ta.toInt ∧ ta.toInt ≤ 4 ∨ 8 ≤ ta.toInt ∧ ta.toInt ≤ 15)) ∧ (2 ≤ na.toInt → (0 ≤ ub.toInt ∧ ub.toInt ≤ 4 ∨ 8 ≤ ub.toInt ∧ ub.toInt ≤ 15)) ∧ (3 ≤ na.toInt → (0 ≤ uc.toInt ∧ uc.toInt ≤ 4 ∨ 8 ≤ uc.toInt ∧ uc.toInt ≤ 15))) r ca.toNatClampNeg (gm 0) (gm2 0))) (fun _ _ => False) := by
  intro sz
  refine vx_ofW (cc := cX12_constructor) (maxL := 6) (ret := (some .boolean)) (by decide) rfl ?_
  intro p e s m args below meth c s₁ B hml hxt hv
  obtain ⟨rfl, hsz, hP, hK, hD0, hG⟩ := hv
  have hx := B.exec
  have hb := B.bytes
  have hr := B.returns
  have hts := atoms_spec (ws := wm_X12_constructor) B.pre
  have htb := fun (w : Cond) (h : w ∈ tb) => hts w (List.mem_cons_of_mem _ h)
  have hown : s.vm.findClass RX12 = some m.cls := findClass_of_methodNamed B.named
  have hlocks := B.notSynchronized
  subst hsz
  have hD := hD0.self (sz := s.heap.size)
  generalize hAe : va_A (cW ad cid a2 lx sg gm lg) s.heap.size = A at hD hG ⊢
  have hA : ∀ q : Nat, s.heap.size ≤ q → A q := fun q h => by rw [← hAe]; exact Or.inr h
  have hS : va_S A s.heap s.heap [] := va_S.rf
  have hl := lv_entry ([eV (ad 0) x, .int ca, .int na, .int ta, .int ub, .int uc]) (n := 6) (by rw [show (lg_sl ([eV (ad 0) x, .int ca, .int na, .int ta, .int ub, .int uc])).length = 6 from by simp [lg_sl, eV_cat, cat_i, cat_l]]; exact Nat.le_of_ble_eq_true rfl)
  rw [lg_entry_eq]
  generalize (lg_sl ([eV (ad 0) x, .int ca, .int na, .int ta, .int ub, .int uc]) ++ List.replicate (6 - (lg_sl ([eV (ad 0) x, .int ca, .int na, .int ta, .int ub, .int uc])).length) Slot.unset).toArray = ls at hl ⊢
  have hl : lv_has ls 6 [(0, eV (ad 0) x), (1, .int ca), (2, .int na), (3, .int ta), (4, .int ub), (5, .int uc)] := by simp [lv_args, eV_cat, cat_i, cat_l] at hl; exact hl
  have hj42 : ∀ (gm_j42 : Nat → Nat → Int32) (y0_42 : Int32) (_ : iv 0 0 x) (_ : iv 0 1 y0_42) (_ : KS [0, 7, 8, 9, 10, 54] gm gm_j42) (_ : CI sg gm_j42) (_ : ADD9 (0 ≤ ca.toInt ∧ ca.toInt ≤ 7 ∧ 0 ≤ na.toInt ∧ na.toInt ≤ 3 ∧ (1 ≤ na.toInt → (0 ≤ ta.toInt ∧ ta.toInt ≤ 4 ∨ 8 ≤ ta.toInt ∧ ta.toInt ≤ 15)) ∧ (2 ≤ na.toInt → (0 ≤ ub.toInt ∧ ub.toInt ≤ 4 ∨ 8 ≤ ub.toInt ∧ ub.toInt ≤ 15)) ∧ (3 ≤ na.toInt → (0 ≤ uc.toInt ∧ uc.toInt ≤ 4 ∨ 8 ≤ uc.toInt ∧ uc.toInt ≤ 15))) y0_42 ca.toNatClampNeg (gm 0) (gm_j42 0)) (H : Heap) (locs : List Loc) (ls : Array Slot), va_P (dC, dI) vwCl (cW ad cid a2 lx sg gm_j42 lg) H → va_D A (cW ad cid a2 lx sg gm_j42 lg) → va_S A s.heap H locs → lv_has ls 6 [(0, eV (ad 0) x), (1, .int ca), (2, .int na), (3, .int ta), (4, .int ub), (5, .int uc)] → W p l e (headSpec wm_X12_constructor ({ frames := 2, cells := 1, slots := 6, locals := 48 })).room s m ([eV (ad 0) x, .int ca, .int na, .int ta, .int ub, .int uc] : List Value).toArray below meth c H locs 0 0 (vx_MQ below (cQx dC dI ad cid a2 lx (fun v u => ∃ r : Int32, v = some (.int r) ∧ ∃ (sg2 : Nat → Int32) (gm2 : Nat → Nat → Int32) (lg2 : Nat → Nat → Int64), u = (sg2, gm2, lg2) ∧ CI sg2 gm2 ∧ KS [] sg sg2 ∧ KS [0, 7, 8, 9, 10, 54] gm gm2 ∧ KS [] lg lg2 ∧ (iv 0 1 r) ∧ (ADD9 (0 ≤ ca.toInt ∧ ca.toInt ≤ 7 ∧ 0 ≤ na.toInt ∧ na.toInt ≤ 3 ∧ (1 ≤ na.toInt → (0 ≤ ta.toInt ∧ ta.toInt ≤ 4 ∨ 8 ≤ ta.toInt ∧ ta.toInt ≤ 15)) ∧ (2 ≤ na.toInt → (0 ≤ ub.toInt ∧ ub.toInt ≤ 4 ∨ 8 ≤ ub.toInt ∧ ub.toInt ≤ 15)) ∧ (3 ≤ na.toInt → (0 ≤ uc.toInt ∧ uc.toInt ≤ 4 ∨ 8 ≤ uc.toInt ∧ uc.toInt ≤ 15))) r ca.toNatClampNeg (gm 0) (gm2 0))) A) (cX dC dI ad cid a2 lx (fun _ _ => False) A) ([eV (ad 0) x, .int ca, .int na, .int ta, .int ub, .int uc] : List Value).toArray s 1 6 A) (F0 m 42 ls [.int y0_42]) := by
    intro gm_j42 y0_42 hsx0_42 hy0_42 hkg_j42 hI_j42 hA H locs ls hP hD hS hl
    exact W.nb (fun hN => W.widen (k := 1) (n := 6) (by decide) (by decide) (vx_ret (W.zret (v := y0_42) hx hb hr (iv_nb hy0_42) (fun t ht hW => ⟨⟨some (.int y0_42), (sg, gm_j42, lg), rfl, ⟨y0_42, rfl, sg, gm_j42, lg, rfl, hI_j42, KS_rf, (KS_tr (L := [0, 7, 8, 9, 10, 54]) KS_rf hkg_j42 (by decide)), KS_rf, hy0_42, (hA)⟩, by rw [ht]; exact hP, va_K.moved hW.alike hK, hD⟩, hS.F ht, by rw [ht]; exact hN⟩) hS.2.2 dX12_constructor_42)))
  have hj41 : ∀ (gm_j41 : Nat → Nat → Int32) (_ : iv 0 0 x) (_ : KS [0, 7, 8, 9, 10, 54] gm gm_j41) (_ : CI sg gm_j41) (_ : (¬ (0 ≤ ca.toInt ∧ ca.toInt ≤ 7 ∧ 0 ≤ na.toInt ∧ na.toInt ≤ 3 ∧ (1 ≤ na.toInt → (0 ≤ ta.toInt ∧ ta.toInt ≤ 4 ∨ 8 ≤ ta.toInt ∧ ta.toInt ≤ 15)) ∧ (2 ≤ na.toInt → (0 ≤ ub.toInt ∧ ub.toInt ≤ 4 ∨ 8 ≤ ub.toInt ∧ ub.toInt ≤ 15)) ∧ (3 ≤ na.toInt → (0 ≤ uc.toInt ∧ uc.toInt ≤ 4 ∨ 8 ≤ uc.toInt ∧ uc.toInt ≤ 15))) ∨ 4 ≤ (gm 0 ca.toNatClampNeg).toInt) ∧ gm_j41 0 = gm 0) (H : Heap) (locs : List Loc) (ls : Array Slot), va_P (dC, dI) vwCl (cW ad cid a2 lx sg gm_j41 lg) H → va_D A (cW ad cid a2 lx sg gm_j41 lg) → va_S A s.heap H locs → lv_has ls 6 [(0, eV (ad 0) x), (1, .int ca), (2, .int na), (3, .int ta), (4, .int ub), (5, .int uc)] → W p l e (headSpec wm_X12_constructor ({ frames := 2, cells := 1, slots := 6, locals := 48 })).room s m ([eV (ad 0) x, .int ca, .int na, .int ta, .int ub, .int uc] : List Value).toArray below meth c H locs 0 0 (vx_MQ below (cQx dC dI ad cid a2 lx (fun v u => ∃ r : Int32, v = some (.int r) ∧ ∃ (sg2 : Nat → Int32) (gm2 : Nat → Nat → Int32) (lg2 : Nat → Nat → Int64), u = (sg2, gm2, lg2) ∧ CI sg2 gm2 ∧ KS [] sg sg2 ∧ KS [0, 7, 8, 9, 10, 54] gm gm2 ∧ KS [] lg lg2 ∧ (iv 0 1 r) ∧ (ADD9 (0 ≤ ca.toInt ∧ ca.toInt ≤ 7 ∧ 0 ≤ na.toInt ∧ na.toInt ≤ 3 ∧ (1 ≤ na.toInt → (0 ≤ ta.toInt ∧ ta.toInt ≤ 4 ∨ 8 ≤ ta.toInt ∧ ta.toInt ≤ 15)) ∧ (2 ≤ na.toInt → (0 ≤ ub.toInt ∧ ub.toInt ≤ 4 ∨ 8 ≤ ub.toInt ∧ ub.toInt ≤ 15)) ∧ (3 ≤ na.toInt → (0 ≤ uc.toInt ∧ uc.toInt ≤ 4 ∨ 8 ≤ uc.toInt ∧ uc.toInt ≤ 15))) r ca.toNatClampNeg (gm 0) (gm2 0))) A) (cX dC dI ad cid a2 lx (fun _ _ => False) A) ([eV (ad 0) x, .int ca, .int na, .int ta, .int ub, .int uc] : List Value).toArray s 1 6 A) (F0 m 41 ls []) := by
    intro gm_j41 hsx0_41 hkg_j41 hI_j41 hno H locs ls hP hD hS hl
    refine lv_iconst (v := 0) hx hb dX12_constructor_41 (by decide) ?_
    exact hj42 gm_j41 0 hsx0_41 (iv_w (iv_k (by decide) : iv 0 0 0) (by decide)) (KS_tr (L := [0, 7, 8, 9, 10, 54]) KS_rf hkg_j41 (by decide)) hI_j41 (Or.inr ⟨rfl, hno.1, hno.2⟩) _ _ _ hP hD hS (lv_sub hl [0, 1, 2, 3, 4, 5] rfl)
  refine lv_iload_n hx hb dX12_constructor_0 rfl (lv_at hl 1 rfl) ?_
  refine cm_callS (rest := []) (as := [.int ca]) ⟨hx, hb, hml, hown, htb⟩ (d_isClass2 l dC dI ad cid a2 lx sg gm lg ca hI) (va_cwS 1 htb (gd_S kw_227 kw_228 kw_2 kw_1385) rfl rfl rfl (by decide +kernel) ⟨Nat.le_of_ble_eq_true rfl, Nat.le_of_ble_eq_true rfl⟩)  rfl hl.1 rfl (Nat.le_trans cs_n (by decide)) dX12_constructor_1 ⟨Nat.le_of_ble_eq_true rfl, Nat.le_of_ble_eq_true rfl⟩ hK hP hD hS hA hG (fun E ce q9 u_2 H locs hw hP hD hS hce hcv hcl => ?_) (fun v9 u_2 H locs hw hP hD hS => ?_)
  · exact hw.elim
  obtain ⟨r_1, rfl, rfl, hr_1, fl_r_1⟩ := hw
  have hP : va_P (dC, dI) vwCl (cW ad cid a2 lx sg gm lg) H := hP
  have hD : va_D A (cW ad cid a2 lx sg gm lg) := hD
  refine W.eq (g2 := F0 m 4 ls [.int r_1]) rfl ?_
  refine lv_if_eq (tgt := 41) hx hb dX12_constructor_4 (by decide) (fun c_4 => ?_) (fun c_4 => ?_)
  · have h_5 : iv 0 0 r_1 := iv_eq c_4 hr_1 (iv_k (by decide) : iv 0 0 0) (by decide)
    exact hj41 gm hvx KS_rf hI (⟨Or.inl (fun q9 => by { have := i32_0; have := i32_1; have := i32_2; have := i32_m1; have := (hvx).1; have := (hvx).2; have := (h_5).1; have := (h_5).2; omega }), (show gm 0 = gm 0 from rfl)⟩) _ _ _ hP hD hS (lv_sub hl [0, 1, 2, 3, 4, 5] rfl)
  · have h_6 : iv 1 1 r_1 := iv_neL c_4 hr_1 (by decide)
    refine lv_iload_n hx hb dX12_constructor_7 rfl (lv_at hl 2 rfl) ?_
    refine lv_iload_n hx hb dX12_constructor_8 rfl (lv_at hl 3 rfl) ?_
    refine lv_iload hx hb dX12_constructor_9 (lv_at hl 4 rfl) ?_
    refine lv_iload hx hb dX12_constructor_11 (lv_at hl 5 rfl) ?_
    refine cm_callS (rest := []) (as := [.int na, .int ta, .int ub, .int uc]) ⟨hx, hb, hml, hown, htb⟩ (d_areTypes2 l dC dI ad cid a2 lx sg gm lg na ta ub uc hI) (va_cwS 4 htb (gd_S kw_245 kw_246 kw_2 kw_1390) rfl rfl rfl (by decide +kernel) ⟨Nat.le_of_ble_eq_true rfl, Nat.le_of_ble_eq_true rfl⟩)  rfl hl.1 rfl (Nat.le_trans cs_n (by decide)) dX12_constructor_13 ⟨Nat.le_of_ble_eq_true rfl, Nat.le_of_ble_eq_true rfl⟩ hK hP hD hS hA hG (fun E ce q9 u_8 H locs hw hP hD hS hce hcv hcl => ?_) (fun v9 u_8 H locs hw hP hD hS => ?_)
    · exact hw.elim
    obtain ⟨r_7, rfl, rfl, hr_7, fl_r_7⟩ := hw
    have hP : va_P (dC, dI) vwCl (cW ad cid a2 lx sg gm lg) H := hP
    have hD : va_D A (cW ad cid a2 lx sg gm lg) := hD
    refine W.eq (g2 := F0 m 16 ls [.int r_7]) rfl ?_
    refine lv_if_eq (tgt := 41) hx hb dX12_constructor_16 (by decide) (fun c_10 => ?_) (fun c_10 => ?_)
    · have h_11 : iv 0 0 r_7 := iv_eq c_10 hr_7 (iv_k (by decide) : iv 0 0 0) (by decide)
      exact hj41 gm hvx KS_rf hI (⟨Or.inl (fun q9 => by { have := i32_0; have := i32_1; have := i32_2; have := i32_m1; have := (hvx).1; have := (hvx).2; have := (h_6).1; have := (h_6).2; have := (h_11).1; have := (h_11).2; omega }), (show gm 0 = gm 0 from rfl)⟩) _ _ _ hP hD hS (lv_sub hl [0, 1, 2, 3, 4, 5] rfl)
    · have h_12 : iv 1 1 r_7 := iv_neL c_10 hr_7 (by decide)
      have h_13 : iv 0 7 ca := ⟨by have := fl_r_1; have := i32_0; have := i32_1; have := i32_2; have := i32_m1; have := (hvx).1; have := (hvx).2; have := (h_6).1; have := (h_6).2; have := (h_12).1; have := (h_12).2; omega, by have := fl_r_1; have := i32_0; have := i32_1; have := i32_2; have := i32_m1; have := (hvx).1; have := (hvx).2; have := (h_6).1; have := (h_6).2; have := (h_12).1; have := (h_12).2; omega⟩
      have h_14 : iv 0 3 na := ⟨by have := fl_r_7; have := i32_0; have := i32_1; have := i32_2; have := i32_m1; have := (hvx).1; have := (hvx).2; have := (h_6).1; have := (h_6).2; have := (h_12).1; have := (h_12).2; have := (h_13).1; have := (h_13).2; omega, by have := fl_r_7; have := i32_0; have := i32_1; have := i32_2; have := i32_m1; have := (hvx).1; have := (hvx).2; have := (h_6).1; have := (h_6).2; have := (h_12).1; have := (h_12).2; have := (h_13).1; have := (h_13).2; omega⟩
      refine ec_aload_n hx hb dX12_constructor_19 rfl (lv_at hl 0 rfl) ?_
      refine cr_get (t := 0) (j := 0) (C := RX12) (T := TX12) (N := 12) (v := eV (ad 12) 0) hx hb htb inX12 hown hK hP hvx (by decide) (by decide) (by decide) rfl (by decide) (htb _ kw_13) (cV_c rfl (by decide) (by rw [show cMu 0 0 = 0 from rfl, Nat.zero_mul]; rfl)) dX12_constructor_20 ?_
      refine lv_iload_n hx hb dX12_constructor_23 rfl (lv_at hl 1 rfl) ?_
      refine cr_aald (t := 12) (C := RX2) (v := eV (ad 7) ca) hx hb hK hP (iv_k (by decide) : iv 0 0 0) (by decide) (by decide) (by decide) (by decide) (by decide) rfl (show vp_in ca (cLen 12) from (show vp_in ca 8 from (iv_in h_13 (by decide)))) (cAr_c (by decide) (h_13).1 (by rw [show cAm 12 = 0 from rfl, Nat.zero_mul, show cAo 12 = 0 from rfl]; omega)) dX12_constructor_24 ?_
      refine lv_iload_n hx hb dX12_constructor_25 rfl (lv_at hl 2 rfl) ?_
      refine lv_iload_n hx hb dX12_constructor_26 rfl (lv_at hl 3 rfl) ?_
      refine lv_iload hx hb dX12_constructor_27 (lv_at hl 4 rfl) ?_
      refine lv_iload hx hb dX12_constructor_29 (lv_at hl 5 rfl) ?_
      refine cm_callV (t := 7) (C := RX2) (T := TX2) (N := 8) (rest := []) (as := [.int na, .int ta, .int ub, .int uc]) ⟨hx, hb, hml, hown, htb⟩ (d_addConstructor2 l dC dI ad cid a2 lx sg gm lg ca na ta ub uc hI h_13 h_14) (cwV 4 htb (gd_V kw_249 kw_250 kw_251 kw_15 kw_1392) rfl rfl rfl (by decide +kernel) ⟨Nat.le_of_ble_eq_true rfl, Nat.le_of_ble_eq_true rfl⟩) h_13 (by decide) (by decide) rfl rfl hl.1 rfl (Nat.le_trans cs_n (by decide)) dX12_constructor_31 ⟨Nat.le_of_ble_eq_true rfl, Nat.le_of_ble_eq_true rfl⟩ hK hP hD hS hA hG (fun E ce q9 u_16 H locs hw hP hD hS hce hcv hcl => ?_) (fun v9 u_16 H locs hw hP hD hS => ?_)
      · exact hw.elim
      obtain ⟨r_15, rfl, sgv_17, gmv_17, lgv_17, rfl, hIv_17, ksv_17, kgv_17, klv_17, hr_15, fA_r_15⟩ := hw
      obtain rfl := KS_nil ksv_17
      obtain rfl := KS_nil klv_17
      have hP : va_P (dC, dI) vwCl (cW ad cid a2 lx sg gmv_17 lg) H := hP
      have hD : va_D A (cW ad cid a2 lx sg gmv_17 lg) := hD
      refine W.eq (g2 := F0 m 34 ls [.int r_15]) rfl ?_
      refine lv_if_eq (tgt := 41) hx hb dX12_constructor_34 (by decide) (fun c_18 => ?_) (fun c_18 => ?_)
      · have h_19 : iv 0 0 r_15 := iv_eq c_18 hr_15 (iv_k (by decide) : iv 0 0 0) (by decide)
        exact hj41 gmv_17 hvx (KS_tr (L := [0, 7, 8, 9, 10, 54]) KS_rf kgv_17 (by decide)) hIv_17 (⟨Or.inr (ADD9_0 fA_r_15 (by have := i32_0; have := i32_1; have := i32_2; have := i32_m1; have := (hvx).1; have := (hvx).2; have := (h_6).1; have := (h_6).2; have := (h_12).1; have := (h_12).2; have := (h_13).1; have := (h_13).2; have := (h_14).1; have := (h_14).2; have := (h_19).1; have := (h_19).2; omega)).1, (ADD9_0 fA_r_15 (by have := i32_0; have := i32_1; have := i32_2; have := i32_m1; have := (hvx).1; have := (hvx).2; have := (h_6).1; have := (h_6).2; have := (h_12).1; have := (h_12).2; have := (h_13).1; have := (h_13).2; have := (h_14).1; have := (h_14).2; have := (h_19).1; have := (h_19).2; omega)).2⟩) _ _ _ hP hD hS (lv_sub hl [0, 1, 2, 3, 4, 5] rfl)
      · have h_20 : iv 1 1 r_15 := iv_neL c_18 hr_15 (by decide)
        refine lv_iconst (v := 1) hx hb dX12_constructor_37 (by decide) ?_
        refine lv_goto (tgt := 42) hx hb dX12_constructor_38 (by decide) ?_
        exact hj42 gmv_17 1 hvx (iv_w (iv_k (by decide) : iv 1 1 1) (by decide)) (KS_tr (L := [0, 7, 8, 9, 10, 54]) KS_rf kgv_17 (by decide)) hIv_17 (ADD9_1 fA_r_15 (by have := i32_0; have := i32_1; have := i32_2; have := i32_m1; have := (hvx).1; have := (hvx).2; have := (h_6).1; have := (h_6).2; have := (h_12).1; have := (h_12).2; have := (h_13).1; have := (h_13).2; have := (h_14).1; have := (h_14).2; have := (h_20).1; have := (h_20).2; omega) (by have := i32_0; have := i32_1; have := i32_2; have := i32_m1; have := (hvx).1; have := (hvx).2; have := (h_6).1; have := (h_6).2; have := (h_12).1; have := (h_12).2; have := (h_13).1; have := (h_13).2; have := (h_14).1; have := (h_14).2; have := (h_20).1; have := (h_20).2; omega) rfl) _ _ _ hP hD hS (lv_sub hl [0, 1, 2, 3, 4, 5] rfl)

set_option maxHeartbeats 4000000 in
set_option maxRecDepth 100000 in
theorem d_factory2 (l : Launch) (dC : Nat → ClassId) (dI : Nat → Nat → Nat) (ad : Nat → Nat → Nat) (cid : Nat → ClassId) (a2 : Nat → Nat) (lx : List Nat) (sg : Nat → Int32) (gm : Nat → Nat → Int32) (lg : Nat → Nat → Int64) (x : Int32) (ca : Int32) (nm : Int32) (zs : Int32) (re : Int32) (na : Int32) (ta : Int32) (ub : Int32) (uc : Int32) (hI : CI sg gm) (hvx : iv 0 0 x) (hvzs : iv 0 1 zs) : CMt dC dI ad cid a2 lx l yX12_factory wm_X12_factory ({ frames := 2, cells := 1, slots := 6, locals := 51 }) [eV (ad 0) x, .int ca, .int nm, .int zs, .int re, .int na, .int ta, .int ub, .int uc] sg gm lg (fun v u => ∃ r : Int32, v = some (.int r) ∧ ∃ (sg2 : Nat → Int32) (gm2 : Nat → Nat → Int32) (lg2 : Nat → Nat → Int64), u = (sg2, gm2, lg2) ∧ CI sg2 gm2 ∧ KS [] sg sg2 ∧ KS [1, 7, 8, 9, 10, 54] gm gm2 ∧ KS [] lg lg2 ∧ (iv 0 1 r) ∧ (ADD9 (0 ≤ ca.toInt ∧ ca.toInt ≤ 7 ∧ 0 ≤ nm.toInt ∧ nm.toInt ≤ 25 ∧ 0 ≤ re.toInt ∧ re.toInt ≤ 7 ∧ 0 ≤ na.toInt ∧ na.toInt ≤ 3 ∧ (1 ≤ na.toInt → (0 ≤ ta.toInt ∧ ta.toInt ≤ 4 ∨ 8 ≤ ta.toInt ∧ ta.toInt ≤ 15)) ∧ (2 ≤ na.toInt → (0 ≤ ub.toInt ∧ ub.toInt ≤ 4 ∨ 8 ≤ ub.toInt ∧ ub.toInt ≤ 15)) ∧ (3 ≤ na.toInt → (0 ≤ uc.toInt ∧ uc.toInt ≤ 4 ∨ 8 ≤ uc.toInt ∧ uc.toInt ≤ 15))) r ca.toNatClampNeg (gm 1) (gm2 1))) (fun _ _ => False) := by
  intro sz
  refine vx_ofW (cc := cX12_factory) (maxL := 9) (ret := (some .boolean)) (by decide) rfl ?_
  intro p e s m args below meth c s₁ B hml hxt hv
  obtain ⟨rfl, hsz, hP, hK, hD0, hG⟩ := hv
  have hx := B.exec
  have hb := B.bytes
  have hr := B.returns
  have hts := atoms_spec (ws := wm_X12_factory) B.pre
  have htb := fun (w : Cond) (h : w ∈ tb) => hts w (List.mem_cons_of_mem _ h)
  have hown : s.vm.findClass RX12 = some m.cls := findClass_of_methodNamed B.named
  have hlocks := B.notSynchronized
  subst hsz
  have hD := hD0.self (sz := s.heap.size)
  generalize hAe : va_A (cW ad cid a2 lx sg gm lg) s.heap.size = A at hD hG ⊢
  have hA : ∀ q : Nat, s.heap.size ≤ q → A q := fun q h => by rw [← hAe]; exact Or.inr h
  have hS : va_S A s.heap s.heap [] := va_S.rf
  have hl := lv_entry ([eV (ad 0) x, .int ca, .int nm, .int zs, .int re, .int na, .int ta, .int ub, .int uc]) (n := 9) (by rw [show (lg_sl ([eV (ad 0) x, .int ca, .int nm, .int zs, .int re, .int na, .int ta, .int ub, .int uc])).length = 9 from by simp [lg_sl, eV_cat, cat_i, cat_l]]; exact Nat.le_of_ble_eq_true rfl)
  rw [lg_entry_eq]
  generalize (lg_sl ([eV (ad 0) x, .int ca, .int nm, .int zs, .int re, .int na, .int ta, .int ub, .int uc]) ++ List.replicate (9 - (lg_sl ([eV (ad 0) x, .int ca, .int nm, .int zs, .int re, .int na, .int ta, .int ub, .int uc])).length) Slot.unset).toArray = ls at hl ⊢
  have hl : lv_has ls 9 [(0, eV (ad 0) x), (1, .int ca), (2, .int nm), (3, .int zs), (4, .int re), (5, .int na), (6, .int ta), (7, .int ub), (8, .int uc)] := by simp [lv_args, eV_cat, cat_i, cat_l] at hl; exact hl
  have hj65 : ∀ (gm_j65 : Nat → Nat → Int32) (y0_65 : Int32) (_ : iv 0 0 x) (_ : iv 0 1 zs) (_ : iv 0 1 y0_65) (_ : KS [1, 7, 8, 9, 10, 54] gm gm_j65) (_ : CI sg gm_j65) (_ : ADD9 (0 ≤ ca.toInt ∧ ca.toInt ≤ 7 ∧ 0 ≤ nm.toInt ∧ nm.toInt ≤ 25 ∧ 0 ≤ re.toInt ∧ re.toInt ≤ 7 ∧ 0 ≤ na.toInt ∧ na.toInt ≤ 3 ∧ (1 ≤ na.toInt → (0 ≤ ta.toInt ∧ ta.toInt ≤ 4 ∨ 8 ≤ ta.toInt ∧ ta.toInt ≤ 15)) ∧ (2 ≤ na.toInt → (0 ≤ ub.toInt ∧ ub.toInt ≤ 4 ∨ 8 ≤ ub.toInt ∧ ub.toInt ≤ 15)) ∧ (3 ≤ na.toInt → (0 ≤ uc.toInt ∧ uc.toInt ≤ 4 ∨ 8 ≤ uc.toInt ∧ uc.toInt ≤ 15))) y0_65 ca.toNatClampNeg (gm 1) (gm_j65 1)) (H : Heap) (locs : List Loc) (ls : Array Slot), va_P (dC, dI) vwCl (cW ad cid a2 lx sg gm_j65 lg) H → va_D A (cW ad cid a2 lx sg gm_j65 lg) → va_S A s.heap H locs → lv_has ls 9 [(0, eV (ad 0) x), (1, .int ca), (2, .int nm), (3, .int zs), (4, .int re), (5, .int na), (6, .int ta), (7, .int ub), (8, .int uc)] → W p l e (headSpec wm_X12_factory ({ frames := 2, cells := 1, slots := 6, locals := 51 })).room s m ([eV (ad 0) x, .int ca, .int nm, .int zs, .int re, .int na, .int ta, .int ub, .int uc] : List Value).toArray below meth c H locs 0 0 (vx_MQ below (cQx dC dI ad cid a2 lx (fun v u => ∃ r : Int32, v = some (.int r) ∧ ∃ (sg2 : Nat → Int32) (gm2 : Nat → Nat → Int32) (lg2 : Nat → Nat → Int64), u = (sg2, gm2, lg2) ∧ CI sg2 gm2 ∧ KS [] sg sg2 ∧ KS [1, 7, 8, 9, 10, 54] gm gm2 ∧ KS [] lg lg2 ∧ (iv 0 1 r) ∧ (ADD9 (0 ≤ ca.toInt ∧ ca.toInt ≤ 7 ∧ 0 ≤ nm.toInt ∧ nm.toInt ≤ 25 ∧ 0 ≤ re.toInt ∧ re.toInt ≤ 7 ∧ 0 ≤ na.toInt ∧ na.toInt ≤ 3 ∧ (1 ≤ na.toInt → (0 ≤ ta.toInt ∧ ta.toInt ≤ 4 ∨ 8 ≤ ta.toInt ∧ ta.toInt ≤ 15)) ∧ (2 ≤ na.toInt → (0 ≤ ub.toInt ∧ ub.toInt ≤ 4 ∨ 8 ≤ ub.toInt ∧ ub.toInt ≤ 15)) ∧ (3 ≤ na.toInt → (0 ≤ uc.toInt ∧ uc.toInt ≤ 4 ∨ 8 ≤ uc.toInt ∧ uc.toInt ≤ 15))) r ca.toNatClampNeg (gm 1) (gm2 1))) A) (cX dC dI ad cid a2 lx (fun _ _ => False) A) ([eV (ad 0) x, .int ca, .int nm, .int zs, .int re, .int na, .int ta, .int ub, .int uc] : List Value).toArray s 1 6 A) (F0 m 65 ls [.int y0_65]) := by
    intro gm_j65 y0_65 hsx0_65 hsx3_65 hy0_65 hkg_j65 hI_j65 hA H locs ls hP hD hS hl
    exact W.nb (fun hN => W.widen (k := 1) (n := 6) (by decide) (by decide) (vx_ret (W.zret (v := y0_65) hx hb hr (iv_nb hy0_65) (fun t ht hW => ⟨⟨some (.int y0_65), (sg, gm_j65, lg), rfl, ⟨y0_65, rfl, sg, gm_j65, lg, rfl, hI_j65, KS_rf, (KS_tr (L := [1, 7, 8, 9, 10, 54]) KS_rf hkg_j65 (by decide)), KS_rf, hy0_65, (hA)⟩, by rw [ht]; exact hP, va_K.moved hW.alike hK, hD⟩, hS.F ht, by rw [ht]; exact hN⟩) hS.2.2 dX12_factory_65)))
  have hj64 : ∀ (gm_j64 : Nat → Nat → Int32) (_ : iv 0 0 x) (_ : iv 0 1 zs) (_ : KS [1, 7, 8, 9, 10, 54] gm gm_j64) (_ : CI sg gm_j64) (_ : (¬ (0 ≤ ca.toInt ∧ ca.toInt ≤ 7 ∧ 0 ≤ nm.toInt ∧ nm.toInt ≤ 25 ∧ 0 ≤ re.toInt ∧ re.toInt ≤ 7 ∧ 0 ≤ na.toInt ∧ na.toInt ≤ 3 ∧ (1 ≤ na.toInt → (0 ≤ ta.toInt ∧ ta.toInt ≤ 4 ∨ 8 ≤ ta.toInt ∧ ta.toInt ≤ 15)) ∧ (2 ≤ na.toInt → (0 ≤ ub.toInt ∧ ub.toInt ≤ 4 ∨ 8 ≤ ub.toInt ∧ ub.toInt ≤ 15)) ∧ (3 ≤ na.toInt → (0 ≤ uc.toInt ∧ uc.toInt ≤ 4 ∨ 8 ≤ uc.toInt ∧ uc.toInt ≤ 15))) ∨ 4 ≤ (gm 1 ca.toNatClampNeg).toInt) ∧ gm_j64 1 = gm 1) (H : Heap) (locs : List Loc) (ls : Array Slot), va_P (dC, dI) vwCl (cW ad cid a2 lx sg gm_j64 lg) H → va_D A (cW ad cid a2 lx sg gm_j64 lg) → va_S A s.heap H locs → lv_has ls 9 [(0, eV (ad 0) x), (1, .int ca), (2, .int nm), (3, .int zs), (4, .int re), (5, .int na), (6, .int ta), (7, .int ub), (8, .int uc)] → W p l e (headSpec wm_X12_factory ({ frames := 2, cells := 1, slots := 6, locals := 51 })).room s m ([eV (ad 0) x, .int ca, .int nm, .int zs, .int re, .int na, .int ta, .int ub, .int uc] : List Value).toArray below meth c H locs 0 0 (vx_MQ below (cQx dC dI ad cid a2 lx (fun v u => ∃ r : Int32, v = some (.int r) ∧ ∃ (sg2 : Nat → Int32) (gm2 : Nat → Nat → Int32) (lg2 : Nat → Nat → Int64), u = (sg2, gm2, lg2) ∧ CI sg2 gm2 ∧ KS [] sg sg2 ∧ KS [1, 7, 8, 9, 10, 54] gm gm2 ∧ KS [] lg lg2 ∧ (iv 0 1 r) ∧ (ADD9 (0 ≤ ca.toInt ∧ ca.toInt ≤ 7 ∧ 0 ≤ nm.toInt ∧ nm.toInt ≤ 25 ∧ 0 ≤ re.toInt ∧ re.toInt ≤ 7 ∧ 0 ≤ na.toInt ∧ na.toInt ≤ 3 ∧ (1 ≤ na.toInt → (0 ≤ ta.toInt ∧ ta.toInt ≤ 4 ∨ 8 ≤ ta.toInt ∧ ta.toInt ≤ 15)) ∧ (2 ≤ na.toInt → (0 ≤ ub.toInt ∧ ub.toInt ≤ 4 ∨ 8 ≤ ub.toInt ∧ ub.toInt ≤ 15)) ∧ (3 ≤ na.toInt → (0 ≤ uc.toInt ∧ uc.toInt ≤ 4 ∨ 8 ≤ uc.toInt ∧ uc.toInt ≤ 15))) r ca.toNatClampNeg (gm 1) (gm2 1))) A) (cX dC dI ad cid a2 lx (fun _ _ => False) A) ([eV (ad 0) x, .int ca, .int nm, .int zs, .int re, .int na, .int ta, .int ub, .int uc] : List Value).toArray s 1 6 A) (F0 m 64 ls []) := by
    intro gm_j64 hsx0_64 hsx3_64 hkg_j64 hI_j64 hno H locs ls hP hD hS hl
    refine lv_iconst (v := 0) hx hb dX12_factory_64 (by decide) ?_
    exact hj65 gm_j64 0 hsx0_64 hsx3_64 (iv_w (iv_k (by decide) : iv 0 0 0) (by decide)) (KS_tr (L := [1, 7, 8, 9, 10, 54]) KS_rf hkg_j64 (by decide)) hI_j64 (Or.inr ⟨rfl, hno.1, hno.2⟩) _ _ _ hP hD hS (lv_sub hl [0, 1, 2, 3, 4, 5, 6, 7, 8] rfl)
  refine lv_iload_n hx hb dX12_factory_0 rfl (lv_at hl 1 rfl) ?_
  refine cm_callS (rest := []) (as := [.int ca]) ⟨hx, hb, hml, hown, htb⟩ (d_isClass2 l dC dI ad cid a2 lx sg gm lg ca hI) (va_cwS 1 htb (gd_S kw_227 kw_228 kw_2 kw_1385) rfl rfl rfl (by decide +kernel) ⟨Nat.le_of_ble_eq_true rfl, Nat.le_of_ble_eq_true rfl⟩)  rfl hl.1 rfl (Nat.le_trans cs_n (by decide)) dX12_factory_1 ⟨Nat.le_of_ble_eq_true rfl, Nat.le_of_ble_eq_true rfl⟩ hK hP hD hS hA hG (fun E ce q9 u_2 H locs hw hP hD hS hce hcv hcl => ?_) (fun v9 u_2 H locs hw hP hD hS => ?_)
  · exact hw.elim
  obtain ⟨r_1, rfl, rfl, hr_1, fl_r_1⟩ := hw
  have hP : va_P (dC, dI) vwCl (cW ad cid a2 lx sg gm lg) H := hP
  have hD : va_D A (cW ad cid a2 lx sg gm lg) := hD
  refine W.eq (g2 := F0 m 4 ls [.int r_1]) rfl ?_
  refine lv_if_eq (tgt := 64) hx hb dX12_factory_4 (by decide) (fun c_4 => ?_) (fun c_4 => ?_)
  · have h_5 : iv 0 0 r_1 := iv_eq c_4 hr_1 (iv_k (by decide) : iv 0 0 0) (by decide)
    exact hj64 gm hvx hvzs KS_rf hI (⟨Or.inl (fun q9 => by { have := i32_0; have := i32_1; have := i32_2; have := i32_m1; have := (hvx).1; have := (hvx).2; have := (hvzs).1; have := (hvzs).2; have := (h_5).1; have := (h_5).2; omega }), (show gm 1 = gm 1 from rfl)⟩) _ _ _ hP hD hS (lv_sub hl [0, 1, 2, 3, 4, 5, 6, 7, 8] rfl)
  · have h_6 : iv 1 1 r_1 := iv_neL c_4 hr_1 (by decide)
    refine lv_iload_n hx hb dX12_factory_7 rfl (lv_at hl 2 rfl) ?_
    refine cm_callS (rest := []) (as := [.int nm]) ⟨hx, hb, hml, hown, htb⟩ (d_isLetter2 l dC dI ad cid a2 lx sg gm lg nm hI) (va_cwS 1 htb (gd_S kw_272 kw_273 kw_2 kw_1399) rfl rfl rfl (by decide +kernel) ⟨Nat.le_of_ble_eq_true rfl, Nat.le_of_ble_eq_true rfl⟩)  rfl hl.1 rfl (Nat.le_trans cs_n (by decide)) dX12_factory_8 ⟨Nat.le_of_ble_eq_true rfl, Nat.le_of_ble_eq_true rfl⟩ hK hP hD hS hA hG (fun E ce q9 u_8 H locs hw hP hD hS hce hcv hcl => ?_) (fun v9 u_8 H locs hw hP hD hS => ?_)
    · exact hw.elim
    obtain ⟨r_7, rfl, rfl, hr_7, fl_r_7⟩ := hw
    have hP : va_P (dC, dI) vwCl (cW ad cid a2 lx sg gm lg) H := hP
    have hD : va_D A (cW ad cid a2 lx sg gm lg) := hD
    refine W.eq (g2 := F0 m 11 ls [.int r_7]) rfl ?_
    refine lv_if_eq (tgt := 64) hx hb dX12_factory_11 (by decide) (fun c_10 => ?_) (fun c_10 => ?_)
    · have h_11 : iv 0 0 r_7 := iv_eq c_10 hr_7 (iv_k (by decide) : iv 0 0 0) (by decide)
      exact hj64 gm hvx hvzs KS_rf hI (⟨Or.inl (fun q9 => by { have := i32_0; have := i32_1; have := i32_2; have := i32_m1; have := (hvx).1; have := (hvx).2; have := (hvzs).1; have := (hvzs).2; have := (h_6).1; have := (h_6).2; have := (h_11).1; have := (h_11).2; omega }), (show gm 1 = gm 1 from rfl)⟩) _ _ _ hP hD hS (lv_sub hl [0, 1, 2, 3, 4, 5, 6, 7, 8] rfl)
    · have h_12 : iv 1 1 r_7 := iv_neL c_10 hr_7 (by decide)
      refine lv_iload hx hb dX12_factory_14 (lv_at hl 4 rfl) ?_
      refine cm_callS (rest := []) (as := [.int re]) ⟨hx, hb, hml, hown, htb⟩ (d_isClass2 l dC dI ad cid a2 lx sg gm lg re hI) (va_cwS 1 htb (gd_S kw_227 kw_228 kw_2 kw_1385) rfl rfl rfl (by decide +kernel) ⟨Nat.le_of_ble_eq_true rfl, Nat.le_of_ble_eq_true rfl⟩)  rfl hl.1 rfl (Nat.le_trans cs_n (by decide)) dX12_factory_16 ⟨Nat.le_of_ble_eq_true rfl, Nat.le_of_ble_eq_true rfl⟩ hK hP hD hS hA hG (fun E ce q9 u_14 H locs hw hP hD hS hce hcv hcl => ?_) (fun v9 u_14 H locs hw hP hD hS => ?_)
      · exact hw.elim
      obtain ⟨r_13, rfl, rfl, hr_13, fl_r_13⟩ := hw
      have hP : va_P (dC, dI) vwCl (cW ad cid a2 lx sg gm lg) H := hP
      have hD : va_D A (cW ad cid a2 lx sg gm lg) := hD
      refine W.eq (g2 := F0 m 19 ls [.int r_13]) rfl ?_
      refine lv_if_eq (tgt := 64) hx hb dX12_factory_19 (by decide) (fun c_16 => ?_) (fun c_16 => ?_)
      · have h_17 : iv 0 0 r_13 := iv_eq c_16 hr_13 (iv_k (by decide) : iv 0 0 0) (by decide)
        exact hj64 gm hvx hvzs KS_rf hI (⟨Or.inl (fun q9 => by { have := i32_0; have := i32_1; have := i32_2; have := i32_m1; have := (hvx).1; have := (hvx).2; have := (hvzs).1; have := (hvzs).2; have := (h_6).1; have := (h_6).2; have := (h_12).1; have := (h_12).2; have := (h_17).1; have := (h_17).2; omega }), (show gm 1 = gm 1 from rfl)⟩) _ _ _ hP hD hS (lv_sub hl [0, 1, 2, 3, 4, 5, 6, 7, 8] rfl)
      · have h_18 : iv 1 1 r_13 := iv_neL c_16 hr_13 (by decide)
        refine lv_iload hx hb dX12_factory_22 (lv_at hl 5 rfl) ?_
        refine lv_iload hx hb dX12_factory_24 (lv_at hl 6 rfl) ?_
        refine lv_iload hx hb dX12_factory_26 (lv_at hl 7 rfl) ?_
        refine lv_iload hx hb dX12_factory_28 (lv_at hl 8 rfl) ?_
        refine cm_callS (rest := []) (as := [.int na, .int ta, .int ub, .int uc]) ⟨hx, hb, hml, hown, htb⟩ (d_areTypes2 l dC dI ad cid a2 lx sg gm lg na ta ub uc hI) (va_cwS 4 htb (gd_S kw_245 kw_246 kw_2 kw_1390) rfl rfl rfl (by decide +kernel) ⟨Nat.le_of_ble_eq_true rfl, Nat.le_of_ble_eq_true rfl⟩)  rfl hl.1 rfl (Nat.le_trans cs_n (by decide)) dX12_factory_30 ⟨Nat.le_of_ble_eq_true rfl, Nat.le_of_ble_eq_true rfl⟩ hK hP hD hS hA hG (fun E ce q9 u_20 H locs hw hP hD hS hce hcv hcl => ?_) (fun v9 u_20 H locs hw hP hD hS => ?_)
        · exact hw.elim
        obtain ⟨r_19, rfl, rfl, hr_19, fl_r_19⟩ := hw
        have hP : va_P (dC, dI) vwCl (cW ad cid a2 lx sg gm lg) H := hP
        have hD : va_D A (cW ad cid a2 lx sg gm lg) := hD
        refine W.eq (g2 := F0 m 33 ls [.int r_19]) rfl ?_
        refine lv_if_eq (tgt := 64) hx hb dX12_factory_33 (by decide) (fun c_22 => ?_) (fun c_22 => ?_)
        · have h_23 : iv 0 0 r_19 := iv_eq c_22 hr_19 (iv_k (by decide) : iv 0 0 0) (by decide)
          exact hj64 gm hvx hvzs KS_rf hI (⟨Or.inl (fun q9 => by { have := i32_0; have := i32_1; have := i32_2; have := i32_m1; have := (hvx).1; have := (hvx).2; have := (hvzs).1; have := (hvzs).2; have := (h_6).1; have := (h_6).2; have := (h_12).1; have := (h_12).2; have := (h_18).1; have := (h_18).2; have := (h_23).1; have := (h_23).2; omega }), (show gm 1 = gm 1 from rfl)⟩) _ _ _ hP hD hS (lv_sub hl [0, 1, 2, 3, 4, 5, 6, 7, 8] rfl)
        · have h_24 : iv 1 1 r_19 := iv_neL c_22 hr_19 (by decide)
          have h_25 : iv 0 7 ca := ⟨by have := fl_r_1; have := i32_0; have := i32_1; have := i32_2; have := i32_m1; have := (hvx).1; have := (hvx).2; have := (hvzs).1; have := (hvzs).2; have := (h_6).1; have := (h_6).2; have := (h_12).1; have := (h_12).2; have := (h_18).1; have := (h_18).2; have := (h_24).1; have := (h_24).2; omega, by have := fl_r_1; have := i32_0; have := i32_1; have := i32_2; have := i32_m1; have := (hvx).1; have := (hvx).2; have := (hvzs).1; have := (hvzs).2; have := (h_6).1; have := (h_6).2; have := (h_12).1; have := (h_12).2; have := (h_18).1; have := (h_18).2; have := (h_24).1; have := (h_24).2; omega⟩
          have h_26 : iv 0 25 nm := ⟨by have := fl_r_7; have := i32_0; have := i32_1; have := i32_2; have := i32_m1; have := (hvx).1; have := (hvx).2; have := (hvzs).1; have := (hvzs).2; have := (h_6).1; have := (h_6).2; have := (h_12).1; have := (h_12).2; have := (h_18).1; have := (h_18).2; have := (h_24).1; have := (h_24).2; have := (h_25).1; have := (h_25).2; omega, by have := fl_r_7; have := i32_0; have := i32_1; have := i32_2; have := i32_m1; have := (hvx).1; have := (hvx).2; have := (hvzs).1; have := (hvzs).2; have := (h_6).1; have := (h_6).2; have := (h_12).1; have := (h_12).2; have := (h_18).1; have := (h_18).2; have := (h_24).1; have := (h_24).2; have := (h_25).1; have := (h_25).2; omega⟩
          have h_27 : iv 0 7 re := ⟨by have := fl_r_13; have := i32_0; have := i32_1; have := i32_2; have := i32_m1; have := (hvx).1; have := (hvx).2; have := (hvzs).1; have := (hvzs).2; have := (h_6).1; have := (h_6).2; have := (h_12).1; have := (h_12).2; have := (h_18).1; have := (h_18).2; have := (h_24).1; have := (h_24).2; have := (h_25).1; have := (h_25).2; have := (h_26).1; have := (h_26).2; omega, by have := fl_r_13; have := i32_0; have := i32_1; have := i32_2; have := i32_m1; have := (hvx).1; have := (hvx).2; have := (hvzs).1; have := (hvzs).2; have := (h_6).1; have := (h_6).2; have := (h_12).1; have := (h_12).2; have := (h_18).1; have := (h_18).2; have := (h_24).1; have := (h_24).2; have := (h_25).1; have := (h_25).2; have := (h_26).1; have := (h_26).2; omega⟩
          have h_28 : iv 0 3 na := ⟨by have := fl_r_19; have := i32_0; have := i32_1; have := i32_2; have := i32_m1; have := (hvx).1; have := (hvx).2; have := (hvzs).1; have := (hvzs).2; have := (h_6).1; have := (h_6).2; have := (h_12).1; have := (h_12).2; have := (h_18).1; have := (h_18).2; have := (h_24).1; have := (h_24).2; have := (h_25).1; have := (h_25).2; have := (h_26).1; have := (h_26).2; have := (h_27).1; have := (h_27).2; omega, by have := fl_r_19; have := i32_0; have := i32_1; have := i32_2; have := i32_m1; have := (hvx).1; have := (hvx).2; have := (hvzs).1; have := (hvzs).2; have := (h_6).1; have := (h_6).2; have := (h_12).1; have := (h_12).2; have := (h_18).1; have := (h_18).2; have := (h_24).1; have := (h_24).2; have := (h_25).1; have := (h_25).2; have := (h_26).1; have := (h_26).2; have := (h_27).1; have := (h_27).2; omega⟩
          refine ec_aload_n hx hb dX12_factory_36 rfl (lv_at hl 0 rfl) ?_
          refine cr_get (t := 0) (j := 0) (C := RX12) (T := TX12) (N := 12) (v := eV (ad 12) 0) hx hb htb inX12 hown hK hP hvx (by decide) (by decide) (by decide) rfl (by decide) (htb _ kw_13) (cV_c rfl (by decide) (by rw [show cMu 0 0 = 0 from rfl, Nat.zero_mul]; rfl)) dX12_factory_37 ?_
          refine lv_iload_n hx hb dX12_factory_40 rfl (lv_at hl 1 rfl) ?_
          refine cr_aald (t := 12) (C := RX2) (v := eV (ad 7) ca) hx hb hK hP (iv_k (by decide) : iv 0 0 0) (by decide) (by decide) (by decide) (by decide) (by decide) rfl (show vp_in ca (cLen 12) from (show vp_in ca 8 from (iv_in h_25 (by decide)))) (cAr_c (by decide) (h_25).1 (by rw [show cAm 12 = 0 from rfl, Nat.zero_mul, show cAo 12 = 0 from rfl]; omega)) dX12_factory_41 ?_
          refine lv_iload_n hx hb dX12_factory_42 rfl (lv_at hl 2 rfl) ?_
          refine lv_iload_n hx hb dX12_factory_43 rfl (lv_at hl 3 rfl) ?_
          refine lv_iload hx hb dX12_factory_44 (lv_at hl 4 rfl) ?_
          refine lv_iload hx hb dX12_factory_46 (lv_at hl 5 rfl) ?_
          refine lv_iload hx hb dX12_factory_48 (lv_at hl 6 rfl) ?_
          refine lv_iload hx hb dX12_factory_50 (lv_at hl 7 rfl) ?_
          refine lv_iload hx hb dX12_factory_52 (lv_at hl 8 rfl) ?_
          refine cm_callV (t := 7) (C := RX2) (T := TX2) (N := 8) (rest := []) (as := [.int nm, .int zs, .int re, .int na, .int ta, .int ub, .int uc]) ⟨hx, hb, hml, hown, htb⟩ (d_addFactory2 l dC dI ad cid a2 lx sg gm lg ca nm zs re na ta ub uc hI h_25 h_26 hvzs h_27 h_28) (cwV 7 htb (gd_V kw_285 kw_286 kw_287 kw_15 kw_1404) rfl rfl rfl (by decide +kernel) ⟨Nat.le_of_ble_eq_true rfl, Nat.le_of_ble_eq_true rfl⟩) h_25 (by decide) (by decide) rfl rfl hl.1 rfl (Nat.le_trans cs_n (by decide)) dX12_factory_54 ⟨Nat.le_of_ble_eq_true rfl, Nat.le_of_ble_eq_true rfl⟩ hK hP hD hS hA hG (fun E ce q9 u_30 H locs hw hP hD hS hce hcv hcl => ?_) (fun v9 u_30 H locs hw hP hD hS => ?_)
          · exact hw.elim
          obtain ⟨r_29, rfl, sgv_31, gmv_31, lgv_31, rfl, hIv_31, ksv_31, kgv_31, klv_31, hr_29, fA_r_29⟩ := hw
          obtain rfl := KS_nil ksv_31
          obtain rfl := KS_nil klv_31
          have hP : va_P (dC, dI) vwCl (cW ad cid a2 lx sg gmv_31 lg) H := hP
          have hD : va_D A (cW ad cid a2 lx sg gmv_31 lg) := hD
          refine W.eq (g2 := F0 m 57 ls [.int r_29]) rfl ?_
          refine lv_if_eq (tgt := 64) hx hb dX12_factory_57 (by decide) (fun c_32 => ?_) (fun c_32 => ?_)
          · have h_33 : iv 0 0 r_29 := iv_eq c_32 hr_29 (iv_k (by decide) : iv 0 0 0) (by decide)
            exact hj64 gmv_31 hvx hvzs (KS_tr (L := [1, 7, 8, 9, 10, 54]) KS_rf kgv_31 (by decide)) hIv_31 (⟨Or.inr (ADD9_0 fA_r_29 (by have := i32_0; have := i32_1; have := i32_2; have := i32_m1; have := (hvx).1; have := (hvx).2; have := (hvzs).1; have := (hvzs).2; have := (h_6).1; have := (h_6).2; have := (h_12).1; have := (h_12).2; have := (h_18).1; have := (h_18).2; have := (h_24).1; have := (h_24).2; have := (h_25).1; have := (h_25).2; have := (h_26).1; have := (h_26).2; have := (h_27).1; have := (h_27).2; have := (h_28).1; have := (h_28).2; have := (h_33).1; have := (h_33).2; omega)).1, (ADD9_0 fA_r_29 (by have := i32_0; have := i32_1; have := i32_2; have := i32_m1; have := (hvx).1; have := (hvx).2; have := (hvzs).1; have := (hvzs).2; have := (h_6).1; have := (h_6).2; have := (h_12).1; have := (h_12).2; have := (h_18).1; have := (h_18).2; have := (h_24).1; have := (h_24).2; have := (h_25).1; have := (h_25).2; have := (h_26).1; have := (h_26).2; have := (h_27).1; have := (h_27).2; have := (h_28).1; have := (h_28).2; have := (h_33).1; have := (h_33).2; omega)).2⟩) _ _ _ hP hD hS (lv_sub hl [0, 1, 2, 3, 4, 5, 6, 7, 8] rfl)
          · have h_34 : iv 1 1 r_29 := iv_neL c_32 hr_29 (by decide)
            refine lv_iconst (v := 1) hx hb dX12_factory_60 (by decide) ?_
            refine lv_goto (tgt := 65) hx hb dX12_factory_61 (by decide) ?_
            exact hj65 gmv_31 1 hvx hvzs (iv_w (iv_k (by decide) : iv 1 1 1) (by decide)) (KS_tr (L := [1, 7, 8, 9, 10, 54]) KS_rf kgv_31 (by decide)) hIv_31 (ADD9_1 fA_r_29 (by have := i32_0; have := i32_1; have := i32_2; have := i32_m1; have := (hvx).1; have := (hvx).2; have := (hvzs).1; have := (hvzs).2; have := (h_6).1; have := (h_6).2; have := (h_12).1; have := (h_12).2; have := (h_18).1; have := (h_18).2; have := (h_24).1; have := (h_24).2; have := (h_25).1; have := (h_25).2; have := (h_26).1; have := (h_26).2; have := (h_27).1; have := (h_27).2; have := (h_28).1; have := (h_28).2; have := (h_34).1; have := (h_34).2; omega) (by have := i32_0; have := i32_1; have := i32_2; have := i32_m1; have := (hvx).1; have := (hvx).2; have := (hvzs).1; have := (hvzs).2; have := (h_6).1; have := (h_6).2; have := (h_12).1; have := (h_12).2; have := (h_18).1; have := (h_18).2; have := (h_24).1; have := (h_24).2; have := (h_25).1; have := (h_25).2; have := (h_26).1; have := (h_26).2; have := (h_27).1; have := (h_27).2; have := (h_28).1; have := (h_28).2; have := (h_34).1; have := (h_34).2; omega) rfl) _ _ _ hP hD hS (lv_sub hl [0, 1, 2, 3, 4, 5, 6, 7, 8] rfl)
