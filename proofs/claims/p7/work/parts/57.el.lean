/-- every place of a row is at most K -/
def UB (k : Nat) (K : Nat) (gm : Nat → Nat → Int32) : Prop := ∀ j, j < 80 → (gm k j).toInt ≤ (K : Int)
theorem UB_k {k K K2 : Nat} {gm gm2 : Nat → Nat → Int32} (h : UB k K gm) (e : gm2 k = gm k) (hK : K ≤ K2) : UB k K2 gm2 := fun j hj => by rw [e]; have := h j hj; omega
theorem UB_u {k K K2 i : Nat} {v : Int32} {gm gm2 : Nat → Nat → Int32} (h : UB k K gm) (e : gm2 k = upd (gm k) i v) (hK : K ≤ K2) (hv : v.toInt ≤ (K2 : Int)) : UB k K2 gm2 := fun j hj => by
  rw [e]
  by_cases q : j = i
  · rw [q, upd_at]; exact hv
  · rw [upd_ne q]; have := h j hj; omega
/-- the attributes of an element lie within those that are there -/
def FA (sg : Nat → Int32) (gm : Nat → Nat → Int32) : Prop := ∀ j, j < (sg 4).toNatClampNeg → (gm 19 j).toInt + (gm 20 j).toInt ≤ (sg 5).toInt
/-- the characters of a value lie within those that are there -/
def VS (sg : Nat → Int32) (gm : Nat → Nat → Int32) : Prop := ∀ j, j < (sg 5).toNatClampNeg → (gm 44 j).toInt + (gm 45 j).toInt ≤ (sg 6).toInt
/-- what an element leads to is one of the document's -/
def LK (sg : Nat → Int32) (gm : Nat → Nat → Int32) : Prop := ∀ j, j < (sg 4).toNatClampNeg → (gm 15 j).toInt < (sg 4).toInt ∧ (gm 16 j).toInt < (sg 4).toInt ∧ (gm 17 j).toInt < (sg 4).toInt ∧ (0 ≤ (gm 16 j).toInt → (gm 15 (gm 16 j).toNatClampNeg).toInt = (j : Int)) ∧ (0 ≤ (gm 17 j).toInt → gm 15 (gm 17 j).toNatClampNeg = gm 15 j)
/-- the first attribute with this key -/
def FND (gm : Nat → Nat → Int32) (lg : Nat → Nat → Int64) (j : Nat) (k : Int64) (r : Int32) : Prop := (r.toInt = -1 ∧ ∀ i, 0 ≤ i → i < (gm 20 j).toNatClampNeg → ¬ lg 0 ((gm 19 j).toNatClampNeg + i) = k) ∨ (∃ i, i < (gm 20 j).toNatClampNeg ∧ r.toNatClampNeg = (gm 19 j).toNatClampNeg + i ∧ 0 ≤ r.toInt ∧ (∀ i', 0 ≤ i' → i' < i → ¬ lg 0 ((gm 19 j).toNatClampNeg + i') = k) ∧ lg 0 ((gm 19 j).toNatClampNeg + i) = k)
theorem FND_u {gm : Nat → Nat → Int32} {lg : Nat → Nat → Int64} {j : Nat} {k : Int64} {r r2 : Int32} (h : FND gm lg j k r) (h2 : FND gm lg j k r2) : r = r2 := by
  apply Int32.toInt_inj.mp
  rcases h with ⟨a1, a2⟩ | ⟨i, a1, a2, a3, a4, a5⟩
  · rcases h2 with ⟨b1, b2⟩ | ⟨i2, b1, b2, b3, b4, b5⟩
    · rw [a1, b1]
    · exact absurd b5 (a2 i2 (Nat.zero_le _) b1)
  · rcases h2 with ⟨b1, b2⟩ | ⟨i2, b1, b2, b3, b4, b5⟩
    · exact absurd a5 (b2 i (Nat.zero_le _) a1)
    · have e9 : i = i2 := by
        rcases Nat.lt_trichotomy i i2 with q | q | q
        · exact absurd a5 (b4 i (Nat.zero_le _) q)
        · exact q
        · exact absurd b5 (a4 i2 (Nat.zero_le _) q)
      subst e9
      have k1 := cl_0 a3
      have k2 := cl_0 b3
      omega

set_option maxHeartbeats 4000000 in
set_option maxRecDepth 100000 in
theorem d_isType (l : Launch) (dC : Nat → ClassId) (dI : Nat → Nat → Nat) (ad : Nat → Nat → Nat) (cid : Nat → ClassId) (a2 : Nat → Nat) (lx : List Nat) (sg : Nat → Int32) (gm : Nat → Nat → Int32) (lg : Nat → Nat → Int64) (a : Int32) (hI : CI sg gm) : CMt dC dI ad cid a2 lx l yX12_isType wm_X12_isType ({ frames := 0, cells := 1, slots := 6, locals := 0 }) [.int a] sg gm lg (fun v u => ∃ r : Int32, v = some (.int r) ∧ u = (sg, gm, lg) ∧ (iv 0 1 r) ∧ (r.toInt = 0 ∨ iv 0 15 a)) (fun _ _ => False) := by
  intro sz
  refine vx_ofW (cc := cX12_isType) (maxL := 1) (ret := (some .boolean)) (by decide) rfl ?_
  intro p e s m args below meth c s₁ B hml hxt hv
  obtain ⟨rfl, hsz, hP, hK, hD0, hG⟩ := hv
  have hx := B.exec
  have hb := B.bytes
  have hr := B.returns
  have hts := atoms_spec (ws := wm_X12_isType) B.pre
  have htb := fun (w : Cond) (h : w ∈ tb) => hts w (List.mem_cons_of_mem _ h)
  have hown : s.vm.findClass RX12 = some m.cls := findClass_of_methodNamed B.named
  have hlocks := B.notSynchronized
  subst hsz
  have hD := hD0.self (sz := s.heap.size)
  generalize hAe : va_A (cW ad cid a2 lx sg gm lg) s.heap.size = A at hD hG ⊢
  have hA : ∀ q : Nat, s.heap.size ≤ q → A q := fun q h => by rw [← hAe]; exact Or.inr h
  have hS : va_S A s.heap s.heap [] := va_S.rf
  have hl := lv_entry ([.int a]) (n := 1) (Nat.le_of_ble_eq_true rfl)
  rw [lg_entry_eq]
  generalize (lg_sl ([.int a]) ++ List.replicate (1 - (lg_sl ([.int a])).length) Slot.unset).toArray = ls at hl ⊢
  have hl : lv_has ls 1 [(0, .int a)] := hl
  have hj26 : ∀ (y0_26 : Int32) (_ : iv 0 1 y0_26) (_ : y0_26.toInt = 0 ∨ iv 0 15 a) (H : Heap) (locs : List Loc) (ls : Array Slot), va_P (dC, dI) vwCl (cW ad cid a2 lx sg gm lg) H → va_D A (cW ad cid a2 lx sg gm lg) → va_S A s.heap H locs → lv_has ls 1 [(0, .int a)] → W p l e (headSpec wm_X12_isType ({ frames := 0, cells := 1, slots := 6, locals := 0 })).room s m ([.int a] : List Value).toArray below meth c H locs 0 0 (vx_MQ below (cQx dC dI ad cid a2 lx (fun v u => ∃ r : Int32, v = some (.int r) ∧ u = (sg, gm, lg) ∧ (iv 0 1 r) ∧ (r.toInt = 0 ∨ iv 0 15 a)) A) (cX dC dI ad cid a2 lx (fun _ _ => False) A) ([.int a] : List Value).toArray s 1 6 A) (F0 m 26 ls [.int y0_26]) := by
    intro y0_26 hy0_26 hc H locs ls hP hD hS hl
    exact W.nb (fun hN => W.widen (k := 1) (n := 6) (by decide) (by decide) (vx_ret (W.zret (v := y0_26) hx hb hr (iv_nb hy0_26) (fun t ht hW => ⟨⟨some (.int y0_26), (sg, gm, lg), rfl, ⟨y0_26, rfl, rfl, hy0_26, (hc)⟩, by rw [ht]; exact hP, va_K.moved hW.alike hK, hD⟩, hS.F ht, by rw [ht]; exact hN⟩) hS.2.2 dX12_isType_26)))
  have hj25 : ∀ (H : Heap) (locs : List Loc) (ls : Array Slot), va_P (dC, dI) vwCl (cW ad cid a2 lx sg gm lg) H → va_D A (cW ad cid a2 lx sg gm lg) → va_S A s.heap H locs → lv_has ls 1 [(0, .int a)] → W p l e (headSpec wm_X12_isType ({ frames := 0, cells := 1, slots := 6, locals := 0 })).room s m ([.int a] : List Value).toArray below meth c H locs 0 0 (vx_MQ below (cQx dC dI ad cid a2 lx (fun v u => ∃ r : Int32, v = some (.int r) ∧ u = (sg, gm, lg) ∧ (iv 0 1 r) ∧ (r.toInt = 0 ∨ iv 0 15 a)) A) (cX dC dI ad cid a2 lx (fun _ _ => False) A) ([.int a] : List Value).toArray s 1 6 A) (F0 m 25 ls []) := by
    intro  H locs ls hP hD hS hl
    refine lv_iconst (v := 0) hx hb dX12_isType_25 (by decide) ?_
    exact hj26 0 (iv_w (iv_k (by decide) : iv 0 0 0) (by decide)) (Or.inl rfl) _ _ _ hP hD hS (lv_sub hl [0] rfl)
  have hj21 : ∀ (_ : iv 0 15 a) (_ : iv 0 15 a) (H : Heap) (locs : List Loc) (ls : Array Slot), va_P (dC, dI) vwCl (cW ad cid a2 lx sg gm lg) H → va_D A (cW ad cid a2 lx sg gm lg) → va_S A s.heap H locs → lv_has ls 1 [(0, .int a)] → W p l e (headSpec wm_X12_isType ({ frames := 0, cells := 1, slots := 6, locals := 0 })).room s m ([.int a] : List Value).toArray below meth c H locs 0 0 (vx_MQ below (cQx dC dI ad cid a2 lx (fun v u => ∃ r : Int32, v = some (.int r) ∧ u = (sg, gm, lg) ∧ (iv 0 1 r) ∧ (r.toInt = 0 ∨ iv 0 15 a)) A) (cX dC dI ad cid a2 lx (fun _ _ => False) A) ([.int a] : List Value).toArray s 1 6 A) (F0 m 21 ls []) := by
    intro  hsx0_21 hc H locs ls hP hD hS hl
    refine lv_iconst (v := 1) hx hb dX12_isType_21 (by decide) ?_
    refine lv_goto (tgt := 26) hx hb dX12_isType_22 (by decide) ?_
    exact hj26 1 (iv_w (iv_k (by decide) : iv 1 1 1) (by decide)) (Or.inr hc) _ _ _ hP hD hS (lv_sub hl [0] rfl)
  have hj9 : ∀ (H : Heap) (locs : List Loc) (ls : Array Slot), va_P (dC, dI) vwCl (cW ad cid a2 lx sg gm lg) H → va_D A (cW ad cid a2 lx sg gm lg) → va_S A s.heap H locs → lv_has ls 1 [(0, .int a)] → W p l e (headSpec wm_X12_isType ({ frames := 0, cells := 1, slots := 6, locals := 0 })).room s m ([.int a] : List Value).toArray below meth c H locs 0 0 (vx_MQ below (cQx dC dI ad cid a2 lx (fun v u => ∃ r : Int32, v = some (.int r) ∧ u = (sg, gm, lg) ∧ (iv 0 1 r) ∧ (r.toInt = 0 ∨ iv 0 15 a)) A) (cX dC dI ad cid a2 lx (fun _ _ => False) A) ([.int a] : List Value).toArray s 1 6 A) (F0 m 9 ls []) := by
    intro  H locs ls hP hD hS hl
    refine lv_iload_n hx hb dX12_isType_9 rfl (lv_at hl 0 rfl) ?_
    refine lv_bipush (v := 8) hx hb dX12_isType_10 (by decide) ?_
    refine lv_icmp_lt (tgt := 25) hx hb dX12_isType_12 (by decide) (fun c_1 => ?_) (fun c_1 => ?_)
    · have h_2 : iv (-2147483648) 7 a := iv_ltL c_1 (iv_all a) (iv_k (by decide) : iv 8 8 8) (by decide)
      exact hj25 _ _ _ hP hD hS (lv_sub hl [0] rfl)
    · have h_3 : iv 8 2147483647 a := iv_leR (i32_ge c_1) (iv_k (by decide) : iv 8 8 8) (iv_all a) (by decide)
      refine lv_iload_n hx hb dX12_isType_15 rfl (lv_at hl 0 rfl) ?_
      refine lv_bipush (v := 16) hx hb dX12_isType_16 (by decide) ?_
      refine lv_icmp_ge (tgt := 25) hx hb dX12_isType_18 (by decide) (fun c_4 => ?_) (fun c_4 => ?_)
      · have h_5 : iv 16 2147483647 a := iv_leR c_4 (iv_k (by decide) : iv 16 16 16) h_3 (by decide)
        exact hj25 _ _ _ hP hD hS (lv_sub hl [0] rfl)
      · have h_6 : iv 8 15 a := iv_ltL (i32_lt c_4) h_3 (iv_k (by decide) : iv 16 16 16) (by decide)
        exact hj21 (iv_w h_6 (by decide)) ((iv_w h_6 (by decide))) _ _ _ hP hD hS (lv_sub hl [0] rfl)
  refine lv_iload_n hx hb dX12_isType_0 rfl (lv_at hl 0 rfl) ?_
  refine lv_if_lt (tgt := 9) hx hb dX12_isType_1 (by decide) (fun c_7 => ?_) (fun c_7 => ?_)
  · have h_8 : iv (-2147483648) (-1) a := iv_ltL c_7 (iv_all a) (iv_k (by decide) : iv 0 0 0) (by decide)
    exact hj9 _ _ _ hP hD hS (lv_sub hl [0] rfl)
  · have h_9 : iv 0 2147483647 a := iv_leR (i32_ge c_7) (iv_k (by decide) : iv 0 0 0) (iv_all a) (by decide)
    refine lv_iload_n hx hb dX12_isType_4 rfl (lv_at hl 0 rfl) ?_
    refine lv_iconst (v := 4) hx hb dX12_isType_5 (by decide) ?_
    refine lv_icmp_le (tgt := 21) hx hb dX12_isType_6 (by decide) (fun c_10 => ?_) (fun c_10 => ?_)
    · have h_11 : iv 0 4 a := iv_leL c_10 h_9 (iv_k (by decide) : iv 4 4 4) (by decide)
      exact hj21 (iv_w h_11 (by decide)) ((iv_w h_11 (by decide))) _ _ _ hP hD hS (lv_sub hl [0] rfl)
    · have h_12 : iv 5 2147483647 a := iv_ltR (i32_lt c_10) (iv_k (by decide) : iv 4 4 4) h_9 (by decide)
      exact hj9 _ _ _ hP hD hS (lv_sub hl [0] rfl)

set_option maxHeartbeats 4000000 in
set_option maxRecDepth 100000 in
theorem d_areTypes (l : Launch) (dC : Nat → ClassId) (dI : Nat → Nat → Nat) (ad : Nat → Nat → Nat) (cid : Nat → ClassId) (a2 : Nat → Nat) (lx : List Nat) (sg : Nat → Int32) (gm : Nat → Nat → Int32) (lg : Nat → Nat → Int64) (a : Int32) (b : Int32) (f : Int32) (g : Int32) (hI : CI sg gm) : CMt dC dI ad cid a2 lx l yX12_areTypes wm_X12_areTypes ({ frames := 1, cells := 1, slots := 6, locals := 20 }) [.int a, .int b, .int f, .int g] sg gm lg (fun v u => ∃ r : Int32, v = some (.int r) ∧ u = (sg, gm, lg) ∧ (iv 0 1 r) ∧ (r.toInt = 0 ∨ iv 0 3 a)) (fun _ _ => False) := by
  intro sz
  refine vx_ofW (cc := cX12_areTypes) (maxL := 4) (ret := (some .boolean)) (by decide) rfl ?_
  intro p e s m args below meth c s₁ B hml hxt hv
  obtain ⟨rfl, hsz, hP, hK, hD0, hG⟩ := hv
  have hx := B.exec
  have hb := B.bytes
  have hr := B.returns
  have hts := atoms_spec (ws := wm_X12_areTypes) B.pre
  have htb := fun (w : Cond) (h : w ∈ tb) => hts w (List.mem_cons_of_mem _ h)
  have hown : s.vm.findClass RX12 = some m.cls := findClass_of_methodNamed B.named
  have hlocks := B.notSynchronized
  subst hsz
  have hD := hD0.self (sz := s.heap.size)
  generalize hAe : va_A (cW ad cid a2 lx sg gm lg) s.heap.size = A at hD hG ⊢
  have hA : ∀ q : Nat, s.heap.size ≤ q → A q := fun q h => by rw [← hAe]; exact Or.inr h
  have hS : va_S A s.heap s.heap [] := va_S.rf
  have hl := lv_entry ([.int a, .int b, .int f, .int g]) (n := 4) (Nat.le_of_ble_eq_true rfl)
  rw [lg_entry_eq]
  generalize (lg_sl ([.int a, .int b, .int f, .int g]) ++ List.replicate (4 - (lg_sl ([.int a, .int b, .int f, .int g])).length) Slot.unset).toArray = ls at hl ⊢
  have hl : lv_has ls 4 [(0, .int a), (1, .int b), (2, .int f), (3, .int g)] := hl
  have hj50 : ∀ (y0_50 : Int32) (_ : iv 0 1 y0_50) (_ : y0_50.toInt = 0 ∨ iv 0 3 a) (H : Heap) (locs : List Loc) (ls : Array Slot), va_P (dC, dI) vwCl (cW ad cid a2 lx sg gm lg) H → va_D A (cW ad cid a2 lx sg gm lg) → va_S A s.heap H locs → lv_has ls 4 [(0, .int a), (1, .int b), (2, .int f), (3, .int g)] → W p l e (headSpec wm_X12_areTypes ({ frames := 1, cells := 1, slots := 6, locals := 20 })).room s m ([.int a, .int b, .int f, .int g] : List Value).toArray below meth c H locs 0 0 (vx_MQ below (cQx dC dI ad cid a2 lx (fun v u => ∃ r : Int32, v = some (.int r) ∧ u = (sg, gm, lg) ∧ (iv 0 1 r) ∧ (r.toInt = 0 ∨ iv 0 3 a)) A) (cX dC dI ad cid a2 lx (fun _ _ => False) A) ([.int a, .int b, .int f, .int g] : List Value).toArray s 1 6 A) (F0 m 50 ls [.int y0_50]) := by
    intro y0_50 hy0_50 hc H locs ls hP hD hS hl
    exact W.nb (fun hN => W.widen (k := 1) (n := 6) (by decide) (by decide) (vx_ret (W.zret (v := y0_50) hx hb hr (iv_nb hy0_50) (fun t ht hW => ⟨⟨some (.int y0_50), (sg, gm, lg), rfl, ⟨y0_50, rfl, rfl, hy0_50, (hc)⟩, by rw [ht]; exact hP, va_K.moved hW.alike hK, hD⟩, hS.F ht, by rw [ht]; exact hN⟩) hS.2.2 dX12_areTypes_50)))
  have hj49 : ∀ (H : Heap) (locs : List Loc) (ls : Array Slot), va_P (dC, dI) vwCl (cW ad cid a2 lx sg gm lg) H → va_D A (cW ad cid a2 lx sg gm lg) → va_S A s.heap H locs → lv_has ls 4 [(0, .int a), (1, .int b), (2, .int f), (3, .int g)] → W p l e (headSpec wm_X12_areTypes ({ frames := 1, cells := 1, slots := 6, locals := 20 })).room s m ([.int a, .int b, .int f, .int g] : List Value).toArray below meth c H locs 0 0 (vx_MQ below (cQx dC dI ad cid a2 lx (fun v u => ∃ r : Int32, v = some (.int r) ∧ u = (sg, gm, lg) ∧ (iv 0 1 r) ∧ (r.toInt = 0 ∨ iv 0 3 a)) A) (cX dC dI ad cid a2 lx (fun _ _ => False) A) ([.int a, .int b, .int f, .int g] : List Value).toArray s 1 6 A) (F0 m 49 ls []) := by
    intro  H locs ls hP hD hS hl
    refine lv_iconst (v := 0) hx hb dX12_areTypes_49 (by decide) ?_
    exact hj50 0 (iv_w (iv_k (by decide) : iv 0 0 0) (by decide)) (Or.inl rfl) _ _ _ hP hD hS (lv_sub hl [0, 1, 2, 3] rfl)
  have hj45 : ∀ (_ : iv 0 3 a) (_ : iv 0 3 a) (H : Heap) (locs : List Loc) (ls : Array Slot), va_P (dC, dI) vwCl (cW ad cid a2 lx sg gm lg) H → va_D A (cW ad cid a2 lx sg gm lg) → va_S A s.heap H locs → lv_has ls 4 [(0, .int a), (1, .int b), (2, .int f), (3, .int g)] → W p l e (headSpec wm_X12_areTypes ({ frames := 1, cells := 1, slots := 6, locals := 20 })).room s m ([.int a, .int b, .int f, .int g] : List Value).toArray below meth c H locs 0 0 (vx_MQ below (cQx dC dI ad cid a2 lx (fun v u => ∃ r : Int32, v = some (.int r) ∧ u = (sg, gm, lg) ∧ (iv 0 1 r) ∧ (r.toInt = 0 ∨ iv 0 3 a)) A) (cX dC dI ad cid a2 lx (fun _ _ => False) A) ([.int a, .int b, .int f, .int g] : List Value).toArray s 1 6 A) (F0 m 45 ls []) := by
    intro  hsx0_45 hn9 H locs ls hP hD hS hl
    refine lv_iconst (v := 1) hx hb dX12_areTypes_45 (by decide) ?_
    refine lv_goto (tgt := 50) hx hb dX12_areTypes_46 (by decide) ?_
    exact hj50 1 (iv_w (iv_k (by decide) : iv 1 1 1) (by decide)) (Or.inr hn9) _ _ _ hP hD hS (lv_sub hl [0, 1, 2, 3] rfl)
  have hj33 : ∀ (_ : iv 0 3 a) (_ : iv 0 3 a) (H : Heap) (locs : List Loc) (ls : Array Slot), va_P (dC, dI) vwCl (cW ad cid a2 lx sg gm lg) H → va_D A (cW ad cid a2 lx sg gm lg) → va_S A s.heap H locs → lv_has ls 4 [(0, .int a), (1, .int b), (2, .int f), (3, .int g)] → W p l e (headSpec wm_X12_areTypes ({ frames := 1, cells := 1, slots := 6, locals := 20 })).room s m ([.int a, .int b, .int f, .int g] : List Value).toArray below meth c H locs 0 0 (vx_MQ below (cQx dC dI ad cid a2 lx (fun v u => ∃ r : Int32, v = some (.int r) ∧ u = (sg, gm, lg) ∧ (iv 0 1 r) ∧ (r.toInt = 0 ∨ iv 0 3 a)) A) (cX dC dI ad cid a2 lx (fun _ _ => False) A) ([.int a, .int b, .int f, .int g] : List Value).toArray s 1 6 A) (F0 m 33 ls []) := by
    intro  hsx0_33 hn9 H locs ls hP hD hS hl
    refine lv_iload_n hx hb dX12_areTypes_33 rfl (lv_at hl 0 rfl) ?_
    refine lv_iconst (v := 3) hx hb dX12_areTypes_34 (by decide) ?_
    refine lv_icmp_lt (tgt := 45) hx hb dX12_areTypes_35 (by decide) (fun c_1 => ?_) (fun c_1 => ?_)
    · have h_2 : iv 0 2 a := iv_ltL c_1 hsx0_33 (iv_k (by decide) : iv 3 3 3) (by decide)
      exact hj45 (iv_w h_2 (by decide)) (hn9) _ _ _ hP hD hS (lv_sub hl [0, 1, 2, 3] rfl)
    · have h_3 : iv 3 3 a := iv_leR (i32_ge c_1) (iv_k (by decide) : iv 3 3 3) hsx0_33 (by decide)
      refine lv_iload_n hx hb dX12_areTypes_38 rfl (lv_at hl 3 rfl) ?_
      refine cm_callS (rest := []) (as := [.int g]) ⟨hx, hb, hml, hown, htb⟩ (d_isType l dC dI ad cid a2 lx sg gm lg g hI) (va_cwS 1 htb (gd_S kw_247 kw_248 kw_2 kw_1391) rfl rfl rfl (by decide +kernel) ⟨Nat.le_of_ble_eq_true rfl, Nat.le_of_ble_eq_true rfl⟩)  rfl hl.1 rfl (Nat.le_trans cs_n (by decide)) dX12_areTypes_39 ⟨Nat.le_of_ble_eq_true rfl, Nat.le_of_ble_eq_true rfl⟩ hK hP hD hS hA hG (fun E ce q9 u_5 H locs hw hP hD hS hce hcv hcl => ?_) (fun v9 u_5 H locs hw hP hD hS => ?_)
      · exact hw.elim
      obtain ⟨r_4, rfl, rfl, hr_4, fc_r_4⟩ := hw
      have hP : va_P (dC, dI) vwCl (cW ad cid a2 lx sg gm lg) H := hP
      have hD : va_D A (cW ad cid a2 lx sg gm lg) := hD
      refine W.eq (g2 := F0 m 42 ls [.int r_4]) rfl ?_
      refine lv_if_eq (tgt := 49) hx hb dX12_areTypes_42 (by decide) (fun c_7 => ?_) (fun c_7 => ?_)
      · have h_8 : iv 0 0 r_4 := iv_eq c_7 hr_4 (iv_k (by decide) : iv 0 0 0) (by decide)
        exact hj49 _ _ _ hP hD hS (lv_sub hl [0, 1, 2, 3] rfl)
      · have h_9 : iv 1 1 r_4 := iv_neL c_7 hr_4 (by decide)
        exact hj45 (iv_w h_3 (by decide)) (hn9) _ _ _ hP hD hS (lv_sub hl [0, 1, 2, 3] rfl)
  have hj21 : ∀ (_ : iv 0 3 a) (_ : iv 0 3 a) (H : Heap) (locs : List Loc) (ls : Array Slot), va_P (dC, dI) vwCl (cW ad cid a2 lx sg gm lg) H → va_D A (cW ad cid a2 lx sg gm lg) → va_S A s.heap H locs → lv_has ls 4 [(0, .int a), (1, .int b), (2, .int f), (3, .int g)] → W p l e (headSpec wm_X12_areTypes ({ frames := 1, cells := 1, slots := 6, locals := 20 })).room s m ([.int a, .int b, .int f, .int g] : List Value).toArray below meth c H locs 0 0 (vx_MQ below (cQx dC dI ad cid a2 lx (fun v u => ∃ r : Int32, v = some (.int r) ∧ u = (sg, gm, lg) ∧ (iv 0 1 r) ∧ (r.toInt = 0 ∨ iv 0 3 a)) A) (cX dC dI ad cid a2 lx (fun _ _ => False) A) ([.int a, .int b, .int f, .int g] : List Value).toArray s 1 6 A) (F0 m 21 ls []) := by
    intro  hsx0_21 hn9 H locs ls hP hD hS hl
    refine lv_iload_n hx hb dX12_areTypes_21 rfl (lv_at hl 0 rfl) ?_
    refine lv_iconst (v := 2) hx hb dX12_areTypes_22 (by decide) ?_
    refine lv_icmp_lt (tgt := 33) hx hb dX12_areTypes_23 (by decide) (fun c_10 => ?_) (fun c_10 => ?_)
    · have h_11 : iv 0 1 a := iv_ltL c_10 hsx0_21 (iv_k (by decide) : iv 2 2 2) (by decide)
      exact hj33 (iv_w h_11 (by decide)) (hn9) _ _ _ hP hD hS (lv_sub hl [0, 1, 2, 3] rfl)
    · have h_12 : iv 2 3 a := iv_leR (i32_ge c_10) (iv_k (by decide) : iv 2 2 2) hsx0_21 (by decide)
      refine lv_iload_n hx hb dX12_areTypes_26 rfl (lv_at hl 2 rfl) ?_
      refine cm_callS (rest := []) (as := [.int f]) ⟨hx, hb, hml, hown, htb⟩ (d_isType l dC dI ad cid a2 lx sg gm lg f hI) (va_cwS 1 htb (gd_S kw_247 kw_248 kw_2 kw_1391) rfl rfl rfl (by decide +kernel) ⟨Nat.le_of_ble_eq_true rfl, Nat.le_of_ble_eq_true rfl⟩)  rfl hl.1 rfl (Nat.le_trans cs_n (by decide)) dX12_areTypes_27 ⟨Nat.le_of_ble_eq_true rfl, Nat.le_of_ble_eq_true rfl⟩ hK hP hD hS hA hG (fun E ce q9 u_14 H locs hw hP hD hS hce hcv hcl => ?_) (fun v9 u_14 H locs hw hP hD hS => ?_)
      · exact hw.elim
      obtain ⟨r_13, rfl, rfl, hr_13, fc_r_13⟩ := hw
      have hP : va_P (dC, dI) vwCl (cW ad cid a2 lx sg gm lg) H := hP
      have hD : va_D A (cW ad cid a2 lx sg gm lg) := hD
      refine W.eq (g2 := F0 m 30 ls [.int r_13]) rfl ?_
      refine lv_if_eq (tgt := 49) hx hb dX12_areTypes_30 (by decide) (fun c_16 => ?_) (fun c_16 => ?_)
      · have h_17 : iv 0 0 r_13 := iv_eq c_16 hr_13 (iv_k (by decide) : iv 0 0 0) (by decide)
        exact hj49 _ _ _ hP hD hS (lv_sub hl [0, 1, 2, 3] rfl)
      · have h_18 : iv 1 1 r_13 := iv_neL c_16 hr_13 (by decide)
        exact hj33 (iv_w h_12 (by decide)) (hn9) _ _ _ hP hD hS (lv_sub hl [0, 1, 2, 3] rfl)
  refine lv_iload_n hx hb dX12_areTypes_0 rfl (lv_at hl 0 rfl) ?_
  refine lv_if_lt (tgt := 49) hx hb dX12_areTypes_1 (by decide) (fun c_19 => ?_) (fun c_19 => ?_)
  · have h_20 : iv (-2147483648) (-1) a := iv_ltL c_19 (iv_all a) (iv_k (by decide) : iv 0 0 0) (by decide)
    exact hj49 _ _ _ hP hD hS (lv_sub hl [0, 1, 2, 3] rfl)
  · have h_21 : iv 0 2147483647 a := iv_leR (i32_ge c_19) (iv_k (by decide) : iv 0 0 0) (iv_all a) (by decide)
    refine lv_iload_n hx hb dX12_areTypes_4 rfl (lv_at hl 0 rfl) ?_
    refine lv_iconst (v := 3) hx hb dX12_areTypes_5 (by decide) ?_
    refine lv_icmp_gt (tgt := 49) hx hb dX12_areTypes_6 (by decide) (fun c_22 => ?_) (fun c_22 => ?_)
    · have h_23 : iv 4 2147483647 a := iv_ltR c_22 (iv_k (by decide) : iv 3 3 3) h_21 (by decide)
      exact hj49 _ _ _ hP hD hS (lv_sub hl [0, 1, 2, 3] rfl)
    · have h_24 : iv 0 3 a := iv_leL (i32_ge c_22) h_21 (iv_k (by decide) : iv 3 3 3) (by decide)
      refine lv_iload_n hx hb dX12_areTypes_9 rfl (lv_at hl 0 rfl) ?_
      refine lv_iconst (v := 1) hx hb dX12_areTypes_10 (by decide) ?_
      refine lv_icmp_lt (tgt := 21) hx hb dX12_areTypes_11 (by decide) (fun c_25 => ?_) (fun c_25 => ?_)
      · have h_26 : iv 0 0 a := iv_ltL c_25 h_24 (iv_k (by decide) : iv 1 1 1) (by decide)
        exact hj21 (iv_w h_26 (by decide)) ((iv_w h_26 (by decide))) _ _ _ hP hD hS (lv_sub hl [0, 1, 2, 3] rfl)
      · have h_27 : iv 1 3 a := iv_leR (i32_ge c_25) (iv_k (by decide) : iv 1 1 1) h_24 (by decide)
        refine lv_iload_n hx hb dX12_areTypes_14 rfl (lv_at hl 1 rfl) ?_
        refine cm_callS (rest := []) (as := [.int b]) ⟨hx, hb, hml, hown, htb⟩ (d_isType l dC dI ad cid a2 lx sg gm lg b hI) (va_cwS 1 htb (gd_S kw_247 kw_248 kw_2 kw_1391) rfl rfl rfl (by decide +kernel) ⟨Nat.le_of_ble_eq_true rfl, Nat.le_of_ble_eq_true rfl⟩)  rfl hl.1 rfl (Nat.le_trans cs_n (by decide)) dX12_areTypes_15 ⟨Nat.le_of_ble_eq_true rfl, Nat.le_of_ble_eq_true rfl⟩ hK hP hD hS hA hG (fun E ce q9 u_29 H locs hw hP hD hS hce hcv hcl => ?_) (fun v9 u_29 H locs hw hP hD hS => ?_)
        · exact hw.elim
        obtain ⟨r_28, rfl, rfl, hr_28, fc_r_28⟩ := hw
        have hP : va_P (dC, dI) vwCl (cW ad cid a2 lx sg gm lg) H := hP
        have hD : va_D A (cW ad cid a2 lx sg gm lg) := hD
        refine W.eq (g2 := F0 m 18 ls [.int r_28]) rfl ?_
        refine lv_if_eq (tgt := 49) hx hb dX12_areTypes_18 (by decide) (fun c_31 => ?_) (fun c_31 => ?_)
        · have h_32 : iv 0 0 r_28 := iv_eq c_31 hr_28 (iv_k (by decide) : iv 0 0 0) (by decide)
          exact hj49 _ _ _ hP hD hS (lv_sub hl [0, 1, 2, 3] rfl)
        · have h_33 : iv 1 1 r_28 := iv_neL c_31 hr_28 (by decide)
          exact hj21 (iv_w h_27 (by decide)) ((iv_w h_27 (by decide))) _ _ _ hP hD hS (lv_sub hl [0, 1, 2, 3] rfl)

set_option maxHeartbeats 4000000 in
set_option maxRecDepth 100000 in
theorem d_addConstructor (l : Launch) (dC : Nat → ClassId) (dI : Nat → Nat → Nat) (ad : Nat → Nat → Nat) (cid : Nat → ClassId) (a2 : Nat → Nat) (lx : List Nat) (sg : Nat → Int32) (gm : Nat → Nat → Int32) (lg : Nat → Nat → Int64) (x : Int32) (n : Int32) (a : Int32) (b : Int32) (f : Int32) (hI : CI sg gm) (hvx : iv 0 7 x) (hvn : iv 0 3 n) : CMt dC dI ad cid a2 lx l yX2_addConstructor wm_X2_addConstructor ({ frames := 1, cells := 1, slots := 6, locals := 24 }) [eV (ad 7) x, .int n, .int a, .int b, .int f] sg gm lg (fun v u => ∃ r : Int32, v = some (.int r) ∧ ∃ (sg2 : Nat → Int32) (gm2 : Nat → Nat → Int32) (lg2 : Nat → Nat → Int64), u = (sg2, gm2, lg2) ∧ CI sg2 gm2 ∧ KS [] sg sg2 ∧ KS [0, 7, 8, 9, 10, 54] gm gm2 ∧ KS [] lg lg2 ∧ (iv 0 1 r)) (fun _ _ => False) := by
  intro sz
  refine vx_ofW (cc := cX2_addConstructor) (maxL := 5) (ret := (some .boolean)) (by decide) rfl ?_
  intro p e s m args below meth c s₁ B hml hxt hv
  obtain ⟨rfl, hsz, hP, hK, hD0, hG⟩ := hv
  have hx := B.exec
  have hb := B.bytes
  have hr := B.returns
  have hts := atoms_spec (ws := wm_X2_addConstructor) B.pre
  have htb := fun (w : Cond) (h : w ∈ tb) => hts w (List.mem_cons_of_mem _ h)
  have hown : s.vm.findClass RX2 = some m.cls := findClass_of_methodNamed B.named
  have hlocks := B.notSynchronized
  subst hsz
  have hD := hD0.self (sz := s.heap.size)
  generalize hAe : va_A (cW ad cid a2 lx sg gm lg) s.heap.size = A at hD hG ⊢
  have hA : ∀ q : Nat, s.heap.size ≤ q → A q := fun q h => by rw [← hAe]; exact Or.inr h
  have hS : va_S A s.heap s.heap [] := va_S.rf
  have hl := lv_entry ([eV (ad 7) x, .int n, .int a, .int b, .int f]) (n := 5) (by rw [show (lg_sl ([eV (ad 7) x, .int n, .int a, .int b, .int f])).length = 5 from by simp [lg_sl, eV_cat, cat_i, cat_l]]; exact Nat.le_of_ble_eq_true rfl)
  rw [lg_entry_eq]
  generalize (lg_sl ([eV (ad 7) x, .int n, .int a, .int b, .int f]) ++ List.replicate (5 - (lg_sl ([eV (ad 7) x, .int n, .int a, .int b, .int f])).length) Slot.unset).toArray = ls at hl ⊢
  have hl : lv_has ls 5 [(0, eV (ad 7) x), (1, .int n), (2, .int a), (3, .int b), (4, .int f)] := by simp [lv_args, eV_cat, cat_i, cat_l] at hl; exact hl
  refine ec_aload_n hx hb dX2_addConstructor_0 rfl (lv_at hl 0 rfl) ?_
  refine cr_get (t := 7) (j := 2) (C := RX2) (T := TX2) (N := 8) (v := .int (gm 0 x.toNatClampNeg)) hx hb htb inX2 hown hK hP hvx (by decide) (by decide) (by decide) rfl (by decide) (htb _ kw_233) rfl dX2_addConstructor_1 ?_
  obtain ⟨z_1, ez_1⟩ : ∃ z : Int32, z = (gm 0 x.toNatClampNeg) := ⟨_, rfl⟩
  refine W.eq (g2 := F0 m 4 ls [.int z_1]) (by rw [ez_1]) ?_
  have hz_1 : iv 0 4 z_1 := iv_of ez_1 (CI_a hI 0 hvx (by decide))
  refine lv_iconst (v := 4) hx hb dX2_addConstructor_4 (by decide) ?_
  refine lv_icmp_lt (tgt := 10) hx hb dX2_addConstructor_5 (by decide) (fun c_2 => ?_) (fun c_2 => ?_)
  · have h_3 : iv 0 3 z_1 := iv_ltL c_2 hz_1 (iv_k (by decide) : iv 4 4 4) (by decide)
    refine ec_aload_n hx hb dX2_addConstructor_10 rfl (lv_at hl 0 rfl) ?_
    refine cr_get (t := 7) (j := 0) (C := RX2) (T := TX2) (N := 8) (v := eV (ad 28) x) hx hb htb inX2 hown hK hP hvx (by decide) (by decide) (by decide) rfl (by decide) (htb _ kw_48) (cV_c rfl (hvx).1 (by rw [show cMu 7 0 = 1 from rfl, Nat.one_mul]; rfl)) dX2_addConstructor_11 ?_
    refine ec_aload_n hx hb dX2_addConstructor_14 rfl (lv_at hl 0 rfl) ?_
    refine cr_get (t := 7) (j := 2) (C := RX2) (T := TX2) (N := 8) (v := .int (gm 0 x.toNatClampNeg)) hx hb htb inX2 hown hK hP hvx (by decide) (by decide) (by decide) rfl (by decide) (htb _ kw_233) rfl dX2_addConstructor_15 ?_
    refine W.eq (g2 := F0 m 18 ls [.int z_1, eV (ad 28) x]) (by rw [show (gm 0 x.toNatClampNeg) = z_1 from ez_1.symm]) ?_
    obtain ⟨q_4, hq_4, nq_4, tq_4⟩ := ix_mk (8 * x.toNatClampNeg + 0 + (z_1 : Int32).toNatClampNeg) 63 (by have q1 := iv_cl hvx (by decide); have q2 := (hvx).2; have q3 := iv_cl h_3 (by decide); have q4 := (h_3).2; omega) (by decide)
    refine cr_aald (t := 28) (C := RX8) (v := eV (ad 8) q_4) hx hb hK hP hvx (by decide) (by decide) (by decide) (by decide) (by decide) rfl (show vp_in z_1 (cLen 28) from (show vp_in z_1 4 from (iv_in h_3 (by decide)))) (cAr_c (by decide) hq_4.1 nq_4) dX2_addConstructor_18 ?_
    refine lv_iconst (v := (-1)) hx hb dX2_addConstructor_19 (by decide) ?_
    refine lv_iconst (v := 0) hx hb dX2_addConstructor_20 (by decide) ?_
    refine ec_aload_n hx hb dX2_addConstructor_21 rfl (lv_at hl 0 rfl) ?_
    refine cr_get (t := 7) (j := 4) (C := RX2) (T := TX2) (N := 8) (v := .int (gm 2 x.toNatClampNeg)) hx hb htb inX2 hown hK hP hvx (by decide) (by decide) (by decide) rfl (by decide) (htb _ kw_46) rfl dX2_addConstructor_22 ?_
    obtain ⟨z_5, ez_5⟩ : ∃ z : Int32, z = (gm 2 x.toNatClampNeg) := ⟨_, rfl⟩
    refine W.eq (g2 := F0 m 25 ls [.int z_5, .int 0, .int (-1), eV (ad 8) q_4]) (by rw [ez_5]) ?_
    have hz_5 : iv 0 7 z_5 := iv_of ez_5 (CI_a hI 2 hvx (by decide))
    refine cm_callV (t := 8) (C := RX8) (T := TX8) (N := 7) (rest := []) (as := [.int (-1), .int 0, .int z_5]) ⟨hx, hb, hml, hown, htb⟩ (d_describe l dC dI ad cid a2 lx sg gm lg q_4 (-1) 0 z_5 hI hq_4 (iv_w (iv_k (by decide) : iv (-1) (-1) (-1)) (by decide)) (iv_w (iv_k (by decide) : iv 0 0 0) (by decide)) hz_5) (cwV 3 htb (gd_V kw_252 kw_253 kw_254 kw_51 kw_1393) rfl rfl rfl (by decide +kernel) ⟨Nat.le_of_ble_eq_true rfl, Nat.le_of_ble_eq_true rfl⟩) hq_4 (by decide) (by decide) rfl rfl hl.1 rfl (Nat.le_trans cs_n (by decide)) dX2_addConstructor_25 ⟨Nat.le_of_ble_eq_true rfl, Nat.le_of_ble_eq_true rfl⟩ hK hP hD hS hA hG (fun E ce q9 u_7 H locs hw hP hD hS hce hcv hcl => ?_) (fun v9 u_7 H locs hw hP hD hS => ?_)
    · exact hw.elim
    obtain ⟨rfl, sgv_8, gmv_8, lgv_8, rfl, hIv_8, ksv_8, kgv_8, klv_8⟩ := hw
    obtain rfl := KS_nil ksv_8
    obtain rfl := KS_nil klv_8
    have hP : va_P (dC, dI) vwCl (cW ad cid a2 lx sg gmv_8 lg) H := hP
    have hD : va_D A (cW ad cid a2 lx sg gmv_8 lg) := hD
    refine W.eq (g2 := F0 m 28 ls []) rfl ?_
    refine ec_aload_n hx hb dX2_addConstructor_28 rfl (lv_at hl 0 rfl) ?_
    refine cr_get (t := 7) (j := 0) (C := RX2) (T := TX2) (N := 8) (v := eV (ad 28) x) hx hb htb inX2 hown hK hP hvx (by decide) (by decide) (by decide) rfl (by decide) (htb _ kw_48) (cV_c rfl (hvx).1 (by rw [show cMu 7 0 = 1 from rfl, Nat.one_mul]; rfl)) dX2_addConstructor_29 ?_
    refine ec_aload_n hx hb dX2_addConstructor_32 rfl (lv_at hl 0 rfl) ?_
    refine cr_get (t := 7) (j := 2) (C := RX2) (T := TX2) (N := 8) (v := .int (gmv_8 0 x.toNatClampNeg)) hx hb htb inX2 hown hK hP hvx (by decide) (by decide) (by decide) rfl (by decide) (htb _ kw_233) rfl dX2_addConstructor_33 ?_
    refine W.eq (g2 := F0 m 36 ls [.int z_1, eV (ad 28) x]) (by rw [show (gmv_8 0 x.toNatClampNeg) = z_1 from (Eq.trans (congrFun (kgv_8 0 (by decide)) _) ez_1.symm)]) ?_
    refine cr_aald (t := 28) (C := RX8) (v := eV (ad 8) q_4) hx hb hK hP hvx (by decide) (by decide) (by decide) (by decide) (by decide) rfl (show vp_in z_1 (cLen 28) from (show vp_in z_1 4 from (iv_in h_3 (by decide)))) (cAr_c (by decide) hq_4.1 nq_4) dX2_addConstructor_36 ?_
    refine lv_iload_n hx hb dX2_addConstructor_37 rfl (lv_at hl 1 rfl) ?_
    refine lv_iload_n hx hb dX2_addConstructor_38 rfl (lv_at hl 2 rfl) ?_
    refine lv_iload_n hx hb dX2_addConstructor_39 rfl (lv_at hl 3 rfl) ?_
    refine lv_iload hx hb dX2_addConstructor_40 (lv_at hl 4 rfl) ?_
    refine cm_callV (t := 8) (C := RX8) (T := TX8) (N := 7) (rest := []) (as := [.int n, .int a, .int b, .int f]) ⟨hx, hb, hml, hown, htb⟩ (d_setTypes l dC dI ad cid a2 lx sg gmv_8 lg q_4 n a b f hIv_8 hq_4 hvn) (cwV 4 htb (gd_V kw_258 kw_259 kw_260 kw_51 kw_1394) rfl rfl rfl (by decide +kernel) ⟨Nat.le_of_ble_eq_true rfl, Nat.le_of_ble_eq_true rfl⟩) hq_4 (by decide) (by decide) rfl rfl hl.1 rfl (Nat.le_trans cs_n (by decide)) dX2_addConstructor_42 ⟨Nat.le_of_ble_eq_true rfl, Nat.le_of_ble_eq_true rfl⟩ hK hP hD hS hA hG (fun E ce q9 u_10 H locs hw hP hD hS hce hcv hcl => ?_) (fun v9 u_10 H locs hw hP hD hS => ?_)
    · exact hw.elim
    obtain ⟨rfl, sgv_11, gmv_11, lgv_11, rfl, hIv_11, ksv_11, kgv_11, klv_11⟩ := hw
    obtain rfl := KS_nil ksv_11
    obtain rfl := KS_nil klv_11
    have hP : va_P (dC, dI) vwCl (cW ad cid a2 lx sg gmv_11 lg) H := hP
    have hD : va_D A (cW ad cid a2 lx sg gmv_11 lg) := hD
    refine W.eq (g2 := F0 m 45 ls []) rfl ?_
    refine ec_aload_n hx hb dX2_addConstructor_45 rfl (lv_at hl 0 rfl) ?_
    refine lv_dup hx hb dX2_addConstructor_46 (eV_cat _ _) ?_
    refine cr_get (t := 7) (j := 2) (C := RX2) (T := TX2) (N := 8) (v := .int (gmv_11 0 x.toNatClampNeg)) hx hb htb inX2 hown hK hP hvx (by decide) (by decide) (by decide) rfl (by decide) (htb _ kw_233) rfl dX2_addConstructor_47 ?_
    refine W.eq (g2 := F0 m 50 ls [.int z_1, eV (ad 7) x]) (by rw [show (gmv_11 0 x.toNatClampNeg) = z_1 from (Eq.trans (congrFun (Eq.trans (kgv_11 0 (by decide)) (kgv_8 0 (by decide))) _) ez_1.symm)]) ?_
    refine lv_iconst (v := 1) hx hb dX2_addConstructor_50 (by decide) ?_
    refine lv_iadd hx hb dX2_addConstructor_51 ?_
    refine lv_topi (fun z_12 ez_12 => ?_)
    have hz_12 : iv 1 4 z_12 := iv_of ez_12 (iv_add h_3 (iv_k (by decide) : iv 1 1 1) (by decide))
    have tz_12 : z_12.toInt = (z_1 : Int32).toInt + 1 := by rw [ez_12]; exact iv_addE h_3 (iv_k (by decide) : iv 1 1 1) (by decide)
    refine cr_putg (t := 7) (j := 2) (C := RX2) (T := TX2) (N := 8) (ty0 := tyX2) (k := 0) (y := z_12) hx hb htb inX2 tyX2_ok nmX2 hown hK hP hD hS hvx (by decide) (by decide) (by decide) (by decide) rfl rfl (by decide) (htb _ kw_233) rfl (by show Value.int z_12 = Value.int (va_up gmv_11 0 (upd (gmv_11 0) x.toNatClampNeg z_12) 0 x.toNatClampNeg); rw [va_up_self, upd_at]) rfl rfl dX2_addConstructor_52 (fun gm_13 H locs egm_13 hP hD hS => ?_)
    have hI_gm_13 := CI_st hIv_11 egm_13 hz_12 (by decide)
    refine lv_iconst (v := 1) hx hb dX2_addConstructor_55 (by decide) ?_
    exact W.nb (fun hN => W.widen (k := 1) (n := 6) (by decide) (by decide) (vx_ret (W.zret (v := 1) hx hb hr (iv_nb (iv_w (iv_k (by decide) : iv 1 1 1) (by decide))) (fun t ht hW => ⟨⟨some (.int 1), (sg, gm_13, lg), rfl, ⟨1, rfl, sg, gm_13, lg, rfl, hI_gm_13, KS_rf, (KS_up (KS_tr (L := [0, 7, 8, 9, 10, 54]) (KS_tr (L := [0, 7, 8, 9, 10, 54]) KS_rf kgv_8 (by decide)) kgv_11 (by decide)) egm_13 (by decide)), KS_rf, (iv_w (iv_k (by decide) : iv 1 1 1) (by decide))⟩, by rw [ht]; exact hP, va_K.moved hW.alike hK, hD⟩, hS.F ht, by rw [ht]; exact hN⟩) hS.2.2 dX2_addConstructor_56)))
  · have h_14 : iv 4 4 z_1 := iv_leR (i32_ge c_2) (iv_k (by decide) : iv 4 4 4) hz_1 (by decide)
    refine lv_iconst (v := 0) hx hb dX2_addConstructor_8 (by decide) ?_
    exact W.nb (fun hN => W.widen (k := 1) (n := 6) (by decide) (by decide) (vx_ret (W.zret (v := 0) hx hb hr (iv_nb (iv_w (iv_k (by decide) : iv 0 0 0) (by decide))) (fun t ht hW => ⟨⟨some (.int 0), (sg, gm, lg), rfl, ⟨0, rfl, sg, gm, lg, rfl, hI, KS_rf, KS_rf, KS_rf, (iv_w (iv_k (by decide) : iv 0 0 0) (by decide))⟩, by rw [ht]; exact hP, va_K.moved hW.alike hK, hD⟩, hS.F ht, by rw [ht]; exact hN⟩) hS.2.2 dX2_addConstructor_9)))

set_option maxHeartbeats 4000000 in
set_option maxRecDepth 100000 in
theorem d_addFactory (l : Launch) (dC : Nat → ClassId) (dI : Nat → Nat → Nat) (ad : Nat → Nat → Nat) (cid : Nat → ClassId) (a2 : Nat → Nat) (lx : List Nat) (sg : Nat → Int32) (gm : Nat → Nat → Int32) (lg : Nat → Nat → Int64) (x : Int32) (nm : Int32) (z : Int32) (re : Int32) (n : Int32) (a : Int32) (b : Int32) (f : Int32) (hI : CI sg gm) (hvx : iv 0 7 x) (hvnm : iv 0 25 nm) (hvz : iv 0 1 z) (hvre : iv 0 7 re) (hvn : iv 0 3 n) : CMt dC dI ad cid a2 lx l yX2_addFactory wm_X2_addFactory ({ frames := 1, cells := 1, slots := 6, locals := 24 }) [eV (ad 7) x, .int nm, .int z, .int re, .int n, .int a, .int b, .int f] sg gm lg (fun v u => ∃ r : Int32, v = some (.int r) ∧ ∃ (sg2 : Nat → Int32) (gm2 : Nat → Nat → Int32) (lg2 : Nat → Nat → Int64), u = (sg2, gm2, lg2) ∧ CI sg2 gm2 ∧ KS [] sg sg2 ∧ KS [1, 7, 8, 9, 10, 54] gm gm2 ∧ KS [] lg lg2 ∧ (iv 0 1 r)) (fun _ _ => False) := by
  intro sz
  refine vx_ofW (cc := cX2_addFactory) (maxL := 8) (ret := (some .boolean)) (by decide) rfl ?_
  intro p e s m args below meth c s₁ B hml hxt hv
  obtain ⟨rfl, hsz, hP, hK, hD0, hG⟩ := hv
  have hx := B.exec
  have hb := B.bytes
  have hr := B.returns
  have hts := atoms_spec (ws := wm_X2_addFactory) B.pre
  have htb := fun (w : Cond) (h : w ∈ tb) => hts w (List.mem_cons_of_mem _ h)
  have hown : s.vm.findClass RX2 = some m.cls := findClass_of_methodNamed B.named
  have hlocks := B.notSynchronized
  subst hsz
  have hD := hD0.self (sz := s.heap.size)
  generalize hAe : va_A (cW ad cid a2 lx sg gm lg) s.heap.size = A at hD hG ⊢
  have hA : ∀ q : Nat, s.heap.size ≤ q → A q := fun q h => by rw [← hAe]; exact Or.inr h
  have hS : va_S A s.heap s.heap [] := va_S.rf
  have hl := lv_entry ([eV (ad 7) x, .int nm, .int z, .int re, .int n, .int a, .int b, .int f]) (n := 8) (by rw [show (lg_sl ([eV (ad 7) x, .int nm, .int z, .int re, .int n, .int a, .int b, .int f])).length = 8 from by simp [lg_sl, eV_cat, cat_i, cat_l]]; exact Nat.le_of_ble_eq_true rfl)
  rw [lg_entry_eq]
  generalize (lg_sl ([eV (ad 7) x, .int nm, .int z, .int re, .int n, .int a, .int b, .int f]) ++ List.replicate (8 - (lg_sl ([eV (ad 7) x, .int nm, .int z, .int re, .int n, .int a, .int b, .int f])).length) Slot.unset).toArray = ls at hl ⊢
  have hl : lv_has ls 8 [(0, eV (ad 7) x), (1, .int nm), (2, .int z), (3, .int re), (4, .int n), (5, .int a), (6, .int b), (7, .int f)] := by simp [lv_args, eV_cat, cat_i, cat_l] at hl; exact hl
  refine ec_aload_n hx hb dX2_addFactory_0 rfl (lv_at hl 0 rfl) ?_
  refine cr_get (t := 7) (j := 3) (C := RX2) (T := TX2) (N := 8) (v := .int (gm 1 x.toNatClampNeg)) hx hb htb inX2 hown hK hP hvx (by decide) (by decide) (by decide) rfl (by decide) (htb _ kw_234) rfl dX2_addFactory_1 ?_
  obtain ⟨z_1, ez_1⟩ : ∃ z : Int32, z = (gm 1 x.toNatClampNeg) := ⟨_, rfl⟩
  refine W.eq (g2 := F0 m 4 ls [.int z_1]) (by rw [ez_1]) ?_
  have hz_1 : iv 0 4 z_1 := iv_of ez_1 (CI_a hI 1 hvx (by decide))
  refine lv_iconst (v := 4) hx hb dX2_addFactory_4 (by decide) ?_
  refine lv_icmp_lt (tgt := 10) hx hb dX2_addFactory_5 (by decide) (fun c_2 => ?_) (fun c_2 => ?_)
  · have h_3 : iv 0 3 z_1 := iv_ltL c_2 hz_1 (iv_k (by decide) : iv 4 4 4) (by decide)
    refine ec_aload_n hx hb dX2_addFactory_10 rfl (lv_at hl 0 rfl) ?_
    refine cr_get (t := 7) (j := 1) (C := RX2) (T := TX2) (N := 8) (v := eV (ad 29) x) hx hb htb inX2 hown hK hP hvx (by decide) (by decide) (by decide) rfl (by decide) (htb _ kw_49) (cV_c rfl (hvx).1 (by rw [show cMu 7 1 = 1 from rfl, Nat.one_mul]; rfl)) dX2_addFactory_11 ?_
    refine ec_aload_n hx hb dX2_addFactory_14 rfl (lv_at hl 0 rfl) ?_
    refine cr_get (t := 7) (j := 3) (C := RX2) (T := TX2) (N := 8) (v := .int (gm 1 x.toNatClampNeg)) hx hb htb inX2 hown hK hP hvx (by decide) (by decide) (by decide) rfl (by decide) (htb _ kw_234) rfl dX2_addFactory_15 ?_
    refine W.eq (g2 := F0 m 18 ls [.int z_1, eV (ad 29) x]) (by rw [show (gm 1 x.toNatClampNeg) = z_1 from ez_1.symm]) ?_
    obtain ⟨q_4, hq_4, nq_4, tq_4⟩ := ix_mk (8 * x.toNatClampNeg + 4 + (z_1 : Int32).toNatClampNeg) 63 (by have q1 := iv_cl hvx (by decide); have q2 := (hvx).2; have q3 := iv_cl h_3 (by decide); have q4 := (h_3).2; omega) (by decide)
    refine cr_aald (t := 29) (C := RX8) (v := eV (ad 8) q_4) hx hb hK hP hvx (by decide) (by decide) (by decide) (by decide) (by decide) rfl (show vp_in z_1 (cLen 29) from (show vp_in z_1 4 from (iv_in h_3 (by decide)))) (cAr_c (by decide) hq_4.1 nq_4) dX2_addFactory_18 ?_
    refine lv_iload_n hx hb dX2_addFactory_19 rfl (lv_at hl 1 rfl) ?_
    refine lv_iload_n hx hb dX2_addFactory_20 rfl (lv_at hl 2 rfl) ?_
    refine lv_iload_n hx hb dX2_addFactory_21 rfl (lv_at hl 3 rfl) ?_
    refine cm_callV (t := 8) (C := RX8) (T := TX8) (N := 7) (rest := []) (as := [.int nm, .int z, .int re]) ⟨hx, hb, hml, hown, htb⟩ (d_describe l dC dI ad cid a2 lx sg gm lg q_4 nm z re hI hq_4 (iv_w hvnm (by decide)) hvz hvre) (cwV 3 htb (gd_V kw_252 kw_253 kw_254 kw_51 kw_1393) rfl rfl rfl (by decide +kernel) ⟨Nat.le_of_ble_eq_true rfl, Nat.le_of_ble_eq_true rfl⟩) hq_4 (by decide) (by decide) rfl rfl hl.1 rfl (Nat.le_trans cs_n (by decide)) dX2_addFactory_22 ⟨Nat.le_of_ble_eq_true rfl, Nat.le_of_ble_eq_true rfl⟩ hK hP hD hS hA hG (fun E ce q9 u_6 H locs hw hP hD hS hce hcv hcl => ?_) (fun v9 u_6 H locs hw hP hD hS => ?_)
    · exact hw.elim
    obtain ⟨rfl, sgv_7, gmv_7, lgv_7, rfl, hIv_7, ksv_7, kgv_7, klv_7⟩ := hw
    obtain rfl := KS_nil ksv_7
    obtain rfl := KS_nil klv_7
    have hP : va_P (dC, dI) vwCl (cW ad cid a2 lx sg gmv_7 lg) H := hP
    have hD : va_D A (cW ad cid a2 lx sg gmv_7 lg) := hD
    refine W.eq (g2 := F0 m 25 ls []) rfl ?_
    refine ec_aload_n hx hb dX2_addFactory_25 rfl (lv_at hl 0 rfl) ?_
    refine cr_get (t := 7) (j := 1) (C := RX2) (T := TX2) (N := 8) (v := eV (ad 29) x) hx hb htb inX2 hown hK hP hvx (by decide) (by decide) (by decide) rfl (by decide) (htb _ kw_49) (cV_c rfl (hvx).1 (by rw [show cMu 7 1 = 1 from rfl, Nat.one_mul]; rfl)) dX2_addFactory_26 ?_
    refine ec_aload_n hx hb dX2_addFactory_29 rfl (lv_at hl 0 rfl) ?_
    refine cr_get (t := 7) (j := 3) (C := RX2) (T := TX2) (N := 8) (v := .int (gmv_7 1 x.toNatClampNeg)) hx hb htb inX2 hown hK hP hvx (by decide) (by decide) (by decide) rfl (by decide) (htb _ kw_234) rfl dX2_addFactory_30 ?_
    refine W.eq (g2 := F0 m 33 ls [.int z_1, eV (ad 29) x]) (by rw [show (gmv_7 1 x.toNatClampNeg) = z_1 from (Eq.trans (congrFun (kgv_7 1 (by decide)) _) ez_1.symm)]) ?_
    refine cr_aald (t := 29) (C := RX8) (v := eV (ad 8) q_4) hx hb hK hP hvx (by decide) (by decide) (by decide) (by decide) (by decide) rfl (show vp_in z_1 (cLen 29) from (show vp_in z_1 4 from (iv_in h_3 (by decide)))) (cAr_c (by decide) hq_4.1 nq_4) dX2_addFactory_33 ?_
    refine lv_iload hx hb dX2_addFactory_34 (lv_at hl 4 rfl) ?_
    refine lv_iload hx hb dX2_addFactory_36 (lv_at hl 5 rfl) ?_
    refine lv_iload hx hb dX2_addFactory_38 (lv_at hl 6 rfl) ?_
    refine lv_iload hx hb dX2_addFactory_40 (lv_at hl 7 rfl) ?_
    refine cm_callV (t := 8) (C := RX8) (T := TX8) (N := 7) (rest := []) (as := [.int n, .int a, .int b, .int f]) ⟨hx, hb, hml, hown, htb⟩ (d_setTypes l dC dI ad cid a2 lx sg gmv_7 lg q_4 n a b f hIv_7 hq_4 hvn) (cwV 4 htb (gd_V kw_258 kw_259 kw_260 kw_51 kw_1394) rfl rfl rfl (by decide +kernel) ⟨Nat.le_of_ble_eq_true rfl, Nat.le_of_ble_eq_true rfl⟩) hq_4 (by decide) (by decide) rfl rfl hl.1 rfl (Nat.le_trans cs_n (by decide)) dX2_addFactory_42 ⟨Nat.le_of_ble_eq_true rfl, Nat.le_of_ble_eq_true rfl⟩ hK hP hD hS hA hG (fun E ce q9 u_9 H locs hw hP hD hS hce hcv hcl => ?_) (fun v9 u_9 H locs hw hP hD hS => ?_)
    · exact hw.elim
    obtain ⟨rfl, sgv_10, gmv_10, lgv_10, rfl, hIv_10, ksv_10, kgv_10, klv_10⟩ := hw
    obtain rfl := KS_nil ksv_10
    obtain rfl := KS_nil klv_10
    have hP : va_P (dC, dI) vwCl (cW ad cid a2 lx sg gmv_10 lg) H := hP
    have hD : va_D A (cW ad cid a2 lx sg gmv_10 lg) := hD
    refine W.eq (g2 := F0 m 45 ls []) rfl ?_
    refine ec_aload_n hx hb dX2_addFactory_45 rfl (lv_at hl 0 rfl) ?_
    refine lv_dup hx hb dX2_addFactory_46 (eV_cat _ _) ?_
    refine cr_get (t := 7) (j := 3) (C := RX2) (T := TX2) (N := 8) (v := .int (gmv_10 1 x.toNatClampNeg)) hx hb htb inX2 hown hK hP hvx (by decide) (by decide) (by decide) rfl (by decide) (htb _ kw_234) rfl dX2_addFactory_47 ?_
    refine W.eq (g2 := F0 m 50 ls [.int z_1, eV (ad 7) x]) (by rw [show (gmv_10 1 x.toNatClampNeg) = z_1 from (Eq.trans (congrFun (Eq.trans (kgv_10 1 (by decide)) (kgv_7 1 (by decide))) _) ez_1.symm)]) ?_
    refine lv_iconst (v := 1) hx hb dX2_addFactory_50 (by decide) ?_
    refine lv_iadd hx hb dX2_addFactory_51 ?_
    refine lv_topi (fun z_11 ez_11 => ?_)
    have hz_11 : iv 1 4 z_11 := iv_of ez_11 (iv_add h_3 (iv_k (by decide) : iv 1 1 1) (by decide))
    have tz_11 : z_11.toInt = (z_1 : Int32).toInt + 1 := by rw [ez_11]; exact iv_addE h_3 (iv_k (by decide) : iv 1 1 1) (by decide)
    refine cr_putg (t := 7) (j := 3) (C := RX2) (T := TX2) (N := 8) (ty0 := tyX2) (k := 1) (y := z_11) hx hb htb inX2 tyX2_ok nmX2 hown hK hP hD hS hvx (by decide) (by decide) (by decide) (by decide) rfl rfl (by decide) (htb _ kw_234) rfl (by show Value.int z_11 = Value.int (va_up gmv_10 1 (upd (gmv_10 1) x.toNatClampNeg z_11) 1 x.toNatClampNeg); rw [va_up_self, upd_at]) rfl rfl dX2_addFactory_52 (fun gm_12 H locs egm_12 hP hD hS => ?_)
    have hI_gm_12 := CI_st hIv_10 egm_12 hz_11 (by decide)
    refine lv_iconst (v := 1) hx hb dX2_addFactory_55 (by decide) ?_
    exact W.nb (fun hN => W.widen (k := 1) (n := 6) (by decide) (by decide) (vx_ret (W.zret (v := 1) hx hb hr (iv_nb (iv_w (iv_k (by decide) : iv 1 1 1) (by decide))) (fun t ht hW => ⟨⟨some (.int 1), (sg, gm_12, lg), rfl, ⟨1, rfl, sg, gm_12, lg, rfl, hI_gm_12, KS_rf, (KS_up (KS_tr (L := [1, 7, 8, 9, 10, 54]) (KS_tr (L := [1, 7, 8, 9, 10, 54]) KS_rf kgv_7 (by decide)) kgv_10 (by decide)) egm_12 (by decide)), KS_rf, (iv_w (iv_k (by decide) : iv 1 1 1) (by decide))⟩, by rw [ht]; exact hP, va_K.moved hW.alike hK, hD⟩, hS.F ht, by rw [ht]; exact hN⟩) hS.2.2 dX2_addFactory_56)))
  · have h_13 : iv 4 4 z_1 := iv_leR (i32_ge c_2) (iv_k (by decide) : iv 4 4 4) hz_1 (by decide)
    refine lv_iconst (v := 0) hx hb dX2_addFactory_8 (by decide) ?_
    exact W.nb (fun hN => W.widen (k := 1) (n := 6) (by decide) (by decide) (vx_ret (W.zret (v := 0) hx hb hr (iv_nb (iv_w (iv_k (by decide) : iv 0 0 0) (by decide))) (fun t ht hW => ⟨⟨some (.int 0), (sg, gm, lg), rfl, ⟨0, rfl, sg, gm, lg, rfl, hI, KS_rf, KS_rf, KS_rf, (iv_w (iv_k (by decide) : iv 0 0 0) (by decide))⟩, by rw [ht]; exact hP, va_K.moved hW.alike hK, hD⟩, hS.F ht, by rw [ht]; exact hN⟩) hS.2.2 dX2_addFactory_9)))

set_option maxHeartbeats 4000000 in
set_option maxRecDepth 100000 in
theorem d_addSetter (l : Launch) (dC : Nat → ClassId) (dI : Nat → Nat → Nat) (ad : Nat → Nat → Nat) (cid : Nat → ClassId) (a2 : Nat → Nat) (lx : List Nat) (sg : Nat → Int32) (gm : Nat → Nat → Int32) (lg : Nat → Nat → Int64) (x : Int32) (nm : Int32) (k : Int32) (hI : CI sg gm) (hvx : iv 0 7 x) (hvnm : iv 0 25 nm) (hvk : iv 0 15 k) : CMt dC dI ad cid a2 lx l yX2_addSetter wm_X2_addSetter ({ frames := 0, cells := 1, slots := 6, locals := 0 }) [eV (ad 7) x, .int nm, .int k] sg gm lg (fun v u => ∃ r : Int32, v = some (.int r) ∧ ∃ (sg2 : Nat → Int32) (gm2 : Nat → Nat → Int32) (lg2 : Nat → Nat → Int64), u = (sg2, gm2, lg2) ∧ CI sg2 gm2 ∧ KS [] sg sg2 ∧ KS [3, 55] gm gm2 ∧ KS [] lg lg2 ∧ (iv 0 1 r)) (fun _ _ => False) := by
  intro sz
  refine vx_ofW (cc := cX2_addSetter) (maxL := 3) (ret := (some .boolean)) (by decide) rfl ?_
  intro p e s m args below meth c s₁ B hml hxt hv
  obtain ⟨rfl, hsz, hP, hK, hD0, hG⟩ := hv
  have hx := B.exec
  have hb := B.bytes
  have hr := B.returns
  have hts := atoms_spec (ws := wm_X2_addSetter) B.pre
  have htb := fun (w : Cond) (h : w ∈ tb) => hts w (List.mem_cons_of_mem _ h)
  have hown : s.vm.findClass RX2 = some m.cls := findClass_of_methodNamed B.named
  have hlocks := B.notSynchronized
  subst hsz
  have hD := hD0.self (sz := s.heap.size)
  generalize hAe : va_A (cW ad cid a2 lx sg gm lg) s.heap.size = A at hD hG ⊢
  have hA : ∀ q : Nat, s.heap.size ≤ q → A q := fun q h => by rw [← hAe]; exact Or.inr h
  have hS : va_S A s.heap s.heap [] := va_S.rf
  have hl := lv_entry ([eV (ad 7) x, .int nm, .int k]) (n := 3) (by rw [show (lg_sl ([eV (ad 7) x, .int nm, .int k])).length = 3 from by simp [lg_sl, eV_cat, cat_i, cat_l]]; exact Nat.le_of_ble_eq_true rfl)
  rw [lg_entry_eq]
  generalize (lg_sl ([eV (ad 7) x, .int nm, .int k]) ++ List.replicate (3 - (lg_sl ([eV (ad 7) x, .int nm, .int k])).length) Slot.unset).toArray = ls at hl ⊢
  have hl : lv_has ls 3 [(0, eV (ad 7) x), (1, .int nm), (2, .int k)] := by simp [lv_args, eV_cat, cat_i, cat_l] at hl; exact hl
  have hj19 : ∀ (_ : iv 0 7 x) (_ : iv 0 25 nm) (_ : iv 0 15 k) (H : Heap) (locs : List Loc) (ls : Array Slot), va_P (dC, dI) vwCl (cW ad cid a2 lx sg gm lg) H → va_D A (cW ad cid a2 lx sg gm lg) → va_S A s.heap H locs → lv_has ls 3 [(0, eV (ad 7) x), (1, .int nm), (2, .int k)] → W p l e (headSpec wm_X2_addSetter ({ frames := 0, cells := 1, slots := 6, locals := 0 })).room s m ([eV (ad 7) x, .int nm, .int k] : List Value).toArray below meth c H locs 0 0 (vx_MQ below (cQx dC dI ad cid a2 lx (fun v u => ∃ r : Int32, v = some (.int r) ∧ ∃ (sg2 : Nat → Int32) (gm2 : Nat → Nat → Int32) (lg2 : Nat → Nat → Int64), u = (sg2, gm2, lg2) ∧ CI sg2 gm2 ∧ KS [] sg sg2 ∧ KS [3, 55] gm gm2 ∧ KS [] lg lg2 ∧ (iv 0 1 r)) A) (cX dC dI ad cid a2 lx (fun _ _ => False) A) ([eV (ad 7) x, .int nm, .int k] : List Value).toArray s 1 6 A) (F0 m 19 ls []) := by
    intro  hsx0_19 hsx1_19 hsx2_19 H locs ls hP hD hS hl
    refine lv_iconst (v := 0) hx hb dX2_addSetter_19 (by decide) ?_
    exact W.nb (fun hN => W.widen (k := 1) (n := 6) (by decide) (by decide) (vx_ret (W.zret (v := 0) hx hb hr (iv_nb (iv_w (iv_k (by decide) : iv 0 0 0) (by decide))) (fun t ht hW => ⟨⟨some (.int 0), (sg, gm, lg), rfl, ⟨0, rfl, sg, gm, lg, rfl, hI, KS_rf, KS_rf, KS_rf, (iv_w (iv_k (by decide) : iv 0 0 0) (by decide))⟩, by rw [ht]; exact hP, va_K.moved hW.alike hK, hD⟩, hS.F ht, by rw [ht]; exact hN⟩) hS.2.2 dX2_addSetter_20)))
  refine ec_aload_n hx hb dX2_addSetter_0 rfl (lv_at hl 0 rfl) ?_
  refine cr_get (t := 7) (j := 6) (C := RX2) (T := TX2) (N := 8) (v := .int (gm 3 x.toNatClampNeg)) hx hb htb inX2 hown hK hP hvx (by decide) (by decide) (by decide) rfl (by decide) (htb _ kw_235) rfl dX2_addSetter_1 ?_
  obtain ⟨z_1, ez_1⟩ : ∃ z : Int32, z = (gm 3 x.toNatClampNeg) := ⟨_, rfl⟩
  refine W.eq (g2 := F0 m 4 ls [.int z_1]) (by rw [ez_1]) ?_
  have hz_1 : iv 0 8 z_1 := iv_of ez_1 (CI_a hI 3 hvx (by decide))
  refine lv_bipush (v := 8) hx hb dX2_addSetter_4 (by decide) ?_
  refine lv_icmp_ge (tgt := 19) hx hb dX2_addSetter_6 (by decide) (fun c_2 => ?_) (fun c_2 => ?_)
  · have h_3 : iv 8 8 z_1 := iv_leR c_2 (iv_k (by decide) : iv 8 8 8) hz_1 (by decide)
    exact hj19 hvx hvnm hvk _ _ _ hP hD hS (lv_sub hl [0, 1, 2] rfl)
  · have h_4 : iv 0 7 z_1 := iv_ltL (i32_lt c_2) hz_1 (iv_k (by decide) : iv 8 8 8) (by decide)
    refine ec_aload_n hx hb dX2_addSetter_9 rfl (lv_at hl 0 rfl) ?_
    refine cr_get (t := 7) (j := 5) (C := RX2) (T := TX2) (N := 8) (v := eV (ad 30) x) hx hb htb inX2 hown hK hP hvx (by decide) (by decide) (by decide) rfl (by decide) (htb _ kw_53) (cV_c rfl (hvx).1 (by rw [show cMu 7 5 = 1 from rfl, Nat.one_mul]; rfl)) dX2_addSetter_10 ?_
    refine lv_iload_n hx hb dX2_addSetter_13 rfl (lv_at hl 1 rfl) ?_
    refine cr_iald (t := 30) (z := (gm 55 (26 * x.toNatClampNeg + (nm : Int32).toNatClampNeg))) hx hb hK hP hvx (by decide) (by decide) (by decide) rfl rfl (show vp_in nm (cLen 30) from (show vp_in nm 26 from (iv_in hvnm (by decide)))) (cAi_w rfl (by decide) rfl (vin_lt (show vp_in nm (cLen 30) from (show vp_in nm 26 from (iv_in hvnm (by decide)))))) dX2_addSetter_14 ?_
    obtain ⟨z_5, ez_5⟩ : ∃ z : Int32, z = (gm 55 (26 * x.toNatClampNeg + (nm : Int32).toNatClampNeg)) := ⟨_, rfl⟩
    refine W.eq (g2 := F0 m 15 ls [.int z_5]) (by rw [ez_5]) ?_
    have hz_5 : iv (-1) 15 z_5 := iv_of ez_5 (CI_n hI 55 (show _ < crLen 55 from vin_w (show vp_in nm (cLen 30) from (show vp_in nm 26 from (iv_in hvnm (by decide)))) (hvx) (by decide)))
    refine lv_iconst (v := (-1)) hx hb dX2_addSetter_15 (by decide) ?_
    refine lv_icmp_eq (tgt := 21) hx hb dX2_addSetter_16 (by decide) (fun c_6 => ?_) (fun c_6 => ?_)
    · have h_7 : iv (-1) (-1) z_5 := iv_eq c_6 hz_5 (iv_k (by decide) : iv (-1) (-1) (-1)) (by decide)
      refine ec_aload_n hx hb dX2_addSetter_21 rfl (lv_at hl 0 rfl) ?_
      refine cr_get (t := 7) (j := 5) (C := RX2) (T := TX2) (N := 8) (v := eV (ad 30) x) hx hb htb inX2 hown hK hP hvx (by decide) (by decide) (by decide) rfl (by decide) (htb _ kw_53) (cV_c rfl (hvx).1 (by rw [show cMu 7 5 = 1 from rfl, Nat.one_mul]; rfl)) dX2_addSetter_22 ?_
      refine lv_iload_n hx hb dX2_addSetter_25 rfl (lv_at hl 1 rfl) ?_
      refine lv_iload_n hx hb dX2_addSetter_26 rfl (lv_at hl 2 rfl) ?_
      refine cr_iast (t := 30) (k := 55) (n9 := (26 * x.toNatClampNeg + (nm : Int32).toNatClampNeg)) (z := k) hx hb hK hP hD hS hvx (by decide) (by decide) (by decide) rfl rfl rfl (show vp_in nm (cLen 30) from (show vp_in nm 26 from (iv_in hvnm (by decide)))) (Or.inr (vin_lt (show vp_in nm (cLen 30) from (show vp_in nm 26 from (iv_in hvnm (by decide)))))) rfl dX2_addSetter_27 (fun gm_8 H locs egm_8 hP hD hS => ?_)
      have hI_gm_8 := CI_st hI egm_8 hvk (by decide)
      refine ec_aload_n hx hb dX2_addSetter_28 rfl (lv_at hl 0 rfl) ?_
      refine lv_dup hx hb dX2_addSetter_29 (eV_cat _ _) ?_
      refine cr_get (t := 7) (j := 6) (C := RX2) (T := TX2) (N := 8) (v := .int (gm_8 3 x.toNatClampNeg)) hx hb htb inX2 hown hK hP hvx (by decide) (by decide) (by decide) rfl (by decide) (htb _ kw_235) rfl dX2_addSetter_30 ?_
      refine W.eq (g2 := F0 m 33 ls [.int z_1, eV (ad 7) x]) (by rw [show (gm_8 3 x.toNatClampNeg) = z_1 from (Eq.trans (congrFun (up_ne egm_8 (by decide)) _) ez_1.symm)]) ?_
      refine lv_iconst (v := 1) hx hb dX2_addSetter_33 (by decide) ?_
      refine lv_iadd hx hb dX2_addSetter_34 ?_
      refine lv_topi (fun z_9 ez_9 => ?_)
      have hz_9 : iv 1 8 z_9 := iv_of ez_9 (iv_add h_4 (iv_k (by decide) : iv 1 1 1) (by decide))
      have tz_9 : z_9.toInt = (z_1 : Int32).toInt + 1 := by rw [ez_9]; exact iv_addE h_4 (iv_k (by decide) : iv 1 1 1) (by decide)
      refine cr_putg (t := 7) (j := 6) (C := RX2) (T := TX2) (N := 8) (ty0 := tyX2) (k := 3) (y := z_9) hx hb htb inX2 tyX2_ok nmX2 hown hK hP hD hS hvx (by decide) (by decide) (by decide) (by decide) rfl rfl (by decide) (htb _ kw_235) rfl (by show Value.int z_9 = Value.int (va_up gm_8 3 (upd (gm_8 3) x.toNatClampNeg z_9) 3 x.toNatClampNeg); rw [va_up_self, upd_at]) rfl rfl dX2_addSetter_35 (fun gm_10 H locs egm_10 hP hD hS => ?_)
      have hI_gm_10 := CI_st hI_gm_8 egm_10 hz_9 (by decide)
      refine lv_iconst (v := 1) hx hb dX2_addSetter_38 (by decide) ?_
      exact W.nb (fun hN => W.widen (k := 1) (n := 6) (by decide) (by decide) (vx_ret (W.zret (v := 1) hx hb hr (iv_nb (iv_w (iv_k (by decide) : iv 1 1 1) (by decide))) (fun t ht hW => ⟨⟨some (.int 1), (sg, gm_10, lg), rfl, ⟨1, rfl, sg, gm_10, lg, rfl, hI_gm_10, KS_rf, (KS_up (KS_up KS_rf egm_8 (by decide)) egm_10 (by decide)), KS_rf, (iv_w (iv_k (by decide) : iv 1 1 1) (by decide))⟩, by rw [ht]; exact hP, va_K.moved hW.alike hK, hD⟩, hS.F ht, by rw [ht]; exact hN⟩) hS.2.2 dX2_addSetter_39)))
    · have h_11 : iv 0 15 z_5 := iv_neL c_6 hz_5 (by decide)
      exact hj19 hvx hvnm hvk _ _ _ hP hD hS (lv_sub hl [0, 1, 2] rfl)

set_option maxHeartbeats 4000000 in
set_option maxRecDepth 100000 in
theorem d_setterType (l : Launch) (dC : Nat → ClassId) (dI : Nat → Nat → Nat) (ad : Nat → Nat → Nat) (cid : Nat → ClassId) (a2 : Nat → Nat) (lx : List Nat) (sg : Nat → Int32) (gm : Nat → Nat → Int32) (lg : Nat → Nat → Int64) (x : Int32) (nm : Int32) (hI : CI sg gm) (hvx : iv 0 7 x) (hvnm : iv 0 25 nm) : CMt dC dI ad cid a2 lx l yX2_setterType wm_X2_setterType ({ frames := 0, cells := 1, slots := 6, locals := 0 }) [eV (ad 7) x, .int nm] sg gm lg (fun v u => ∃ r : Int32, v = some (.int r) ∧ u = (sg, gm, lg) ∧ (iv (-1) 15 r)) (fun _ _ => False) := by
  intro sz
  refine vx_ofW (cc := cX2_setterType) (maxL := 4) (ret := (some .int)) (by decide) rfl ?_
  intro p e s m args below meth c s₁ B hml hxt hv
  obtain ⟨rfl, hsz, hP, hK, hD0, hG⟩ := hv
  have hx := B.exec
  have hb := B.bytes
  have hr := B.returns
  have hts := atoms_spec (ws := wm_X2_setterType) B.pre
  have htb := fun (w : Cond) (h : w ∈ tb) => hts w (List.mem_cons_of_mem _ h)
  have hown : s.vm.findClass RX2 = some m.cls := findClass_of_methodNamed B.named
  have hlocks := B.notSynchronized
  subst hsz
  have hD := hD0.self (sz := s.heap.size)
  generalize hAe : va_A (cW ad cid a2 lx sg gm lg) s.heap.size = A at hD hG ⊢
  have hA : ∀ q : Nat, s.heap.size ≤ q → A q := fun q h => by rw [← hAe]; exact Or.inr h
  have hS : va_S A s.heap s.heap [] := va_S.rf
  have hl := lv_entry ([eV (ad 7) x, .int nm]) (n := 4) (by rw [show (lg_sl ([eV (ad 7) x, .int nm])).length = 2 from by simp [lg_sl, eV_cat, cat_i, cat_l]]; exact Nat.le_of_ble_eq_true rfl)
  rw [lg_entry_eq]
  generalize (lg_sl ([eV (ad 7) x, .int nm]) ++ List.replicate (4 - (lg_sl ([eV (ad 7) x, .int nm])).length) Slot.unset).toArray = ls at hl ⊢
  have hl : lv_has ls 4 [(0, eV (ad 7) x), (1, .int nm)] := by simp [lv_args, eV_cat, cat_i, cat_l] at hl; exact hl
  have hj42 : ∀ (x3_42 : Int32) (x2_42 : Int32) (_ : iv 0 8 x3_42) (_ : iv (-1) 7 x2_42) (_ : iv 0 7 x) (_ : iv 0 25 nm) (H : Heap) (locs : List Loc) (ls : Array Slot), va_P (dC, dI) vwCl (cW ad cid a2 lx sg gm lg) H → va_D A (cW ad cid a2 lx sg gm lg) → va_S A s.heap H locs → lv_has ls 4 [(3, .int x3_42), (2, eV (ad 7) x2_42), (0, eV (ad 7) x), (1, .int nm)] → W p l e (headSpec wm_X2_setterType ({ frames := 0, cells := 1, slots := 6, locals := 0 })).room s m ([eV (ad 7) x, .int nm] : List Value).toArray below meth c H locs 0 0 (vx_MQ below (cQx dC dI ad cid a2 lx (fun v u => ∃ r : Int32, v = some (.int r) ∧ u = (sg, gm, lg) ∧ (iv (-1) 15 r)) A) (cX dC dI ad cid a2 lx (fun _ _ => False) A) ([eV (ad 7) x, .int nm] : List Value).toArray s 1 6 A) (F0 m 42 ls []) := by
    intro x3_42 x2_42 hx3_42 hx2_42 hsx0_42 hsx1_42 H locs ls hP hD hS hl
    refine lv_iconst (v := (-1)) hx hb dX2_setterType_42 (by decide) ?_
    exact W.nb (fun hN => W.widen (k := 1) (n := 6) (by decide) (by decide) (vx_ret (W.iret (v := (-1)) hx hb hr (fun t ht hW => ⟨⟨some (.int (-1)), (sg, gm, lg), rfl, ⟨(-1), rfl, rfl, (iv_w (iv_k (by decide) : iv (-1) (-1) (-1)) (by decide))⟩, by rw [ht]; exact hP, va_K.moved hW.alike hK, hD⟩, hS.F ht, by rw [ht]; exact hN⟩) hS.2.2 dX2_setterType_43)))
  have hj4 : ∀ (n : Nat) (x3_4 : Int32) (x2_4 : Int32) (_ : (8 - x3_4.toInt).toNat = n) (_ : iv 0 8 x3_4) (_ : iv (-1) 7 x2_4) (_ : iv 0 7 x) (_ : iv 0 25 nm) (H : Heap) (locs : List Loc) (ls : Array Slot), va_P (dC, dI) vwCl (cW ad cid a2 lx sg gm lg) H → va_D A (cW ad cid a2 lx sg gm lg) → va_S A s.heap H locs → lv_has ls 4 [(3, .int x3_4), (2, eV (ad 7) x2_4), (0, eV (ad 7) x), (1, .int nm)] → W p l e (headSpec wm_X2_setterType ({ frames := 0, cells := 1, slots := 6, locals := 0 })).room s m ([eV (ad 7) x, .int nm] : List Value).toArray below meth c H locs 0 0 (vx_MQ below (cQx dC dI ad cid a2 lx (fun v u => ∃ r : Int32, v = some (.int r) ∧ u = (sg, gm, lg) ∧ (iv (-1) 15 r)) A) (cX dC dI ad cid a2 lx (fun _ _ => False) A) ([eV (ad 7) x, .int nm] : List Value).toArray s 1 6 A) (F0 m 4 ls []) := by
    intro n
    induction n using Nat.strongRecOn with
    | ind n ih4 =>
      intro x3_4 x2_4 hn4 hx3_4 hx2_4 hsx0_4 hsx1_4 H locs ls hP hD hS hl
      refine lv_iload_n hx hb dX2_setterType_4 rfl (lv_at hl 0 rfl) ?_
      refine lv_bipush (v := 8) hx hb dX2_setterType_5 (by decide) ?_
      refine lv_icmp_ge (tgt := 42) hx hb dX2_setterType_7 (by decide) (fun c_1 => ?_) (fun c_1 => ?_)
      · have h_2 : iv 8 8 x3_4 := iv_leR c_1 (iv_k (by decide) : iv 8 8 8) hx3_4 (by decide)
        exact hj42 x3_4 x2_4 (iv_w h_2 (by decide)) hx2_4 hsx0_4 hsx1_4 _ _ _ hP hD hS (lv_sub hl [0, 1, 2, 3] rfl)
      · have h_3 : iv 0 7 x3_4 := iv_ltL (i32_lt c_1) hx3_4 (iv_k (by decide) : iv 8 8 8) (by decide)
        refine ec_aload_n hx hb dX2_setterType_10 rfl (lv_at hl 1 rfl) ?_
        refine ec_ifnull (tgt := 42) hx hb dX2_setterType_11 (by decide) (fun c_4 => ?_) (fun c_4 => ?_)
        · have h_5 : iv (-1) (-1) x2_4 := ⟨(hx2_4).1, by omega⟩
          exact hj42 x3_4 x2_4 (iv_w h_3 (by decide)) (iv_w h_5 (by decide)) hsx0_4 hsx1_4 _ _ _ hP hD hS (lv_sub hl [0, 1, 2, 3] rfl)
        · have h_6 : iv 0 7 x2_4 := ⟨c_4, (hx2_4).2⟩
          refine ec_aload_n hx hb dX2_setterType_14 rfl (lv_at hl 1 rfl) ?_
          refine cr_get (t := 7) (j := 5) (C := RX2) (T := TX2) (N := 8) (v := eV (ad 30) x2_4) hx hb htb inX2 hown hK hP h_6 (by decide) (by decide) (by decide) rfl (by decide) (htb _ kw_53) (cV_c rfl (h_6).1 (by rw [show cMu 7 5 = 1 from rfl, Nat.one_mul]; rfl)) dX2_setterType_15 ?_
          refine lv_iload_n hx hb dX2_setterType_18 rfl (lv_at hl 3 rfl) ?_
          refine cr_iald (t := 30) (z := (gm 55 (26 * x2_4.toNatClampNeg + (nm : Int32).toNatClampNeg))) hx hb hK hP h_6 (by decide) (by decide) (by decide) rfl rfl (show vp_in nm (cLen 30) from (show vp_in nm 26 from (iv_in hsx1_4 (by decide)))) (cAi_w rfl (by decide) rfl (vin_lt (show vp_in nm (cLen 30) from (show vp_in nm 26 from (iv_in hsx1_4 (by decide)))))) dX2_setterType_19 ?_
          obtain ⟨z_7, ez_7⟩ : ∃ z : Int32, z = (gm 55 (26 * x2_4.toNatClampNeg + (nm : Int32).toNatClampNeg)) := ⟨_, rfl⟩
          refine W.eq (g2 := F0 m 20 ls [.int z_7]) (by rw [ez_7]) ?_
          have hz_7 : iv (-1) 15 z_7 := iv_of ez_7 (CI_n hI 55 (show _ < crLen 55 from vin_w (show vp_in nm (cLen 30) from (show vp_in nm 26 from (iv_in hsx1_4 (by decide)))) (h_6) (by decide)))
          refine lv_iconst (v := (-1)) hx hb dX2_setterType_20 (by decide) ?_
          refine lv_icmp_eq (tgt := 31) hx hb dX2_setterType_21 (by decide) (fun c_8 => ?_) (fun c_8 => ?_)
          · have h_9 : iv (-1) (-1) z_7 := iv_eq c_8 hz_7 (iv_k (by decide) : iv (-1) (-1) (-1)) (by decide)
            refine ec_aload_n hx hb dX2_setterType_31 rfl (lv_at hl 1 rfl) ?_
            refine cr_get (t := 7) (j := 7) (C := RX2) (T := TX2) (N := 8) (v := eV (ad 7) (gm 4 x2_4.toNatClampNeg)) hx hb htb inX2 hown hK hP h_6 (by decide) (by decide) (by decide) rfl (by decide) (htb _ kw_232) rfl dX2_setterType_32 ?_
            obtain ⟨z_10, ez_10⟩ : ∃ z : Int32, z = (gm 4 x2_4.toNatClampNeg) := ⟨_, rfl⟩
            refine W.eq (g2 := F0 m 35 ls [eV (ad 7) z_10]) (by rw [ez_10]) ?_
            have hz_10 : iv (-1) 7 z_10 := iv_of ez_10 (CI_a hI 4 h_6 (by decide))
            refine ec_astore_n (i := 2) (lv' := [(2, eV (ad 7) z_10), (3, .int x3_4), (0, eV (ad 7) x), (1, .int nm)]) hx hb dX2_setterType_35 rfl hl (by decide) rfl (fun ls hl => ?_)
            obtain ⟨z_11, ez_11⟩ : ∃ z : Int32, z = x3_4 + 1 := ⟨_, rfl⟩
            have hz_11 : iv 1 8 z_11 := iv_of ez_11 (iv_add h_3 (iv_k (by decide) : iv 1 1 1) (by decide))
            have tz_11 : z_11.toInt = x3_4.toInt + 1 := by rw [ez_11]; exact iv_addE h_3 (iv_k (by decide) : iv 1 1 1) (by decide)
            refine lv_iinc (v := z_11) (lv' := [(3, .int z_11), (2, eV (ad 7) z_10), (0, eV (ad 7) x), (1, .int nm)]) hx hb dX2_setterType_36 hl (k := 1) rfl ez_11.symm (by decide) (by simp [List.filter, eV_cat, cat_i, cat_l]) (fun ls hl => ?_)
            refine lv_goto (tgt := 4) hx hb dX2_setterType_39 (by decide) ?_
            exact ih4 _ (by rw [← hn4]; exact (iv_meas tz_11 h_3 (by decide))) z_11 z_10 rfl (iv_w hz_11 (by decide)) hz_10 hsx0_4 hsx1_4 _ _ _ hP hD hS (lv_sub hl [0, 1, 2, 3] rfl)
          · have h_12 : iv 0 15 z_7 := iv_neL c_8 hz_7 (by decide)
            refine ec_aload_n hx hb dX2_setterType_24 rfl (lv_at hl 1 rfl) ?_
            refine cr_get (t := 7) (j := 5) (C := RX2) (T := TX2) (N := 8) (v := eV (ad 30) x2_4) hx hb htb inX2 hown hK hP h_6 (by decide) (by decide) (by decide) rfl (by decide) (htb _ kw_53) (cV_c rfl (h_6).1 (by rw [show cMu 7 5 = 1 from rfl, Nat.one_mul]; rfl)) dX2_setterType_25 ?_
            refine lv_iload_n hx hb dX2_setterType_28 rfl (lv_at hl 3 rfl) ?_
            refine cr_iald (t := 30) (z := (gm 55 (26 * x2_4.toNatClampNeg + (nm : Int32).toNatClampNeg))) hx hb hK hP h_6 (by decide) (by decide) (by decide) rfl rfl (show vp_in nm (cLen 30) from (show vp_in nm 26 from (iv_in hsx1_4 (by decide)))) (cAi_w rfl (by decide) rfl (vin_lt (show vp_in nm (cLen 30) from (show vp_in nm 26 from (iv_in hsx1_4 (by decide)))))) dX2_setterType_29 ?_
            refine W.eq (g2 := F0 m 30 ls [.int z_7]) (by rw [show (gm 55 (26 * x2_4.toNatClampNeg + (nm : Int32).toNatClampNeg)) = z_7 from ez_7.symm]) ?_
            exact W.nb (fun hN => W.widen (k := 1) (n := 6) (by decide) (by decide) (vx_ret (W.iret (v := z_7) hx hb hr (fun t ht hW => ⟨⟨some (.int z_7), (sg, gm, lg), rfl, ⟨z_7, rfl, rfl, (iv_w h_12 (by decide))⟩, by rw [ht]; exact hP, va_K.moved hW.alike hK, hD⟩, hS.F ht, by rw [ht]; exact hN⟩) hS.2.2 dX2_setterType_30)))
  refine ec_aload_n hx hb dX2_setterType_0 rfl (lv_at hl 0 rfl) ?_
  refine ec_astore_n (i := 2) (lv' := [(2, eV (ad 7) x), (0, eV (ad 7) x), (1, .int nm)]) hx hb dX2_setterType_1 rfl hl (by decide) rfl (fun ls hl => ?_)
  refine lv_iconst (v := 0) hx hb dX2_setterType_2 (by decide) ?_
  refine lv_istore_n (i := 3) (lv' := [(3, .int 0), (2, eV (ad 7) x), (0, eV (ad 7) x), (1, .int nm)]) hx hb dX2_setterType_3 rfl hl (by decide) (by simp [List.filter, eV_cat, cat_i, cat_l]) (fun ls hl => ?_)
  exact hj4 _ 0 x rfl (iv_w (iv_k (by decide) : iv 0 0 0) (by decide)) (iv_w hvx (by decide)) hvx hvnm _ _ _ hP hD hS (lv_sub hl [0, 1, 2, 3] rfl)

set_option maxHeartbeats 4000000 in
set_option maxRecDepth 100000 in
theorem d_ownsFactory (l : Launch) (dC : Nat → ClassId) (dI : Nat → Nat → Nat) (ad : Nat → Nat → Nat) (cid : Nat → ClassId) (a2 : Nat → Nat) (lx : List Nat) (sg : Nat → Int32) (gm : Nat → Nat → Int32) (lg : Nat → Nat → Int64) (x : Int32) (nm : Int32) (z : Int32) (hI : CI sg gm) (hvx : iv 0 7 x) (hvz : iv 0 1 z) : CMt dC dI ad cid a2 lx l yX2_ownsFactory wm_X2_ownsFactory ({ frames := 1, cells := 1, slots := 6, locals := 22 }) [eV (ad 7) x, .int nm, .int z] sg gm lg (fun v u => ∃ r : Int32, v = some (.int r) ∧ u = (sg, gm, lg) ∧ (iv 0 1 r)) (fun _ _ => False) := by
  intro sz
  refine vx_ofW (cc := cX2_ownsFactory) (maxL := 4) (ret := (some .boolean)) (by decide) rfl ?_
  intro p e s m args below meth c s₁ B hml hxt hv
  obtain ⟨rfl, hsz, hP, hK, hD0, hG⟩ := hv
  have hx := B.exec
  have hb := B.bytes
  have hr := B.returns
  have hts := atoms_spec (ws := wm_X2_ownsFactory) B.pre
  have htb := fun (w : Cond) (h : w ∈ tb) => hts w (List.mem_cons_of_mem _ h)
  have hown : s.vm.findClass RX2 = some m.cls := findClass_of_methodNamed B.named
  have hlocks := B.notSynchronized
  subst hsz
  have hD := hD0.self (sz := s.heap.size)
  generalize hAe : va_A (cW ad cid a2 lx sg gm lg) s.heap.size = A at hD hG ⊢
  have hA : ∀ q : Nat, s.heap.size ≤ q → A q := fun q h => by rw [← hAe]; exact Or.inr h
  have hS : va_S A s.heap s.heap [] := va_S.rf
  have hl := lv_entry ([eV (ad 7) x, .int nm, .int z]) (n := 4) (by rw [show (lg_sl ([eV (ad 7) x, .int nm, .int z])).length = 3 from by simp [lg_sl, eV_cat, cat_i, cat_l]]; exact Nat.le_of_ble_eq_true rfl)
  rw [lg_entry_eq]
  generalize (lg_sl ([eV (ad 7) x, .int nm, .int z]) ++ List.replicate (4 - (lg_sl ([eV (ad 7) x, .int nm, .int z])).length) Slot.unset).toArray = ls at hl ⊢
  have hl : lv_has ls 4 [(0, eV (ad 7) x), (1, .int nm), (2, .int z)] := by simp [lv_args, eV_cat, cat_i, cat_l] at hl; exact hl
  have hj2 : ∀ (n : Nat) (x3_2 : Int32) (_ : (4 - x3_2.toInt).toNat = n) (_ : iv 0 4 x3_2) (_ : iv 0 7 x) (_ : iv 0 1 z) (H : Heap) (locs : List Loc) (ls : Array Slot), va_P (dC, dI) vwCl (cW ad cid a2 lx sg gm lg) H → va_D A (cW ad cid a2 lx sg gm lg) → va_S A s.heap H locs → lv_has ls 4 [(3, .int x3_2), (0, eV (ad 7) x), (1, .int nm), (2, .int z)] → W p l e (headSpec wm_X2_ownsFactory ({ frames := 1, cells := 1, slots := 6, locals := 22 })).room s m ([eV (ad 7) x, .int nm, .int z] : List Value).toArray below meth c H locs 0 0 (vx_MQ below (cQx dC dI ad cid a2 lx (fun v u => ∃ r : Int32, v = some (.int r) ∧ u = (sg, gm, lg) ∧ (iv 0 1 r)) A) (cX dC dI ad cid a2 lx (fun _ _ => False) A) ([eV (ad 7) x, .int nm, .int z] : List Value).toArray s 1 6 A) (F0 m 2 ls []) := by
    intro n
    induction n using Nat.strongRecOn with
    | ind n ih2 =>
      intro x3_2 hn2 hx3_2 hsx0_2 hsx2_2 H locs ls hP hD hS hl
      refine lv_iload_n hx hb dX2_ownsFactory_2 rfl (lv_at hl 0 rfl) ?_
      refine ec_aload_n hx hb dX2_ownsFactory_3 rfl (lv_at hl 1 rfl) ?_
      refine cr_get (t := 7) (j := 3) (C := RX2) (T := TX2) (N := 8) (v := .int (gm 1 x.toNatClampNeg)) hx hb htb inX2 hown hK hP hsx0_2 (by decide) (by decide) (by decide) rfl (by decide) (htb _ kw_234) rfl dX2_ownsFactory_4 ?_
      obtain ⟨z_1, ez_1⟩ : ∃ z : Int32, z = (gm 1 x.toNatClampNeg) := ⟨_, rfl⟩
      refine W.eq (g2 := F0 m 7 ls [.int z_1, .int x3_2]) (by rw [ez_1]) ?_
      have hz_1 : iv 0 4 z_1 := iv_of ez_1 (CI_a hI 1 hsx0_2 (by decide))
      refine lv_icmp_ge (tgt := 32) hx hb dX2_ownsFactory_7 (by decide) (fun c_2 => ?_) (fun c_2 => ?_)
      · have d_3 : (z_1 : Int32).toInt ≤ (x3_2 : Int32).toInt := Int32.le_iff_toInt_le.mp c_2
        refine lv_iconst (v := 0) hx hb dX2_ownsFactory_32 (by decide) ?_
        exact W.nb (fun hN => W.widen (k := 1) (n := 6) (by decide) (by decide) (vx_ret (W.zret (v := 0) hx hb hr (iv_nb (iv_w (iv_k (by decide) : iv 0 0 0) (by decide))) (fun t ht hW => ⟨⟨some (.int 0), (sg, gm, lg), rfl, ⟨0, rfl, rfl, (iv_w (iv_k (by decide) : iv 0 0 0) (by decide))⟩, by rw [ht]; exact hP, va_K.moved hW.alike hK, hD⟩, hS.F ht, by rw [ht]; exact hN⟩) hS.2.2 dX2_ownsFactory_33)))
      · have d_4 : (x3_2 : Int32).toInt < (z_1 : Int32).toInt := Int32.lt_iff_toInt_lt.mp (i32_lt c_2)
        have h_5 : iv 0 3 x3_2 := iv_ltL (i32_lt c_2) hx3_2 hz_1 (by decide)
        have h_6 : iv 1 4 z_1 := iv_ltR (i32_lt c_2) hx3_2 hz_1 (by decide)
        refine ec_aload_n hx hb dX2_ownsFactory_10 rfl (lv_at hl 1 rfl) ?_
        refine cr_get (t := 7) (j := 1) (C := RX2) (T := TX2) (N := 8) (v := eV (ad 29) x) hx hb htb inX2 hown hK hP hsx0_2 (by decide) (by decide) (by decide) rfl (by decide) (htb _ kw_49) (cV_c rfl (hsx0_2).1 (by rw [show cMu 7 1 = 1 from rfl, Nat.one_mul]; rfl)) dX2_ownsFactory_11 ?_
        refine lv_iload_n hx hb dX2_ownsFactory_14 rfl (lv_at hl 0 rfl) ?_
        obtain ⟨q_7, hq_7, nq_7, tq_7⟩ := ix_mk (8 * x.toNatClampNeg + 4 + (x3_2 : Int32).toNatClampNeg) 63 (by have q1 := iv_cl hsx0_2 (by decide); have q2 := (hsx0_2).2; have q3 := iv_cl h_5 (by decide); have q4 := (h_5).2; omega) (by decide)
        refine cr_aald (t := 29) (C := RX8) (v := eV (ad 8) q_7) hx hb hK hP hsx0_2 (by decide) (by decide) (by decide) (by decide) (by decide) rfl (show vp_in x3_2 (cLen 29) from (show vp_in x3_2 4 from (iv_in h_5 (by decide)))) (cAr_c (by decide) hq_7.1 nq_7) dX2_ownsFactory_15 ?_
        refine lv_iload_n hx hb dX2_ownsFactory_16 rfl (lv_at hl 2 rfl) ?_
        refine lv_iload_n hx hb dX2_ownsFactory_17 rfl (lv_at hl 3 rfl) ?_
        refine cm_callV (t := 8) (C := RX8) (T := TX8) (N := 7) (rest := []) (as := [.int nm, .int z]) ⟨hx, hb, hml, hown, htb⟩ (d_isCalled l dC dI ad cid a2 lx sg gm lg q_7 nm z hI hq_7 hsx2_2) (cwV 2 htb (gd_V kw_1098 kw_1099 kw_1100 kw_51 kw_1588) rfl rfl rfl (by decide +kernel) ⟨Nat.le_of_ble_eq_true rfl, Nat.le_of_ble_eq_true rfl⟩) hq_7 (by decide) (by decide) rfl rfl hl.1 rfl (Nat.le_trans cs_n (by decide)) dX2_ownsFactory_18 ⟨Nat.le_of_ble_eq_true rfl, Nat.le_of_ble_eq_true rfl⟩ hK hP hD hS hA hG (fun E ce q9 u_9 H locs hw hP hD hS hce hcv hcl => ?_) (fun v9 u_9 H locs hw hP hD hS => ?_)
        · exact hw.elim
        obtain ⟨r_8, rfl, rfl, hr_8⟩ := hw
        have hP : va_P (dC, dI) vwCl (cW ad cid a2 lx sg gm lg) H := hP
        have hD : va_D A (cW ad cid a2 lx sg gm lg) := hD
        refine W.eq (g2 := F0 m 21 ls [.int r_8]) rfl ?_
        refine lv_if_eq (tgt := 26) hx hb dX2_ownsFactory_21 (by decide) (fun c_11 => ?_) (fun c_11 => ?_)
        · have h_12 : iv 0 0 r_8 := iv_eq c_11 hr_8 (iv_k (by decide) : iv 0 0 0) (by decide)
          obtain ⟨z_13, ez_13⟩ : ∃ z : Int32, z = x3_2 + 1 := ⟨_, rfl⟩
          have hz_13 : iv 1 4 z_13 := iv_of ez_13 (iv_add h_5 (iv_k (by decide) : iv 1 1 1) (by decide))
          have tz_13 : z_13.toInt = x3_2.toInt + 1 := by rw [ez_13]; exact iv_addE h_5 (iv_k (by decide) : iv 1 1 1) (by decide)
          refine lv_iinc (v := z_13) (lv' := [(3, .int z_13), (0, eV (ad 7) x), (1, .int nm), (2, .int z)]) hx hb dX2_ownsFactory_26 hl (k := 0) rfl ez_13.symm (by decide) rfl (fun ls hl => ?_)
          refine lv_goto (tgt := 2) hx hb dX2_ownsFactory_29 (by decide) ?_
          exact ih2 _ (by rw [← hn2]; exact (iv_meas tz_13 h_5 (by decide))) z_13 rfl (iv_w hz_13 (by decide)) hsx0_2 hsx2_2 _ _ _ hP hD hS (lv_sub hl [0, 1, 2, 3] rfl)
        · have h_14 : iv 1 1 r_8 := iv_neL c_11 hr_8 (by decide)
          refine lv_iconst (v := 1) hx hb dX2_ownsFactory_24 (by decide) ?_
          exact W.nb (fun hN => W.widen (k := 1) (n := 6) (by decide) (by decide) (vx_ret (W.zret (v := 1) hx hb hr (iv_nb (iv_w (iv_k (by decide) : iv 1 1 1) (by decide))) (fun t ht hW => ⟨⟨some (.int 1), (sg, gm, lg), rfl, ⟨1, rfl, rfl, (iv_w (iv_k (by decide) : iv 1 1 1) (by decide))⟩, by rw [ht]; exact hP, va_K.moved hW.alike hK, hD⟩, hS.F ht, by rw [ht]; exact hN⟩) hS.2.2 dX2_ownsFactory_25)))
  refine lv_iconst (v := 0) hx hb dX2_ownsFactory_0 (by decide) ?_
  refine lv_istore_n (i := 3) (lv' := [(3, .int 0), (0, eV (ad 7) x), (1, .int nm), (2, .int z)]) hx hb dX2_ownsFactory_1 rfl hl (by decide) rfl (fun ls hl => ?_)
  exact hj2 _ 0 rfl (iv_w (iv_k (by decide) : iv 0 0 0) (by decide)) hvx hvz _ _ _ hP hD hS (lv_sub hl [0, 1, 2, 3] rfl)

set_option maxHeartbeats 4000000 in
set_option maxRecDepth 100000 in
theorem d_withFactory (l : Launch) (dC : Nat → ClassId) (dI : Nat → Nat → Nat) (ad : Nat → Nat → Nat) (cid : Nat → ClassId) (a2 : Nat → Nat) (lx : List Nat) (sg : Nat → Int32) (gm : Nat → Nat → Int32) (lg : Nat → Nat → Int64) (x : Int32) (nm : Int32) (z : Int32) (hI : CI sg gm) (hvx : iv 0 7 x) (hvz : iv 0 1 z) : CMt dC dI ad cid a2 lx l yX2_withFactory wm_X2_withFactory ({ frames := 2, cells := 1, slots := 6, locals := 45 }) [eV (ad 7) x, .int nm, .int z] sg gm lg (fun v u => ∃ r : Int32, v = some (eV (ad 7) r) ∧ u = (sg, gm, lg) ∧ (iv (-1) 7 r)) (fun _ _ => False) := by
  intro sz
  refine vx_ofW (cc := cX2_withFactory) (maxL := 5) (ret := (some (.object "WiredBeans$DeclaredClass"))) (by decide) rfl ?_
  intro p e s m args below meth c s₁ B hml hxt hv
  obtain ⟨rfl, hsz, hP, hK, hD0, hG⟩ := hv
  have hx := B.exec
  have hb := B.bytes
  have hr := B.returns
  have hts := atoms_spec (ws := wm_X2_withFactory) B.pre
  have htb := fun (w : Cond) (h : w ∈ tb) => hts w (List.mem_cons_of_mem _ h)
  have hown : s.vm.findClass RX2 = some m.cls := findClass_of_methodNamed B.named
  have hlocks := B.notSynchronized
  subst hsz
  have hD := hD0.self (sz := s.heap.size)
  generalize hAe : va_A (cW ad cid a2 lx sg gm lg) s.heap.size = A at hD hG ⊢
  have hA : ∀ q : Nat, s.heap.size ≤ q → A q := fun q h => by rw [← hAe]; exact Or.inr h
  have hS : va_S A s.heap s.heap [] := va_S.rf
  have hl := lv_entry ([eV (ad 7) x, .int nm, .int z]) (n := 5) (by rw [show (lg_sl ([eV (ad 7) x, .int nm, .int z])).length = 3 from by simp [lg_sl, eV_cat, cat_i, cat_l]]; exact Nat.le_of_ble_eq_true rfl)
  rw [lg_entry_eq]
  generalize (lg_sl ([eV (ad 7) x, .int nm, .int z]) ++ List.replicate (5 - (lg_sl ([eV (ad 7) x, .int nm, .int z])).length) Slot.unset).toArray = ls at hl ⊢
  have hl : lv_has ls 5 [(0, eV (ad 7) x), (1, .int nm), (2, .int z)] := by simp [lv_args, eV_cat, cat_i, cat_l] at hl; exact hl
  have hj38 : ∀ (x4_38 : Int32) (x3_38 : Int32) (_ : iv 0 8 x4_38) (_ : iv (-1) 7 x3_38) (_ : iv 0 7 x) (_ : iv 0 1 z) (H : Heap) (locs : List Loc) (ls : Array Slot), va_P (dC, dI) vwCl (cW ad cid a2 lx sg gm lg) H → va_D A (cW ad cid a2 lx sg gm lg) → va_S A s.heap H locs → lv_has ls 5 [(4, .int x4_38), (3, eV (ad 7) x3_38), (0, eV (ad 7) x), (1, .int nm), (2, .int z)] → W p l e (headSpec wm_X2_withFactory ({ frames := 2, cells := 1, slots := 6, locals := 45 })).room s m ([eV (ad 7) x, .int nm, .int z] : List Value).toArray below meth c H locs 0 0 (vx_MQ below (cQx dC dI ad cid a2 lx (fun v u => ∃ r : Int32, v = some (eV (ad 7) r) ∧ u = (sg, gm, lg) ∧ (iv (-1) 7 r)) A) (cX dC dI ad cid a2 lx (fun _ _ => False) A) ([eV (ad 7) x, .int nm, .int z] : List Value).toArray s 1 6 A) (F0 m 38 ls []) := by
    intro x4_38 x3_38 hx4_38 hx3_38 hsx0_38 hsx2_38 H locs ls hP hD hS hl
    refine ec_null (a := ad 7) hx hb dX2_withFactory_38 ?_
    exact W.nb (fun hN => W.widen (k := 1) (n := 6) (by decide) (by decide) (vx_ret (W.aret (v := eV (ad 7) (-1)) hx hb hr (Or.inl ⟨_, rfl⟩) (eV_is _ _) (fun t ht hW => ⟨⟨some (eV (ad 7) (-1)), (sg, gm, lg), rfl, ⟨(-1), rfl, rfl, (iv_w (iv_k (by decide) : iv (-1) (-1) (-1)) (by decide))⟩, by rw [ht]; exact hP, va_K.moved hW.alike hK, hD⟩, hS.F ht, by rw [ht]; exact hN⟩) hS.2.2 dX2_withFactory_39)))
  have hj5 : ∀ (n : Nat) (x4_5 : Int32) (x3_5 : Int32) (_ : (8 - x4_5.toInt).toNat = n) (_ : iv 0 8 x4_5) (_ : iv (-1) 7 x3_5) (_ : iv 0 7 x) (_ : iv 0 1 z) (H : Heap) (locs : List Loc) (ls : Array Slot), va_P (dC, dI) vwCl (cW ad cid a2 lx sg gm lg) H → va_D A (cW ad cid a2 lx sg gm lg) → va_S A s.heap H locs → lv_has ls 5 [(4, .int x4_5), (3, eV (ad 7) x3_5), (0, eV (ad 7) x), (1, .int nm), (2, .int z)] → W p l e (headSpec wm_X2_withFactory ({ frames := 2, cells := 1, slots := 6, locals := 45 })).room s m ([eV (ad 7) x, .int nm, .int z] : List Value).toArray below meth c H locs 0 0 (vx_MQ below (cQx dC dI ad cid a2 lx (fun v u => ∃ r : Int32, v = some (eV (ad 7) r) ∧ u = (sg, gm, lg) ∧ (iv (-1) 7 r)) A) (cX dC dI ad cid a2 lx (fun _ _ => False) A) ([eV (ad 7) x, .int nm, .int z] : List Value).toArray s 1 6 A) (F0 m 5 ls []) := by
    intro n
    induction n using Nat.strongRecOn with
    | ind n ih5 =>
      intro x4_5 x3_5 hn5 hx4_5 hx3_5 hsx0_5 hsx2_5 H locs ls hP hD hS hl
      refine lv_iload hx hb dX2_withFactory_5 (lv_at hl 0 rfl) ?_
      refine lv_bipush (v := 8) hx hb dX2_withFactory_7 (by decide) ?_
      refine lv_icmp_ge (tgt := 38) hx hb dX2_withFactory_9 (by decide) (fun c_1 => ?_) (fun c_1 => ?_)
      · have h_2 : iv 8 8 x4_5 := iv_leR c_1 (iv_k (by decide) : iv 8 8 8) hx4_5 (by decide)
        exact hj38 x4_5 x3_5 (iv_w h_2 (by decide)) hx3_5 hsx0_5 hsx2_5 _ _ _ hP hD hS (lv_sub hl [0, 1, 2, 3, 4] rfl)
      · have h_3 : iv 0 7 x4_5 := iv_ltL (i32_lt c_1) hx4_5 (iv_k (by decide) : iv 8 8 8) (by decide)
        refine ec_aload_n hx hb dX2_withFactory_12 rfl (lv_at hl 1 rfl) ?_
        refine ec_ifnull (tgt := 38) hx hb dX2_withFactory_13 (by decide) (fun c_4 => ?_) (fun c_4 => ?_)
        · have h_5 : iv (-1) (-1) x3_5 := ⟨(hx3_5).1, by omega⟩
          exact hj38 x4_5 x3_5 (iv_w h_3 (by decide)) (iv_w h_5 (by decide)) hsx0_5 hsx2_5 _ _ _ hP hD hS (lv_sub hl [0, 1, 2, 3, 4] rfl)
        · have h_6 : iv 0 7 x3_5 := ⟨c_4, (hx3_5).2⟩
          refine ec_aload_n hx hb dX2_withFactory_16 rfl (lv_at hl 1 rfl) ?_
          refine lv_iload_n hx hb dX2_withFactory_17 rfl (lv_at hl 3 rfl) ?_
          refine lv_iload_n hx hb dX2_withFactory_18 rfl (lv_at hl 4 rfl) ?_
          refine cm_callV (t := 7) (C := RX2) (T := TX2) (N := 8) (rest := []) (as := [.int nm, .int z]) ⟨hx, hb, hml, hown, htb⟩ (d_ownsFactory l dC dI ad cid a2 lx sg gm lg x3_5 nm z hI h_6 hsx2_5) (cwV 2 htb (gd_V kw_1095 kw_1096 kw_1097 kw_15 kw_1587) rfl rfl rfl (by decide +kernel) ⟨Nat.le_of_ble_eq_true rfl, Nat.le_of_ble_eq_true rfl⟩) h_6 (by decide) (by decide) rfl rfl hl.1 rfl (Nat.le_trans cs_n (by decide)) dX2_withFactory_19 ⟨Nat.le_of_ble_eq_true rfl, Nat.le_of_ble_eq_true rfl⟩ hK hP hD hS hA hG (fun E ce q9 u_8 H locs hw hP hD hS hce hcv hcl => ?_) (fun v9 u_8 H locs hw hP hD hS => ?_)
          · exact hw.elim
          obtain ⟨r_7, rfl, rfl, hr_7⟩ := hw
          have hP : va_P (dC, dI) vwCl (cW ad cid a2 lx sg gm lg) H := hP
          have hD : va_D A (cW ad cid a2 lx sg gm lg) := hD
          refine W.eq (g2 := F0 m 22 ls [.int r_7]) rfl ?_
          refine lv_if_eq (tgt := 27) hx hb dX2_withFactory_22 (by decide) (fun c_10 => ?_) (fun c_10 => ?_)
          · have h_11 : iv 0 0 r_7 := iv_eq c_10 hr_7 (iv_k (by decide) : iv 0 0 0) (by decide)
            refine ec_aload_n hx hb dX2_withFactory_27 rfl (lv_at hl 1 rfl) ?_
            refine cr_get (t := 7) (j := 7) (C := RX2) (T := TX2) (N := 8) (v := eV (ad 7) (gm 4 x3_5.toNatClampNeg)) hx hb htb inX2 hown hK hP h_6 (by decide) (by decide) (by decide) rfl (by decide) (htb _ kw_232) rfl dX2_withFactory_28 ?_
            obtain ⟨z_12, ez_12⟩ : ∃ z : Int32, z = (gm 4 x3_5.toNatClampNeg) := ⟨_, rfl⟩
            refine W.eq (g2 := F0 m 31 ls [eV (ad 7) z_12]) (by rw [ez_12]) ?_
            have hz_12 : iv (-1) 7 z_12 := iv_of ez_12 (CI_a hI 4 h_6 (by decide))
            refine ec_astore_n (i := 3) (lv' := [(3, eV (ad 7) z_12), (4, .int x4_5), (0, eV (ad 7) x), (1, .int nm), (2, .int z)]) hx hb dX2_withFactory_31 rfl hl (by decide) rfl (fun ls hl => ?_)
            obtain ⟨z_13, ez_13⟩ : ∃ z : Int32, z = x4_5 + 1 := ⟨_, rfl⟩
            have hz_13 : iv 1 8 z_13 := iv_of ez_13 (iv_add h_3 (iv_k (by decide) : iv 1 1 1) (by decide))
            have tz_13 : z_13.toInt = x4_5.toInt + 1 := by rw [ez_13]; exact iv_addE h_3 (iv_k (by decide) : iv 1 1 1) (by decide)
            refine lv_iinc (v := z_13) (lv' := [(4, .int z_13), (3, eV (ad 7) z_12), (0, eV (ad 7) x), (1, .int nm), (2, .int z)]) hx hb dX2_withFactory_32 hl (k := 1) rfl ez_13.symm (by decide) (by simp [List.filter, eV_cat, cat_i, cat_l]) (fun ls hl => ?_)
            refine lv_goto (tgt := 5) hx hb dX2_withFactory_35 (by decide) ?_
            exact ih5 _ (by rw [← hn5]; exact (iv_meas tz_13 h_3 (by decide))) z_13 z_12 rfl (iv_w hz_13 (by decide)) hz_12 hsx0_5 hsx2_5 _ _ _ hP hD hS (lv_sub hl [0, 1, 2, 3, 4] rfl)
          · have h_14 : iv 1 1 r_7 := iv_neL c_10 hr_7 (by decide)
            refine ec_aload_n hx hb dX2_withFactory_25 rfl (lv_at hl 1 rfl) ?_
            exact W.nb (fun hN => W.widen (k := 1) (n := 6) (by decide) (by decide) (vx_ret (W.aret (v := eV (ad 7) x3_5) hx hb hr (Or.inl ⟨_, rfl⟩) (eV_is _ _) (fun t ht hW => ⟨⟨some (eV (ad 7) x3_5), (sg, gm, lg), rfl, ⟨x3_5, rfl, rfl, (iv_w h_6 (by decide))⟩, by rw [ht]; exact hP, va_K.moved hW.alike hK, hD⟩, hS.F ht, by rw [ht]; exact hN⟩) hS.2.2 dX2_withFactory_26)))
  refine ec_aload_n hx hb dX2_withFactory_0 rfl (lv_at hl 0 rfl) ?_
  refine ec_astore_n (i := 3) (lv' := [(3, eV (ad 7) x), (0, eV (ad 7) x), (1, .int nm), (2, .int z)]) hx hb dX2_withFactory_1 rfl hl (by decide) rfl (fun ls hl => ?_)
  refine lv_iconst (v := 0) hx hb dX2_withFactory_2 (by decide) ?_
  refine lv_istore (i := 4) (lv' := [(4, .int 0), (3, eV (ad 7) x), (0, eV (ad 7) x), (1, .int nm), (2, .int z)]) hx hb dX2_withFactory_3 hl (by decide) (by simp [List.filter, eV_cat, cat_i, cat_l]) (fun ls hl => ?_)
  exact hj5 _ 0 x rfl (iv_w (iv_k (by decide) : iv 0 0 0) (by decide)) (iv_w hvx (by decide)) hvx hvz _ _ _ hP hD hS (lv_sub hl [0, 1, 2, 3, 4] rfl)

set_option maxHeartbeats 4000000 in
set_option maxRecDepth 100000 in
theorem d_stepsTo (l : Launch) (dC : Nat → ClassId) (dI : Nat → Nat → Nat) (ad : Nat → Nat → Nat) (cid : Nat → ClassId) (a2 : Nat → Nat) (lx : List Nat) (sg : Nat → Int32) (gm : Nat → Nat → Int32) (lg : Nat → Nat → Int64) (x : Int32) (k : Int32) (hI : CI sg gm) (hvx : iv 0 7 x) : CMt dC dI ad cid a2 lx l yX2_stepsTo wm_X2_stepsTo ({ frames := 0, cells := 1, slots := 6, locals := 0 }) [eV (ad 7) x, .int k] sg gm lg (fun v u => ∃ r : Int32, v = some (.int r) ∧ u = (sg, gm, lg) ∧ (iv (-1) 7 r)) (fun _ _ => False) := by
  intro sz
  refine vx_ofW (cc := cX2_stepsTo) (maxL := 4) (ret := (some .int)) (by decide) rfl ?_
  intro p e s m args below meth c s₁ B hml hxt hv
  obtain ⟨rfl, hsz, hP, hK, hD0, hG⟩ := hv
  have hx := B.exec
  have hb := B.bytes
  have hr := B.returns
  have hts := atoms_spec (ws := wm_X2_stepsTo) B.pre
  have htb := fun (w : Cond) (h : w ∈ tb) => hts w (List.mem_cons_of_mem _ h)
  have hown : s.vm.findClass RX2 = some m.cls := findClass_of_methodNamed B.named
  have hlocks := B.notSynchronized
  subst hsz
  have hD := hD0.self (sz := s.heap.size)
  generalize hAe : va_A (cW ad cid a2 lx sg gm lg) s.heap.size = A at hD hG ⊢
  have hA : ∀ q : Nat, s.heap.size ≤ q → A q := fun q h => by rw [← hAe]; exact Or.inr h
  have hS : va_S A s.heap s.heap [] := va_S.rf
  have hl := lv_entry ([eV (ad 7) x, .int k]) (n := 4) (by rw [show (lg_sl ([eV (ad 7) x, .int k])).length = 2 from by simp [lg_sl, eV_cat, cat_i, cat_l]]; exact Nat.le_of_ble_eq_true rfl)
  rw [lg_entry_eq]
  generalize (lg_sl ([eV (ad 7) x, .int k]) ++ List.replicate (4 - (lg_sl ([eV (ad 7) x, .int k])).length) Slot.unset).toArray = ls at hl ⊢
  have hl : lv_has ls 4 [(0, eV (ad 7) x), (1, .int k)] := by simp [lv_args, eV_cat, cat_i, cat_l] at hl; exact hl
  have hj35 : ∀ (x3_35 : Int32) (x2_35 : Int32) (_ : iv 0 8 x3_35) (_ : iv (-1) 7 x2_35) (_ : iv 0 7 x) (H : Heap) (locs : List Loc) (ls : Array Slot), va_P (dC, dI) vwCl (cW ad cid a2 lx sg gm lg) H → va_D A (cW ad cid a2 lx sg gm lg) → va_S A s.heap H locs → lv_has ls 4 [(3, .int x3_35), (2, eV (ad 7) x2_35), (0, eV (ad 7) x), (1, .int k)] → W p l e (headSpec wm_X2_stepsTo ({ frames := 0, cells := 1, slots := 6, locals := 0 })).room s m ([eV (ad 7) x, .int k] : List Value).toArray below meth c H locs 0 0 (vx_MQ below (cQx dC dI ad cid a2 lx (fun v u => ∃ r : Int32, v = some (.int r) ∧ u = (sg, gm, lg) ∧ (iv (-1) 7 r)) A) (cX dC dI ad cid a2 lx (fun _ _ => False) A) ([eV (ad 7) x, .int k] : List Value).toArray s 1 6 A) (F0 m 35 ls []) := by
    intro x3_35 x2_35 hx3_35 hx2_35 hsx0_35 H locs ls hP hD hS hl
    refine lv_iconst (v := (-1)) hx hb dX2_stepsTo_35 (by decide) ?_
    exact W.nb (fun hN => W.widen (k := 1) (n := 6) (by decide) (by decide) (vx_ret (W.iret (v := (-1)) hx hb hr (fun t ht hW => ⟨⟨some (.int (-1)), (sg, gm, lg), rfl, ⟨(-1), rfl, rfl, (iv_w (iv_k (by decide) : iv (-1) (-1) (-1)) (by decide))⟩, by rw [ht]; exact hP, va_K.moved hW.alike hK, hD⟩, hS.F ht, by rw [ht]; exact hN⟩) hS.2.2 dX2_stepsTo_36)))
  have hj4 : ∀ (n : Nat) (x3_4 : Int32) (x2_4 : Int32) (_ : (8 - x3_4.toInt).toNat = n) (_ : iv 0 8 x3_4) (_ : iv (-1) 7 x2_4) (_ : iv 0 7 x) (H : Heap) (locs : List Loc) (ls : Array Slot), va_P (dC, dI) vwCl (cW ad cid a2 lx sg gm lg) H → va_D A (cW ad cid a2 lx sg gm lg) → va_S A s.heap H locs → lv_has ls 4 [(3, .int x3_4), (2, eV (ad 7) x2_4), (0, eV (ad 7) x), (1, .int k)] → W p l e (headSpec wm_X2_stepsTo ({ frames := 0, cells := 1, slots := 6, locals := 0 })).room s m ([eV (ad 7) x, .int k] : List Value).toArray below meth c H locs 0 0 (vx_MQ below (cQx dC dI ad cid a2 lx (fun v u => ∃ r : Int32, v = some (.int r) ∧ u = (sg, gm, lg) ∧ (iv (-1) 7 r)) A) (cX dC dI ad cid a2 lx (fun _ _ => False) A) ([eV (ad 7) x, .int k] : List Value).toArray s 1 6 A) (F0 m 4 ls []) := by
    intro n
    induction n using Nat.strongRecOn with
    | ind n ih4 =>
      intro x3_4 x2_4 hn4 hx3_4 hx2_4 hsx0_4 H locs ls hP hD hS hl
      refine lv_iload_n hx hb dX2_stepsTo_4 rfl (lv_at hl 0 rfl) ?_
      refine lv_bipush (v := 8) hx hb dX2_stepsTo_5 (by decide) ?_
      refine lv_icmp_ge (tgt := 35) hx hb dX2_stepsTo_7 (by decide) (fun c_1 => ?_) (fun c_1 => ?_)
      · have h_2 : iv 8 8 x3_4 := iv_leR c_1 (iv_k (by decide) : iv 8 8 8) hx3_4 (by decide)
        exact hj35 x3_4 x2_4 (iv_w h_2 (by decide)) hx2_4 hsx0_4 _ _ _ hP hD hS (lv_sub hl [0, 1, 2, 3] rfl)
      · have h_3 : iv 0 7 x3_4 := iv_ltL (i32_lt c_1) hx3_4 (iv_k (by decide) : iv 8 8 8) (by decide)
        refine ec_aload_n hx hb dX2_stepsTo_10 rfl (lv_at hl 1 rfl) ?_
        refine ec_ifnull (tgt := 35) hx hb dX2_stepsTo_11 (by decide) (fun c_4 => ?_) (fun c_4 => ?_)
        · have h_5 : iv (-1) (-1) x2_4 := ⟨(hx2_4).1, by omega⟩
          exact hj35 x3_4 x2_4 (iv_w h_3 (by decide)) (iv_w h_5 (by decide)) hsx0_4 _ _ _ hP hD hS (lv_sub hl [0, 1, 2, 3] rfl)
        · have h_6 : iv 0 7 x2_4 := ⟨c_4, (hx2_4).2⟩
          refine ec_aload_n hx hb dX2_stepsTo_14 rfl (lv_at hl 1 rfl) ?_
          refine cr_get (t := 7) (j := 4) (C := RX2) (T := TX2) (N := 8) (v := .int (gm 2 x2_4.toNatClampNeg)) hx hb htb inX2 hown hK hP h_6 (by decide) (by decide) (by decide) rfl (by decide) (htb _ kw_46) rfl dX2_stepsTo_15 ?_
          obtain ⟨z_7, ez_7⟩ : ∃ z : Int32, z = (gm 2 x2_4.toNatClampNeg) := ⟨_, rfl⟩
          refine W.eq (g2 := F0 m 18 ls [.int z_7]) (by rw [ez_7]) ?_
          have hz_7 : iv 0 7 z_7 := iv_of ez_7 (CI_a hI 2 h_6 (by decide))
          refine lv_iload_n hx hb dX2_stepsTo_18 rfl (lv_at hl 3 rfl) ?_
          refine lv_icmp_ne (tgt := 24) hx hb dX2_stepsTo_19 (by decide) (fun c_8 => ?_) (fun c_8 => ?_)
          · refine ec_aload_n hx hb dX2_stepsTo_24 rfl (lv_at hl 1 rfl) ?_
            refine cr_get (t := 7) (j := 7) (C := RX2) (T := TX2) (N := 8) (v := eV (ad 7) (gm 4 x2_4.toNatClampNeg)) hx hb htb inX2 hown hK hP h_6 (by decide) (by decide) (by decide) rfl (by decide) (htb _ kw_232) rfl dX2_stepsTo_25 ?_
            obtain ⟨z_9, ez_9⟩ : ∃ z : Int32, z = (gm 4 x2_4.toNatClampNeg) := ⟨_, rfl⟩
            refine W.eq (g2 := F0 m 28 ls [eV (ad 7) z_9]) (by rw [ez_9]) ?_
            have hz_9 : iv (-1) 7 z_9 := iv_of ez_9 (CI_a hI 4 h_6 (by decide))
            refine ec_astore_n (i := 2) (lv' := [(2, eV (ad 7) z_9), (3, .int x3_4), (0, eV (ad 7) x), (1, .int k)]) hx hb dX2_stepsTo_28 rfl hl (by decide) rfl (fun ls hl => ?_)
            obtain ⟨z_10, ez_10⟩ : ∃ z : Int32, z = x3_4 + 1 := ⟨_, rfl⟩
            have hz_10 : iv 1 8 z_10 := iv_of ez_10 (iv_add h_3 (iv_k (by decide) : iv 1 1 1) (by decide))
            have tz_10 : z_10.toInt = x3_4.toInt + 1 := by rw [ez_10]; exact iv_addE h_3 (iv_k (by decide) : iv 1 1 1) (by decide)
            refine lv_iinc (v := z_10) (lv' := [(3, .int z_10), (2, eV (ad 7) z_9), (0, eV (ad 7) x), (1, .int k)]) hx hb dX2_stepsTo_29 hl (k := 1) rfl ez_10.symm (by decide) (by simp [List.filter, eV_cat, cat_i, cat_l]) (fun ls hl => ?_)
            refine lv_goto (tgt := 4) hx hb dX2_stepsTo_32 (by decide) ?_
            exact ih4 _ (by rw [← hn4]; exact (iv_meas tz_10 h_3 (by decide))) z_10 z_9 rfl (iv_w hz_10 (by decide)) hz_9 hsx0_4 _ _ _ hP hD hS (lv_sub hl [0, 1, 2, 3] rfl)
          · have d_11 : (z_7 : Int32).toInt = (k : Int32).toInt := congrArg Int32.toInt c_8
            have h_12 : iv 0 7 k := iv_eq (Eq.symm c_8) (iv_all k) hz_7 (by decide)
            refine lv_iload_n hx hb dX2_stepsTo_22 rfl (lv_at hl 0 rfl) ?_
            exact W.nb (fun hN => W.widen (k := 1) (n := 6) (by decide) (by decide) (vx_ret (W.iret (v := x3_4) hx hb hr (fun t ht hW => ⟨⟨some (.int x3_4), (sg, gm, lg), rfl, ⟨x3_4, rfl, rfl, (iv_w h_3 (by decide))⟩, by rw [ht]; exact hP, va_K.moved hW.alike hK, hD⟩, hS.F ht, by rw [ht]; exact hN⟩) hS.2.2 dX2_stepsTo_23)))
  refine ec_aload_n hx hb dX2_stepsTo_0 rfl (lv_at hl 0 rfl) ?_
  refine ec_astore_n (i := 2) (lv' := [(2, eV (ad 7) x), (0, eV (ad 7) x), (1, .int k)]) hx hb dX2_stepsTo_1 rfl hl (by decide) rfl (fun ls hl => ?_)
  refine lv_iconst (v := 0) hx hb dX2_stepsTo_2 (by decide) ?_
  refine lv_istore_n (i := 3) (lv' := [(3, .int 0), (2, eV (ad 7) x), (0, eV (ad 7) x), (1, .int k)]) hx hb dX2_stepsTo_3 rfl hl (by decide) (by simp [List.filter, eV_cat, cat_i, cat_l]) (fun ls hl => ?_)
  exact hj4 _ 0 x rfl (iv_w (iv_k (by decide) : iv 0 0 0) (by decide)) (iv_w hvx (by decide)) hvx _ _ _ hP hD hS (lv_sub hl [0, 1, 2, 3] rfl)

set_option maxHeartbeats 4000000 in
set_option maxRecDepth 100000 in
theorem d_forgetWiring (l : Launch) (dC : Nat → ClassId) (dI : Nat → Nat → Nat) (ad : Nat → Nat → Nat) (cid : Nat → ClassId) (a2 : Nat → Nat) (lx : List Nat) (sg : Nat → Int32) (gm : Nat → Nat → Int32) (lg : Nat → Nat → Int64) (x : Int32) (hI : CI sg gm) (hvx : iv 0 79 x) : CMt dC dI ad cid a2 lx l yX3_forgetWiring wm_X3_forgetWiring ({ frames := 0, cells := 1, slots := 6, locals := 0 }) [eV (ad 9) x] sg gm lg (fun v u => v = none ∧ ∃ (sg2 : Nat → Int32) (gm2 : Nat → Nat → Int32) (lg2 : Nat → Nat → Int64), u = (sg2, gm2, lg2) ∧ CI sg2 gm2 ∧ KS [] sg sg2 ∧ KS [21, 22, 23, 24, 25, 26, 27] gm gm2 ∧ KS [1, 2, 3] lg lg2 ∧ (gm2 27 = upd (gm 27) x.toNatClampNeg (-1))) (fun _ _ => False) := by
  intro sz
  refine vx_ofW (cc := cX3_forgetWiring) (maxL := 1) (ret := none) (by decide) rfl ?_
  intro p e s m args below meth c s₁ B hml hxt hv
  obtain ⟨rfl, hsz, hP, hK, hD0, hG⟩ := hv
  have hx := B.exec
  have hb := B.bytes
  have hr := B.returns
  have hts := atoms_spec (ws := wm_X3_forgetWiring) B.pre
  have htb := fun (w : Cond) (h : w ∈ tb) => hts w (List.mem_cons_of_mem _ h)
  have hown : s.vm.findClass RX3 = some m.cls := findClass_of_methodNamed B.named
  have hlocks := B.notSynchronized
  subst hsz
  have hD := hD0.self (sz := s.heap.size)
  generalize hAe : va_A (cW ad cid a2 lx sg gm lg) s.heap.size = A at hD hG ⊢
  have hA : ∀ q : Nat, s.heap.size ≤ q → A q := fun q h => by rw [← hAe]; exact Or.inr h
  have hS : va_S A s.heap s.heap [] := va_S.rf
  have hl := lv_entry ([eV (ad 9) x]) (n := 1) (by rw [show (lg_sl ([eV (ad 9) x])).length = 1 from by simp [lg_sl, eV_cat, cat_i, cat_l]]; exact Nat.le_of_ble_eq_true rfl)
  rw [lg_entry_eq]
  generalize (lg_sl ([eV (ad 9) x]) ++ List.replicate (1 - (lg_sl ([eV (ad 9) x])).length) Slot.unset).toArray = ls at hl ⊢
  have hl : lv_has ls 1 [(0, eV (ad 9) x)] := by simp [lv_args, eV_cat, cat_i, cat_l] at hl; exact hl
  refine ec_aload_n hx hb dX3_forgetWiring_0 rfl (lv_at hl 0 rfl) ?_
  refine lv_lconst (v := 0) hx hb dX3_forgetWiring_1 (by decide) ?_
  refine cr_putl (t := 9) (j := 11) (C := RX3) (T := TX3) (N := 21) (ty0 := tyX3) (k := 1) (y := 0) hx hb htb inX3 tyX3_ok nmX3 hown hK hP hD hS hvx (by decide) (by decide) (by decide) rfl rfl rfl (by decide) (htb _ kw_394) rfl (by show Value.long 0 = Value.long (va_up lg 1 (vp_updL (lg 1) x.toNatClampNeg 0) 1 x.toNatClampNeg); rw [va_up_self, pk_uLs]) rfl rfl dX3_forgetWiring_2 (fun lg_1 H locs elg_1 hP hD hS => ?_)
  refine ec_aload_n hx hb dX3_forgetWiring_5 rfl (lv_at hl 0 rfl) ?_
  refine lv_lconst (v := 0) hx hb dX3_forgetWiring_6 (by decide) ?_
  refine cr_putl (t := 9) (j := 12) (C := RX3) (T := TX3) (N := 21) (ty0 := tyX3) (k := 2) (y := 0) hx hb htb inX3 tyX3_ok nmX3 hown hK hP hD hS hvx (by decide) (by decide) (by decide) rfl rfl rfl (by decide) (htb _ kw_395) rfl (by show Value.long 0 = Value.long (va_up lg_1 2 (vp_updL (lg_1 2) x.toNatClampNeg 0) 2 x.toNatClampNeg); rw [va_up_self, pk_uLs]) rfl rfl dX3_forgetWiring_7 (fun lg_2 H locs elg_2 hP hD hS => ?_)
  refine ec_aload_n hx hb dX3_forgetWiring_10 rfl (lv_at hl 0 rfl) ?_
  refine lv_ldc2 (own := RX3) (v := 1099511627776) hx hb hown (htb _ kw_396) dX3_forgetWiring_11 ?_
  refine cr_putl (t := 9) (j := 13) (C := RX3) (T := TX3) (N := 21) (ty0 := tyX3) (k := 3) (y := 1099511627776) hx hb htb inX3 tyX3_ok nmX3 hown hK hP hD hS hvx (by decide) (by decide) (by decide) rfl rfl rfl (by decide) (htb _ kw_397) rfl (by show Value.long 1099511627776 = Value.long (va_up lg_2 3 (vp_updL (lg_2 3) x.toNatClampNeg 1099511627776) 3 x.toNatClampNeg); rw [va_up_self, pk_uLs]) rfl rfl dX3_forgetWiring_14 (fun lg_3 H locs elg_3 hP hD hS => ?_)
  refine ec_aload_n hx hb dX3_forgetWiring_17 rfl (lv_at hl 0 rfl) ?_
  refine lv_iconst (v := (-1)) hx hb dX3_forgetWiring_18 (by decide) ?_
  refine cr_putg (t := 9) (j := 14) (C := RX3) (T := TX3) (N := 21) (ty0 := tyX3) (k := 21) (y := (-1)) hx hb htb inX3 tyX3_ok nmX3 hown hK hP hD hS hvx (by decide) (by decide) (by decide) (by decide) rfl rfl (by decide) (htb _ kw_398) rfl (by show Value.int (-1) = Value.int (va_up gm 21 (upd (gm 21) x.toNatClampNeg (-1)) 21 x.toNatClampNeg); rw [va_up_self, upd_at]) rfl rfl dX3_forgetWiring_19 (fun gm_4 H locs egm_4 hP hD hS => ?_)
  have hI_gm_4 := CI_st hI egm_4 (iv_k (by decide) : iv (-1) (-1) (-1)) (by decide)
  refine ec_aload_n hx hb dX3_forgetWiring_22 rfl (lv_at hl 0 rfl) ?_
  refine lv_iconst (v := (-1)) hx hb dX3_forgetWiring_23 (by decide) ?_
  refine cr_putg (t := 9) (j := 15) (C := RX3) (T := TX3) (N := 21) (ty0 := tyX3) (k := 22) (y := (-1)) hx hb htb inX3 tyX3_ok nmX3 hown hK hP hD hS hvx (by decide) (by decide) (by decide) (by decide) rfl rfl (by decide) (htb _ kw_399) rfl (by show Value.int (-1) = Value.int (va_up gm_4 22 (upd (gm_4 22) x.toNatClampNeg (-1)) 22 x.toNatClampNeg); rw [va_up_self, upd_at]) rfl rfl dX3_forgetWiring_24 (fun gm_5 H locs egm_5 hP hD hS => ?_)
  have hI_gm_5 := CI_st hI_gm_4 egm_5 (iv_k (by decide) : iv (-1) (-1) (-1)) (by decide)
  refine ec_aload_n hx hb dX3_forgetWiring_27 rfl (lv_at hl 0 rfl) ?_
  refine lv_iconst (v := (-1)) hx hb dX3_forgetWiring_28 (by decide) ?_
  refine cr_putg (t := 9) (j := 16) (C := RX3) (T := TX3) (N := 21) (ty0 := tyX3) (k := 23) (y := (-1)) hx hb htb inX3 tyX3_ok nmX3 hown hK hP hD hS hvx (by decide) (by decide) (by decide) (by decide) rfl rfl (by decide) (htb _ kw_400) rfl (by show Value.int (-1) = Value.int (va_up gm_5 23 (upd (gm_5 23) x.toNatClampNeg (-1)) 23 x.toNatClampNeg); rw [va_up_self, upd_at]) rfl rfl dX3_forgetWiring_29 (fun gm_6 H locs egm_6 hP hD hS => ?_)
  have hI_gm_6 := CI_st hI_gm_5 egm_6 (iv_k (by decide) : iv (-1) (-1) (-1)) (by decide)
  refine ec_aload_n hx hb dX3_forgetWiring_32 rfl (lv_at hl 0 rfl) ?_
  refine lv_iconst (v := (-1)) hx hb dX3_forgetWiring_33 (by decide) ?_
  refine cr_putg (t := 9) (j := 17) (C := RX3) (T := TX3) (N := 21) (ty0 := tyX3) (k := 24) (y := (-1)) hx hb htb inX3 tyX3_ok nmX3 hown hK hP hD hS hvx (by decide) (by decide) (by decide) (by decide) rfl rfl (by decide) (htb _ kw_401) rfl (by show Value.int (-1) = Value.int (va_up gm_6 24 (upd (gm_6 24) x.toNatClampNeg (-1)) 24 x.toNatClampNeg); rw [va_up_self, upd_at]) rfl rfl dX3_forgetWiring_34 (fun gm_7 H locs egm_7 hP hD hS => ?_)
  have hI_gm_7 := CI_st hI_gm_6 egm_7 (iv_k (by decide) : iv (-1) (-1) (-1)) (by decide)
  refine ec_aload_n hx hb dX3_forgetWiring_37 rfl (lv_at hl 0 rfl) ?_
  refine ec_null (a := ad 33) hx hb dX3_forgetWiring_38 ?_
  refine cr_putg (t := 9) (j := 18) (C := RX3) (T := TX3) (N := 21) (ty0 := tyX3) (k := 25) (y := (-1)) hx hb htb inX3 tyX3_ok nmX3 hown hK hP hD hS hvx (by decide) (by decide) (by decide) (by decide) rfl rfl (by decide) (htb _ kw_402) rfl (by show eV (ad 33) (-1) = eV (ad 33) (va_up gm_7 25 (upd (gm_7 25) x.toNatClampNeg (-1)) 25 x.toNatClampNeg); rw [va_up_self, upd_at]) (ev_n _) (ev_f _) dX3_forgetWiring_39 (fun gm_8 H locs egm_8 hP hD hS => ?_)
  have hI_gm_8 := CI_st hI_gm_7 egm_8 (iv_k (by decide) : iv (-1) (-1) (-1)) (by decide)
  refine ec_aload_n hx hb dX3_forgetWiring_42 rfl (lv_at hl 0 rfl) ?_
  refine ec_null (a := ad 9) hx hb dX3_forgetWiring_43 ?_
  refine cr_putg (t := 9) (j := 19) (C := RX3) (T := TX3) (N := 21) (ty0 := tyX3) (k := 26) (y := (-1)) hx hb htb inX3 tyX3_ok nmX3 hown hK hP hD hS hvx (by decide) (by decide) (by decide) (by decide) rfl rfl (by decide) (htb _ kw_403) rfl (by show eV (ad 9) (-1) = eV (ad 9) (va_up gm_8 26 (upd (gm_8 26) x.toNatClampNeg (-1)) 26 x.toNatClampNeg); rw [va_up_self, upd_at]) (ev_n _) (ev_f _) dX3_forgetWiring_44 (fun gm_9 H locs egm_9 hP hD hS => ?_)
  have hI_gm_9 := CI_st hI_gm_8 egm_9 (iv_k (by decide) : iv (-1) (-1) (-1)) (by decide)
  refine ec_aload_n hx hb dX3_forgetWiring_47 rfl (lv_at hl 0 rfl) ?_
  refine ec_null (a := ad 10) hx hb dX3_forgetWiring_48 ?_
  refine cr_putg (t := 9) (j := 20) (C := RX3) (T := TX3) (N := 21) (ty0 := tyX3) (k := 27) (y := (-1)) hx hb htb inX3 tyX3_ok nmX3 hown hK hP hD hS hvx (by decide) (by decide) (by decide) (by decide) rfl rfl (by decide) (htb _ kw_404) rfl (by show eV (ad 10) (-1) = eV (ad 10) (va_up gm_9 27 (upd (gm_9 27) x.toNatClampNeg (-1)) 27 x.toNatClampNeg); rw [va_up_self, upd_at]) (ev_n _) (ev_f _) dX3_forgetWiring_49 (fun gm_10 H locs egm_10 hP hD hS => ?_)
  have hI_gm_10 := CI_st hI_gm_9 egm_10 (iv_k (by decide) : iv (-1) (-1) (-1)) (by decide)
  exact W.nb (fun hN => W.widen (k := 1) (n := 6) (by decide) (by decide) (vx_ret (W.vret hx hb hr (fun t ht hW => ⟨⟨none, (sg, gm_10, lg_3), rfl, ⟨rfl, sg, gm_10, lg_3, rfl, hI_gm_10, KS_rf, (KS_up (KS_up (KS_up (KS_up (KS_up (KS_up (KS_up KS_rf egm_4 (by decide)) egm_5 (by decide)) egm_6 (by decide)) egm_7 (by decide)) egm_8 (by decide)) egm_9 (by decide)) egm_10 (by decide)), (KS_up (KS_up (KS_up KS_rf elg_1 (by decide)) elg_2 (by decide)) elg_3 (by decide)), ((show gm_10 27 = upd (gm 27) (x : Int32).toNatClampNeg (-1) from ((up_at egm_10).trans (by rw [show gm_9 27 = gm 27 from ((up_ne egm_9 (by decide)).trans ((up_ne egm_8 (by decide)).trans ((up_ne egm_7 (by decide)).trans ((up_ne egm_6 (by decide)).trans ((up_ne egm_5 (by decide)).trans ((up_ne egm_4 (by decide)).trans rfl))))))]))))⟩, by rw [ht]; exact hP, va_K.moved hW.alike hK, hD⟩, hS.F ht, by rw [ht]; exact hN⟩) hS.2.2 dX3_forgetWiring_52)))

set_option maxHeartbeats 4000000 in
set_option maxRecDepth 100000 in
theorem d_beginEl (l : Launch) (dC : Nat → ClassId) (dI : Nat → Nat → Nat) (ad : Nat → Nat → Nat) (cid : Nat → ClassId) (a2 : Nat → Nat) (lx : List Nat) (sg : Nat → Int32) (gm : Nat → Nat → Int32) (lg : Nat → Nat → Int64) (x : Int32) (pl : Int32) (ar : Int32) (fa : Int32) (hI : CI sg gm) (hvx : iv 0 79 x) (hvpl : iv 0 1201 pl) (hvar : iv (-1) 79 ar) (hvfa : iv 0 240 fa) : CMt dC dI ad cid a2 lx l yX3_begin wm_X3_begin ({ frames := 1, cells := 1, slots := 6, locals := 20 }) [eV (ad 9) x, .int pl, eV (ad 9) ar, .int fa] sg gm lg (fun v u => v = none ∧ ∃ (sg2 : Nat → Int32) (gm2 : Nat → Nat → Int32) (lg2 : Nat → Nat → Int64), u = (sg2, gm2, lg2) ∧ CI sg2 gm2 ∧ KS [] sg sg2 ∧ KS [11, 12, 13, 14, 15, 16, 17, 18, 19, 20, 21, 22, 23, 24, 25, 26, 27] gm gm2 ∧ KS [1, 2, 3] lg lg2 ∧ (gm2 12 = upd (gm 12) x.toNatClampNeg 0) ∧ (gm2 18 = upd (gm 18) x.toNatClampNeg 0) ∧ (gm2 15 = upd (gm 15) x.toNatClampNeg ar) ∧ (gm2 16 = upd (gm 16) x.toNatClampNeg (-1)) ∧ (gm2 17 = upd (gm 17) x.toNatClampNeg (-1)) ∧ (gm2 19 = upd (gm 19) x.toNatClampNeg fa) ∧ (gm2 20 = upd (gm 20) x.toNatClampNeg 0) ∧ (gm2 14 = upd (gm 14) x.toNatClampNeg (-1)) ∧ (gm2 27 = upd (gm 27) x.toNatClampNeg (-1))) (fun _ _ => False) := by
  intro sz
  refine vx_ofW (cc := cX3_begin) (maxL := 4) (ret := none) (by decide) rfl ?_
  intro p e s m args below meth c s₁ B hml hxt hv
  obtain ⟨rfl, hsz, hP, hK, hD0, hG⟩ := hv
  have hx := B.exec
  have hb := B.bytes
  have hr := B.returns
  have hts := atoms_spec (ws := wm_X3_begin) B.pre
  have htb := fun (w : Cond) (h : w ∈ tb) => hts w (List.mem_cons_of_mem _ h)
  have hown : s.vm.findClass RX3 = some m.cls := findClass_of_methodNamed B.named
  have hlocks := B.notSynchronized
  subst hsz
  have hD := hD0.self (sz := s.heap.size)
  generalize hAe : va_A (cW ad cid a2 lx sg gm lg) s.heap.size = A at hD hG ⊢
  have hA : ∀ q : Nat, s.heap.size ≤ q → A q := fun q h => by rw [← hAe]; exact Or.inr h
  have hS : va_S A s.heap s.heap [] := va_S.rf
  have hl := lv_entry ([eV (ad 9) x, .int pl, eV (ad 9) ar, .int fa]) (n := 4) (by rw [show (lg_sl ([eV (ad 9) x, .int pl, eV (ad 9) ar, .int fa])).length = 4 from by simp [lg_sl, eV_cat, cat_i, cat_l]]; exact Nat.le_of_ble_eq_true rfl)
  rw [lg_entry_eq]
  generalize (lg_sl ([eV (ad 9) x, .int pl, eV (ad 9) ar, .int fa]) ++ List.replicate (4 - (lg_sl ([eV (ad 9) x, .int pl, eV (ad 9) ar, .int fa])).length) Slot.unset).toArray = ls at hl ⊢
  have hl : lv_has ls 4 [(0, eV (ad 9) x), (1, .int pl), (2, eV (ad 9) ar), (3, .int fa)] := by simp [lv_args, eV_cat, cat_i, cat_l] at hl; exact hl
  refine ec_aload_n hx hb dX3_begin_0 rfl (lv_at hl 0 rfl) ?_
  refine lv_iconst (v := 0) hx hb dX3_begin_1 (by decide) ?_
  refine cr_putg (t := 9) (j := 1) (C := RX3) (T := TX3) (N := 21) (ty0 := tyX3) (k := 11) (y := 0) hx hb htb inX3 tyX3_ok nmX3 hown hK hP hD hS hvx (by decide) (by decide) (by decide) (by decide) rfl rfl (by decide) (htb _ kw_381) rfl (by show Value.int 0 = Value.int (va_up gm 11 (upd (gm 11) x.toNatClampNeg 0) 11 x.toNatClampNeg); rw [va_up_self, upd_at]) rfl rfl dX3_begin_2 (fun gm_1 H locs egm_1 hP hD hS => ?_)
  have hI_gm_1 := CI_st hI egm_1 (iv_k (by decide) : iv 0 0 0) (by decide)
  refine ec_aload_n hx hb dX3_begin_5 rfl (lv_at hl 0 rfl) ?_
  refine lv_iconst (v := 0) hx hb dX3_begin_6 (by decide) ?_
  refine cr_putg (t := 9) (j := 2) (C := RX3) (T := TX3) (N := 21) (ty0 := tyX3) (k := 12) (y := 0) hx hb htb inX3 tyX3_ok nmX3 hown hK hP hD hS hvx (by decide) (by decide) (by decide) (by decide) rfl rfl (by decide) (htb _ kw_382) rfl (by show Value.int 0 = Value.int (va_up gm_1 12 (upd (gm_1 12) x.toNatClampNeg 0) 12 x.toNatClampNeg); rw [va_up_self, upd_at]) rfl rfl dX3_begin_7 (fun gm_2 H locs egm_2 hP hD hS => ?_)
  have hI_gm_2 := CI_st hI_gm_1 egm_2 (iv_k (by decide) : iv 0 0 0) (by decide)
  refine ec_aload_n hx hb dX3_begin_10 rfl (lv_at hl 0 rfl) ?_
  refine lv_iload_n hx hb dX3_begin_11 rfl (lv_at hl 1 rfl) ?_
  refine cr_putg (t := 9) (j := 3) (C := RX3) (T := TX3) (N := 21) (ty0 := tyX3) (k := 13) (y := pl) hx hb htb inX3 tyX3_ok nmX3 hown hK hP hD hS hvx (by decide) (by decide) (by decide) (by decide) rfl rfl (by decide) (htb _ kw_383) rfl (by show Value.int pl = Value.int (va_up gm_2 13 (upd (gm_2 13) x.toNatClampNeg pl) 13 x.toNatClampNeg); rw [va_up_self, upd_at]) rfl rfl dX3_begin_12 (fun gm_3 H locs egm_3 hP hD hS => ?_)
  have hI_gm_3 := CI_st hI_gm_2 egm_3 hvpl (by decide)
  refine ec_aload_n hx hb dX3_begin_15 rfl (lv_at hl 0 rfl) ?_
  refine ec_null (a := ad 33) hx hb dX3_begin_16 ?_
  refine cr_putg (t := 9) (j := 4) (C := RX3) (T := TX3) (N := 21) (ty0 := tyX3) (k := 14) (y := (-1)) hx hb htb inX3 tyX3_ok nmX3 hown hK hP hD hS hvx (by decide) (by decide) (by decide) (by decide) rfl rfl (by decide) (htb _ kw_384) rfl (by show eV (ad 33) (-1) = eV (ad 33) (va_up gm_3 14 (upd (gm_3 14) x.toNatClampNeg (-1)) 14 x.toNatClampNeg); rw [va_up_self, upd_at]) (ev_n _) (ev_f _) dX3_begin_17 (fun gm_4 H locs egm_4 hP hD hS => ?_)
  have hI_gm_4 := CI_st hI_gm_3 egm_4 (iv_k (by decide) : iv (-1) (-1) (-1)) (by decide)
  refine ec_aload_n hx hb dX3_begin_20 rfl (lv_at hl 0 rfl) ?_
  refine ec_aload_n hx hb dX3_begin_21 rfl (lv_at hl 2 rfl) ?_
  refine cr_putg (t := 9) (j := 5) (C := RX3) (T := TX3) (N := 21) (ty0 := tyX3) (k := 15) (y := ar) hx hb htb inX3 tyX3_ok nmX3 hown hK hP hD hS hvx (by decide) (by decide) (by decide) (by decide) rfl rfl (by decide) (htb _ kw_385) rfl (by show eV (ad 9) ar = eV (ad 9) (va_up gm_4 15 (upd (gm_4 15) x.toNatClampNeg ar) 15 x.toNatClampNeg); rw [va_up_self, upd_at]) (ev_n _) (ev_f _) dX3_begin_22 (fun gm_5 H locs egm_5 hP hD hS => ?_)
  have hI_gm_5 := CI_st hI_gm_4 egm_5 hvar (by decide)
  refine ec_aload_n hx hb dX3_begin_25 rfl (lv_at hl 0 rfl) ?_
  refine ec_null (a := ad 9) hx hb dX3_begin_26 ?_
  refine cr_putg (t := 9) (j := 6) (C := RX3) (T := TX3) (N := 21) (ty0 := tyX3) (k := 16) (y := (-1)) hx hb htb inX3 tyX3_ok nmX3 hown hK hP hD hS hvx (by decide) (by decide) (by decide) (by decide) rfl rfl (by decide) (htb _ kw_386) rfl (by show eV (ad 9) (-1) = eV (ad 9) (va_up gm_5 16 (upd (gm_5 16) x.toNatClampNeg (-1)) 16 x.toNatClampNeg); rw [va_up_self, upd_at]) (ev_n _) (ev_f _) dX3_begin_27 (fun gm_6 H locs egm_6 hP hD hS => ?_)
  have hI_gm_6 := CI_st hI_gm_5 egm_6 (iv_k (by decide) : iv (-1) (-1) (-1)) (by decide)
  refine ec_aload_n hx hb dX3_begin_30 rfl (lv_at hl 0 rfl) ?_
  refine ec_null (a := ad 9) hx hb dX3_begin_31 ?_
  refine cr_putg (t := 9) (j := 7) (C := RX3) (T := TX3) (N := 21) (ty0 := tyX3) (k := 17) (y := (-1)) hx hb htb inX3 tyX3_ok nmX3 hown hK hP hD hS hvx (by decide) (by decide) (by decide) (by decide) rfl rfl (by decide) (htb _ kw_387) rfl (by show eV (ad 9) (-1) = eV (ad 9) (va_up gm_6 17 (upd (gm_6 17) x.toNatClampNeg (-1)) 17 x.toNatClampNeg); rw [va_up_self, upd_at]) (ev_n _) (ev_f _) dX3_begin_32 (fun gm_7 H locs egm_7 hP hD hS => ?_)
  have hI_gm_7 := CI_st hI_gm_6 egm_7 (iv_k (by decide) : iv (-1) (-1) (-1)) (by decide)
  refine ec_aload_n hx hb dX3_begin_35 rfl (lv_at hl 0 rfl) ?_
  refine lv_iconst (v := 0) hx hb dX3_begin_36 (by decide) ?_
  refine cr_putg (t := 9) (j := 8) (C := RX3) (T := TX3) (N := 21) (ty0 := tyX3) (k := 18) (y := 0) hx hb htb inX3 tyX3_ok nmX3 hown hK hP hD hS hvx (by decide) (by decide) (by decide) (by decide) rfl rfl (by decide) (htb _ kw_388) rfl (by show Value.int 0 = Value.int (va_up gm_7 18 (upd (gm_7 18) x.toNatClampNeg 0) 18 x.toNatClampNeg); rw [va_up_self, upd_at]) rfl rfl dX3_begin_37 (fun gm_8 H locs egm_8 hP hD hS => ?_)
  have hI_gm_8 := CI_st hI_gm_7 egm_8 (iv_k (by decide) : iv 0 0 0) (by decide)
  refine ec_aload_n hx hb dX3_begin_40 rfl (lv_at hl 0 rfl) ?_
  refine lv_iload_n hx hb dX3_begin_41 rfl (lv_at hl 3 rfl) ?_
  refine cr_putg (t := 9) (j := 9) (C := RX3) (T := TX3) (N := 21) (ty0 := tyX3) (k := 19) (y := fa) hx hb htb inX3 tyX3_ok nmX3 hown hK hP hD hS hvx (by decide) (by decide) (by decide) (by decide) rfl rfl (by decide) (htb _ kw_389) rfl (by show Value.int fa = Value.int (va_up gm_8 19 (upd (gm_8 19) x.toNatClampNeg fa) 19 x.toNatClampNeg); rw [va_up_self, upd_at]) rfl rfl dX3_begin_42 (fun gm_9 H locs egm_9 hP hD hS => ?_)
  have hI_gm_9 := CI_st hI_gm_8 egm_9 hvfa (by decide)
  refine ec_aload_n hx hb dX3_begin_45 rfl (lv_at hl 0 rfl) ?_
  refine lv_iconst (v := 0) hx hb dX3_begin_46 (by decide) ?_
  refine cr_putg (t := 9) (j := 10) (C := RX3) (T := TX3) (N := 21) (ty0 := tyX3) (k := 20) (y := 0) hx hb htb inX3 tyX3_ok nmX3 hown hK hP hD hS hvx (by decide) (by decide) (by decide) (by decide) rfl rfl (by decide) (htb _ kw_390) rfl (by show Value.int 0 = Value.int (va_up gm_9 20 (upd (gm_9 20) x.toNatClampNeg 0) 20 x.toNatClampNeg); rw [va_up_self, upd_at]) rfl rfl dX3_begin_47 (fun gm_10 H locs egm_10 hP hD hS => ?_)
  have hI_gm_10 := CI_st hI_gm_9 egm_10 (iv_k (by decide) : iv 0 0 0) (by decide)
  refine ec_aload_n hx hb dX3_begin_50 rfl (lv_at hl 0 rfl) ?_
  refine cm_callV (t := 9) (C := RX3) (T := TX3) (N := 21) (rest := []) (as := []) ⟨hx, hb, hml, hown, htb⟩ (d_forgetWiring l dC dI ad cid a2 lx sg gm_10 lg x hI_gm_10 hvx) (cwV 0 htb (gd_V kw_391 kw_392 kw_393 kw_66 kw_1429) rfl rfl rfl (by decide +kernel) ⟨Nat.le_of_ble_eq_true rfl, Nat.le_of_ble_eq_true rfl⟩) hvx (by decide) (by decide) rfl rfl hl.1 rfl (Nat.le_trans cs_n (by decide)) dX3_begin_51 ⟨Nat.le_of_ble_eq_true rfl, Nat.le_of_ble_eq_true rfl⟩ hK hP hD hS hA hG (fun E ce q9 u_12 H locs hw hP hD hS hce hcv hcl => ?_) (fun v9 u_12 H locs hw hP hD hS => ?_)
  · exact hw.elim
  obtain ⟨rfl, sgv_13, gmv_13, lgv_13, rfl, hIv_13, ksv_13, kgv_13, klv_13, f27_r_11⟩ := hw
  obtain rfl := KS_nil ksv_13
  have hP : va_P (dC, dI) vwCl (cW ad cid a2 lx sg gmv_13 lgv_13) H := hP
  have hD : va_D A (cW ad cid a2 lx sg gmv_13 lgv_13) := hD
  refine W.eq (g2 := F0 m 54 ls []) rfl ?_
  exact W.nb (fun hN => W.widen (k := 1) (n := 6) (by decide) (by decide) (vx_ret (W.vret hx hb hr (fun t ht hW => ⟨⟨none, (sg, gmv_13, lgv_13), rfl, ⟨rfl, sg, gmv_13, lgv_13, rfl, hIv_13, KS_rf, (KS_tr (L := [11, 12, 13, 14, 15, 16, 17, 18, 19, 20, 21, 22, 23, 24, 25, 26, 27]) (KS_up (KS_up (KS_up (KS_up (KS_up (KS_up (KS_up (KS_up (KS_up (KS_up KS_rf egm_1 (by decide)) egm_2 (by decide)) egm_3 (by decide)) egm_4 (by decide)) egm_5 (by decide)) egm_6 (by decide)) egm_7 (by decide)) egm_8 (by decide)) egm_9 (by decide)) egm_10 (by decide)) kgv_13 (by decide)), (KS_tr (L := [1, 2, 3]) KS_rf klv_13 (by decide)), ((show gmv_13 12 = upd (gm 12) (x : Int32).toNatClampNeg 0 from ((kgv_13 12 (by decide)).trans ((up_ne egm_10 (by decide)).trans ((up_ne egm_9 (by decide)).trans ((up_ne egm_8 (by decide)).trans ((up_ne egm_7 (by decide)).trans ((up_ne egm_6 (by decide)).trans ((up_ne egm_5 (by decide)).trans ((up_ne egm_4 (by decide)).trans ((up_ne egm_3 (by decide)).trans ((up_at egm_2).trans (by rw [show gm_1 12 = gm 12 from ((up_ne egm_1 (by decide)).trans rfl)]))))))))))))), ((show gmv_13 18 = upd (gm 18) (x : Int32).toNatClampNeg 0 from ((kgv_13 18 (by decide)).trans ((up_ne egm_10 (by decide)).trans ((up_ne egm_9 (by decide)).trans ((up_at egm_8).trans (by rw [show gm_7 18 = gm 18 from ((up_ne egm_7 (by decide)).trans ((up_ne egm_6 (by decide)).trans ((up_ne egm_5 (by decide)).trans ((up_ne egm_4 (by decide)).trans ((up_ne egm_3 (by decide)).trans ((up_ne egm_2 (by decide)).trans ((up_ne egm_1 (by decide)).trans rfl)))))))]))))))), ((show gmv_13 15 = upd (gm 15) (x : Int32).toNatClampNeg ar from ((kgv_13 15 (by decide)).trans ((up_ne egm_10 (by decide)).trans ((up_ne egm_9 (by decide)).trans ((up_ne egm_8 (by decide)).trans ((up_ne egm_7 (by decide)).trans ((up_ne egm_6 (by decide)).trans ((up_at egm_5).trans (by rw [show gm_4 15 = gm 15 from ((up_ne egm_4 (by decide)).trans ((up_ne egm_3 (by decide)).trans ((up_ne egm_2 (by decide)).trans ((up_ne egm_1 (by decide)).trans rfl))))])))))))))), ((show gmv_13 16 = upd (gm 16) (x : Int32).toNatClampNeg (-1) from ((kgv_13 16 (by decide)).trans ((up_ne egm_10 (by decide)).trans ((up_ne egm_9 (by decide)).trans ((up_ne egm_8 (by decide)).trans ((up_ne egm_7 (by decide)).trans ((up_at egm_6).trans (by rw [show gm_5 16 = gm 16 from ((up_ne egm_5 (by decide)).trans ((up_ne egm_4 (by decide)).trans ((up_ne egm_3 (by decide)).trans ((up_ne egm_2 (by decide)).trans ((up_ne egm_1 (by decide)).trans rfl)))))]))))))))), ((show gmv_13 17 = upd (gm 17) (x : Int32).toNatClampNeg (-1) from ((kgv_13 17 (by decide)).trans ((up_ne egm_10 (by decide)).trans ((up_ne egm_9 (by decide)).trans ((up_ne egm_8 (by decide)).trans ((up_at egm_7).trans (by rw [show gm_6 17 = gm 17 from ((up_ne egm_6 (by decide)).trans ((up_ne egm_5 (by decide)).trans ((up_ne egm_4 (by decide)).trans ((up_ne egm_3 (by decide)).trans ((up_ne egm_2 (by decide)).trans ((up_ne egm_1 (by decide)).trans rfl))))))])))))))), ((show gmv_13 19 = upd (gm 19) (x : Int32).toNatClampNeg fa from ((kgv_13 19 (by decide)).trans ((up_ne egm_10 (by decide)).trans ((up_at egm_9).trans (by rw [show gm_8 19 = gm 19 from ((up_ne egm_8 (by decide)).trans ((up_ne egm_7 (by decide)).trans ((up_ne egm_6 (by decide)).trans ((up_ne egm_5 (by decide)).trans ((up_ne egm_4 (by decide)).trans ((up_ne egm_3 (by decide)).trans ((up_ne egm_2 (by decide)).trans ((up_ne egm_1 (by decide)).trans rfl))))))))])))))), ((show gmv_13 20 = upd (gm 20) (x : Int32).toNatClampNeg 0 from ((kgv_13 20 (by decide)).trans ((up_at egm_10).trans (by rw [show gm_9 20 = gm 20 from ((up_ne egm_9 (by decide)).trans ((up_ne egm_8 (by decide)).trans ((up_ne egm_7 (by decide)).trans ((up_ne egm_6 (by decide)).trans ((up_ne egm_5 (by decide)).trans ((up_ne egm_4 (by decide)).trans ((up_ne egm_3 (by decide)).trans ((up_ne egm_2 (by decide)).trans ((up_ne egm_1 (by decide)).trans rfl)))))))))]))))), ((show gmv_13 14 = upd (gm 14) (x : Int32).toNatClampNeg (-1) from ((kgv_13 14 (by decide)).trans ((up_ne egm_10 (by decide)).trans ((up_ne egm_9 (by decide)).trans ((up_ne egm_8 (by decide)).trans ((up_ne egm_7 (by decide)).trans ((up_ne egm_6 (by decide)).trans ((up_ne egm_5 (by decide)).trans ((up_at egm_4).trans (by rw [show gm_3 14 = gm 14 from ((up_ne egm_3 (by decide)).trans ((up_ne egm_2 (by decide)).trans ((up_ne egm_1 (by decide)).trans rfl)))]))))))))))), (f27_r_11.trans (by rw [(show gm_10 27 = gm 27 from (Eq.trans (up_ne egm_10 (by decide)) (Eq.trans (up_ne egm_9 (by decide)) (Eq.trans (up_ne egm_8 (by decide)) (Eq.trans (up_ne egm_7 (by decide)) (Eq.trans (up_ne egm_6 (by decide)) (Eq.trans (up_ne egm_5 (by decide)) (Eq.trans (up_ne egm_4 (by decide)) (Eq.trans (up_ne egm_3 (by decide)) (Eq.trans (up_ne egm_2 (by decide)) (up_ne egm_1 (by decide))))))))))))]))⟩, by rw [ht]; exact hP, va_K.moved hW.alike hK, hD⟩, hS.F ht, by rw [ht]; exact hN⟩) hS.2.2 dX3_begin_54)))

set_option maxHeartbeats 4000000 in
set_option maxRecDepth 100000 in
theorem d_takeWhite (l : Launch) (dC : Nat → ClassId) (dI : Nat → Nat → Nat) (ad : Nat → Nat → Nat) (cid : Nat → ClassId) (a2 : Nat → Nat) (lx : List Nat) (sg : Nat → Int32) (gm : Nat → Nat → Int32) (lg : Nat → Nat → Int64) (x : Int32) (cc : Int32) (K9 : Nat) (hI : CI sg gm) (hvx : iv 0 79 x) (hvcc : iv 0 65535 cc) (hU12 : UB 12 K9 gm) (hU18 : UB 18 K9 gm) (hK9 : K9 ≤ 1999990) : CMt dC dI ad cid a2 lx l yX3_takeWhite wm_X3_takeWhite ({ frames := 0, cells := 1, slots := 6, locals := 0 }) [eV (ad 9) x, .int cc] sg gm lg (fun v u => v = none ∧ ∃ (sg2 : Nat → Int32) (gm2 : Nat → Nat → Int32) (lg2 : Nat → Nat → Int64), u = (sg2, gm2, lg2) ∧ CI sg2 gm2 ∧ KS [] sg sg2 ∧ KS [12, 56] gm gm2 ∧ KS [] lg lg2 ∧ (UB 12 (K9 + 1) gm2)) (fun _ _ => False) := by
  intro sz
  refine vx_ofW (cc := cX3_takeWhite) (maxL := 2) (ret := none) (by decide) rfl ?_
  intro p e s m args below meth c s₁ B hml hxt hv
  obtain ⟨rfl, hsz, hP, hK, hD0, hG⟩ := hv
  have hx := B.exec
  have hb := B.bytes
  have hr := B.returns
  have hts := atoms_spec (ws := wm_X3_takeWhite) B.pre
  have htb := fun (w : Cond) (h : w ∈ tb) => hts w (List.mem_cons_of_mem _ h)
  have hown : s.vm.findClass RX3 = some m.cls := findClass_of_methodNamed B.named
  have hlocks := B.notSynchronized
  subst hsz
  have hD := hD0.self (sz := s.heap.size)
  generalize hAe : va_A (cW ad cid a2 lx sg gm lg) s.heap.size = A at hD hG ⊢
  have hA : ∀ q : Nat, s.heap.size ≤ q → A q := fun q h => by rw [← hAe]; exact Or.inr h
  have hS : va_S A s.heap s.heap [] := va_S.rf
  have hl := lv_entry ([eV (ad 9) x, .int cc]) (n := 2) (by rw [show (lg_sl ([eV (ad 9) x, .int cc])).length = 2 from by simp [lg_sl, eV_cat, cat_i, cat_l]]; exact Nat.le_of_ble_eq_true rfl)
  rw [lg_entry_eq]
  generalize (lg_sl ([eV (ad 9) x, .int cc]) ++ List.replicate (2 - (lg_sl ([eV (ad 9) x, .int cc])).length) Slot.unset).toArray = ls at hl ⊢
  have hl : lv_has ls 2 [(0, eV (ad 9) x), (1, .int cc)] := by simp [lv_args, eV_cat, cat_i, cat_l] at hl; exact hl
  have hj27 : ∀ (gm_j27 : Nat → Nat → Int32) (_ : iv 0 79 x) (_ : iv 0 65535 cc) (_ : KS [56] gm gm_j27) (_ : CI sg gm_j27) (H : Heap) (locs : List Loc) (ls : Array Slot), va_P (dC, dI) vwCl (cW ad cid a2 lx sg gm_j27 lg) H → va_D A (cW ad cid a2 lx sg gm_j27 lg) → va_S A s.heap H locs → lv_has ls 2 [(0, eV (ad 9) x), (1, .int cc)] → W p l e (headSpec wm_X3_takeWhite ({ frames := 0, cells := 1, slots := 6, locals := 0 })).room s m ([eV (ad 9) x, .int cc] : List Value).toArray below meth c H locs 0 0 (vx_MQ below (cQx dC dI ad cid a2 lx (fun v u => v = none ∧ ∃ (sg2 : Nat → Int32) (gm2 : Nat → Nat → Int32) (lg2 : Nat → Nat → Int64), u = (sg2, gm2, lg2) ∧ CI sg2 gm2 ∧ KS [] sg sg2 ∧ KS [12, 56] gm gm2 ∧ KS [] lg lg2 ∧ (UB 12 (K9 + 1) gm2)) A) (cX dC dI ad cid a2 lx (fun _ _ => False) A) ([eV (ad 9) x, .int cc] : List Value).toArray s 1 6 A) (F0 m 27 ls []) := by
    intro gm_j27 hsx0_27 hsx1_27 hkg_j27 hI_j27 H locs ls hP hD hS hl
    refine ec_aload_n hx hb dX3_takeWhite_27 rfl (lv_at hl 0 rfl) ?_
    refine lv_dup hx hb dX3_takeWhite_28 (eV_cat _ _) ?_
    refine cr_get (t := 9) (j := 2) (C := RX3) (T := TX3) (N := 21) (v := .int (gm_j27 12 x.toNatClampNeg)) hx hb htb inX3 hown hK hP hsx0_27 (by decide) (by decide) (by decide) rfl (by decide) (htb _ kw_382) rfl dX3_takeWhite_29 ?_
    obtain ⟨z_1, ez_1⟩ : ∃ z : Int32, z = (gm_j27 12 x.toNatClampNeg) := ⟨_, rfl⟩
    refine W.eq (g2 := F0 m 32 ls [.int z_1, eV (ad 9) x]) (by rw [ez_1]) ?_
    have hz_1 : iv 0 2000000 z_1 := iv_of ez_1 (CI_a hI_j27 12 hsx0_27 (by decide))
    have ez_1 := ez_1.trans (congrFun (hkg_j27 12 (by decide)) _)
    have h_2 : iv 0 1999990 z_1 := ⟨(hz_1).1, by have q9 := hU12 x.toNatClampNeg (by have q1 := iv_cl hsx0_27 (by decide); have q2 := (hsx0_27).2; omega); rw [ez_1]; omega⟩
    refine lv_iconst (v := 1) hx hb dX3_takeWhite_32 (by decide) ?_
    refine lv_iadd hx hb dX3_takeWhite_33 ?_
    refine lv_topi (fun z_3 ez_3 => ?_)
    have hz_3 : iv 1 1999991 z_3 := iv_of ez_3 (iv_add h_2 (iv_k (by decide) : iv 1 1 1) (by decide))
    have tz_3 : z_3.toInt = (z_1 : Int32).toInt + 1 := by rw [ez_3]; exact iv_addE h_2 (iv_k (by decide) : iv 1 1 1) (by decide)
    refine cr_putg (t := 9) (j := 2) (C := RX3) (T := TX3) (N := 21) (ty0 := tyX3) (k := 12) (y := z_3) hx hb htb inX3 tyX3_ok nmX3 hown hK hP hD hS hsx0_27 (by decide) (by decide) (by decide) (by decide) rfl rfl (by decide) (htb _ kw_382) rfl (by show Value.int z_3 = Value.int (va_up gm_j27 12 (upd (gm_j27 12) x.toNatClampNeg z_3) 12 x.toNatClampNeg); rw [va_up_self, upd_at]) rfl rfl dX3_takeWhite_34 (fun gm_4 H locs egm_4 hP hD hS => ?_)
    have hI_gm_4 := CI_st hI_j27 egm_4 hz_3 (by decide)
    exact W.nb (fun hN => W.widen (k := 1) (n := 6) (by decide) (by decide) (vx_ret (W.vret hx hb hr (fun t ht hW => ⟨⟨none, (sg, gm_4, lg), rfl, ⟨rfl, sg, gm_4, lg, rfl, hI_gm_4, KS_rf, (KS_up (KS_tr (L := [12, 56]) KS_rf hkg_j27 (by decide)) egm_4 (by decide)), KS_rf, (UB_u hU12 (show gm_4 12 = upd (gm 12) (x : Int32).toNatClampNeg z_3 from ((up_at egm_4).trans (by rw [show gm_j27 12 = gm 12 from ((hkg_j27 12 (by decide)).trans rfl)]))) (by omega) (by have := tz_3; have q9 := hU12 x.toNatClampNeg (by have q1 := iv_cl hsx0_27 (by decide); have q2 := (hsx0_27).2; omega); rw [← ez_1] at q9; omega))⟩, by rw [ht]; exact hP, va_K.moved hW.alike hK, hD⟩, hS.F ht, by rw [ht]; exact hN⟩) hS.2.2 dX3_takeWhite_37)))
  refine ec_aload_n hx hb dX3_takeWhite_0 rfl (lv_at hl 0 rfl) ?_
  refine cr_get (t := 9) (j := 1) (C := RX3) (T := TX3) (N := 21) (v := .int (gm 11 x.toNatClampNeg)) hx hb htb inX3 hown hK hP hvx (by decide) (by decide) (by decide) rfl (by decide) (htb _ kw_381) rfl dX3_takeWhite_1 ?_
  obtain ⟨z_5, ez_5⟩ : ∃ z : Int32, z = (gm 11 x.toNatClampNeg) := ⟨_, rfl⟩
  refine W.eq (g2 := F0 m 4 ls [.int z_5]) (by rw [ez_5]) ?_
  have hz_5 : iv 0 24 z_5 := iv_of ez_5 (CI_a hI 11 hvx (by decide))
  refine lv_if_ne (tgt := 8) hx hb dX3_takeWhite_4 (by decide) (fun c_6 => ?_) (fun c_6 => ?_)
  · have h_7 : iv 1 24 z_5 := iv_neL c_6 hz_5 (by decide)
    refine ec_aload_n hx hb dX3_takeWhite_8 rfl (lv_at hl 0 rfl) ?_
    refine cr_get (t := 9) (j := 2) (C := RX3) (T := TX3) (N := 21) (v := .int (gm 12 x.toNatClampNeg)) hx hb htb inX3 hown hK hP hvx (by decide) (by decide) (by decide) rfl (by decide) (htb _ kw_382) rfl dX3_takeWhite_9 ?_
    obtain ⟨z_8, ez_8⟩ : ∃ z : Int32, z = (gm 12 x.toNatClampNeg) := ⟨_, rfl⟩
    refine W.eq (g2 := F0 m 12 ls [.int z_8]) (by rw [ez_8]) ?_
    have hz_8 : iv 0 2000000 z_8 := iv_of ez_8 (CI_a hI 12 hvx (by decide))
    have h_9 : iv 0 1999990 z_8 := ⟨(hz_8).1, by have q9 := hU12 x.toNatClampNeg (by have q1 := iv_cl hvx (by decide); have q2 := (hvx).2; omega); rw [ez_8]; omega⟩
    refine lv_bipush (v := 24) hx hb dX3_takeWhite_12 (by decide) ?_
    refine lv_icmp_ge (tgt := 27) hx hb dX3_takeWhite_14 (by decide) (fun c_10 => ?_) (fun c_10 => ?_)
    · have h_11 : iv 24 1999990 z_8 := iv_leR c_10 (iv_k (by decide) : iv 24 24 24) h_9 (by decide)
      exact hj27 gm hvx hvcc KS_rf hI _ _ _ hP hD hS (lv_sub hl [0, 1] rfl)
    · have h_12 : iv 0 23 z_8 := iv_ltL (i32_lt c_10) h_9 (iv_k (by decide) : iv 24 24 24) (by decide)
      refine ec_aload_n hx hb dX3_takeWhite_17 rfl (lv_at hl 0 rfl) ?_
      refine cr_get (t := 9) (j := 0) (C := RX3) (T := TX3) (N := 21) (v := eV (ad 31) x) hx hb htb inX3 hown hK hP hvx (by decide) (by decide) (by decide) rfl (by decide) (htb _ kw_74) (cV_c rfl (hvx).1 (by rw [show cMu 9 0 = 1 from rfl, Nat.one_mul]; rfl)) dX3_takeWhite_18 ?_
      refine ec_aload_n hx hb dX3_takeWhite_21 rfl (lv_at hl 0 rfl) ?_
      refine cr_get (t := 9) (j := 2) (C := RX3) (T := TX3) (N := 21) (v := .int (gm 12 x.toNatClampNeg)) hx hb htb inX3 hown hK hP hvx (by decide) (by decide) (by decide) rfl (by decide) (htb _ kw_382) rfl dX3_takeWhite_22 ?_
      refine W.eq (g2 := F0 m 25 ls [.int z_8, eV (ad 31) x]) (by rw [show (gm 12 x.toNatClampNeg) = z_8 from ez_8.symm]) ?_
      refine lv_iload_n hx hb dX3_takeWhite_25 rfl (lv_at hl 1 rfl) ?_
      refine cr_cast (t := 31) (k := 56) (n9 := (24 * x.toNatClampNeg + (z_8 : Int32).toNatClampNeg)) (z := cc) hx hb hK hP hD hS hvx (by decide) (by decide) (by decide) rfl rfl rfl (show vp_in z_8 (cLen 31) from (show vp_in z_8 24 from (iv_in h_12 (by decide)))) (Or.inr (vin_lt (show vp_in z_8 (cLen 31) from (show vp_in z_8 24 from (iv_in h_12 (by decide)))))) rfl dX3_takeWhite_26 (fun gm_13 H locs egm_13 hP hD hS => ?_)
      rw [vnc hvcc] at egm_13
      have hI_gm_13 := CI_st hI egm_13 hvcc (by decide)
      exact hj27 gm_13 hvx hvcc (KS_up KS_rf egm_13 (by decide)) hI_gm_13 _ _ _ hP hD hS (lv_sub hl [0, 1] rfl)
  · have h_14 : iv 0 0 z_5 := iv_eq c_6 hz_5 (iv_k (by decide) : iv 0 0 0) (by decide)
    exact W.nb (fun hN => W.widen (k := 1) (n := 6) (by decide) (by decide) (vx_ret (W.vret hx hb hr (fun t ht hW => ⟨⟨none, (sg, gm, lg), rfl, ⟨rfl, sg, gm, lg, rfl, hI, KS_rf, KS_rf, KS_rf, (UB_k hU12 rfl (by omega))⟩, by rw [ht]; exact hP, va_K.moved hW.alike hK, hD⟩, hS.F ht, by rw [ht]; exact hN⟩) hS.2.2 dX3_takeWhite_7)))
