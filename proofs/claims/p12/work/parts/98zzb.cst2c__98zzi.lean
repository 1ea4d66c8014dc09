section
theorem STN_0 {D : List El7} {x : Nat} (g : STN D x) : ¬ dKd D x = 0 := by
  unfold STN at g
  rcases g with ⟨q, p⟩ | ⟨q, p⟩ | ⟨q, p⟩ | ⟨q, p⟩ | ⟨q, p⟩ | ⟨q, p⟩ | ⟨q, p⟩ | ⟨q, p⟩ <;> (clear p; omega)
theorem FND_x {gm : Nat → Nat → Int32} {lg : Nat → Nat → Int64} {j : Nat} {k : Int64} (h0 : 0 ≤ (gm 19 j).toInt) (hb : (gm 19 j).toInt + (gm 20 j).toInt ≤ 240) (hc : 0 ≤ (gm 20 j).toInt) : ∃ r, FND gm lg j k r := by
  have key : ∀ n, (∀ i, i < n → ¬ lg 0 ((gm 19 j).toNatClampNeg + i) = k) ∨ ∃ i, i < n ∧ lg 0 ((gm 19 j).toNatClampNeg + i) = k ∧ ∀ i', i' < i → ¬ lg 0 ((gm 19 j).toNatClampNeg + i') = k := by
    intro n
    induction n with
    | zero => exact Or.inl (fun i hi => absurd hi (Nat.not_lt_zero i))
    | succ n ih =>
      rcases ih with a | ⟨i, b1, b2, b3⟩
      · by_cases e : lg 0 ((gm 19 j).toNatClampNeg + n) = k
        · exact Or.inr ⟨n, by omega, e, a⟩
        · exact Or.inl (fun i hi => by
            by_cases q : i = n
            · rw [q]; exact e
            · exact a i (by omega))
      · exact Or.inr ⟨i, by omega, b2, b3⟩
  have q1 : (gm 19 j).toNatClampNeg = (gm 19 j).toInt.toNat := rfl
  have q2 : (gm 20 j).toNatClampNeg = (gm 20 j).toInt.toNat := rfl
  rcases key (gm 20 j).toNatClampNeg with a | ⟨i, b1, b2, b3⟩
  · exact ⟨-1, Or.inl ⟨by decide, fun i _ hi => a i hi⟩⟩
  · have e : (nI ((gm 19 j).toNatClampNeg + i)).toInt = (((gm 19 j).toNatClampNeg + i : Nat) : Int) := nI_toInt (by omega)
    exact ⟨nI ((gm 19 j).toNatClampNeg + i), Or.inr ⟨i, b1, by show (nI ((gm 19 j).toNatClampNeg + i)).toInt.toNat = _; omega, by omega, fun i' _ h => b3 i' h, b2⟩⟩
theorem LVP_of {A7 : At7} {gm : Nat → Nat → Int32} {lg : Nat → Nat → Int64} {j : Nat} {k : Int64} {P5 P6 : Int} (ha : ATC A7 gm lg j P5 P6) (h5 : P5 ≤ 240) (h : 0 ≤ lv7 A7 k) : LVP gm lg j k := by
  have h3 := ha.2.2.1
  have h1 := ha.1
  obtain ⟨r, hr⟩ := FND_x (gm := gm) (lg := lg) (j := j) (k := k) ha.2.1 (by omega) (by omega)
  rcases FND_l hr ha with ⟨a1, a2⟩ | ⟨a1, v, a2, a3⟩
  · unfold lv7 at h; rw [a2] at h; exact absurd h (by decide)
  · unfold lv7 at h
    rw [a2] at h
    cases v with
    | nil => exact absurd h (by decide)
    | cons c t => cases t with
      | nil =>
        have h : 0 ≤ if 97 ≤ c ∧ c ≤ 122 then c - 97 else -1 := h
        by_cases q : 97 ≤ c ∧ c ≤ 122
        · have e := a3.2 0 c rfl
          rw [Nat.add_zero] at e
          exact ⟨r, hr, a1, a3.1, by omega, by omega⟩
        · rw [if_neg q] at h; exact absurd h (by decide)
      | cons d u => exact absurd (show (0 : Int) ≤ -1 from h) (by decide)
/-- a right element bears what the rest wants to know -/
theorem SOK_of {D : List El7} {sg : Nat → Int32} {gm : Nat → Nat → Int32} {lg : Nat → Nat → Int64} {j : Nat} (hP : PA7 (dAt D j)) (h5 : (sg 5).toInt ≤ 240) (hE : EV7 D sg gm lg j) (hk : ¬ dKd D j = 0) (g : GOODC D j) : SOK gm lg j := by
  obtain ⟨g1, g2, g3, g4, g5⟩ := g
  obtain ⟨m, r⟩ := ATN_e.mp g2
  have hr := kd7_r (dEl D j).2.2.1.toInt
  have hd : dKd D j = kd7 (dEl D j).2.2.1.toInt := rfl
  have hw := KW_j hE.1 (by omega)
  have key : ∀ w k : Int, (gm 14 j).toInt = w → kwF w = k → dKd D j = k := fun w k e1 e2 => by have := hE.1; unfold KW7 at this; rw [e1, e2] at this; exact this.symm
  refine ⟨?_, ?_, ?_, ?_⟩
  · rw [hw]
    rcases (show dKd D j = 1 ∨ dKd D j = 2 ∨ dKd D j = 3 ∨ dKd D j = 4 ∨ dKd D j = 5 ∨ dKd D j = 6 ∨ dKd D j = 7 ∨ dKd D j = 8 ∨ dKd D j = 9 ∨ dKd D j = 10 by omega) with e | e | e | e | e | e | e | e | e | e <;> rw [e] <;> decide
  · intro h0 hq
    have hin : dIn D j = 4 ∨ dIn D j = 5 := by
      have := hE.2.2.2.1 (by have := hE.2.2.1.1; omega)
      unfold KW7 at this
      rcases hq with e | e
      · rw [e] at this; exact Or.inl (this.symm.trans (by decide))
      · rw [e] at this; exact Or.inr (this.symm.trans (by decide))
    have kk : dKd D j = 3 ∨ dKd D j = 6 ∨ dKd D j = 7 ∨ dKd D j = 8 ∨ dKd D j = 9 := by
      unfold STN at g1
      rcases g1 with ⟨a, b⟩ | ⟨a, b⟩ | ⟨a, b⟩ | ⟨a, b⟩ | ⟨a, b⟩ | ⟨a, b⟩ | ⟨a, b⟩ | ⟨a, b⟩
      · have := hE.2.2.1.1; omega
      · omega
      · omega
      · have := b.1; omega
      · have := b.1; omega
      · have := b.1; omega
      · omega
      · omega
    rw [hw]
    rcases kk with e | e | e | e | e <;> rw [e] <;> decide
  · intro e
    have k5 := key 4 5 e (by decide)
    have n1 := g3.2.2.1.resolve_left (fun v => v k5)
    rw [k5] at r
    have := ((rv_NAME hP).mp ((r 1851878757).resolve_left (by rw [n1]; decide))).resolve_left (fun v => absurd v.1 (by decide))
    exact LVP_of hE.2.1 h5 this.2
  · intro e hI hH
    have k3 := key 2 3 e (by decide)
    have hi : ¬ dIn D j = 1 := fun q => hI ((ISI_d hE (a := 0) (K := 1) (by unfold KW7; decide) (by decide)).mpr q)
    rw [k3] at m
    have a0 := may0 (k := 26980) m (by decide) hi
    have hh := (hsk_h hE.2.1).mp hH
    unfold aH at a0
    rw [if_pos (show hasK (dAt D j) 26980 = true from hh)] at a0
    exact absurd a0 (by decide)

set_option maxHeartbeats 4000000 in
set_option maxRecDepth 100000 in
theorem d_standsRight2 (l : Launch) (dC : Nat → ClassId) (dI : Nat → Nat → Nat) (ad : Nat → Nat → Nat) (cid : Nat → ClassId) (a2 : Nat → Nat) (lx : List Nat) (sg : Nat → Int32) (gm : Nat → Nat → Int32) (lg : Nat → Nat → Int64) (x : Int32) (o : Int32) (D : List El7) (hI : CI sg gm) (hvx : iv 0 0 x) (hvo : iv 0 79 o) (hFA : FA sg gm) (how : o.toInt < (sg 4).toInt) (hVS : VS sg gm) (hLK : LK sg gm) (hw0 : 0 ≤ (gm 14 o.toNatClampNeg).toInt) (hEV : EV7 D sg gm lg o.toNatClampNeg) (hRC : RDC D sg gm lg) : CMt dC dI ad cid a2 lx l yX9_standsRight wm_X9_standsRight ({ frames := 3, cells := 1, slots := 6, locals := 71 }) [eV (ad 3) x, eV (ad 9) o] sg gm lg (fun v u => ∃ r : Int32, v = some (.int r) ∧ u = (sg, gm, lg) ∧ (iv 0 1 r) ∧ ((r.toInt = 1 ∧ (STN D o.toNatClampNeg)) ∨ (r.toInt = 0 ∧ ¬ (STN D o.toNatClampNeg)))) (fun _ _ => False) := by
  intro sz
  refine vx_ofW (cc := cX9_standsRight) (maxL := 2) (ret := (some .boolean)) (by decide) rfl ?_
  intro p e s m args below meth c s₁ B hml hxt hv
  obtain ⟨rfl, hsz, hP, hK, hD0, hG⟩ := hv
  have hx := B.exec
  have hb := B.bytes
  have hr := B.returns
  have hts := atoms_spec (ws := wm_X9_standsRight) B.pre
  have htb := fun (w : Cond) (h : w ∈ tb) => hts w (List.mem_cons_of_mem _ h)
  have hown : s.vm.findClass RX9 = some m.cls := findClass_of_methodNamed B.named
  have hlocks := B.notSynchronized
  subst hsz
  have hD := hD0.self (sz := s.heap.size)
  generalize hAe : va_A (cW ad cid a2 lx sg gm lg) s.heap.size = A at hD hG ⊢
  have hA : ∀ q : Nat, s.heap.size ≤ q → A q := fun q h => by rw [← hAe]; exact Or.inr h
  have hS : va_S A s.heap s.heap [] := va_S.rf
  have hl := lv_entry ([eV (ad 3) x, eV (ad 9) o]) (n := 2) (by rw [show (lg_sl ([eV (ad 3) x, eV (ad 9) o])).length = 2 from by simp [lg_sl, eV_cat, cat_i, cat_l]]; exact Nat.le_of_ble_eq_true rfl)
  rw [lg_entry_eq]
  generalize (lg_sl ([eV (ad 3) x, eV (ad 9) o]) ++ List.replicate (2 - (lg_sl ([eV (ad 3) x, eV (ad 9) o])).length) Slot.unset).toArray = ls at hl ⊢
  have hl : lv_has ls 2 [(0, eV (ad 3) x), (1, eV (ad 9) o)] := by simp [lv_args, eV_cat, cat_i, cat_l] at hl; exact hl
  have hj76 : ∀ (y0_76 : Int32) (_ : iv 0 0 x) (_ : iv 0 79 o) (_ : iv 0 1 y0_76) (_ : (y0_76.toInt = 1 ∧ (STN D o.toNatClampNeg)) ∨ (y0_76.toInt = 0 ∧ ¬ (STN D o.toNatClampNeg))) (H : Heap) (locs : List Loc) (ls : Array Slot), va_P (dC, dI) vwCl (cW ad cid a2 lx sg gm lg) H → va_D A (cW ad cid a2 lx sg gm lg) → va_S A s.heap H locs → lv_has ls 2 [(0, eV (ad 3) x), (1, eV (ad 9) o)] → W p l e (headSpec wm_X9_standsRight ({ frames := 3, cells := 1, slots := 6, locals := 71 })).room s m ([eV (ad 3) x, eV (ad 9) o] : List Value).toArray below meth c H locs 0 0 (vx_MQ below (cQx dC dI ad cid a2 lx (fun v u => ∃ r : Int32, v = some (.int r) ∧ u = (sg, gm, lg) ∧ (iv 0 1 r) ∧ ((r.toInt = 1 ∧ (STN D o.toNatClampNeg)) ∨ (r.toInt = 0 ∧ ¬ (STN D o.toNatClampNeg)))) A) (cX dC dI ad cid a2 lx (fun _ _ => False) A) ([eV (ad 3) x, eV (ad 9) o] : List Value).toArray s 1 6 A) (F0 m 76 ls [.int y0_76]) := by
    intro y0_76 hsx0_76 hsx1_76 hy0_76 u76 H locs ls hP hD hS hl
    exact W.nb (fun hN => W.widen (k := 1) (n := 6) (by decide) (by decide) (vx_ret (W.zret (v := y0_76) hx hb hr (iv_nb hy0_76) (fun t ht hW => ⟨⟨some (.int y0_76), (sg, gm, lg), rfl, ⟨y0_76, rfl, rfl, hy0_76, (u76)⟩, by rw [ht]; exact hP, va_K.moved hW.alike hK, hD⟩, hS.F ht, by rw [ht]; exact hN⟩) hS.2.2 dX9_standsRight_76)))
  have hj108 : ∀ (y0_108 : Int32) (_ : iv 0 0 x) (_ : iv 0 79 o) (_ : iv 0 1 y0_108) (_ : (y0_108.toInt = 1 ∧ (STN D o.toNatClampNeg)) ∨ (y0_108.toInt = 0 ∧ ¬ (STN D o.toNatClampNeg))) (H : Heap) (locs : List Loc) (ls : Array Slot), va_P (dC, dI) vwCl (cW ad cid a2 lx sg gm lg) H → va_D A (cW ad cid a2 lx sg gm lg) → va_S A s.heap H locs → lv_has ls 2 [(0, eV (ad 3) x), (1, eV (ad 9) o)] → W p l e (headSpec wm_X9_standsRight ({ frames := 3, cells := 1, slots := 6, locals := 71 })).room s m ([eV (ad 3) x, eV (ad 9) o] : List Value).toArray below meth c H locs 0 0 (vx_MQ below (cQx dC dI ad cid a2 lx (fun v u => ∃ r : Int32, v = some (.int r) ∧ u = (sg, gm, lg) ∧ (iv 0 1 r) ∧ ((r.toInt = 1 ∧ (STN D o.toNatClampNeg)) ∨ (r.toInt = 0 ∧ ¬ (STN D o.toNatClampNeg)))) A) (cX dC dI ad cid a2 lx (fun _ _ => False) A) ([eV (ad 3) x, eV (ad 9) o] : List Value).toArray s 1 6 A) (F0 m 108 ls [.int y0_108]) := by
    intro y0_108 hsx0_108 hsx1_108 hy0_108 u108 H locs ls hP hD hS hl
    exact W.nb (fun hN => W.widen (k := 1) (n := 6) (by decide) (by decide) (vx_ret (W.zret (v := y0_108) hx hb hr (iv_nb hy0_108) (fun t ht hW => ⟨⟨some (.int y0_108), (sg, gm, lg), rfl, ⟨y0_108, rfl, rfl, hy0_108, (u108)⟩, by rw [ht]; exact hP, va_K.moved hW.alike hK, hD⟩, hS.F ht, by rw [ht]; exact hN⟩) hS.2.2 dX9_standsRight_108)))
  have hj103 : ∀ (_ : iv 0 0 x) (_ : iv 0 79 o) (_ : STN D o.toNatClampNeg) (H : Heap) (locs : List Loc) (ls : Array Slot), va_P (dC, dI) vwCl (cW ad cid a2 lx sg gm lg) H → va_D A (cW ad cid a2 lx sg gm lg) → va_S A s.heap H locs → lv_has ls 2 [(0, eV (ad 3) x), (1, eV (ad 9) o)] → W p l e (headSpec wm_X9_standsRight ({ frames := 3, cells := 1, slots := 6, locals := 71 })).room s m ([eV (ad 3) x, eV (ad 9) o] : List Value).toArray below meth c H locs 0 0 (vx_MQ below (cQx dC dI ad cid a2 lx (fun v u => ∃ r : Int32, v = some (.int r) ∧ u = (sg, gm, lg) ∧ (iv 0 1 r) ∧ ((r.toInt = 1 ∧ (STN D o.toNatClampNeg)) ∨ (r.toInt = 0 ∧ ¬ (STN D o.toNatClampNeg)))) A) (cX dC dI ad cid a2 lx (fun _ _ => False) A) ([eV (ad 3) x, eV (ad 9) o] : List Value).toArray s 1 6 A) (F0 m 103 ls []) := by
    intro  hsx0_103 hsx1_103 u103 H locs ls hP hD hS hl
    refine lv_iconst (v := 1) hx hb dX9_standsRight_103 (by decide) ?_
    refine lv_goto (tgt := 108) hx hb dX9_standsRight_104 (by decide) ?_
    exact hj108 1 hsx0_103 hsx1_103 (iv_w (iv_k (by decide) : iv 1 1 1) (by decide)) (Or.inl ⟨rfl, u103⟩) _ _ _ hP hD hS (lv_sub hl [0, 1] rfl)
  have hj133 : ∀ (y0_133 : Int32) (_ : iv 0 0 x) (_ : iv 0 79 o) (_ : iv 0 1 y0_133) (_ : (y0_133.toInt = 1 ∧ (STN D o.toNatClampNeg)) ∨ (y0_133.toInt = 0 ∧ ¬ (STN D o.toNatClampNeg))) (H : Heap) (locs : List Loc) (ls : Array Slot), va_P (dC, dI) vwCl (cW ad cid a2 lx sg gm lg) H → va_D A (cW ad cid a2 lx sg gm lg) → va_S A s.heap H locs → lv_has ls 2 [(0, eV (ad 3) x), (1, eV (ad 9) o)] → W p l e (headSpec wm_X9_standsRight ({ frames := 3, cells := 1, slots := 6, locals := 71 })).room s m ([eV (ad 3) x, eV (ad 9) o] : List Value).toArray below meth c H locs 0 0 (vx_MQ below (cQx dC dI ad cid a2 lx (fun v u => ∃ r : Int32, v = some (.int r) ∧ u = (sg, gm, lg) ∧ (iv 0 1 r) ∧ ((r.toInt = 1 ∧ (STN D o.toNatClampNeg)) ∨ (r.toInt = 0 ∧ ¬ (STN D o.toNatClampNeg)))) A) (cX dC dI ad cid a2 lx (fun _ _ => False) A) ([eV (ad 3) x, eV (ad 9) o] : List Value).toArray s 1 6 A) (F0 m 133 ls [.int y0_133]) := by
    intro y0_133 hsx0_133 hsx1_133 hy0_133 u133 H locs ls hP hD hS hl
    exact W.nb (fun hN => W.widen (k := 1) (n := 6) (by decide) (by decide) (vx_ret (W.zret (v := y0_133) hx hb hr (iv_nb hy0_133) (fun t ht hW => ⟨⟨some (.int y0_133), (sg, gm, lg), rfl, ⟨y0_133, rfl, rfl, hy0_133, (u133)⟩, by rw [ht]; exact hP, va_K.moved hW.alike hK, hD⟩, hS.F ht, by rw [ht]; exact hN⟩) hS.2.2 dX9_standsRight_133)))
  have hj132 : ∀ (_ : iv 0 0 x) (_ : iv 0 79 o) (_ : ¬ STN D o.toNatClampNeg) (H : Heap) (locs : List Loc) (ls : Array Slot), va_P (dC, dI) vwCl (cW ad cid a2 lx sg gm lg) H → va_D A (cW ad cid a2 lx sg gm lg) → va_S A s.heap H locs → lv_has ls 2 [(0, eV (ad 3) x), (1, eV (ad 9) o)] → W p l e (headSpec wm_X9_standsRight ({ frames := 3, cells := 1, slots := 6, locals := 71 })).room s m ([eV (ad 3) x, eV (ad 9) o] : List Value).toArray below meth c H locs 0 0 (vx_MQ below (cQx dC dI ad cid a2 lx (fun v u => ∃ r : Int32, v = some (.int r) ∧ u = (sg, gm, lg) ∧ (iv 0 1 r) ∧ ((r.toInt = 1 ∧ (STN D o.toNatClampNeg)) ∨ (r.toInt = 0 ∧ ¬ (STN D o.toNatClampNeg)))) A) (cX dC dI ad cid a2 lx (fun _ _ => False) A) ([eV (ad 3) x, eV (ad 9) o] : List Value).toArray s 1 6 A) (F0 m 132 ls []) := by
    intro  hsx0_132 hsx1_132 u132 H locs ls hP hD hS hl
    refine lv_iconst (v := 0) hx hb dX9_standsRight_132 (by decide) ?_
    exact hj133 0 hsx0_132 hsx1_132 (iv_w (iv_k (by decide) : iv 0 0 0) (by decide)) (Or.inr ⟨rfl, u132⟩) _ _ _ hP hD hS (lv_sub hl [0, 1] rfl)
  have hj167 : ∀ (y0_167 : Int32) (_ : iv 0 0 x) (_ : iv 0 79 o) (_ : iv 0 1 y0_167) (_ : (y0_167.toInt = 1 ∧ (STN D o.toNatClampNeg)) ∨ (y0_167.toInt = 0 ∧ ¬ (STN D o.toNatClampNeg))) (H : Heap) (locs : List Loc) (ls : Array Slot), va_P (dC, dI) vwCl (cW ad cid a2 lx sg gm lg) H → va_D A (cW ad cid a2 lx sg gm lg) → va_S A s.heap H locs → lv_has ls 2 [(0, eV (ad 3) x), (1, eV (ad 9) o)] → W p l e (headSpec wm_X9_standsRight ({ frames := 3, cells := 1, slots := 6, locals := 71 })).room s m ([eV (ad 3) x, eV (ad 9) o] : List Value).toArray below meth c H locs 0 0 (vx_MQ below (cQx dC dI ad cid a2 lx (fun v u => ∃ r : Int32, v = some (.int r) ∧ u = (sg, gm, lg) ∧ (iv 0 1 r) ∧ ((r.toInt = 1 ∧ (STN D o.toNatClampNeg)) ∨ (r.toInt = 0 ∧ ¬ (STN D o.toNatClampNeg)))) A) (cX dC dI ad cid a2 lx (fun _ _ => False) A) ([eV (ad 3) x, eV (ad 9) o] : List Value).toArray s 1 6 A) (F0 m 167 ls [.int y0_167]) := by
    intro y0_167 hsx0_167 hsx1_167 hy0_167 u167 H locs ls hP hD hS hl
    exact W.nb (fun hN => W.widen (k := 1) (n := 6) (by decide) (by decide) (vx_ret (W.zret (v := y0_167) hx hb hr (iv_nb hy0_167) (fun t ht hW => ⟨⟨some (.int y0_167), (sg, gm, lg), rfl, ⟨y0_167, rfl, rfl, hy0_167, (u167)⟩, by rw [ht]; exact hP, va_K.moved hW.alike hK, hD⟩, hS.F ht, by rw [ht]; exact hN⟩) hS.2.2 dX9_standsRight_167)))
  have hj166 : ∀ (_ : iv 0 0 x) (_ : iv 0 79 o) (_ : ¬ STN D o.toNatClampNeg) (H : Heap) (locs : List Loc) (ls : Array Slot), va_P (dC, dI) vwCl (cW ad cid a2 lx sg gm lg) H → va_D A (cW ad cid a2 lx sg gm lg) → va_S A s.heap H locs → lv_has ls 2 [(0, eV (ad 3) x), (1, eV (ad 9) o)] → W p l e (headSpec wm_X9_standsRight ({ frames := 3, cells := 1, slots := 6, locals := 71 })).room s m ([eV (ad 3) x, eV (ad 9) o] : List Value).toArray below meth c H locs 0 0 (vx_MQ below (cQx dC dI ad cid a2 lx (fun v u => ∃ r : Int32, v = some (.int r) ∧ u = (sg, gm, lg) ∧ (iv 0 1 r) ∧ ((r.toInt = 1 ∧ (STN D o.toNatClampNeg)) ∨ (r.toInt = 0 ∧ ¬ (STN D o.toNatClampNeg)))) A) (cX dC dI ad cid a2 lx (fun _ _ => False) A) ([eV (ad 3) x, eV (ad 9) o] : List Value).toArray s 1 6 A) (F0 m 166 ls []) := by
    intro  hsx0_166 hsx1_166 u166 H locs ls hP hD hS hl
    refine lv_iconst (v := 0) hx hb dX9_standsRight_166 (by decide) ?_
    exact hj167 0 hsx0_166 hsx1_166 (iv_w (iv_k (by decide) : iv 0 0 0) (by decide)) (Or.inr ⟨rfl, u166⟩) _ _ _ hP hD hS (lv_sub hl [0, 1] rfl)
  have hj200 : ∀ (y0_200 : Int32) (_ : iv 0 0 x) (_ : iv 0 79 o) (_ : iv 0 1 y0_200) (_ : (y0_200.toInt = 1 ∧ (STN D o.toNatClampNeg)) ∨ (y0_200.toInt = 0 ∧ ¬ (STN D o.toNatClampNeg))) (H : Heap) (locs : List Loc) (ls : Array Slot), va_P (dC, dI) vwCl (cW ad cid a2 lx sg gm lg) H → va_D A (cW ad cid a2 lx sg gm lg) → va_S A s.heap H locs → lv_has ls 2 [(0, eV (ad 3) x), (1, eV (ad 9) o)] → W p l e (headSpec wm_X9_standsRight ({ frames := 3, cells := 1, slots := 6, locals := 71 })).room s m ([eV (ad 3) x, eV (ad 9) o] : List Value).toArray below meth c H locs 0 0 (vx_MQ below (cQx dC dI ad cid a2 lx (fun v u => ∃ r : Int32, v = some (.int r) ∧ u = (sg, gm, lg) ∧ (iv 0 1 r) ∧ ((r.toInt = 1 ∧ (STN D o.toNatClampNeg)) ∨ (r.toInt = 0 ∧ ¬ (STN D o.toNatClampNeg)))) A) (cX dC dI ad cid a2 lx (fun _ _ => False) A) ([eV (ad 3) x, eV (ad 9) o] : List Value).toArray s 1 6 A) (F0 m 200 ls [.int y0_200]) := by
    intro y0_200 hsx0_200 hsx1_200 hy0_200 u200 H locs ls hP hD hS hl
    exact W.nb (fun hN => W.widen (k := 1) (n := 6) (by decide) (by decide) (vx_ret (W.zret (v := y0_200) hx hb hr (iv_nb hy0_200) (fun t ht hW => ⟨⟨some (.int y0_200), (sg, gm, lg), rfl, ⟨y0_200, rfl, rfl, hy0_200, (u200)⟩, by rw [ht]; exact hP, va_K.moved hW.alike hK, hD⟩, hS.F ht, by rw [ht]; exact hN⟩) hS.2.2 dX9_standsRight_200)))
  have hj199 : ∀ (_ : iv 0 0 x) (_ : iv 0 79 o) (_ : ¬ STN D o.toNatClampNeg) (H : Heap) (locs : List Loc) (ls : Array Slot), va_P (dC, dI) vwCl (cW ad cid a2 lx sg gm lg) H → va_D A (cW ad cid a2 lx sg gm lg) → va_S A s.heap H locs → lv_has ls 2 [(0, eV (ad 3) x), (1, eV (ad 9) o)] → W p l e (headSpec wm_X9_standsRight ({ frames := 3, cells := 1, slots := 6, locals := 71 })).room s m ([eV (ad 3) x, eV (ad 9) o] : List Value).toArray below meth c H locs 0 0 (vx_MQ below (cQx dC dI ad cid a2 lx (fun v u => ∃ r : Int32, v = some (.int r) ∧ u = (sg, gm, lg) ∧ (iv 0 1 r) ∧ ((r.toInt = 1 ∧ (STN D o.toNatClampNeg)) ∨ (r.toInt = 0 ∧ ¬ (STN D o.toNatClampNeg)))) A) (cX dC dI ad cid a2 lx (fun _ _ => False) A) ([eV (ad 3) x, eV (ad 9) o] : List Value).toArray s 1 6 A) (F0 m 199 ls []) := by
    intro  hsx0_199 hsx1_199 u199 H locs ls hP hD hS hl
    refine lv_iconst (v := 0) hx hb dX9_standsRight_199 (by decide) ?_
    exact hj200 0 hsx0_199 hsx1_199 (iv_w (iv_k (by decide) : iv 0 0 0) (by decide)) (Or.inr ⟨rfl, u199⟩) _ _ _ hP hD hS (lv_sub hl [0, 1] rfl)
  have hj226 : ∀ (y0_226 : Int32) (_ : iv 0 0 x) (_ : iv 0 79 o) (_ : iv 0 1 y0_226) (_ : (y0_226.toInt = 1 ∧ (STN D o.toNatClampNeg)) ∨ (y0_226.toInt = 0 ∧ ¬ (STN D o.toNatClampNeg))) (H : Heap) (locs : List Loc) (ls : Array Slot), va_P (dC, dI) vwCl (cW ad cid a2 lx sg gm lg) H → va_D A (cW ad cid a2 lx sg gm lg) → va_S A s.heap H locs → lv_has ls 2 [(0, eV (ad 3) x), (1, eV (ad 9) o)] → W p l e (headSpec wm_X9_standsRight ({ frames := 3, cells := 1, slots := 6, locals := 71 })).room s m ([eV (ad 3) x, eV (ad 9) o] : List Value).toArray below meth c H locs 0 0 (vx_MQ below (cQx dC dI ad cid a2 lx (fun v u => ∃ r : Int32, v = some (.int r) ∧ u = (sg, gm, lg) ∧ (iv 0 1 r) ∧ ((r.toInt = 1 ∧ (STN D o.toNatClampNeg)) ∨ (r.toInt = 0 ∧ ¬ (STN D o.toNatClampNeg)))) A) (cX dC dI ad cid a2 lx (fun _ _ => False) A) ([eV (ad 3) x, eV (ad 9) o] : List Value).toArray s 1 6 A) (F0 m 226 ls [.int y0_226]) := by
    intro y0_226 hsx0_226 hsx1_226 hy0_226 u226 H locs ls hP hD hS hl
    exact W.nb (fun hN => W.widen (k := 1) (n := 6) (by decide) (by decide) (vx_ret (W.zret (v := y0_226) hx hb hr (iv_nb hy0_226) (fun t ht hW => ⟨⟨some (.int y0_226), (sg, gm, lg), rfl, ⟨y0_226, rfl, rfl, hy0_226, (u226)⟩, by rw [ht]; exact hP, va_K.moved hW.alike hK, hD⟩, hS.F ht, by rw [ht]; exact hN⟩) hS.2.2 dX9_standsRight_226)))
  have hj221 : ∀ (_ : iv 0 0 x) (_ : iv 0 79 o) (_ : STN D o.toNatClampNeg) (H : Heap) (locs : List Loc) (ls : Array Slot), va_P (dC, dI) vwCl (cW ad cid a2 lx sg gm lg) H → va_D A (cW ad cid a2 lx sg gm lg) → va_S A s.heap H locs → lv_has ls 2 [(0, eV (ad 3) x), (1, eV (ad 9) o)] → W p l e (headSpec wm_X9_standsRight ({ frames := 3, cells := 1, slots := 6, locals := 71 })).room s m ([eV (ad 3) x, eV (ad 9) o] : List Value).toArray below meth c H locs 0 0 (vx_MQ below (cQx dC dI ad cid a2 lx (fun v u => ∃ r : Int32, v = some (.int r) ∧ u = (sg, gm, lg) ∧ (iv 0 1 r) ∧ ((r.toInt = 1 ∧ (STN D o.toNatClampNeg)) ∨ (r.toInt = 0 ∧ ¬ (STN D o.toNatClampNeg)))) A) (cX dC dI ad cid a2 lx (fun _ _ => False) A) ([eV (ad 3) x, eV (ad 9) o] : List Value).toArray s 1 6 A) (F0 m 221 ls []) := by
    intro  hsx0_221 hsx1_221 u221 H locs ls hP hD hS hl
    refine lv_iconst (v := 1) hx hb dX9_standsRight_221 (by decide) ?_
    refine lv_goto (tgt := 226) hx hb dX9_standsRight_222 (by decide) ?_
    exact hj226 1 hsx0_221 hsx1_221 (iv_w (iv_k (by decide) : iv 1 1 1) (by decide)) (Or.inl ⟨rfl, u221⟩) _ _ _ hP hD hS (lv_sub hl [0, 1] rfl)
  have hj227 : ∀ (_ : iv 0 0 x) (_ : iv 0 79 o) (_ : dKd D o.toNatClampNeg = 7 ∨ dKd D o.toNatClampNeg = 8 ∨ dKd D o.toNatClampNeg = 9) (H : Heap) (locs : List Loc) (ls : Array Slot), va_P (dC, dI) vwCl (cW ad cid a2 lx sg gm lg) H → va_D A (cW ad cid a2 lx sg gm lg) → va_S A s.heap H locs → lv_has ls 2 [(0, eV (ad 3) x), (1, eV (ad 9) o)] → W p l e (headSpec wm_X9_standsRight ({ frames := 3, cells := 1, slots := 6, locals := 71 })).room s m ([eV (ad 3) x, eV (ad 9) o] : List Value).toArray below meth c H locs 0 0 (vx_MQ below (cQx dC dI ad cid a2 lx (fun v u => ∃ r : Int32, v = some (.int r) ∧ u = (sg, gm, lg) ∧ (iv 0 1 r) ∧ ((r.toInt = 1 ∧ (STN D o.toNatClampNeg)) ∨ (r.toInt = 0 ∧ ¬ (STN D o.toNatClampNeg)))) A) (cX dC dI ad cid a2 lx (fun _ _ => False) A) ([eV (ad 3) x, eV (ad 9) o] : List Value).toArray s 1 6 A) (F0 m 227 ls []) := by
    intro  hsx0_227 hsx1_227 uK H locs ls hP hD hS hl
    refine ec_aload_n hx hb dX9_standsRight_227 rfl (lv_at hl 0 rfl) ?_
    refine ec_aload_n hx hb dX9_standsRight_228 rfl (lv_at hl 1 rfl) ?_
    refine cm_callV (t := 3) (C := RX9) (T := TX9) (N := 1) (rest := []) (as := [eV (ad 9) o]) ⟨hx, hb, hml, hown, htb⟩ (d_isHeld2 l dC dI ad cid a2 lx sg gm lg x o D hI hsx0_227 hsx1_227 hEV) (cwV 1 htb (gd_V kw_529 kw_530 kw_531 kw_28 kw_1463) rfl rfl rfl (by decide +kernel) ⟨Nat.le_of_ble_eq_true rfl, Nat.le_of_ble_eq_true rfl⟩) hsx0_227 (by decide) (by decide) rfl rfl hl.1 rfl (Nat.le_trans cs_n (by decide)) dX9_standsRight_229 ⟨Nat.le_of_ble_eq_true rfl, Nat.le_of_ble_eq_true rfl⟩ hK hP hD hS hA hG (fun E ce q9 u_2 H locs hw hP hD hS hce hcv hcl => ?_) (fun v9 u_2 H locs hw hP hD hS => ?_)
    · exact hw.elim
    obtain ⟨r_1, rfl, rfl, hr_1, fH_r_1⟩ := hw
    have hP : va_P (dC, dI) vwCl (cW ad cid a2 lx sg gm lg) H := hP
    have hD : va_D A (cW ad cid a2 lx sg gm lg) := hD
    refine W.eq (g2 := F0 m 232 ls [.int r_1]) rfl ?_
    exact W.nb (fun hN => W.widen (k := 1) (n := 6) (by decide) (by decide) (vx_ret (W.zret (v := r_1) hx hb hr (iv_nb hr_1) (fun t ht hW => ⟨⟨some (.int r_1), (sg, gm, lg), rfl, ⟨r_1, rfl, rfl, hr_1, ((fH_r_1.imp (fun q => ⟨q.1, Or.inr (Or.inr (Or.inr (Or.inr (Or.inr (Or.inr (Or.inr (⟨uK, q.2⟩)))))))⟩) (fun q => ⟨q.1, fun q9 => q.2 (uK.elim (fun e => STN_7 e q9) (fun e => e.elim (fun e => STN_8 e q9) (fun e => STN_9 e q9)))⟩)))⟩, by rw [ht]; exact hP, va_K.moved hW.alike hK, hD⟩, hS.F ht, by rw [ht]; exact hN⟩) hS.2.2 dX9_standsRight_232)))
  refine cw_sw hx hb hG hS hown (htb _ kw_514) dX9_standsRight_0 ?_
  refine ec_aload_n hx hb dX9_standsRight_3 rfl (lv_at hl 1 rfl) ?_
  refine cr_get (t := 9) (j := 4) (C := RX3) (T := TX3) (N := 21) (v := eV (ad 33) (gm 14 o.toNatClampNeg)) hx hb htb inX3 hown hK hP hvo (by decide) (by decide) (by decide) rfl (by decide) (htb _ kw_508) rfl dX9_standsRight_4 ?_
  obtain ⟨z_4, ez_4⟩ : ∃ z : Int32, z = (gm 14 o.toNatClampNeg) := ⟨_, rfl⟩
  refine W.eq (g2 := F0 m 7 ls [eV (ad 33) z_4, eV (ad 36) 0]) (by rw [ez_4]) ?_
  have hz_4 : iv (-1) 33 z_4 := iv_of ez_4 (CI_a hI 14 hvo (by decide))
  have h_5 : iv 0 33 z_4 := ⟨by rw [ez_4]; exact hw0, (hz_4).2⟩
  refine cw_ord ⟨hx, hb, hml, hown, htb⟩ kw_520 h_5 hl.1 (Nat.le_trans (cs_c (eV_cat _ _) cs_n) (by decide)) dX9_standsRight_7 ⟨Nat.le_of_ble_eq_true rfl, Nat.le_of_ble_eq_true rfl⟩ ⟨Nat.le_of_ble_eq_true rfl, Nat.le_of_ble_eq_true rfl⟩ hP hD hS hA hG (fun H locs hP hS => ?_)
  refine cw_swld (iv_k (by decide) : iv 0 0 0) hx hb hG hS h_5 dX9_standsRight_10 ?_
  refine lv_topi (fun z_6 ez_6 => ?_)
  have hz_6 : iv 0 29 z_6 := iv_of ez_6 (sw_iv z_4)
  by_cases c_7 : (z_6 : Int32).toInt = 6
  · refine lv_tableIn (tgt := 64) hx hb dX9_standsRight_11 (by rw [c_7]; decide) (by rw [c_7]; decide) (by rw [c_7]; rfl) (by decide) ?_
    have h_8 : iv 6 6 z_6 := iv_at c_7
    refine ec_aload_n hx hb dX9_standsRight_64 rfl (lv_at hl 1 rfl) ?_
    refine cr_get (t := 9) (j := 5) (C := RX3) (T := TX3) (N := 21) (v := eV (ad 9) (gm 15 o.toNatClampNeg)) hx hb htb inX3 hown hK hP hvo (by decide) (by decide) (by decide) rfl (by decide) (htb _ kw_515) rfl dX9_standsRight_65 ?_
    obtain ⟨z_9, ez_9⟩ : ∃ z : Int32, z = (gm 15 o.toNatClampNeg) := ⟨_, rfl⟩
    refine W.eq (g2 := F0 m 68 ls [eV (ad 9) z_9]) (by rw [ez_9]) ?_
    have hz_9 : iv (-1) 79 z_9 := iv_of ez_9 (CI_a hI 15 hvo (by decide))
    refine ec_ifnonnull (tgt := 75) hx hb dX9_standsRight_68 (by decide) (fun c_10 => ?_) (fun c_10 => ?_)
    · have h_11 : iv 0 79 z_9 := ⟨c_10, (hz_9).2⟩
      refine lv_iconst (v := 0) hx hb dX9_standsRight_75 (by decide) ?_
      exact hj76 0 hvx hvo (iv_w (iv_k (by decide) : iv 0 0 0) (by decide)) (Or.inr ⟨rfl, (fun q9 => by have hkd : dKd D o.toNatClampNeg = 1 := KW_f hEV.1 (by unfold KW7; rw [show (gm 14 o.toNatClampNeg).toInt = (0 : Int) from (by rw [← ez_4]; exact swy 0 6 (by decide) (h_5) ez_6 c_7)]; decide); have q8 := STN_1 hkd q9; have := hEV.2.2.1; have := congrArg Int32.toInt ez_9; have := i32_0; have := i32_1; have := i32_2; have := i32_m1; have := (hvx).1; have := (hvx).2; have := (hvo).1; have := (hvo).2; have := (h_5).1; have := (h_5).2; have := (h_8).1; have := (h_8).2; have := (h_11).1; have := (h_11).2; omega)⟩) _ _ _ hP hD hS (lv_sub hl [0, 1] rfl)
    · have h_12 : iv (-1) (-1) z_9 := ⟨(hz_9).1, by omega⟩
      refine lv_iconst (v := 1) hx hb dX9_standsRight_71 (by decide) ?_
      refine lv_goto (tgt := 76) hx hb dX9_standsRight_72 (by decide) ?_
      exact hj76 1 hvx hvo (iv_w (iv_k (by decide) : iv 1 1 1) (by decide)) (Or.inl ⟨rfl, (by have hkd : dKd D o.toNatClampNeg = 1 := KW_f hEV.1 (by unfold KW7; rw [show (gm 14 o.toNatClampNeg).toInt = (0 : Int) from (by rw [← ez_4]; exact swy 0 6 (by decide) (h_5) ez_6 c_7)]; decide); exact Or.inl ⟨hkd, (by have := hEV.2.2.1; have := congrArg Int32.toInt ez_9; have := i32_0; have := i32_1; have := i32_2; have := i32_m1; have := (hvx).1; have := (hvx).2; have := (hvo).1; have := (hvo).2; have := (h_5).1; have := (h_5).2; have := (h_8).1; have := (h_8).2; have := (h_12).1; have := (h_12).2; omega)⟩)⟩) _ _ _ hP hD hS (lv_sub hl [0, 1] rfl)
  by_cases c_13 : (z_6 : Int32).toInt = 7
  · refine lv_tableIn (tgt := 77) hx hb dX9_standsRight_11 (by rw [c_13]; decide) (by rw [c_13]; decide) (by rw [c_13]; rfl) (by decide) ?_
    have h_14 : iv 7 7 z_6 := iv_at c_13
    refine ec_aload_n hx hb dX9_standsRight_77 rfl (lv_at hl 1 rfl) ?_
    refine cw_word (k := 0) (kx := 0) hx hb hG hS (by decide) rfl ⟨by decide, by decide⟩ hown (htb _ kw_516) dX9_standsRight_78 ?_
    refine cm_callV (t := 9) (C := RX3) (T := TX3) (N := 21) (rest := []) (as := [eV (ad 33) 0]) ⟨hx, hb, hml, hown, htb⟩ (d_isIn2 l dC dI ad cid a2 lx sg gm lg o 0 hI hvo (iv_w (iv_k (by decide) : iv 0 0 0) (by decide))) (cwV 1 htb (gd_V kw_526 kw_527 kw_528 kw_66 kw_1462) rfl rfl rfl (by decide +kernel) ⟨Nat.le_of_ble_eq_true rfl, Nat.le_of_ble_eq_true rfl⟩) hvo (by decide) (by decide) rfl rfl hl.1 rfl (Nat.le_trans cs_n (by decide)) dX9_standsRight_81 ⟨Nat.le_of_ble_eq_true rfl, Nat.le_of_ble_eq_true rfl⟩ hK hP hD hS hA hG (fun E ce q9 u_16 H locs hw hP hD hS hce hcv hcl => ?_) (fun v9 u_16 H locs hw hP hD hS => ?_)
    · exact hw.elim
    obtain ⟨r_15, rfl, rfl, hr_15, fI_r_15⟩ := hw
    have hP : va_P (dC, dI) vwCl (cW ad cid a2 lx sg gm lg) H := hP
    have hD : va_D A (cW ad cid a2 lx sg gm lg) := hD
    refine W.eq (g2 := F0 m 84 ls [.int r_15]) rfl ?_
    have gI_r_15 : (r_15.toInt = 1 ∧ dIn D o.toNatClampNeg = 1) ∨ (r_15.toInt = 0 ∧ ¬ dIn D o.toNatClampNeg = 1) := by rw [← ISI_d hEV (a := 0) (K := 1) (by unfold KW7; decide) (by decide)]; exact fI_r_15
    exact W.nb (fun hN => W.widen (k := 1) (n := 6) (by decide) (by decide) (vx_ret (W.zret (v := r_15) hx hb hr (iv_nb hr_15) (fun t ht hW => ⟨⟨some (.int r_15), (sg, gm, lg), rfl, ⟨r_15, rfl, rfl, hr_15, ((by have hkd : dKd D o.toNatClampNeg = 2 := KW_f hEV.1 (by unfold KW7; rw [show (gm 14 o.toNatClampNeg).toInt = (1 : Int) from (by rw [← ez_4]; exact swy 1 7 (by decide) (h_5) ez_6 c_13)]; decide); have := gI_r_15; refine this.imp (fun q => ⟨q.1, Or.inr (Or.inl ⟨hkd, q.2⟩)⟩) (fun q => ⟨q.1, fun q9 => q.2 (STN_2 hkd q9)⟩)))⟩, by rw [ht]; exact hP, va_K.moved hW.alike hK, hD⟩, hS.F ht, by rw [ht]; exact hN⟩) hS.2.2 dX9_standsRight_84)))
  by_cases c_18 : (z_6 : Int32).toInt = 8
  · refine lv_tableIn (tgt := 85) hx hb dX9_standsRight_11 (by rw [c_18]; decide) (by rw [c_18]; decide) (by rw [c_18]; rfl) (by decide) ?_
    have h_19 : iv 8 8 z_6 := iv_at c_18
    refine ec_aload_n hx hb dX9_standsRight_85 rfl (lv_at hl 1 rfl) ?_
    refine cw_word (k := 0) (kx := 0) hx hb hG hS (by decide) rfl ⟨by decide, by decide⟩ hown (htb _ kw_516) dX9_standsRight_86 ?_
    refine cm_callV (t := 9) (C := RX3) (T := TX3) (N := 21) (rest := []) (as := [eV (ad 33) 0]) ⟨hx, hb, hml, hown, htb⟩ (d_isIn2 l dC dI ad cid a2 lx sg gm lg o 0 hI hvo (iv_w (iv_k (by decide) : iv 0 0 0) (by decide))) (cwV 1 htb (gd_V kw_526 kw_527 kw_528 kw_66 kw_1462) rfl rfl rfl (by decide +kernel) ⟨Nat.le_of_ble_eq_true rfl, Nat.le_of_ble_eq_true rfl⟩) hvo (by decide) (by decide) rfl rfl hl.1 rfl (Nat.le_trans cs_n (by decide)) dX9_standsRight_89 ⟨Nat.le_of_ble_eq_true rfl, Nat.le_of_ble_eq_true rfl⟩ hK hP hD hS hA hG (fun E ce q9 u_21 H locs hw hP hD hS hce hcv hcl => ?_) (fun v9 u_21 H locs hw hP hD hS => ?_)
    · exact hw.elim
    obtain ⟨r_20, rfl, rfl, hr_20, fI_r_20⟩ := hw
    have hP : va_P (dC, dI) vwCl (cW ad cid a2 lx sg gm lg) H := hP
    have hD : va_D A (cW ad cid a2 lx sg gm lg) := hD
    refine W.eq (g2 := F0 m 92 ls [.int r_20]) rfl ?_
    have gI_r_20 : (r_20.toInt = 1 ∧ dIn D o.toNatClampNeg = 1) ∨ (r_20.toInt = 0 ∧ ¬ dIn D o.toNatClampNeg = 1) := by rw [← ISI_d hEV (a := 0) (K := 1) (by unfold KW7; decide) (by decide)]; exact fI_r_20
    refine lv_if_ne (tgt := 103) hx hb dX9_standsRight_92 (by decide) (fun c_23 => ?_) (fun c_23 => ?_)
    · have h_24 : iv 1 1 r_20 := iv_neL c_23 hr_20 (by decide)
      exact hj103 hvx hvo ((by have hkd : dKd D o.toNatClampNeg = 3 := KW_f hEV.1 (by unfold KW7; rw [show (gm 14 o.toNatClampNeg).toInt = (2 : Int) from (by rw [← ez_4]; exact swy 2 8 (by decide) (h_5) ez_6 c_18)]; decide); exact Or.inr (Or.inr (Or.inl ⟨hkd, (by have := gI_r_20; have := i32_0; have := i32_1; have := i32_2; have := i32_m1; have := (hvx).1; have := (hvx).2; have := (hvo).1; have := (hvo).2; have := (h_5).1; have := (h_5).2; have := (h_19).1; have := (h_19).2; have := (h_24).1; have := (h_24).2; omega)⟩)))) _ _ _ hP hD hS (lv_sub hl [0, 1] rfl)
    · have h_25 : iv 0 0 r_20 := iv_eq c_23 hr_20 (iv_k (by decide) : iv 0 0 0) (by decide)
      refine ec_aload_n hx hb dX9_standsRight_95 rfl (lv_at hl 0 rfl) ?_
      refine ec_aload_n hx hb dX9_standsRight_96 rfl (lv_at hl 1 rfl) ?_
      refine cm_callV (t := 3) (C := RX9) (T := TX9) (N := 1) (rest := []) (as := [eV (ad 9) o]) ⟨hx, hb, hml, hown, htb⟩ (d_isHeld2 l dC dI ad cid a2 lx sg gm lg x o D hI hvx hvo hEV) (cwV 1 htb (gd_V kw_529 kw_530 kw_531 kw_28 kw_1463) rfl rfl rfl (by decide +kernel) ⟨Nat.le_of_ble_eq_true rfl, Nat.le_of_ble_eq_true rfl⟩) hvx (by decide) (by decide) rfl rfl hl.1 rfl (Nat.le_trans cs_n (by decide)) dX9_standsRight_97 ⟨Nat.le_of_ble_eq_true rfl, Nat.le_of_ble_eq_true rfl⟩ hK hP hD hS hA hG (fun E ce q9 u_27 H locs hw hP hD hS hce hcv hcl => ?_) (fun v9 u_27 H locs hw hP hD hS => ?_)
      · exact hw.elim
      obtain ⟨r_26, rfl, rfl, hr_26, fH_r_26⟩ := hw
      have hP : va_P (dC, dI) vwCl (cW ad cid a2 lx sg gm lg) H := hP
      have hD : va_D A (cW ad cid a2 lx sg gm lg) := hD
      refine W.eq (g2 := F0 m 100 ls [.int r_26]) rfl ?_
      refine lv_if_eq (tgt := 107) hx hb dX9_standsRight_100 (by decide) (fun c_29 => ?_) (fun c_29 => ?_)
      · have h_30 : iv 0 0 r_26 := iv_eq c_29 hr_26 (iv_k (by decide) : iv 0 0 0) (by decide)
        refine lv_iconst (v := 0) hx hb dX9_standsRight_107 (by decide) ?_
        exact hj108 0 hvx hvo (iv_w (iv_k (by decide) : iv 0 0 0) (by decide)) (Or.inr ⟨rfl, (fun q9 => by have hkd : dKd D o.toNatClampNeg = 3 := KW_f hEV.1 (by unfold KW7; rw [show (gm 14 o.toNatClampNeg).toInt = (2 : Int) from (by rw [← ez_4]; exact swy 2 8 (by decide) (h_5) ez_6 c_18)]; decide); have q8 := STN_3 hkd q9; have := gI_r_20; have := fH_r_26; have := i32_0; have := i32_1; have := i32_2; have := i32_m1; have := (hvx).1; have := (hvx).2; have := (hvo).1; have := (hvo).2; have := (h_5).1; have := (h_5).2; have := (h_19).1; have := (h_19).2; have := (h_25).1; have := (h_25).2; have := (h_30).1; have := (h_30).2; omega)⟩) _ _ _ hP hD hS (lv_sub hl [0, 1] rfl)
      · have h_31 : iv 1 1 r_26 := iv_neL c_29 hr_26 (by decide)
        exact hj103 hvx hvo ((by have hkd : dKd D o.toNatClampNeg = 3 := KW_f hEV.1 (by unfold KW7; rw [show (gm 14 o.toNatClampNeg).toInt = (2 : Int) from (by rw [← ez_4]; exact swy 2 8 (by decide) (h_5) ez_6 c_18)]; decide); exact Or.inr (Or.inr (Or.inl ⟨hkd, (by have := gI_r_20; have := fH_r_26; have := i32_0; have := i32_1; have := i32_2; have := i32_m1; have := (hvx).1; have := (hvx).2; have := (hvo).1; have := (hvo).2; have := (h_5).1; have := (h_5).2; have := (h_19).1; have := (h_19).2; have := (h_25).1; have := (h_25).2; have := (h_31).1; have := (h_31).2; omega)⟩)))) _ _ _ hP hD hS (lv_sub hl [0, 1] rfl)
  by_cases c_32 : (z_6 : Int32).toInt = 9
  · refine lv_tableIn (tgt := 109) hx hb dX9_standsRight_11 (by rw [c_32]; decide) (by rw [c_32]; decide) (by rw [c_32]; rfl) (by decide) ?_
    have h_33 : iv 9 9 z_6 := iv_at c_32
    refine ec_aload_n hx hb dX9_standsRight_109 rfl (lv_at hl 1 rfl) ?_
    refine cw_word (k := 2) (kx := 2) hx hb hG hS (by decide) rfl ⟨by decide, by decide⟩ hown (htb _ kw_517) dX9_standsRight_110 ?_
    refine cm_callV (t := 9) (C := RX3) (T := TX3) (N := 21) (rest := []) (as := [eV (ad 33) 2]) ⟨hx, hb, hml, hown, htb⟩ (d_isIn2 l dC dI ad cid a2 lx sg gm lg o 2 hI hvo (iv_w (iv_k (by decide) : iv 2 2 2) (by decide))) (cwV 1 htb (gd_V kw_526 kw_527 kw_528 kw_66 kw_1462) rfl rfl rfl (by decide +kernel) ⟨Nat.le_of_ble_eq_true rfl, Nat.le_of_ble_eq_true rfl⟩) hvo (by decide) (by decide) rfl rfl hl.1 rfl (Nat.le_trans cs_n (by decide)) dX9_standsRight_113 ⟨Nat.le_of_ble_eq_true rfl, Nat.le_of_ble_eq_true rfl⟩ hK hP hD hS hA hG (fun E ce q9 u_35 H locs hw hP hD hS hce hcv hcl => ?_) (fun v9 u_35 H locs hw hP hD hS => ?_)
    · exact hw.elim
    obtain ⟨r_34, rfl, rfl, hr_34, fI_r_34⟩ := hw
    have hP : va_P (dC, dI) vwCl (cW ad cid a2 lx sg gm lg) H := hP
    have hD : va_D A (cW ad cid a2 lx sg gm lg) := hD
    refine W.eq (g2 := F0 m 116 ls [.int r_34]) rfl ?_
    have gI_r_34 : (r_34.toInt = 1 ∧ dIn D o.toNatClampNeg = 3) ∨ (r_34.toInt = 0 ∧ ¬ dIn D o.toNatClampNeg = 3) := by rw [← ISI_d hEV (a := 2) (K := 3) (by unfold KW7; decide) (by decide)]; exact fI_r_34
    refine lv_if_eq (tgt := 132) hx hb dX9_standsRight_116 (by decide) (fun c_37 => ?_) (fun c_37 => ?_)
    · have h_38 : iv 0 0 r_34 := iv_eq c_37 hr_34 (iv_k (by decide) : iv 0 0 0) (by decide)
      exact hj132 hvx hvo ((fun q9 => by have hkd : dKd D o.toNatClampNeg = 4 := KW_f hEV.1 (by unfold KW7; rw [show (gm 14 o.toNatClampNeg).toInt = (3 : Int) from (by rw [← ez_4]; exact swy 3 9 (by decide) (h_5) ez_6 c_32)]; decide); have q8 := STN_4 hkd q9; have q7 := q8.1; have q6 := q8.2; have := gI_r_34; have := i32_0; have := i32_1; have := i32_2; have := i32_m1; have := (hvx).1; have := (hvx).2; have := (hvo).1; have := (hvo).2; have := (h_5).1; have := (h_5).2; have := (h_33).1; have := (h_33).2; have := (h_38).1; have := (h_38).2; omega)) _ _ _ hP hD hS (lv_sub hl [0, 1] rfl)
    · have h_39 : iv 1 1 r_34 := iv_neL c_37 hr_34 (by decide)
      refine ec_aload_n hx hb dX9_standsRight_119 rfl (lv_at hl 0 rfl) ?_
      refine ec_aload_n hx hb dX9_standsRight_120 rfl (lv_at hl 1 rfl) ?_
      refine cm_callV (t := 3) (C := RX9) (T := TX9) (N := 1) (rest := []) (as := [eV (ad 9) o]) ⟨hx, hb, hml, hown, htb⟩ (d_likeBefore2 l dC dI ad cid a2 lx sg gm lg x o D hI hvx hvo ((fI_r_34.resolve_right (fun q8 => absurd q8.1 (by have := i32_0; have := i32_1; have := i32_2; have := i32_m1; have := (hvx).1; have := (hvx).2; have := (hvo).1; have := (hvo).2; have := (h_5).1; have := (h_5).2; have := (h_33).1; have := (h_33).2; have := (h_39).1; have := (h_39).2; omega))).2.1) how hRC (by have hkd : dKd D o.toNatClampNeg = 4 := KW_f hEV.1 (by unfold KW7; rw [show (gm 14 o.toNatClampNeg).toInt = (3 : Int) from (by rw [← ez_4]; exact swy 3 9 (by decide) (h_5) ez_6 c_32)]; decide); omega)) (cwV 1 htb (gd_V kw_533 kw_534 kw_535 kw_28 kw_1464) rfl rfl rfl (by decide +kernel) ⟨Nat.le_of_ble_eq_true rfl, Nat.le_of_ble_eq_true rfl⟩) hvx (by decide) (by decide) rfl rfl hl.1 rfl (Nat.le_trans cs_n (by decide)) dX9_standsRight_121 ⟨Nat.le_of_ble_eq_true rfl, Nat.le_of_ble_eq_true rfl⟩ hK hP hD hS hA hG (fun E ce q9 u_41 H locs hw hP hD hS hce hcv hcl => ?_) (fun v9 u_41 H locs hw hP hD hS => ?_)
      · exact hw.elim
      obtain ⟨r_40, rfl, rfl, hr_40, fB_r_40⟩ := hw
      have hP : va_P (dC, dI) vwCl (cW ad cid a2 lx sg gm lg) H := hP
      have hD : va_D A (cW ad cid a2 lx sg gm lg) := hD
      refine W.eq (g2 := F0 m 124 ls [.int r_40]) rfl ?_
      refine lv_iconst (v := 4) hx hb dX9_standsRight_124 (by decide) ?_
      refine lv_icmp_ge (tgt := 132) hx hb dX9_standsRight_125 (by decide) (fun c_43 => ?_) (fun c_43 => ?_)
      · have h_44 : iv 4 80 r_40 := iv_leR c_43 (iv_k (by decide) : iv 4 4 4) hr_40 (by decide)
        exact hj132 hvx hvo ((fun q9 => by have hkd : dKd D o.toNatClampNeg = 4 := KW_f hEV.1 (by unfold KW7; rw [show (gm 14 o.toNatClampNeg).toInt = (3 : Int) from (by rw [← ez_4]; exact swy 3 9 (by decide) (h_5) ez_6 c_32)]; decide); have q8 := STN_4 hkd q9; have q7 := q8.1; have q6 := q8.2; have := gI_r_34; have := fB_r_40; have := i32_0; have := i32_1; have := i32_2; have := i32_m1; have := (hvx).1; have := (hvx).2; have := (hvo).1; have := (hvo).2; have := (h_5).1; have := (h_5).2; have := (h_33).1; have := (h_33).2; have := (h_39).1; have := (h_39).2; have := (h_44).1; have := (h_44).2; omega)) _ _ _ hP hD hS (lv_sub hl [0, 1] rfl)
      · have h_45 : iv 0 3 r_40 := iv_ltL (i32_lt c_43) hr_40 (iv_k (by decide) : iv 4 4 4) (by decide)
        refine lv_iconst (v := 1) hx hb dX9_standsRight_128 (by decide) ?_
        refine lv_goto (tgt := 133) hx hb dX9_standsRight_129 (by decide) ?_
        exact hj133 1 hvx hvo (iv_w (iv_k (by decide) : iv 1 1 1) (by decide)) (Or.inl ⟨rfl, (by have hkd : dKd D o.toNatClampNeg = 4 := KW_f hEV.1 (by unfold KW7; rw [show (gm 14 o.toNatClampNeg).toInt = (3 : Int) from (by rw [← ez_4]; exact swy 3 9 (by decide) (h_5) ez_6 c_32)]; decide); exact Or.inr (Or.inr (Or.inr (Or.inl ⟨hkd, (by have := gI_r_34; have := i32_0; have := i32_1; have := i32_2; have := i32_m1; have := (hvx).1; have := (hvx).2; have := (hvo).1; have := (hvo).2; have := (h_5).1; have := (h_5).2; have := (h_33).1; have := (h_33).2; have := (h_39).1; have := (h_39).2; have := (h_45).1; have := (h_45).2; omega), (by have := fB_r_40; have := i32_0; have := i32_1; have := i32_2; have := i32_m1; have := (hvx).1; have := (hvx).2; have := (hvo).1; have := (hvo).2; have := (h_5).1; have := (h_5).2; have := (h_33).1; have := (h_33).2; have := (h_39).1; have := (h_39).2; have := (h_45).1; have := (h_45).2; omega)⟩))))⟩) _ _ _ hP hD hS (lv_sub hl [0, 1] rfl)
  by_cases c_46 : (z_6 : Int32).toInt = 10
  · refine lv_tableIn (tgt := 134) hx hb dX9_standsRight_11 (by rw [c_46]; decide) (by rw [c_46]; decide) (by rw [c_46]; rfl) (by decide) ?_
    have h_47 : iv 10 10 z_6 := iv_at c_46
    refine ec_aload_n hx hb dX9_standsRight_134 rfl (lv_at hl 1 rfl) ?_
    refine cw_word (k := 2) (kx := 2) hx hb hG hS (by decide) rfl ⟨by decide, by decide⟩ hown (htb _ kw_517) dX9_standsRight_135 ?_
    refine cm_callV (t := 9) (C := RX3) (T := TX3) (N := 21) (rest := []) (as := [eV (ad 33) 2]) ⟨hx, hb, hml, hown, htb⟩ (d_isIn2 l dC dI ad cid a2 lx sg gm lg o 2 hI hvo (iv_w (iv_k (by decide) : iv 2 2 2) (by decide))) (cwV 1 htb (gd_V kw_526 kw_527 kw_528 kw_66 kw_1462) rfl rfl rfl (by decide +kernel) ⟨Nat.le_of_ble_eq_true rfl, Nat.le_of_ble_eq_true rfl⟩) hvo (by decide) (by decide) rfl rfl hl.1 rfl (Nat.le_trans cs_n (by decide)) dX9_standsRight_138 ⟨Nat.le_of_ble_eq_true rfl, Nat.le_of_ble_eq_true rfl⟩ hK hP hD hS hA hG (fun E ce q9 u_49 H locs hw hP hD hS hce hcv hcl => ?_) (fun v9 u_49 H locs hw hP hD hS => ?_)
    · exact hw.elim
    obtain ⟨r_48, rfl, rfl, hr_48, fI_r_48⟩ := hw
    have hP : va_P (dC, dI) vwCl (cW ad cid a2 lx sg gm lg) H := hP
    have hD : va_D A (cW ad cid a2 lx sg gm lg) := hD
    refine W.eq (g2 := F0 m 141 ls [.int r_48]) rfl ?_
    have gI_r_48 : (r_48.toInt = 1 ∧ dIn D o.toNatClampNeg = 3) ∨ (r_48.toInt = 0 ∧ ¬ dIn D o.toNatClampNeg = 3) := by rw [← ISI_d hEV (a := 2) (K := 3) (by unfold KW7; decide) (by decide)]; exact fI_r_48
    refine lv_if_eq (tgt := 166) hx hb dX9_standsRight_141 (by decide) (fun c_51 => ?_) (fun c_51 => ?_)
    · have h_52 : iv 0 0 r_48 := iv_eq c_51 hr_48 (iv_k (by decide) : iv 0 0 0) (by decide)
      exact hj166 hvx hvo ((fun q9 => by have hkd : dKd D o.toNatClampNeg = 5 := KW_f hEV.1 (by unfold KW7; rw [show (gm 14 o.toNatClampNeg).toInt = (4 : Int) from (by rw [← ez_4]; exact swy 4 10 (by decide) (h_5) ez_6 c_46)]; decide); have q8 := STN_5 hkd q9; have q7 := q8.1; have q6 := q8.2.1; have := gI_r_48; have := i32_0; have := i32_1; have := i32_2; have := i32_m1; have := (hvx).1; have := (hvx).2; have := (hvo).1; have := (hvo).2; have := (h_5).1; have := (h_5).2; have := (h_47).1; have := (h_47).2; have := (h_52).1; have := (h_52).2; omega)) _ _ _ hP hD hS (lv_sub hl [0, 1] rfl)
    · have h_53 : iv 1 1 r_48 := iv_neL c_51 hr_48 (by decide)
      refine ec_aload_n hx hb dX9_standsRight_144 rfl (lv_at hl 0 rfl) ?_
      refine ec_aload_n hx hb dX9_standsRight_145 rfl (lv_at hl 1 rfl) ?_
      refine cm_callV (t := 3) (C := RX9) (T := TX9) (N := 1) (rest := []) (as := [eV (ad 9) o]) ⟨hx, hb, hml, hown, htb⟩ (d_likeBefore2 l dC dI ad cid a2 lx sg gm lg x o D hI hvx hvo ((fI_r_48.resolve_right (fun q8 => absurd q8.1 (by have := i32_0; have := i32_1; have := i32_2; have := i32_m1; have := (hvx).1; have := (hvx).2; have := (hvo).1; have := (hvo).2; have := (h_5).1; have := (h_5).2; have := (h_47).1; have := (h_47).2; have := (h_53).1; have := (h_53).2; omega))).2.1) how hRC (by have hkd : dKd D o.toNatClampNeg = 5 := KW_f hEV.1 (by unfold KW7; rw [show (gm 14 o.toNatClampNeg).toInt = (4 : Int) from (by rw [← ez_4]; exact swy 4 10 (by decide) (h_5) ez_6 c_46)]; decide); omega)) (cwV 1 htb (gd_V kw_533 kw_534 kw_535 kw_28 kw_1464) rfl rfl rfl (by decide +kernel) ⟨Nat.le_of_ble_eq_true rfl, Nat.le_of_ble_eq_true rfl⟩) hvx (by decide) (by decide) rfl rfl hl.1 rfl (Nat.le_trans cs_n (by decide)) dX9_standsRight_146 ⟨Nat.le_of_ble_eq_true rfl, Nat.le_of_ble_eq_true rfl⟩ hK hP hD hS hA hG (fun E ce q9 u_55 H locs hw hP hD hS hce hcv hcl => ?_) (fun v9 u_55 H locs hw hP hD hS => ?_)
      · exact hw.elim
      obtain ⟨r_54, rfl, rfl, hr_54, fB_r_54⟩ := hw
      have hP : va_P (dC, dI) vwCl (cW ad cid a2 lx sg gm lg) H := hP
      have hD : va_D A (cW ad cid a2 lx sg gm lg) := hD
      refine W.eq (g2 := F0 m 149 ls [.int r_54]) rfl ?_
      refine lv_bipush (v := 8) hx hb dX9_standsRight_149 (by decide) ?_
      refine lv_icmp_ge (tgt := 166) hx hb dX9_standsRight_151 (by decide) (fun c_57 => ?_) (fun c_57 => ?_)
      · have h_58 : iv 8 80 r_54 := iv_leR c_57 (iv_k (by decide) : iv 8 8 8) hr_54 (by decide)
        exact hj166 hvx hvo ((fun q9 => by have hkd : dKd D o.toNatClampNeg = 5 := KW_f hEV.1 (by unfold KW7; rw [show (gm 14 o.toNatClampNeg).toInt = (4 : Int) from (by rw [← ez_4]; exact swy 4 10 (by decide) (h_5) ez_6 c_46)]; decide); have q8 := STN_5 hkd q9; have q7 := q8.1; have q6 := q8.2.1; have := gI_r_48; have := fB_r_54; have := i32_0; have := i32_1; have := i32_2; have := i32_m1; have := (hvx).1; have := (hvx).2; have := (hvo).1; have := (hvo).2; have := (h_5).1; have := (h_5).2; have := (h_47).1; have := (h_47).2; have := (h_53).1; have := (h_53).2; have := (h_58).1; have := (h_58).2; omega)) _ _ _ hP hD hS (lv_sub hl [0, 1] rfl)
      · have h_59 : iv 0 7 r_54 := iv_ltL (i32_lt c_57) hr_54 (iv_k (by decide) : iv 8 8 8) (by decide)
        refine ec_aload_n hx hb dX9_standsRight_154 rfl (lv_at hl 0 rfl) ?_
        refine ec_aload_n hx hb dX9_standsRight_155 rfl (lv_at hl 1 rfl) ?_
        refine cm_callV (t := 3) (C := RX9) (T := TX9) (N := 1) (rest := []) (as := [eV (ad 9) o]) ⟨hx, hb, hml, hown, htb⟩ (d_isFirstOfName2 l dC dI ad cid a2 lx sg gm lg x o D hI hvx hvo hFA how hVS hLK ((fI_r_48.resolve_right (fun q8 => absurd q8.1 (by have := i32_0; have := i32_1; have := i32_2; have := i32_m1; have := (hvx).1; have := (hvx).2; have := (hvo).1; have := (hvo).2; have := (h_5).1; have := (h_5).2; have := (h_47).1; have := (h_47).2; have := (h_53).1; have := (h_53).2; have := (h_59).1; have := (h_59).2; omega))).2.1) hRC (by have hkd : dKd D o.toNatClampNeg = 5 := KW_f hEV.1 (by unfold KW7; rw [show (gm 14 o.toNatClampNeg).toInt = (4 : Int) from (by rw [← ez_4]; exact swy 4 10 (by decide) (h_5) ez_6 c_46)]; decide); omega)) (cwV 1 htb (gd_V kw_538 kw_539 kw_540 kw_28 kw_1465) rfl rfl rfl (by decide +kernel) ⟨Nat.le_of_ble_eq_true rfl, Nat.le_of_ble_eq_true rfl⟩) hvx (by decide) (by decide) rfl rfl hl.1 rfl (Nat.le_trans cs_n (by decide)) dX9_standsRight_156 ⟨Nat.le_of_ble_eq_true rfl, Nat.le_of_ble_eq_true rfl⟩ hK hP hD hS hA hG (fun E ce q9 u_61 H locs hw hP hD hS hce hcv hcl => ?_) (fun v9 u_61 H locs hw hP hD hS => ?_)
        · exact hw.elim
        obtain ⟨r_60, rfl, rfl, hr_60, fF_r_60⟩ := hw
        have hP : va_P (dC, dI) vwCl (cW ad cid a2 lx sg gm lg) H := hP
        have hD : va_D A (cW ad cid a2 lx sg gm lg) := hD
        refine W.eq (g2 := F0 m 159 ls [.int r_60]) rfl ?_
        refine lv_if_eq (tgt := 166) hx hb dX9_standsRight_159 (by decide) (fun c_63 => ?_) (fun c_63 => ?_)
        · have h_64 : iv 0 0 r_60 := iv_eq c_63 hr_60 (iv_k (by decide) : iv 0 0 0) (by decide)
          exact hj166 hvx hvo ((fun q9 => by have hkd : dKd D o.toNatClampNeg = 5 := KW_f hEV.1 (by unfold KW7; rw [show (gm 14 o.toNatClampNeg).toInt = (4 : Int) from (by rw [← ez_4]; exact swy 4 10 (by decide) (h_5) ez_6 c_46)]; decide); have q8 := STN_5 hkd q9; exact (fF_r_60.resolve_left (fun q8 => absurd q8.1 (by have := i32_0; have := i32_1; have := i32_2; have := i32_m1; have := (hvx).1; have := (hvx).2; have := (hvo).1; have := (hvo).2; have := (h_5).1; have := (h_5).2; have := (h_47).1; have := (h_47).2; have := (h_53).1; have := (h_53).2; have := (h_59).1; have := (h_59).2; have := (h_64).1; have := (h_64).2; omega))).2 q8.2.2)) _ _ _ hP hD hS (lv_sub hl [0, 1] rfl)
        · have h_65 : iv 1 1 r_60 := iv_neL c_63 hr_60 (by decide)
          refine lv_iconst (v := 1) hx hb dX9_standsRight_162 (by decide) ?_
          refine lv_goto (tgt := 167) hx hb dX9_standsRight_163 (by decide) ?_
          exact hj167 1 hvx hvo (iv_w (iv_k (by decide) : iv 1 1 1) (by decide)) (Or.inl ⟨rfl, (by have hkd : dKd D o.toNatClampNeg = 5 := KW_f hEV.1 (by unfold KW7; rw [show (gm 14 o.toNatClampNeg).toInt = (4 : Int) from (by rw [← ez_4]; exact swy 4 10 (by decide) (h_5) ez_6 c_46)]; decide); exact Or.inr (Or.inr (Or.inr (Or.inr (Or.inl ⟨hkd, (by have := gI_r_48; have := i32_0; have := i32_1; have := i32_2; have := i32_m1; have := (hvx).1; have := (hvx).2; have := (hvo).1; have := (hvo).2; have := (h_5).1; have := (h_5).2; have := (h_47).1; have := (h_47).2; have := (h_53).1; have := (h_53).2; have := (h_59).1; have := (h_59).2; have := (h_65).1; have := (h_65).2; omega), (by have := fB_r_54; have := i32_0; have := i32_1; have := i32_2; have := i32_m1; have := (hvx).1; have := (hvx).2; have := (hvo).1; have := (hvo).2; have := (h_5).1; have := (h_5).2; have := (h_47).1; have := (h_47).2; have := (h_53).1; have := (h_53).2; have := (h_59).1; have := (h_59).2; have := (h_65).1; have := (h_65).2; omega), (fF_r_60.resolve_right (fun q8 => absurd q8.1 (by have := i32_0; have := i32_1; have := i32_2; have := i32_m1; have := (hvx).1; have := (hvx).2; have := (hvo).1; have := (hvo).2; have := (h_5).1; have := (h_5).2; have := (h_47).1; have := (h_47).2; have := (h_53).1; have := (h_53).2; have := (h_59).1; have := (h_59).2; have := (h_65).1; have := (h_65).2; omega))).2⟩)))))⟩) _ _ _ hP hD hS (lv_sub hl [0, 1] rfl)
  by_cases c_66 : (z_6 : Int32).toInt = 11
  · refine lv_tableIn (tgt := 168) hx hb dX9_standsRight_11 (by rw [c_66]; decide) (by rw [c_66]; decide) (by rw [c_66]; rfl) (by decide) ?_
    have h_67 : iv 11 11 z_6 := iv_at c_66
    refine ec_aload_n hx hb dX9_standsRight_168 rfl (lv_at hl 1 rfl) ?_
    refine cw_word (k := 2) (kx := 2) hx hb hG hS (by decide) rfl ⟨by decide, by decide⟩ hown (htb _ kw_517) dX9_standsRight_169 ?_
    refine cm_callV (t := 9) (C := RX3) (T := TX3) (N := 21) (rest := []) (as := [eV (ad 33) 2]) ⟨hx, hb, hml, hown, htb⟩ (d_isIn2 l dC dI ad cid a2 lx sg gm lg o 2 hI hvo (iv_w (iv_k (by decide) : iv 2 2 2) (by decide))) (cwV 1 htb (gd_V kw_526 kw_527 kw_528 kw_66 kw_1462) rfl rfl rfl (by decide +kernel) ⟨Nat.le_of_ble_eq_true rfl, Nat.le_of_ble_eq_true rfl⟩) hvo (by decide) (by decide) rfl rfl hl.1 rfl (Nat.le_trans cs_n (by decide)) dX9_standsRight_172 ⟨Nat.le_of_ble_eq_true rfl, Nat.le_of_ble_eq_true rfl⟩ hK hP hD hS hA hG (fun E ce q9 u_69 H locs hw hP hD hS hce hcv hcl => ?_) (fun v9 u_69 H locs hw hP hD hS => ?_)
    · exact hw.elim
    obtain ⟨r_68, rfl, rfl, hr_68, fI_r_68⟩ := hw
    have hP : va_P (dC, dI) vwCl (cW ad cid a2 lx sg gm lg) H := hP
    have hD : va_D A (cW ad cid a2 lx sg gm lg) := hD
    refine W.eq (g2 := F0 m 175 ls [.int r_68]) rfl ?_
    have gI_r_68 : (r_68.toInt = 1 ∧ dIn D o.toNatClampNeg = 3) ∨ (r_68.toInt = 0 ∧ ¬ dIn D o.toNatClampNeg = 3) := by rw [← ISI_d hEV (a := 2) (K := 3) (by unfold KW7; decide) (by decide)]; exact fI_r_68
    refine lv_if_eq (tgt := 199) hx hb dX9_standsRight_175 (by decide) (fun c_71 => ?_) (fun c_71 => ?_)
    · have h_72 : iv 0 0 r_68 := iv_eq c_71 hr_68 (iv_k (by decide) : iv 0 0 0) (by decide)
      exact hj199 hvx hvo ((fun q9 => by have hkd : dKd D o.toNatClampNeg = 10 := KW_f hEV.1 (by unfold KW7; rw [show (gm 14 o.toNatClampNeg).toInt = (5 : Int) from (by rw [← ez_4]; exact swy 5 11 (by decide) (h_5) ez_6 c_66)]; decide); have q8 := STN_10 hkd q9; have q7 := q8.1; have q6 := q8.2.1; have := gI_r_68; have := i32_0; have := i32_1; have := i32_2; have := i32_m1; have := (hvx).1; have := (hvx).2; have := (hvo).1; have := (hvo).2; have := (h_5).1; have := (h_5).2; have := (h_67).1; have := (h_67).2; have := (h_72).1; have := (h_72).2; omega)) _ _ _ hP hD hS (lv_sub hl [0, 1] rfl)
    · have h_73 : iv 1 1 r_68 := iv_neL c_71 hr_68 (by decide)
      refine ec_aload_n hx hb dX9_standsRight_178 rfl (lv_at hl 0 rfl) ?_
      refine ec_aload_n hx hb dX9_standsRight_179 rfl (lv_at hl 1 rfl) ?_
      refine cm_callV (t := 3) (C := RX9) (T := TX9) (N := 1) (rest := []) (as := [eV (ad 9) o]) ⟨hx, hb, hml, hown, htb⟩ (d_likeBefore2 l dC dI ad cid a2 lx sg gm lg x o D hI hvx hvo ((fI_r_68.resolve_right (fun q8 => absurd q8.1 (by have := i32_0; have := i32_1; have := i32_2; have := i32_m1; have := (hvx).1; have := (hvx).2; have := (hvo).1; have := (hvo).2; have := (h_5).1; have := (h_5).2; have := (h_67).1; have := (h_67).2; have := (h_73).1; have := (h_73).2; omega))).2.1) how hRC (by have hkd : dKd D o.toNatClampNeg = 10 := KW_f hEV.1 (by unfold KW7; rw [show (gm 14 o.toNatClampNeg).toInt = (5 : Int) from (by rw [← ez_4]; exact swy 5 11 (by decide) (h_5) ez_6 c_66)]; decide); omega)) (cwV 1 htb (gd_V kw_533 kw_534 kw_535 kw_28 kw_1464) rfl rfl rfl (by decide +kernel) ⟨Nat.le_of_ble_eq_true rfl, Nat.le_of_ble_eq_true rfl⟩) hvx (by decide) (by decide) rfl rfl hl.1 rfl (Nat.le_trans cs_n (by decide)) dX9_standsRight_180 ⟨Nat.le_of_ble_eq_true rfl, Nat.le_of_ble_eq_true rfl⟩ hK hP hD hS hA hG (fun E ce q9 u_75 H locs hw hP hD hS hce hcv hcl => ?_) (fun v9 u_75 H locs hw hP hD hS => ?_)
      · exact hw.elim
      obtain ⟨r_74, rfl, rfl, hr_74, fB_r_74⟩ := hw
      have hP : va_P (dC, dI) vwCl (cW ad cid a2 lx sg gm lg) H := hP
      have hD : va_D A (cW ad cid a2 lx sg gm lg) := hD
      refine W.eq (g2 := F0 m 183 ls [.int r_74]) rfl ?_
      refine lv_iconst (v := 2) hx hb dX9_standsRight_183 (by decide) ?_
      refine lv_icmp_ge (tgt := 199) hx hb dX9_standsRight_184 (by decide) (fun c_77 => ?_) (fun c_77 => ?_)
      · have h_78 : iv 2 80 r_74 := iv_leR c_77 (iv_k (by decide) : iv 2 2 2) hr_74 (by decide)
        exact hj199 hvx hvo ((fun q9 => by have hkd : dKd D o.toNatClampNeg = 10 := KW_f hEV.1 (by unfold KW7; rw [show (gm 14 o.toNatClampNeg).toInt = (5 : Int) from (by rw [← ez_4]; exact swy 5 11 (by decide) (h_5) ez_6 c_66)]; decide); have q8 := STN_10 hkd q9; have q7 := q8.1; have q6 := q8.2.1; have := gI_r_68; have := fB_r_74; have := i32_0; have := i32_1; have := i32_2; have := i32_m1; have := (hvx).1; have := (hvx).2; have := (hvo).1; have := (hvo).2; have := (h_5).1; have := (h_5).2; have := (h_67).1; have := (h_67).2; have := (h_73).1; have := (h_73).2; have := (h_78).1; have := (h_78).2; omega)) _ _ _ hP hD hS (lv_sub hl [0, 1] rfl)
      · have h_79 : iv 0 1 r_74 := iv_ltL (i32_lt c_77) hr_74 (iv_k (by decide) : iv 2 2 2) (by decide)
        refine ec_aload_n hx hb dX9_standsRight_187 rfl (lv_at hl 0 rfl) ?_
        refine ec_aload_n hx hb dX9_standsRight_188 rfl (lv_at hl 1 rfl) ?_
        refine cm_callV (t := 3) (C := RX9) (T := TX9) (N := 1) (rest := []) (as := [eV (ad 9) o]) ⟨hx, hb, hml, hown, htb⟩ (d_isFirstOfName2 l dC dI ad cid a2 lx sg gm lg x o D hI hvx hvo hFA how hVS hLK ((fI_r_68.resolve_right (fun q8 => absurd q8.1 (by have := i32_0; have := i32_1; have := i32_2; have := i32_m1; have := (hvx).1; have := (hvx).2; have := (hvo).1; have := (hvo).2; have := (h_5).1; have := (h_5).2; have := (h_67).1; have := (h_67).2; have := (h_73).1; have := (h_73).2; have := (h_79).1; have := (h_79).2; omega))).2.1) hRC (by have hkd : dKd D o.toNatClampNeg = 10 := KW_f hEV.1 (by unfold KW7; rw [show (gm 14 o.toNatClampNeg).toInt = (5 : Int) from (by rw [← ez_4]; exact swy 5 11 (by decide) (h_5) ez_6 c_66)]; decide); omega)) (cwV 1 htb (gd_V kw_538 kw_539 kw_540 kw_28 kw_1465) rfl rfl rfl (by decide +kernel) ⟨Nat.le_of_ble_eq_true rfl, Nat.le_of_ble_eq_true rfl⟩) hvx (by decide) (by decide) rfl rfl hl.1 rfl (Nat.le_trans cs_n (by decide)) dX9_standsRight_189 ⟨Nat.le_of_ble_eq_true rfl, Nat.le_of_ble_eq_true rfl⟩ hK hP hD hS hA hG (fun E ce q9 u_81 H locs hw hP hD hS hce hcv hcl => ?_) (fun v9 u_81 H locs hw hP hD hS => ?_)
        · exact hw.elim
        obtain ⟨r_80, rfl, rfl, hr_80, fF_r_80⟩ := hw
        have hP : va_P (dC, dI) vwCl (cW ad cid a2 lx sg gm lg) H := hP
        have hD : va_D A (cW ad cid a2 lx sg gm lg) := hD
        refine W.eq (g2 := F0 m 192 ls [.int r_80]) rfl ?_
        refine lv_if_eq (tgt := 199) hx hb dX9_standsRight_192 (by decide) (fun c_83 => ?_) (fun c_83 => ?_)
        · have h_84 : iv 0 0 r_80 := iv_eq c_83 hr_80 (iv_k (by decide) : iv 0 0 0) (by decide)
          exact hj199 hvx hvo ((fun q9 => by have hkd : dKd D o.toNatClampNeg = 10 := KW_f hEV.1 (by unfold KW7; rw [show (gm 14 o.toNatClampNeg).toInt = (5 : Int) from (by rw [← ez_4]; exact swy 5 11 (by decide) (h_5) ez_6 c_66)]; decide); have q8 := STN_10 hkd q9; exact (fF_r_80.resolve_left (fun q8 => absurd q8.1 (by have := i32_0; have := i32_1; have := i32_2; have := i32_m1; have := (hvx).1; have := (hvx).2; have := (hvo).1; have := (hvo).2; have := (h_5).1; have := (h_5).2; have := (h_67).1; have := (h_67).2; have := (h_73).1; have := (h_73).2; have := (h_79).1; have := (h_79).2; have := (h_84).1; have := (h_84).2; omega))).2 q8.2.2)) _ _ _ hP hD hS (lv_sub hl [0, 1] rfl)
        · have h_85 : iv 1 1 r_80 := iv_neL c_83 hr_80 (by decide)
          refine lv_iconst (v := 1) hx hb dX9_standsRight_195 (by decide) ?_
          refine lv_goto (tgt := 200) hx hb dX9_standsRight_196 (by decide) ?_
          exact hj200 1 hvx hvo (iv_w (iv_k (by decide) : iv 1 1 1) (by decide)) (Or.inl ⟨rfl, (by have hkd : dKd D o.toNatClampNeg = 10 := KW_f hEV.1 (by unfold KW7; rw [show (gm 14 o.toNatClampNeg).toInt = (5 : Int) from (by rw [← ez_4]; exact swy 5 11 (by decide) (h_5) ez_6 c_66)]; decide); exact Or.inr (Or.inr (Or.inr (Or.inr (Or.inr (Or.inl ⟨hkd, (by have := gI_r_68; have := i32_0; have := i32_1; have := i32_2; have := i32_m1; have := (hvx).1; have := (hvx).2; have := (hvo).1; have := (hvo).2; have := (h_5).1; have := (h_5).2; have := (h_67).1; have := (h_67).2; have := (h_73).1; have := (h_73).2; have := (h_79).1; have := (h_79).2; have := (h_85).1; have := (h_85).2; omega), (by have := fB_r_74; have := i32_0; have := i32_1; have := i32_2; have := i32_m1; have := (hvx).1; have := (hvx).2; have := (hvo).1; have := (hvo).2; have := (h_5).1; have := (h_5).2; have := (h_67).1; have := (h_67).2; have := (h_73).1; have := (h_73).2; have := (h_79).1; have := (h_79).2; have := (h_85).1; have := (h_85).2; omega), (fF_r_80.resolve_right (fun q8 => absurd q8.1 (by have := i32_0; have := i32_1; have := i32_2; have := i32_m1; have := (hvx).1; have := (hvx).2; have := (hvo).1; have := (hvo).2; have := (h_5).1; have := (h_5).2; have := (h_67).1; have := (h_67).2; have := (h_73).1; have := (h_73).2; have := (h_79).1; have := (h_79).2; have := (h_85).1; have := (h_85).2; omega))).2⟩))))))⟩) _ _ _ hP hD hS (lv_sub hl [0, 1] rfl)
  by_cases c_86 : (z_6 : Int32).toInt = 12
  · refine lv_tableIn (tgt := 201) hx hb dX9_standsRight_11 (by rw [c_86]; decide) (by rw [c_86]; decide) (by rw [c_86]; rfl) (by decide) ?_
    have h_87 : iv 12 12 z_6 := iv_at c_86
    refine ec_aload_n hx hb dX9_standsRight_201 rfl (lv_at hl 1 rfl) ?_
    refine cw_word (k := 3) (kx := 3) hx hb hG hS (by decide) rfl ⟨by decide, by decide⟩ hown (htb _ kw_518) dX9_standsRight_202 ?_
    refine cm_callV (t := 9) (C := RX3) (T := TX3) (N := 21) (rest := []) (as := [eV (ad 33) 3]) ⟨hx, hb, hml, hown, htb⟩ (d_isIn2 l dC dI ad cid a2 lx sg gm lg o 3 hI hvo (iv_w (iv_k (by decide) : iv 3 3 3) (by decide))) (cwV 1 htb (gd_V kw_526 kw_527 kw_528 kw_66 kw_1462) rfl rfl rfl (by decide +kernel) ⟨Nat.le_of_ble_eq_true rfl, Nat.le_of_ble_eq_true rfl⟩) hvo (by decide) (by decide) rfl rfl hl.1 rfl (Nat.le_trans cs_n (by decide)) dX9_standsRight_205 ⟨Nat.le_of_ble_eq_true rfl, Nat.le_of_ble_eq_true rfl⟩ hK hP hD hS hA hG (fun E ce q9 u_89 H locs hw hP hD hS hce hcv hcl => ?_) (fun v9 u_89 H locs hw hP hD hS => ?_)
    · exact hw.elim
    obtain ⟨r_88, rfl, rfl, hr_88, fI_r_88⟩ := hw
    have hP : va_P (dC, dI) vwCl (cW ad cid a2 lx sg gm lg) H := hP
    have hD : va_D A (cW ad cid a2 lx sg gm lg) := hD
    refine W.eq (g2 := F0 m 208 ls [.int r_88]) rfl ?_
    have gI_r_88 : (r_88.toInt = 1 ∧ dIn D o.toNatClampNeg = 4) ∨ (r_88.toInt = 0 ∧ ¬ dIn D o.toNatClampNeg = 4) := by rw [← ISI_d hEV (a := 3) (K := 4) (by unfold KW7; decide) (by decide)]; exact fI_r_88
    refine lv_if_ne (tgt := 221) hx hb dX9_standsRight_208 (by decide) (fun c_91 => ?_) (fun c_91 => ?_)
    · have h_92 : iv 1 1 r_88 := iv_neL c_91 hr_88 (by decide)
      exact hj221 hvx hvo ((by have hkd : dKd D o.toNatClampNeg = 6 := KW_f hEV.1 (by unfold KW7; rw [show (gm 14 o.toNatClampNeg).toInt = (6 : Int) from (by rw [← ez_4]; exact swy 6 12 (by decide) (h_5) ez_6 c_86)]; decide); exact Or.inr (Or.inr (Or.inr (Or.inr (Or.inr (Or.inr (Or.inl ⟨hkd, (by have := gI_r_88; have := i32_0; have := i32_1; have := i32_2; have := i32_m1; have := (hvx).1; have := (hvx).2; have := (hvo).1; have := (hvo).2; have := (h_5).1; have := (h_5).2; have := (h_87).1; have := (h_87).2; have := (h_92).1; have := (h_92).2; omega)⟩)))))))) _ _ _ hP hD hS (lv_sub hl [0, 1] rfl)
    · have h_93 : iv 0 0 r_88 := iv_eq c_91 hr_88 (iv_k (by decide) : iv 0 0 0) (by decide)
      refine ec_aload_n hx hb dX9_standsRight_211 rfl (lv_at hl 1 rfl) ?_
      refine cw_word (k := 4) (kx := 4) hx hb hG hS (by decide) rfl ⟨by decide, by decide⟩ hown (htb _ kw_519) dX9_standsRight_212 ?_
      refine cm_callV (t := 9) (C := RX3) (T := TX3) (N := 21) (rest := []) (as := [eV (ad 33) 4]) ⟨hx, hb, hml, hown, htb⟩ (d_isIn2 l dC dI ad cid a2 lx sg gm lg o 4 hI hvo (iv_w (iv_k (by decide) : iv 4 4 4) (by decide))) (cwV 1 htb (gd_V kw_526 kw_527 kw_528 kw_66 kw_1462) rfl rfl rfl (by decide +kernel) ⟨Nat.le_of_ble_eq_true rfl, Nat.le_of_ble_eq_true rfl⟩) hvo (by decide) (by decide) rfl rfl hl.1 rfl (Nat.le_trans cs_n (by decide)) dX9_standsRight_215 ⟨Nat.le_of_ble_eq_true rfl, Nat.le_of_ble_eq_true rfl⟩ hK hP hD hS hA hG (fun E ce q9 u_95 H locs hw hP hD hS hce hcv hcl => ?_) (fun v9 u_95 H locs hw hP hD hS => ?_)
      · exact hw.elim
      obtain ⟨r_94, rfl, rfl, hr_94, fI_r_94⟩ := hw
      have hP : va_P (dC, dI) vwCl (cW ad cid a2 lx sg gm lg) H := hP
      have hD : va_D A (cW ad cid a2 lx sg gm lg) := hD
      refine W.eq (g2 := F0 m 218 ls [.int r_94]) rfl ?_
      have gI_r_94 : (r_94.toInt = 1 ∧ dIn D o.toNatClampNeg = 5) ∨ (r_94.toInt = 0 ∧ ¬ dIn D o.toNatClampNeg = 5) := by rw [← ISI_d hEV (a := 4) (K := 5) (by unfold KW7; decide) (by decide)]; exact fI_r_94
      refine lv_if_eq (tgt := 225) hx hb dX9_standsRight_218 (by decide) (fun c_97 => ?_) (fun c_97 => ?_)
      · have h_98 : iv 0 0 r_94 := iv_eq c_97 hr_94 (iv_k (by decide) : iv 0 0 0) (by decide)
        refine lv_iconst (v := 0) hx hb dX9_standsRight_225 (by decide) ?_
        exact hj226 0 hvx hvo (iv_w (iv_k (by decide) : iv 0 0 0) (by decide)) (Or.inr ⟨rfl, (fun q9 => by have hkd : dKd D o.toNatClampNeg = 6 := KW_f hEV.1 (by unfold KW7; rw [show (gm 14 o.toNatClampNeg).toInt = (6 : Int) from (by rw [← ez_4]; exact swy 6 12 (by decide) (h_5) ez_6 c_86)]; decide); have q8 := STN_6 hkd q9; have := gI_r_88; have := gI_r_94; have := i32_0; have := i32_1; have := i32_2; have := i32_m1; have := (hvx).1; have := (hvx).2; have := (hvo).1; have := (hvo).2; have := (h_5).1; have := (h_5).2; have := (h_87).1; have := (h_87).2; have := (h_93).1; have := (h_93).2; have := (h_98).1; have := (h_98).2; omega)⟩) _ _ _ hP hD hS (lv_sub hl [0, 1] rfl)
      · have h_99 : iv 1 1 r_94 := iv_neL c_97 hr_94 (by decide)
        exact hj221 hvx hvo ((by have hkd : dKd D o.toNatClampNeg = 6 := KW_f hEV.1 (by unfold KW7; rw [show (gm 14 o.toNatClampNeg).toInt = (6 : Int) from (by rw [← ez_4]; exact swy 6 12 (by decide) (h_5) ez_6 c_86)]; decide); exact Or.inr (Or.inr (Or.inr (Or.inr (Or.inr (Or.inr (Or.inl ⟨hkd, (by have := gI_r_88; have := gI_r_94; have := i32_0; have := i32_1; have := i32_2; have := i32_m1; have := (hvx).1; have := (hvx).2; have := (hvo).1; have := (hvo).2; have := (h_5).1; have := (h_5).2; have := (h_87).1; have := (h_87).2; have := (h_93).1; have := (h_93).2; have := (h_99).1; have := (h_99).2; omega)⟩)))))))) _ _ _ hP hD hS (lv_sub hl [0, 1] rfl)
  by_cases c_100 : (z_6 : Int32).toInt = 13
  · refine lv_tableIn (tgt := 227) hx hb dX9_standsRight_11 (by rw [c_100]; decide) (by rw [c_100]; decide) (by rw [c_100]; rfl) (by decide) ?_
    have h_101 : iv 13 13 z_6 := iv_at c_100
    exact hj227 hvx hvo ((by have hkd : dKd D o.toNatClampNeg = 7 := KW_f hEV.1 (by unfold KW7; rw [show (gm 14 o.toNatClampNeg).toInt = (7 : Int) from (by rw [← ez_4]; exact swy 7 13 (by decide) (h_5) ez_6 c_100)]; decide); omega)) _ _ _ hP hD hS (lv_sub hl [0, 1] rfl)
  by_cases c_102 : (z_6 : Int32).toInt = 14
  · refine lv_tableIn (tgt := 227) hx hb dX9_standsRight_11 (by rw [c_102]; decide) (by rw [c_102]; decide) (by rw [c_102]; rfl) (by decide) ?_
    have h_103 : iv 14 14 z_6 := iv_at c_102
    exact hj227 hvx hvo ((by have hkd : dKd D o.toNatClampNeg = 8 := KW_f hEV.1 (by unfold KW7; rw [show (gm 14 o.toNatClampNeg).toInt = (8 : Int) from (by rw [← ez_4]; exact swy 8 14 (by decide) (h_5) ez_6 c_102)]; decide); omega)) _ _ _ hP hD hS (lv_sub hl [0, 1] rfl)
  by_cases c_104 : (z_6 : Int32).toInt = 15
  · refine lv_tableIn (tgt := 227) hx hb dX9_standsRight_11 (by rw [c_104]; decide) (by rw [c_104]; decide) (by rw [c_104]; rfl) (by decide) ?_
    have h_105 : iv 15 15 z_6 := iv_at c_104
    exact hj227 hvx hvo ((by have hkd : dKd D o.toNatClampNeg = 9 := KW_f hEV.1 (by unfold KW7; rw [show (gm 14 o.toNatClampNeg).toInt = (9 : Int) from (by rw [← ez_4]; exact swy 9 15 (by decide) (h_5) ez_6 c_104)]; decide); omega)) _ _ _ hP hD hS (lv_sub hl [0, 1] rfl)
  refine lv_tableOut (tgt := 233) hx hb dX9_standsRight_11 (by have q1 := (hz_6).1; have q2 := (hz_6).2; omega) (by decide) ?_
  refine lv_iconst (v := 0) hx hb dX9_standsRight_233 (by decide) ?_
  exact W.nb (fun hN => W.widen (k := 1) (n := 6) (by decide) (by decide) (vx_ret (W.zret (v := 0) hx hb hr (iv_nb (iv_w (iv_k (by decide) : iv 0 0 0) (by decide))) (fun t ht hW => ⟨⟨some (.int 0), (sg, gm, lg), rfl, ⟨0, rfl, rfl, (iv_w (iv_k (by decide) : iv 0 0 0) (by decide)), (Or.inr ⟨rfl, fun q9 => STN_0 q9 (by have n1 : ¬ dKd D o.toNatClampNeg = 1 := fun q8 => absurd (KW_j (q8 ▸ hEV.1 : KW7 (gm 14 o.toNatClampNeg).toInt 1) (by decide)) (by rw [show wkF 1 = 0 by decide]; have n9 := swx (y := z_4) 0 6 (by decide) (h_5) ez_6 (by omega); rw [ez_4] at n9; exact n9); have n2 : ¬ dKd D o.toNatClampNeg = 2 := fun q8 => absurd (KW_j (q8 ▸ hEV.1 : KW7 (gm 14 o.toNatClampNeg).toInt 2) (by decide)) (by rw [show wkF 2 = 1 by decide]; have n9 := swx (y := z_4) 1 7 (by decide) (h_5) ez_6 (by omega); rw [ez_4] at n9; exact n9); have n3 : ¬ dKd D o.toNatClampNeg = 3 := fun q8 => absurd (KW_j (q8 ▸ hEV.1 : KW7 (gm 14 o.toNatClampNeg).toInt 3) (by decide)) (by rw [show wkF 3 = 2 by decide]; have n9 := swx (y := z_4) 2 8 (by decide) (h_5) ez_6 (by omega); rw [ez_4] at n9; exact n9); have n4 : ¬ dKd D o.toNatClampNeg = 4 := fun q8 => absurd (KW_j (q8 ▸ hEV.1 : KW7 (gm 14 o.toNatClampNeg).toInt 4) (by decide)) (by rw [show wkF 4 = 3 by decide]; have n9 := swx (y := z_4) 3 9 (by decide) (h_5) ez_6 (by omega); rw [ez_4] at n9; exact n9); have n5 : ¬ dKd D o.toNatClampNeg = 5 := fun q8 => absurd (KW_j (q8 ▸ hEV.1 : KW7 (gm 14 o.toNatClampNeg).toInt 5) (by decide)) (by rw [show wkF 5 = 4 by decide]; have n9 := swx (y := z_4) 4 10 (by decide) (h_5) ez_6 (by omega); rw [ez_4] at n9; exact n9); have n10 : ¬ dKd D o.toNatClampNeg = 10 := fun q8 => absurd (KW_j (q8 ▸ hEV.1 : KW7 (gm 14 o.toNatClampNeg).toInt 10) (by decide)) (by rw [show wkF 10 = 5 by decide]; have n9 := swx (y := z_4) 5 11 (by decide) (h_5) ez_6 (by omega); rw [ez_4] at n9; exact n9); have n6 : ¬ dKd D o.toNatClampNeg = 6 := fun q8 => absurd (KW_j (q8 ▸ hEV.1 : KW7 (gm 14 o.toNatClampNeg).toInt 6) (by decide)) (by rw [show wkF 6 = 6 by decide]; have n9 := swx (y := z_4) 6 12 (by decide) (h_5) ez_6 (by omega); rw [ez_4] at n9; exact n9); have n7 : ¬ dKd D o.toNatClampNeg = 7 := fun q8 => absurd (KW_j (q8 ▸ hEV.1 : KW7 (gm 14 o.toNatClampNeg).toInt 7) (by decide)) (by rw [show wkF 7 = 7 by decide]; have n9 := swx (y := z_4) 7 13 (by decide) (h_5) ez_6 (by omega); rw [ez_4] at n9; exact n9); have n8 : ¬ dKd D o.toNatClampNeg = 8 := fun q8 => absurd (KW_j (q8 ▸ hEV.1 : KW7 (gm 14 o.toNatClampNeg).toInt 8) (by decide)) (by rw [show wkF 8 = 8 by decide]; have n9 := swx (y := z_4) 8 14 (by decide) (h_5) ez_6 (by omega); rw [ez_4] at n9; exact n9); have n9 : ¬ dKd D o.toNatClampNeg = 9 := fun q8 => absurd (KW_j (q8 ▸ hEV.1 : KW7 (gm 14 o.toNatClampNeg).toInt 9) (by decide)) (by rw [show wkF 9 = 9 by decide]; have n9 := swx (y := z_4) 9 15 (by decide) (h_5) ez_6 (by omega); rw [ez_4] at n9; exact n9); have := kd7_r (dEl D o.toNatClampNeg).2.2.1.toInt; have : dKd D o.toNatClampNeg = kd7 (dEl D o.toNatClampNeg).2.2.1.toInt := rfl; omega)⟩)⟩, by rw [ht]; exact hP, va_K.moved hW.alike hK, hD⟩, hS.F ht, by rw [ht]; exact hN⟩) hS.2.2 dX9_standsRight_234)))

set_option maxHeartbeats 4000000 in
set_option maxRecDepth 100000 in
theorem d_isRightS2 (l : Launch) (dC : Nat → ClassId) (dI : Nat → Nat → Nat) (ad : Nat → Nat → Nat) (cid : Nat → ClassId) (a2 : Nat → Nat) (lx : List Nat) (sg : Nat → Int32) (gm : Nat → Nat → Int32) (lg : Nat → Nat → Int64) (x : Int32) (o : Int32) (D : List El7) (hI : CI sg gm) (hvx : iv 0 0 x) (hvo : iv 0 79 o) (hFA : FA sg gm) (how : o.toInt < (sg 4).toInt) (hVS : VS sg gm) (hLK : LK sg gm) (hEV : EV7 D sg gm lg o.toNatClampNeg) (hRC : RDC D sg gm lg) (hPA : PA7 (dAt D o.toNatClampNeg)) : CMt dC dI ad cid a2 lx l yX9_isRight wm_X9_isRight ({ frames := 5, cells := 1, slots := 6, locals := 120 }) [eV (ad 3) x, eV (ad 9) o] sg gm lg (fun v u => ∃ r : Int32, v = some (.int r) ∧ u = (sg, gm, lg) ∧ (iv 0 1 r) ∧ ((r.toInt = 1 ∧ (GOODC D o.toNatClampNeg)) ∨ (r.toInt = 0 ∧ ¬ (GOODC D o.toNatClampNeg)))) (fun _ _ => False) := by
  intro sz
  refine vx_ofW (cc := cX9_isRight) (maxL := 2) (ret := (some .boolean)) (by decide) rfl ?_
  intro p e s m args below meth c s₁ B hml hxt hv
  obtain ⟨rfl, hsz, hP, hK, hD0, hG⟩ := hv
  have hx := B.exec
  have hb := B.bytes
  have hr := B.returns
  have hts := atoms_spec (ws := wm_X9_isRight) B.pre
  have htb := fun (w : Cond) (h : w ∈ tb) => hts w (List.mem_cons_of_mem _ h)
  have hown : s.vm.findClass RX9 = some m.cls := findClass_of_methodNamed B.named
  have hlocks := B.notSynchronized
  subst hsz
  have hD := hD0.self (sz := s.heap.size)
  generalize hAe : va_A (cW ad cid a2 lx sg gm lg) s.heap.size = A at hD hG ⊢
  have hA : ∀ q : Nat, s.heap.size ≤ q → A q := fun q h => by rw [← hAe]; exact Or.inr h
  have hS : va_S A s.heap s.heap [] := va_S.rf
  have hl := lv_entry ([eV (ad 3) x, eV (ad 9) o]) (n := 2) (by rw [show (lg_sl ([eV (ad 3) x, eV (ad 9) o])).length = 2 from by simp [lg_sl, eV_cat, cat_i, cat_l]]; exact Nat.le_of_ble_eq_true rfl)
  rw [lg_entry_eq]
  generalize (lg_sl ([eV (ad 3) x, eV (ad 9) o]) ++ List.replicate (2 - (lg_sl ([eV (ad 3) x, eV (ad 9) o])).length) Slot.unset).toArray = ls at hl ⊢
  have hl : lv_has ls 2 [(0, eV (ad 3) x), (1, eV (ad 9) o)] := by simp [lv_args, eV_cat, cat_i, cat_l] at hl; exact hl
  have hj61 : ∀ (y0_61 : Int32) (_ : iv 0 0 x) (_ : iv 0 79 o) (_ : iv 0 1 y0_61) (_ : (y0_61.toInt = 1 ∧ (GOODC D o.toNatClampNeg)) ∨ (y0_61.toInt = 0 ∧ ¬ (GOODC D o.toNatClampNeg))) (H : Heap) (locs : List Loc) (ls : Array Slot), va_P (dC, dI) vwCl (cW ad cid a2 lx sg gm lg) H → va_D A (cW ad cid a2 lx sg gm lg) → va_S A s.heap H locs → lv_has ls 2 [(0, eV (ad 3) x), (1, eV (ad 9) o)] → W p l e (headSpec wm_X9_isRight ({ frames := 5, cells := 1, slots := 6, locals := 120 })).room s m ([eV (ad 3) x, eV (ad 9) o] : List Value).toArray below meth c H locs 0 0 (vx_MQ below (cQx dC dI ad cid a2 lx (fun v u => ∃ r : Int32, v = some (.int r) ∧ u = (sg, gm, lg) ∧ (iv 0 1 r) ∧ ((r.toInt = 1 ∧ (GOODC D o.toNatClampNeg)) ∨ (r.toInt = 0 ∧ ¬ (GOODC D o.toNatClampNeg)))) A) (cX dC dI ad cid a2 lx (fun _ _ => False) A) ([eV (ad 3) x, eV (ad 9) o] : List Value).toArray s 1 6 A) (F0 m 61 ls [.int y0_61]) := by
    intro y0_61 hsx0_61 hsx1_61 hy0_61 u61 H locs ls hP hD hS hl
    exact W.nb (fun hN => W.widen (k := 1) (n := 6) (by decide) (by decide) (vx_ret (W.zret (v := y0_61) hx hb hr (iv_nb hy0_61) (fun t ht hW => ⟨⟨some (.int y0_61), (sg, gm, lg), rfl, ⟨y0_61, rfl, rfl, hy0_61, (u61)⟩, by rw [ht]; exact hP, va_K.moved hW.alike hK, hD⟩, hS.F ht, by rw [ht]; exact hN⟩) hS.2.2 dX9_isRight_61)))
  have hj60 : ∀ (_ : iv 0 0 x) (_ : iv 0 79 o) (_ : ¬ GOODC D o.toNatClampNeg) (H : Heap) (locs : List Loc) (ls : Array Slot), va_P (dC, dI) vwCl (cW ad cid a2 lx sg gm lg) H → va_D A (cW ad cid a2 lx sg gm lg) → va_S A s.heap H locs → lv_has ls 2 [(0, eV (ad 3) x), (1, eV (ad 9) o)] → W p l e (headSpec wm_X9_isRight ({ frames := 5, cells := 1, slots := 6, locals := 120 })).room s m ([eV (ad 3) x, eV (ad 9) o] : List Value).toArray below meth c H locs 0 0 (vx_MQ below (cQx dC dI ad cid a2 lx (fun v u => ∃ r : Int32, v = some (.int r) ∧ u = (sg, gm, lg) ∧ (iv 0 1 r) ∧ ((r.toInt = 1 ∧ (GOODC D o.toNatClampNeg)) ∨ (r.toInt = 0 ∧ ¬ (GOODC D o.toNatClampNeg)))) A) (cX dC dI ad cid a2 lx (fun _ _ => False) A) ([eV (ad 3) x, eV (ad 9) o] : List Value).toArray s 1 6 A) (F0 m 60 ls []) := by
    intro  hsx0_60 hsx1_60 u60 H locs ls hP hD hS hl
    refine lv_iconst (v := 0) hx hb dX9_isRight_60 (by decide) ?_
    exact hj61 0 hsx0_60 hsx1_60 (iv_w (iv_k (by decide) : iv 0 0 0) (by decide)) (Or.inr ⟨rfl, u60⟩) _ _ _ hP hD hS (lv_sub hl [0, 1] rfl)
  have hj48 : ∀ (_ : iv 0 0 x) (_ : iv 0 79 o) (_ : 0 ≤ (gm 14 o.toNatClampNeg).toInt) (_ : STN D o.toNatClampNeg ∧ ATN D o.toNatClampNeg ∧ NEE D o.toNatClampNeg ∧ (dTx D o.toNatClampNeg = 0 ∨ dKd D o.toNatClampNeg = 7)) (H : Heap) (locs : List Loc) (ls : Array Slot), va_P (dC, dI) vwCl (cW ad cid a2 lx sg gm lg) H → va_D A (cW ad cid a2 lx sg gm lg) → va_S A s.heap H locs → lv_has ls 2 [(0, eV (ad 3) x), (1, eV (ad 9) o)] → W p l e (headSpec wm_X9_isRight ({ frames := 5, cells := 1, slots := 6, locals := 120 })).room s m ([eV (ad 3) x, eV (ad 9) o] : List Value).toArray below meth c H locs 0 0 (vx_MQ below (cQx dC dI ad cid a2 lx (fun v u => ∃ r : Int32, v = some (.int r) ∧ u = (sg, gm, lg) ∧ (iv 0 1 r) ∧ ((r.toInt = 1 ∧ (GOODC D o.toNatClampNeg)) ∨ (r.toInt = 0 ∧ ¬ (GOODC D o.toNatClampNeg)))) A) (cX dC dI ad cid a2 lx (fun _ _ => False) A) ([eV (ad 3) x, eV (ad 9) o] : List Value).toArray s 1 6 A) (F0 m 48 ls []) := by
    intro  hsx0_48 hsx1_48 hw9 u48 H locs ls hP hD hS hl
    refine ec_aload_n hx hb dX9_isRight_48 rfl (lv_at hl 0 rfl) ?_
    refine ec_aload_n hx hb dX9_isRight_49 rfl (lv_at hl 1 rfl) ?_
    refine cm_callV (t := 3) (C := RX9) (T := TX9) (N := 1) (rest := []) (as := [eV (ad 9) o]) ⟨hx, hb, hml, hown, htb⟩ (d_hasRightCount2 l dC dI ad cid a2 lx sg gm lg x o D hI hsx0_48 hsx1_48 hFA how hVS hw9 hEV (STN_0 u48.1)) (cwV 1 htb (gd_V kw_617 kw_618 kw_619 kw_28 kw_1483) rfl rfl rfl (by decide +kernel) ⟨Nat.le_of_ble_eq_true rfl, Nat.le_of_ble_eq_true rfl⟩) hsx0_48 (by decide) (by decide) rfl rfl hl.1 rfl (Nat.le_trans cs_n (by decide)) dX9_isRight_50 ⟨Nat.le_of_ble_eq_true rfl, Nat.le_of_ble_eq_true rfl⟩ hK hP hD hS hA hG (fun E ce q9 u_2 H locs hw hP hD hS hce hcv hcl => ?_) (fun v9 u_2 H locs hw hP hD hS => ?_)
    · exact hw.elim
    obtain ⟨r_1, rfl, rfl, hr_1, fC_r_1⟩ := hw
    have hP : va_P (dC, dI) vwCl (cW ad cid a2 lx sg gm lg) H := hP
    have hD : va_D A (cW ad cid a2 lx sg gm lg) := hD
    refine W.eq (g2 := F0 m 53 ls [.int r_1]) rfl ?_
    refine lv_if_eq (tgt := 60) hx hb dX9_isRight_53 (by decide) (fun c_4 => ?_) (fun c_4 => ?_)
    · have h_5 : iv 0 0 r_1 := iv_eq c_4 hr_1 (iv_k (by decide) : iv 0 0 0) (by decide)
      exact hj60 hsx0_48 hsx1_48 ((fun q9 => (fC_r_1.resolve_left (fun q8 => absurd q8.1 (by have := i32_0; have := i32_1; have := i32_2; have := i32_m1; have := (hsx0_48).1; have := (hsx0_48).2; have := (hsx1_48).1; have := (hsx1_48).2; have := (h_5).1; have := (h_5).2; omega))).2 q9.2.2.2.2)) _ _ _ hP hD hS (lv_sub hl [0, 1] rfl)
    · have h_6 : iv 1 1 r_1 := iv_neL c_4 hr_1 (by decide)
      refine lv_iconst (v := 1) hx hb dX9_isRight_56 (by decide) ?_
      refine lv_goto (tgt := 61) hx hb dX9_isRight_57 (by decide) ?_
      exact hj61 1 hsx0_48 hsx1_48 (iv_w (iv_k (by decide) : iv 1 1 1) (by decide)) (Or.inl ⟨rfl, u48.1, u48.2.1, u48.2.2.1, u48.2.2.2, (fC_r_1.resolve_right (fun q8 => absurd q8.1 (by have := i32_0; have := i32_1; have := i32_2; have := i32_m1; have := (hsx0_48).1; have := (hsx0_48).2; have := (hsx1_48).1; have := (hsx1_48).2; have := (h_6).1; have := (h_6).2; omega))).2⟩) _ _ _ hP hD hS (lv_sub hl [0, 1] rfl)
  refine ec_aload_n hx hb dX9_isRight_0 rfl (lv_at hl 1 rfl) ?_
  refine cr_get (t := 9) (j := 4) (C := RX3) (T := TX3) (N := 21) (v := eV (ad 33) (gm 14 o.toNatClampNeg)) hx hb htb inX3 hown hK hP hvo (by decide) (by decide) (by decide) rfl (by decide) (htb _ kw_508) rfl dX9_isRight_1 ?_
  obtain ⟨z_7, ez_7⟩ : ∃ z : Int32, z = (gm 14 o.toNatClampNeg) := ⟨_, rfl⟩
  refine W.eq (g2 := F0 m 4 ls [eV (ad 33) z_7]) (by rw [ez_7]) ?_
  have hz_7 : iv (-1) 33 z_7 := iv_of ez_7 (CI_a hI 14 hvo (by decide))
  refine ec_ifnull (tgt := 60) hx hb dX9_isRight_4 (by decide) (fun c_8 => ?_) (fun c_8 => ?_)
  · have h_9 : iv (-1) (-1) z_7 := ⟨(hz_7).1, by omega⟩
    exact hj60 hvx hvo ((fun q9 => GOODC_k q9 (by have q8 := hEV.1; unfold KW7 at q8; rw [← q8]; exact kwF_0 (by have := congrArg Int32.toInt ez_7; have := i32_0; have := i32_1; have := i32_2; have := i32_m1; have := (hvx).1; have := (hvx).2; have := (hvo).1; have := (hvo).2; have := (h_9).1; have := (h_9).2; omega)))) _ _ _ hP hD hS (lv_sub hl [0, 1] rfl)
  · have h_10 : iv 0 33 z_7 := ⟨c_8, (hz_7).2⟩
    have hw0 : 0 ≤ (gm 14 o.toNatClampNeg).toInt := by rw [← ez_7]; exact (h_10).1
    refine ec_aload_n hx hb dX9_isRight_7 rfl (lv_at hl 0 rfl) ?_
    refine ec_aload_n hx hb dX9_isRight_8 rfl (lv_at hl 1 rfl) ?_
    refine cm_callV (t := 3) (C := RX9) (T := TX9) (N := 1) (rest := []) (as := [eV (ad 9) o]) ⟨hx, hb, hml, hown, htb⟩ (d_standsRight2 l dC dI ad cid a2 lx sg gm lg x o D hI hvx hvo hFA how hVS hLK hw0 hEV hRC) (cwV 1 htb (gd_V kw_511 kw_512 kw_513 kw_28 kw_1460) rfl rfl rfl (by decide +kernel) ⟨Nat.le_of_ble_eq_true rfl, Nat.le_of_ble_eq_true rfl⟩) hvx (by decide) (by decide) rfl rfl hl.1 rfl (Nat.le_trans cs_n (by decide)) dX9_isRight_9 ⟨Nat.le_of_ble_eq_true rfl, Nat.le_of_ble_eq_true rfl⟩ hK hP hD hS hA hG (fun E ce q9 u_12 H locs hw hP hD hS hce hcv hcl => ?_) (fun v9 u_12 H locs hw hP hD hS => ?_)
    · exact hw.elim
    obtain ⟨r_11, rfl, rfl, hr_11, fS_r_11⟩ := hw
    have hP : va_P (dC, dI) vwCl (cW ad cid a2 lx sg gm lg) H := hP
    have hD : va_D A (cW ad cid a2 lx sg gm lg) := hD
    refine W.eq (g2 := F0 m 12 ls [.int r_11]) rfl ?_
    refine lv_if_eq (tgt := 60) hx hb dX9_isRight_12 (by decide) (fun c_14 => ?_) (fun c_14 => ?_)
    · have h_15 : iv 0 0 r_11 := iv_eq c_14 hr_11 (iv_k (by decide) : iv 0 0 0) (by decide)
      exact hj60 hvx hvo ((fun q9 => (fS_r_11.resolve_left (fun q8 => absurd q8.1 (by have := i32_0; have := i32_1; have := i32_2; have := i32_m1; have := (hvx).1; have := (hvx).2; have := (hvo).1; have := (hvo).2; have := (h_10).1; have := (h_10).2; have := (h_15).1; have := (h_15).2; omega))).2 q9.1)) _ _ _ hP hD hS (lv_sub hl [0, 1] rfl)
    · have h_16 : iv 1 1 r_11 := iv_neL c_14 hr_11 (by decide)
      refine ec_aload_n hx hb dX9_isRight_15 rfl (lv_at hl 0 rfl) ?_
      refine ec_aload_n hx hb dX9_isRight_16 rfl (lv_at hl 1 rfl) ?_
      refine cm_callV (t := 3) (C := RX9) (T := TX9) (N := 1) (rest := []) (as := [eV (ad 9) o]) ⟨hx, hb, hml, hown, htb⟩ (d_hasRightAttributes2 l dC dI ad cid a2 lx sg gm lg x o D hI hvx hvo hFA how hVS hw0 hEV hPA) (cwV 1 htb (gd_V kw_555 kw_556 kw_557 kw_28 kw_1470) rfl rfl rfl (by decide +kernel) ⟨Nat.le_of_ble_eq_true rfl, Nat.le_of_ble_eq_true rfl⟩) hvx (by decide) (by decide) rfl rfl hl.1 rfl (Nat.le_trans cs_n (by decide)) dX9_isRight_17 ⟨Nat.le_of_ble_eq_true rfl, Nat.le_of_ble_eq_true rfl⟩ hK hP hD hS hA hG (fun E ce q9 u_18 H locs hw hP hD hS hce hcv hcl => ?_) (fun v9 u_18 H locs hw hP hD hS => ?_)
      · exact hw.elim
      obtain ⟨r_17, rfl, rfl, hr_17, fR_r_17⟩ := hw
      have hP : va_P (dC, dI) vwCl (cW ad cid a2 lx sg gm lg) H := hP
      have hD : va_D A (cW ad cid a2 lx sg gm lg) := hD
      refine W.eq (g2 := F0 m 20 ls [.int r_17]) rfl ?_
      refine lv_if_eq (tgt := 60) hx hb dX9_isRight_20 (by decide) (fun c_20 => ?_) (fun c_20 => ?_)
      · have h_21 : iv 0 0 r_17 := iv_eq c_20 hr_17 (iv_k (by decide) : iv 0 0 0) (by decide)
        exact hj60 hvx hvo ((fun q9 => (fR_r_17.resolve_left (fun q8 => absurd q8.1 (by have := i32_0; have := i32_1; have := i32_2; have := i32_m1; have := (hvx).1; have := (hvx).2; have := (hvo).1; have := (hvo).2; have := (h_10).1; have := (h_10).2; have := (h_16).1; have := (h_16).2; have := (h_21).1; have := (h_21).2; omega))).2 q9.2.1)) _ _ _ hP hD hS (lv_sub hl [0, 1] rfl)
      · have h_22 : iv 1 1 r_17 := iv_neL c_20 hr_17 (by decide)
        refine ec_aload_n hx hb dX9_isRight_23 rfl (lv_at hl 0 rfl) ?_
        refine ec_aload_n hx hb dX9_isRight_24 rfl (lv_at hl 1 rfl) ?_
        refine cm_callV (t := 3) (C := RX9) (T := TX9) (N := 1) (rest := []) (as := [eV (ad 9) o]) ⟨hx, hb, hml, hown, htb⟩ (d_hasWhat2 l dC dI ad cid a2 lx sg gm lg x o D hI hvx hvo hFA how hVS hw0 hEV) (cwV 1 htb (gd_V kw_601 kw_602 kw_603 kw_28 kw_1480) rfl rfl rfl (by decide +kernel) ⟨Nat.le_of_ble_eq_true rfl, Nat.le_of_ble_eq_true rfl⟩) hvx (by decide) (by decide) rfl rfl hl.1 rfl (Nat.le_trans cs_n (by decide)) dX9_isRight_25 ⟨Nat.le_of_ble_eq_true rfl, Nat.le_of_ble_eq_true rfl⟩ hK hP hD hS hA hG (fun E ce q9 u_24 H locs hw hP hD hS hce hcv hcl => ?_) (fun v9 u_24 H locs hw hP hD hS => ?_)
        · exact hw.elim
        obtain ⟨r_23, rfl, rfl, hr_23, fN_r_23⟩ := hw
        have hP : va_P (dC, dI) vwCl (cW ad cid a2 lx sg gm lg) H := hP
        have hD : va_D A (cW ad cid a2 lx sg gm lg) := hD
        refine W.eq (g2 := F0 m 28 ls [.int r_23]) rfl ?_
        refine lv_if_eq (tgt := 60) hx hb dX9_isRight_28 (by decide) (fun c_26 => ?_) (fun c_26 => ?_)
        · have h_27 : iv 0 0 r_23 := iv_eq c_26 hr_23 (iv_k (by decide) : iv 0 0 0) (by decide)
          exact hj60 hvx hvo ((fun q9 => (fN_r_23.resolve_left (fun q8 => absurd q8.1 (by have := i32_0; have := i32_1; have := i32_2; have := i32_m1; have := (hvx).1; have := (hvx).2; have := (hvo).1; have := (hvo).2; have := (h_10).1; have := (h_10).2; have := (h_16).1; have := (h_16).2; have := (h_22).1; have := (h_22).2; have := (h_27).1; have := (h_27).2; omega))).2 q9.2.2.1)) _ _ _ hP hD hS (lv_sub hl [0, 1] rfl)
        · have h_28 : iv 1 1 r_23 := iv_neL c_26 hr_23 (by decide)
          refine ec_aload_n hx hb dX9_isRight_31 rfl (lv_at hl 1 rfl) ?_
          refine cr_get (t := 9) (j := 1) (C := RX3) (T := TX3) (N := 21) (v := .int (gm 11 o.toNatClampNeg)) hx hb htb inX3 hown hK hP hvo (by decide) (by decide) (by decide) rfl (by decide) (htb _ kw_509) rfl dX9_isRight_32 ?_
          obtain ⟨z_29, ez_29⟩ : ∃ z : Int32, z = (gm 11 o.toNatClampNeg) := ⟨_, rfl⟩
          refine W.eq (g2 := F0 m 35 ls [.int z_29]) (by rw [ez_29]) ?_
          have hz_29 : iv 0 24 z_29 := iv_of ez_29 (CI_a hI 11 hvo (by decide))
          refine lv_if_eq (tgt := 48) hx hb dX9_isRight_35 (by decide) (fun c_30 => ?_) (fun c_30 => ?_)
          · have h_31 : iv 0 0 z_29 := iv_eq c_30 hz_29 (iv_k (by decide) : iv 0 0 0) (by decide)
            exact hj48 hvx hvo (hw0) (⟨(fS_r_11.resolve_right (fun q8 => absurd q8.1 (by have := i32_0; have := i32_1; have := i32_2; have := i32_m1; have := (hvx).1; have := (hvx).2; have := (hvo).1; have := (hvo).2; have := (h_10).1; have := (h_10).2; have := (h_16).1; have := (h_16).2; have := (h_22).1; have := (h_22).2; have := (h_28).1; have := (h_28).2; have := (h_31).1; have := (h_31).2; omega))).2, (fR_r_17.resolve_right (fun q8 => absurd q8.1 (by have := i32_0; have := i32_1; have := i32_2; have := i32_m1; have := (hvx).1; have := (hvx).2; have := (hvo).1; have := (hvo).2; have := (h_10).1; have := (h_10).2; have := (h_16).1; have := (h_16).2; have := (h_22).1; have := (h_22).2; have := (h_28).1; have := (h_28).2; have := (h_31).1; have := (h_31).2; omega))).2, (fN_r_23.resolve_right (fun q8 => absurd q8.1 (by have := i32_0; have := i32_1; have := i32_2; have := i32_m1; have := (hvx).1; have := (hvx).2; have := (hvo).1; have := (hvo).2; have := (h_10).1; have := (h_10).2; have := (h_16).1; have := (h_16).2; have := (h_22).1; have := (h_22).2; have := (h_28).1; have := (h_28).2; have := (h_31).1; have := (h_31).2; omega))).2, Or.inl (by have := hEV.2.2.2.2.1; have := congrArg Int32.toInt ez_29; have := i32_0; have := i32_1; have := i32_2; have := i32_m1; have := (hvx).1; have := (hvx).2; have := (hvo).1; have := (hvo).2; have := (h_10).1; have := (h_10).2; have := (h_16).1; have := (h_16).2; have := (h_22).1; have := (h_22).2; have := (h_28).1; have := (h_28).2; have := (h_31).1; have := (h_31).2; omega)⟩) _ _ _ hP hD hS (lv_sub hl [0, 1] rfl)
          · have h_32 : iv 1 24 z_29 := iv_neL c_30 hz_29 (by decide)
            refine ec_aload_n hx hb dX9_isRight_38 rfl (lv_at hl 1 rfl) ?_
            refine cr_get (t := 9) (j := 4) (C := RX3) (T := TX3) (N := 21) (v := eV (ad 33) (gm 14 o.toNatClampNeg)) hx hb htb inX3 hown hK hP hvo (by decide) (by decide) (by decide) rfl (by decide) (htb _ kw_508) rfl dX9_isRight_39 ?_
            refine W.eq (g2 := F0 m 42 ls [eV (ad 33) z_7]) (by rw [show (gm 14 o.toNatClampNeg) = z_7 from ez_7.symm]) ?_
            refine cw_word (k := 7) (kx := 7) hx hb hG hS (by decide) rfl ⟨by decide, by decide⟩ hown (htb _ kw_510) dX9_isRight_42 ?_
            refine ec_acmp_ne (tgt := 60) hx hb dX9_isRight_45 (by decide) (fun c_33 => ?_) (fun c_33 => ?_)
            · have wc_33 : ¬ z_7.toInt = (7 : Int) := fun q9 => c_33 (congrArg (er (ad 33)) (Int32.toInt_inj.mp q9))
              exact hj60 hvx hvo ((fun q9 => q9.2.2.2.1.elim (fun q => by have := hEV.2.2.2.2.1; have := congrArg Int32.toInt ez_29; have := i32_0; have := i32_1; have := i32_2; have := i32_m1; have := (hvx).1; have := (hvx).2; have := (hvo).1; have := (hvo).2; have := (h_10).1; have := (h_10).2; have := (h_16).1; have := (h_16).2; have := (h_22).1; have := (h_22).2; have := (h_28).1; have := (h_28).2; have := (h_32).1; have := (h_32).2; omega) (fun q => absurd (KW_j (q ▸ hEV.1 : KW7 (gm 14 o.toNatClampNeg).toInt 7) (by decide)) (by rw [show wkF 7 = 7 by decide]; have q7 : (gm 14 o.toNatClampNeg).toInt = z_7.toInt := (by rw [← ez_7]); have := wc_33; omega)))) _ _ _ hP hD hS (lv_sub hl [0, 1] rfl)
            · have wc_33 : z_7.toInt = (7 : Int) := er_wd hG (iv_w h_10 (by decide)) (iv_w (iv_k (by decide) : iv 7 7 7) (by decide)) c_33
              exact hj48 hvx hvo (hw0) (⟨(fS_r_11.resolve_right (fun q8 => absurd q8.1 (by have := i32_0; have := i32_1; have := i32_2; have := i32_m1; have := (hvx).1; have := (hvx).2; have := (hvo).1; have := (hvo).2; have := (h_10).1; have := (h_10).2; have := (h_16).1; have := (h_16).2; have := (h_22).1; have := (h_22).2; have := (h_28).1; have := (h_28).2; have := (h_32).1; have := (h_32).2; omega))).2, (fR_r_17.resolve_right (fun q8 => absurd q8.1 (by have := i32_0; have := i32_1; have := i32_2; have := i32_m1; have := (hvx).1; have := (hvx).2; have := (hvo).1; have := (hvo).2; have := (h_10).1; have := (h_10).2; have := (h_16).1; have := (h_16).2; have := (h_22).1; have := (h_22).2; have := (h_28).1; have := (h_28).2; have := (h_32).1; have := (h_32).2; omega))).2, (fN_r_23.resolve_right (fun q8 => absurd q8.1 (by have := i32_0; have := i32_1; have := i32_2; have := i32_m1; have := (hvx).1; have := (hvx).2; have := (hvo).1; have := (hvo).2; have := (h_10).1; have := (h_10).2; have := (h_16).1; have := (h_16).2; have := (h_22).1; have := (h_22).2; have := (h_28).1; have := (h_28).2; have := (h_32).1; have := (h_32).2; omega))).2, Or.inr (KW_f hEV.1 (by unfold KW7; rw [show (gm 14 o.toNatClampNeg).toInt = 7 from (by have q7 : (gm 14 o.toNatClampNeg).toInt = z_7.toInt := (by rw [← ez_7]); have := wc_33; omega)]; decide))⟩) _ _ _ hP hD hS (lv_sub hl [0, 1] rfl)

set_option maxHeartbeats 4000000 in
set_option maxRecDepth 100000 in
theorem d_firstWrongS2 (l : Launch) (dC : Nat → ClassId) (dI : Nat → Nat → Nat) (ad : Nat → Nat → Nat) (cid : Nat → ClassId) (a2 : Nat → Nat) (lx : List Nat) (sg : Nat → Int32) (gm : Nat → Nat → Int32) (lg : Nat → Nat → Int64) (x : Int32) (D : List El7) (hI : CI sg gm) (hvx : iv 0 0 x) (hFA : FA sg gm) (hVS : VS sg gm) (hLK : LK sg gm) (hRC : RDC D sg gm lg) (hPD : PD7 D) : CMt dC dI ad cid a2 lx l yX9_firstWrongPlace wm_X9_firstWrongPlace ({ frames := 6, cells := 1, slots := 6, locals := 141 }) [eV (ad 3) x] sg gm lg (fun v u => ∃ r : Int32, v = some (.int r) ∧ u = (sg, gm, lg) ∧ (iv (-1) 1201 r) ∧ (r.toInt = -1 → ∀ j9, j9 < (sg 4).toNatClampNeg → SOK gm lg j9) ∧ ((r.toInt = -1 ∧ ∀ j, j < D.length → GOODC D j) ∨ (0 ≤ r.toInt ∧ ¬ ∀ j, j < D.length → GOODC D j))) (fun _ _ => False) := by
  intro sz
  refine vx_ofW (cc := cX9_firstWrongPlace) (maxL := 2) (ret := (some .int)) (by decide) rfl ?_
  intro p e s m args below meth c s₁ B hml hxt hv
  obtain ⟨rfl, hsz, hP, hK, hD0, hG⟩ := hv
  have hx := B.exec
  have hb := B.bytes
  have hr := B.returns
  have hts := atoms_spec (ws := wm_X9_firstWrongPlace) B.pre
  have htb := fun (w : Cond) (h : w ∈ tb) => hts w (List.mem_cons_of_mem _ h)
  have hown : s.vm.findClass RX9 = some m.cls := findClass_of_methodNamed B.named
  have hlocks := B.notSynchronized
  subst hsz
  have hD := hD0.self (sz := s.heap.size)
  generalize hAe : va_A (cW ad cid a2 lx sg gm lg) s.heap.size = A at hD hG ⊢
  have hA : ∀ q : Nat, s.heap.size ≤ q → A q := fun q h => by rw [← hAe]; exact Or.inr h
  have hS : va_S A s.heap s.heap [] := va_S.rf
  have hl := lv_entry ([eV (ad 3) x]) (n := 2) (by rw [show (lg_sl ([eV (ad 3) x])).length = 1 from by simp [lg_sl, eV_cat, cat_i, cat_l]]; exact Nat.le_of_ble_eq_true rfl)
  rw [lg_entry_eq]
  generalize (lg_sl ([eV (ad 3) x]) ++ List.replicate (2 - (lg_sl ([eV (ad 3) x])).length) Slot.unset).toArray = ls at hl ⊢
  have hl : lv_has ls 2 [(0, eV (ad 3) x)] := by simp [lv_args, eV_cat, cat_i, cat_l] at hl; exact hl
  have hj2 : ∀ (n : Nat) (x1_2 : Int32) (_ : (80 - x1_2.toInt).toNat = n) (_ : iv 0 80 x1_2) (_ : iv 0 0 x) (_ : ∀ j9, j9 < x1_2.toNatClampNeg → GOODC D j9) (H : Heap) (locs : List Loc) (ls : Array Slot), va_P (dC, dI) vwCl (cW ad cid a2 lx sg gm lg) H → va_D A (cW ad cid a2 lx sg gm lg) → va_S A s.heap H locs → lv_has ls 2 [(1, .int x1_2), (0, eV (ad 3) x)] → W p l e (headSpec wm_X9_firstWrongPlace ({ frames := 6, cells := 1, slots := 6, locals := 141 })).room s m ([eV (ad 3) x] : List Value).toArray below meth c H locs 0 0 (vx_MQ below (cQx dC dI ad cid a2 lx (fun v u => ∃ r : Int32, v = some (.int r) ∧ u = (sg, gm, lg) ∧ (iv (-1) 1201 r) ∧ (r.toInt = -1 → ∀ j9, j9 < (sg 4).toNatClampNeg → SOK gm lg j9) ∧ ((r.toInt = -1 ∧ ∀ j, j < D.length → GOODC D j) ∨ (0 ≤ r.toInt ∧ ¬ ∀ j, j < D.length → GOODC D j))) A) (cX dC dI ad cid a2 lx (fun _ _ => False) A) ([eV (ad 3) x] : List Value).toArray s 1 6 A) (F0 m 2 ls []) := by
    intro n
    induction n using Nat.strongRecOn with
    | ind n ih2 =>
      intro x1_2 hn2 hx1_2 hsx0_2 hall H locs ls hP hD hS hl
      refine lv_iload_n hx hb dX9_firstWrongPlace_2 rfl (lv_at hl 0 rfl) ?_
      refine ec_aload_n hx hb dX9_firstWrongPlace_3 rfl (lv_at hl 1 rfl) ?_
      refine cr_get (t := 3) (j := 0) (C := RX9) (T := TX9) (N := 1) (v := eV (ad 1) 0) hx hb htb inX9 hown hK hP hsx0_2 (by decide) (by decide) (by decide) rfl (by decide) (htb _ kw_82) (cV_c rfl (by decide) (by rw [show cMu 3 0 = 0 from rfl, Nat.zero_mul]; rfl)) dX9_firstWrongPlace_4 ?_
      refine cm_callV (t := 1) (C := RX6) (T := TX6) (N := 8) (rest := [.int x1_2]) (as := []) ⟨hx, hb, hml, hown, htb⟩ (d_countPa l dC dI ad cid a2 lx sg gm lg 0 hI (iv_k (by decide) : iv 0 0 0)) (cwV 0 htb (gd_V kw_499 kw_500 kw_501 kw_20 kw_1457) rfl rfl rfl (by decide +kernel) ⟨Nat.le_of_ble_eq_true rfl, Nat.le_of_ble_eq_true rfl⟩) (iv_k (by decide) : iv 0 0 0) (by decide) (by decide) rfl rfl hl.1 rfl (Nat.le_trans (cs_c (cat_i _) cs_n) (by decide)) dX9_firstWrongPlace_7 ⟨Nat.le_of_ble_eq_true rfl, Nat.le_of_ble_eq_true rfl⟩ hK hP hD hS hA hG (fun E ce q9 u_2 H locs hw hP hD hS hce hcv hcl => ?_) (fun v9 u_2 H locs hw hP hD hS => ?_)
      · exact hw.elim
      obtain ⟨r_1, rfl, rfl, hr_1, fr_r_1⟩ := hw
      have hP : va_P (dC, dI) vwCl (cW ad cid a2 lx sg gm lg) H := hP
      have hD : va_D A (cW ad cid a2 lx sg gm lg) := hD
      refine W.eq (g2 := F0 m 10 ls [.int r_1, .int x1_2]) rfl ?_
      refine lv_icmp_ge (tgt := 46) hx hb dX9_firstWrongPlace_10 (by decide) (fun c_4 => ?_) (fun c_4 => ?_)
      · have d_5 : (r_1 : Int32).toInt ≤ (x1_2 : Int32).toInt := Int32.le_iff_toInt_le.mp c_4
        refine lv_iconst (v := (-1)) hx hb dX9_firstWrongPlace_46 (by decide) ?_
        exact W.nb (fun hN => W.widen (k := 1) (n := 6) (by decide) (by decide) (vx_ret (W.iret (v := (-1)) hx hb hr (fun t ht hW => ⟨⟨some (.int (-1)), (sg, gm, lg), rfl, ⟨(-1), rfl, rfl, (iv_w (iv_k (by decide) : iv (-1) (-1) (-1)) (by decide)), (fun _ j9 q9 => SOK_of (dAt_pv hPD) (show iv 0 240 (sg 5) from CI_s hI 5).2 (EV_of hRC (by rw [← RDC_n hRC]; exact q9)) (GOODC_k (hall j9 (by have := hRC.1; have q1 : (sg 4).toNatClampNeg = (sg 4).toInt.toNat := rfl; have q2 : x1_2.toNatClampNeg = x1_2.toInt.toNat := rfl; have q3 := congrArg Int32.toInt fr_r_1; have := i32_0; have := i32_1; have := i32_2; have := i32_m1; have := (show iv 0 80 (sg 4) from CI_s hI 4).1; have := (show iv 0 80 (sg 4) from CI_s hI 4).2; have := (hsx0_2).1; have := (hsx0_2).2; have := (hx1_2).1; have := (hx1_2).2; have := (hr_1).1; have := (hr_1).2; omega))) (hall j9 (by have := hRC.1; have q1 : (sg 4).toNatClampNeg = (sg 4).toInt.toNat := rfl; have q2 : x1_2.toNatClampNeg = x1_2.toInt.toNat := rfl; have q3 := congrArg Int32.toInt fr_r_1; have := i32_0; have := i32_1; have := i32_2; have := i32_m1; have := (show iv 0 80 (sg 4) from CI_s hI 4).1; have := (show iv 0 80 (sg 4) from CI_s hI 4).2; have := (hsx0_2).1; have := (hsx0_2).2; have := (hx1_2).1; have := (hx1_2).2; have := (hr_1).1; have := (hr_1).2; omega))), (Or.inl ⟨rfl, fun j9 q9 => hall j9 (by have := hRC.1; have q2 : x1_2.toNatClampNeg = x1_2.toInt.toNat := rfl; have q3 := congrArg Int32.toInt fr_r_1; have := i32_0; have := i32_1; have := i32_2; have := i32_m1; have := (show iv 0 80 (sg 4) from CI_s hI 4).1; have := (show iv 0 80 (sg 4) from CI_s hI 4).2; have := (hsx0_2).1; have := (hsx0_2).2; have := (hx1_2).1; have := (hx1_2).2; have := (hr_1).1; have := (hr_1).2; omega)⟩)⟩, by rw [ht]; exact hP, va_K.moved hW.alike hK, hD⟩, hS.F ht, by rw [ht]; exact hN⟩) hS.2.2 dX9_firstWrongPlace_47)))
      · have d_6 : (x1_2 : Int32).toInt < (r_1 : Int32).toInt := Int32.lt_iff_toInt_lt.mp (i32_lt c_4)
        have h_7 : iv 0 79 x1_2 := iv_ltL (i32_lt c_4) hx1_2 hr_1 (by decide)
        have h_8 : iv 1 80 r_1 := iv_ltR (i32_lt c_4) hx1_2 hr_1 (by decide)
        refine ec_aload_n hx hb dX9_firstWrongPlace_13 rfl (lv_at hl 1 rfl) ?_
        refine ec_aload_n hx hb dX9_firstWrongPlace_14 rfl (lv_at hl 1 rfl) ?_
        refine cr_get (t := 3) (j := 0) (C := RX9) (T := TX9) (N := 1) (v := eV (ad 1) 0) hx hb htb inX9 hown hK hP hsx0_2 (by decide) (by decide) (by decide) rfl (by decide) (htb _ kw_82) (cV_c rfl (by decide) (by rw [show cMu 3 0 = 0 from rfl, Nat.zero_mul]; rfl)) dX9_firstWrongPlace_15 ?_
        refine lv_iload_n hx hb dX9_firstWrongPlace_18 rfl (lv_at hl 0 rfl) ?_
        refine cm_callV (t := 1) (C := RX6) (T := TX6) (N := 8) (rest := [eV (ad 3) x]) (as := [.int x1_2]) ⟨hx, hb, hml, hown, htb⟩ (d_element l dC dI ad cid a2 lx sg gm lg 0 x1_2 hI (iv_k (by decide) : iv 0 0 0) h_7) (cwV 1 htb (gd_V kw_502 kw_503 kw_504 kw_20 kw_1458) rfl rfl rfl (by decide +kernel) ⟨Nat.le_of_ble_eq_true rfl, Nat.le_of_ble_eq_true rfl⟩) (iv_k (by decide) : iv 0 0 0) (by decide) (by decide) rfl rfl hl.1 rfl (Nat.le_trans (cs_c (eV_cat _ _) cs_n) (by decide)) dX9_firstWrongPlace_19 ⟨Nat.le_of_ble_eq_true rfl, Nat.le_of_ble_eq_true rfl⟩ hK hP hD hS hA hG (fun E ce q9 u_10 H locs hw hP hD hS hce hcv hcl => ?_) (fun v9 u_10 H locs hw hP hD hS => ?_)
        · exact hw.elim
        obtain ⟨r_9, rfl, rfl, hr_9, fr_r_9⟩ := hw
        have hP : va_P (dC, dI) vwCl (cW ad cid a2 lx sg gm lg) H := hP
        have hD : va_D A (cW ad cid a2 lx sg gm lg) := hD
        refine W.eq (g2 := F0 m 22 ls [eV (ad 9) r_9, eV (ad 3) x]) rfl ?_
        refine cm_callV (t := 3) (C := RX9) (T := TX9) (N := 1) (rest := []) (as := [eV (ad 9) r_9]) ⟨hx, hb, hml, hown, htb⟩ (d_isRightS2 l dC dI ad cid a2 lx sg gm lg x r_9 D hI hsx0_2 hr_9 hFA (by have q3 := congrArg Int32.toInt fr_r_1; have q4 := congrArg Int32.toInt fr_r_9; have := i32_0; have := i32_1; have := i32_2; have := i32_m1; have := (show iv 0 80 (sg 4) from CI_s hI 4).1; have := (show iv 0 80 (sg 4) from CI_s hI 4).2; have := (hsx0_2).1; have := (hsx0_2).2; have := (h_7).1; have := (h_7).2; have := (h_8).1; have := (h_8).2; have := (hr_9).1; have := (hr_9).2; omega) hVS hLK (EV_of hRC (show r_9.toNatClampNeg < D.length from (by have := hRC.1; have q4 := congrArg Int32.toInt fr_r_1; have := congrArg Int32.toInt fr_r_9; have : r_9.toNatClampNeg = r_9.toInt.toNat := rfl; have := i32_0; have := i32_1; have := i32_2; have := i32_m1; have := (show iv 0 80 (sg 4) from CI_s hI 4).1; have := (show iv 0 80 (sg 4) from CI_s hI 4).2; have := (hsx0_2).1; have := (hsx0_2).2; have := (h_7).1; have := (h_7).2; have := (h_8).1; have := (h_8).2; have := (hr_9).1; have := (hr_9).2; omega))) hRC (dAt_pv hPD)) (cwV 1 htb (gd_V kw_505 kw_506 kw_507 kw_28 kw_1459) rfl rfl rfl (by decide +kernel) ⟨Nat.le_of_ble_eq_true rfl, Nat.le_of_ble_eq_true rfl⟩) hsx0_2 (by decide) (by decide) rfl rfl hl.1 rfl (Nat.le_trans cs_n (by decide)) dX9_firstWrongPlace_22 ⟨Nat.le_of_ble_eq_true rfl, Nat.le_of_ble_eq_true rfl⟩ hK hP hD hS hA hG (fun E ce q9 u_13 H locs hw hP hD hS hce hcv hcl => ?_) (fun v9 u_13 H locs hw hP hD hS => ?_)
        · exact hw.elim
        obtain ⟨r_12, rfl, rfl, hr_12, fO_r_12⟩ := hw
        have hP : va_P (dC, dI) vwCl (cW ad cid a2 lx sg gm lg) H := hP
        have hD : va_D A (cW ad cid a2 lx sg gm lg) := hD
        refine W.eq (g2 := F0 m 25 ls [.int r_12]) rfl ?_
        refine lv_if_ne (tgt := 40) hx hb dX9_firstWrongPlace_25 (by decide) (fun c_15 => ?_) (fun c_15 => ?_)
        · have h_16 : iv 1 1 r_12 := iv_neL c_15 hr_12 (by decide)
          obtain ⟨z_17, ez_17⟩ : ∃ z : Int32, z = x1_2 + 1 := ⟨_, rfl⟩
          have hz_17 : iv 1 80 z_17 := iv_of ez_17 (iv_add h_7 (iv_k (by decide) : iv 1 1 1) (by decide))
          have tz_17 : z_17.toInt = x1_2.toInt + 1 := by rw [ez_17]; exact iv_addE h_7 (iv_k (by decide) : iv 1 1 1) (by decide)
          refine lv_iinc (v := z_17) (lv' := [(1, .int z_17), (0, eV (ad 3) x)]) hx hb dX9_firstWrongPlace_40 hl (k := 0) rfl ez_17.symm (by decide) (by simp [List.filter, eV_cat, cat_i, cat_l]) (fun ls hl => ?_)
          refine lv_goto (tgt := 2) hx hb dX9_firstWrongPlace_43 (by decide) ?_
          exact ih2 _ (by rw [← hn2]; exact (iv_meas tz_17 h_7 (by decide))) z_17 rfl (iv_w hz_17 (by decide)) hsx0_2 ((fun j9 q9 => by rw [s_cl h_7 (by decide) tz_17] at q9; by_cases q8 : j9 = x1_2.toNatClampNeg; (rw [q8, ← fr_r_9]; exact (fO_r_12.resolve_right (fun q8 => absurd q8.1 (by have := i32_0; have := i32_1; have := i32_2; have := i32_m1; have := (hsx0_2).1; have := (hsx0_2).2; have := (h_7).1; have := (h_7).2; have := (h_8).1; have := (h_8).2; have := (hr_9).1; have := (hr_9).2; have := (h_16).1; have := (h_16).2; have := (hz_17).1; have := (hz_17).2; omega))).2); exact hall j9 (by omega))) _ _ _ hP hD hS (lv_sub hl [0, 1] rfl)
        · have h_18 : iv 0 0 r_12 := iv_eq c_15 hr_12 (iv_k (by decide) : iv 0 0 0) (by decide)
          refine ec_aload_n hx hb dX9_firstWrongPlace_28 rfl (lv_at hl 1 rfl) ?_
          refine cr_get (t := 3) (j := 0) (C := RX9) (T := TX9) (N := 1) (v := eV (ad 1) 0) hx hb htb inX9 hown hK hP hsx0_2 (by decide) (by decide) (by decide) rfl (by decide) (htb _ kw_82) (cV_c rfl (by decide) (by rw [show cMu 3 0 = 0 from rfl, Nat.zero_mul]; rfl)) dX9_firstWrongPlace_29 ?_
          refine lv_iload_n hx hb dX9_firstWrongPlace_32 rfl (lv_at hl 0 rfl) ?_
          refine cm_callV (t := 1) (C := RX6) (T := TX6) (N := 8) (rest := []) (as := [.int x1_2]) ⟨hx, hb, hml, hown, htb⟩ (d_element l dC dI ad cid a2 lx sg gm lg 0 x1_2 hI (iv_k (by decide) : iv 0 0 0) h_7) (cwV 1 htb (gd_V kw_502 kw_503 kw_504 kw_20 kw_1458) rfl rfl rfl (by decide +kernel) ⟨Nat.le_of_ble_eq_true rfl, Nat.le_of_ble_eq_true rfl⟩) (iv_k (by decide) : iv 0 0 0) (by decide) (by decide) rfl rfl hl.1 rfl (Nat.le_trans cs_n (by decide)) dX9_firstWrongPlace_33 ⟨Nat.le_of_ble_eq_true rfl, Nat.le_of_ble_eq_true rfl⟩ hK hP hD hS hA hG (fun E ce q9 u_20 H locs hw hP hD hS hce hcv hcl => ?_) (fun v9 u_20 H locs hw hP hD hS => ?_)
          · exact hw.elim
          obtain ⟨r_19, rfl, rfl, hr_19, fr_r_19⟩ := hw
          have hP : va_P (dC, dI) vwCl (cW ad cid a2 lx sg gm lg) H := hP
          have hD : va_D A (cW ad cid a2 lx sg gm lg) := hD
          refine W.eq (g2 := F0 m 36 ls [eV (ad 9) r_19]) rfl ?_
          refine cr_get (t := 9) (j := 3) (C := RX3) (T := TX3) (N := 21) (v := .int (gm 13 r_19.toNatClampNeg)) hx hb htb inX3 hown hK hP hr_19 (by decide) (by decide) (by decide) rfl (by decide) (htb _ kw_498) rfl dX9_firstWrongPlace_36 ?_
          obtain ⟨z_22, ez_22⟩ : ∃ z : Int32, z = (gm 13 r_19.toNatClampNeg) := ⟨_, rfl⟩
          refine W.eq (g2 := F0 m 39 ls [.int z_22]) (by rw [ez_22]) ?_
          have hz_22 : iv 0 1201 z_22 := iv_of ez_22 (CI_a hI 13 hr_19 (by decide))
          exact W.nb (fun hN => W.widen (k := 1) (n := 6) (by decide) (by decide) (vx_ret (W.iret (v := z_22) hx hb hr (fun t ht hW => ⟨⟨some (.int z_22), (sg, gm, lg), rfl, ⟨z_22, rfl, rfl, (iv_w hz_22 (by decide)), (fun q9 => absurd q9 (by have := i32_0; have := i32_1; have := i32_2; have := i32_m1; have := (hsx0_2).1; have := (hsx0_2).2; have := (h_7).1; have := (h_7).2; have := (h_8).1; have := (h_8).2; have := (hr_9).1; have := (hr_9).2; have := (h_18).1; have := (h_18).2; have := (hr_19).1; have := (hr_19).2; have := (hz_22).1; have := (hz_22).2; omega)), (Or.inr ⟨by have := i32_0; have := i32_1; have := i32_2; have := i32_m1; have := (hsx0_2).1; have := (hsx0_2).2; have := (h_7).1; have := (h_7).2; have := (h_8).1; have := (h_8).2; have := (hr_9).1; have := (hr_9).2; have := (h_18).1; have := (h_18).2; have := (hr_19).1; have := (hr_19).2; have := (hz_22).1; have := (hz_22).2; omega, fun h => (fO_r_12.resolve_left (fun q8 => absurd q8.1 (by have := i32_0; have := i32_1; have := i32_2; have := i32_m1; have := (hsx0_2).1; have := (hsx0_2).2; have := (h_7).1; have := (h_7).2; have := (h_8).1; have := (h_8).2; have := (hr_9).1; have := (hr_9).2; have := (h_18).1; have := (h_18).2; have := (hr_19).1; have := (hr_19).2; have := (hz_22).1; have := (hz_22).2; omega))).2 (h _ (show r_9.toNatClampNeg < D.length from (by have := hRC.1; have q4 := congrArg Int32.toInt fr_r_1; have := congrArg Int32.toInt fr_r_9; have : r_9.toNatClampNeg = r_9.toInt.toNat := rfl; have := i32_0; have := i32_1; have := i32_2; have := i32_m1; have := (show iv 0 80 (sg 4) from CI_s hI 4).1; have := (show iv 0 80 (sg 4) from CI_s hI 4).2; have := (hsx0_2).1; have := (hsx0_2).2; have := (h_7).1; have := (h_7).2; have := (h_8).1; have := (h_8).2; have := (hr_9).1; have := (hr_9).2; have := (h_18).1; have := (h_18).2; have := (hr_19).1; have := (hr_19).2; have := (hz_22).1; have := (hz_22).2; omega)))⟩)⟩, by rw [ht]; exact hP, va_K.moved hW.alike hK, hD⟩, hS.F ht, by rw [ht]; exact hN⟩) hS.2.2 dX9_firstWrongPlace_39)))
  refine lv_iconst (v := 0) hx hb dX9_firstWrongPlace_0 (by decide) ?_
  refine lv_istore_n (i := 1) (lv' := [(1, .int 0), (0, eV (ad 3) x)]) hx hb dX9_firstWrongPlace_1 rfl hl (by decide) (by simp [List.filter, eV_cat, cat_i, cat_l]) (fun ls hl => ?_)
  exact hj2 _ 0 rfl (iv_w (iv_k (by decide) : iv 0 0 0) (by decide)) hvx ((fun _ q9 => absurd q9 (Nat.not_lt_zero _))) _ _ _ hP hD hS (lv_sub hl [0, 1] rfl)
end
section
/-- the bean with this id, by the class's rows -/
def qCr (lg : Nat → Nat → Int64) (w : Int64) (b : Nat) : Bool := decide (lg 4 b = w)
def cWid (sg : Nat → Int32) (lg : Nat → Nat → Int64) (w : Int64) : Int32 := if w = 0 then -1 else fstB (qCr lg w) (sg 12).toNatClampNeg 0
def cPar (sg : Nat → Int32) (lg : Nat → Nat → Int64) (b : Int32) : Int32 := cWid sg lg (lg 5 b.toNatClampNeg)
theorem cW_0 {sg : Nat → Int32} {lg : Nat → Nat → Int64} {w : Int64} (h : w = 0) : cWid sg lg w = -1 := by unfold cWid; rw [if_pos h]
theorem cW_n {sg : Nat → Int32} {lg : Nat → Nat → Int64} {w : Int64} {x : Int32} (hn : iv 0 80 (sg 12)) (hx : iv 0 80 x) (hl : (sg 12).toInt ≤ x.toInt) (h : NHB (qCr lg w) 0 x.toNatClampNeg) : cWid sg lg w = -1 := by
  have k1 := iv_cl hn (by decide)
  have k2 := iv_cl hx (by decide)
  unfold cWid
  split
  · rfl
  · exact fst_no _ 0 (fun k q1 q2 => h k q1 (by omega))
theorem cW_h {sg : Nat → Int32} {lg : Nat → Nat → Int64} {w : Int64} {x : Int32} (hz : ¬ w = 0) (hn : iv 0 80 (sg 12)) (hx : iv 0 79 x) (hl : x.toInt < (sg 12).toInt) (h : NHB (qCr lg w) 0 x.toNatClampNeg) (hq : lg 4 x.toNatClampNeg = w) : x = cWid sg lg w := by
  have k1 := iv_cl hn (by decide)
  have k2 := iv_cl hx (by decide)
  unfold cWid
  rw [if_neg hz]
  have k3 := fst_hit (q := qCr lg w) x.toNatClampNeg (sg 12).toNatClampNeg 0 (by omega) (by rw [Nat.zero_add]; exact h) (by rw [Nat.zero_add]; exact decide_eq_true hq)
  rw [Nat.zero_add, iv_nI hx (by decide)] at k3
  exact k3.symm
theorem cWd_r {sg : Nat → Int32} {lg : Nat → Nat → Int64} (w : Int64) (hn : iv 0 80 (sg 12)) : cWid sg lg w = -1 ∨ (0 ≤ (cWid sg lg w).toInt ∧ (cWid sg lg w).toInt < (sg 12).toInt ∧ ¬ lg 4 (cWid sg lg w).toNatClampNeg = 0) := by
  have k1 := iv_cl hn (by decide)
  have k2 := hn.2
  unfold cWid
  split
  · exact Or.inl rfl
  · rename_i hz
    rcases fst_or (qCr lg w) (sg 12).toNatClampNeg 0 with v | ⟨i, v1, v2, v3, _⟩
    · exact Or.inl v.1
    · rw [v2, Nat.zero_add]
      rw [Nat.zero_add] at v3
      have h4 : (nI i).toInt = i := nI_toInt (by omega)
      have h5 : (nI i).toNatClampNeg = i := by show (nI i).toInt.toNat = i; omega
      refine Or.inr ⟨by omega, by omega, fun q => hz ?_⟩
      rw [h5] at q
      rw [← of_decide_eq_true v3, q]
def RPW (sg : Nat → Int32) (lg : Nat → Nat → Int64) (b : Int32) : Prop := lg 5 b.toNatClampNeg = 0 ∨ (¬ cPar sg lg b = -1 ∧ NR (cPar sg lg) (cPar sg lg b))
def IRW (sg : Nat → Int32) (gm : Nat → Nat → Int32) (lg : Nat → Nat → Int64) (i : Nat) : Prop := (¬ lg 1 i = 0 → ∀ k, k < i → ¬ lg 1 k = lg 1 i) ∧ ((gm 27 i).toInt < 0 ∨ RPW sg lg (gm 27 i))

set_option maxHeartbeats 4000000 in
set_option maxRecDepth 100000 in
theorem d_withId2 (l : Launch) (dC : Nat → ClassId) (dI : Nat → Nat → Nat) (ad : Nat → Nat → Nat) (cid : Nat → ClassId) (a2 : Nat → Nat) (lx : List Nat) (sg : Nat → Int32) (gm : Nat → Nat → Int32) (lg : Nat → Nat → Int64) (x : Int32) (id : Int64) (hI : CI sg gm) (hvx : iv 0 0 x) : CMt dC dI ad cid a2 lx l yX10_withId wm_X10_withId ({ frames := 0, cells := 1, slots := 6, locals := 0 }) [eV (ad 4) x, .long id] sg gm lg (fun v u => ∃ r : Int32, v = some (eV (ad 10) r) ∧ u = (sg, gm, lg) ∧ (iv (-1) 79 r) ∧ (r.toInt = -1 ∨ (r.toInt < (sg 12).toInt ∧ ¬ lg 4 r.toNatClampNeg = 0)) ∧ (r = cWid sg lg id)) (fun _ _ => False) := by
  intro sz
  refine vx_ofW (cc := cX10_withId) (maxL := 4) (ret := (some (.object "WiredBeans$Bean"))) (by decide) rfl ?_
  intro p e s m args below meth c s₁ B hml hxt hv
  obtain ⟨rfl, hsz, hP, hK, hD0, hG⟩ := hv
  have hx := B.exec
  have hb := B.bytes
  have hr := B.returns
  have hts := atoms_spec (ws := wm_X10_withId) B.pre
  have htb := fun (w : Cond) (h : w ∈ tb) => hts w (List.mem_cons_of_mem _ h)
  have hown : s.vm.findClass RX10 = some m.cls := findClass_of_methodNamed B.named
  have hlocks := B.notSynchronized
  subst hsz
  have hD := hD0.self (sz := s.heap.size)
  generalize hAe : va_A (cW ad cid a2 lx sg gm lg) s.heap.size = A at hD hG ⊢
  have hA : ∀ q : Nat, s.heap.size ≤ q → A q := fun q h => by rw [← hAe]; exact Or.inr h
  have hS : va_S A s.heap s.heap [] := va_S.rf
  have hl := lv_entry ([eV (ad 4) x, .long id]) (n := 4) (by rw [show (lg_sl ([eV (ad 4) x, .long id])).length = 3 from by simp [lg_sl, eV_cat, cat_i, cat_l]]; exact Nat.le_of_ble_eq_true rfl)
  rw [lg_entry_eq]
  generalize (lg_sl ([eV (ad 4) x, .long id]) ++ List.replicate (4 - (lg_sl ([eV (ad 4) x, .long id])).length) Slot.unset).toArray = ls at hl ⊢
  have hl : lv_has ls 4 [(0, eV (ad 4) x), (1, .long id)] := by simp [lv_args, eV_cat, cat_i, cat_l] at hl; exact hl
  have hj43 : ∀ (x3_43 : Int32) (_ : iv 0 80 x3_43) (_ : iv 0 0 x) (_ : cWid sg lg id = -1) (H : Heap) (locs : List Loc) (ls : Array Slot), va_P (dC, dI) vwCl (cW ad cid a2 lx sg gm lg) H → va_D A (cW ad cid a2 lx sg gm lg) → va_S A s.heap H locs → lv_has ls 4 [(3, .int x3_43), (0, eV (ad 4) x), (1, .long id)] → W p l e (headSpec wm_X10_withId ({ frames := 0, cells := 1, slots := 6, locals := 0 })).room s m ([eV (ad 4) x, .long id] : List Value).toArray below meth c H locs 0 0 (vx_MQ below (cQx dC dI ad cid a2 lx (fun v u => ∃ r : Int32, v = some (eV (ad 10) r) ∧ u = (sg, gm, lg) ∧ (iv (-1) 79 r) ∧ (r.toInt = -1 ∨ (r.toInt < (sg 12).toInt ∧ ¬ lg 4 r.toNatClampNeg = 0)) ∧ (r = cWid sg lg id)) A) (cX dC dI ad cid a2 lx (fun _ _ => False) A) ([eV (ad 4) x, .long id] : List Value).toArray s 1 6 A) (F0 m 43 ls []) := by
    intro x3_43 hx3_43 hsx0_43 u43 H locs ls hP hD hS hl
    refine ec_null (a := ad 10) hx hb dX10_withId_43 ?_
    exact W.nb (fun hN => W.widen (k := 1) (n := 6) (by decide) (by decide) (vx_ret (W.aret (v := eV (ad 10) (-1)) hx hb hr (Or.inl ⟨_, rfl⟩) (eV_is _ _) (fun t ht hW => ⟨⟨some (eV (ad 10) (-1)), (sg, gm, lg), rfl, ⟨(-1), rfl, rfl, (iv_w (iv_k (by decide) : iv (-1) (-1) (-1)) (by decide)), (Or.inl rfl), (u43.symm)⟩, by rw [ht]; exact hP, va_K.moved hW.alike hK, hD⟩, hS.F ht, by rw [ht]; exact hN⟩) hS.2.2 dX10_withId_44)))
  have hj2 : ∀ (n : Nat) (x3_2 : Int32) (_ : (80 - x3_2.toInt).toNat = n) (_ : iv 0 80 x3_2) (_ : iv 0 0 x) (_ : NHB (qCr lg id) 0 x3_2.toNatClampNeg) (H : Heap) (locs : List Loc) (ls : Array Slot), va_P (dC, dI) vwCl (cW ad cid a2 lx sg gm lg) H → va_D A (cW ad cid a2 lx sg gm lg) → va_S A s.heap H locs → lv_has ls 4 [(3, .int x3_2), (0, eV (ad 4) x), (1, .long id)] → W p l e (headSpec wm_X10_withId ({ frames := 0, cells := 1, slots := 6, locals := 0 })).room s m ([eV (ad 4) x, .long id] : List Value).toArray below meth c H locs 0 0 (vx_MQ below (cQx dC dI ad cid a2 lx (fun v u => ∃ r : Int32, v = some (eV (ad 10) r) ∧ u = (sg, gm, lg) ∧ (iv (-1) 79 r) ∧ (r.toInt = -1 ∨ (r.toInt < (sg 12).toInt ∧ ¬ lg 4 r.toNatClampNeg = 0)) ∧ (r = cWid sg lg id)) A) (cX dC dI ad cid a2 lx (fun _ _ => False) A) ([eV (ad 4) x, .long id] : List Value).toArray s 1 6 A) (F0 m 2 ls []) := by
    intro n
    induction n using Nat.strongRecOn with
    | ind n ih2 =>
      intro x3_2 hn2 hx3_2 hsx0_2 hnh H locs ls hP hD hS hl
      refine lv_iload_n hx hb dX10_withId_2 rfl (lv_at hl 0 rfl) ?_
      refine ec_aload_n hx hb dX10_withId_3 rfl (lv_at hl 1 rfl) ?_
      refine cr_get (t := 4) (j := 3) (C := RX10) (T := TX10) (N := 4) (v := .int (sg 12)) hx hb htb inX10 hown hK hP hsx0_2 (by decide) (by decide) (by decide) rfl (by decide) (htb _ kw_325) rfl dX10_withId_4 ?_
      refine lv_icmp_ge (tgt := 43) hx hb dX10_withId_7 (by decide) (fun c_1 => ?_) (fun c_1 => ?_)
      · have d_2 : ((sg 12) : Int32).toInt ≤ (x3_2 : Int32).toInt := Int32.le_iff_toInt_le.mp c_1
        exact hj43 x3_2 hx3_2 hsx0_2 ((cW_n (show iv 0 80 (sg 12) from CI_s hI 12) hx3_2 (by have := i32_0; have := i32_1; have := i32_2; have := i32_m1; have := (show iv 0 80 (sg 12) from CI_s hI 12).1; have := (show iv 0 80 (sg 12) from CI_s hI 12).2; have := (hsx0_2).1; have := (hsx0_2).2; have := (hx3_2).1; have := (hx3_2).2; have := ((show iv 0 80 (sg 12) from CI_s hI 12)).1; have := ((show iv 0 80 (sg 12) from CI_s hI 12)).2; omega) hnh)) _ _ _ hP hD hS (lv_sub hl [0, 1, 2] rfl)
      · have d_3 : (x3_2 : Int32).toInt < ((sg 12) : Int32).toInt := Int32.lt_iff_toInt_lt.mp (i32_lt c_1)
        have h_4 : iv 0 79 x3_2 := iv_ltL (i32_lt c_1) hx3_2 (show iv 0 80 (sg 12) from CI_s hI 12) (by decide)
        have h_5 : iv 1 80 (sg 12) := iv_ltR (i32_lt c_1) hx3_2 (show iv 0 80 (sg 12) from CI_s hI 12) (by decide)
        refine lv_lload_n hx hb dX10_withId_10 rfl (lv_at hl 2 rfl) ?_
        refine lv_lconst (v := 0) hx hb dX10_withId_11 (by decide) ?_
        refine W.lcmp hx hb dX10_withId_12 ?_
        refine lv_topi (fun z_6 ez_6 => ?_)
        have hz_6 : iv (-1) 1 z_6 := iv_of ez_6 (iv_cmp _ _)
        refine lv_if_eq (tgt := 43) hx hb dX10_withId_13 (by decide) (fun c_7 => ?_) (fun c_7 => ?_)
        · have h_8 : iv 0 0 z_6 := iv_eq c_7 hz_6 (iv_k (by decide) : iv 0 0 0) (by decide)
          exact hj43 x3_2 (iv_w h_4 (by decide)) hsx0_2 ((cW_0 ((lg_cmp_eq _ _).mp (by rw [← ez_6]; exact c_7)))) _ _ _ hP hD hS (lv_sub hl [0, 1, 2] rfl)
        · have d_9 : ¬ (z_6 : Int32).toInt = 0 := lv_neT c_7 rfl
          refine ec_aload_n hx hb dX10_withId_16 rfl (lv_at hl 1 rfl) ?_
          refine cr_get (t := 4) (j := 1) (C := RX10) (T := TX10) (N := 4) (v := eV (ad 19) 0) hx hb htb inX10 hown hK hP hsx0_2 (by decide) (by decide) (by decide) rfl (by decide) (htb _ kw_88) (cV_c rfl (by decide) (by rw [show cMu 4 1 = 0 from rfl, Nat.zero_mul]; rfl)) dX10_withId_17 ?_
          refine lv_iload_n hx hb dX10_withId_20 rfl (lv_at hl 0 rfl) ?_
          refine cr_aald (t := 19) (C := RX1) (v := eV (ad 10) x3_2) hx hb hK hP (iv_k (by decide) : iv 0 0 0) (by decide) (by decide) (by decide) (by decide) (by decide) rfl (show vp_in x3_2 (cLen 19) from (show vp_in x3_2 80 from (iv_in h_4 (by decide)))) (cAr_c (by decide) (h_4).1 (by rw [show cAm 19 = 0 from rfl, Nat.zero_mul, show cAo 19 = 0 from rfl]; omega)) dX10_withId_21 ?_
          refine cr_get (t := 10) (j := 5) (C := RX1) (T := TX1) (N := 19) (v := .long (lg 4 x3_2.toNatClampNeg)) hx hb htb inX1 hown hK hP h_4 (by decide) (by decide) (by decide) rfl (by decide) (htb _ kw_719) rfl dX10_withId_22 ?_
          refine lv_topl (fun z_10 ez_10 => ?_)
          refine lv_lload_n hx hb dX10_withId_25 rfl (lv_at hl 2 rfl) ?_
          refine W.lcmp hx hb dX10_withId_26 ?_
          refine lv_topi (fun z_11 ez_11 => ?_)
          have hz_11 : iv (-1) 1 z_11 := iv_of ez_11 (iv_cmp _ _)
          refine lv_if_ne (tgt := 37) hx hb dX10_withId_27 (by decide) (fun c_12 => ?_) (fun c_12 => ?_)
          · have d_13 : ¬ (z_11 : Int32).toInt = 0 := lv_neT c_12 rfl
            obtain ⟨z_14, ez_14⟩ : ∃ z : Int32, z = x3_2 + 1 := ⟨_, rfl⟩
            have hz_14 : iv 1 80 z_14 := iv_of ez_14 (iv_add h_4 (iv_k (by decide) : iv 1 1 1) (by decide))
            have tz_14 : z_14.toInt = x3_2.toInt + 1 := by rw [ez_14]; exact iv_addE h_4 (iv_k (by decide) : iv 1 1 1) (by decide)
            refine lv_iinc (v := z_14) (lv' := [(3, .int z_14), (0, eV (ad 4) x), (1, .long id)]) hx hb dX10_withId_37 hl (k := 0) rfl ez_14.symm (by decide) rfl (fun ls hl => ?_)
            refine lv_goto (tgt := 2) hx hb dX10_withId_40 (by decide) ?_
            exact ih2 _ (by rw [← hn2]; exact (iv_meas tz_14 h_4 (by decide))) z_14 rfl (iv_w hz_14 (by decide)) hsx0_2 ((by rw [s_cl h_4 (by decide) tz_14]; exact NHB_s hnh (decide_eq_false (fun q9 => c_12 (by rw [ez_11, ez_10]; exact (lg_cmp_eq _ _).mpr q9))))) _ _ _ hP hD hS (lv_sub hl [0, 1, 2] rfl)
          · have h_15 : iv 0 0 z_11 := iv_eq c_12 hz_11 (iv_k (by decide) : iv 0 0 0) (by decide)
            refine ec_aload_n hx hb dX10_withId_30 rfl (lv_at hl 1 rfl) ?_
            refine cr_get (t := 4) (j := 1) (C := RX10) (T := TX10) (N := 4) (v := eV (ad 19) 0) hx hb htb inX10 hown hK hP hsx0_2 (by decide) (by decide) (by decide) rfl (by decide) (htb _ kw_88) (cV_c rfl (by decide) (by rw [show cMu 4 1 = 0 from rfl, Nat.zero_mul]; rfl)) dX10_withId_31 ?_
            refine lv_iload_n hx hb dX10_withId_34 rfl (lv_at hl 0 rfl) ?_
            refine cr_aald (t := 19) (C := RX1) (v := eV (ad 10) x3_2) hx hb hK hP (iv_k (by decide) : iv 0 0 0) (by decide) (by decide) (by decide) (by decide) (by decide) rfl (show vp_in x3_2 (cLen 19) from (show vp_in x3_2 80 from (iv_in h_4 (by decide)))) (cAr_c (by decide) (h_4).1 (by rw [show cAm 19 = 0 from rfl, Nat.zero_mul, show cAo 19 = 0 from rfl]; omega)) dX10_withId_35 ?_
            exact W.nb (fun hN => W.widen (k := 1) (n := 6) (by decide) (by decide) (vx_ret (W.aret (v := eV (ad 10) x3_2) hx hb hr (Or.inl ⟨_, rfl⟩) (eV_is _ _) (fun t ht hW => ⟨⟨some (eV (ad 10) x3_2), (sg, gm, lg), rfl, ⟨x3_2, rfl, rfl, (iv_w h_4 (by decide)), (Or.inr ⟨by have := i32_0; have := i32_1; have := i32_2; have := i32_m1; have := (show iv 0 80 (sg 12) from CI_s hI 12).1; have := (show iv 0 80 (sg 12) from CI_s hI 12).2; have := (hsx0_2).1; have := (hsx0_2).2; have := (h_4).1; have := (h_4).2; have := (h_5).1; have := (h_5).2; have := (hz_6).1; have := (hz_6).2; have := (h_15).1; have := (h_15).2; omega, fun q9 => c_7 (by rw [ez_6]; exact (lg_cmp_eq _ _).mpr (by have q8 := c_12; rw [ez_11, ez_10, q9] at q8; exact ((lg_cmp_eq _ _).mp q8).symm))⟩), ((cW_h (fun q9 => c_7 (by rw [ez_6]; exact (lg_cmp_eq _ _).mpr q9)) (show iv 0 80 (sg 12) from CI_s hI 12) h_4 (by have := i32_0; have := i32_1; have := i32_2; have := i32_m1; have := (show iv 0 80 (sg 12) from CI_s hI 12).1; have := (show iv 0 80 (sg 12) from CI_s hI 12).2; have := (hsx0_2).1; have := (hsx0_2).2; have := (h_4).1; have := (h_4).2; have := (h_5).1; have := (h_5).2; have := (hz_6).1; have := (hz_6).2; have := (h_15).1; have := (h_15).2; omega) hnh (by have q8 := c_12; rw [ez_11, ez_10] at q8; exact (lg_cmp_eq _ _).mp q8)))⟩, by rw [ht]; exact hP, va_K.moved hW.alike hK, hD⟩, hS.F ht, by rw [ht]; exact hN⟩) hS.2.2 dX10_withId_36)))
  refine lv_iconst (v := 0) hx hb dX10_withId_0 (by decide) ?_
  refine lv_istore_n (i := 3) (lv' := [(3, .int 0), (0, eV (ad 4) x), (1, .long id)]) hx hb dX10_withId_1 rfl hl (by decide) rfl (fun ls hl => ?_)
  exact hj2 _ 0 rfl (iv_w (iv_k (by decide) : iv 0 0 0) (by decide)) hvx (NHB_0) _ _ _ hP hD hS (lv_sub hl [0, 1, 2] rfl)

theorem itF_s9 {f : Int32 → Int32} {b y r : Int32} {n : Nat} (hp : y = itF f n b) (hb : ¬ y = -1) (hr : r = f y) : r = itF f (n + 1) b := by
  rw [itF_add, ← hp, itF_1 hb, hr]
theorem NR_9 {f : Int32 → Int32} {b y : Int32} {n : Nat} (hb : 0 ≤ b.toInt) (hp : y = itF f n b) (h1 : 1 ≤ n) (hn : n ≤ 80) (hs : n = 80 ∨ y = -1) (hy : ¬ y = b) (h : ∀ k, 1 ≤ k → k < n → ¬ itF f k b = b) : NR f b := fun k h1 h2 hk => by
  by_cases h3 : k < n
  · exact h k h1 h3 hk
  · by_cases h4 : k = n
    · rw [h4, ← hp] at hk; exact hy hk
    · rcases hs with q | q
      · omega
      · have h5 : k = n + (k - n) := by omega
        rw [h5, itF_add, ← hp, q, itF_m1] at hk
        rw [← hk] at hb
        exact absurd hb (by decide)

set_option maxHeartbeats 4000000 in
set_option maxRecDepth 100000 in
theorem d_comesToItself2 (l : Launch) (dC : Nat → ClassId) (dI : Nat → Nat → Nat) (ad : Nat → Nat → Nat) (cid : Nat → ClassId) (a2 : Nat → Nat) (lx : List Nat) (sg : Nat → Int32) (gm : Nat → Nat → Int32) (lg : Nat → Nat → Int64) (x : Int32) (b : Int32) (hI : CI sg gm) (hvx : iv 0 0 x) (hvb : iv 0 79 b) : CMt dC dI ad cid a2 lx l yX10_comesToItself wm_X10_comesToItself ({ frames := 1, cells := 1, slots := 6, locals := 23 }) [eV (ad 4) x, eV (ad 10) b] sg gm lg (fun v u => ∃ r : Int32, v = some (.int r) ∧ u = (sg, gm, lg) ∧ (iv 0 1 r) ∧ ((r.toInt = 1 ∧ ¬ NR (cPar sg lg) b) ∨ (r.toInt = 0 ∧ NR (cPar sg lg) b))) (fun _ _ => False) := by
  intro sz
  refine vx_ofW (cc := cX10_comesToItself) (maxL := 4) (ret := (some .boolean)) (by decide) rfl ?_
  intro p e s m args below meth c s₁ B hml hxt hv
  obtain ⟨rfl, hsz, hP, hK, hD0, hG⟩ := hv
  have hx := B.exec
  have hb := B.bytes
  have hr := B.returns
  have hts := atoms_spec (ws := wm_X10_comesToItself) B.pre
  have htb := fun (w : Cond) (h : w ∈ tb) => hts w (List.mem_cons_of_mem _ h)
  have hown : s.vm.findClass RX10 = some m.cls := findClass_of_methodNamed B.named
  have hlocks := B.notSynchronized
  subst hsz
  have hD := hD0.self (sz := s.heap.size)
  generalize hAe : va_A (cW ad cid a2 lx sg gm lg) s.heap.size = A at hD hG ⊢
  have hA : ∀ q : Nat, s.heap.size ≤ q → A q := fun q h => by rw [← hAe]; exact Or.inr h
  have hS : va_S A s.heap s.heap [] := va_S.rf
  have hl := lv_entry ([eV (ad 4) x, eV (ad 10) b]) (n := 4) (by rw [show (lg_sl ([eV (ad 4) x, eV (ad 10) b])).length = 2 from by simp [lg_sl, eV_cat, cat_i, cat_l]]; exact Nat.le_of_ble_eq_true rfl)
  rw [lg_entry_eq]
  generalize (lg_sl ([eV (ad 4) x, eV (ad 10) b]) ++ List.replicate (4 - (lg_sl ([eV (ad 4) x, eV (ad 10) b])).length) Slot.unset).toArray = ls at hl ⊢
  have hl : lv_has ls 4 [(0, eV (ad 4) x), (1, eV (ad 10) b)] := by simp [lv_args, eV_cat, cat_i, cat_l] at hl; exact hl
  have hj51 : ∀ (x3_51 : Int32) (x2_51 : Int32) (y0_51 : Int32) (_ : iv 1 80 x3_51) (_ : iv (-1) 79 x2_51) (_ : iv 0 0 x) (_ : iv 0 79 b) (_ : iv 0 1 y0_51) (_ : (y0_51.toInt = 1 ∧ ¬ NR (cPar sg lg) b) ∨ (y0_51.toInt = 0 ∧ NR (cPar sg lg) b)) (H : Heap) (locs : List Loc) (ls : Array Slot), va_P (dC, dI) vwCl (cW ad cid a2 lx sg gm lg) H → va_D A (cW ad cid a2 lx sg gm lg) → va_S A s.heap H locs → lv_has ls 4 [(3, .int x3_51), (2, eV (ad 10) x2_51), (0, eV (ad 4) x), (1, eV (ad 10) b)] → W p l e (headSpec wm_X10_comesToItself ({ frames := 1, cells := 1, slots := 6, locals := 23 })).room s m ([eV (ad 4) x, eV (ad 10) b] : List Value).toArray below meth c H locs 0 0 (vx_MQ below (cQx dC dI ad cid a2 lx (fun v u => ∃ r : Int32, v = some (.int r) ∧ u = (sg, gm, lg) ∧ (iv 0 1 r) ∧ ((r.toInt = 1 ∧ ¬ NR (cPar sg lg) b) ∨ (r.toInt = 0 ∧ NR (cPar sg lg) b))) A) (cX dC dI ad cid a2 lx (fun _ _ => False) A) ([eV (ad 4) x, eV (ad 10) b] : List Value).toArray s 1 6 A) (F0 m 51 ls [.int y0_51]) := by
    intro x3_51 x2_51 y0_51 hx3_51 hx2_51 hsx0_51 hsx1_51 hy0_51 u51 H locs ls hP hD hS hl
    exact W.nb (fun hN => W.widen (k := 1) (n := 6) (by decide) (by decide) (vx_ret (W.zret (v := y0_51) hx hb hr (iv_nb hy0_51) (fun t ht hW => ⟨⟨some (.int y0_51), (sg, gm, lg), rfl, ⟨y0_51, rfl, rfl, hy0_51, (u51)⟩, by rw [ht]; exact hP, va_K.moved hW.alike hK, hD⟩, hS.F ht, by rw [ht]; exact hN⟩) hS.2.2 dX10_comesToItself_51)))
  have hj41 : ∀ (x3_41 : Int32) (x2_41 : Int32) (_ : iv 1 80 x3_41) (_ : iv (-1) 79 x2_41) (_ : iv 0 0 x) (_ : iv 0 79 b) (_ : x2_41 = itF (cPar sg lg) x3_41.toNatClampNeg b ∧ (∀ k, 1 ≤ k → k < x3_41.toNatClampNeg → ¬ itF (cPar sg lg) k b = b) ∧ (x3_41.toInt = 80 ∨ x2_41 = -1 ∨ x2_41 = b)) (H : Heap) (locs : List Loc) (ls : Array Slot), va_P (dC, dI) vwCl (cW ad cid a2 lx sg gm lg) H → va_D A (cW ad cid a2 lx sg gm lg) → va_S A s.heap H locs → lv_has ls 4 [(3, .int x3_41), (2, eV (ad 10) x2_41), (0, eV (ad 4) x), (1, eV (ad 10) b)] → W p l e (headSpec wm_X10_comesToItself ({ frames := 1, cells := 1, slots := 6, locals := 23 })).room s m ([eV (ad 4) x, eV (ad 10) b] : List Value).toArray below meth c H locs 0 0 (vx_MQ below (cQx dC dI ad cid a2 lx (fun v u => ∃ r : Int32, v = some (.int r) ∧ u = (sg, gm, lg) ∧ (iv 0 1 r) ∧ ((r.toInt = 1 ∧ ¬ NR (cPar sg lg) b) ∨ (r.toInt = 0 ∧ NR (cPar sg lg) b))) A) (cX dC dI ad cid a2 lx (fun _ _ => False) A) ([eV (ad 4) x, eV (ad 10) b] : List Value).toArray s 1 6 A) (F0 m 41 ls []) := by
    intro x3_41 x2_41 hx3_41 hx2_41 hsx0_41 hsx1_41 u41 H locs ls hP hD hS hl
    refine ec_aload_n hx hb dX10_comesToItself_41 rfl (lv_at hl 1 rfl) ?_
    refine ec_aload_n hx hb dX10_comesToItself_42 rfl (lv_at hl 3 rfl) ?_
    refine ec_acmp_ne (tgt := 50) hx hb dX10_comesToItself_43 (by decide) (fun c_1 => ?_) (fun c_1 => ?_)
    · have wc_1 : ¬ x2_41.toInt = b.toInt := fun q9 => c_1 (congrArg (er (ad 10)) (Int32.toInt_inj.mp q9))
      refine lv_iconst (v := 0) hx hb dX10_comesToItself_50 (by decide) ?_
      exact hj51 x3_41 x2_41 0 hx3_41 hx2_41 hsx0_41 hsx1_41 (iv_w (iv_k (by decide) : iv 0 0 0) (by decide)) (Or.inr ⟨rfl, (by have k3 := iv_cl hx3_41 (by decide); exact NR_9 hvb.1 u41.1 (by have := i32_0; have := i32_1; have := i32_2; have := i32_m1; have := (hsx0_41).1; have := (hsx0_41).2; have := (hsx1_41).1; have := (hsx1_41).2; have := (hx3_41).1; have := (hx3_41).2; have := (hx2_41).1; have := (hx2_41).2; omega) (by have := i32_0; have := i32_1; have := i32_2; have := i32_m1; have := (hsx0_41).1; have := (hsx0_41).2; have := (hsx1_41).1; have := (hsx1_41).2; have := (hx3_41).1; have := (hx3_41).2; have := (hx2_41).1; have := (hx2_41).2; omega) (by rcases u41.2.2 with q | q | q; (exact Or.inl (by omega)); (exact Or.inr q); (exact absurd (congrArg Int32.toInt q) wc_1)) (fun q8 => wc_1 (congrArg Int32.toInt q8)) u41.2.1)⟩) _ _ _ hP hD hS (lv_sub hl [0, 1, 2, 3] rfl)
    · have wc_1 : x2_41.toInt = b.toInt := (er_in hD (t := 10) (x := b) (y := x2_41) (by decide) (by have := (hsx1_41).1; omega) (show _ < 80 by have := (hsx1_41).2; omega) (by have := (hx2_41).1; omega) (show _ < 80 by have := (hx2_41).2; omega) c_1.symm).symm
      refine lv_iconst (v := 1) hx hb dX10_comesToItself_46 (by decide) ?_
      refine lv_goto (tgt := 51) hx hb dX10_comesToItself_47 (by decide) ?_
      exact hj51 x3_41 x2_41 1 hx3_41 hx2_41 hsx0_41 hsx1_41 (iv_w (iv_k (by decide) : iv 1 1 1) (by decide)) (Or.inl ⟨rfl, fun h => h x3_41.toNatClampNeg (by have k3 := iv_cl hx3_41 (by decide); have := i32_0; have := i32_1; have := i32_2; have := i32_m1; have := (hsx0_41).1; have := (hsx0_41).2; have := (hsx1_41).1; have := (hsx1_41).2; have := (hx3_41).1; have := (hx3_41).2; have := (hx2_41).1; have := (hx2_41).2; omega) (by have k3 := iv_cl hx3_41 (by decide); have := i32_0; have := i32_1; have := i32_2; have := i32_m1; have := (hsx0_41).1; have := (hsx0_41).2; have := (hsx1_41).1; have := (hsx1_41).2; have := (hx3_41).1; have := (hx3_41).2; have := (hx2_41).1; have := (hx2_41).2; omega) (u41.1.symm.trans (Int32.toInt_inj.mp wc_1))⟩) _ _ _ hP hD hS (lv_sub hl [0, 1, 2, 3] rfl)
  have hj11 : ∀ (n : Nat) (x3_11 : Int32) (x2_11 : Int32) (_ : (80 - x3_11.toInt).toNat = n) (_ : iv 1 80 x3_11) (_ : iv (-1) 79 x2_11) (_ : iv 0 0 x) (_ : iv 0 79 b) (_ : x2_11 = itF (cPar sg lg) x3_11.toNatClampNeg b) (_ : ∀ k, 1 ≤ k → k < x3_11.toNatClampNeg → ¬ itF (cPar sg lg) k b = b) (H : Heap) (locs : List Loc) (ls : Array Slot), va_P (dC, dI) vwCl (cW ad cid a2 lx sg gm lg) H → va_D A (cW ad cid a2 lx sg gm lg) → va_S A s.heap H locs → lv_has ls 4 [(3, .int x3_11), (2, eV (ad 10) x2_11), (0, eV (ad 4) x), (1, eV (ad 10) b)] → W p l e (headSpec wm_X10_comesToItself ({ frames := 1, cells := 1, slots := 6, locals := 23 })).room s m ([eV (ad 4) x, eV (ad 10) b] : List Value).toArray below meth c H locs 0 0 (vx_MQ below (cQx dC dI ad cid a2 lx (fun v u => ∃ r : Int32, v = some (.int r) ∧ u = (sg, gm, lg) ∧ (iv 0 1 r) ∧ ((r.toInt = 1 ∧ ¬ NR (cPar sg lg) b) ∨ (r.toInt = 0 ∧ NR (cPar sg lg) b))) A) (cX dC dI ad cid a2 lx (fun _ _ => False) A) ([eV (ad 4) x, eV (ad 10) b] : List Value).toArray s 1 6 A) (F0 m 11 ls []) := by
    intro n
    induction n using Nat.strongRecOn with
    | ind n ih11 =>
      intro x3_11 x2_11 hn11 hx3_11 hx2_11 hsx0_11 hsx1_11 hit hne H locs ls hP hD hS hl
      refine lv_iload_n hx hb dX10_comesToItself_11 rfl (lv_at hl 0 rfl) ?_
      refine lv_bipush (v := 80) hx hb dX10_comesToItself_12 (by decide) ?_
      refine lv_icmp_ge (tgt := 41) hx hb dX10_comesToItself_14 (by decide) (fun c_2 => ?_) (fun c_2 => ?_)
      · have h_3 : iv 80 80 x3_11 := iv_leR c_2 (iv_k (by decide) : iv 80 80 80) hx3_11 (by decide)
        exact hj41 x3_11 x2_11 (iv_w h_3 (by decide)) hx2_11 hsx0_11 hsx1_11 (⟨hit, hne, Or.inl (by have := i32_0; have := i32_1; have := i32_2; have := i32_m1; have := (hsx0_11).1; have := (hsx0_11).2; have := (hsx1_11).1; have := (hsx1_11).2; have := (h_3).1; have := (h_3).2; have := (hx2_11).1; have := (hx2_11).2; omega)⟩) _ _ _ hP hD hS (lv_sub hl [0, 1, 2, 3] rfl)
      · have h_4 : iv 1 79 x3_11 := iv_ltL (i32_lt c_2) hx3_11 (iv_k (by decide) : iv 80 80 80) (by decide)
        refine ec_aload_n hx hb dX10_comesToItself_17 rfl (lv_at hl 1 rfl) ?_
        refine ec_ifnull (tgt := 41) hx hb dX10_comesToItself_18 (by decide) (fun c_5 => ?_) (fun c_5 => ?_)
        · have h_6 : iv (-1) (-1) x2_11 := ⟨(hx2_11).1, by omega⟩
          exact hj41 x3_11 x2_11 (iv_w h_4 (by decide)) (iv_w h_6 (by decide)) hsx0_11 hsx1_11 (⟨hit, hne, Or.inr (Or.inl (Int32.toInt_inj.mp (show (x2_11 : Int32).toInt = (-1 : Int32).toInt from (by have : (-1 : Int32).toInt = -1 := (by decide); have := i32_0; have := i32_1; have := i32_2; have := i32_m1; have := (hsx0_11).1; have := (hsx0_11).2; have := (hsx1_11).1; have := (hsx1_11).2; have := (h_4).1; have := (h_4).2; have := (h_6).1; have := (h_6).2; omega))))⟩) _ _ _ hP hD hS (lv_sub hl [0, 1, 2, 3] rfl)
        · have h_7 : iv 0 79 x2_11 := ⟨c_5, (hx2_11).2⟩
          refine ec_aload_n hx hb dX10_comesToItself_21 rfl (lv_at hl 1 rfl) ?_
          refine ec_aload_n hx hb dX10_comesToItself_22 rfl (lv_at hl 3 rfl) ?_
          refine ec_acmp_eq (tgt := 41) hx hb dX10_comesToItself_23 (by decide) (fun c_8 => ?_) (fun c_8 => ?_)
          · have wc_8 : x2_11.toInt = b.toInt := (er_in hD (t := 10) (x := b) (y := x2_11) (by decide) (by have := (hsx1_11).1; omega) (show _ < 80 by have := (hsx1_11).2; omega) (by have := (h_7).1; omega) (show _ < 80 by have := (h_7).2; omega) c_8.symm).symm
            exact hj41 x3_11 x2_11 (iv_w h_4 (by decide)) (iv_w h_7 (by decide)) hsx0_11 hsx1_11 (⟨hit, hne, Or.inr (Or.inr (Int32.toInt_inj.mp wc_8))⟩) _ _ _ hP hD hS (lv_sub hl [0, 1, 2, 3] rfl)
          · have wc_8 : ¬ x2_11.toInt = b.toInt := fun q9 => c_8 (congrArg (er (ad 10)) (Int32.toInt_inj.mp q9))
            refine ec_aload_n hx hb dX10_comesToItself_26 rfl (lv_at hl 2 rfl) ?_
            refine ec_aload_n hx hb dX10_comesToItself_27 rfl (lv_at hl 1 rfl) ?_
            refine cr_get (t := 10) (j := 6) (C := RX1) (T := TX1) (N := 19) (v := .long (lg 5 x2_11.toNatClampNeg)) hx hb htb inX1 hown hK hP h_7 (by decide) (by decide) (by decide) rfl (by decide) (htb _ kw_715) rfl dX10_comesToItself_28 ?_
            refine lv_topl (fun z_9 ez_9 => ?_)
            refine cm_callV (t := 4) (C := RX10) (T := TX10) (N := 4) (rest := []) (as := [.long z_9]) ⟨hx, hb, hml, hown, htb⟩ (d_withId2 l dC dI ad cid a2 lx sg gm lg x z_9 hI hsx0_11) (cwV 1 htb (gd_V kw_716 kw_717 kw_718 kw_32 kw_1495) rfl rfl rfl (by decide +kernel) ⟨Nat.le_of_ble_eq_true rfl, Nat.le_of_ble_eq_true rfl⟩) hsx0_11 (by decide) (by decide) rfl rfl hl.1 rfl (Nat.le_trans cs_n (by decide)) dX10_comesToItself_31 ⟨Nat.le_of_ble_eq_true rfl, Nat.le_of_ble_eq_true rfl⟩ hK hP hD hS hA hG (fun E ce q9 u_11 H locs hw hP hD hS hce hcv hcl => ?_) (fun v9 u_11 H locs hw hP hD hS => ?_)
            · exact hw.elim
            obtain ⟨r_10, rfl, rfl, hr_10, fI_r_10, fD_r_10⟩ := hw
            have hP : va_P (dC, dI) vwCl (cW ad cid a2 lx sg gm lg) H := hP
            have hD : va_D A (cW ad cid a2 lx sg gm lg) := hD
            refine W.eq (g2 := F0 m 34 ls [eV (ad 10) r_10]) rfl ?_
            refine ec_astore_n (i := 2) (lv' := [(2, eV (ad 10) r_10), (3, .int x3_11), (0, eV (ad 4) x), (1, eV (ad 10) b)]) hx hb dX10_comesToItself_34 rfl hl (by decide) (by simp [List.filter, eV_cat, cat_i, cat_l]) (fun ls hl => ?_)
            obtain ⟨z_13, ez_13⟩ : ∃ z : Int32, z = x3_11 + 1 := ⟨_, rfl⟩
            have hz_13 : iv 2 80 z_13 := iv_of ez_13 (iv_add h_4 (iv_k (by decide) : iv 1 1 1) (by decide))
            have tz_13 : z_13.toInt = x3_11.toInt + 1 := by rw [ez_13]; exact iv_addE h_4 (iv_k (by decide) : iv 1 1 1) (by decide)
            refine lv_iinc (v := z_13) (lv' := [(3, .int z_13), (2, eV (ad 10) r_10), (0, eV (ad 4) x), (1, eV (ad 10) b)]) hx hb dX10_comesToItself_35 hl (k := 1) rfl ez_13.symm (by decide) (by simp [List.filter, eV_cat, cat_i, cat_l]) (fun ls hl => ?_)
            refine lv_goto (tgt := 11) hx hb dX10_comesToItself_38 (by decide) ?_
            exact ih11 _ (by rw [← hn11]; exact (iv_meas tz_13 h_4 (by decide))) z_13 r_10 rfl (iv_w hz_13 (by decide)) hr_10 hsx0_11 hsx1_11 ((by rw [s_cl h_4 (by decide) tz_13]; exact itF_s9 hit (fun q8 => by have q7 : (x2_11 : Int32).toInt = -1 := (by rw [q8]; decide); have := i32_0; have := i32_1; have := i32_2; have := i32_m1; have := (hsx0_11).1; have := (hsx0_11).2; have := (hsx1_11).1; have := (hsx1_11).2; have := (h_4).1; have := (h_4).2; have := (h_7).1; have := (h_7).2; have := (hr_10).1; have := (hr_10).2; have := (hz_13).1; have := (hz_13).2; omega) (fD_r_10.trans (by rw [ez_9]; rfl)))) ((fun k h1 h2 => by rw [s_cl h_4 (by decide) tz_13] at h2; by_cases hq : k = x3_11.toNatClampNeg; (rw [hq, ← hit]; exact fun q8 => wc_8 (congrArg Int32.toInt q8)); exact hne k h1 (by omega))) _ _ _ hP hD hS (lv_sub hl [0, 1, 2, 3] rfl)
  refine ec_aload_n hx hb dX10_comesToItself_0 rfl (lv_at hl 0 rfl) ?_
  refine ec_aload_n hx hb dX10_comesToItself_1 rfl (lv_at hl 1 rfl) ?_
  refine cr_get (t := 10) (j := 6) (C := RX1) (T := TX1) (N := 19) (v := .long (lg 5 b.toNatClampNeg)) hx hb htb inX1 hown hK hP hvb (by decide) (by decide) (by decide) rfl (by decide) (htb _ kw_715) rfl dX10_comesToItself_2 ?_
  refine lv_topl (fun z_14 ez_14 => ?_)
  refine cm_callV (t := 4) (C := RX10) (T := TX10) (N := 4) (rest := []) (as := [.long z_14]) ⟨hx, hb, hml, hown, htb⟩ (d_withId2 l dC dI ad cid a2 lx sg gm lg x z_14 hI hvx) (cwV 1 htb (gd_V kw_716 kw_717 kw_718 kw_32 kw_1495) rfl rfl rfl (by decide +kernel) ⟨Nat.le_of_ble_eq_true rfl, Nat.le_of_ble_eq_true rfl⟩) hvx (by decide) (by decide) rfl rfl hl.1 rfl (Nat.le_trans cs_n (by decide)) dX10_comesToItself_5 ⟨Nat.le_of_ble_eq_true rfl, Nat.le_of_ble_eq_true rfl⟩ hK hP hD hS hA hG (fun E ce q9 u_16 H locs hw hP hD hS hce hcv hcl => ?_) (fun v9 u_16 H locs hw hP hD hS => ?_)
  · exact hw.elim
  obtain ⟨r_15, rfl, rfl, hr_15, fI_r_15, fD_r_15⟩ := hw
  have hP : va_P (dC, dI) vwCl (cW ad cid a2 lx sg gm lg) H := hP
  have hD : va_D A (cW ad cid a2 lx sg gm lg) := hD
  refine W.eq (g2 := F0 m 8 ls [eV (ad 10) r_15]) rfl ?_
  refine ec_astore_n (i := 2) (lv' := [(2, eV (ad 10) r_15), (0, eV (ad 4) x), (1, eV (ad 10) b)]) hx hb dX10_comesToItself_8 rfl hl (by decide) (by simp [List.filter, eV_cat, cat_i, cat_l]) (fun ls hl => ?_)
  refine lv_iconst (v := 1) hx hb dX10_comesToItself_9 (by decide) ?_
  refine lv_istore_n (i := 3) (lv' := [(3, .int 1), (2, eV (ad 10) r_15), (0, eV (ad 4) x), (1, eV (ad 10) b)]) hx hb dX10_comesToItself_10 rfl hl (by decide) (by simp [List.filter, eV_cat, cat_i, cat_l]) (fun ls hl => ?_)
  exact hj11 _ 1 r_15 rfl (iv_w (iv_k (by decide) : iv 1 1 1) (by decide)) hr_15 hvx hvb ((by have q9 : itF (cPar sg lg) 1 b = cPar sg lg b := itF_1 (fun q8 => absurd hvb.1 (by rw [q8]; decide)); have : (1 : Int32).toNatClampNeg = 1 := rfl; rw [this, q9]; exact fD_r_15.trans (by rw [ez_14]; rfl))) ((fun k h1 h2 => by have : (1 : Int32).toNatClampNeg = 1 := rfl; omega)) _ _ _ hP hD hS (lv_sub hl [0, 1, 2, 3] rfl)
end
section
set_option maxHeartbeats 4000000 in
set_option maxRecDepth 100000 in
theorem d_hasRightParent2 (l : Launch) (dC : Nat → ClassId) (dI : Nat → Nat → Nat) (ad : Nat → Nat → Nat) (cid : Nat → ClassId) (a2 : Nat → Nat) (lx : List Nat) (sg : Nat → Int32) (gm : Nat → Nat → Int32) (lg : Nat → Nat → Int64) (x : Int32) (b : Int32) (hI : CI sg gm) (hvx : iv 0 0 x) (hvb : iv 0 79 b) : CMt dC dI ad cid a2 lx l yX10_hasRightParent wm_X10_hasRightParent ({ frames := 2, cells := 1, slots := 6, locals := 46 }) [eV (ad 4) x, eV (ad 10) b] sg gm lg (fun v u => ∃ r : Int32, v = some (.int r) ∧ u = (sg, gm, lg) ∧ (iv 0 1 r) ∧ ((r.toInt = 1 ∧ (RPW sg lg b)) ∨ (r.toInt = 0 ∧ ¬ (RPW sg lg b)))) (fun _ _ => False) := by
  intro sz
  refine vx_ofW (cc := cX10_hasRightParent) (maxL := 3) (ret := (some .boolean)) (by decide) rfl ?_
  intro p e s m args below meth c s₁ B hml hxt hv
  obtain ⟨rfl, hsz, hP, hK, hD0, hG⟩ := hv
  have hx := B.exec
  have hb := B.bytes
  have hr := B.returns
  have hts := atoms_spec (ws := wm_X10_hasRightParent) B.pre
  have htb := fun (w : Cond) (h : w ∈ tb) => hts w (List.mem_cons_of_mem _ h)
  have hown : s.vm.findClass RX10 = some m.cls := findClass_of_methodNamed B.named
  have hlocks := B.notSynchronized
  subst hsz
  have hD := hD0.self (sz := s.heap.size)
  generalize hAe : va_A (cW ad cid a2 lx sg gm lg) s.heap.size = A at hD hG ⊢
  have hA : ∀ q : Nat, s.heap.size ≤ q → A q := fun q h => by rw [← hAe]; exact Or.inr h
  have hS : va_S A s.heap s.heap [] := va_S.rf
  have hl := lv_entry ([eV (ad 4) x, eV (ad 10) b]) (n := 3) (by rw [show (lg_sl ([eV (ad 4) x, eV (ad 10) b])).length = 2 from by simp [lg_sl, eV_cat, cat_i, cat_l]]; exact Nat.le_of_ble_eq_true rfl)
  rw [lg_entry_eq]
  generalize (lg_sl ([eV (ad 4) x, eV (ad 10) b]) ++ List.replicate (3 - (lg_sl ([eV (ad 4) x, eV (ad 10) b])).length) Slot.unset).toArray = ls at hl ⊢
  have hl : lv_has ls 3 [(0, eV (ad 4) x), (1, eV (ad 10) b)] := by simp [lv_args, eV_cat, cat_i, cat_l] at hl; exact hl
  have hj37 : ∀ (x2_37 : Int32) (y0_37 : Int32) (_ : iv (-1) 79 x2_37) (_ : iv 0 0 x) (_ : iv 0 79 b) (_ : iv 0 1 y0_37) (_ : (y0_37.toInt = 1 ∧ (RPW sg lg b)) ∨ (y0_37.toInt = 0 ∧ ¬ (RPW sg lg b))) (H : Heap) (locs : List Loc) (ls : Array Slot), va_P (dC, dI) vwCl (cW ad cid a2 lx sg gm lg) H → va_D A (cW ad cid a2 lx sg gm lg) → va_S A s.heap H locs → lv_has ls 3 [(2, eV (ad 10) x2_37), (0, eV (ad 4) x), (1, eV (ad 10) b)] → W p l e (headSpec wm_X10_hasRightParent ({ frames := 2, cells := 1, slots := 6, locals := 46 })).room s m ([eV (ad 4) x, eV (ad 10) b] : List Value).toArray below meth c H locs 0 0 (vx_MQ below (cQx dC dI ad cid a2 lx (fun v u => ∃ r : Int32, v = some (.int r) ∧ u = (sg, gm, lg) ∧ (iv 0 1 r) ∧ ((r.toInt = 1 ∧ (RPW sg lg b)) ∨ (r.toInt = 0 ∧ ¬ (RPW sg lg b)))) A) (cX dC dI ad cid a2 lx (fun _ _ => False) A) ([eV (ad 4) x, eV (ad 10) b] : List Value).toArray s 1 6 A) (F0 m 37 ls [.int y0_37]) := by
    intro x2_37 y0_37 hx2_37 hsx0_37 hsx1_37 hy0_37 u37 H locs ls hP hD hS hl
    exact W.nb (fun hN => W.widen (k := 1) (n := 6) (by decide) (by decide) (vx_ret (W.zret (v := y0_37) hx hb hr (iv_nb hy0_37) (fun t ht hW => ⟨⟨some (.int y0_37), (sg, gm, lg), rfl, ⟨y0_37, rfl, rfl, hy0_37, (u37)⟩, by rw [ht]; exact hP, va_K.moved hW.alike hK, hD⟩, hS.F ht, by rw [ht]; exact hN⟩) hS.2.2 dX10_hasRightParent_37)))
  have hj36 : ∀ (x2_36 : Int32) (_ : iv (-1) 79 x2_36) (_ : iv 0 0 x) (_ : iv 0 79 b) (_ : ¬ RPW sg lg b) (H : Heap) (locs : List Loc) (ls : Array Slot), va_P (dC, dI) vwCl (cW ad cid a2 lx sg gm lg) H → va_D A (cW ad cid a2 lx sg gm lg) → va_S A s.heap H locs → lv_has ls 3 [(2, eV (ad 10) x2_36), (0, eV (ad 4) x), (1, eV (ad 10) b)] → W p l e (headSpec wm_X10_hasRightParent ({ frames := 2, cells := 1, slots := 6, locals := 46 })).room s m ([eV (ad 4) x, eV (ad 10) b] : List Value).toArray below meth c H locs 0 0 (vx_MQ below (cQx dC dI ad cid a2 lx (fun v u => ∃ r : Int32, v = some (.int r) ∧ u = (sg, gm, lg) ∧ (iv 0 1 r) ∧ ((r.toInt = 1 ∧ (RPW sg lg b)) ∨ (r.toInt = 0 ∧ ¬ (RPW sg lg b)))) A) (cX dC dI ad cid a2 lx (fun _ _ => False) A) ([eV (ad 4) x, eV (ad 10) b] : List Value).toArray s 1 6 A) (F0 m 36 ls []) := by
    intro x2_36 hx2_36 hsx0_36 hsx1_36 u36 H locs ls hP hD hS hl
    refine lv_iconst (v := 0) hx hb dX10_hasRightParent_36 (by decide) ?_
    exact hj37 x2_36 0 hx2_36 hsx0_36 hsx1_36 (iv_w (iv_k (by decide) : iv 0 0 0) (by decide)) (Or.inr ⟨rfl, u36⟩) _ _ _ hP hD hS (lv_sub hl [0, 1, 2] rfl)
  refine ec_aload_n hx hb dX10_hasRightParent_0 rfl (lv_at hl 1 rfl) ?_
  refine cr_get (t := 10) (j := 6) (C := RX1) (T := TX1) (N := 19) (v := .long (lg 5 b.toNatClampNeg)) hx hb htb inX1 hown hK hP hvb (by decide) (by decide) (by decide) rfl (by decide) (htb _ kw_715) rfl dX10_hasRightParent_1 ?_
  refine lv_topl (fun z_1 ez_1 => ?_)
  refine lv_lconst (v := 0) hx hb dX10_hasRightParent_4 (by decide) ?_
  refine W.lcmp hx hb dX10_hasRightParent_5 ?_
  refine lv_topi (fun z_2 ez_2 => ?_)
  have hz_2 : iv (-1) 1 z_2 := iv_of ez_2 (iv_cmp _ _)
  refine lv_if_ne (tgt := 11) hx hb dX10_hasRightParent_6 (by decide) (fun c_3 => ?_) (fun c_3 => ?_)
  · have d_4 : ¬ (z_2 : Int32).toInt = 0 := lv_neT c_3 rfl
    refine ec_aload_n hx hb dX10_hasRightParent_11 rfl (lv_at hl 0 rfl) ?_
    refine ec_aload_n hx hb dX10_hasRightParent_12 rfl (lv_at hl 1 rfl) ?_
    refine cr_get (t := 10) (j := 6) (C := RX1) (T := TX1) (N := 19) (v := .long (lg 5 b.toNatClampNeg)) hx hb htb inX1 hown hK hP hvb (by decide) (by decide) (by decide) rfl (by decide) (htb _ kw_715) rfl dX10_hasRightParent_13 ?_
    refine lv_topl (fun z_5 ez_5 => ?_)
    refine cm_callV (t := 4) (C := RX10) (T := TX10) (N := 4) (rest := []) (as := [.long z_5]) ⟨hx, hb, hml, hown, htb⟩ (d_withId2 l dC dI ad cid a2 lx sg gm lg x z_5 hI hvx) (cwV 1 htb (gd_V kw_716 kw_717 kw_718 kw_32 kw_1495) rfl rfl rfl (by decide +kernel) ⟨Nat.le_of_ble_eq_true rfl, Nat.le_of_ble_eq_true rfl⟩) hvx (by decide) (by decide) rfl rfl hl.1 rfl (Nat.le_trans cs_n (by decide)) dX10_hasRightParent_16 ⟨Nat.le_of_ble_eq_true rfl, Nat.le_of_ble_eq_true rfl⟩ hK hP hD hS hA hG (fun E ce q9 u_7 H locs hw hP hD hS hce hcv hcl => ?_) (fun v9 u_7 H locs hw hP hD hS => ?_)
    · exact hw.elim
    obtain ⟨r_6, rfl, rfl, hr_6, fI_r_6, fD_r_6⟩ := hw
    have hP : va_P (dC, dI) vwCl (cW ad cid a2 lx sg gm lg) H := hP
    have hD : va_D A (cW ad cid a2 lx sg gm lg) := hD
    refine W.eq (g2 := F0 m 19 ls [eV (ad 10) r_6]) rfl ?_
    refine ec_astore_n (i := 2) (lv' := [(2, eV (ad 10) r_6), (0, eV (ad 4) x), (1, eV (ad 10) b)]) hx hb dX10_hasRightParent_19 rfl hl (by decide) (by simp [List.filter, eV_cat, cat_i, cat_l]) (fun ls hl => ?_)
    refine ec_aload_n hx hb dX10_hasRightParent_20 rfl (lv_at hl 0 rfl) ?_
    refine ec_ifnull (tgt := 36) hx hb dX10_hasRightParent_21 (by decide) (fun c_9 => ?_) (fun c_9 => ?_)
    · have h_10 : iv (-1) (-1) r_6 := ⟨(hr_6).1, by omega⟩
      exact hj36 r_6 (iv_w h_10 (by decide)) hvx hvb ((fun q9 => q9.elim (fun q8 => c_3 (by rw [ez_2, ez_1]; exact (lg_cmp_eq _ _).mpr q8)) (fun q8 => q8.1 (by rw [← (fD_r_6.trans (by rw [ez_5]; rfl) : r_6 = cPar sg lg b)]; exact Int32.toInt_inj.mp (show r_6.toInt = (-1 : Int32).toInt from (by have : (-1 : Int32).toInt = -1 := (by decide); have := i32_0; have := i32_1; have := i32_2; have := i32_m1; have := (hvx).1; have := (hvx).2; have := (hvb).1; have := (hvb).2; have := (hz_2).1; have := (hz_2).2; have := (h_10).1; have := (h_10).2; omega)))))) _ _ _ hP hD hS (lv_sub hl [0, 1, 2] rfl)
    · have h_11 : iv 0 79 r_6 := ⟨c_9, (hr_6).2⟩
      refine ec_aload_n hx hb dX10_hasRightParent_24 rfl (lv_at hl 1 rfl) ?_
      refine ec_aload_n hx hb dX10_hasRightParent_25 rfl (lv_at hl 0 rfl) ?_
      refine cm_callV (t := 4) (C := RX10) (T := TX10) (N := 4) (rest := []) (as := [eV (ad 10) r_6]) ⟨hx, hb, hml, hown, htb⟩ (d_comesToItself2 l dC dI ad cid a2 lx sg gm lg x r_6 hI hvx h_11) (cwV 1 htb (gd_V kw_720 kw_721 kw_722 kw_32 kw_1496) rfl rfl rfl (by decide +kernel) ⟨Nat.le_of_ble_eq_true rfl, Nat.le_of_ble_eq_true rfl⟩) hvx (by decide) (by decide) rfl rfl hl.1 rfl (Nat.le_trans cs_n (by decide)) dX10_hasRightParent_26 ⟨Nat.le_of_ble_eq_true rfl, Nat.le_of_ble_eq_true rfl⟩ hK hP hD hS hA hG (fun E ce q9 u_13 H locs hw hP hD hS hce hcv hcl => ?_) (fun v9 u_13 H locs hw hP hD hS => ?_)
      · exact hw.elim
      obtain ⟨r_12, rfl, rfl, hr_12, fC_r_12⟩ := hw
      have hP : va_P (dC, dI) vwCl (cW ad cid a2 lx sg gm lg) H := hP
      have hD : va_D A (cW ad cid a2 lx sg gm lg) := hD
      refine W.eq (g2 := F0 m 29 ls [.int r_12]) rfl ?_
      refine lv_if_ne (tgt := 36) hx hb dX10_hasRightParent_29 (by decide) (fun c_15 => ?_) (fun c_15 => ?_)
      · have h_16 : iv 1 1 r_12 := iv_neL c_15 hr_12 (by decide)
        exact hj36 r_6 (iv_w h_11 (by decide)) hvx hvb ((fun q9 => q9.elim (fun q8 => c_3 (by rw [ez_2, ez_1]; exact (lg_cmp_eq _ _).mpr q8)) (fun q8 => (fC_r_12.resolve_right (fun q7 => absurd q7.1 (by have := i32_0; have := i32_1; have := i32_2; have := i32_m1; have := (hvx).1; have := (hvx).2; have := (hvb).1; have := (hvb).2; have := (hz_2).1; have := (hz_2).2; have := (h_11).1; have := (h_11).2; have := (h_16).1; have := (h_16).2; omega))).2 (by rw [(fD_r_6.trans (by rw [ez_5]; rfl) : r_6 = cPar sg lg b)]; exact q8.2)))) _ _ _ hP hD hS (lv_sub hl [0, 1, 2] rfl)
      · have h_17 : iv 0 0 r_12 := iv_eq c_15 hr_12 (iv_k (by decide) : iv 0 0 0) (by decide)
        refine lv_iconst (v := 1) hx hb dX10_hasRightParent_32 (by decide) ?_
        refine lv_goto (tgt := 37) hx hb dX10_hasRightParent_33 (by decide) ?_
        exact hj37 r_6 1 (iv_w h_11 (by decide)) hvx hvb (iv_w (iv_k (by decide) : iv 1 1 1) (by decide)) (Or.inl ⟨rfl, Or.inr ⟨(fun q8 => by have q7 := congrArg Int32.toInt (Eq.trans (fD_r_6.trans (by rw [ez_5]; rfl) : r_6 = cPar sg lg b) q8); have : (-1 : Int32).toInt = -1 := (by decide); have := i32_0; have := i32_1; have := i32_2; have := i32_m1; have := (hvx).1; have := (hvx).2; have := (hvb).1; have := (hvb).2; have := (hz_2).1; have := (hz_2).2; have := (h_11).1; have := (h_11).2; have := (h_17).1; have := (h_17).2; omega), (by rw [← (fD_r_6.trans (by rw [ez_5]; rfl) : r_6 = cPar sg lg b)]; exact (fC_r_12.resolve_left (fun q7 => absurd q7.1 (by have := i32_0; have := i32_1; have := i32_2; have := i32_m1; have := (hvx).1; have := (hvx).2; have := (hvb).1; have := (hvb).2; have := (hz_2).1; have := (hz_2).2; have := (h_11).1; have := (h_11).2; have := (h_17).1; have := (h_17).2; omega))).2)⟩⟩) _ _ _ hP hD hS (lv_sub hl [0, 1, 2] rfl)
  · have h_18 : iv 0 0 z_2 := iv_eq c_3 hz_2 (iv_k (by decide) : iv 0 0 0) (by decide)
    refine lv_iconst (v := 1) hx hb dX10_hasRightParent_9 (by decide) ?_
    exact W.nb (fun hN => W.widen (k := 1) (n := 6) (by decide) (by decide) (vx_ret (W.zret (v := 1) hx hb hr (iv_nb (iv_w (iv_k (by decide) : iv 1 1 1) (by decide))) (fun t ht hW => ⟨⟨some (.int 1), (sg, gm, lg), rfl, ⟨1, rfl, rfl, (iv_w (iv_k (by decide) : iv 1 1 1) (by decide)), (Or.inl ⟨rfl, Or.inl (by have q8 := c_3; rw [ez_2, ez_1] at q8; exact (lg_cmp_eq _ _).mp q8)⟩)⟩, by rw [ht]; exact hP, va_K.moved hW.alike hK, hD⟩, hS.F ht, by rw [ht]; exact hN⟩) hS.2.2 dX10_hasRightParent_10)))

set_option maxHeartbeats 4000000 in
set_option maxRecDepth 100000 in
theorem d_isRightW2 (l : Launch) (dC : Nat → ClassId) (dI : Nat → Nat → Nat) (ad : Nat → Nat → Nat) (cid : Nat → ClassId) (a2 : Nat → Nat) (lx : List Nat) (sg : Nat → Int32) (gm : Nat → Nat → Int32) (lg : Nat → Nat → Int64) (x : Int32) (i : Int32) (hI : CI sg gm) (hvx : iv 0 0 x) (hvi : iv 0 79 i) : CMt dC dI ad cid a2 lx l yX10_isRight wm_X10_isRight ({ frames := 3, cells := 1, slots := 6, locals := 68 }) [eV (ad 4) x, .int i] sg gm lg (fun v u => ∃ r : Int32, v = some (.int r) ∧ u = (sg, gm, lg) ∧ (iv 0 1 r) ∧ ((r.toInt = 1 ∧ (IRW sg gm lg i.toNatClampNeg)) ∨ (r.toInt = 0 ∧ ¬ (IRW sg gm lg i.toNatClampNeg)))) (fun _ _ => False) := by
  intro sz
  refine vx_ofW (cc := cX10_isRight) (maxL := 4) (ret := (some .boolean)) (by decide) rfl ?_
  intro p e s m args below meth c s₁ B hml hxt hv
  obtain ⟨rfl, hsz, hP, hK, hD0, hG⟩ := hv
  have hx := B.exec
  have hb := B.bytes
  have hr := B.returns
  have hts := atoms_spec (ws := wm_X10_isRight) B.pre
  have htb := fun (w : Cond) (h : w ∈ tb) => hts w (List.mem_cons_of_mem _ h)
  have hown : s.vm.findClass RX10 = some m.cls := findClass_of_methodNamed B.named
  have hlocks := B.notSynchronized
  subst hsz
  have hD := hD0.self (sz := s.heap.size)
  generalize hAe : va_A (cW ad cid a2 lx sg gm lg) s.heap.size = A at hD hG ⊢
  have hA : ∀ q : Nat, s.heap.size ≤ q → A q := fun q h => by rw [← hAe]; exact Or.inr h
  have hS : va_S A s.heap s.heap [] := va_S.rf
  have hl := lv_entry ([eV (ad 4) x, .int i]) (n := 4) (by rw [show (lg_sl ([eV (ad 4) x, .int i])).length = 2 from by simp [lg_sl, eV_cat, cat_i, cat_l]]; exact Nat.le_of_ble_eq_true rfl)
  rw [lg_entry_eq]
  generalize (lg_sl ([eV (ad 4) x, .int i]) ++ List.replicate (4 - (lg_sl ([eV (ad 4) x, .int i])).length) Slot.unset).toArray = ls at hl ⊢
  have hl : lv_has ls 4 [(0, eV (ad 4) x), (1, .int i)] := by simp [lv_args, eV_cat, cat_i, cat_l] at hl; exact hl
  have hj75 : ∀ (x2_75 : Int32) (y0_75 : Int32) (_ : iv 0 79 x2_75) (_ : iv 0 0 x) (_ : iv 0 79 i) (_ : iv 0 1 y0_75) (_ : (y0_75.toInt = 1 ∧ (IRW sg gm lg i.toNatClampNeg)) ∨ (y0_75.toInt = 0 ∧ ¬ (IRW sg gm lg i.toNatClampNeg))) (H : Heap) (locs : List Loc) (ls : Array Slot), va_P (dC, dI) vwCl (cW ad cid a2 lx sg gm lg) H → va_D A (cW ad cid a2 lx sg gm lg) → va_S A s.heap H locs → lv_has ls 4 [(2, eV (ad 9) x2_75), (0, eV (ad 4) x), (1, .int i)] → W p l e (headSpec wm_X10_isRight ({ frames := 3, cells := 1, slots := 6, locals := 68 })).room s m ([eV (ad 4) x, .int i] : List Value).toArray below meth c H locs 0 0 (vx_MQ below (cQx dC dI ad cid a2 lx (fun v u => ∃ r : Int32, v = some (.int r) ∧ u = (sg, gm, lg) ∧ (iv 0 1 r) ∧ ((r.toInt = 1 ∧ (IRW sg gm lg i.toNatClampNeg)) ∨ (r.toInt = 0 ∧ ¬ (IRW sg gm lg i.toNatClampNeg)))) A) (cX dC dI ad cid a2 lx (fun _ _ => False) A) ([eV (ad 4) x, .int i] : List Value).toArray s 1 6 A) (F0 m 75 ls [.int y0_75]) := by
    intro x2_75 y0_75 hx2_75 hsx0_75 hsx1_75 hy0_75 u75 H locs ls hP hD hS hl
    exact W.nb (fun hN => W.widen (k := 1) (n := 6) (by decide) (by decide) (vx_ret (W.zret (v := y0_75) hx hb hr (iv_nb hy0_75) (fun t ht hW => ⟨⟨some (.int y0_75), (sg, gm, lg), rfl, ⟨y0_75, rfl, rfl, hy0_75, (u75)⟩, by rw [ht]; exact hP, va_K.moved hW.alike hK, hD⟩, hS.F ht, by rw [ht]; exact hN⟩) hS.2.2 dX10_isRight_75)))
  have hj70 : ∀ (x2_70 : Int32) (_ : iv 0 79 x2_70) (_ : iv 0 0 x) (_ : iv 0 79 i) (_ : IRW sg gm lg i.toNatClampNeg) (H : Heap) (locs : List Loc) (ls : Array Slot), va_P (dC, dI) vwCl (cW ad cid a2 lx sg gm lg) H → va_D A (cW ad cid a2 lx sg gm lg) → va_S A s.heap H locs → lv_has ls 4 [(2, eV (ad 9) x2_70), (0, eV (ad 4) x), (1, .int i)] → W p l e (headSpec wm_X10_isRight ({ frames := 3, cells := 1, slots := 6, locals := 68 })).room s m ([eV (ad 4) x, .int i] : List Value).toArray below meth c H locs 0 0 (vx_MQ below (cQx dC dI ad cid a2 lx (fun v u => ∃ r : Int32, v = some (.int r) ∧ u = (sg, gm, lg) ∧ (iv 0 1 r) ∧ ((r.toInt = 1 ∧ (IRW sg gm lg i.toNatClampNeg)) ∨ (r.toInt = 0 ∧ ¬ (IRW sg gm lg i.toNatClampNeg)))) A) (cX dC dI ad cid a2 lx (fun _ _ => False) A) ([eV (ad 4) x, .int i] : List Value).toArray s 1 6 A) (F0 m 70 ls []) := by
    intro x2_70 hx2_70 hsx0_70 hsx1_70 u70 H locs ls hP hD hS hl
    refine lv_iconst (v := 1) hx hb dX10_isRight_70 (by decide) ?_
    refine lv_goto (tgt := 75) hx hb dX10_isRight_71 (by decide) ?_
    exact hj75 x2_70 1 hx2_70 hsx0_70 hsx1_70 (iv_w (iv_k (by decide) : iv 1 1 1) (by decide)) (Or.inl ⟨rfl, u70⟩) _ _ _ hP hD hS (lv_sub hl [0, 1, 2] rfl)
  have hj52 : ∀ (x2_52 : Int32) (_ : iv 0 79 x2_52) (_ : iv 0 0 x) (_ : iv 0 79 i) (_ : x2_52 = i) (_ : ¬ lg 1 i.toNatClampNeg = 0 → ∀ k, k < i.toNatClampNeg → ¬ lg 1 k = lg 1 i.toNatClampNeg) (H : Heap) (locs : List Loc) (ls : Array Slot), va_P (dC, dI) vwCl (cW ad cid a2 lx sg gm lg) H → va_D A (cW ad cid a2 lx sg gm lg) → va_S A s.heap H locs → lv_has ls 4 [(2, eV (ad 9) x2_52), (0, eV (ad 4) x), (1, .int i)] → W p l e (headSpec wm_X10_isRight ({ frames := 3, cells := 1, slots := 6, locals := 68 })).room s m ([eV (ad 4) x, .int i] : List Value).toArray below meth c H locs 0 0 (vx_MQ below (cQx dC dI ad cid a2 lx (fun v u => ∃ r : Int32, v = some (.int r) ∧ u = (sg, gm, lg) ∧ (iv 0 1 r) ∧ ((r.toInt = 1 ∧ (IRW sg gm lg i.toNatClampNeg)) ∨ (r.toInt = 0 ∧ ¬ (IRW sg gm lg i.toNatClampNeg)))) A) (cX dC dI ad cid a2 lx (fun _ _ => False) A) ([eV (ad 4) x, .int i] : List Value).toArray s 1 6 A) (F0 m 52 ls []) := by
    intro x2_52 hx2_52 hsx0_52 hsx1_52 h2i u52 H locs ls hP hD hS hl
    refine ec_aload_n hx hb dX10_isRight_52 rfl (lv_at hl 0 rfl) ?_
    refine cr_get (t := 9) (j := 20) (C := RX3) (T := TX3) (N := 21) (v := eV (ad 10) (gm 27 x2_52.toNatClampNeg)) hx hb htb inX3 hown hK hP hx2_52 (by decide) (by decide) (by decide) rfl (by decide) (htb _ kw_638) rfl dX10_isRight_53 ?_
    obtain ⟨z_1, ez_1⟩ : ∃ z : Int32, z = (gm 27 x2_52.toNatClampNeg) := ⟨_, rfl⟩
    refine W.eq (g2 := F0 m 56 ls [eV (ad 10) z_1]) (by rw [ez_1]) ?_
    have hz_1 : iv (-1) 79 z_1 := iv_of ez_1 (CI_a hI 27 hx2_52 (by decide))
    refine ec_ifnull (tgt := 70) hx hb dX10_isRight_56 (by decide) (fun c_2 => ?_) (fun c_2 => ?_)
    · have h_3 : iv (-1) (-1) z_1 := ⟨(hz_1).1, by omega⟩
      exact hj70 x2_52 hx2_52 hsx0_52 hsx1_52 (⟨u52, Or.inl (by rw [← (show z_1 = gm 27 i.toNatClampNeg from (by rw [ez_1, h2i]))]; have := i32_0; have := i32_1; have := i32_2; have := i32_m1; have := (hsx0_52).1; have := (hsx0_52).2; have := (hsx1_52).1; have := (hsx1_52).2; have := (hx2_52).1; have := (hx2_52).2; have := (h_3).1; have := (h_3).2; omega)⟩) _ _ _ hP hD hS (lv_sub hl [0, 1, 2] rfl)
    · have h_4 : iv 0 79 z_1 := ⟨c_2, (hz_1).2⟩
      refine ec_aload_n hx hb dX10_isRight_59 rfl (lv_at hl 1 rfl) ?_
      refine ec_aload_n hx hb dX10_isRight_60 rfl (lv_at hl 0 rfl) ?_
      refine cr_get (t := 9) (j := 20) (C := RX3) (T := TX3) (N := 21) (v := eV (ad 10) (gm 27 x2_52.toNatClampNeg)) hx hb htb inX3 hown hK hP hx2_52 (by decide) (by decide) (by decide) rfl (by decide) (htb _ kw_638) rfl dX10_isRight_61 ?_
      refine W.eq (g2 := F0 m 64 ls [eV (ad 10) z_1, eV (ad 4) x]) (by rw [show (gm 27 x2_52.toNatClampNeg) = z_1 from ez_1.symm]) ?_
      refine cm_callV (t := 4) (C := RX10) (T := TX10) (N := 4) (rest := []) (as := [eV (ad 10) z_1]) ⟨hx, hb, hml, hown, htb⟩ (d_hasRightParent2 l dC dI ad cid a2 lx sg gm lg x z_1 hI hsx0_52 h_4) (cwV 1 htb (gd_V kw_712 kw_713 kw_714 kw_32 kw_1494) rfl rfl rfl (by decide +kernel) ⟨Nat.le_of_ble_eq_true rfl, Nat.le_of_ble_eq_true rfl⟩) hsx0_52 (by decide) (by decide) rfl rfl hl.1 rfl (Nat.le_trans cs_n (by decide)) dX10_isRight_64 ⟨Nat.le_of_ble_eq_true rfl, Nat.le_of_ble_eq_true rfl⟩ hK hP hD hS hA hG (fun E ce q9 u_6 H locs hw hP hD hS hce hcv hcl => ?_) (fun v9 u_6 H locs hw hP hD hS => ?_)
      · exact hw.elim
      obtain ⟨r_5, rfl, rfl, hr_5, fP_r_5⟩ := hw
      have hP : va_P (dC, dI) vwCl (cW ad cid a2 lx sg gm lg) H := hP
      have hD : va_D A (cW ad cid a2 lx sg gm lg) := hD
      refine W.eq (g2 := F0 m 67 ls [.int r_5]) rfl ?_
      refine lv_if_eq (tgt := 74) hx hb dX10_isRight_67 (by decide) (fun c_8 => ?_) (fun c_8 => ?_)
      · have h_9 : iv 0 0 r_5 := iv_eq c_8 hr_5 (iv_k (by decide) : iv 0 0 0) (by decide)
        refine lv_iconst (v := 0) hx hb dX10_isRight_74 (by decide) ?_
        exact hj75 x2_52 0 hx2_52 hsx0_52 hsx1_52 (iv_w (iv_k (by decide) : iv 0 0 0) (by decide)) (Or.inr ⟨rfl, fun h => h.2.elim (fun q8 => by rw [← (show z_1 = gm 27 i.toNatClampNeg from (by rw [ez_1, h2i]))] at q8; have := i32_0; have := i32_1; have := i32_2; have := i32_m1; have := (hsx0_52).1; have := (hsx0_52).2; have := (hsx1_52).1; have := (hsx1_52).2; have := (hx2_52).1; have := (hx2_52).2; have := (h_4).1; have := (h_4).2; have := (h_9).1; have := (h_9).2; omega) (fun q8 => (fP_r_5.resolve_left (fun q7 => absurd q7.1 (by have := i32_0; have := i32_1; have := i32_2; have := i32_m1; have := (hsx0_52).1; have := (hsx0_52).2; have := (hsx1_52).1; have := (hsx1_52).2; have := (hx2_52).1; have := (hx2_52).2; have := (h_4).1; have := (h_4).2; have := (h_9).1; have := (h_9).2; omega))).2 (by rw [(show z_1 = gm 27 i.toNatClampNeg from (by rw [ez_1, h2i]))]; exact q8))⟩) _ _ _ hP hD hS (lv_sub hl [0, 1, 2] rfl)
      · have h_10 : iv 1 1 r_5 := iv_neL c_8 hr_5 (by decide)
        exact hj70 x2_52 hx2_52 hsx0_52 hsx1_52 (⟨u52, Or.inr (by rw [← (show z_1 = gm 27 i.toNatClampNeg from (by rw [ez_1, h2i]))]; exact (fP_r_5.resolve_right (fun q7 => absurd q7.1 (by have := i32_0; have := i32_1; have := i32_2; have := i32_m1; have := (hsx0_52).1; have := (hsx0_52).2; have := (hsx1_52).1; have := (hsx1_52).2; have := (hx2_52).1; have := (hx2_52).2; have := (h_4).1; have := (h_4).2; have := (h_10).1; have := (h_10).2; omega))).2)⟩) _ _ _ hP hD hS (lv_sub hl [0, 1, 2] rfl)
  have hj20 : ∀ (n : Nat) (x3_20 : Int32) (x2_20 : Int32) (_ : (80 - x3_20.toInt).toNat = n) (_ : iv 0 80 x3_20) (_ : iv 0 79 x2_20) (_ : iv 0 0 x) (_ : iv 0 79 i) (_ : x2_20 = i) (_ : ¬ lg 1 i.toNatClampNeg = 0) (_ : ∀ k, k < x3_20.toNatClampNeg → ¬ lg 1 k = lg 1 i.toNatClampNeg) (H : Heap) (locs : List Loc) (ls : Array Slot), va_P (dC, dI) vwCl (cW ad cid a2 lx sg gm lg) H → va_D A (cW ad cid a2 lx sg gm lg) → va_S A s.heap H locs → lv_has ls 4 [(3, .int x3_20), (2, eV (ad 9) x2_20), (0, eV (ad 4) x), (1, .int i)] → W p l e (headSpec wm_X10_isRight ({ frames := 3, cells := 1, slots := 6, locals := 68 })).room s m ([eV (ad 4) x, .int i] : List Value).toArray below meth c H locs 0 0 (vx_MQ below (cQx dC dI ad cid a2 lx (fun v u => ∃ r : Int32, v = some (.int r) ∧ u = (sg, gm, lg) ∧ (iv 0 1 r) ∧ ((r.toInt = 1 ∧ (IRW sg gm lg i.toNatClampNeg)) ∨ (r.toInt = 0 ∧ ¬ (IRW sg gm lg i.toNatClampNeg)))) A) (cX dC dI ad cid a2 lx (fun _ _ => False) A) ([eV (ad 4) x, .int i] : List Value).toArray s 1 6 A) (F0 m 20 ls []) := by
    intro n
    induction n using Nat.strongRecOn with
    | ind n ih20 =>
      intro x3_20 x2_20 hn20 hx3_20 hx2_20 hsx0_20 hsx1_20 h2i hnz hnm H locs ls hP hD hS hl
      refine lv_iload_n hx hb dX10_isRight_20 rfl (lv_at hl 0 rfl) ?_
      refine lv_iload_n hx hb dX10_isRight_21 rfl (lv_at hl 3 rfl) ?_
      refine lv_icmp_ge (tgt := 52) hx hb dX10_isRight_22 (by decide) (fun c_11 => ?_) (fun c_11 => ?_)
      · have d_12 : (i : Int32).toInt ≤ (x3_20 : Int32).toInt := Int32.le_iff_toInt_le.mp c_11
        exact hj52 x2_20 hx2_20 hsx0_20 hsx1_20 (h2i) ((fun _ k hk => hnm k (by have k1 := iv_cl hx3_20 (by decide); have k2 := iv_cl hvi (by decide); have := i32_0; have := i32_1; have := i32_2; have := i32_m1; have := (hsx0_20).1; have := (hsx0_20).2; have := (hsx1_20).1; have := (hsx1_20).2; have := (hx3_20).1; have := (hx3_20).2; have := (hx2_20).1; have := (hx2_20).2; omega))) _ _ _ hP hD hS (lv_sub hl [1, 2, 3] rfl)
      · have d_13 : (x3_20 : Int32).toInt < (i : Int32).toInt := Int32.lt_iff_toInt_lt.mp (i32_lt c_11)
        have h_14 : iv 0 78 x3_20 := iv_ltL (i32_lt c_11) hx3_20 hsx1_20 (by decide)
        have h_15 : iv 1 79 i := iv_ltR (i32_lt c_11) hx3_20 hsx1_20 (by decide)
        refine ec_aload_n hx hb dX10_isRight_25 rfl (lv_at hl 2 rfl) ?_
        refine cr_get (t := 4) (j := 0) (C := RX10) (T := TX10) (N := 4) (v := eV (ad 1) 0) hx hb htb inX10 hown hK hP hsx0_20 (by decide) (by decide) (by decide) rfl (by decide) (htb _ kw_86) (cV_c rfl (by decide) (by rw [show cMu 4 0 = 0 from rfl, Nat.zero_mul]; rfl)) dX10_isRight_26 ?_
        refine lv_iload_n hx hb dX10_isRight_29 rfl (lv_at hl 0 rfl) ?_
        refine cm_callV (t := 1) (C := RX6) (T := TX6) (N := 8) (rest := []) (as := [.int x3_20]) ⟨hx, hb, hml, hown, htb⟩ (d_element l dC dI ad cid a2 lx sg gm lg 0 x3_20 hI (iv_k (by decide) : iv 0 0 0) (iv_w h_14 (by decide))) (cwV 1 htb (gd_V kw_626 kw_503 kw_504 kw_20 kw_1458) rfl rfl rfl (by decide +kernel) ⟨Nat.le_of_ble_eq_true rfl, Nat.le_of_ble_eq_true rfl⟩) (iv_k (by decide) : iv 0 0 0) (by decide) (by decide) rfl rfl hl.1 rfl (Nat.le_trans cs_n (by decide)) dX10_isRight_30 ⟨Nat.le_of_ble_eq_true rfl, Nat.le_of_ble_eq_true rfl⟩ hK hP hD hS hA hG (fun E ce q9 u_17 H locs hw hP hD hS hce hcv hcl => ?_) (fun v9 u_17 H locs hw hP hD hS => ?_)
        · exact hw.elim
        obtain ⟨r_16, rfl, rfl, hr_16, fr_r_16⟩ := hw
        have hP : va_P (dC, dI) vwCl (cW ad cid a2 lx sg gm lg) H := hP
        have hD : va_D A (cW ad cid a2 lx sg gm lg) := hD
        refine W.eq (g2 := F0 m 33 ls [eV (ad 9) r_16]) rfl ?_
        refine cr_get (t := 9) (j := 11) (C := RX3) (T := TX3) (N := 21) (v := .long (lg 1 r_16.toNatClampNeg)) hx hb htb inX3 hown hK hP hr_16 (by decide) (by decide) (by decide) rfl (by decide) (htb _ kw_634) rfl dX10_isRight_33 ?_
        refine lv_topl (fun z_19 ez_19 => ?_)
        refine ec_aload_n hx hb dX10_isRight_36 rfl (lv_at hl 1 rfl) ?_
        refine cr_get (t := 9) (j := 11) (C := RX3) (T := TX3) (N := 21) (v := .long (lg 1 x2_20.toNatClampNeg)) hx hb htb inX3 hown hK hP hx2_20 (by decide) (by decide) (by decide) rfl (by decide) (htb _ kw_634) rfl dX10_isRight_37 ?_
        refine lv_topl (fun z_20 ez_20 => ?_)
        refine W.lcmp hx hb dX10_isRight_40 ?_
        refine lv_topi (fun z_21 ez_21 => ?_)
        have hz_21 : iv (-1) 1 z_21 := iv_of ez_21 (iv_cmp _ _)
        refine lv_if_ne (tgt := 46) hx hb dX10_isRight_41 (by decide) (fun c_22 => ?_) (fun c_22 => ?_)
        · have d_23 : ¬ (z_21 : Int32).toInt = 0 := lv_neT c_22 rfl
          obtain ⟨z_24, ez_24⟩ : ∃ z : Int32, z = x3_20 + 1 := ⟨_, rfl⟩
          have hz_24 : iv 1 79 z_24 := iv_of ez_24 (iv_add h_14 (iv_k (by decide) : iv 1 1 1) (by decide))
          have tz_24 : z_24.toInt = x3_20.toInt + 1 := by rw [ez_24]; exact iv_addE h_14 (iv_k (by decide) : iv 1 1 1) (by decide)
          refine lv_iinc (v := z_24) (lv' := [(3, .int z_24), (2, eV (ad 9) x2_20), (0, eV (ad 4) x), (1, .int i)]) hx hb dX10_isRight_46 hl (k := 0) rfl ez_24.symm (by decide) (by simp [List.filter, eV_cat, cat_i, cat_l]) (fun ls hl => ?_)
          refine lv_goto (tgt := 20) hx hb dX10_isRight_49 (by decide) ?_
          exact ih20 _ (by rw [← hn20]; exact (iv_meas tz_24 h_14 (by decide))) z_24 x2_20 rfl (iv_w hz_24 (by decide)) hx2_20 hsx0_20 (iv_w h_15 (by decide)) (h2i) (hnz) ((fun k hk => by rw [s_cl h_14 (by decide) tz_24] at hk; by_cases hq : k = x3_20.toNatClampNeg; (rw [hq]; exact fun q8 => c_22 (by rw [ez_21, ez_19, ez_20, fr_r_16, h2i]; exact (lg_cmp_eq _ _).mpr q8)); exact hnm k (by omega))) _ _ _ hP hD hS (lv_sub hl [0, 1, 2, 3] rfl)
        · have h_25 : iv 0 0 z_21 := iv_eq c_22 hz_21 (iv_k (by decide) : iv 0 0 0) (by decide)
          refine lv_iconst (v := 0) hx hb dX10_isRight_44 (by decide) ?_
          exact W.nb (fun hN => W.widen (k := 1) (n := 6) (by decide) (by decide) (vx_ret (W.zret (v := 0) hx hb hr (iv_nb (iv_w (iv_k (by decide) : iv 0 0 0) (by decide))) (fun t ht hW => ⟨⟨some (.int 0), (sg, gm, lg), rfl, ⟨0, rfl, rfl, (iv_w (iv_k (by decide) : iv 0 0 0) (by decide)), (Or.inr ⟨rfl, fun h => h.1 hnz x3_20.toNatClampNeg (by have k1 := iv_cl h_14 (by decide); have k2 := iv_cl hvi (by decide); have := i32_0; have := i32_1; have := i32_2; have := i32_m1; have := (hsx0_20).1; have := (hsx0_20).2; have := (h_15).1; have := (h_15).2; have := (h_14).1; have := (h_14).2; have := (hx2_20).1; have := (hx2_20).2; have := (hr_16).1; have := (hr_16).2; have := (h_25).1; have := (h_25).2; omega) (by have q8 := c_22; rw [ez_21, ez_19, ez_20, fr_r_16, h2i] at q8; exact (lg_cmp_eq _ _).mp q8)⟩)⟩, by rw [ht]; exact hP, va_K.moved hW.alike hK, hD⟩, hS.F ht, by rw [ht]; exact hN⟩) hS.2.2 dX10_isRight_45)))
  refine ec_aload_n hx hb dX10_isRight_0 rfl (lv_at hl 0 rfl) ?_
  refine cr_get (t := 4) (j := 0) (C := RX10) (T := TX10) (N := 4) (v := eV (ad 1) 0) hx hb htb inX10 hown hK hP hvx (by decide) (by decide) (by decide) rfl (by decide) (htb _ kw_86) (cV_c rfl (by decide) (by rw [show cMu 4 0 = 0 from rfl, Nat.zero_mul]; rfl)) dX10_isRight_1 ?_
  refine lv_iload_n hx hb dX10_isRight_4 rfl (lv_at hl 1 rfl) ?_
  refine cm_callV (t := 1) (C := RX6) (T := TX6) (N := 8) (rest := []) (as := [.int i]) ⟨hx, hb, hml, hown, htb⟩ (d_element l dC dI ad cid a2 lx sg gm lg 0 i hI (iv_k (by decide) : iv 0 0 0) hvi) (cwV 1 htb (gd_V kw_626 kw_503 kw_504 kw_20 kw_1458) rfl rfl rfl (by decide +kernel) ⟨Nat.le_of_ble_eq_true rfl, Nat.le_of_ble_eq_true rfl⟩) (iv_k (by decide) : iv 0 0 0) (by decide) (by decide) rfl rfl hl.1 rfl (Nat.le_trans cs_n (by decide)) dX10_isRight_5 ⟨Nat.le_of_ble_eq_true rfl, Nat.le_of_ble_eq_true rfl⟩ hK hP hD hS hA hG (fun E ce q9 u_27 H locs hw hP hD hS hce hcv hcl => ?_) (fun v9 u_27 H locs hw hP hD hS => ?_)
  · exact hw.elim
  obtain ⟨r_26, rfl, rfl, hr_26, fr_r_26⟩ := hw
  have hP : va_P (dC, dI) vwCl (cW ad cid a2 lx sg gm lg) H := hP
  have hD : va_D A (cW ad cid a2 lx sg gm lg) := hD
  refine W.eq (g2 := F0 m 8 ls [eV (ad 9) r_26]) rfl ?_
  refine ec_astore_n (i := 2) (lv' := [(2, eV (ad 9) r_26), (0, eV (ad 4) x), (1, .int i)]) hx hb dX10_isRight_8 rfl hl (by decide) rfl (fun ls hl => ?_)
  refine ec_aload_n hx hb dX10_isRight_9 rfl (lv_at hl 0 rfl) ?_
  refine cr_get (t := 9) (j := 11) (C := RX3) (T := TX3) (N := 21) (v := .long (lg 1 r_26.toNatClampNeg)) hx hb htb inX3 hown hK hP hr_26 (by decide) (by decide) (by decide) rfl (by decide) (htb _ kw_634) rfl dX10_isRight_10 ?_
  refine lv_topl (fun z_29 ez_29 => ?_)
  refine lv_lconst (v := 0) hx hb dX10_isRight_13 (by decide) ?_
  refine W.lcmp hx hb dX10_isRight_14 ?_
  refine lv_topi (fun z_30 ez_30 => ?_)
  have hz_30 : iv (-1) 1 z_30 := iv_of ez_30 (iv_cmp _ _)
  refine lv_if_eq (tgt := 52) hx hb dX10_isRight_15 (by decide) (fun c_31 => ?_) (fun c_31 => ?_)
  · have h_32 : iv 0 0 z_30 := iv_eq c_31 hz_30 (iv_k (by decide) : iv 0 0 0) (by decide)
    exact hj52 r_26 hr_26 hvx hvi (fr_r_26) ((fun q9 => absurd (by have q8 := c_31; rw [ez_30, ez_29, fr_r_26] at q8; exact (lg_cmp_eq _ _).mp q8) q9)) _ _ _ hP hD hS (lv_sub hl [0, 1, 2] rfl)
  · have d_33 : ¬ (z_30 : Int32).toInt = 0 := lv_neT c_31 rfl
    refine lv_iconst (v := 0) hx hb dX10_isRight_18 (by decide) ?_
    refine lv_istore_n (i := 3) (lv' := [(3, .int 0), (2, eV (ad 9) r_26), (0, eV (ad 4) x), (1, .int i)]) hx hb dX10_isRight_19 rfl hl (by decide) (by simp [List.filter, eV_cat, cat_i, cat_l]) (fun ls hl => ?_)
    exact hj20 _ 0 r_26 rfl (iv_w (iv_k (by decide) : iv 0 0 0) (by decide)) hr_26 hvx hvi (fr_r_26) ((fun q8 => c_31 (by rw [ez_30, ez_29, fr_r_26]; exact (lg_cmp_eq _ _).mpr q8))) ((fun k hk => absurd hk (Nat.not_lt_zero _))) _ _ _ hP hD hS (lv_sub hl [0, 1, 2, 3] rfl)
end
section
/-- what settling one element leaves -/
def NMS (D : List El7) (lg lg2 : Nat → Nat → Int64) (o : Nat) : Prop := (∀ j, j ≠ o → lg2 1 j = lg 1 j) ∧ lg2 1 o = nmD D o
def BNS (D : List El7) (sg sg2 : Nat → Int32) (gm gm2 : Nat → Nat → Int32) (lg lg2 : Nat → Nat → Int64) (o : Int32) : Prop := (¬ dKd D o.toNatClampNeg = 3 ∧ sg2 12 = sg 12 ∧ lg2 4 = lg 4 ∧ lg2 5 = lg 5 ∧ gm2 27 = gm 27 ∧ gm2 29 = gm 29) ∨ (dKd D o.toNatClampNeg = 3 ∧ (sg2 12).toInt = (sg 12).toInt + 1 ∧ lg2 4 = vp_updL (lg 4) (sg 12).toNatClampNeg (nv7 (dAt D o.toNatClampNeg) 26980) ∧ lg2 5 = vp_updL (lg 5) (sg 12).toNatClampNeg (nv7 (dAt D o.toNatClampNeg) 123563833388660) ∧ gm2 27 = upd (gm 27) o.toNatClampNeg (sg 12) ∧ gm2 29 = upd (gm 29) (sg 12).toNatClampNeg o)
theorem NMS_2 {D : List El7} {lg lg2 : Nat → Nat → Int64} {o : Nat} {r : Int64} (h : lg2 1 = vp_updL (lg 1) o r) (hk : dKd D o = 2) (hr : r = nv7 (dAt D o) 29807) : NMS D lg lg2 o := by
  refine ⟨fun j hj => by rw [h]; exact vp_uLn hj, ?_⟩
  rw [h, vp_uL, hr]; unfold nmD; rw [if_pos hk]
theorem NMS_3 {D : List El7} {lg lg2 : Nat → Nat → Int64} {o : Nat} {r : Int64} (h : lg2 1 = vp_updL (lg 1) o r) (hk : dKd D o = 3) (hr : r = nv7 (dAt D o) 26980) : NMS D lg lg2 o := by
  refine ⟨fun j hj => by rw [h]; exact vp_uLn hj, ?_⟩
  rw [h, vp_uL, hr]; unfold nmD; rw [if_neg (by omega), if_pos hk]
theorem NMS_0 {D : List El7} {lg lg2 : Nat → Nat → Int64} {o : Nat} (h : lg2 1 = lg 1) (h0 : lg 1 o = 0) (h2 : ¬ dKd D o = 2) (h3 : ¬ dKd D o = 3) : NMS D lg lg2 o := by
  refine ⟨fun j _ => by rw [h], ?_⟩
  rw [h, h0]; unfold nmD; rw [if_neg h2, if_neg h3]
/-- the beans' rows of the class by the list -/
def BC7 (D : List El7) (sg : Nat → Int32) (gm : Nat → Nat → Int32) (lg : Nat → Nat → Int64) (n : Nat) : Prop := (sg 12).toInt = ((bsN D n).length : Int) ∧ (∀ b y : Nat, (bsN D n)[b]? = some y → lg 4 b = nv7 (dAt D y) 26980 ∧ lg 5 b = nv7 (dAt D y) 123563833388660 ∧ (gm 27 y).toInt = (b : Int)) ∧ (∀ y, y < n → ¬ dKd D y = 3 → (gm 27 y).toInt = -1) ∧ ∀ y, y < n → lg 1 y = nmD D y
theorem BC_0 {D : List El7} {sg : Nat → Int32} {gm : Nat → Nat → Int32} {lg : Nat → Nat → Int64} (h : (sg 12).toInt = 0) : BC7 D sg gm lg 0 := ⟨h, fun b y q => (by cases q), fun y hy => absurd hy (Nat.not_lt_zero y), fun y hy => absurd hy (Nat.not_lt_zero y)⟩
theorem BC_s {D : List El7} {sg sg2 : Nat → Int32} {gm gm2 : Nat → Nat → Int32} {lg lg2 : Nat → Nat → Int64} {o : Int32} (h12 : iv 0 79 (sg 12)) (ho : iv 0 79 o) (h : BC7 D sg gm lg o.toNatClampNeg) (hu : gm 27 o.toNatClampNeg = -1) (hN : NMS D lg lg2 o.toNatClampNeg) (hB : BNS D sg sg2 gm gm2 lg lg2 o) : BC7 D sg2 gm2 lg2 (o.toNatClampNeg + 1) := by
  have k1 := iv_cl h12 (by decide)
  have k2 := iv_cl ho (by decide)
  obtain ⟨a1, a2, a3, a4⟩ := h
  have hn1 : ∀ y, y < o.toNatClampNeg + 1 → lg2 1 y = nmD D y := fun y hy => by
    by_cases q : y = o.toNatClampNeg
    · rw [q]; exact hN.2
    · rw [hN.1 y q]; exact a4 y (by omega)
  rcases hB with ⟨b0, b1, b2, b3, b4, b5⟩ | ⟨b0, b1, b2, b3, b4, b5⟩
  · unfold BC7
    rw [bsN_f b0, b1, b2, b3, b4]
    refine ⟨a1, a2, fun y hy hk => ?_, hn1⟩
    by_cases q : y = o.toNatClampNeg
    · rw [q, hu]; decide
    · exact a3 y (by omega) hk
  · have hm : ∀ b y : Nat, (bsN D o.toNatClampNeg)[b]? = some y → b < (bsN D o.toNatClampNeg).length ∧ y < o.toNatClampNeg := fun b y q => ⟨(List.getElem?_eq_some_iff.mp q).1, ((bsN_m _ _).mp (List.mem_of_getElem? q)).1⟩
    refine ⟨by rw [b1, a1, bsN_t b0, List.length_append]; rfl, fun b y q => ?_, fun y hy hk => ?_, hn1⟩
    · rw [bsN_t b0] at q
      rcases Nat.lt_or_ge b (bsN D o.toNatClampNeg).length with w | w
      · rw [List.getElem?_append_left w] at q
        have hy := (hm b y q).2
        rw [b2, b3, b4, vp_uLn (by omega), vp_uLn (by omega), upd_ne (by omega)]
        exact a2 b y q
      · rw [List.getElem?_append_right w] at q
        have hb0 : b - (bsN D o.toNatClampNeg).length = 0 := by
          rcases Nat.eq_zero_or_pos (b - (bsN D o.toNatClampNeg).length) with z | z
          · exact z
          · rw [List.getElem?_eq_none (by show 1 ≤ _; omega)] at q; cases q
        rw [hb0] at q
        have q : some o.toNatClampNeg = some y := q
        have qy : o.toNatClampNeg = y := Option.some.inj q
        subst qy
        have hbe : b = (sg 12).toNatClampNeg := by omega
        rw [b2, b3, b4, hbe, vp_uL, vp_uL, upd_at]
        exact ⟨rfl, rfl, by omega⟩
    · by_cases q : y = o.toNatClampNeg
      · rw [q] at hk; exact absurd b0 hk
      · rw [b4, upd_ne q]; exact a3 y (by omega) hk
theorem BC_id {D : List El7} {sg : Nat → Int32} {gm : Nat → Nat → Int32} {lg : Nat → Nat → Int64} (h : BC7 D sg gm lg D.length) {b : Nat} (hb : b < nbD D) : lg 4 b = nv7 (dAt D (elD D b)) 26980 ∧ lg 5 b = nv7 (dAt D (elD D b)) 123563833388660 := by
  unfold nbD at hb
  have e : elD D b = (bsN D D.length)[b] := by unfold elD; rw [List.getElem?_eq_getElem hb]; rfl
  have q := h.2.1 b _ (List.getElem?_eq_getElem hb)
  rw [e]; exact ⟨q.1, q.2.1⟩
theorem cWid_e {D : List El7} {sg : Nat → Int32} {gm : Nat → Nat → Int32} {lg : Nat → Nat → Int64} (h : BC7 D sg gm lg D.length) (w : Int64) : cWid sg lg w = widC D w := by
  have e2 : (sg 12).toNatClampNeg = nbD D := by have := h.1; show (sg 12).toInt.toNat = (bsN D D.length).length; omega
  unfold cWid widC
  rw [e2]
  split
  · rfl
  · exact fst_c _ _ (fun k _ hk => by unfold qCr qC; rw [(BC_id h (show k < nbD D by omega)).1])
theorem cPar_e {D : List El7} {sg : Nat → Int32} {gm : Nat → Nat → Int32} {lg : Nat → Nat → Int64} (h : BC7 D sg gm lg D.length) {b : Int32} (hb : b.toNatClampNeg < nbD D) : cPar sg lg b = parC D b := by
  unfold cPar parC
  rw [cWid_e h, (BC_id h hb).2]
theorem cNR_e {D : List El7} {sg : Nat → Int32} {gm : Nat → Nat → Int32} {lg : Nat → Nat → Int64} (h : BC7 D sg gm lg D.length) (h80 : D.length ≤ 80) {b : Int32} (h0 : 0 ≤ b.toInt) (hb : b.toNatClampNeg < nbD D) : NR (cPar sg lg) b ↔ NR (parC D) b := by
  have hI : ∀ n (b : Int32), 0 ≤ b.toInt ∧ b.toNatClampNeg < nbD D → itF (cPar sg lg) n b = itF (parC D) n b := itF_c (fun b hb => cPar_e h hb.2) (fun b _ => par_r h80 b)
  unfold NR
  constructor
  · intro q k k1 k2 e; exact q k k1 k2 (by rw [hI k b ⟨h0, hb⟩]; exact e)
  · intro q k k1 k2 e; exact q k k1 k2 (by rw [← hI k b ⟨h0, hb⟩]; exact e)
/-- what the class asks of an element's wiring, by the list -/
theorem IRW_e {D : List El7} {sg : Nat → Int32} {gm : Nat → Nat → Int32} {lg : Nat → Nat → Int64} (h : BC7 D sg gm lg D.length) (h80 : D.length ≤ 80) {i : Nat} (hi : i < D.length) : IRW sg gm lg i ↔ BC1 D i := by
  obtain ⟨a1, a2, a3, a4⟩ := h
  unfold IRW BC1
  refine and_congr ?_ ?_
  · rw [a4 i hi]
    constructor
    · intro q hz k hk; rw [← a4 k (by omega)]; exact q hz k hk
    · intro q hz k hk; rw [a4 k (by omega)]; exact q hz k hk
  · by_cases hk : dKd D i = 3
    · have e := (a2 _ _ (bsN_i hi hk)).2.2
      have hl := bsN_l (D := D) i
      have hb := elD_i hi hk
      have e1 : gm 27 i = nI (bsN D i).length := Int32.toInt_inj.mp (by rw [e, nI_toInt (by omega)])
      have e2 : (nI (bsN D i).length).toNatClampNeg = (bsN D i).length := by
        have h4 : (nI (bsN D i).length).toInt = (bsN D i).length := nI_toInt (by omega)
        show (nI (bsN D i).length).toInt.toNat = _; omega
      have e3 : lg 5 (nI (bsN D i).length).toNatClampNeg = nv7 (dAt D i) 123563833388660 := by
        rw [e2]; have := (BC_id (D := D) ⟨a1, a2, a3, a4⟩ hb.2).2; rw [hb.1] at this; exact this
      have e4 := cPar_e (D := D) ⟨a1, a2, a3, a4⟩ (b := nI (bsN D i).length) (by rw [e2]; exact hb.2)
      unfold RPW
      rw [e1, e3, e4]
      have key : ¬ parC D (nI (bsN D i).length) = -1 → (NR (cPar sg lg) (parC D (nI (bsN D i).length)) ↔ NR (parC D) (parC D (nI (bsN D i).length))) := fun hn => by
        have := (par_r h80 (nI (bsN D i).length)).resolve_left hn
        exact cNR_e (D := D) ⟨a1, a2, a3, a4⟩ h80 this.1 this.2
      constructor
      · intro q _ hz
        rcases q with q | q | q
        · rw [e1] at e; omega
        · exact absurd q hz
        · exact ⟨q.1, (key q.1).mp q.2⟩
      · intro q
        by_cases hz : nv7 (dAt D i) 123563833388660 = 0
        · exact Or.inr (Or.inl hz)
        · have w := q hk hz
          exact Or.inr (Or.inr ⟨w.1, (key w.1).mpr w.2⟩)
    · exact ⟨fun _ q => absurd q hk, fun _ => Or.inl (by rw [a3 i hi hk]; decide)⟩
end
section
theorem RDC_n1 {D : List El7} {sg : Nat → Int32} {gm : Nat → Nat → Int32} {lg : Nat → Nat → Int64} (h : RDC D sg gm lg) {j : Nat} (hj : j < D.length) : lg 1 j = 0 := (h.2.2 j _ (dEl_g hj)).2.2.2.2.2.2.2.1
def ACQ (ch : Nat → Int) (n : Nat) : Prop := sDoc ch n = some (dD ch n) ∧ ACC (dD ch n)
theorem ACQ_n {ch : Nat → Int} {n : Nat} (h : sDoc ch n = none) : ¬ ACQ ch n := fun q => by have q1 := q.1; rw [h] at q1; cases q1
end
