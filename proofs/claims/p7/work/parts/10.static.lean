def zCls (c : Int32) : Int32 := if c < 0 then 0 else if 8 ≤ c then 0 else 1
def zLet (c : Int32) : Int32 := if c < 0 then 0 else if 26 ≤ c then 0 else 1
def zTyp (t : Int32) : Int32 := if t < 0 then (if t < 8 then 0 else if 16 ≤ t then 0 else 1) else if t ≤ 4 then 1 else if t < 8 then 0 else if 16 ≤ t then 0 else 1
def zTys3 (n c : Int32) : Int32 := if n < 3 then 1 else if zTyp c = 0 then 0 else 1
def zTys2 (n b c : Int32) : Int32 := if n < 2 then zTys3 n c else if zTyp b = 0 then 0 else zTys3 n c
def zTys (n a b c : Int32) : Int32 := if n < 0 then 0 else if 3 < n then 0 else if n < 1 then zTys2 n b c else if zTyp a = 0 then 0 else zTys2 n b c
theorem lt5_4 (t : Int32) : t < 5 ↔ t ≤ 4 := by
  rw [Int32.lt_iff_toInt_lt, Int32.le_iff_toInt_le]
  show t.toInt < 5 ↔ t.toInt ≤ 4
  omega
theorem ge4_3 (t : Int32) : 4 ≤ t ↔ 3 < t := by
  rw [Int32.lt_iff_toInt_lt, Int32.le_iff_toInt_le]
  show (4 : Int) ≤ t.toInt ↔ (3 : Int) < t.toInt
  omega
theorem tsw_4 (x : Int32) : x = 0 ∨ x = 1 ∨ x = 2 ∨ x = 3 ∨ (x.toInt < 0 ∨ 3 < x.toInt) := by
  by_cases h0 : x.toInt < 0
  · exact Or.inr (Or.inr (Or.inr (Or.inr (Or.inl h0))))
  by_cases h3 : 3 < x.toInt
  · exact Or.inr (Or.inr (Or.inr (Or.inr (Or.inr h3))))
  rcases (show x.toInt = 0 ∨ x.toInt = 1 ∨ x.toInt = 2 ∨ x.toInt = 3 by omega) with h | h | h | h
  · exact Or.inl (Int32.toInt_inj.mp h)
  · exact Or.inr (Or.inl (Int32.toInt_inj.mp h))
  · exact Or.inr (Or.inr (Or.inl (Int32.toInt_inj.mp h)))
  · exact Or.inr (Or.inr (Or.inr (Or.inl (Int32.toInt_inj.mp h))))

theorem zCls_iv (x : Int32) : iv 0 1 (zCls x) := by unfold zCls; (repeat' split) <;> exact iv_k (by decide)
theorem zLet_iv (x : Int32) : iv 0 1 (zLet x) := by unfold zLet; (repeat' split) <;> exact iv_k (by decide)
theorem zTyp_iv (x : Int32) : iv 0 1 (zTyp x) := by unfold zTyp; (repeat' split) <;> exact iv_k (by decide)
theorem zTys_iv (a b c d : Int32) : iv 0 1 (zTys a b c d) := by unfold zTys zTys2 zTys3; (repeat' split) <;> exact iv_k (by decide)

theorem zCls_t {x : Int32} (h : ¬ zCls x = 0) : iv 0 7 x := by
  unfold zCls at h
  split at h
  · exact absurd rfl h
  · rename_i h1
    split at h
    · exact absurd rfl h
    · rename_i h2
      exact iv_ltL (i32_lt h2) (iv_leR (lo := 0) (i32_ge h1) (iv_k (by decide) : iv 0 0 0) (iv_all x) (by decide)) (iv_k (by decide) : iv 8 8 8) (by decide)
theorem zLet_t {x : Int32} (h : ¬ zLet x = 0) : iv 0 25 x := by
  unfold zLet at h
  split at h
  · exact absurd rfl h
  · rename_i h1
    split at h
    · exact absurd rfl h
    · rename_i h2
      exact iv_ltL (i32_lt h2) (iv_leR (lo := 0) (i32_ge h1) (iv_k (by decide) : iv 0 0 0) (iv_all x) (by decide)) (iv_k (by decide) : iv 26 26 26) (by decide)
theorem zTyp_t {x : Int32} (h : ¬ zTyp x = 0) : iv 0 15 x := by
  unfold zTyp at h
  by_cases h1 : x < 0
  · rw [if_pos h1, if_pos (Int32.lt_of_lt_of_le h1 (by decide))] at h
    exact absurd rfl h
  · have k1 := iv_leR (lo := 0) (i32_ge h1) (iv_k (by decide) : iv 0 0 0) (iv_all x) (by decide)
    rw [if_neg h1] at h
    split at h
    · rename_i h2
      exact iv_w (iv_leL (hi := 4) h2 k1 (iv_k (by decide) : iv 4 4 4) (by decide)) (by decide)
    · split at h
      · exact absurd rfl h
      · split at h
        · exact absurd rfl h
        · rename_i h4
          exact iv_ltL (i32_lt h4) k1 (iv_k (by decide) : iv 16 16 16) (by decide)
theorem zTys_t {n a b c : Int32} (h : ¬ zTys n a b c = 0) : iv 0 3 n := by
  unfold zTys at h
  split at h
  · exact absurd rfl h
  · rename_i h1
    split at h
    · exact absurd rfl h
    · rename_i h2
      exact iv_leL (i32_ge h2) (iv_leR (lo := 0) (i32_ge h1) (iv_k (by decide) : iv 0 0 0) (iv_all n) (by decide)) (iv_k (by decide) : iv 3 3 3) (by decide)

set_option maxHeartbeats 4000000 in
set_option maxRecDepth 100000 in
theorem c_X13_isClass (l : Launch) (dC : Nat → ClassId) (dI : Nat → Nat → Nat) (sz : Nat) (p0 : Int32) : Met l yX13_isClass wm_X13_isClass ({ frames := 0, cells := 0, slots := 0, locals := 0 }) (va_Pc [.int p0] (fun U => U.heap.size = sz ∧ va_P (dC, dI) vwCl [] U.heap ∧ va_K (dC, dI) vwCl [] U ∧ va_D (fun _ => True) [])) (va_Qi (fun (r : Int32) (_ : Unit) => r = zCls p0) (fun _ t => va_P (dC, dI) vwCl [] t.heap ∧ va_K (dC, dI) vwCl [] t ∧ va_D (va_A [] sz) []) (va_A [] sz)) 0 0 (va_A [] sz) := by
  refine Met.ofW (cc := cX13_isClass) (maxL := 1) (ret := (some .boolean)) (by decide) rfl ?_
  intro p e s m args below meth c s₁ B hml hv
  obtain ⟨rfl, hsz, hP, hK, hD0⟩ := hv
  have hx := B.exec
  have hb := B.bytes
  have hr := B.returns
  have hts := atoms_spec (ws := wm_X13_isClass) B.pre
  have htb := fun (w : Cond) (h : w ∈ tb) => hts w (List.mem_cons_of_mem _ h)
  have hown : s.vm.findClass RX13 = some m.cls := findClass_of_methodNamed B.named
  have hlocks := B.notSynchronized
  subst hsz
  have hD := hD0.self (sz := s.heap.size)
  generalize hAe : va_A [] s.heap.size = A at hD ⊢
  have hA : ∀ q : Nat, s.heap.size ≤ q → A q := fun q h => by rw [← hAe]; exact Or.inr h
  have hS : va_S A s.heap s.heap [] := va_S.rf
  have hP : va_P (dC, dI) vwCl [] s.heap := hP
  have hl := lv_entry ([.int p0]) (n := 1) (Nat.le_of_ble_eq_true rfl)
  rw [lg_entry_eq]
  generalize (lg_sl ([.int p0]) ++ List.replicate (1 - (lg_sl ([.int p0])).length) Slot.unset).toArray = ls at hl ⊢
  have hl : lv_has ls 1 [(0, .int p0)] := hl
  refine lv_iload_n hx hb dX13_isClass_0 rfl (lv_at hl 0 rfl) ?_
  refine lv_if_lt (tgt := 14) hx hb dX13_isClass_1 (by decide) (fun c_1 => ?_) (fun c_1 => ?_)
  · refine lv_iconst (v := 0) hx hb dX13_isClass_14 (by decide) ?_
    have hP9 := hP.sub (ws' := []) [] rfl
    have hD9 := hD.sub (ws' := []) [] (by decide) rfl
    have hK9 := hK.sub (tys' := []) [] rfl
    refine W.widen (k := 0) (n := 0) (Nat.le_of_ble_eq_true rfl) (Nat.le_of_ble_eq_true rfl) ?_
    exact W.zret (v := 0) hx hb hr rfl (fun t ht hW => ⟨⟨0, (), rfl, (by simp [zCls, c_1]), by rw [ht]; exact hP9, va_K.moved hW.alike hK9, hD9⟩, hS.F ht⟩) hS.2.2 dX13_isClass_15
  · refine lv_iload_n hx hb dX13_isClass_4 rfl (lv_at hl 0 rfl) ?_
    refine lv_bipush (v := 8) hx hb dX13_isClass_5 (by decide) ?_
    refine lv_icmp_ge (tgt := 14) hx hb dX13_isClass_7 (by decide) (fun c_2 => ?_) (fun c_2 => ?_)
    · refine lv_iconst (v := 0) hx hb dX13_isClass_14 (by decide) ?_
      have hP9 := hP.sub (ws' := []) [] rfl
      have hD9 := hD.sub (ws' := []) [] (by decide) rfl
      have hK9 := hK.sub (tys' := []) [] rfl
      refine W.widen (k := 0) (n := 0) (Nat.le_of_ble_eq_true rfl) (Nat.le_of_ble_eq_true rfl) ?_
      exact W.zret (v := 0) hx hb hr rfl (fun t ht hW => ⟨⟨0, (), rfl, (by simp [zCls, c_1, c_2]), by rw [ht]; exact hP9, va_K.moved hW.alike hK9, hD9⟩, hS.F ht⟩) hS.2.2 dX13_isClass_15
    · refine lv_iconst (v := 1) hx hb dX13_isClass_10 (by decide) ?_
      refine lv_goto (tgt := 15) hx hb dX13_isClass_11 (by decide) ?_
      have hP9 := hP.sub (ws' := []) [] rfl
      have hD9 := hD.sub (ws' := []) [] (by decide) rfl
      have hK9 := hK.sub (tys' := []) [] rfl
      refine W.widen (k := 0) (n := 0) (Nat.le_of_ble_eq_true rfl) (Nat.le_of_ble_eq_true rfl) ?_
      exact W.zret (v := 1) hx hb hr rfl (fun t ht hW => ⟨⟨1, (), rfl, (by simp [zCls, c_1, c_2]), by rw [ht]; exact hP9, va_K.moved hW.alike hK9, hD9⟩, hS.F ht⟩) hS.2.2 dX13_isClass_15

set_option maxHeartbeats 4000000 in
set_option maxRecDepth 100000 in
theorem c_X13_isLetter (l : Launch) (dC : Nat → ClassId) (dI : Nat → Nat → Nat) (sz : Nat) (p0 : Int32) : Met l yX13_isLetter wm_X13_isLetter ({ frames := 0, cells := 0, slots := 0, locals := 0 }) (va_Pc [.int p0] (fun U => U.heap.size = sz ∧ va_P (dC, dI) vwCl [] U.heap ∧ va_K (dC, dI) vwCl [] U ∧ va_D (fun _ => True) [])) (va_Qi (fun (r : Int32) (_ : Unit) => r = zLet p0) (fun _ t => va_P (dC, dI) vwCl [] t.heap ∧ va_K (dC, dI) vwCl [] t ∧ va_D (va_A [] sz) []) (va_A [] sz)) 0 0 (va_A [] sz) := by
  refine Met.ofW (cc := cX13_isLetter) (maxL := 1) (ret := (some .boolean)) (by decide) rfl ?_
  intro p e s m args below meth c s₁ B hml hv
  obtain ⟨rfl, hsz, hP, hK, hD0⟩ := hv
  have hx := B.exec
  have hb := B.bytes
  have hr := B.returns
  have hts := atoms_spec (ws := wm_X13_isLetter) B.pre
  have htb := fun (w : Cond) (h : w ∈ tb) => hts w (List.mem_cons_of_mem _ h)
  have hown : s.vm.findClass RX13 = some m.cls := findClass_of_methodNamed B.named
  have hlocks := B.notSynchronized
  subst hsz
  have hD := hD0.self (sz := s.heap.size)
  generalize hAe : va_A [] s.heap.size = A at hD ⊢
  have hA : ∀ q : Nat, s.heap.size ≤ q → A q := fun q h => by rw [← hAe]; exact Or.inr h
  have hS : va_S A s.heap s.heap [] := va_S.rf
  have hP : va_P (dC, dI) vwCl [] s.heap := hP
  have hl := lv_entry ([.int p0]) (n := 1) (Nat.le_of_ble_eq_true rfl)
  rw [lg_entry_eq]
  generalize (lg_sl ([.int p0]) ++ List.replicate (1 - (lg_sl ([.int p0])).length) Slot.unset).toArray = ls at hl ⊢
  have hl : lv_has ls 1 [(0, .int p0)] := hl
  refine lv_iload_n hx hb dX13_isLetter_0 rfl (lv_at hl 0 rfl) ?_
  refine lv_if_lt (tgt := 14) hx hb dX13_isLetter_1 (by decide) (fun c_1 => ?_) (fun c_1 => ?_)
  · refine lv_iconst (v := 0) hx hb dX13_isLetter_14 (by decide) ?_
    have hP9 := hP.sub (ws' := []) [] rfl
    have hD9 := hD.sub (ws' := []) [] (by decide) rfl
    have hK9 := hK.sub (tys' := []) [] rfl
    refine W.widen (k := 0) (n := 0) (Nat.le_of_ble_eq_true rfl) (Nat.le_of_ble_eq_true rfl) ?_
    exact W.zret (v := 0) hx hb hr rfl (fun t ht hW => ⟨⟨0, (), rfl, (by simp [zLet, c_1]), by rw [ht]; exact hP9, va_K.moved hW.alike hK9, hD9⟩, hS.F ht⟩) hS.2.2 dX13_isLetter_15
  · refine lv_iload_n hx hb dX13_isLetter_4 rfl (lv_at hl 0 rfl) ?_
    refine lv_bipush (v := 26) hx hb dX13_isLetter_5 (by decide) ?_
    refine lv_icmp_ge (tgt := 14) hx hb dX13_isLetter_7 (by decide) (fun c_2 => ?_) (fun c_2 => ?_)
    · refine lv_iconst (v := 0) hx hb dX13_isLetter_14 (by decide) ?_
      have hP9 := hP.sub (ws' := []) [] rfl
      have hD9 := hD.sub (ws' := []) [] (by decide) rfl
      have hK9 := hK.sub (tys' := []) [] rfl
      refine W.widen (k := 0) (n := 0) (Nat.le_of_ble_eq_true rfl) (Nat.le_of_ble_eq_true rfl) ?_
      exact W.zret (v := 0) hx hb hr rfl (fun t ht hW => ⟨⟨0, (), rfl, (by simp [zLet, c_1, c_2]), by rw [ht]; exact hP9, va_K.moved hW.alike hK9, hD9⟩, hS.F ht⟩) hS.2.2 dX13_isLetter_15
    · refine lv_iconst (v := 1) hx hb dX13_isLetter_10 (by decide) ?_
      refine lv_goto (tgt := 15) hx hb dX13_isLetter_11 (by decide) ?_
      have hP9 := hP.sub (ws' := []) [] rfl
      have hD9 := hD.sub (ws' := []) [] (by decide) rfl
      have hK9 := hK.sub (tys' := []) [] rfl
      refine W.widen (k := 0) (n := 0) (Nat.le_of_ble_eq_true rfl) (Nat.le_of_ble_eq_true rfl) ?_
      exact W.zret (v := 1) hx hb hr rfl (fun t ht hW => ⟨⟨1, (), rfl, (by simp [zLet, c_1, c_2]), by rw [ht]; exact hP9, va_K.moved hW.alike hK9, hD9⟩, hS.F ht⟩) hS.2.2 dX13_isLetter_15

set_option maxHeartbeats 4000000 in
set_option maxRecDepth 100000 in
theorem c_X13_isType (l : Launch) (dC : Nat → ClassId) (dI : Nat → Nat → Nat) (sz : Nat) (p0 : Int32) : Met l yX13_isType wm_X13_isType ({ frames := 0, cells := 0, slots := 0, locals := 0 }) (va_Pc [.int p0] (fun U => U.heap.size = sz ∧ va_P (dC, dI) vwCl [] U.heap ∧ va_K (dC, dI) vwCl [] U ∧ va_D (fun _ => True) [])) (va_Qi (fun (r : Int32) (_ : Unit) => r = zTyp p0) (fun _ t => va_P (dC, dI) vwCl [] t.heap ∧ va_K (dC, dI) vwCl [] t ∧ va_D (va_A [] sz) []) (va_A [] sz)) 0 0 (va_A [] sz) := by
  refine Met.ofW (cc := cX13_isType) (maxL := 1) (ret := (some .boolean)) (by decide) rfl ?_
  intro p e s m args below meth c s₁ B hml hv
  obtain ⟨rfl, hsz, hP, hK, hD0⟩ := hv
  have hx := B.exec
  have hb := B.bytes
  have hr := B.returns
  have hts := atoms_spec (ws := wm_X13_isType) B.pre
  have htb := fun (w : Cond) (h : w ∈ tb) => hts w (List.mem_cons_of_mem _ h)
  have hown : s.vm.findClass RX13 = some m.cls := findClass_of_methodNamed B.named
  have hlocks := B.notSynchronized
  subst hsz
  have hD := hD0.self (sz := s.heap.size)
  generalize hAe : va_A [] s.heap.size = A at hD ⊢
  have hA : ∀ q : Nat, s.heap.size ≤ q → A q := fun q h => by rw [← hAe]; exact Or.inr h
  have hS : va_S A s.heap s.heap [] := va_S.rf
  have hP : va_P (dC, dI) vwCl [] s.heap := hP
  have hl := lv_entry ([.int p0]) (n := 1) (Nat.le_of_ble_eq_true rfl)
  rw [lg_entry_eq]
  generalize (lg_sl ([.int p0]) ++ List.replicate (1 - (lg_sl ([.int p0])).length) Slot.unset).toArray = ls at hl ⊢
  have hl : lv_has ls 1 [(0, .int p0)] := hl
  refine lv_iload_n hx hb dX13_isType_0 rfl (lv_at hl 0 rfl) ?_
  refine lv_if_lt (tgt := 9) hx hb dX13_isType_1 (by decide) (fun c_1 => ?_) (fun c_1 => ?_)
  · refine lv_iload_n hx hb dX13_isType_9 rfl (lv_at hl 0 rfl) ?_
    refine lv_bipush (v := 8) hx hb dX13_isType_10 (by decide) ?_
    refine lv_icmp_lt (tgt := 25) hx hb dX13_isType_12 (by decide) (fun c_2 => ?_) (fun c_2 => ?_)
    · refine lv_iconst (v := 0) hx hb dX13_isType_25 (by decide) ?_
      have hP9 := hP.sub (ws' := []) [] rfl
      have hD9 := hD.sub (ws' := []) [] (by decide) rfl
      have hK9 := hK.sub (tys' := []) [] rfl
      refine W.widen (k := 0) (n := 0) (Nat.le_of_ble_eq_true rfl) (Nat.le_of_ble_eq_true rfl) ?_
      exact W.zret (v := 0) hx hb hr rfl (fun t ht hW => ⟨⟨0, (), rfl, (by simp [zTyp, c_1, c_2]), by rw [ht]; exact hP9, va_K.moved hW.alike hK9, hD9⟩, hS.F ht⟩) hS.2.2 dX13_isType_26
    · refine lv_iload_n hx hb dX13_isType_15 rfl (lv_at hl 0 rfl) ?_
      refine lv_bipush (v := 16) hx hb dX13_isType_16 (by decide) ?_
      refine lv_icmp_ge (tgt := 25) hx hb dX13_isType_18 (by decide) (fun c_3 => ?_) (fun c_3 => ?_)
      · refine lv_iconst (v := 0) hx hb dX13_isType_25 (by decide) ?_
        have hP9 := hP.sub (ws' := []) [] rfl
        have hD9 := hD.sub (ws' := []) [] (by decide) rfl
        have hK9 := hK.sub (tys' := []) [] rfl
        refine W.widen (k := 0) (n := 0) (Nat.le_of_ble_eq_true rfl) (Nat.le_of_ble_eq_true rfl) ?_
        exact W.zret (v := 0) hx hb hr rfl (fun t ht hW => ⟨⟨0, (), rfl, (by simp [zTyp, c_1, c_2, c_3]), by rw [ht]; exact hP9, va_K.moved hW.alike hK9, hD9⟩, hS.F ht⟩) hS.2.2 dX13_isType_26
      · refine lv_iconst (v := 1) hx hb dX13_isType_21 (by decide) ?_
        refine lv_goto (tgt := 26) hx hb dX13_isType_22 (by decide) ?_
        have hP9 := hP.sub (ws' := []) [] rfl
        have hD9 := hD.sub (ws' := []) [] (by decide) rfl
        have hK9 := hK.sub (tys' := []) [] rfl
        refine W.widen (k := 0) (n := 0) (Nat.le_of_ble_eq_true rfl) (Nat.le_of_ble_eq_true rfl) ?_
        exact W.zret (v := 1) hx hb hr rfl (fun t ht hW => ⟨⟨1, (), rfl, (by simp [zTyp, c_1, c_2, c_3]), by rw [ht]; exact hP9, va_K.moved hW.alike hK9, hD9⟩, hS.F ht⟩) hS.2.2 dX13_isType_26
  · refine lv_iload_n hx hb dX13_isType_4 rfl (lv_at hl 0 rfl) ?_
    refine lv_iconst (v := 5) hx hb dX13_isType_5 (by decide) ?_
    refine lv_icmp_lt (tgt := 21) hx hb dX13_isType_6 (by decide) (fun c_4 => ?_) (fun c_4 => ?_)
    · refine lv_iconst (v := 1) hx hb dX13_isType_21 (by decide) ?_
      refine lv_goto (tgt := 26) hx hb dX13_isType_22 (by decide) ?_
      have hP9 := hP.sub (ws' := []) [] rfl
      have hD9 := hD.sub (ws' := []) [] (by decide) rfl
      have hK9 := hK.sub (tys' := []) [] rfl
      refine W.widen (k := 0) (n := 0) (Nat.le_of_ble_eq_true rfl) (Nat.le_of_ble_eq_true rfl) ?_
      exact W.zret (v := 1) hx hb hr rfl (fun t ht hW => ⟨⟨1, (), rfl, (by rw [lt5_4] at c_4; simp [zTyp, c_1, c_4]), by rw [ht]; exact hP9, va_K.moved hW.alike hK9, hD9⟩, hS.F ht⟩) hS.2.2 dX13_isType_26
    · refine lv_iload_n hx hb dX13_isType_9 rfl (lv_at hl 0 rfl) ?_
      refine lv_bipush (v := 8) hx hb dX13_isType_10 (by decide) ?_
      refine lv_icmp_lt (tgt := 25) hx hb dX13_isType_12 (by decide) (fun c_5 => ?_) (fun c_5 => ?_)
      · refine lv_iconst (v := 0) hx hb dX13_isType_25 (by decide) ?_
        have hP9 := hP.sub (ws' := []) [] rfl
        have hD9 := hD.sub (ws' := []) [] (by decide) rfl
        have hK9 := hK.sub (tys' := []) [] rfl
        refine W.widen (k := 0) (n := 0) (Nat.le_of_ble_eq_true rfl) (Nat.le_of_ble_eq_true rfl) ?_
        exact W.zret (v := 0) hx hb hr rfl (fun t ht hW => ⟨⟨0, (), rfl, (by rw [lt5_4] at c_4; simp [zTyp, c_1, c_4, c_5]), by rw [ht]; exact hP9, va_K.moved hW.alike hK9, hD9⟩, hS.F ht⟩) hS.2.2 dX13_isType_26
      · refine lv_iload_n hx hb dX13_isType_15 rfl (lv_at hl 0 rfl) ?_
        refine lv_bipush (v := 16) hx hb dX13_isType_16 (by decide) ?_
        refine lv_icmp_ge (tgt := 25) hx hb dX13_isType_18 (by decide) (fun c_6 => ?_) (fun c_6 => ?_)
        · refine lv_iconst (v := 0) hx hb dX13_isType_25 (by decide) ?_
          have hP9 := hP.sub (ws' := []) [] rfl
          have hD9 := hD.sub (ws' := []) [] (by decide) rfl
          have hK9 := hK.sub (tys' := []) [] rfl
          refine W.widen (k := 0) (n := 0) (Nat.le_of_ble_eq_true rfl) (Nat.le_of_ble_eq_true rfl) ?_
          exact W.zret (v := 0) hx hb hr rfl (fun t ht hW => ⟨⟨0, (), rfl, (by rw [lt5_4] at c_4; simp [zTyp, c_1, c_4, c_5, c_6]), by rw [ht]; exact hP9, va_K.moved hW.alike hK9, hD9⟩, hS.F ht⟩) hS.2.2 dX13_isType_26
        · refine lv_iconst (v := 1) hx hb dX13_isType_21 (by decide) ?_
          refine lv_goto (tgt := 26) hx hb dX13_isType_22 (by decide) ?_
          have hP9 := hP.sub (ws' := []) [] rfl
          have hD9 := hD.sub (ws' := []) [] (by decide) rfl
          have hK9 := hK.sub (tys' := []) [] rfl
          refine W.widen (k := 0) (n := 0) (Nat.le_of_ble_eq_true rfl) (Nat.le_of_ble_eq_true rfl) ?_
          exact W.zret (v := 1) hx hb hr rfl (fun t ht hW => ⟨⟨1, (), rfl, (by rw [lt5_4] at c_4; simp [zTyp, c_1, c_4, c_5, c_6]), by rw [ht]; exact hP9, va_K.moved hW.alike hK9, hD9⟩, hS.F ht⟩) hS.2.2 dX13_isType_26

set_option maxHeartbeats 4000000 in
set_option maxRecDepth 100000 in
theorem c_X13_areTypes (l : Launch) (dC : Nat → ClassId) (dI : Nat → Nat → Nat) (sz : Nat) (p0 : Int32) (p1 : Int32) (p2 : Int32) (p3 : Int32) : Met l yX13_areTypes wm_X13_areTypes ({ frames := 1, cells := 0, slots := 0, locals := 20 }) (va_Pc [.int p0, .int p1, .int p2, .int p3] (fun U => U.heap.size = sz ∧ va_P (dC, dI) vwCl [] U.heap ∧ va_K (dC, dI) vwCl [] U ∧ va_D (fun _ => True) [])) (va_Qi (fun (r : Int32) (_ : Unit) => r = zTys p0 p1 p2 p3) (fun _ t => va_P (dC, dI) vwCl [] t.heap ∧ va_K (dC, dI) vwCl [] t ∧ va_D (va_A [] sz) []) (va_A [] sz)) 0 0 (va_A [] sz) := by
  refine Met.ofW (cc := cX13_areTypes) (maxL := 4) (ret := (some .boolean)) (by decide) rfl ?_
  intro p e s m args below meth c s₁ B hml hv
  obtain ⟨rfl, hsz, hP, hK, hD0⟩ := hv
  have hx := B.exec
  have hb := B.bytes
  have hr := B.returns
  have hts := atoms_spec (ws := wm_X13_areTypes) B.pre
  have htb := fun (w : Cond) (h : w ∈ tb) => hts w (List.mem_cons_of_mem _ h)
  have hown : s.vm.findClass RX13 = some m.cls := findClass_of_methodNamed B.named
  have hlocks := B.notSynchronized
  subst hsz
  have hD := hD0.self (sz := s.heap.size)
  generalize hAe : va_A [] s.heap.size = A at hD ⊢
  have hA : ∀ q : Nat, s.heap.size ≤ q → A q := fun q h => by rw [← hAe]; exact Or.inr h
  have hS : va_S A s.heap s.heap [] := va_S.rf
  have hP : va_P (dC, dI) vwCl [] s.heap := hP
  have hl := lv_entry ([.int p0, .int p1, .int p2, .int p3]) (n := 4) (Nat.le_of_ble_eq_true rfl)
  rw [lg_entry_eq]
  generalize (lg_sl ([.int p0, .int p1, .int p2, .int p3]) ++ List.replicate (4 - (lg_sl ([.int p0, .int p1, .int p2, .int p3])).length) Slot.unset).toArray = ls at hl ⊢
  have hl : lv_has ls 4 [(0, .int p0), (1, .int p1), (2, .int p2), (3, .int p3)] := hl
  refine lv_iload_n hx hb dX13_areTypes_0 rfl (lv_at hl 0 rfl) ?_
  refine lv_if_lt (tgt := 49) hx hb dX13_areTypes_1 (by decide) (fun c_1 => ?_) (fun c_1 => ?_)
  · refine lv_iconst (v := 0) hx hb dX13_areTypes_49 (by decide) ?_
    have hP9 := hP.sub (ws' := []) [] rfl
    have hD9 := hD.sub (ws' := []) [] (by decide) rfl
    have hK9 := hK.sub (tys' := []) [] rfl
    refine W.widen (k := 0) (n := 0) (Nat.le_of_ble_eq_true rfl) (Nat.le_of_ble_eq_true rfl) ?_
    exact W.zret (v := 0) hx hb hr rfl (fun t ht hW => ⟨⟨0, (), rfl, (by simp [zTys, zTys2, zTys3, c_1]), by rw [ht]; exact hP9, va_K.moved hW.alike hK9, hD9⟩, hS.F ht⟩) hS.2.2 dX13_areTypes_50
  · refine lv_iload_n hx hb dX13_areTypes_4 rfl (lv_at hl 0 rfl) ?_
    refine lv_iconst (v := 4) hx hb dX13_areTypes_5 (by decide) ?_
    refine lv_icmp_ge (tgt := 49) hx hb dX13_areTypes_6 (by decide) (fun c_2 => ?_) (fun c_2 => ?_)
    · refine lv_iconst (v := 0) hx hb dX13_areTypes_49 (by decide) ?_
      have hP9 := hP.sub (ws' := []) [] rfl
      have hD9 := hD.sub (ws' := []) [] (by decide) rfl
      have hK9 := hK.sub (tys' := []) [] rfl
      refine W.widen (k := 0) (n := 0) (Nat.le_of_ble_eq_true rfl) (Nat.le_of_ble_eq_true rfl) ?_
      exact W.zret (v := 0) hx hb hr rfl (fun t ht hW => ⟨⟨0, (), rfl, (by rw [ge4_3] at c_2; simp [zTys, zTys2, zTys3, c_1, c_2]), by rw [ht]; exact hP9, va_K.moved hW.alike hK9, hD9⟩, hS.F ht⟩) hS.2.2 dX13_areTypes_50
    · refine lv_iload_n hx hb dX13_areTypes_9 rfl (lv_at hl 0 rfl) ?_
      refine lv_iconst (v := 1) hx hb dX13_areTypes_10 (by decide) ?_
      refine lv_icmp_lt (tgt := 21) hx hb dX13_areTypes_11 (by decide) (fun c_3 => ?_) (fun c_3 => ?_)
      · refine lv_iload_n hx hb dX13_areTypes_21 rfl (lv_at hl 0 rfl) ?_
        refine lv_iconst (v := 2) hx hb dX13_areTypes_22 (by decide) ?_
        refine lv_icmp_lt (tgt := 33) hx hb dX13_areTypes_23 (by decide) (fun c_4 => ?_) (fun c_4 => ?_)
        · refine lv_iload_n hx hb dX13_areTypes_33 rfl (lv_at hl 0 rfl) ?_
          refine lv_iconst (v := 3) hx hb dX13_areTypes_34 (by decide) ?_
          refine lv_icmp_lt (tgt := 45) hx hb dX13_areTypes_35 (by decide) (fun c_5 => ?_) (fun c_5 => ?_)
          · refine lv_iconst (v := 1) hx hb dX13_areTypes_45 (by decide) ?_
            refine lv_goto (tgt := 50) hx hb dX13_areTypes_46 (by decide) ?_
            have hP9 := hP.sub (ws' := []) [] rfl
            have hD9 := hD.sub (ws' := []) [] (by decide) rfl
            have hK9 := hK.sub (tys' := []) [] rfl
            refine W.widen (k := 0) (n := 0) (Nat.le_of_ble_eq_true rfl) (Nat.le_of_ble_eq_true rfl) ?_
            exact W.zret (v := 1) hx hb hr rfl (fun t ht hW => ⟨⟨1, (), rfl, (by rw [ge4_3] at c_2; simp [zTys, zTys2, zTys3, c_1, c_2, c_3, c_4, c_5]), by rw [ht]; exact hP9, va_K.moved hW.alike hK9, hD9⟩, hS.F ht⟩) hS.2.2 dX13_areTypes_50
          · refine lv_iload_n hx hb dX13_areTypes_38 rfl (lv_at hl 3 rfl) ?_
            have hPc := hP.sub (ws' := []) [] rfl
            have hDc := hD.sub (ws' := []) [] (by decide) rfl
            have hKc := hK.sub (tys' := []) [] rfl
            have hFc := va_free (wc := []) hD hS hA [] rfl
            refine va_calli (va_runS (As := [.int p3]) (rest := []) ⟨hx, hb, hml, hown, htb⟩ (c_X13_isType l dC dI s.heap.size p3) (va_cwS 1 htb (gd_S kw_267 kw_268 kw_5 kw_1397) rfl rfl rfl (by decide +kernel) ⟨Nat.le_of_ble_eq_true rfl, Nat.le_of_ble_eq_true rfl⟩) ⟨fun a U g mk q => by obtain ⟨q0, q1, qP, qK, qD⟩ := q; exact ⟨q0, q1, qP, va_K.moved (u := U) (U := U.calling g mk a) (Vm.Alike.refl U.vm) qK, qD⟩, fun U hU hW => ⟨rfl, by rw [hU], by rw [hU]; exact hPc, va_K.moved hW.alike hKc, hDc.weaken (fun _ _ _ _ => trivial)⟩⟩ rfl rfl hl.1 rfl (lv_room (Nat.le_of_ble_eq_true rfl)) dX13_areTypes_39 ⟨(Nat.le_of_ble_eq_true rfl), (Nat.le_of_ble_eq_true rfl)⟩) hS (fun q _ h => hFc q h) hFc (fun r u t H1 locs ht hvm hw hB hz1 hk1 hS => ?_)
            subst hw
            obtain ⟨hP1, hK1, hD1⟩ := hB
            rw [ht] at hP1
            have hK1 := va_K.moved hvm.symm hK1
            obtain ⟨hP, hD⟩ := va_join (wr := []) (w1 := []) hP hD [] [] rfl rfl (by decide) (by decide) hk1 hFc hP1 hD1
            have hK := hK.app hK1
            generalize H1 = H at hP hS ⊢
            have hP : va_P (dC, dI) vwCl [] H := hP
            have hD : va_D A [] := hD
            have hK : va_K (dC, dI) vwCl [] s := hK
            refine W.widen (k := 0) (n := 0) (Nat.le_of_ble_eq_true rfl) (Nat.le_of_ble_eq_true rfl) ?_
            refine lv_if_eq (tgt := 49) hx hb dX13_areTypes_42 (by decide) (fun c_6 => ?_) (fun c_6 => ?_)
            · refine lv_iconst (v := 0) hx hb dX13_areTypes_49 (by decide) ?_
              have hP9 := hP.sub (ws' := []) [] rfl
              have hD9 := hD.sub (ws' := []) [] (by decide) rfl
              have hK9 := hK.sub (tys' := []) [] rfl
              refine W.widen (k := 0) (n := 0) (Nat.le_of_ble_eq_true rfl) (Nat.le_of_ble_eq_true rfl) ?_
              exact W.zret (v := 0) hx hb hr rfl (fun t ht hW => ⟨⟨0, (), rfl, (by rw [ge4_3] at c_2; simp [zTys, zTys2, zTys3, c_1, c_2, c_3, c_4, c_5, c_6]), by rw [ht]; exact hP9, va_K.moved hW.alike hK9, hD9⟩, hS.F ht⟩) hS.2.2 dX13_areTypes_50
            · refine lv_iconst (v := 1) hx hb dX13_areTypes_45 (by decide) ?_
              refine lv_goto (tgt := 50) hx hb dX13_areTypes_46 (by decide) ?_
              have hP9 := hP.sub (ws' := []) [] rfl
              have hD9 := hD.sub (ws' := []) [] (by decide) rfl
              have hK9 := hK.sub (tys' := []) [] rfl
              refine W.widen (k := 0) (n := 0) (Nat.le_of_ble_eq_true rfl) (Nat.le_of_ble_eq_true rfl) ?_
              exact W.zret (v := 1) hx hb hr rfl (fun t ht hW => ⟨⟨1, (), rfl, (by rw [ge4_3] at c_2; simp [zTys, zTys2, zTys3, c_1, c_2, c_3, c_4, c_5, c_6]), by rw [ht]; exact hP9, va_K.moved hW.alike hK9, hD9⟩, hS.F ht⟩) hS.2.2 dX13_areTypes_50
        · refine lv_iload_n hx hb dX13_areTypes_26 rfl (lv_at hl 2 rfl) ?_
          have hPc := hP.sub (ws' := []) [] rfl
          have hDc := hD.sub (ws' := []) [] (by decide) rfl
          have hKc := hK.sub (tys' := []) [] rfl
          have hFc := va_free (wc := []) hD hS hA [] rfl
          refine va_calli (va_runS (As := [.int p2]) (rest := []) ⟨hx, hb, hml, hown, htb⟩ (c_X13_isType l dC dI s.heap.size p2) (va_cwS 1 htb (gd_S kw_267 kw_268 kw_5 kw_1397) rfl rfl rfl (by decide +kernel) ⟨Nat.le_of_ble_eq_true rfl, Nat.le_of_ble_eq_true rfl⟩) ⟨fun a U g mk q => by obtain ⟨q0, q1, qP, qK, qD⟩ := q; exact ⟨q0, q1, qP, va_K.moved (u := U) (U := U.calling g mk a) (Vm.Alike.refl U.vm) qK, qD⟩, fun U hU hW => ⟨rfl, by rw [hU], by rw [hU]; exact hPc, va_K.moved hW.alike hKc, hDc.weaken (fun _ _ _ _ => trivial)⟩⟩ rfl rfl hl.1 rfl (lv_room (Nat.le_of_ble_eq_true rfl)) dX13_areTypes_27 ⟨(Nat.le_of_ble_eq_true rfl), (Nat.le_of_ble_eq_true rfl)⟩) hS (fun q _ h => hFc q h) hFc (fun r u t H1 locs ht hvm hw hB hz1 hk1 hS => ?_)
          subst hw
          obtain ⟨hP1, hK1, hD1⟩ := hB
          rw [ht] at hP1
          have hK1 := va_K.moved hvm.symm hK1
          obtain ⟨hP, hD⟩ := va_join (wr := []) (w1 := []) hP hD [] [] rfl rfl (by decide) (by decide) hk1 hFc hP1 hD1
          have hK := hK.app hK1
          generalize H1 = H at hP hS ⊢
          have hP : va_P (dC, dI) vwCl [] H := hP
          have hD : va_D A [] := hD
          have hK : va_K (dC, dI) vwCl [] s := hK
          refine W.widen (k := 0) (n := 0) (Nat.le_of_ble_eq_true rfl) (Nat.le_of_ble_eq_true rfl) ?_
          refine lv_if_eq (tgt := 49) hx hb dX13_areTypes_30 (by decide) (fun c_7 => ?_) (fun c_7 => ?_)
          · refine lv_iconst (v := 0) hx hb dX13_areTypes_49 (by decide) ?_
            have hP9 := hP.sub (ws' := []) [] rfl
            have hD9 := hD.sub (ws' := []) [] (by decide) rfl
            have hK9 := hK.sub (tys' := []) [] rfl
            refine W.widen (k := 0) (n := 0) (Nat.le_of_ble_eq_true rfl) (Nat.le_of_ble_eq_true rfl) ?_
            exact W.zret (v := 0) hx hb hr rfl (fun t ht hW => ⟨⟨0, (), rfl, (by rw [ge4_3] at c_2; simp [zTys, zTys2, zTys3, c_1, c_2, c_3, c_4, c_7]), by rw [ht]; exact hP9, va_K.moved hW.alike hK9, hD9⟩, hS.F ht⟩) hS.2.2 dX13_areTypes_50
          · refine lv_iload_n hx hb dX13_areTypes_33 rfl (lv_at hl 0 rfl) ?_
            refine lv_iconst (v := 3) hx hb dX13_areTypes_34 (by decide) ?_
            refine lv_icmp_lt (tgt := 45) hx hb dX13_areTypes_35 (by decide) (fun c_8 => ?_) (fun c_8 => ?_)
            · refine lv_iconst (v := 1) hx hb dX13_areTypes_45 (by decide) ?_
              refine lv_goto (tgt := 50) hx hb dX13_areTypes_46 (by decide) ?_
              have hP9 := hP.sub (ws' := []) [] rfl
              have hD9 := hD.sub (ws' := []) [] (by decide) rfl
              have hK9 := hK.sub (tys' := []) [] rfl
              refine W.widen (k := 0) (n := 0) (Nat.le_of_ble_eq_true rfl) (Nat.le_of_ble_eq_true rfl) ?_
              exact W.zret (v := 1) hx hb hr rfl (fun t ht hW => ⟨⟨1, (), rfl, (by rw [ge4_3] at c_2; simp [zTys, zTys2, zTys3, c_1, c_2, c_3, c_4, c_7, c_8]), by rw [ht]; exact hP9, va_K.moved hW.alike hK9, hD9⟩, hS.F ht⟩) hS.2.2 dX13_areTypes_50
            · refine lv_iload_n hx hb dX13_areTypes_38 rfl (lv_at hl 3 rfl) ?_
              have hPc := hP.sub (ws' := []) [] rfl
              have hDc := hD.sub (ws' := []) [] (by decide) rfl
              have hKc := hK.sub (tys' := []) [] rfl
              have hFc := va_free (wc := []) hD hS hA [] rfl
              refine va_calli (va_runS (As := [.int p3]) (rest := []) ⟨hx, hb, hml, hown, htb⟩ (c_X13_isType l dC dI H.size p3) (va_cwS 1 htb (gd_S kw_267 kw_268 kw_5 kw_1397) rfl rfl rfl (by decide +kernel) ⟨Nat.le_of_ble_eq_true rfl, Nat.le_of_ble_eq_true rfl⟩) ⟨fun a U g mk q => by obtain ⟨q0, q1, qP, qK, qD⟩ := q; exact ⟨q0, q1, qP, va_K.moved (u := U) (U := U.calling g mk a) (Vm.Alike.refl U.vm) qK, qD⟩, fun U hU hW => ⟨rfl, by rw [hU], by rw [hU]; exact hPc, va_K.moved hW.alike hKc, hDc.weaken (fun _ _ _ _ => trivial)⟩⟩ rfl rfl hl.1 rfl (lv_room (Nat.le_of_ble_eq_true rfl)) dX13_areTypes_39 ⟨(Nat.le_of_ble_eq_true rfl), (Nat.le_of_ble_eq_true rfl)⟩) hS (fun q _ h => hFc q h) hFc (fun r u t H1 locs ht hvm hw hB hz1 hk1 hS => ?_)
              subst hw
              obtain ⟨hP1, hK1, hD1⟩ := hB
              rw [ht] at hP1
              have hK1 := va_K.moved hvm.symm hK1
              obtain ⟨hP, hD⟩ := va_join (wr := []) (w1 := []) hP hD [] [] rfl rfl (by decide) (by decide) hk1 hFc hP1 hD1
              have hK := hK.app hK1
              generalize H1 = H at hP hS ⊢
              have hP : va_P (dC, dI) vwCl [] H := hP
              have hD : va_D A [] := hD
              have hK : va_K (dC, dI) vwCl [] s := hK
              refine W.widen (k := 0) (n := 0) (Nat.le_of_ble_eq_true rfl) (Nat.le_of_ble_eq_true rfl) ?_
              refine lv_if_eq (tgt := 49) hx hb dX13_areTypes_42 (by decide) (fun c_9 => ?_) (fun c_9 => ?_)
              · refine lv_iconst (v := 0) hx hb dX13_areTypes_49 (by decide) ?_
                have hP9 := hP.sub (ws' := []) [] rfl
                have hD9 := hD.sub (ws' := []) [] (by decide) rfl
                have hK9 := hK.sub (tys' := []) [] rfl
                refine W.widen (k := 0) (n := 0) (Nat.le_of_ble_eq_true rfl) (Nat.le_of_ble_eq_true rfl) ?_
                exact W.zret (v := 0) hx hb hr rfl (fun t ht hW => ⟨⟨0, (), rfl, (by rw [ge4_3] at c_2; simp [zTys, zTys2, zTys3, c_1, c_2, c_3, c_4, c_7, c_8, c_9]), by rw [ht]; exact hP9, va_K.moved hW.alike hK9, hD9⟩, hS.F ht⟩) hS.2.2 dX13_areTypes_50
              · refine lv_iconst (v := 1) hx hb dX13_areTypes_45 (by decide) ?_
                refine lv_goto (tgt := 50) hx hb dX13_areTypes_46 (by decide) ?_
                have hP9 := hP.sub (ws' := []) [] rfl
                have hD9 := hD.sub (ws' := []) [] (by decide) rfl
                have hK9 := hK.sub (tys' := []) [] rfl
                refine W.widen (k := 0) (n := 0) (Nat.le_of_ble_eq_true rfl) (Nat.le_of_ble_eq_true rfl) ?_
                exact W.zret (v := 1) hx hb hr rfl (fun t ht hW => ⟨⟨1, (), rfl, (by rw [ge4_3] at c_2; simp [zTys, zTys2, zTys3, c_1, c_2, c_3, c_4, c_7, c_8, c_9]), by rw [ht]; exact hP9, va_K.moved hW.alike hK9, hD9⟩, hS.F ht⟩) hS.2.2 dX13_areTypes_50
      · refine lv_iload_n hx hb dX13_areTypes_14 rfl (lv_at hl 1 rfl) ?_
        have hPc := hP.sub (ws' := []) [] rfl
        have hDc := hD.sub (ws' := []) [] (by decide) rfl
        have hKc := hK.sub (tys' := []) [] rfl
        have hFc := va_free (wc := []) hD hS hA [] rfl
        refine va_calli (va_runS (As := [.int p1]) (rest := []) ⟨hx, hb, hml, hown, htb⟩ (c_X13_isType l dC dI s.heap.size p1) (va_cwS 1 htb (gd_S kw_267 kw_268 kw_5 kw_1397) rfl rfl rfl (by decide +kernel) ⟨Nat.le_of_ble_eq_true rfl, Nat.le_of_ble_eq_true rfl⟩) ⟨fun a U g mk q => by obtain ⟨q0, q1, qP, qK, qD⟩ := q; exact ⟨q0, q1, qP, va_K.moved (u := U) (U := U.calling g mk a) (Vm.Alike.refl U.vm) qK, qD⟩, fun U hU hW => ⟨rfl, by rw [hU], by rw [hU]; exact hPc, va_K.moved hW.alike hKc, hDc.weaken (fun _ _ _ _ => trivial)⟩⟩ rfl rfl hl.1 rfl (lv_room (Nat.le_of_ble_eq_true rfl)) dX13_areTypes_15 ⟨(Nat.le_of_ble_eq_true rfl), (Nat.le_of_ble_eq_true rfl)⟩) hS (fun q _ h => hFc q h) hFc (fun r u t H1 locs ht hvm hw hB hz1 hk1 hS => ?_)
        subst hw
        obtain ⟨hP1, hK1, hD1⟩ := hB
        rw [ht] at hP1
        have hK1 := va_K.moved hvm.symm hK1
        obtain ⟨hP, hD⟩ := va_join (wr := []) (w1 := []) hP hD [] [] rfl rfl (by decide) (by decide) hk1 hFc hP1 hD1
        have hK := hK.app hK1
        generalize H1 = H at hP hS ⊢
        have hP : va_P (dC, dI) vwCl [] H := hP
        have hD : va_D A [] := hD
        have hK : va_K (dC, dI) vwCl [] s := hK
        refine W.widen (k := 0) (n := 0) (Nat.le_of_ble_eq_true rfl) (Nat.le_of_ble_eq_true rfl) ?_
        refine lv_if_eq (tgt := 49) hx hb dX13_areTypes_18 (by decide) (fun c_10 => ?_) (fun c_10 => ?_)
        · refine lv_iconst (v := 0) hx hb dX13_areTypes_49 (by decide) ?_
          have hP9 := hP.sub (ws' := []) [] rfl
          have hD9 := hD.sub (ws' := []) [] (by decide) rfl
          have hK9 := hK.sub (tys' := []) [] rfl
          refine W.widen (k := 0) (n := 0) (Nat.le_of_ble_eq_true rfl) (Nat.le_of_ble_eq_true rfl) ?_
          exact W.zret (v := 0) hx hb hr rfl (fun t ht hW => ⟨⟨0, (), rfl, (by rw [ge4_3] at c_2; simp [zTys, zTys2, zTys3, c_1, c_2, c_3, c_10]), by rw [ht]; exact hP9, va_K.moved hW.alike hK9, hD9⟩, hS.F ht⟩) hS.2.2 dX13_areTypes_50
        · refine lv_iload_n hx hb dX13_areTypes_21 rfl (lv_at hl 0 rfl) ?_
          refine lv_iconst (v := 2) hx hb dX13_areTypes_22 (by decide) ?_
          refine lv_icmp_lt (tgt := 33) hx hb dX13_areTypes_23 (by decide) (fun c_11 => ?_) (fun c_11 => ?_)
          · refine lv_iload_n hx hb dX13_areTypes_33 rfl (lv_at hl 0 rfl) ?_
            refine lv_iconst (v := 3) hx hb dX13_areTypes_34 (by decide) ?_
            refine lv_icmp_lt (tgt := 45) hx hb dX13_areTypes_35 (by decide) (fun c_12 => ?_) (fun c_12 => ?_)
            · refine lv_iconst (v := 1) hx hb dX13_areTypes_45 (by decide) ?_
              refine lv_goto (tgt := 50) hx hb dX13_areTypes_46 (by decide) ?_
              have hP9 := hP.sub (ws' := []) [] rfl
              have hD9 := hD.sub (ws' := []) [] (by decide) rfl
              have hK9 := hK.sub (tys' := []) [] rfl
              refine W.widen (k := 0) (n := 0) (Nat.le_of_ble_eq_true rfl) (Nat.le_of_ble_eq_true rfl) ?_
              exact W.zret (v := 1) hx hb hr rfl (fun t ht hW => ⟨⟨1, (), rfl, (by rw [ge4_3] at c_2; simp [zTys, zTys2, zTys3, c_1, c_2, c_3, c_10, c_11, c_12]), by rw [ht]; exact hP9, va_K.moved hW.alike hK9, hD9⟩, hS.F ht⟩) hS.2.2 dX13_areTypes_50
            · refine lv_iload_n hx hb dX13_areTypes_38 rfl (lv_at hl 3 rfl) ?_
              have hPc := hP.sub (ws' := []) [] rfl
              have hDc := hD.sub (ws' := []) [] (by decide) rfl
              have hKc := hK.sub (tys' := []) [] rfl
              have hFc := va_free (wc := []) hD hS hA [] rfl
              refine va_calli (va_runS (As := [.int p3]) (rest := []) ⟨hx, hb, hml, hown, htb⟩ (c_X13_isType l dC dI H.size p3) (va_cwS 1 htb (gd_S kw_267 kw_268 kw_5 kw_1397) rfl rfl rfl (by decide +kernel) ⟨Nat.le_of_ble_eq_true rfl, Nat.le_of_ble_eq_true rfl⟩) ⟨fun a U g mk q => by obtain ⟨q0, q1, qP, qK, qD⟩ := q; exact ⟨q0, q1, qP, va_K.moved (u := U) (U := U.calling g mk a) (Vm.Alike.refl U.vm) qK, qD⟩, fun U hU hW => ⟨rfl, by rw [hU], by rw [hU]; exact hPc, va_K.moved hW.alike hKc, hDc.weaken (fun _ _ _ _ => trivial)⟩⟩ rfl rfl hl.1 rfl (lv_room (Nat.le_of_ble_eq_true rfl)) dX13_areTypes_39 ⟨(Nat.le_of_ble_eq_true rfl), (Nat.le_of_ble_eq_true rfl)⟩) hS (fun q _ h => hFc q h) hFc (fun r u t H1 locs ht hvm hw hB hz1 hk1 hS => ?_)
              subst hw
              obtain ⟨hP1, hK1, hD1⟩ := hB
              rw [ht] at hP1
              have hK1 := va_K.moved hvm.symm hK1
              obtain ⟨hP, hD⟩ := va_join (wr := []) (w1 := []) hP hD [] [] rfl rfl (by decide) (by decide) hk1 hFc hP1 hD1
              have hK := hK.app hK1
              generalize H1 = H at hP hS ⊢
              have hP : va_P (dC, dI) vwCl [] H := hP
              have hD : va_D A [] := hD
              have hK : va_K (dC, dI) vwCl [] s := hK
              refine W.widen (k := 0) (n := 0) (Nat.le_of_ble_eq_true rfl) (Nat.le_of_ble_eq_true rfl) ?_
              refine lv_if_eq (tgt := 49) hx hb dX13_areTypes_42 (by decide) (fun c_13 => ?_) (fun c_13 => ?_)
              · refine lv_iconst (v := 0) hx hb dX13_areTypes_49 (by decide) ?_
                have hP9 := hP.sub (ws' := []) [] rfl
                have hD9 := hD.sub (ws' := []) [] (by decide) rfl
                have hK9 := hK.sub (tys' := []) [] rfl
                refine W.widen (k := 0) (n := 0) (Nat.le_of_ble_eq_true rfl) (Nat.le_of_ble_eq_true rfl) ?_
                exact W.zret (v := 0) hx hb hr rfl (fun t ht hW => ⟨⟨0, (), rfl, (by rw [ge4_3] at c_2; simp [zTys, zTys2, zTys3, c_1, c_2, c_3, c_10, c_11, c_12, c_13]), by rw [ht]; exact hP9, va_K.moved hW.alike hK9, hD9⟩, hS.F ht⟩) hS.2.2 dX13_areTypes_50
              · refine lv_iconst (v := 1) hx hb dX13_areTypes_45 (by decide) ?_
                refine lv_goto (tgt := 50) hx hb dX13_areTypes_46 (by decide) ?_
                have hP9 := hP.sub (ws' := []) [] rfl
                have hD9 := hD.sub (ws' := []) [] (by decide) rfl
                have hK9 := hK.sub (tys' := []) [] rfl
                refine W.widen (k := 0) (n := 0) (Nat.le_of_ble_eq_true rfl) (Nat.le_of_ble_eq_true rfl) ?_
                exact W.zret (v := 1) hx hb hr rfl (fun t ht hW => ⟨⟨1, (), rfl, (by rw [ge4_3] at c_2; simp [zTys, zTys2, zTys3, c_1, c_2, c_3, c_10, c_11, c_12, c_13]), by rw [ht]; exact hP9, va_K.moved hW.alike hK9, hD9⟩, hS.F ht⟩) hS.2.2 dX13_areTypes_50
          · refine lv_iload_n hx hb dX13_areTypes_26 rfl (lv_at hl 2 rfl) ?_
            have hPc := hP.sub (ws' := []) [] rfl
            have hDc := hD.sub (ws' := []) [] (by decide) rfl
            have hKc := hK.sub (tys' := []) [] rfl
            have hFc := va_free (wc := []) hD hS hA [] rfl
            refine va_calli (va_runS (As := [.int p2]) (rest := []) ⟨hx, hb, hml, hown, htb⟩ (c_X13_isType l dC dI H.size p2) (va_cwS 1 htb (gd_S kw_267 kw_268 kw_5 kw_1397) rfl rfl rfl (by decide +kernel) ⟨Nat.le_of_ble_eq_true rfl, Nat.le_of_ble_eq_true rfl⟩) ⟨fun a U g mk q => by obtain ⟨q0, q1, qP, qK, qD⟩ := q; exact ⟨q0, q1, qP, va_K.moved (u := U) (U := U.calling g mk a) (Vm.Alike.refl U.vm) qK, qD⟩, fun U hU hW => ⟨rfl, by rw [hU], by rw [hU]; exact hPc, va_K.moved hW.alike hKc, hDc.weaken (fun _ _ _ _ => trivial)⟩⟩ rfl rfl hl.1 rfl (lv_room (Nat.le_of_ble_eq_true rfl)) dX13_areTypes_27 ⟨(Nat.le_of_ble_eq_true rfl), (Nat.le_of_ble_eq_true rfl)⟩) hS (fun q _ h => hFc q h) hFc (fun r u t H1 locs ht hvm hw hB hz1 hk1 hS => ?_)
            subst hw
            obtain ⟨hP1, hK1, hD1⟩ := hB
            rw [ht] at hP1
            have hK1 := va_K.moved hvm.symm hK1
            obtain ⟨hP, hD⟩ := va_join (wr := []) (w1 := []) hP hD [] [] rfl rfl (by decide) (by decide) hk1 hFc hP1 hD1
            have hK := hK.app hK1
            generalize H1 = H at hP hS ⊢
            have hP : va_P (dC, dI) vwCl [] H := hP
            have hD : va_D A [] := hD
            have hK : va_K (dC, dI) vwCl [] s := hK
            refine W.widen (k := 0) (n := 0) (Nat.le_of_ble_eq_true rfl) (Nat.le_of_ble_eq_true rfl) ?_
            refine lv_if_eq (tgt := 49) hx hb dX13_areTypes_30 (by decide) (fun c_14 => ?_) (fun c_14 => ?_)
            · refine lv_iconst (v := 0) hx hb dX13_areTypes_49 (by decide) ?_
              have hP9 := hP.sub (ws' := []) [] rfl
              have hD9 := hD.sub (ws' := []) [] (by decide) rfl
              have hK9 := hK.sub (tys' := []) [] rfl
              refine W.widen (k := 0) (n := 0) (Nat.le_of_ble_eq_true rfl) (Nat.le_of_ble_eq_true rfl) ?_
              exact W.zret (v := 0) hx hb hr rfl (fun t ht hW => ⟨⟨0, (), rfl, (by rw [ge4_3] at c_2; simp [zTys, zTys2, zTys3, c_1, c_2, c_3, c_10, c_11, c_14]), by rw [ht]; exact hP9, va_K.moved hW.alike hK9, hD9⟩, hS.F ht⟩) hS.2.2 dX13_areTypes_50
            · refine lv_iload_n hx hb dX13_areTypes_33 rfl (lv_at hl 0 rfl) ?_
              refine lv_iconst (v := 3) hx hb dX13_areTypes_34 (by decide) ?_
              refine lv_icmp_lt (tgt := 45) hx hb dX13_areTypes_35 (by decide) (fun c_15 => ?_) (fun c_15 => ?_)
              · refine lv_iconst (v := 1) hx hb dX13_areTypes_45 (by decide) ?_
                refine lv_goto (tgt := 50) hx hb dX13_areTypes_46 (by decide) ?_
                have hP9 := hP.sub (ws' := []) [] rfl
                have hD9 := hD.sub (ws' := []) [] (by decide) rfl
                have hK9 := hK.sub (tys' := []) [] rfl
                refine W.widen (k := 0) (n := 0) (Nat.le_of_ble_eq_true rfl) (Nat.le_of_ble_eq_true rfl) ?_
                exact W.zret (v := 1) hx hb hr rfl (fun t ht hW => ⟨⟨1, (), rfl, (by rw [ge4_3] at c_2; simp [zTys, zTys2, zTys3, c_1, c_2, c_3, c_10, c_11, c_14, c_15]), by rw [ht]; exact hP9, va_K.moved hW.alike hK9, hD9⟩, hS.F ht⟩) hS.2.2 dX13_areTypes_50
              · refine lv_iload_n hx hb dX13_areTypes_38 rfl (lv_at hl 3 rfl) ?_
                have hPc := hP.sub (ws' := []) [] rfl
                have hDc := hD.sub (ws' := []) [] (by decide) rfl
                have hKc := hK.sub (tys' := []) [] rfl
                have hFc := va_free (wc := []) hD hS hA [] rfl
                refine va_calli (va_runS (As := [.int p3]) (rest := []) ⟨hx, hb, hml, hown, htb⟩ (c_X13_isType l dC dI H.size p3) (va_cwS 1 htb (gd_S kw_267 kw_268 kw_5 kw_1397) rfl rfl rfl (by decide +kernel) ⟨Nat.le_of_ble_eq_true rfl, Nat.le_of_ble_eq_true rfl⟩) ⟨fun a U g mk q => by obtain ⟨q0, q1, qP, qK, qD⟩ := q; exact ⟨q0, q1, qP, va_K.moved (u := U) (U := U.calling g mk a) (Vm.Alike.refl U.vm) qK, qD⟩, fun U hU hW => ⟨rfl, by rw [hU], by rw [hU]; exact hPc, va_K.moved hW.alike hKc, hDc.weaken (fun _ _ _ _ => trivial)⟩⟩ rfl rfl hl.1 rfl (lv_room (Nat.le_of_ble_eq_true rfl)) dX13_areTypes_39 ⟨(Nat.le_of_ble_eq_true rfl), (Nat.le_of_ble_eq_true rfl)⟩) hS (fun q _ h => hFc q h) hFc (fun r u t H1 locs ht hvm hw hB hz1 hk1 hS => ?_)
                subst hw
                obtain ⟨hP1, hK1, hD1⟩ := hB
                rw [ht] at hP1
                have hK1 := va_K.moved hvm.symm hK1
                obtain ⟨hP, hD⟩ := va_join (wr := []) (w1 := []) hP hD [] [] rfl rfl (by decide) (by decide) hk1 hFc hP1 hD1
                have hK := hK.app hK1
                generalize H1 = H at hP hS ⊢
                have hP : va_P (dC, dI) vwCl [] H := hP
                have hD : va_D A [] := hD
                have hK : va_K (dC, dI) vwCl [] s := hK
                refine W.widen (k := 0) (n := 0) (Nat.le_of_ble_eq_true rfl) (Nat.le_of_ble_eq_true rfl) ?_
                refine lv_if_eq (tgt := 49) hx hb dX13_areTypes_42 (by decide) (fun c_16 => ?_) (fun c_16 => ?_)
                · refine lv_iconst (v := 0) hx hb dX13_areTypes_49 (by decide) ?_
                  have hP9 := hP.sub (ws' := []) [] rfl
                  have hD9 := hD.sub (ws' := []) [] (by decide) rfl
                  have hK9 := hK.sub (tys' := []) [] rfl
                  refine W.widen (k := 0) (n := 0) (Nat.le_of_ble_eq_true rfl) (Nat.le_of_ble_eq_true rfl) ?_
                  exact W.zret (v := 0) hx hb hr rfl (fun t ht hW => ⟨⟨0, (), rfl, (by rw [ge4_3] at c_2; simp [zTys, zTys2, zTys3, c_1, c_2, c_3, c_10, c_11, c_14, c_15, c_16]), by rw [ht]; exact hP9, va_K.moved hW.alike hK9, hD9⟩, hS.F ht⟩) hS.2.2 dX13_areTypes_50
                · refine lv_iconst (v := 1) hx hb dX13_areTypes_45 (by decide) ?_
                  refine lv_goto (tgt := 50) hx hb dX13_areTypes_46 (by decide) ?_
                  have hP9 := hP.sub (ws' := []) [] rfl
                  have hD9 := hD.sub (ws' := []) [] (by decide) rfl
                  have hK9 := hK.sub (tys' := []) [] rfl
                  refine W.widen (k := 0) (n := 0) (Nat.le_of_ble_eq_true rfl) (Nat.le_of_ble_eq_true rfl) ?_
                  exact W.zret (v := 1) hx hb hr rfl (fun t ht hW => ⟨⟨1, (), rfl, (by rw [ge4_3] at c_2; simp [zTys, zTys2, zTys3, c_1, c_2, c_3, c_10, c_11, c_14, c_15, c_16]), by rw [ht]; exact hP9, va_K.moved hW.alike hK9, hD9⟩, hS.F ht⟩) hS.2.2 dX13_areTypes_50

theorem cl_iv {w z z1 z2 : Int64} {x a b : Int32} (h : z = w &&& 255) (hx : x = z.toInt32) (e1 : z1 = w &&& 255) (ea : a = lg_cmp z1 48) (ha : ¬ a < 0) (e2 : z2 = w &&& 255) (eb : b = lg_cmp z2 55) (hb : ¬ 0 < b) : iv 48 55 x := by
  subst h hx e1 ea e2 eb
  have k1 := Int64.le_iff_toInt_le.mp (Int64.not_lt.mp (fun q => ha ((lg_cmp_lt _ _).mpr q)))
  have k2 := Int64.le_iff_toInt_le.mp (Int64.not_lt.mp (fun q => hb ((lg_cmp_gt _ _).mpr q)))
  have q1 : (48 : Int64).toInt = 48 := by decide
  have q2 : (55 : Int64).toInt = 55 := by decide
  rw [q1] at k1
  rw [q2] at k2
  refine ⟨?_, ?_⟩ <;> rw [Int64.toInt_toInt32, i32_bm ⟨by omega, by omega⟩] <;> omega

set_option maxHeartbeats 4000000 in
set_option maxRecDepth 100000 in
theorem a_classIn (l : Launch) (dC : Nat → ClassId) (dI : Nat → Nat → Nat) (sz : Nat) (w : Int64) : Met l yX13_classIn wm_X13_classIn ({ frames := 0, cells := 0, slots := 0, locals := 0 }) (va_Pc [.long w] (fun U => U.heap.size = sz ∧ va_P (dC, dI) vwCl [] U.heap ∧ va_K (dC, dI) vwCl [] U ∧ va_D (fun _ => True) [])) (va_Qi (fun (r : Int32) (_ : Unit) => iv (-1) 7 r) (fun _ t => va_P (dC, dI) vwCl [] t.heap ∧ va_K (dC, dI) vwCl [] t ∧ va_D (va_A [] sz) []) (va_A [] sz)) 0 0 (va_A [] sz) := by
  refine Met.ofW (cc := cX13_classIn) (maxL := 2) (ret := (some .int)) (by decide) rfl ?_
  intro p e s m args below meth c s₁ B hml hv
  obtain ⟨rfl, hsz, hP, hK, hD0⟩ := hv
  have hx := B.exec
  have hb := B.bytes
  have hr := B.returns
  have hts := atoms_spec (ws := wm_X13_classIn) B.pre
  have htb := fun (w : Cond) (h : w ∈ tb) => hts w (List.mem_cons_of_mem _ h)
  have hown : s.vm.findClass RX13 = some m.cls := findClass_of_methodNamed B.named
  have hlocks := B.notSynchronized
  subst hsz
  have hD := hD0.self (sz := s.heap.size)
  generalize hAe : va_A [] s.heap.size = A at hD ⊢
  have hA : ∀ q : Nat, s.heap.size ≤ q → A q := fun q h => by rw [← hAe]; exact Or.inr h
  have hS : va_S A s.heap s.heap [] := va_S.rf
  have hP : va_P (dC, dI) vwCl [] s.heap := hP
  have hl := lv_entry ([.long w]) (n := 2) (Nat.le_of_ble_eq_true rfl)
  rw [lg_entry_eq]
  generalize (lg_sl ([.long w]) ++ List.replicate (2 - (lg_sl ([.long w])).length) Slot.unset).toArray = ls at hl ⊢
  have hl : lv_has ls 2 [(0, .long w)] := hl
  have hj48 : ∀ (y0_48 : Int32) (_ : iv (-1) 7 y0_48) (H : Heap) (locs : List Loc) (ls : Array Slot), va_P (dC, dI) vwCl [] H → va_D A [] → va_S A s.heap H locs → lv_has ls 2 [(0, .long w)] → W p l e (headSpec wm_X13_classIn ({ frames := 0, cells := 0, slots := 0, locals := 0 })).room s m ([.long w] : List Value).toArray below meth c H locs 0 0 (MQ below (va_Qi (fun (r : Int32) (_ : Unit) => iv (-1) 7 r) (fun _ t => va_P (dC, dI) vwCl [] t.heap ∧ va_K (dC, dI) vwCl [] t ∧ va_D A []) A) ([.long w] : List Value).toArray s 0 0 A) (F0 m 48 ls [.int y0_48]) := by
    intro y0_48 hy0_48 H locs ls hP hD hS hl
    exact W.iret (v := y0_48) hx hb hr (fun t ht hW => ⟨⟨y0_48, (), rfl, hy0_48, by rw [ht]; exact hP, va_K.moved hW.alike hK, hD⟩, hS.F ht⟩) hS.2.2 dX13_classIn_48
  have hj47 : ∀ (H : Heap) (locs : List Loc) (ls : Array Slot), va_P (dC, dI) vwCl [] H → va_D A [] → va_S A s.heap H locs → lv_has ls 2 [(0, .long w)] → W p l e (headSpec wm_X13_classIn ({ frames := 0, cells := 0, slots := 0, locals := 0 })).room s m ([.long w] : List Value).toArray below meth c H locs 0 0 (MQ below (va_Qi (fun (r : Int32) (_ : Unit) => iv (-1) 7 r) (fun _ t => va_P (dC, dI) vwCl [] t.heap ∧ va_K (dC, dI) vwCl [] t ∧ va_D A []) A) ([.long w] : List Value).toArray s 0 0 A) (F0 m 47 ls []) := by
    intro  H locs ls hP hD hS hl
    refine lv_iconst (v := (-1)) hx hb dX13_classIn_47 (by decide) ?_
    exact hj48 (-1) (iv_w (iv_k (by decide) : iv (-1) (-1) (-1)) (by decide)) _ _ _ hP hD hS (lv_sub hl [0] rfl)
  refine lv_lload_n hx hb dX13_classIn_0 rfl (lv_at hl 0 rfl) ?_
  refine lv_bipush (v := 8) hx hb dX13_classIn_1 (by decide) ?_
  refine lv_lshr (v := w >>> ((8 : Int32).toInt64 &&& 63)) hx hb dX13_classIn_3 rfl ?_
  refine lv_topl (fun z_1 ez_1 => ?_)
  refine lv_ldc2 (own := RX13) (v := 75) hx hb hown (htb _ kw_929) dX13_classIn_4 ?_
  refine W.lcmp hx hb dX13_classIn_7 ?_
  refine lv_topi (fun z_2 ez_2 => ?_)
  have hz_2 : iv (-1) 1 z_2 := iv_of ez_2 (iv_cmp _ _)
  refine lv_if_ne (tgt := 47) hx hb dX13_classIn_8 (by decide) (fun c_3 => ?_) (fun c_3 => ?_)
  · have d_4 : ¬ (z_2 : Int32).toInt = 0 := lv_neT c_3 rfl
    exact hj47 _ _ _ hP hD hS (lv_sub hl [0] rfl)
  · have h_5 : iv 0 0 z_2 := iv_eq c_3 hz_2 (iv_k (by decide) : iv 0 0 0) (by decide)
    refine lv_lload_n hx hb dX13_classIn_11 rfl (lv_at hl 0 rfl) ?_
    refine lv_ldc2 (own := RX13) (v := 255) hx hb hown (htb _ kw_874) dX13_classIn_12 ?_
    refine lv_land hx hb dX13_classIn_15 ?_
    refine lv_topl (fun z_6 ez_6 => ?_)
    refine lv_ldc2 (own := RX13) (v := 48) hx hb hown (htb _ kw_890) dX13_classIn_16 ?_
    refine W.lcmp hx hb dX13_classIn_19 ?_
    refine lv_topi (fun z_7 ez_7 => ?_)
    have hz_7 : iv (-1) 1 z_7 := iv_of ez_7 (iv_cmp _ _)
    refine lv_if_lt (tgt := 47) hx hb dX13_classIn_20 (by decide) (fun c_8 => ?_) (fun c_8 => ?_)
    · have h_9 : iv (-1) (-1) z_7 := iv_ltL c_8 hz_7 (iv_k (by decide) : iv 0 0 0) (by decide)
      exact hj47 _ _ _ hP hD hS (lv_sub hl [0] rfl)
    · have h_10 : iv 0 1 z_7 := iv_leR (i32_ge c_8) (iv_k (by decide) : iv 0 0 0) hz_7 (by decide)
      refine lv_lload_n hx hb dX13_classIn_23 rfl (lv_at hl 0 rfl) ?_
      refine lv_ldc2 (own := RX13) (v := 255) hx hb hown (htb _ kw_874) dX13_classIn_24 ?_
      refine lv_land hx hb dX13_classIn_27 ?_
      refine lv_topl (fun z_11 ez_11 => ?_)
      refine lv_ldc2 (own := RX13) (v := 55) hx hb hown (htb _ kw_930) dX13_classIn_28 ?_
      refine W.lcmp hx hb dX13_classIn_31 ?_
      refine lv_topi (fun z_12 ez_12 => ?_)
      have hz_12 : iv (-1) 1 z_12 := iv_of ez_12 (iv_cmp _ _)
      refine lv_if_gt (tgt := 47) hx hb dX13_classIn_32 (by decide) (fun c_13 => ?_) (fun c_13 => ?_)
      · have h_14 : iv 1 1 z_12 := iv_ltR c_13 (iv_k (by decide) : iv 0 0 0) hz_12 (by decide)
        exact hj47 _ _ _ hP hD hS (lv_sub hl [0] rfl)
      · have h_15 : iv (-1) 0 z_12 := iv_leL (i32_ge c_13) hz_12 (iv_k (by decide) : iv 0 0 0) (by decide)
        refine lv_lload_n hx hb dX13_classIn_35 rfl (lv_at hl 0 rfl) ?_
        refine lv_ldc2 (own := RX13) (v := 255) hx hb hown (htb _ kw_874) dX13_classIn_36 ?_
        refine lv_land hx hb dX13_classIn_39 ?_
        refine lv_topl (fun z_16 ez_16 => ?_)
        refine lv_l2i (v := (z_16).toInt32) hx hb dX13_classIn_40 rfl ?_
        refine lv_topi (fun z_17 ez_17 => ?_)
        have hz_17 : iv 0 255 z_17 := iv_of ez_17 (iv_l255 ez_16)
        have h_18 : iv 48 55 z_17 := cl_iv ez_16 ez_17 ez_6 ez_7 c_8 ez_11 ez_12 c_13
        refine lv_bipush (v := 48) hx hb dX13_classIn_41 (by decide) ?_
        refine lv_isub hx hb dX13_classIn_43 ?_
        refine lv_topi (fun z_19 ez_19 => ?_)
        have hz_19 : iv 0 7 z_19 := iv_of ez_19 (iv_sub h_18 (iv_k (by decide) : iv 48 48 48) (by decide))
        have tz_19 : z_19.toInt = (z_17 : Int32).toInt - 48 := by rw [ez_19]; exact iv_subE h_18 (iv_k (by decide) : iv 48 48 48) (by decide)
        refine lv_goto (tgt := 48) hx hb dX13_classIn_44 (by decide) ?_
        exact hj48 z_19 (iv_w hz_19 (by decide)) _ _ _ hP hD hS (lv_sub hl [0] rfl)

set_option maxHeartbeats 4000000 in
set_option maxRecDepth 100000 in
theorem a_letters (l : Launch) (dC : Nat → ClassId) (dI : Nat → Nat → Nat) (sz : Nat) (w : Int64) : Met l yX13_letters wm_X13_letters ({ frames := 0, cells := 0, slots := 0, locals := 0 }) (va_Pc [.long w] (fun U => U.heap.size = sz ∧ va_P (dC, dI) vwCl [] U.heap ∧ va_K (dC, dI) vwCl [] U ∧ va_D (fun _ => True) [])) (va_Ql (fun (r : Int64) (_ : Unit) => r = r) (fun _ t => va_P (dC, dI) vwCl [] t.heap ∧ va_K (dC, dI) vwCl [] t ∧ va_D (va_A [] sz) []) (va_A [] sz)) 0 0 (va_A [] sz) := by
  refine Met.ofW (cc := cX13_letters) (maxL := 5) (ret := (some .long)) (by decide) rfl ?_
  intro p e s m args below meth c s₁ B hml hv
  obtain ⟨rfl, hsz, hP, hK, hD0⟩ := hv
  have hx := B.exec
  have hb := B.bytes
  have hr := B.returns
  have hts := atoms_spec (ws := wm_X13_letters) B.pre
  have htb := fun (w : Cond) (h : w ∈ tb) => hts w (List.mem_cons_of_mem _ h)
  have hown : s.vm.findClass RX13 = some m.cls := findClass_of_methodNamed B.named
  have hlocks := B.notSynchronized
  subst hsz
  have hD := hD0.self (sz := s.heap.size)
  generalize hAe : va_A [] s.heap.size = A at hD ⊢
  have hA : ∀ q : Nat, s.heap.size ≤ q → A q := fun q h => by rw [← hAe]; exact Or.inr h
  have hS : va_S A s.heap s.heap [] := va_S.rf
  have hP : va_P (dC, dI) vwCl [] s.heap := hP
  have hl := lv_entry ([.long w]) (n := 5) (Nat.le_of_ble_eq_true rfl)
  rw [lg_entry_eq]
  generalize (lg_sl ([.long w]) ++ List.replicate (5 - (lg_sl ([.long w])).length) Slot.unset).toArray = ls at hl ⊢
  have hl : lv_has ls 5 [(0, .long w)] := hl
  have hj6 : ∀ (n : Nat) (x4_6 : Int32) (x2_6 : Int64) (_ : (x4_6.toInt - (-8)).toNat = n) (_ : iv (-8) 56 x4_6) (H : Heap) (locs : List Loc) (ls : Array Slot), va_P (dC, dI) vwCl [] H → va_D A [] → va_S A s.heap H locs → lv_has ls 5 [(4, .int x4_6), (2, .long x2_6), (0, .long w)] → W p l e (headSpec wm_X13_letters ({ frames := 0, cells := 0, slots := 0, locals := 0 })).room s m ([.long w] : List Value).toArray below meth c H locs 0 0 (MQ below (va_Ql (fun (r : Int64) (_ : Unit) => r = r) (fun _ t => va_P (dC, dI) vwCl [] t.heap ∧ va_K (dC, dI) vwCl [] t ∧ va_D A []) A) ([.long w] : List Value).toArray s 0 0 A) (F0 m 6 ls []) := by
    intro n
    induction n using Nat.strongRecOn with
    | ind n ih6 =>
      intro x4_6 x2_6 hn6 hx4_6 H locs ls hP hD hS hl
      have hj41 : ∀ (y0_41 : Int64) (_ : iv 0 56 x4_6) (H : Heap) (locs : List Loc) (ls : Array Slot), va_P (dC, dI) vwCl [] H → va_D A [] → va_S A s.heap H locs → lv_has ls 5 [(4, .int x4_6), (2, .long x2_6), (0, .long w)] → W p l e (headSpec wm_X13_letters ({ frames := 0, cells := 0, slots := 0, locals := 0 })).room s m ([.long w] : List Value).toArray below meth c H locs 0 0 (MQ below (va_Ql (fun (r : Int64) (_ : Unit) => r = r) (fun _ t => va_P (dC, dI) vwCl [] t.heap ∧ va_K (dC, dI) vwCl [] t ∧ va_D A []) A) ([.long w] : List Value).toArray s 0 0 A) (F0 m 41 ls [.long y0_41]) := by
        intro y0_41 hsx4_41 H locs ls hP hD hS hl
        refine lv_lstore_n (lv' := [(2, .long y0_41), (4, .int x4_6), (0, .long w)]) hx hb dX13_letters_41 rfl hl (by decide) rfl (fun ls hl => ?_)
        obtain ⟨z_1, ez_1⟩ : ∃ z : Int32, z = x4_6 + (-8) := ⟨_, rfl⟩
        have hz_1 : iv (-8) 48 z_1 := iv_of ez_1 (iv_add hsx4_41 (iv_k (by decide) : iv (-8) (-8) (-8)) (by decide))
        have tz_1 : z_1.toInt = x4_6.toInt - 8 := by rw [ez_1]; exact iv_addE hsx4_41 (iv_k (by decide) : iv (-8) (-8) (-8)) (by decide)
        refine lv_iinc (v := z_1) (lv' := [(4, .int z_1), (2, .long y0_41), (0, .long w)]) hx hb dX13_letters_42 hl (k := 1) rfl ez_1.symm (by decide) rfl (fun ls hl => ?_)
        refine lv_goto (tgt := 6) hx hb dX13_letters_45 (by decide) ?_
        exact ih6 _ (by rw [← hn6]; exact (iv_measDn tz_1 (by decide) hsx4_41 (by decide))) z_1 y0_41 rfl (iv_w hz_1 (by decide)) _ _ _ hP hD hS (lv_sub hl [0, 1, 2] rfl)
      refine lv_iload hx hb dX13_letters_6 (lv_at hl 0 rfl) ?_
      refine lv_if_lt (tgt := 48) hx hb dX13_letters_8 (by decide) (fun c_2 => ?_) (fun c_2 => ?_)
      · have h_3 : iv (-8) (-1) x4_6 := iv_ltL c_2 hx4_6 (iv_k (by decide) : iv 0 0 0) (by decide)
        refine lv_lload_n hx hb dX13_letters_48 rfl (lv_at hl 1 rfl) ?_
        exact W.lret (v := x2_6) hx hb hr (fun t ht hW => ⟨⟨x2_6, (), rfl, rfl, by rw [ht]; exact hP, va_K.moved hW.alike hK, hD⟩, hS.F ht⟩) hS.2.2 dX13_letters_49
      · have h_4 : iv 0 56 x4_6 := iv_leR (i32_ge c_2) (iv_k (by decide) : iv 0 0 0) hx4_6 (by decide)
        refine lv_lload_n hx hb dX13_letters_11 rfl (lv_at hl 2 rfl) ?_
        refine lv_iload hx hb dX13_letters_12 (lv_at hl 0 rfl) ?_
        refine lv_lshr (v := w >>> ((x4_6 : Int32).toInt64 &&& 63)) hx hb dX13_letters_14 rfl ?_
        refine lv_topl (fun z_5 ez_5 => ?_)
        refine lv_ldc2 (own := RX13) (v := 255) hx hb hown (htb _ kw_874) dX13_letters_15 ?_
        refine lv_land hx hb dX13_letters_18 ?_
        refine lv_topl (fun z_6 ez_6 => ?_)
        refine lv_lconst (v := 0) hx hb dX13_letters_19 (by decide) ?_
        refine W.lcmp hx hb dX13_letters_20 ?_
        refine lv_topi (fun z_7 ez_7 => ?_)
        have hz_7 : iv (-1) 1 z_7 := iv_of ez_7 (iv_cmp _ _)
        refine lv_if_ne (tgt := 28) hx hb dX13_letters_21 (by decide) (fun c_8 => ?_) (fun c_8 => ?_)
        · have d_9 : ¬ (z_7 : Int32).toInt = 0 := lv_neT c_8 rfl
          refine lv_lload_n hx hb dX13_letters_28 rfl (lv_at hl 1 rfl) ?_
          refine lv_bipush (v := 8) hx hb dX13_letters_29 (by decide) ?_
          refine lv_lshl (v := x2_6 <<< ((8 : Int32).toInt64 &&& 63)) hx hb dX13_letters_31 rfl ?_
          refine lv_topl (fun z_10 ez_10 => ?_)
          refine lv_lload_n hx hb dX13_letters_32 rfl (lv_at hl 2 rfl) ?_
          refine lv_iload hx hb dX13_letters_33 (lv_at hl 0 rfl) ?_
          refine lv_lshr (v := w >>> ((x4_6 : Int32).toInt64 &&& 63)) hx hb dX13_letters_35 rfl ?_
          refine lv_topl (fun z_11 ez_11 => ?_)
          refine lv_ldc2 (own := RX13) (v := 255) hx hb hown (htb _ kw_874) dX13_letters_36 ?_
          refine lv_land hx hb dX13_letters_39 ?_
          refine lv_topl (fun z_12 ez_12 => ?_)
          refine lv_lor hx hb dX13_letters_40 ?_
          refine lv_topl (fun z_13 ez_13 => ?_)
          exact hj41 z_13 h_4 _ _ _ hP hD hS (lv_sub hl [0, 1, 2] rfl)
        · have h_14 : iv 0 0 z_7 := iv_eq c_8 hz_7 (iv_k (by decide) : iv 0 0 0) (by decide)
          refine lv_lload_n hx hb dX13_letters_24 rfl (lv_at hl 1 rfl) ?_
          refine lv_goto (tgt := 41) hx hb dX13_letters_25 (by decide) ?_
          exact hj41 x2_6 h_4 _ _ _ hP hD hS (lv_sub hl [0, 1, 2] rfl)
  refine lv_lconst (v := 0) hx hb dX13_letters_0 (by decide) ?_
  refine lv_lstore_n (lv' := [(2, .long 0), (0, .long w)]) hx hb dX13_letters_1 rfl hl (by decide) rfl (fun ls hl => ?_)
  refine lv_bipush (v := 56) hx hb dX13_letters_2 (by decide) ?_
  refine lv_istore (lv' := [(4, .int 56), (2, .long 0), (0, .long w)]) hx hb dX13_letters_4 hl (by decide) rfl (fun ls hl => ?_)
  exact hj6 _ 56 0 rfl (iv_w (iv_k (by decide) : iv 56 56 56) (by decide)) _ _ _ hP hD hS (lv_sub hl [0, 1, 2] rfl)
