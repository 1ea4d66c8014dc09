theorem ge0 {x : Int32} (h : ¬ x < 0) : 0 ≤ x := Int32.not_lt.mp h
theorem zCls_of {c : Int32} (h : ¬ zCls c = 0) : ∃ k : Nat, k < 8 ∧ c = nI k := by
  unfold zCls at h
  by_cases h1 : c < 0
  · exact absurd (by rw [if_pos h1]) h
  · by_cases h2 : 8 ≤ c
    · exact absurd (by rw [if_neg h1, if_pos h2]) h
    · rcases pk_ix c (n := 8) (by decide) with h3 | h3 | h3
      · exact absurd h3 h1
      · exact absurd h3 h2
      · exact h3
theorem zLet_of {c : Int32} (h : ¬ zLet c = 0) : ∃ k : Nat, k < 26 ∧ c = nI k := by
  unfold zLet at h
  by_cases h1 : c < 0
  · exact absurd (by rw [if_pos h1]) h
  · by_cases h2 : 26 ≤ c
    · exact absurd (by rw [if_neg h1, if_pos h2]) h
    · rcases pk_ix c (n := 26) (by decide) with h3 | h3 | h3
      · exact absurd h3 h1
      · exact absurd h3 h2
      · exact h3
theorem zCls_in {c : Int32} (h : ¬ zCls c = 0) : vp_in c 8 := by
  obtain ⟨k, hk, rfl⟩ := zCls_of h
  exact vp_in_nI hk (by decide)
theorem zLet_in {c : Int32} (h : ¬ zLet c = 0) : vp_in c 26 := by
  obtain ⟨k, hk, rfl⟩ := zLet_of h
  exact vp_in_nI hk (by decide)
theorem par_in {c p : Int32} (h : ¬ zCls c = 0) (h1 : ¬ p < -1) (h2 : p < c) (h3 : ¬ p = -1) : vp_in p 8 := by
  obtain ⟨k, hk, rfl⟩ := zCls_of h
  rw [vp_in_iff]
  rw [Int32.lt_iff_toInt_lt] at h1 h2
  rw [nI_toInt (by omega)] at h2
  have h4 : p.toInt ≠ -1 := fun e => h3 (Int32.toInt_inj.mp e)
  have h5 : ((-1 : Int32)).toInt = -1 := by decide
  omega
def zDec (c p : Int32) : Int32 := if zCls c = 0 then 0 else if p < -1 then 0 else if p < c then 1 else 0
def zCon (c n a b e : Int32) : Int32 := if zCls c = 0 then 0 else if zTys n a b e = 0 then 0 else 1
def zSet (c n t : Int32) : Int32 := if zCls c = 0 then 0 else if zLet n = 0 then 0 else if zTyp t = 0 then 0 else 1
def zFac (c m r n a b e : Int32) : Int32 := if zCls c = 0 then 0 else if zLet m = 0 then 0 else if zCls r = 0 then 0 else if zTys n a b e = 0 then 0 else 1
def zFau (x : Int32) : Int32 := if x = 0 then 0 else if x = 2 then 0 else -1
theorem zFau_out {x : Int32} (h : x.toInt < 0 ∨ 3 < x.toInt) : -1 = zFau x := by
  have h0 : ¬ x = 0 := fun e => by rw [e] at h; revert h; decide
  have h2 : ¬ x = 2 := fun e => by rw [e] at h; revert h; decide
  simp [zFau, h0, h2]

theorem row_at {p : Int32} {g : Nat → Int32} (h : vp_in p 26) (hg : ∀ j, j < 26 → g j = -1) : g p.toNatClampNeg = -1 := by
  obtain ⟨j, hj, rfl⟩ := vp_in_of h (by decide)
  rw [nI_clamp (by omega)]
  exact hg j hj

set_option maxHeartbeats 4000000 in
set_option maxRecDepth 100000 in
theorem c_X2_begin_n (l : Launch) (dC : Nat → ClassId) (dI : Nat → Nat → Nat) (sz : Nat) (h0 : Nat) (q1 : Nat) (q2 : Nat) (p8 : Int32) (q3 : Nat) (cB3 : ClassId) (g3 : Nat → Int32) : Met l yX2_begin wm_X2_begin ({ frames := 0, cells := 0, slots := 0, locals := 0 }) (va_Pc [.ref h0, .null] (fun U => U.heap.size = sz ∧ va_P (dC, dI) vwCl [(h0, .inr (2, [.ref q1, .ref q2, .int 0, .int 0, .int p8, .ref q3, .int 0, .null])), (q3, .inl (cB3, 26, .inl g3))] U.heap ∧ va_K (dC, dI) vwCl [(cB3, .int)] U ∧ va_D (fun _ => True) [(h0, .inr (2, [.ref q1, .ref q2, .int 0, .int 0, .int p8, .ref q3, .int 0, .null])), (q3, .inl (cB3, 26, .inl g3))])) (va_Qv (fun _ : Unit => True) (fun _ t => va_P (dC, dI) vwCl [] t.heap ∧ va_K (dC, dI) vwCl [] t ∧ va_D (va_A [(h0, .inr (2, [.ref q1, .ref q2, .int 0, .int 0, .int p8, .ref q3, .int 0, .null])), (q3, .inl (cB3, 26, .inl g3))] sz) []) (va_A [(h0, .inr (2, [.ref q1, .ref q2, .int 0, .int 0, .int p8, .ref q3, .int 0, .null])), (q3, .inl (cB3, 26, .inl g3))] sz)) 0 0 (va_A [(h0, .inr (2, [.ref q1, .ref q2, .int 0, .int 0, .int p8, .ref q3, .int 0, .null])), (q3, .inl (cB3, 26, .inl g3))] sz) := by
  refine Met.ofW (cc := cX2_begin) (maxL := 3) (ret := none) (by decide) rfl ?_
  intro p e s m args below meth c s₁ B hml hv
  obtain ⟨rfl, hsz, hP, hK, hD0⟩ := hv
  have hx := B.exec
  have hb := B.bytes
  have hr := B.returns
  have hts := atoms_spec (ws := wm_X2_begin) B.pre
  have htb := fun (w : Cond) (h : w ∈ tb) => hts w (List.mem_cons_of_mem _ h)
  have hown : s.vm.findClass RX2 = some m.cls := findClass_of_methodNamed B.named
  have hlocks := B.notSynchronized
  subst hsz
  have hD := hD0.self (sz := s.heap.size)
  generalize hAe : va_A [(h0, .inr (2, [.ref q1, .ref q2, .int 0, .int 0, .int p8, .ref q3, .int 0, .null])), (q3, .inl (cB3, 26, .inl g3))] s.heap.size = A at hD ⊢
  have hA : ∀ q : Nat, s.heap.size ≤ q → A q := fun q h => by rw [← hAe]; exact Or.inr h
  have hS : va_S A s.heap s.heap [] := va_S.rf
  have hP : va_P (dC, dI) vwCl [(h0, .inr (2, [.ref q1, .ref q2, .int 0, .int 0, .int p8, .ref q3, .int 0, .null])), (q3, .inl (cB3, 26, .inl g3))] s.heap := hP
  have hl := lv_entry ([.ref h0, .null]) (n := 3) (Nat.le_of_ble_eq_true rfl)
  rw [lg_entry_eq]
  generalize (lg_sl ([.ref h0, .null]) ++ List.replicate (3 - (lg_sl ([.ref h0, .null])).length) Slot.unset).toArray = ls at hl ⊢
  have hl : lv_has ls 3 [(0, .ref h0), (1, .null)] := hl
  refine lv_aload_n hx hb dX2_begin_0 rfl (lv_at hl 0 rfl) ?_
  refine lv_aload_nN hx hb dX2_begin_1 rfl (lv_at hl 1 rfl) ?_
  refine va_put (D := (dC, dI)) (ci := 2) (v := .null) (ty := .object "WiredBeans$DeclaredClass") (C := RX2) (T := TX2) (N := 8) hx hb htb inX2 tyX2 tyX2_ok nmX2 hown hK hP hD hS 0 rfl rfl 7 (by decide) (htb _ kw_138) (fun _ h9 => h9) rfl (tyX2_ok 7 (by decide)) rfl rfl (Nat.le_of_ble_eq_true rfl) dX2_begin_2 (fun H locs hP hD hS => ?_)
  have hP : va_P (dC, dI) vwCl [(h0, .inr (2, [.ref q1, .ref q2, .int 0, .int 0, .int p8, .ref q3, .int 0, .null])), (q3, .inl (cB3, 26, .inl g3))] H := hP
  have hD : va_D A [(h0, .inr (2, [.ref q1, .ref q2, .int 0, .int 0, .int p8, .ref q3, .int 0, .null])), (q3, .inl (cB3, 26, .inl g3))] := hD
  refine lv_aload_n hx hb dX2_begin_5 rfl (lv_at hl 0 rfl) ?_
  refine lv_iconst (v := 0) hx hb dX2_begin_6 (by decide) ?_
  refine va_put (D := (dC, dI)) (ci := 2) (v := .int 0) (ty := .int) (C := RX2) (T := TX2) (N := 8) hx hb htb inX2 tyX2 tyX2_ok nmX2 hown hK hP hD hS 0 rfl rfl 2 (by decide) (htb _ kw_139) (fun _ h9 => h9) rfl (tyX2_ok 2 (by decide)) rfl rfl (Nat.le_of_ble_eq_true rfl) dX2_begin_7 (fun H locs hP hD hS => ?_)
  have hP : va_P (dC, dI) vwCl [(h0, .inr (2, [.ref q1, .ref q2, .int 0, .int 0, .int p8, .ref q3, .int 0, .null])), (q3, .inl (cB3, 26, .inl g3))] H := hP
  have hD : va_D A [(h0, .inr (2, [.ref q1, .ref q2, .int 0, .int 0, .int p8, .ref q3, .int 0, .null])), (q3, .inl (cB3, 26, .inl g3))] := hD
  refine lv_aload_n hx hb dX2_begin_10 rfl (lv_at hl 0 rfl) ?_
  refine lv_iconst (v := 0) hx hb dX2_begin_11 (by decide) ?_
  refine va_put (D := (dC, dI)) (ci := 2) (v := .int 0) (ty := .int) (C := RX2) (T := TX2) (N := 8) hx hb htb inX2 tyX2 tyX2_ok nmX2 hown hK hP hD hS 0 rfl rfl 3 (by decide) (htb _ kw_140) (fun _ h9 => h9) rfl (tyX2_ok 3 (by decide)) rfl rfl (Nat.le_of_ble_eq_true rfl) dX2_begin_12 (fun H locs hP hD hS => ?_)
  have hP : va_P (dC, dI) vwCl [(h0, .inr (2, [.ref q1, .ref q2, .int 0, .int 0, .int p8, .ref q3, .int 0, .null])), (q3, .inl (cB3, 26, .inl g3))] H := hP
  have hD : va_D A [(h0, .inr (2, [.ref q1, .ref q2, .int 0, .int 0, .int p8, .ref q3, .int 0, .null])), (q3, .inl (cB3, 26, .inl g3))] := hD
  refine lv_aload_n hx hb dX2_begin_15 rfl (lv_at hl 0 rfl) ?_
  refine lv_iconst (v := 0) hx hb dX2_begin_16 (by decide) ?_
  refine va_put (D := (dC, dI)) (ci := 2) (v := .int 0) (ty := .int) (C := RX2) (T := TX2) (N := 8) hx hb htb inX2 tyX2 tyX2_ok nmX2 hown hK hP hD hS 0 rfl rfl 6 (by decide) (htb _ kw_141) (fun _ h9 => h9) rfl (tyX2_ok 6 (by decide)) rfl rfl (Nat.le_of_ble_eq_true rfl) dX2_begin_17 (fun H locs hP hD hS => ?_)
  have hP : va_P (dC, dI) vwCl [(h0, .inr (2, [.ref q1, .ref q2, .int 0, .int 0, .int p8, .ref q3, .int 0, .null])), (q3, .inl (cB3, 26, .inl g3))] H := hP
  have hD : va_D A [(h0, .inr (2, [.ref q1, .ref q2, .int 0, .int 0, .int p8, .ref q3, .int 0, .null])), (q3, .inl (cB3, 26, .inl g3))] := hD
  refine lv_iconst (v := 0) hx hb dX2_begin_20 (by decide) ?_
  refine lv_istore_n (lv' := [(2, .int 0), (0, .ref h0), (1, .null)]) hx hb dX2_begin_21 rfl hl (by decide) rfl (fun ls hl => ?_)
  have hloop : ∀ (n i : Nat) (g9 : Nat → Int32) (H : Heap) (locs : List Loc) (ls : Array Slot), i + n = 26 → va_P (dC, dI) vwCl [(h0, .inr (2, [.ref q1, .ref q2, .int 0, .int 0, .int p8, .ref q3, .int 0, .null])), (q3, .inl (cB3, 26, .inl g9))] H → va_D A [(h0, .inr (2, [.ref q1, .ref q2, .int 0, .int 0, .int p8, .ref q3, .int 0, .null])), (q3, .inl (cB3, 26, .inl g9))] → va_S A s.heap H locs → lv_has ls 3 [(2, .int (nI i)), (0, .ref h0), (1, .null)] → W p l e (headSpec wm_X2_begin ({ frames := 0, cells := 0, slots := 0, locals := 0 })).room s m ([.ref h0, .null] : List Value).toArray below meth c H locs (0) (0) (MQ below (va_Qv (fun _ : Unit => True) (fun _ t => va_P (dC, dI) vwCl [] t.heap ∧ va_K (dC, dI) vwCl [] t ∧ va_D A []) A) ([.ref h0, .null] : List Value).toArray s 0 0 A) (F0 m 22 ls []) := by
    intro n
    induction n with
    | zero =>
      intro i g9 H locs ls hi9  hP hD hS hl
      obtain rfl : i = 26 := by omega
      have hl : lv_has ls 3 [(2, .int 26), (0, .ref h0), (1, .null)] := hl
      refine lv_iload_n hx hb dX2_begin_22 rfl (lv_at hl 0 rfl) ?_
      refine lv_bipush (v := 26) hx hb dX2_begin_23 (by decide) ?_
      refine lv_icmp_ge (tgt := 41) hx hb dX2_begin_25 (by decide) (fun _ => ?_) (fun c_1 => absurd (by decide) c_1)
      have hP9 := hP.sub (ws' := []) [] rfl
      have hD9 := hD.sub (ws' := []) [] (by decide) rfl
      have hK9 := hK.sub (tys' := []) [] rfl
      refine W.widen (k := 0) (n := 0) (Nat.le_of_ble_eq_true rfl) (Nat.le_of_ble_eq_true rfl) ?_
      exact W.vret hx hb hr (fun t ht hW => ⟨⟨(), rfl, trivial, by rw [ht]; exact hP9, va_K.moved hW.alike hK9, hD9⟩, hS.F ht⟩) hS.2.2 dX2_begin_41
    | succ n ih =>
      intro i g9 H locs ls hi9  hP hD hS hl
      have hlt : i < 26 := by omega
      refine lv_iload_n hx hb dX2_begin_22 rfl (lv_at hl 0 rfl) ?_
      refine lv_bipush (v := 26) hx hb dX2_begin_23 (by decide) ?_
      refine lv_icmp_ge (tgt := 41) hx hb dX2_begin_25 (by decide) (fun c_2 => absurd c_2 (nI_ge hlt (by decide))) (fun _ => ?_)
      refine lv_aload_n hx hb dX2_begin_28 rfl (lv_at hl 1 rfl) ?_
      refine va_get (D := (dC, dI)) (ci := 2) (v := .ref q3) (C := RX2) (T := TX2) (N := 8) hx hb htb inX2 hown hK hP 0 rfl rfl 5 (by decide) (htb _ kw_137) (fun _ h9 => h9) rfl dX2_begin_29 ?_
      refine lv_iload_n hx hb dX2_begin_32 rfl (lv_at hl 0 rfl) ?_
      refine lv_iconst (v := (-1)) hx hb dX2_begin_33 (by decide) ?_
      refine va_iast (D := (dC, dI)) hx hb hK hP hD hS 1 0 rfl rfl (vp_in_nI hlt (by decide)) dX2_begin_34 (fun H locs hP hD hS => ?_)
      have hP : va_P (dC, dI) vwCl [(h0, .inr (2, [.ref q1, .ref q2, .int 0, .int 0, .int p8, .ref q3, .int 0, .null])), (q3, .inl (cB3, 26, .inl (upd g9 (nI i : Int32).toNatClampNeg (-1))))] H := hP
      have hD : va_D A [(h0, .inr (2, [.ref q1, .ref q2, .int 0, .int 0, .int p8, .ref q3, .int 0, .null])), (q3, .inl (cB3, 26, .inl (upd g9 (nI i : Int32).toNatClampNeg (-1))))] := hD
      refine lv_iinc (v := nI (i + 1)) (lv' := [(2, .int (nI (i + 1))), (0, .ref h0), (1, .null)]) hx hb dX2_begin_35 hl (k := 0) rfl (nI_1 i) (by decide) rfl (fun ls hl => ?_)
      refine lv_goto (tgt := 22) hx hb dX2_begin_38 (by decide) ?_
      exact ih (i + 1) (upd g9 (nI i : Int32).toNatClampNeg (-1)) _ _ _ (by omega) (hP.sub [0, 1] rfl) (hD.sub [0, 1] (by decide) rfl) hS (lv_sub hl [0, 1, 2] rfl)
  exact hloop 26 0 g3 _ _ _ rfl hP hD hS hl

set_option maxHeartbeats 4000000 in
set_option maxRecDepth 100000 in
theorem c_X2_begin_r (l : Launch) (dC : Nat → ClassId) (dI : Nat → Nat → Nat) (sz : Nat) (h0 : Nat) (h1 : Nat) (q1 : Nat) (q2 : Nat) (p8 : Int32) (q3 : Nat) (cB3 : ClassId) (g3 : Nat → Int32) : Met l yX2_begin wm_X2_begin ({ frames := 0, cells := 0, slots := 0, locals := 0 }) (va_Pc [.ref h0, .ref h1] (fun U => U.heap.size = sz ∧ va_P (dC, dI) vwCl [(h0, .inr (2, [.ref q1, .ref q2, .int 0, .int 0, .int p8, .ref q3, .int 0, .null])), (q3, .inl (cB3, 26, .inl g3))] U.heap ∧ va_K (dC, dI) vwCl [(cB3, .int)] U ∧ va_D (fun _ => True) [(h0, .inr (2, [.ref q1, .ref q2, .int 0, .int 0, .int p8, .ref q3, .int 0, .null])), (q3, .inl (cB3, 26, .inl g3))])) (va_Qv (fun _ : Unit => True) (fun _ t => va_P (dC, dI) vwCl [] t.heap ∧ va_K (dC, dI) vwCl [] t ∧ va_D (va_A [(h0, .inr (2, [.ref q1, .ref q2, .int 0, .int 0, .int p8, .ref q3, .int 0, .null])), (q3, .inl (cB3, 26, .inl g3))] sz) []) (va_A [(h0, .inr (2, [.ref q1, .ref q2, .int 0, .int 0, .int p8, .ref q3, .int 0, .null])), (q3, .inl (cB3, 26, .inl g3))] sz)) 0 0 (va_A [(h0, .inr (2, [.ref q1, .ref q2, .int 0, .int 0, .int p8, .ref q3, .int 0, .null])), (q3, .inl (cB3, 26, .inl g3))] sz) := by
  refine Met.ofW (cc := cX2_begin) (maxL := 3) (ret := none) (by decide) rfl ?_
  intro p e s m args below meth c s₁ B hml hv
  obtain ⟨rfl, hsz, hP, hK, hD0⟩ := hv
  have hx := B.exec
  have hb := B.bytes
  have hr := B.returns
  have hts := atoms_spec (ws := wm_X2_begin) B.pre
  have htb := fun (w : Cond) (h : w ∈ tb) => hts w (List.mem_cons_of_mem _ h)
  have hown : s.vm.findClass RX2 = some m.cls := findClass_of_methodNamed B.named
  have hlocks := B.notSynchronized
  subst hsz
  have hD := hD0.self (sz := s.heap.size)
  generalize hAe : va_A [(h0, .inr (2, [.ref q1, .ref q2, .int 0, .int 0, .int p8, .ref q3, .int 0, .null])), (q3, .inl (cB3, 26, .inl g3))] s.heap.size = A at hD ⊢
  have hA : ∀ q : Nat, s.heap.size ≤ q → A q := fun q h => by rw [← hAe]; exact Or.inr h
  have hS : va_S A s.heap s.heap [] := va_S.rf
  have hP : va_P (dC, dI) vwCl [(h0, .inr (2, [.ref q1, .ref q2, .int 0, .int 0, .int p8, .ref q3, .int 0, .null])), (q3, .inl (cB3, 26, .inl g3))] s.heap := hP
  have hl := lv_entry ([.ref h0, .ref h1]) (n := 3) (Nat.le_of_ble_eq_true rfl)
  rw [lg_entry_eq]
  generalize (lg_sl ([.ref h0, .ref h1]) ++ List.replicate (3 - (lg_sl ([.ref h0, .ref h1])).length) Slot.unset).toArray = ls at hl ⊢
  have hl : lv_has ls 3 [(0, .ref h0), (1, .ref h1)] := hl
  refine lv_aload_n hx hb dX2_begin_0 rfl (lv_at hl 0 rfl) ?_
  refine lv_aload_n hx hb dX2_begin_1 rfl (lv_at hl 1 rfl) ?_
  refine va_put (D := (dC, dI)) (ci := 2) (v := .ref h1) (ty := .object "WiredBeans$DeclaredClass") (C := RX2) (T := TX2) (N := 8) hx hb htb inX2 tyX2 tyX2_ok nmX2 hown hK hP hD hS 0 rfl rfl 7 (by decide) (htb _ kw_138) (fun _ h9 => h9) rfl (tyX2_ok 7 (by decide)) rfl rfl (Nat.le_of_ble_eq_true rfl) dX2_begin_2 (fun H locs hP hD hS => ?_)
  have hP : va_P (dC, dI) vwCl [(h0, .inr (2, [.ref q1, .ref q2, .int 0, .int 0, .int p8, .ref q3, .int 0, .ref h1])), (q3, .inl (cB3, 26, .inl g3))] H := hP
  have hD : va_D A [(h0, .inr (2, [.ref q1, .ref q2, .int 0, .int 0, .int p8, .ref q3, .int 0, .ref h1])), (q3, .inl (cB3, 26, .inl g3))] := hD
  refine lv_aload_n hx hb dX2_begin_5 rfl (lv_at hl 0 rfl) ?_
  refine lv_iconst (v := 0) hx hb dX2_begin_6 (by decide) ?_
  refine va_put (D := (dC, dI)) (ci := 2) (v := .int 0) (ty := .int) (C := RX2) (T := TX2) (N := 8) hx hb htb inX2 tyX2 tyX2_ok nmX2 hown hK hP hD hS 0 rfl rfl 2 (by decide) (htb _ kw_139) (fun _ h9 => h9) rfl (tyX2_ok 2 (by decide)) rfl rfl (Nat.le_of_ble_eq_true rfl) dX2_begin_7 (fun H locs hP hD hS => ?_)
  have hP : va_P (dC, dI) vwCl [(h0, .inr (2, [.ref q1, .ref q2, .int 0, .int 0, .int p8, .ref q3, .int 0, .ref h1])), (q3, .inl (cB3, 26, .inl g3))] H := hP
  have hD : va_D A [(h0, .inr (2, [.ref q1, .ref q2, .int 0, .int 0, .int p8, .ref q3, .int 0, .ref h1])), (q3, .inl (cB3, 26, .inl g3))] := hD
  refine lv_aload_n hx hb dX2_begin_10 rfl (lv_at hl 0 rfl) ?_
  refine lv_iconst (v := 0) hx hb dX2_begin_11 (by decide) ?_
  refine va_put (D := (dC, dI)) (ci := 2) (v := .int 0) (ty := .int) (C := RX2) (T := TX2) (N := 8) hx hb htb inX2 tyX2 tyX2_ok nmX2 hown hK hP hD hS 0 rfl rfl 3 (by decide) (htb _ kw_140) (fun _ h9 => h9) rfl (tyX2_ok 3 (by decide)) rfl rfl (Nat.le_of_ble_eq_true rfl) dX2_begin_12 (fun H locs hP hD hS => ?_)
  have hP : va_P (dC, dI) vwCl [(h0, .inr (2, [.ref q1, .ref q2, .int 0, .int 0, .int p8, .ref q3, .int 0, .ref h1])), (q3, .inl (cB3, 26, .inl g3))] H := hP
  have hD : va_D A [(h0, .inr (2, [.ref q1, .ref q2, .int 0, .int 0, .int p8, .ref q3, .int 0, .ref h1])), (q3, .inl (cB3, 26, .inl g3))] := hD
  refine lv_aload_n hx hb dX2_begin_15 rfl (lv_at hl 0 rfl) ?_
  refine lv_iconst (v := 0) hx hb dX2_begin_16 (by decide) ?_
  refine va_put (D := (dC, dI)) (ci := 2) (v := .int 0) (ty := .int) (C := RX2) (T := TX2) (N := 8) hx hb htb inX2 tyX2 tyX2_ok nmX2 hown hK hP hD hS 0 rfl rfl 6 (by decide) (htb _ kw_141) (fun _ h9 => h9) rfl (tyX2_ok 6 (by decide)) rfl rfl (Nat.le_of_ble_eq_true rfl) dX2_begin_17 (fun H locs hP hD hS => ?_)
  have hP : va_P (dC, dI) vwCl [(h0, .inr (2, [.ref q1, .ref q2, .int 0, .int 0, .int p8, .ref q3, .int 0, .ref h1])), (q3, .inl (cB3, 26, .inl g3))] H := hP
  have hD : va_D A [(h0, .inr (2, [.ref q1, .ref q2, .int 0, .int 0, .int p8, .ref q3, .int 0, .ref h1])), (q3, .inl (cB3, 26, .inl g3))] := hD
  refine lv_iconst (v := 0) hx hb dX2_begin_20 (by decide) ?_
  refine lv_istore_n (lv' := [(2, .int 0), (0, .ref h0), (1, .ref h1)]) hx hb dX2_begin_21 rfl hl (by decide) rfl (fun ls hl => ?_)
  have hloop : ∀ (n i : Nat) (g9 : Nat → Int32) (H : Heap) (locs : List Loc) (ls : Array Slot), i + n = 26 → va_P (dC, dI) vwCl [(h0, .inr (2, [.ref q1, .ref q2, .int 0, .int 0, .int p8, .ref q3, .int 0, .ref h1])), (q3, .inl (cB3, 26, .inl g9))] H → va_D A [(h0, .inr (2, [.ref q1, .ref q2, .int 0, .int 0, .int p8, .ref q3, .int 0, .ref h1])), (q3, .inl (cB3, 26, .inl g9))] → va_S A s.heap H locs → lv_has ls 3 [(2, .int (nI i)), (0, .ref h0), (1, .ref h1)] → W p l e (headSpec wm_X2_begin ({ frames := 0, cells := 0, slots := 0, locals := 0 })).room s m ([.ref h0, .ref h1] : List Value).toArray below meth c H locs (0) (0) (MQ below (va_Qv (fun _ : Unit => True) (fun _ t => va_P (dC, dI) vwCl [] t.heap ∧ va_K (dC, dI) vwCl [] t ∧ va_D A []) A) ([.ref h0, .ref h1] : List Value).toArray s 0 0 A) (F0 m 22 ls []) := by
    intro n
    induction n with
    | zero =>
      intro i g9 H locs ls hi9  hP hD hS hl
      obtain rfl : i = 26 := by omega
      have hl : lv_has ls 3 [(2, .int 26), (0, .ref h0), (1, .ref h1)] := hl
      refine lv_iload_n hx hb dX2_begin_22 rfl (lv_at hl 0 rfl) ?_
      refine lv_bipush (v := 26) hx hb dX2_begin_23 (by decide) ?_
      refine lv_icmp_ge (tgt := 41) hx hb dX2_begin_25 (by decide) (fun _ => ?_) (fun c_1 => absurd (by decide) c_1)
      have hP9 := hP.sub (ws' := []) [] rfl
      have hD9 := hD.sub (ws' := []) [] (by decide) rfl
      have hK9 := hK.sub (tys' := []) [] rfl
      refine W.widen (k := 0) (n := 0) (Nat.le_of_ble_eq_true rfl) (Nat.le_of_ble_eq_true rfl) ?_
      exact W.vret hx hb hr (fun t ht hW => ⟨⟨(), rfl, trivial, by rw [ht]; exact hP9, va_K.moved hW.alike hK9, hD9⟩, hS.F ht⟩) hS.2.2 dX2_begin_41
    | succ n ih =>
      intro i g9 H locs ls hi9  hP hD hS hl
      have hlt : i < 26 := by omega
      refine lv_iload_n hx hb dX2_begin_22 rfl (lv_at hl 0 rfl) ?_
      refine lv_bipush (v := 26) hx hb dX2_begin_23 (by decide) ?_
      refine lv_icmp_ge (tgt := 41) hx hb dX2_begin_25 (by decide) (fun c_2 => absurd c_2 (nI_ge hlt (by decide))) (fun _ => ?_)
      refine lv_aload_n hx hb dX2_begin_28 rfl (lv_at hl 1 rfl) ?_
      refine va_get (D := (dC, dI)) (ci := 2) (v := .ref q3) (C := RX2) (T := TX2) (N := 8) hx hb htb inX2 hown hK hP 0 rfl rfl 5 (by decide) (htb _ kw_137) (fun _ h9 => h9) rfl dX2_begin_29 ?_
      refine lv_iload_n hx hb dX2_begin_32 rfl (lv_at hl 0 rfl) ?_
      refine lv_iconst (v := (-1)) hx hb dX2_begin_33 (by decide) ?_
      refine va_iast (D := (dC, dI)) hx hb hK hP hD hS 1 0 rfl rfl (vp_in_nI hlt (by decide)) dX2_begin_34 (fun H locs hP hD hS => ?_)
      have hP : va_P (dC, dI) vwCl [(h0, .inr (2, [.ref q1, .ref q2, .int 0, .int 0, .int p8, .ref q3, .int 0, .ref h1])), (q3, .inl (cB3, 26, .inl (upd g9 (nI i : Int32).toNatClampNeg (-1))))] H := hP
      have hD : va_D A [(h0, .inr (2, [.ref q1, .ref q2, .int 0, .int 0, .int p8, .ref q3, .int 0, .ref h1])), (q3, .inl (cB3, 26, .inl (upd g9 (nI i : Int32).toNatClampNeg (-1))))] := hD
      refine lv_iinc (v := nI (i + 1)) (lv' := [(2, .int (nI (i + 1))), (0, .ref h0), (1, .ref h1)]) hx hb dX2_begin_35 hl (k := 0) rfl (nI_1 i) (by decide) rfl (fun ls hl => ?_)
      refine lv_goto (tgt := 22) hx hb dX2_begin_38 (by decide) ?_
      exact ih (i + 1) (upd g9 (nI i : Int32).toNatClampNeg (-1)) _ _ _ (by omega) (hP.sub [0, 1] rfl) (hD.sub [0, 1] (by decide) rfl) hS (lv_sub hl [0, 1, 2] rfl)
  exact hloop 26 0 g3 _ _ _ rfl hP hD hS hl

set_option maxHeartbeats 4000000 in
set_option maxRecDepth 100000 in
theorem c_X8_describe (l : Launch) (dC : Nat → ClassId) (dI : Nat → Nat → Nat) (sz : Nat) (h0 : Nat) (p1 : Int32) (z : Int32) (p3 : Int32) (p4 : Int32) (q5 : Nat) (hz : narrow .boolean (.int z) = .int z) (hz2 : fits .boolean (.int z) = true) : Met l yX8_describe wm_X8_describe ({ frames := 0, cells := 0, slots := 0, locals := 0 }) (va_Pc [.ref h0, .int p1, .int z, .int p3] (fun U => U.heap.size = sz ∧ va_P (dC, dI) vwCl [(h0, .inr (8, [.int p4, .int 0, .ref q5, .int 0, .int 0, .int 0, .int 0]))] U.heap ∧ va_K (dC, dI) vwCl [] U ∧ va_D (fun _ => True) [(h0, .inr (8, [.int p4, .int 0, .ref q5, .int 0, .int 0, .int 0, .int 0]))])) (va_Qv (fun _ : Unit => True) (fun _ t => va_P (dC, dI) vwCl [(h0, .inr (8, [.int p4, .int 0, .ref q5, .int 0, .int p1, .int z, .int p3]))] t.heap ∧ va_K (dC, dI) vwCl [] t ∧ va_D (va_A [(h0, .inr (8, [.int p4, .int 0, .ref q5, .int 0, .int 0, .int 0, .int 0]))] sz) [(h0, .inr (8, [.int p4, .int 0, .ref q5, .int 0, .int p1, .int z, .int p3]))]) (va_A [(h0, .inr (8, [.int p4, .int 0, .ref q5, .int 0, .int 0, .int 0, .int 0]))] sz)) 0 0 (va_A [(h0, .inr (8, [.int p4, .int 0, .ref q5, .int 0, .int 0, .int 0, .int 0]))] sz) := by
  refine Met.ofW (cc := cX8_describe) (maxL := 4) (ret := none) (by decide) rfl ?_
  intro p e s m args below meth c s₁ B hml hv
  obtain ⟨rfl, hsz, hP, hK, hD0⟩ := hv
  have hx := B.exec
  have hb := B.bytes
  have hr := B.returns
  have hts := atoms_spec (ws := wm_X8_describe) B.pre
  have htb := fun (w : Cond) (h : w ∈ tb) => hts w (List.mem_cons_of_mem _ h)
  have hown : s.vm.findClass RX8 = some m.cls := findClass_of_methodNamed B.named
  have hlocks := B.notSynchronized
  subst hsz
  have hD := hD0.self (sz := s.heap.size)
  generalize hAe : va_A [(h0, .inr (8, [.int p4, .int 0, .ref q5, .int 0, .int 0, .int 0, .int 0]))] s.heap.size = A at hD ⊢
  have hA : ∀ q : Nat, s.heap.size ≤ q → A q := fun q h => by rw [← hAe]; exact Or.inr h
  have hS : va_S A s.heap s.heap [] := va_S.rf
  have hP : va_P (dC, dI) vwCl [(h0, .inr (8, [.int p4, .int 0, .ref q5, .int 0, .int 0, .int 0, .int 0]))] s.heap := hP
  have hl := lv_entry ([.ref h0, .int p1, .int z, .int p3]) (n := 4) (Nat.le_of_ble_eq_true rfl)
  rw [lg_entry_eq]
  generalize (lg_sl ([.ref h0, .int p1, .int z, .int p3]) ++ List.replicate (4 - (lg_sl ([.ref h0, .int p1, .int z, .int p3])).length) Slot.unset).toArray = ls at hl ⊢
  have hl : lv_has ls 4 [(0, .ref h0), (1, .int p1), (2, .int z), (3, .int p3)] := hl
  refine lv_aload_n hx hb dX8_describe_0 rfl (lv_at hl 0 rfl) ?_
  refine lv_iload_n hx hb dX8_describe_1 rfl (lv_at hl 1 rfl) ?_
  refine va_put (D := (dC, dI)) (ci := 8) (v := .int p1) (ty := .int) (C := RX8) (T := TX8) (N := 7) hx hb htb inX8 tyX8 tyX8_ok nmX8 hown hK hP hD hS 0 rfl rfl 4 (by decide) (htb _ kw_124) (fun _ h9 => h9) rfl (tyX8_ok 4 (by decide)) rfl rfl (Nat.le_of_ble_eq_true rfl) dX8_describe_2 (fun H locs hP hD hS => ?_)
  have hP : va_P (dC, dI) vwCl [(h0, .inr (8, [.int p4, .int 0, .ref q5, .int 0, .int p1, .int 0, .int 0]))] H := hP
  have hD : va_D A [(h0, .inr (8, [.int p4, .int 0, .ref q5, .int 0, .int p1, .int 0, .int 0]))] := hD
  refine lv_aload_n hx hb dX8_describe_5 rfl (lv_at hl 0 rfl) ?_
  refine lv_iload_n hx hb dX8_describe_6 rfl (lv_at hl 2 rfl) ?_
  refine va_put (D := (dC, dI)) (ci := 8) (v := .int z) (ty := .boolean) (C := RX8) (T := TX8) (N := 7) hx hb htb inX8 tyX8 tyX8_ok nmX8 hown hK hP hD hS 0 rfl rfl 5 (by decide) (htb _ kw_125) (fun _ h9 => h9) rfl (tyX8_ok 5 (by decide)) hz hz2 (Nat.le_of_ble_eq_true rfl) dX8_describe_7 (fun H locs hP hD hS => ?_)
  have hP : va_P (dC, dI) vwCl [(h0, .inr (8, [.int p4, .int 0, .ref q5, .int 0, .int p1, .int z, .int 0]))] H := hP
  have hD : va_D A [(h0, .inr (8, [.int p4, .int 0, .ref q5, .int 0, .int p1, .int z, .int 0]))] := hD
  refine lv_aload_n hx hb dX8_describe_10 rfl (lv_at hl 0 rfl) ?_
  refine lv_iload_n hx hb dX8_describe_11 rfl (lv_at hl 3 rfl) ?_
  refine va_put (D := (dC, dI)) (ci := 8) (v := .int p3) (ty := .int) (C := RX8) (T := TX8) (N := 7) hx hb htb inX8 tyX8 tyX8_ok nmX8 hown hK hP hD hS 0 rfl rfl 6 (by decide) (htb _ kw_126) (fun _ h9 => h9) rfl (tyX8_ok 6 (by decide)) rfl rfl (Nat.le_of_ble_eq_true rfl) dX8_describe_12 (fun H locs hP hD hS => ?_)
  have hP : va_P (dC, dI) vwCl [(h0, .inr (8, [.int p4, .int 0, .ref q5, .int 0, .int p1, .int z, .int p3]))] H := hP
  have hD : va_D A [(h0, .inr (8, [.int p4, .int 0, .ref q5, .int 0, .int p1, .int z, .int p3]))] := hD
  have hP9 := hP.sub (ws' := [(h0, .inr (8, [.int p4, .int 0, .ref q5, .int 0, .int p1, .int z, .int p3]))]) [0] rfl
  have hD9 := hD.sub (ws' := [(h0, .inr (8, [.int p4, .int 0, .ref q5, .int 0, .int p1, .int z, .int p3]))]) [0] (by decide) rfl
  have hK9 := hK.sub (tys' := []) [] rfl
  refine W.widen (k := 0) (n := 0) (Nat.le_of_ble_eq_true rfl) (Nat.le_of_ble_eq_true rfl) ?_
  exact W.vret hx hb hr (fun t ht hW => ⟨⟨(), rfl, trivial, by rw [ht]; exact hP9, va_K.moved hW.alike hK9, hD9⟩, hS.F ht⟩) hS.2.2 dX8_describe_15

set_option maxHeartbeats 4000000 in
set_option maxRecDepth 100000 in
theorem c_X8_setTypes (l : Launch) (dC : Nat → ClassId) (dI : Nat → Nat → Nat) (sz : Nat) (h0 : Nat) (p0 : Int32) (p5 : Int32) (p6 : Int32) (p7 : Int32) (p4 : Int32) (q5 : Nat) (p1 : Int32) (z : Int32) (p3 : Int32) (cB5 : ClassId) : Met l yX8_setTypes wm_X8_setTypes ({ frames := 0, cells := 0, slots := 0, locals := 0 }) (va_Pc [.ref h0, .int p0, .int p5, .int p6, .int p7] (fun U => U.heap.size = sz ∧ va_P (dC, dI) vwCl [(h0, .inr (8, [.int p4, .int 0, .ref q5, .int 0, .int p1, .int z, .int p3])), (q5, .inl (cB5, 3, .inl (fun _ => 0)))] U.heap ∧ va_K (dC, dI) vwCl [(cB5, .int)] U ∧ va_D (fun _ => True) [(h0, .inr (8, [.int p4, .int 0, .ref q5, .int 0, .int p1, .int z, .int p3])), (q5, .inl (cB5, 3, .inl (fun _ => 0)))])) (va_Qv (fun _ : Unit => True) (fun _ t => va_P (dC, dI) vwCl [] t.heap ∧ va_K (dC, dI) vwCl [] t ∧ va_D (va_A [(h0, .inr (8, [.int p4, .int 0, .ref q5, .int 0, .int p1, .int z, .int p3])), (q5, .inl (cB5, 3, .inl (fun _ => 0)))] sz) []) (va_A [(h0, .inr (8, [.int p4, .int 0, .ref q5, .int 0, .int p1, .int z, .int p3])), (q5, .inl (cB5, 3, .inl (fun _ => 0)))] sz)) 0 0 (va_A [(h0, .inr (8, [.int p4, .int 0, .ref q5, .int 0, .int p1, .int z, .int p3])), (q5, .inl (cB5, 3, .inl (fun _ => 0)))] sz) := by
  refine Met.ofW (cc := cX8_setTypes) (maxL := 5) (ret := none) (by decide) rfl ?_
  intro p e s m args below meth c s₁ B hml hv
  obtain ⟨rfl, hsz, hP, hK, hD0⟩ := hv
  have hx := B.exec
  have hb := B.bytes
  have hr := B.returns
  have hts := atoms_spec (ws := wm_X8_setTypes) B.pre
  have htb := fun (w : Cond) (h : w ∈ tb) => hts w (List.mem_cons_of_mem _ h)
  have hown : s.vm.findClass RX8 = some m.cls := findClass_of_methodNamed B.named
  have hlocks := B.notSynchronized
  subst hsz
  have hD := hD0.self (sz := s.heap.size)
  generalize hAe : va_A [(h0, .inr (8, [.int p4, .int 0, .ref q5, .int 0, .int p1, .int z, .int p3])), (q5, .inl (cB5, 3, .inl (fun _ => 0)))] s.heap.size = A at hD ⊢
  have hA : ∀ q : Nat, s.heap.size ≤ q → A q := fun q h => by rw [← hAe]; exact Or.inr h
  have hS : va_S A s.heap s.heap [] := va_S.rf
  have hP : va_P (dC, dI) vwCl [(h0, .inr (8, [.int p4, .int 0, .ref q5, .int 0, .int p1, .int z, .int p3])), (q5, .inl (cB5, 3, .inl (fun _ => 0)))] s.heap := hP
  have hl := lv_entry ([.ref h0, .int p0, .int p5, .int p6, .int p7]) (n := 5) (Nat.le_of_ble_eq_true rfl)
  rw [lg_entry_eq]
  generalize (lg_sl ([.ref h0, .int p0, .int p5, .int p6, .int p7]) ++ List.replicate (5 - (lg_sl ([.ref h0, .int p0, .int p5, .int p6, .int p7])).length) Slot.unset).toArray = ls at hl ⊢
  have hl : lv_has ls 5 [(0, .ref h0), (1, .int p0), (2, .int p5), (3, .int p6), (4, .int p7)] := hl
  refine lv_aload_n hx hb dX8_setTypes_0 rfl (lv_at hl 0 rfl) ?_
  refine lv_iload_n hx hb dX8_setTypes_1 rfl (lv_at hl 1 rfl) ?_
  refine va_put (D := (dC, dI)) (ci := 8) (v := .int p0) (ty := .int) (C := RX8) (T := TX8) (N := 7) hx hb htb inX8 tyX8 tyX8_ok nmX8 hown hK hP hD hS 0 rfl rfl 3 (by decide) (htb _ kw_127) (fun _ h9 => h9) rfl (tyX8_ok 3 (by decide)) rfl rfl (Nat.le_of_ble_eq_true rfl) dX8_setTypes_2 (fun H locs hP hD hS => ?_)
  have hP : va_P (dC, dI) vwCl [(h0, .inr (8, [.int p4, .int 0, .ref q5, .int p0, .int p1, .int z, .int p3])), (q5, .inl (cB5, 3, .inl (fun _ => 0)))] H := hP
  have hD : va_D A [(h0, .inr (8, [.int p4, .int 0, .ref q5, .int p0, .int p1, .int z, .int p3])), (q5, .inl (cB5, 3, .inl (fun _ => 0)))] := hD
  refine lv_aload_n hx hb dX8_setTypes_5 rfl (lv_at hl 0 rfl) ?_
  refine va_get (D := (dC, dI)) (ci := 8) (v := .ref q5) (C := RX8) (T := TX8) (N := 7) hx hb htb inX8 hown hK hP 0 rfl rfl 2 (by decide) (htb _ kw_123) (fun _ h9 => h9) rfl dX8_setTypes_6 ?_
  refine lv_iconst (v := 0) hx hb dX8_setTypes_9 (by decide) ?_
  refine lv_iload_n hx hb dX8_setTypes_10 rfl (lv_at hl 2 rfl) ?_
  refine va_iast (D := (dC, dI)) hx hb hK hP hD hS 1 0 rfl rfl (by unfold vp_in; decide) dX8_setTypes_11 (fun H locs hP hD hS => ?_)
  have hP : va_P (dC, dI) vwCl [(h0, .inr (8, [.int p4, .int 0, .ref q5, .int p0, .int p1, .int z, .int p3])), (q5, .inl (cB5, 3, .inl (upd (fun _ => 0) (0 : Int32).toNatClampNeg p5)))] H := hP
  have hD : va_D A [(h0, .inr (8, [.int p4, .int 0, .ref q5, .int p0, .int p1, .int z, .int p3])), (q5, .inl (cB5, 3, .inl (upd (fun _ => 0) (0 : Int32).toNatClampNeg p5)))] := hD
  refine lv_aload_n hx hb dX8_setTypes_12 rfl (lv_at hl 0 rfl) ?_
  refine va_get (D := (dC, dI)) (ci := 8) (v := .ref q5) (C := RX8) (T := TX8) (N := 7) hx hb htb inX8 hown hK hP 0 rfl rfl 2 (by decide) (htb _ kw_123) (fun _ h9 => h9) rfl dX8_setTypes_13 ?_
  refine lv_iconst (v := 1) hx hb dX8_setTypes_16 (by decide) ?_
  refine lv_iload_n hx hb dX8_setTypes_17 rfl (lv_at hl 3 rfl) ?_
  refine va_iast (D := (dC, dI)) hx hb hK hP hD hS 1 0 rfl rfl (by unfold vp_in; decide) dX8_setTypes_18 (fun H locs hP hD hS => ?_)
  have hP : va_P (dC, dI) vwCl [(h0, .inr (8, [.int p4, .int 0, .ref q5, .int p0, .int p1, .int z, .int p3])), (q5, .inl (cB5, 3, .inl (upd (upd (fun _ => 0) (0 : Int32).toNatClampNeg p5) (1 : Int32).toNatClampNeg p6)))] H := hP
  have hD : va_D A [(h0, .inr (8, [.int p4, .int 0, .ref q5, .int p0, .int p1, .int z, .int p3])), (q5, .inl (cB5, 3, .inl (upd (upd (fun _ => 0) (0 : Int32).toNatClampNeg p5) (1 : Int32).toNatClampNeg p6)))] := hD
  refine lv_aload_n hx hb dX8_setTypes_19 rfl (lv_at hl 0 rfl) ?_
  refine va_get (D := (dC, dI)) (ci := 8) (v := .ref q5) (C := RX8) (T := TX8) (N := 7) hx hb htb inX8 hown hK hP 0 rfl rfl 2 (by decide) (htb _ kw_123) (fun _ h9 => h9) rfl dX8_setTypes_20 ?_
  refine lv_iconst (v := 2) hx hb dX8_setTypes_23 (by decide) ?_
  refine lv_iload hx hb dX8_setTypes_24 (lv_at hl 4 rfl) ?_
  refine va_iast (D := (dC, dI)) hx hb hK hP hD hS 1 0 rfl rfl (by unfold vp_in; decide) dX8_setTypes_26 (fun H locs hP hD hS => ?_)
  have hP : va_P (dC, dI) vwCl [(h0, .inr (8, [.int p4, .int 0, .ref q5, .int p0, .int p1, .int z, .int p3])), (q5, .inl (cB5, 3, .inl (upd (upd (upd (fun _ => 0) (0 : Int32).toNatClampNeg p5) (1 : Int32).toNatClampNeg p6) (2 : Int32).toNatClampNeg p7)))] H := hP
  have hD : va_D A [(h0, .inr (8, [.int p4, .int 0, .ref q5, .int p0, .int p1, .int z, .int p3])), (q5, .inl (cB5, 3, .inl (upd (upd (upd (fun _ => 0) (0 : Int32).toNatClampNeg p5) (1 : Int32).toNatClampNeg p6) (2 : Int32).toNatClampNeg p7)))] := hD
  have hP9 := hP.sub (ws' := []) [] rfl
  have hD9 := hD.sub (ws' := []) [] (by decide) rfl
  have hK9 := hK.sub (tys' := []) [] rfl
  refine W.widen (k := 0) (n := 0) (Nat.le_of_ble_eq_true rfl) (Nat.le_of_ble_eq_true rfl) ?_
  exact W.vret hx hb hr (fun t ht hW => ⟨⟨(), rfl, trivial, by rw [ht]; exact hP9, va_K.moved hW.alike hK9, hD9⟩, hS.F ht⟩) hS.2.2 dX8_setTypes_27

set_option maxHeartbeats 4000000 in
set_option maxRecDepth 100000 in
theorem c_X2_addConstructor (l : Launch) (dC : Nat → ClassId) (dI : Nat → Nat → Nat) (sz : Nat) (h0 : Nat) (p0 : Int32) (p1 : Int32) (p2 : Int32) (p3 : Int32) (q1 : Nat) (q2 : Nat) (p8 : Int32) (q3 : Nat) (cB1 : ClassId) (g1 : Nat → Option Nat) (q4 : Nat) (q5 : Nat) (cB5 : ClassId) (hg : g1 0 = some q4) : Met l yX2_addConstructor wm_X2_addConstructor ({ frames := 1, cells := 0, slots := 0, locals := 24 }) (va_Pc [.ref h0, .int p0, .int p1, .int p2, .int p3] (fun U => U.heap.size = sz ∧ va_P (dC, dI) vwCl [(h0, .inr (2, [.ref q1, .ref q2, .int 0, .int 0, .int p8, .ref q3, .int 0, .null])), (q1, .inl (cB1, 4, .inr (.inr (.inr (.inr g1))))), (q4, .inr (8, [.int p8, .int 0, .ref q5, .int 0, .int 0, .int 0, .int 0])), (q5, .inl (cB5, 3, .inl (fun _ => 0)))] U.heap ∧ va_K (dC, dI) vwCl [(cB1, .object RX8), (cB5, .int)] U ∧ va_D (fun _ => True) [(h0, .inr (2, [.ref q1, .ref q2, .int 0, .int 0, .int p8, .ref q3, .int 0, .null])), (q1, .inl (cB1, 4, .inr (.inr (.inr (.inr g1))))), (q4, .inr (8, [.int p8, .int 0, .ref q5, .int 0, .int 0, .int 0, .int 0])), (q5, .inl (cB5, 3, .inl (fun _ => 0)))])) (va_Qi (fun (r : Int32) (_ : Unit) => r = 1) (fun _ t => va_P (dC, dI) vwCl [] t.heap ∧ va_K (dC, dI) vwCl [] t ∧ va_D (va_A [(h0, .inr (2, [.ref q1, .ref q2, .int 0, .int 0, .int p8, .ref q3, .int 0, .null])), (q1, .inl (cB1, 4, .inr (.inr (.inr (.inr g1))))), (q4, .inr (8, [.int p8, .int 0, .ref q5, .int 0, .int 0, .int 0, .int 0])), (q5, .inl (cB5, 3, .inl (fun _ => 0)))] sz) []) (va_A [(h0, .inr (2, [.ref q1, .ref q2, .int 0, .int 0, .int p8, .ref q3, .int 0, .null])), (q1, .inl (cB1, 4, .inr (.inr (.inr (.inr g1))))), (q4, .inr (8, [.int p8, .int 0, .ref q5, .int 0, .int 0, .int 0, .int 0])), (q5, .inl (cB5, 3, .inl (fun _ => 0)))] sz)) 0 0 (va_A [(h0, .inr (2, [.ref q1, .ref q2, .int 0, .int 0, .int p8, .ref q3, .int 0, .null])), (q1, .inl (cB1, 4, .inr (.inr (.inr (.inr g1))))), (q4, .inr (8, [.int p8, .int 0, .ref q5, .int 0, .int 0, .int 0, .int 0])), (q5, .inl (cB5, 3, .inl (fun _ => 0)))] sz) := by
  refine Met.ofW (cc := cX2_addConstructor) (maxL := 5) (ret := (some .boolean)) (by decide) rfl ?_
  intro p e s m args below meth c s₁ B hml hv
  obtain ⟨rfl, hsz, hP, hK, hD0⟩ := hv
  have hx := B.exec
  have hb := B.bytes
  have hr := B.returns
  have hts := atoms_spec (ws := wm_X2_addConstructor) B.pre
  have htb := fun (w : Cond) (h : w ∈ tb) => hts w (List.mem_cons_of_mem _ h)
  have hown : s.vm.findClass RX2 = some m.cls := findClass_of_methodNamed B.named
  have hlocks := B.notSynchronized
  subst hsz
  have hD := hD0.self (sz := s.heap.size)
  generalize hAe : va_A [(h0, .inr (2, [.ref q1, .ref q2, .int 0, .int 0, .int p8, .ref q3, .int 0, .null])), (q1, .inl (cB1, 4, .inr (.inr (.inr (.inr g1))))), (q4, .inr (8, [.int p8, .int 0, .ref q5, .int 0, .int 0, .int 0, .int 0])), (q5, .inl (cB5, 3, .inl (fun _ => 0)))] s.heap.size = A at hD ⊢
  have hA : ∀ q : Nat, s.heap.size ≤ q → A q := fun q h => by rw [← hAe]; exact Or.inr h
  have hS : va_S A s.heap s.heap [] := va_S.rf
  have hP : va_P (dC, dI) vwCl [(h0, .inr (2, [.ref q1, .ref q2, .int 0, .int 0, .int p8, .ref q3, .int 0, .null])), (q1, .inl (cB1, 4, .inr (.inr (.inr (.inr g1))))), (q4, .inr (8, [.int p8, .int 0, .ref q5, .int 0, .int 0, .int 0, .int 0])), (q5, .inl (cB5, 3, .inl (fun _ => 0)))] s.heap := hP
  have hl := lv_entry ([.ref h0, .int p0, .int p1, .int p2, .int p3]) (n := 5) (Nat.le_of_ble_eq_true rfl)
  rw [lg_entry_eq]
  generalize (lg_sl ([.ref h0, .int p0, .int p1, .int p2, .int p3]) ++ List.replicate (5 - (lg_sl ([.ref h0, .int p0, .int p1, .int p2, .int p3])).length) Slot.unset).toArray = ls at hl ⊢
  have hl : lv_has ls 5 [(0, .ref h0), (1, .int p0), (2, .int p1), (3, .int p2), (4, .int p3)] := hl
  refine lv_aload_n hx hb dX2_addConstructor_0 rfl (lv_at hl 0 rfl) ?_
  refine va_get (D := (dC, dI)) (ci := 2) (v := .int 0) (C := RX2) (T := TX2) (N := 8) hx hb htb inX2 hown hK hP 0 rfl rfl 2 (by decide) (htb _ kw_139) (fun _ h9 => h9) rfl dX2_addConstructor_1 ?_
  refine lv_iconst (v := 4) hx hb dX2_addConstructor_4 (by decide) ?_
  refine lv_icmp_lt (tgt := 10) hx hb dX2_addConstructor_5 (by decide) (fun _ => ?_) (fun c_1 => absurd (by decide) c_1)
  refine lv_aload_n hx hb dX2_addConstructor_10 rfl (lv_at hl 0 rfl) ?_
  refine va_get (D := (dC, dI)) (ci := 2) (v := .ref q1) (C := RX2) (T := TX2) (N := 8) hx hb htb inX2 hown hK hP 0 rfl rfl 0 (by decide) (htb _ kw_131) (fun _ h9 => h9) rfl dX2_addConstructor_11 ?_
  refine lv_aload_n hx hb dX2_addConstructor_14 rfl (lv_at hl 0 rfl) ?_
  refine va_get (D := (dC, dI)) (ci := 2) (v := .int 0) (C := RX2) (T := TX2) (N := 8) hx hb htb inX2 hown hK hP 0 rfl rfl 2 (by decide) (htb _ kw_139) (fun _ h9 => h9) rfl dX2_addConstructor_15 ?_
  refine va_aldq (D := (dC, dI)) hx hb hK hP 1 0 rfl rfl (by unfold vp_in; decide) dX2_addConstructor_18 ?_
  refine W.eq (g2 := F0 m 19 ls [.ref q4]) (by rw [show g1 (0 : Int32).toNatClampNeg = some q4 from hg]; rfl) ?_
  refine lv_iconst (v := (-1)) hx hb dX2_addConstructor_19 (by decide) ?_
  refine lv_iconst (v := 0) hx hb dX2_addConstructor_20 (by decide) ?_
  refine lv_aload_n hx hb dX2_addConstructor_21 rfl (lv_at hl 0 rfl) ?_
  refine va_get (D := (dC, dI)) (ci := 2) (v := .int p8) (C := RX2) (T := TX2) (N := 8) hx hb htb inX2 hown hK hP 0 rfl rfl 4 (by decide) (htb _ kw_129) (fun _ h9 => h9) rfl dX2_addConstructor_22 ?_
  have hPc := hP.sub (ws' := [(q4, .inr (8, [.int p8, .int 0, .ref q5, .int 0, .int 0, .int 0, .int 0]))]) [2] rfl
  have hDc := hD.sub (ws' := [(q4, .inr (8, [.int p8, .int 0, .ref q5, .int 0, .int 0, .int 0, .int 0]))]) [2] (by decide) rfl
  have hKc := hK.sub (tys' := []) [] rfl
  have hFc := va_free (wc := [(q4, .inr (8, [.int p8, .int 0, .ref q5, .int 0, .int 0, .int 0, .int 0]))]) hD hS hA [2] rfl
  refine va_callv (va_runV (As := [.int (-1), .int 0, .int p8]) (rest := []) ⟨hx, hb, hml, hown, htb⟩ (c_X8_describe l dC dI s.heap.size q4 (-1) 0 p8 p8 q5 rfl rfl) (cwV 3 htb (gd_V kw_142 kw_143 kw_144 kw_133 kw_558) rfl rfl rfl (by decide +kernel) ⟨Nat.le_of_ble_eq_true rfl, Nat.le_of_ble_eq_true rfl⟩) ⟨fun a U g mk q => by obtain ⟨q0, q1, qP, qK, qD⟩ := q; exact ⟨q0, q1, qP, va_K.moved (u := U) (U := U.calling g mk a) (Vm.Alike.refl U.vm) qK, qD⟩, va_recv hKc hPc (ci := 8) (q0 := 0) rfl rfl, fun U hU hW => ⟨rfl, by rw [hU], by rw [hU]; exact hPc, va_K.moved hW.alike hKc, hDc.weaken (fun _ _ _ _ => trivial)⟩⟩ rfl rfl hl.1 rfl (lv_room (Nat.le_of_ble_eq_true rfl)) dX2_addConstructor_25 ⟨(Nat.le_of_ble_eq_true rfl), (Nat.le_of_ble_eq_true rfl)⟩) hS (fun q _ h => hFc q h) hFc (fun u t H1 locs ht hvm hw hB hz1 hk1 hS => ?_)
  obtain ⟨hP1, hK1, hD1⟩ := hB
  rw [ht] at hP1
  have hK1 := va_K.moved hvm.symm hK1
  obtain ⟨hP, hD⟩ := va_join (wr := [(h0, .inr (2, [.ref q1, .ref q2, .int 0, .int 0, .int p8, .ref q3, .int 0, .null])), (q1, .inl (cB1, 4, .inr (.inr (.inr (.inr g1))))), (q5, .inl (cB5, 3, .inl (fun _ => 0)))]) (w1 := [(q4, .inr (8, [.int p8, .int 0, .ref q5, .int 0, .int (-1), .int 0, .int p8]))]) hP hD [2] [0, 1, 3] rfl rfl (by decide) (by decide) hk1 hFc hP1 hD1
  have hK := hK.app hK1
  generalize H1 = H at hP hS ⊢
  have hP : va_P (dC, dI) vwCl [(h0, .inr (2, [.ref q1, .ref q2, .int 0, .int 0, .int p8, .ref q3, .int 0, .null])), (q1, .inl (cB1, 4, .inr (.inr (.inr (.inr g1))))), (q5, .inl (cB5, 3, .inl (fun _ => 0))), (q4, .inr (8, [.int p8, .int 0, .ref q5, .int 0, .int (-1), .int 0, .int p8]))] H := hP
  have hD : va_D A [(h0, .inr (2, [.ref q1, .ref q2, .int 0, .int 0, .int p8, .ref q3, .int 0, .null])), (q1, .inl (cB1, 4, .inr (.inr (.inr (.inr g1))))), (q5, .inl (cB5, 3, .inl (fun _ => 0))), (q4, .inr (8, [.int p8, .int 0, .ref q5, .int 0, .int (-1), .int 0, .int p8]))] := hD
  have hK : va_K (dC, dI) vwCl [(cB1, .object RX8), (cB5, .int)] s := hK
  refine W.widen (k := 0) (n := 0) (Nat.le_of_ble_eq_true rfl) (Nat.le_of_ble_eq_true rfl) ?_
  refine lv_aload_n hx hb dX2_addConstructor_28 rfl (lv_at hl 0 rfl) ?_
  refine va_get (D := (dC, dI)) (ci := 2) (v := .ref q1) (C := RX2) (T := TX2) (N := 8) hx hb htb inX2 hown hK hP 0 rfl rfl 0 (by decide) (htb _ kw_131) (fun _ h9 => h9) rfl dX2_addConstructor_29 ?_
  refine lv_aload_n hx hb dX2_addConstructor_32 rfl (lv_at hl 0 rfl) ?_
  refine va_get (D := (dC, dI)) (ci := 2) (v := .int 0) (C := RX2) (T := TX2) (N := 8) hx hb htb inX2 hown hK hP 0 rfl rfl 2 (by decide) (htb _ kw_139) (fun _ h9 => h9) rfl dX2_addConstructor_33 ?_
  refine va_aldq (D := (dC, dI)) hx hb hK hP 1 0 rfl rfl (by unfold vp_in; decide) dX2_addConstructor_36 ?_
  refine W.eq (g2 := F0 m 37 ls [.ref q4]) (by rw [show g1 (0 : Int32).toNatClampNeg = some q4 from hg]; rfl) ?_
  refine lv_iload_n hx hb dX2_addConstructor_37 rfl (lv_at hl 1 rfl) ?_
  refine lv_iload_n hx hb dX2_addConstructor_38 rfl (lv_at hl 2 rfl) ?_
  refine lv_iload_n hx hb dX2_addConstructor_39 rfl (lv_at hl 3 rfl) ?_
  refine lv_iload hx hb dX2_addConstructor_40 (lv_at hl 4 rfl) ?_
  have hPc := hP.sub (ws' := [(q4, .inr (8, [.int p8, .int 0, .ref q5, .int 0, .int (-1), .int 0, .int p8])), (q5, .inl (cB5, 3, .inl (fun _ => 0)))]) [3, 2] rfl
  have hDc := hD.sub (ws' := [(q4, .inr (8, [.int p8, .int 0, .ref q5, .int 0, .int (-1), .int 0, .int p8])), (q5, .inl (cB5, 3, .inl (fun _ => 0)))]) [3, 2] (by decide) rfl
  have hKc := hK.sub (tys' := [(cB5, .int)]) [1] rfl
  have hFc := va_free (wc := [(q4, .inr (8, [.int p8, .int 0, .ref q5, .int 0, .int (-1), .int 0, .int p8])), (q5, .inl (cB5, 3, .inl (fun _ => 0)))]) hD hS hA [3, 2] rfl
  refine va_callv (va_runV (As := [.int p0, .int p1, .int p2, .int p3]) (rest := []) ⟨hx, hb, hml, hown, htb⟩ (c_X8_setTypes l dC dI H.size q4 p0 p1 p2 p3 p8 q5 (-1) 0 p8 cB5) (cwV 4 htb (gd_V kw_145 kw_146 kw_147 kw_133 kw_559) rfl rfl rfl (by decide +kernel) ⟨Nat.le_of_ble_eq_true rfl, Nat.le_of_ble_eq_true rfl⟩) ⟨fun a U g mk q => by obtain ⟨q0, q1, qP, qK, qD⟩ := q; exact ⟨q0, q1, qP, va_K.moved (u := U) (U := U.calling g mk a) (Vm.Alike.refl U.vm) qK, qD⟩, va_recv hKc hPc (ci := 8) (q0 := 0) rfl rfl, fun U hU hW => ⟨rfl, by rw [hU], by rw [hU]; exact hPc, va_K.moved hW.alike hKc, hDc.weaken (fun _ _ _ _ => trivial)⟩⟩ rfl rfl hl.1 rfl (lv_room (Nat.le_of_ble_eq_true rfl)) dX2_addConstructor_42 ⟨(Nat.le_of_ble_eq_true rfl), (Nat.le_of_ble_eq_true rfl)⟩) hS (fun q _ h => hFc q h) hFc (fun u t H1 locs ht hvm hw hB hz1 hk1 hS => ?_)
  obtain ⟨hP1, hK1, hD1⟩ := hB
  rw [ht] at hP1
  have hK1 := va_K.moved hvm.symm hK1
  obtain ⟨hP, hD⟩ := va_join (wr := [(h0, .inr (2, [.ref q1, .ref q2, .int 0, .int 0, .int p8, .ref q3, .int 0, .null])), (q1, .inl (cB1, 4, .inr (.inr (.inr (.inr g1)))))]) (w1 := []) hP hD [3, 2] [0, 1] rfl rfl (by decide) (by decide) hk1 hFc hP1 hD1
  have hK := hK.app hK1
  generalize H1 = H at hP hS ⊢
  have hP : va_P (dC, dI) vwCl [(h0, .inr (2, [.ref q1, .ref q2, .int 0, .int 0, .int p8, .ref q3, .int 0, .null])), (q1, .inl (cB1, 4, .inr (.inr (.inr (.inr g1)))))] H := hP
  have hD : va_D A [(h0, .inr (2, [.ref q1, .ref q2, .int 0, .int 0, .int p8, .ref q3, .int 0, .null])), (q1, .inl (cB1, 4, .inr (.inr (.inr (.inr g1)))))] := hD
  have hK : va_K (dC, dI) vwCl [(cB1, .object RX8), (cB5, .int)] s := hK
  refine W.widen (k := 0) (n := 0) (Nat.le_of_ble_eq_true rfl) (Nat.le_of_ble_eq_true rfl) ?_
  refine lv_aload_n hx hb dX2_addConstructor_45 rfl (lv_at hl 0 rfl) ?_
  refine lv_dup hx hb dX2_addConstructor_46 rfl ?_
  refine va_get (D := (dC, dI)) (ci := 2) (v := .int 0) (C := RX2) (T := TX2) (N := 8) hx hb htb inX2 hown hK hP 0 rfl rfl 2 (by decide) (htb _ kw_139) (fun _ h9 => h9) rfl dX2_addConstructor_47 ?_
  refine lv_iconst (v := 1) hx hb dX2_addConstructor_50 (by decide) ?_
  refine lv_iadd hx hb dX2_addConstructor_51 ?_
  refine lv_topi (fun z_2 ez_2 => ?_)
  obtain rfl : z_2 = 1 := ez_2.trans (by decide)
  refine va_put (D := (dC, dI)) (ci := 2) (v := .int 1) (ty := .int) (C := RX2) (T := TX2) (N := 8) hx hb htb inX2 tyX2 tyX2_ok nmX2 hown hK hP hD hS 0 rfl rfl 2 (by decide) (htb _ kw_139) (fun _ h9 => h9) rfl (tyX2_ok 2 (by decide)) rfl rfl (Nat.le_of_ble_eq_true rfl) dX2_addConstructor_52 (fun H locs hP hD hS => ?_)
  have hP : va_P (dC, dI) vwCl [(h0, .inr (2, [.ref q1, .ref q2, .int 1, .int 0, .int p8, .ref q3, .int 0, .null])), (q1, .inl (cB1, 4, .inr (.inr (.inr (.inr g1)))))] H := hP
  have hD : va_D A [(h0, .inr (2, [.ref q1, .ref q2, .int 1, .int 0, .int p8, .ref q3, .int 0, .null])), (q1, .inl (cB1, 4, .inr (.inr (.inr (.inr g1)))))] := hD
  refine lv_iconst (v := 1) hx hb dX2_addConstructor_55 (by decide) ?_
  have hP9 := hP.sub (ws' := []) [] rfl
  have hD9 := hD.sub (ws' := []) [] (by decide) rfl
  have hK9 := hK.sub (tys' := []) [] rfl
  refine W.widen (k := 0) (n := 0) (Nat.le_of_ble_eq_true rfl) (Nat.le_of_ble_eq_true rfl) ?_
  exact W.zret (v := 1) hx hb hr rfl (fun t ht hW => ⟨⟨1, (), rfl, (rfl), by rw [ht]; exact hP9, va_K.moved hW.alike hK9, hD9⟩, hS.F ht⟩) hS.2.2 dX2_addConstructor_56

set_option maxHeartbeats 4000000 in
set_option maxRecDepth 100000 in
theorem c_X2_addFactory (l : Launch) (dC : Nat → ClassId) (dI : Nat → Nat → Nat) (sz : Nat) (h0 : Nat) (p0 : Int32) (z : Int32) (p1 : Int32) (p2 : Int32) (p3 : Int32) (p4 : Int32) (p5 : Int32) (q1 : Nat) (q2 : Nat) (p8 : Int32) (q3 : Nat) (cB2 : ClassId) (g2 : Nat → Option Nat) (q6 : Nat) (q7 : Nat) (cB7 : ClassId) (hg : g2 0 = some q6) (hz : narrow .boolean (.int z) = .int z) (hz2 : fits .boolean (.int z) = true) : Met l yX2_addFactory wm_X2_addFactory ({ frames := 1, cells := 0, slots := 0, locals := 24 }) (va_Pc [.ref h0, .int p0, .int z, .int p1, .int p2, .int p3, .int p4, .int p5] (fun U => U.heap.size = sz ∧ va_P (dC, dI) vwCl [(h0, .inr (2, [.ref q1, .ref q2, .int 0, .int 0, .int p8, .ref q3, .int 0, .null])), (q2, .inl (cB2, 4, .inr (.inr (.inr (.inr g2))))), (q6, .inr (8, [.int p8, .int 0, .ref q7, .int 0, .int 0, .int 0, .int 0])), (q7, .inl (cB7, 3, .inl (fun _ => 0)))] U.heap ∧ va_K (dC, dI) vwCl [(cB2, .object RX8), (cB7, .int)] U ∧ va_D (fun _ => True) [(h0, .inr (2, [.ref q1, .ref q2, .int 0, .int 0, .int p8, .ref q3, .int 0, .null])), (q2, .inl (cB2, 4, .inr (.inr (.inr (.inr g2))))), (q6, .inr (8, [.int p8, .int 0, .ref q7, .int 0, .int 0, .int 0, .int 0])), (q7, .inl (cB7, 3, .inl (fun _ => 0)))])) (va_Qi (fun (r : Int32) (_ : Unit) => r = 1) (fun _ t => va_P (dC, dI) vwCl [] t.heap ∧ va_K (dC, dI) vwCl [] t ∧ va_D (va_A [(h0, .inr (2, [.ref q1, .ref q2, .int 0, .int 0, .int p8, .ref q3, .int 0, .null])), (q2, .inl (cB2, 4, .inr (.inr (.inr (.inr g2))))), (q6, .inr (8, [.int p8, .int 0, .ref q7, .int 0, .int 0, .int 0, .int 0])), (q7, .inl (cB7, 3, .inl (fun _ => 0)))] sz) []) (va_A [(h0, .inr (2, [.ref q1, .ref q2, .int 0, .int 0, .int p8, .ref q3, .int 0, .null])), (q2, .inl (cB2, 4, .inr (.inr (.inr (.inr g2))))), (q6, .inr (8, [.int p8, .int 0, .ref q7, .int 0, .int 0, .int 0, .int 0])), (q7, .inl (cB7, 3, .inl (fun _ => 0)))] sz)) 0 0 (va_A [(h0, .inr (2, [.ref q1, .ref q2, .int 0, .int 0, .int p8, .ref q3, .int 0, .null])), (q2, .inl (cB2, 4, .inr (.inr (.inr (.inr g2))))), (q6, .inr (8, [.int p8, .int 0, .ref q7, .int 0, .int 0, .int 0, .int 0])), (q7, .inl (cB7, 3, .inl (fun _ => 0)))] sz) := by
  refine Met.ofW (cc := cX2_addFactory) (maxL := 8) (ret := (some .boolean)) (by decide) rfl ?_
  intro p e s m args below meth c s₁ B hml hv
  obtain ⟨rfl, hsz, hP, hK, hD0⟩ := hv
  have hx := B.exec
  have hb := B.bytes
  have hr := B.returns
  have hts := atoms_spec (ws := wm_X2_addFactory) B.pre
  have htb := fun (w : Cond) (h : w ∈ tb) => hts w (List.mem_cons_of_mem _ h)
  have hown : s.vm.findClass RX2 = some m.cls := findClass_of_methodNamed B.named
  have hlocks := B.notSynchronized
  subst hsz
  have hD := hD0.self (sz := s.heap.size)
  generalize hAe : va_A [(h0, .inr (2, [.ref q1, .ref q2, .int 0, .int 0, .int p8, .ref q3, .int 0, .null])), (q2, .inl (cB2, 4, .inr (.inr (.inr (.inr g2))))), (q6, .inr (8, [.int p8, .int 0, .ref q7, .int 0, .int 0, .int 0, .int 0])), (q7, .inl (cB7, 3, .inl (fun _ => 0)))] s.heap.size = A at hD ⊢
  have hA : ∀ q : Nat, s.heap.size ≤ q → A q := fun q h => by rw [← hAe]; exact Or.inr h
  have hS : va_S A s.heap s.heap [] := va_S.rf
  have hP : va_P (dC, dI) vwCl [(h0, .inr (2, [.ref q1, .ref q2, .int 0, .int 0, .int p8, .ref q3, .int 0, .null])), (q2, .inl (cB2, 4, .inr (.inr (.inr (.inr g2))))), (q6, .inr (8, [.int p8, .int 0, .ref q7, .int 0, .int 0, .int 0, .int 0])), (q7, .inl (cB7, 3, .inl (fun _ => 0)))] s.heap := hP
  have hl := lv_entry ([.ref h0, .int p0, .int z, .int p1, .int p2, .int p3, .int p4, .int p5]) (n := 8) (Nat.le_of_ble_eq_true rfl)
  rw [lg_entry_eq]
  generalize (lg_sl ([.ref h0, .int p0, .int z, .int p1, .int p2, .int p3, .int p4, .int p5]) ++ List.replicate (8 - (lg_sl ([.ref h0, .int p0, .int z, .int p1, .int p2, .int p3, .int p4, .int p5])).length) Slot.unset).toArray = ls at hl ⊢
  have hl : lv_has ls 8 [(0, .ref h0), (1, .int p0), (2, .int z), (3, .int p1), (4, .int p2), (5, .int p3), (6, .int p4), (7, .int p5)] := hl
  refine lv_aload_n hx hb dX2_addFactory_0 rfl (lv_at hl 0 rfl) ?_
  refine va_get (D := (dC, dI)) (ci := 2) (v := .int 0) (C := RX2) (T := TX2) (N := 8) hx hb htb inX2 hown hK hP 0 rfl rfl 3 (by decide) (htb _ kw_140) (fun _ h9 => h9) rfl dX2_addFactory_1 ?_
  refine lv_iconst (v := 4) hx hb dX2_addFactory_4 (by decide) ?_
  refine lv_icmp_lt (tgt := 10) hx hb dX2_addFactory_5 (by decide) (fun _ => ?_) (fun c_1 => absurd (by decide) c_1)
  refine lv_aload_n hx hb dX2_addFactory_10 rfl (lv_at hl 0 rfl) ?_
  refine va_get (D := (dC, dI)) (ci := 2) (v := .ref q2) (C := RX2) (T := TX2) (N := 8) hx hb htb inX2 hown hK hP 0 rfl rfl 1 (by decide) (htb _ kw_132) (fun _ h9 => h9) rfl dX2_addFactory_11 ?_
  refine lv_aload_n hx hb dX2_addFactory_14 rfl (lv_at hl 0 rfl) ?_
  refine va_get (D := (dC, dI)) (ci := 2) (v := .int 0) (C := RX2) (T := TX2) (N := 8) hx hb htb inX2 hown hK hP 0 rfl rfl 3 (by decide) (htb _ kw_140) (fun _ h9 => h9) rfl dX2_addFactory_15 ?_
  refine va_aldq (D := (dC, dI)) hx hb hK hP 1 0 rfl rfl (by unfold vp_in; decide) dX2_addFactory_18 ?_
  refine W.eq (g2 := F0 m 19 ls [.ref q6]) (by rw [show g2 (0 : Int32).toNatClampNeg = some q6 from hg]; rfl) ?_
  refine lv_iload_n hx hb dX2_addFactory_19 rfl (lv_at hl 1 rfl) ?_
  refine lv_iload_n hx hb dX2_addFactory_20 rfl (lv_at hl 2 rfl) ?_
  refine lv_iload_n hx hb dX2_addFactory_21 rfl (lv_at hl 3 rfl) ?_
  have hPc := hP.sub (ws' := [(q6, .inr (8, [.int p8, .int 0, .ref q7, .int 0, .int 0, .int 0, .int 0]))]) [2] rfl
  have hDc := hD.sub (ws' := [(q6, .inr (8, [.int p8, .int 0, .ref q7, .int 0, .int 0, .int 0, .int 0]))]) [2] (by decide) rfl
  have hKc := hK.sub (tys' := []) [] rfl
  have hFc := va_free (wc := [(q6, .inr (8, [.int p8, .int 0, .ref q7, .int 0, .int 0, .int 0, .int 0]))]) hD hS hA [2] rfl
  refine va_callv (va_runV (As := [.int p0, .int z, .int p1]) (rest := []) ⟨hx, hb, hml, hown, htb⟩ (c_X8_describe l dC dI s.heap.size q6 p0 z p1 p8 q7 hz hz2) (cwV 3 htb (gd_V kw_142 kw_143 kw_144 kw_133 kw_558) rfl rfl rfl (by decide +kernel) ⟨Nat.le_of_ble_eq_true rfl, Nat.le_of_ble_eq_true rfl⟩) ⟨fun a U g mk q => by obtain ⟨q0, q1, qP, qK, qD⟩ := q; exact ⟨q0, q1, qP, va_K.moved (u := U) (U := U.calling g mk a) (Vm.Alike.refl U.vm) qK, qD⟩, va_recv hKc hPc (ci := 8) (q0 := 0) rfl rfl, fun U hU hW => ⟨rfl, by rw [hU], by rw [hU]; exact hPc, va_K.moved hW.alike hKc, hDc.weaken (fun _ _ _ _ => trivial)⟩⟩ rfl rfl hl.1 rfl (lv_room (Nat.le_of_ble_eq_true rfl)) dX2_addFactory_22 ⟨(Nat.le_of_ble_eq_true rfl), (Nat.le_of_ble_eq_true rfl)⟩) hS (fun q _ h => hFc q h) hFc (fun u t H1 locs ht hvm hw hB hz1 hk1 hS => ?_)
  obtain ⟨hP1, hK1, hD1⟩ := hB
  rw [ht] at hP1
  have hK1 := va_K.moved hvm.symm hK1
  obtain ⟨hP, hD⟩ := va_join (wr := [(h0, .inr (2, [.ref q1, .ref q2, .int 0, .int 0, .int p8, .ref q3, .int 0, .null])), (q2, .inl (cB2, 4, .inr (.inr (.inr (.inr g2))))), (q7, .inl (cB7, 3, .inl (fun _ => 0)))]) (w1 := [(q6, .inr (8, [.int p8, .int 0, .ref q7, .int 0, .int p0, .int z, .int p1]))]) hP hD [2] [0, 1, 3] rfl rfl (by decide) (by decide) hk1 hFc hP1 hD1
  have hK := hK.app hK1
  generalize H1 = H at hP hS ⊢
  have hP : va_P (dC, dI) vwCl [(h0, .inr (2, [.ref q1, .ref q2, .int 0, .int 0, .int p8, .ref q3, .int 0, .null])), (q2, .inl (cB2, 4, .inr (.inr (.inr (.inr g2))))), (q7, .inl (cB7, 3, .inl (fun _ => 0))), (q6, .inr (8, [.int p8, .int 0, .ref q7, .int 0, .int p0, .int z, .int p1]))] H := hP
  have hD : va_D A [(h0, .inr (2, [.ref q1, .ref q2, .int 0, .int 0, .int p8, .ref q3, .int 0, .null])), (q2, .inl (cB2, 4, .inr (.inr (.inr (.inr g2))))), (q7, .inl (cB7, 3, .inl (fun _ => 0))), (q6, .inr (8, [.int p8, .int 0, .ref q7, .int 0, .int p0, .int z, .int p1]))] := hD
  have hK : va_K (dC, dI) vwCl [(cB2, .object RX8), (cB7, .int)] s := hK
  refine W.widen (k := 0) (n := 0) (Nat.le_of_ble_eq_true rfl) (Nat.le_of_ble_eq_true rfl) ?_
  refine lv_aload_n hx hb dX2_addFactory_25 rfl (lv_at hl 0 rfl) ?_
  refine va_get (D := (dC, dI)) (ci := 2) (v := .ref q2) (C := RX2) (T := TX2) (N := 8) hx hb htb inX2 hown hK hP 0 rfl rfl 1 (by decide) (htb _ kw_132) (fun _ h9 => h9) rfl dX2_addFactory_26 ?_
  refine lv_aload_n hx hb dX2_addFactory_29 rfl (lv_at hl 0 rfl) ?_
  refine va_get (D := (dC, dI)) (ci := 2) (v := .int 0) (C := RX2) (T := TX2) (N := 8) hx hb htb inX2 hown hK hP 0 rfl rfl 3 (by decide) (htb _ kw_140) (fun _ h9 => h9) rfl dX2_addFactory_30 ?_
  refine va_aldq (D := (dC, dI)) hx hb hK hP 1 0 rfl rfl (by unfold vp_in; decide) dX2_addFactory_33 ?_
  refine W.eq (g2 := F0 m 34 ls [.ref q6]) (by rw [show g2 (0 : Int32).toNatClampNeg = some q6 from hg]; rfl) ?_
  refine lv_iload hx hb dX2_addFactory_34 (lv_at hl 4 rfl) ?_
  refine lv_iload hx hb dX2_addFactory_36 (lv_at hl 5 rfl) ?_
  refine lv_iload hx hb dX2_addFactory_38 (lv_at hl 6 rfl) ?_
  refine lv_iload hx hb dX2_addFactory_40 (lv_at hl 7 rfl) ?_
  have hPc := hP.sub (ws' := [(q6, .inr (8, [.int p8, .int 0, .ref q7, .int 0, .int p0, .int z, .int p1])), (q7, .inl (cB7, 3, .inl (fun _ => 0)))]) [3, 2] rfl
  have hDc := hD.sub (ws' := [(q6, .inr (8, [.int p8, .int 0, .ref q7, .int 0, .int p0, .int z, .int p1])), (q7, .inl (cB7, 3, .inl (fun _ => 0)))]) [3, 2] (by decide) rfl
  have hKc := hK.sub (tys' := [(cB7, .int)]) [1] rfl
  have hFc := va_free (wc := [(q6, .inr (8, [.int p8, .int 0, .ref q7, .int 0, .int p0, .int z, .int p1])), (q7, .inl (cB7, 3, .inl (fun _ => 0)))]) hD hS hA [3, 2] rfl
  refine va_callv (va_runV (As := [.int p2, .int p3, .int p4, .int p5]) (rest := []) ⟨hx, hb, hml, hown, htb⟩ (c_X8_setTypes l dC dI H.size q6 p2 p3 p4 p5 p8 q7 p0 z p1 cB7) (cwV 4 htb (gd_V kw_145 kw_146 kw_147 kw_133 kw_559) rfl rfl rfl (by decide +kernel) ⟨Nat.le_of_ble_eq_true rfl, Nat.le_of_ble_eq_true rfl⟩) ⟨fun a U g mk q => by obtain ⟨q0, q1, qP, qK, qD⟩ := q; exact ⟨q0, q1, qP, va_K.moved (u := U) (U := U.calling g mk a) (Vm.Alike.refl U.vm) qK, qD⟩, va_recv hKc hPc (ci := 8) (q0 := 0) rfl rfl, fun U hU hW => ⟨rfl, by rw [hU], by rw [hU]; exact hPc, va_K.moved hW.alike hKc, hDc.weaken (fun _ _ _ _ => trivial)⟩⟩ rfl rfl hl.1 rfl (lv_room (Nat.le_of_ble_eq_true rfl)) dX2_addFactory_42 ⟨(Nat.le_of_ble_eq_true rfl), (Nat.le_of_ble_eq_true rfl)⟩) hS (fun q _ h => hFc q h) hFc (fun u t H1 locs ht hvm hw hB hz1 hk1 hS => ?_)
  obtain ⟨hP1, hK1, hD1⟩ := hB
  rw [ht] at hP1
  have hK1 := va_K.moved hvm.symm hK1
  obtain ⟨hP, hD⟩ := va_join (wr := [(h0, .inr (2, [.ref q1, .ref q2, .int 0, .int 0, .int p8, .ref q3, .int 0, .null])), (q2, .inl (cB2, 4, .inr (.inr (.inr (.inr g2)))))]) (w1 := []) hP hD [3, 2] [0, 1] rfl rfl (by decide) (by decide) hk1 hFc hP1 hD1
  have hK := hK.app hK1
  generalize H1 = H at hP hS ⊢
  have hP : va_P (dC, dI) vwCl [(h0, .inr (2, [.ref q1, .ref q2, .int 0, .int 0, .int p8, .ref q3, .int 0, .null])), (q2, .inl (cB2, 4, .inr (.inr (.inr (.inr g2)))))] H := hP
  have hD : va_D A [(h0, .inr (2, [.ref q1, .ref q2, .int 0, .int 0, .int p8, .ref q3, .int 0, .null])), (q2, .inl (cB2, 4, .inr (.inr (.inr (.inr g2)))))] := hD
  have hK : va_K (dC, dI) vwCl [(cB2, .object RX8), (cB7, .int)] s := hK
  refine W.widen (k := 0) (n := 0) (Nat.le_of_ble_eq_true rfl) (Nat.le_of_ble_eq_true rfl) ?_
  refine lv_aload_n hx hb dX2_addFactory_45 rfl (lv_at hl 0 rfl) ?_
  refine lv_dup hx hb dX2_addFactory_46 rfl ?_
  refine va_get (D := (dC, dI)) (ci := 2) (v := .int 0) (C := RX2) (T := TX2) (N := 8) hx hb htb inX2 hown hK hP 0 rfl rfl 3 (by decide) (htb _ kw_140) (fun _ h9 => h9) rfl dX2_addFactory_47 ?_
  refine lv_iconst (v := 1) hx hb dX2_addFactory_50 (by decide) ?_
  refine lv_iadd hx hb dX2_addFactory_51 ?_
  refine lv_topi (fun z_2 ez_2 => ?_)
  obtain rfl : z_2 = 1 := ez_2.trans (by decide)
  refine va_put (D := (dC, dI)) (ci := 2) (v := .int 1) (ty := .int) (C := RX2) (T := TX2) (N := 8) hx hb htb inX2 tyX2 tyX2_ok nmX2 hown hK hP hD hS 0 rfl rfl 3 (by decide) (htb _ kw_140) (fun _ h9 => h9) rfl (tyX2_ok 3 (by decide)) rfl rfl (Nat.le_of_ble_eq_true rfl) dX2_addFactory_52 (fun H locs hP hD hS => ?_)
  have hP : va_P (dC, dI) vwCl [(h0, .inr (2, [.ref q1, .ref q2, .int 0, .int 1, .int p8, .ref q3, .int 0, .null])), (q2, .inl (cB2, 4, .inr (.inr (.inr (.inr g2)))))] H := hP
  have hD : va_D A [(h0, .inr (2, [.ref q1, .ref q2, .int 0, .int 1, .int p8, .ref q3, .int 0, .null])), (q2, .inl (cB2, 4, .inr (.inr (.inr (.inr g2)))))] := hD
  refine lv_iconst (v := 1) hx hb dX2_addFactory_55 (by decide) ?_
  have hP9 := hP.sub (ws' := []) [] rfl
  have hD9 := hD.sub (ws' := []) [] (by decide) rfl
  have hK9 := hK.sub (tys' := []) [] rfl
  refine W.widen (k := 0) (n := 0) (Nat.le_of_ble_eq_true rfl) (Nat.le_of_ble_eq_true rfl) ?_
  exact W.zret (v := 1) hx hb hr rfl (fun t ht hW => ⟨⟨1, (), rfl, (rfl), by rw [ht]; exact hP9, va_K.moved hW.alike hK9, hD9⟩, hS.F ht⟩) hS.2.2 dX2_addFactory_56

set_option maxHeartbeats 4000000 in
set_option maxRecDepth 100000 in
theorem c_X2_addSetter (l : Launch) (dC : Nat → ClassId) (dI : Nat → Nat → Nat) (sz : Nat) (h0 : Nat) (p0 : Int32) (p1 : Int32) (q1 : Nat) (q2 : Nat) (p8 : Int32) (q3 : Nat) (cB3 : ClassId) (g3 : Nat → Int32) (hin0 : vp_in p0 26) (hg3 : (∀ j, j < 26 → g3 j = -1)) : Met l yX2_addSetter wm_X2_addSetter ({ frames := 0, cells := 0, slots := 0, locals := 0 }) (va_Pc [.ref h0, .int p0, .int p1] (fun U => U.heap.size = sz ∧ va_P (dC, dI) vwCl [(h0, .inr (2, [.ref q1, .ref q2, .int 0, .int 0, .int p8, .ref q3, .int 0, .null])), (q3, .inl (cB3, 26, .inl g3))] U.heap ∧ va_K (dC, dI) vwCl [(cB3, .int)] U ∧ va_D (fun _ => True) [(h0, .inr (2, [.ref q1, .ref q2, .int 0, .int 0, .int p8, .ref q3, .int 0, .null])), (q3, .inl (cB3, 26, .inl g3))])) (va_Qi (fun (r : Int32) (_ : Unit) => r = 1) (fun _ t => va_P (dC, dI) vwCl [] t.heap ∧ va_K (dC, dI) vwCl [] t ∧ va_D (va_A [(h0, .inr (2, [.ref q1, .ref q2, .int 0, .int 0, .int p8, .ref q3, .int 0, .null])), (q3, .inl (cB3, 26, .inl g3))] sz) []) (va_A [(h0, .inr (2, [.ref q1, .ref q2, .int 0, .int 0, .int p8, .ref q3, .int 0, .null])), (q3, .inl (cB3, 26, .inl g3))] sz)) 0 0 (va_A [(h0, .inr (2, [.ref q1, .ref q2, .int 0, .int 0, .int p8, .ref q3, .int 0, .null])), (q3, .inl (cB3, 26, .inl g3))] sz) := by
  refine Met.ofW (cc := cX2_addSetter) (maxL := 3) (ret := (some .boolean)) (by decide) rfl ?_
  intro p e s m args below meth c s₁ B hml hv
  obtain ⟨rfl, hsz, hP, hK, hD0⟩ := hv
  have hx := B.exec
  have hb := B.bytes
  have hr := B.returns
  have hts := atoms_spec (ws := wm_X2_addSetter) B.pre
  have htb := fun (w : Cond) (h : w ∈ tb) => hts w (List.mem_cons_of_mem _ h)
  have hown : s.vm.findClass RX2 = some m.cls := findClass_of_methodNamed B.named
  have hlocks := B.notSynchronized
  subst hsz
  have hD := hD0.self (sz := s.heap.size)
  generalize hAe : va_A [(h0, .inr (2, [.ref q1, .ref q2, .int 0, .int 0, .int p8, .ref q3, .int 0, .null])), (q3, .inl (cB3, 26, .inl g3))] s.heap.size = A at hD ⊢
  have hA : ∀ q : Nat, s.heap.size ≤ q → A q := fun q h => by rw [← hAe]; exact Or.inr h
  have hS : va_S A s.heap s.heap [] := va_S.rf
  have hP : va_P (dC, dI) vwCl [(h0, .inr (2, [.ref q1, .ref q2, .int 0, .int 0, .int p8, .ref q3, .int 0, .null])), (q3, .inl (cB3, 26, .inl g3))] s.heap := hP
  have hl := lv_entry ([.ref h0, .int p0, .int p1]) (n := 3) (Nat.le_of_ble_eq_true rfl)
  rw [lg_entry_eq]
  generalize (lg_sl ([.ref h0, .int p0, .int p1]) ++ List.replicate (3 - (lg_sl ([.ref h0, .int p0, .int p1])).length) Slot.unset).toArray = ls at hl ⊢
  have hl : lv_has ls 3 [(0, .ref h0), (1, .int p0), (2, .int p1)] := hl
  refine lv_aload_n hx hb dX2_addSetter_0 rfl (lv_at hl 0 rfl) ?_
  refine va_get (D := (dC, dI)) (ci := 2) (v := .int 0) (C := RX2) (T := TX2) (N := 8) hx hb htb inX2 hown hK hP 0 rfl rfl 6 (by decide) (htb _ kw_141) (fun _ h9 => h9) rfl dX2_addSetter_1 ?_
  refine lv_bipush (v := 8) hx hb dX2_addSetter_4 (by decide) ?_
  refine lv_icmp_ge (tgt := 19) hx hb dX2_addSetter_6 (by decide) (fun c_1 => absurd c_1 (by decide)) (fun _ => ?_)
  refine lv_aload_n hx hb dX2_addSetter_9 rfl (lv_at hl 0 rfl) ?_
  refine va_get (D := (dC, dI)) (ci := 2) (v := .ref q3) (C := RX2) (T := TX2) (N := 8) hx hb htb inX2 hown hK hP 0 rfl rfl 5 (by decide) (htb _ kw_137) (fun _ h9 => h9) rfl dX2_addSetter_10 ?_
  refine lv_iload_n hx hb dX2_addSetter_13 rfl (lv_at hl 1 rfl) ?_
  refine va_iald (D := (dC, dI)) hx hb hK hP 1 0 rfl rfl hin0 dX2_addSetter_14 ?_
  refine lv_iconst (v := (-1)) hx hb dX2_addSetter_15 (by decide) ?_
  refine lv_icmp_eq (tgt := 21) hx hb dX2_addSetter_16 (by decide) (fun _ => ?_) (fun c_2 => absurd (row_at hin0 hg3) c_2)
  refine lv_aload_n hx hb dX2_addSetter_21 rfl (lv_at hl 0 rfl) ?_
  refine va_get (D := (dC, dI)) (ci := 2) (v := .ref q3) (C := RX2) (T := TX2) (N := 8) hx hb htb inX2 hown hK hP 0 rfl rfl 5 (by decide) (htb _ kw_137) (fun _ h9 => h9) rfl dX2_addSetter_22 ?_
  refine lv_iload_n hx hb dX2_addSetter_25 rfl (lv_at hl 1 rfl) ?_
  refine lv_iload_n hx hb dX2_addSetter_26 rfl (lv_at hl 2 rfl) ?_
  refine va_iast (D := (dC, dI)) hx hb hK hP hD hS 1 0 rfl rfl hin0 dX2_addSetter_27 (fun H locs hP hD hS => ?_)
  have hP : va_P (dC, dI) vwCl [(h0, .inr (2, [.ref q1, .ref q2, .int 0, .int 0, .int p8, .ref q3, .int 0, .null])), (q3, .inl (cB3, 26, .inl (upd g3 (p0 : Int32).toNatClampNeg p1)))] H := hP
  have hD : va_D A [(h0, .inr (2, [.ref q1, .ref q2, .int 0, .int 0, .int p8, .ref q3, .int 0, .null])), (q3, .inl (cB3, 26, .inl (upd g3 (p0 : Int32).toNatClampNeg p1)))] := hD
  refine lv_aload_n hx hb dX2_addSetter_28 rfl (lv_at hl 0 rfl) ?_
  refine lv_dup hx hb dX2_addSetter_29 rfl ?_
  refine va_get (D := (dC, dI)) (ci := 2) (v := .int 0) (C := RX2) (T := TX2) (N := 8) hx hb htb inX2 hown hK hP 0 rfl rfl 6 (by decide) (htb _ kw_141) (fun _ h9 => h9) rfl dX2_addSetter_30 ?_
  refine lv_iconst (v := 1) hx hb dX2_addSetter_33 (by decide) ?_
  refine lv_iadd hx hb dX2_addSetter_34 ?_
  refine lv_topi (fun z_3 ez_3 => ?_)
  obtain rfl : z_3 = 1 := ez_3.trans (by decide)
  refine va_put (D := (dC, dI)) (ci := 2) (v := .int 1) (ty := .int) (C := RX2) (T := TX2) (N := 8) hx hb htb inX2 tyX2 tyX2_ok nmX2 hown hK hP hD hS 0 rfl rfl 6 (by decide) (htb _ kw_141) (fun _ h9 => h9) rfl (tyX2_ok 6 (by decide)) rfl rfl (Nat.le_of_ble_eq_true rfl) dX2_addSetter_35 (fun H locs hP hD hS => ?_)
  have hP : va_P (dC, dI) vwCl [(h0, .inr (2, [.ref q1, .ref q2, .int 0, .int 0, .int p8, .ref q3, .int 1, .null])), (q3, .inl (cB3, 26, .inl (upd g3 (p0 : Int32).toNatClampNeg p1)))] H := hP
  have hD : va_D A [(h0, .inr (2, [.ref q1, .ref q2, .int 0, .int 0, .int p8, .ref q3, .int 1, .null])), (q3, .inl (cB3, 26, .inl (upd g3 (p0 : Int32).toNatClampNeg p1)))] := hD
  refine lv_iconst (v := 1) hx hb dX2_addSetter_38 (by decide) ?_
  have hP9 := hP.sub (ws' := []) [] rfl
  have hD9 := hD.sub (ws' := []) [] (by decide) rfl
  have hK9 := hK.sub (tys' := []) [] rfl
  refine W.widen (k := 0) (n := 0) (Nat.le_of_ble_eq_true rfl) (Nat.le_of_ble_eq_true rfl) ?_
  exact W.zret (v := 1) hx hb hr rfl (fun t ht hW => ⟨⟨1, (), rfl, (rfl), by rw [ht]; exact hP9, va_K.moved hW.alike hK9, hD9⟩, hS.F ht⟩) hS.2.2 dX2_addSetter_39
