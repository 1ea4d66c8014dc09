section
/-- the first of n that stands in e -/
def fiR (f : Nat → Int) (e : Int) : Nat → Int
  | 0 => -1
  | n + 1 => if 0 ≤ fiR f e n then fiR f e n else if f n = e then (n : Int) else -1
/-- the next of n that stands where k stands -/
def nxR (f : Nat → Int) (k : Nat) : Nat → Int
  | 0 => -1
  | n + 1 => if 0 ≤ nxR f k n then nxR f k n else if k < n ∧ f n = f k then (n : Int) else -1
def cnR (f : Nat → Int) (e : Int) : Nat → Nat
  | 0 => 0
  | n + 1 => cnR f e n + (if f n = e then 1 else 0)
theorem fiR_c {f g : Nat → Int} {e : Int} : ∀ {n : Nat}, (∀ j, j < n → g j = f j) → fiR g e n = fiR f e n := by
  intro n
  induction n with
  | zero => intro _; rfl
  | succ n ih =>
    intro h
    show (if 0 ≤ fiR g e n then fiR g e n else if g n = e then (n : Int) else -1) = (if 0 ≤ fiR f e n then fiR f e n else if f n = e then (n : Int) else -1)
    rw [ih (fun j hj => h j (by omega)), h n (by omega)]
theorem nxR_c {f g : Nat → Int} {k : Nat} : ∀ {n : Nat}, (∀ j, j < n → g j = f j) → g k = f k → nxR g k n = nxR f k n := by
  intro n
  induction n with
  | zero => intro _ _; rfl
  | succ n ih =>
    intro h hk
    show (if 0 ≤ nxR g k n then nxR g k n else if k < n ∧ g n = g k then (n : Int) else -1) = (if 0 ≤ nxR f k n then nxR f k n else if k < n ∧ f n = f k then (n : Int) else -1)
    rw [ih (fun j hj => h j (by omega)) hk, h n (by omega), hk]
theorem cnR_c {f g : Nat → Int} {e : Int} : ∀ {n : Nat}, (∀ j, j < n → g j = f j) → cnR g e n = cnR f e n := by
  intro n
  induction n with
  | zero => intro _; rfl
  | succ n ih =>
    intro h
    show cnR g e n + (if g n = e then 1 else 0) = cnR f e n + (if f n = e then 1 else 0)
    rw [ih (fun j hj => h j (by omega)), h n (by omega)]
theorem fiR_p {f : Nat → Int} {e : Int} : ∀ n, fiR f e n = -1 ∧ (∀ j, j < n → ¬ f j = e) ∨ (0 ≤ fiR f e n ∧ fiR f e n < (n : Int) ∧ f (fiR f e n).toNat = e ∧ ∀ j : Nat, (j : Int) < fiR f e n → ¬ f j = e) := by
  intro n
  induction n with
  | zero => exact Or.inl ⟨rfl, fun j hj => absurd hj (Nat.not_lt_zero j)⟩
  | succ n ih =>
    show (if 0 ≤ fiR f e n then fiR f e n else if f n = e then (n : Int) else -1) = -1 ∧ _ ∨ (0 ≤ (if 0 ≤ fiR f e n then fiR f e n else if f n = e then (n : Int) else -1) ∧ (if 0 ≤ fiR f e n then fiR f e n else if f n = e then (n : Int) else -1) < ((n + 1 : Nat) : Int) ∧ f (if 0 ≤ fiR f e n then fiR f e n else if f n = e then (n : Int) else -1).toNat = e ∧ ∀ j : Nat, (j : Int) < (if 0 ≤ fiR f e n then fiR f e n else if f n = e then (n : Int) else -1) → ¬ f j = e)
    rcases ih with ⟨h1, h2⟩ | ⟨h1, h2, h3, h4⟩
    · rw [if_neg (by omega)]
      by_cases hq : f n = e
      · rw [if_pos hq]
        exact Or.inr ⟨by omega, by omega, by rw [Int.toNat_natCast]; exact hq, fun j hj => h2 j (by omega)⟩
      · rw [if_neg hq]
        refine Or.inl ⟨rfl, fun j hj => ?_⟩
        by_cases e9 : j = n
        · rw [e9]; exact hq
        · exact h2 j (by omega)
    · rw [if_pos h1]
      exact Or.inr ⟨h1, by omega, h3, h4⟩
theorem nxR_p {f : Nat → Int} {k : Nat} : ∀ n, nxR f k n = -1 ∧ (∀ j, k < j → j < n → ¬ f j = f k) ∨ (0 ≤ nxR f k n ∧ (k : Int) < nxR f k n ∧ nxR f k n < (n : Int) ∧ f (nxR f k n).toNat = f k ∧ ∀ j, k < j → (j : Int) < nxR f k n → ¬ f j = f k) := by
  intro n
  induction n with
  | zero => exact Or.inl ⟨rfl, fun j _ hj => absurd hj (Nat.not_lt_zero j)⟩
  | succ n ih =>
    show (if 0 ≤ nxR f k n then nxR f k n else if k < n ∧ f n = f k then (n : Int) else -1) = -1 ∧ _ ∨ (0 ≤ (if 0 ≤ nxR f k n then nxR f k n else if k < n ∧ f n = f k then (n : Int) else -1) ∧ (k : Int) < (if 0 ≤ nxR f k n then nxR f k n else if k < n ∧ f n = f k then (n : Int) else -1) ∧ (if 0 ≤ nxR f k n then nxR f k n else if k < n ∧ f n = f k then (n : Int) else -1) < ((n + 1 : Nat) : Int) ∧ f (if 0 ≤ nxR f k n then nxR f k n else if k < n ∧ f n = f k then (n : Int) else -1).toNat = f k ∧ ∀ j : Nat, k < j → (j : Int) < (if 0 ≤ nxR f k n then nxR f k n else if k < n ∧ f n = f k then (n : Int) else -1) → ¬ f j = f k)
    rcases ih with ⟨h1, h2⟩ | ⟨h1, h2, h3, h4, h5⟩
    · rw [if_neg (by omega)]
      by_cases hq : k < n ∧ f n = f k
      · rw [if_pos hq]
        exact Or.inr ⟨by omega, by omega, by omega, by rw [Int.toNat_natCast]; exact hq.2, fun j hj hj2 => h2 j hj (by omega)⟩
      · rw [if_neg hq]
        refine Or.inl ⟨rfl, fun j hj hj2 => ?_⟩
        by_cases e9 : j = n
        · intro w; rw [e9] at w hj; exact hq ⟨hj, w⟩
        · exact h2 j hj (by omega)
    · rw [if_pos h1]
      exact Or.inr ⟨h1, h2, by omega, h4, h5⟩
/-- the links of the class's elements are those of the row of outer ones -/
def LKS (gm : Nat → Nat → Int32) (n : Nat) : Prop := ∀ e, e < n → (gm 15 e).toInt < (e : Int) ∧ -1 ≤ (gm 15 e).toInt ∧ (gm 16 e).toInt = fiR (fun j => (gm 15 j).toInt) (e : Int) n ∧ (gm 17 e).toInt = nxR (fun j => (gm 15 j).toInt) e n ∧ (gm 18 e).toInt = (cnR (fun j => (gm 15 j).toInt) (e : Int) n : Int)
theorem LKS_k {gm gm2 : Nat → Nat → Int32} {n : Nat} (h : LKS gm n) (e15 : gm2 15 = gm 15) (e16 : gm2 16 = gm 16) (e17 : gm2 17 = gm 17) (e18 : gm2 18 = gm 18) : LKS gm2 n := by unfold LKS; rw [e15, e16, e17, e18]; exact h
theorem cnR_0 {f : Nat → Int} {e : Int} : ∀ n, (∀ j, j < n → ¬ f j = e) → cnR f e n = 0 := by
  intro n
  induction n with
  | zero => intro _; rfl
  | succ n ih =>
    intro h
    show cnR f e n + _ = 0
    rw [ih (fun j hj => h j (by omega)), if_neg (h n (by omega))]
theorem LKS_0 {gm : Nat → Nat → Int32} : LKS gm 0 := fun e he => absurd he (Nat.not_lt_zero e)
/-- one element more -/
theorem LKS_n {gm gm2 : Nat → Nat → Int32} {n : Nat} {a : Int32} (h : LKS gm n) (ha : a.toInt < (n : Int)) (ha1 : -1 ≤ a.toInt) (hn : n < 2147483647) (e15 : gm2 15 = upd (gm 15) n a)
    (hz16 : (gm2 16 n).toInt = -1) (hz17 : (gm2 17 n).toInt = -1) (hz18 : (gm2 18 n).toInt = 0)
    (h18 : ∀ e, e < n → (gm2 18 e).toInt = (gm 18 e).toInt + (if a.toInt = (e : Int) then 1 else 0))
    (h16 : ∀ e, e < n → (gm2 16 e).toInt = if a.toInt = (e : Int) ∧ (gm 16 e).toInt = -1 then (n : Int) else (gm 16 e).toInt)
    (h17 : ∀ e, e < n → (gm2 17 e).toInt = if (gm 15 e).toInt = a.toInt ∧ 0 ≤ a.toInt ∧ (gm 17 e).toInt = -1 then (n : Int) else (gm 17 e).toInt) (hr : a.toInt = -1 → n = 0) : LKS gm2 (n + 1) := by
  have hf : ∀ j, j < n → (gm2 15 j).toInt = (gm 15 j).toInt := fun j hj => by rw [e15, upd_ne (by omega)]
  have hfn : (gm2 15 n).toInt = a.toInt := by rw [e15, upd_at]
  intro e he
  by_cases e9 : e = n
  · subst e9
    have hno : ∀ j, j < e → ¬ (gm2 15 j).toInt = (e : Int) := fun j hj q => by rw [hf j hj] at q; have := (h j hj).1; omega
    refine ⟨by rw [hfn]; exact ha, by rw [hfn]; exact ha1, ?_, ?_, ?_⟩
    · rw [hz16]
      rcases fiR_p (f := fun j => (gm2 15 j).toInt) (e := (e : Int)) (e + 1) with ⟨q1, _⟩ | ⟨q1, q2, q3, _⟩
      · exact q1.symm
      · exfalso
        have q3 : (gm2 15 (fiR (fun j => (gm2 15 j).toInt) (e : Int) (e + 1)).toNat).toInt = (e : Int) := q3
        by_cases q : (fiR (fun j => (gm2 15 j).toInt) (e : Int) (e + 1)).toNat = e
        · rw [q, hfn] at q3; omega
        · exact hno _ (by omega) q3
    · rw [hz17]
      rcases nxR_p (f := fun j => (gm2 15 j).toInt) (k := e) (e + 1) with ⟨q1, _⟩ | ⟨q1, q2, q3, _⟩
      · exact q1.symm
      · omega
    · rw [hz18, cnR_0 (e + 1) (fun j hj q => by
        have q : (gm2 15 j).toInt = (e : Int) := q
        by_cases q9 : j = e
        · rw [q9, hfn] at q; omega
        · exact hno j (by omega) q)]
      rfl
  · have he2 : e < n := by omega
    obtain ⟨a1, a2, a3, a4, a5⟩ := h e he2
    refine ⟨by rw [hf e he2]; exact a1, by rw [hf e he2]; exact a2, ?_, ?_, ?_⟩
    · rw [h16 e he2]
      show _ = (if 0 ≤ fiR (fun j => (gm2 15 j).toInt) (e : Int) n then fiR (fun j => (gm2 15 j).toInt) (e : Int) n else if (gm2 15 n).toInt = (e : Int) then (n : Int) else -1)
      rw [fiR_c (f := fun j => (gm 15 j).toInt) (fun j hj => hf j hj), ← a3, hfn]
      rcases fiR_p (f := fun j => (gm 15 j).toInt) (e := (e : Int)) n with ⟨q1, _⟩ | ⟨q1, _⟩
      · rw [← a3] at q1
        rw [q1, if_neg (show ¬ (0 : Int) ≤ -1 by decide)]
        by_cases q : a.toInt = (e : Int)
        · rw [if_pos ⟨q, rfl⟩, if_pos q]
        · rw [if_neg (fun w => q w.1), if_neg q]
      · rw [← a3] at q1
        rw [if_pos q1, if_neg (fun w => by omega)]
    · rw [h17 e he2]
      show _ = (if 0 ≤ nxR (fun j => (gm2 15 j).toInt) e n then nxR (fun j => (gm2 15 j).toInt) e n else if e < n ∧ (gm2 15 n).toInt = (gm2 15 e).toInt then (n : Int) else -1)
      rw [nxR_c (f := fun j => (gm 15 j).toInt) (fun j hj => hf j hj) (hf e he2), ← a4, hfn, hf e he2]
      rcases nxR_p (f := fun j => (gm 15 j).toInt) (k := e) n with ⟨q1, _⟩ | ⟨q1, _⟩
      · rw [← a4] at q1
        rw [q1, if_neg (show ¬ (0 : Int) ≤ -1 by decide)]
        by_cases q : (gm 15 e).toInt = a.toInt ∧ 0 ≤ a.toInt
        · rw [if_pos ⟨q.1, q.2, rfl⟩, if_pos ⟨he2, q.1.symm⟩]
        · rw [if_neg (fun w => q ⟨w.1, w.2.1⟩), if_neg (fun w => q ⟨w.2.symm, by
            rcases Int.lt_or_le a.toInt 0 with k | k
            · have := hr (by omega); omega
            · exact k⟩)]
      · rw [← a4] at q1
        rw [if_pos q1, if_neg (fun w => by omega)]
    · rw [h18 e he2, a5]
      show _ = ((cnR (fun j => (gm2 15 j).toInt) (e : Int) n + (if (gm2 15 n).toInt = (e : Int) then 1 else 0) : Nat) : Int)
      rw [cnR_c (f := fun j => (gm 15 j).toInt) (fun j hj => hf j hj), hfn]
      split <;> omega

set_option maxHeartbeats 4000000 in
set_option maxRecDepth 100000 in
theorem d_hasKey2 (l : Launch) (dC : Nat → ClassId) (dI : Nat → Nat → Nat) (ad : Nat → Nat → Nat) (cid : Nat → ClassId) (a2 : Nat → Nat) (lx : List Nat) (sg : Nat → Int32) (gm : Nat → Nat → Int32) (lg : Nat → Nat → Int64) (x : Int32) (o : Int32) (k : Int64) (hI : CI sg gm) (hvx : iv 0 0 x) (hvo : iv 0 79 o) (hFA : FA sg gm) (how : o.toInt < (sg 4).toInt) : CMt dC dI ad cid a2 lx l yX6_hasKey wm_X6_hasKey ({ frames := 0, cells := 1, slots := 6, locals := 0 }) [eV (ad 1) x, eV (ad 9) o, .long k] sg gm lg (fun v u => ∃ r : Int32, v = some (.int r) ∧ u = (sg, gm, lg) ∧ (iv 0 1 r) ∧ ((r.toInt = 1 ∧ HSK gm lg o.toNatClampNeg k) ∨ (r.toInt = 0 ∧ ¬ HSK gm lg o.toNatClampNeg k))) (fun _ _ => False) := by
  intro sz
  refine vx_ofW (cc := cX6_hasKey) (maxL := 5) (ret := (some .boolean)) (by decide) rfl ?_
  intro p e s m args below meth c s₁ B hml hxt hv
  obtain ⟨rfl, hsz, hP, hK, hD0, hG⟩ := hv
  have hx := B.exec
  have hb := B.bytes
  have hr := B.returns
  have hts := atoms_spec (ws := wm_X6_hasKey) B.pre
  have htb := fun (w : Cond) (h : w ∈ tb) => hts w (List.mem_cons_of_mem _ h)
  have hown : s.vm.findClass RX6 = some m.cls := findClass_of_methodNamed B.named
  have hlocks := B.notSynchronized
  subst hsz
  have hD := hD0.self (sz := s.heap.size)
  generalize hAe : va_A (cW ad cid a2 lx sg gm lg) s.heap.size = A at hD hG ⊢
  have hA : ∀ q : Nat, s.heap.size ≤ q → A q := fun q h => by rw [← hAe]; exact Or.inr h
  have hS : va_S A s.heap s.heap [] := va_S.rf
  have hl := lv_entry ([eV (ad 1) x, eV (ad 9) o, .long k]) (n := 5) (by rw [show (lg_sl ([eV (ad 1) x, eV (ad 9) o, .long k])).length = 4 from by simp [lg_sl, eV_cat, cat_i, cat_l]]; exact Nat.le_of_ble_eq_true rfl)
  rw [lg_entry_eq]
  generalize (lg_sl ([eV (ad 1) x, eV (ad 9) o, .long k]) ++ List.replicate (5 - (lg_sl ([eV (ad 1) x, eV (ad 9) o, .long k])).length) Slot.unset).toArray = ls at hl ⊢
  have hl : lv_has ls 5 [(0, eV (ad 1) x), (1, eV (ad 9) o), (2, .long k)] := by simp [lv_args, eV_cat, cat_i, cat_l] at hl; exact hl
  have hj3 : ∀ (n : Nat) (x4_3 : Int32) (_ : (12 - x4_3.toInt).toNat = n) (_ : iv 0 12 x4_3) (_ : iv 0 0 x) (_ : iv 0 79 o) (_ : ∀ i, i < x4_3.toNatClampNeg → ¬ lg 0 ((gm 19 o.toNatClampNeg).toNatClampNeg + i) = k) (H : Heap) (locs : List Loc) (ls : Array Slot), va_P (dC, dI) vwCl (cW ad cid a2 lx sg gm lg) H → va_D A (cW ad cid a2 lx sg gm lg) → va_S A s.heap H locs → lv_has ls 5 [(4, .int x4_3), (0, eV (ad 1) x), (1, eV (ad 9) o), (2, .long k)] → W p l e (headSpec wm_X6_hasKey ({ frames := 0, cells := 1, slots := 6, locals := 0 })).room s m ([eV (ad 1) x, eV (ad 9) o, .long k] : List Value).toArray below meth c H locs 0 0 (vx_MQ below (cQx dC dI ad cid a2 lx (fun v u => ∃ r : Int32, v = some (.int r) ∧ u = (sg, gm, lg) ∧ (iv 0 1 r) ∧ ((r.toInt = 1 ∧ HSK gm lg o.toNatClampNeg k) ∨ (r.toInt = 0 ∧ ¬ HSK gm lg o.toNatClampNeg k))) A) (cX dC dI ad cid a2 lx (fun _ _ => False) A) ([eV (ad 1) x, eV (ad 9) o, .long k] : List Value).toArray s 1 6 A) (F0 m 3 ls []) := by
    intro n
    induction n using Nat.strongRecOn with
    | ind n ih3 =>
      intro x4_3 hn3 hx4_3 hsx0_3 hsx1_3 uH H locs ls hP hD hS hl
      refine lv_iload hx hb dX6_hasKey_3 (lv_at hl 0 rfl) ?_
      refine ec_aload_n hx hb dX6_hasKey_5 rfl (lv_at hl 2 rfl) ?_
      refine cr_get (t := 9) (j := 10) (C := RX3) (T := TX3) (N := 21) (v := .int (gm 20 o.toNatClampNeg)) hx hb htb inX3 hown hK hP hsx1_3 (by decide) (by decide) (by decide) rfl (by decide) (htb _ kw_420) rfl dX6_hasKey_6 ?_
      obtain ⟨z_1, ez_1⟩ : ∃ z : Int32, z = (gm 20 o.toNatClampNeg) := ⟨_, rfl⟩
      refine W.eq (g2 := F0 m 9 ls [.int z_1, .int x4_3]) (by rw [ez_1]) ?_
      have hz_1 : iv 0 12 z_1 := iv_of ez_1 (CI_a hI 20 hsx1_3 (by decide))
      refine lv_icmp_ge (tgt := 37) hx hb dX6_hasKey_9 (by decide) (fun c_2 => ?_) (fun c_2 => ?_)
      · have d_3 : (z_1 : Int32).toInt ≤ (x4_3 : Int32).toInt := Int32.le_iff_toInt_le.mp c_2
        refine lv_iconst (v := 0) hx hb dX6_hasKey_37 (by decide) ?_
        exact W.nb (fun hN => W.widen (k := 1) (n := 6) (by decide) (by decide) (vx_ret (W.zret (v := 0) hx hb hr (iv_nb (iv_w (iv_k (by decide) : iv 0 0 0) (by decide))) (fun t ht hW => ⟨⟨some (.int 0), (sg, gm, lg), rfl, ⟨0, rfl, rfl, (iv_w (iv_k (by decide) : iv 0 0 0) (by decide)), (Or.inr ⟨rfl, fun ⟨i, hi, hk⟩ => uH i (by have k1 := iv_cl hx4_3 (by decide); have k2 : (gm 20 o.toNatClampNeg).toNatClampNeg = (gm 20 o.toNatClampNeg).toInt.toNat := rfl; have k3 := congrArg Int32.toInt ez_1; have := i32_0; have := i32_1; have := i32_2; have := i32_m1; have := (hsx0_3).1; have := (hsx0_3).2; have := (hsx1_3).1; have := (hsx1_3).2; have := (hx4_3).1; have := (hx4_3).2; have := (hz_1).1; have := (hz_1).2; omega) hk⟩)⟩, by rw [ht]; exact hP, va_K.moved hW.alike hK, hD⟩, hS.F ht, by rw [ht]; exact hN⟩) hS.2.2 dX6_hasKey_38)))
      · have d_4 : (x4_3 : Int32).toInt < (z_1 : Int32).toInt := Int32.lt_iff_toInt_lt.mp (i32_lt c_2)
        have h_5 : iv 0 11 x4_3 := iv_ltL (i32_lt c_2) hx4_3 hz_1 (by decide)
        have h_6 : iv 1 12 z_1 := iv_ltR (i32_lt c_2) hx4_3 hz_1 (by decide)
        refine ec_aload_n hx hb dX6_hasKey_12 rfl (lv_at hl 1 rfl) ?_
        refine cr_get (t := 1) (j := 1) (C := RX6) (T := TX6) (N := 8) (v := eV (ad 15) 0) hx hb htb inX6 hown hK hP hsx0_3 (by decide) (by decide) (by decide) rfl (by decide) (htb _ kw_67) (cV_c rfl (by decide) (by rw [show cMu 1 1 = 0 from rfl, Nat.zero_mul]; rfl)) dX6_hasKey_13 ?_
        refine ec_aload_n hx hb dX6_hasKey_16 rfl (lv_at hl 2 rfl) ?_
        refine cr_get (t := 9) (j := 9) (C := RX3) (T := TX3) (N := 21) (v := .int (gm 19 o.toNatClampNeg)) hx hb htb inX3 hown hK hP hsx1_3 (by decide) (by decide) (by decide) rfl (by decide) (htb _ kw_421) rfl dX6_hasKey_17 ?_
        obtain ⟨z_7, ez_7⟩ : ∃ z : Int32, z = (gm 19 o.toNatClampNeg) := ⟨_, rfl⟩
        refine W.eq (g2 := F0 m 20 ls [.int z_7, eV (ad 15) 0]) (by rw [ez_7]) ?_
        have hz_7 : iv 0 240 z_7 := iv_of ez_7 (CI_a hI 19 hsx1_3 (by decide))
        refine lv_iload hx hb dX6_hasKey_20 (lv_at hl 0 rfl) ?_
        have hfa9 : (z_7 : Int32).toInt + (z_1 : Int32).toInt ≤ (sg 5).toInt := by rw [ez_7, ez_1]; exact hFA _ (lt_cl hvo (show iv 0 80 (sg 4) from CI_s hI 4) (by decide) (by decide) how)
        refine lv_iadd hx hb dX6_hasKey_22 ?_
        refine lv_topi (fun z_8 ez_8 => ?_)
        have hz_8 : iv 0 251 z_8 := iv_of ez_8 (iv_add hz_7 h_5 (by decide))
        have tz_8 : z_8.toInt = (z_7 : Int32).toInt + (x4_3 : Int32).toInt := by rw [ez_8]; exact iv_addE hz_7 h_5 (by decide)
        refine cr_lald hx hb hK hP (iv_k (by decide) : iv 0 0 0) (show vp_in z_8 240 from (vp_in_iff.mpr ⟨by have := i32_0; have := i32_1; have := i32_2; have := i32_m1; have := (show iv 0 240 (sg 5) from CI_s hI 5).1; have := (show iv 0 240 (sg 5) from CI_s hI 5).2; have := (hsx0_3).1; have := (hsx0_3).2; have := (hsx1_3).1; have := (hsx1_3).2; have := (h_5).1; have := (h_5).2; have := (h_6).1; have := (h_6).2; have := (hz_7).1; have := (hz_7).2; have := (hz_8).1; have := (hz_8).2; omega, by have := i32_0; have := i32_1; have := i32_2; have := i32_m1; have := (show iv 0 240 (sg 5) from CI_s hI 5).1; have := (show iv 0 240 (sg 5) from CI_s hI 5).2; have := (hsx0_3).1; have := (hsx0_3).2; have := (hsx1_3).1; have := (hsx1_3).2; have := (h_5).1; have := (h_5).2; have := (h_6).1; have := (h_6).2; have := (hz_7).1; have := (hz_7).2; have := (hz_8).1; have := (hz_8).2; omega⟩)) dX6_hasKey_23 ?_
        refine lv_topl (fun z_9 ez_9 => ?_)
        refine lv_lload_n hx hb dX6_hasKey_24 rfl (lv_at hl 3 rfl) ?_
        refine W.lcmp hx hb dX6_hasKey_25 ?_
        refine lv_topi (fun z_10 ez_10 => ?_)
        have hz_10 : iv (-1) 1 z_10 := iv_of ez_10 (iv_cmp _ _)
        refine lv_if_ne (tgt := 31) hx hb dX6_hasKey_26 (by decide) (fun c_11 => ?_) (fun c_11 => ?_)
        · have d_12 : ¬ (z_10 : Int32).toInt = 0 := lv_neT c_11 rfl
          obtain ⟨z_13, ez_13⟩ : ∃ z : Int32, z = x4_3 + 1 := ⟨_, rfl⟩
          have hz_13 : iv 1 12 z_13 := iv_of ez_13 (iv_add h_5 (iv_k (by decide) : iv 1 1 1) (by decide))
          have tz_13 : z_13.toInt = x4_3.toInt + 1 := by rw [ez_13]; exact iv_addE h_5 (iv_k (by decide) : iv 1 1 1) (by decide)
          refine lv_iinc (v := z_13) (lv' := [(4, .int z_13), (0, eV (ad 1) x), (1, eV (ad 9) o), (2, .long k)]) hx hb dX6_hasKey_31 hl (k := 0) rfl ez_13.symm (by decide) rfl (fun ls hl => ?_)
          refine lv_goto (tgt := 3) hx hb dX6_hasKey_34 (by decide) ?_
          exact ih3 _ (by rw [← hn3]; exact (iv_meas tz_13 h_5 (by decide))) z_13 rfl (iv_w hz_13 (by decide)) hsx0_3 hsx1_3 ((fun i hi => (show i < x4_3.toNatClampNeg ∨ i = x4_3.toNatClampNeg by have := iv_cl h_5 (by decide); have : z_13.toNatClampNeg = z_13.toInt.toNat := rfl; have := tz_13; omega).elim (fun q => uH i q) (fun q q8 => c_11 (by rw [ez_10, ez_9, cl_add hz_7 h_5 (by decide) (by decide) tz_8, ez_7, ← q]; exact (lg_cmp_eq _ _).mpr q8)))) _ _ _ hP hD hS (lv_sub hl [0, 1, 2, 3] rfl)
        · have h_14 : iv 0 0 z_10 := iv_eq c_11 hz_10 (iv_k (by decide) : iv 0 0 0) (by decide)
          refine lv_iconst (v := 1) hx hb dX6_hasKey_29 (by decide) ?_
          exact W.nb (fun hN => W.widen (k := 1) (n := 6) (by decide) (by decide) (vx_ret (W.zret (v := 1) hx hb hr (iv_nb (iv_w (iv_k (by decide) : iv 1 1 1) (by decide))) (fun t ht hW => ⟨⟨some (.int 1), (sg, gm, lg), rfl, ⟨1, rfl, rfl, (iv_w (iv_k (by decide) : iv 1 1 1) (by decide)), (Or.inl ⟨rfl, ⟨x4_3.toNatClampNeg, lt_cl h_5 (show iv 0 12 (gm 20 o.toNatClampNeg) from CI_a hI 20 hvo (by decide)) (by decide) (by decide) (by have := congrArg Int32.toInt ez_1; have := i32_0; have := i32_1; have := i32_2; have := i32_m1; have := (hsx0_3).1; have := (hsx0_3).2; have := (hsx1_3).1; have := (hsx1_3).2; have := (h_5).1; have := (h_5).2; have := (h_6).1; have := (h_6).2; have := (hz_7).1; have := (hz_7).2; have := (hz_8).1; have := (hz_8).2; have := (h_14).1; have := (h_14).2; omega), by have q9 := c_11; rw [ez_10, ez_9, cl_add hz_7 h_5 (by decide) (by decide) tz_8, ez_7] at q9; exact (lg_cmp_eq _ _).mp q9⟩⟩)⟩, by rw [ht]; exact hP, va_K.moved hW.alike hK, hD⟩, hS.F ht, by rw [ht]; exact hN⟩) hS.2.2 dX6_hasKey_30)))
  refine lv_iconst (v := 0) hx hb dX6_hasKey_0 (by decide) ?_
  refine lv_istore (i := 4) (lv' := [(4, .int 0), (0, eV (ad 1) x), (1, eV (ad 9) o), (2, .long k)]) hx hb dX6_hasKey_1 hl (by decide) rfl (fun ls hl => ?_)
  exact hj3 _ 0 rfl (iv_w (iv_k (by decide) : iv 0 0 0) (by decide)) hvx hvo ((fun i hi => absurd hi (Nat.not_lt_zero i))) _ _ _ hP hD hS (lv_sub hl [0, 1, 2, 3] rfl)

/-- what a white character does to the class's text -/
def W56 (gm gm2 : Nat → Nat → Int32) (e : Nat) (c : Int32) : Prop := ((gm 12 e).toInt < 24 ∧ gm2 56 = upd (gm 56) (24 * e + (gm 12 e).toNatClampNeg) c) ∨ (24 ≤ (gm 12 e).toInt ∧ gm2 56 = gm 56)
def CY7 (gm gm2 : Nat → Nat → Int32) (e : Nat) (c : Int32) : Prop := (isWc c.toInt → ((gm 11 e).toInt = 0 ∧ gm2 56 = gm 56) ∨ (¬ (gm 11 e).toInt = 0 ∧ W56 gm gm2 e c)) ∧ (¬ isWc c.toInt → (gm 12 e).toInt < 24 → gm2 56 = upd (gm 56) (24 * e + (gm 12 e).toNatClampNeg) c)

set_option maxHeartbeats 4000000 in
set_option maxRecDepth 100000 in
theorem d_takeWhite2 (l : Launch) (dC : Nat → ClassId) (dI : Nat → Nat → Nat) (ad : Nat → Nat → Nat) (cid : Nat → ClassId) (a2 : Nat → Nat) (lx : List Nat) (sg : Nat → Int32) (gm : Nat → Nat → Int32) (lg : Nat → Nat → Int64) (x : Int32) (cc : Int32) (K9 : Nat) (hI : CI sg gm) (hvx : iv 0 79 x) (hvcc : iv 0 65535 cc) (hU12 : UB 12 K9 gm) (hU18 : UB 18 K9 gm) (hK9 : K9 ≤ 1999990) : CMt dC dI ad cid a2 lx l yX3_takeWhite wm_X3_takeWhite ({ frames := 0, cells := 1, slots := 6, locals := 0 }) [eV (ad 9) x, .int cc] sg gm lg (fun v u => v = none ∧ ∃ (sg2 : Nat → Int32) (gm2 : Nat → Nat → Int32) (lg2 : Nat → Nat → Int64), u = (sg2, gm2, lg2) ∧ CI sg2 gm2 ∧ KS [] sg sg2 ∧ KS [12, 56] gm gm2 ∧ KS [] lg lg2 ∧ (UB 12 (K9 + 1) gm2) ∧ ((gm2 11 = gm 11 ∧ (((gm 11 x.toNatClampNeg).toInt = 0 ∧ gm2 12 = gm 12) ∨ (¬ (gm 11 x.toNatClampNeg).toInt = 0 ∧ ∃ z : Int32, z.toInt = (gm 12 x.toNatClampNeg).toInt + 1 ∧ gm2 12 = upd (gm 12) x.toNatClampNeg z)))) ∧ (((gm 11 x.toNatClampNeg).toInt = 0 ∧ gm2 56 = gm 56) ∨ (¬ (gm 11 x.toNatClampNeg).toInt = 0 ∧ W56 gm gm2 x.toNatClampNeg cc))) (fun _ _ => False) := by
  intro sz
  refine vx_ofW (cc := cX3_takeWhite) (maxL := 2) (ret := none) (by decide) rfl ?_
  intro p e s m args below meth c s₁ B hml hxt hv
  obtain ⟨rfl, hsz, hP, hK, hD0, hG⟩ := hv
  have hx := B.exec
  have hb := B.bytes
  have hr := B.returns
  have hts := atoms_spec (ws := wm_X3_takeWhite) B.pre
  have htb := fun (w : Cond) (h : w ∈ tb) => hts w (List.mem_cons_of_mem _ h)
  have hown : s.vm.findClass RX3 = some m.cls := findClass_of_methodNamed B.named
  have hlocks := B.notSynchronized
  subst hsz
  have hD := hD0.self (sz := s.heap.size)
  generalize hAe : va_A (cW ad cid a2 lx sg gm lg) s.heap.size = A at hD hG ⊢
  have hA : ∀ q : Nat, s.heap.size ≤ q → A q := fun q h => by rw [← hAe]; exact Or.inr h
  have hS : va_S A s.heap s.heap [] := va_S.rf
  have hl := lv_entry ([eV (ad 9) x, .int cc]) (n := 2) (by rw [show (lg_sl ([eV (ad 9) x, .int cc])).length = 2 from by simp [lg_sl, eV_cat, cat_i, cat_l]]; exact Nat.le_of_ble_eq_true rfl)
  rw [lg_entry_eq]
  generalize (lg_sl ([eV (ad 9) x, .int cc]) ++ List.replicate (2 - (lg_sl ([eV (ad 9) x, .int cc])).length) Slot.unset).toArray = ls at hl ⊢
  have hl : lv_has ls 2 [(0, eV (ad 9) x), (1, .int cc)] := by simp [lv_args, eV_cat, cat_i, cat_l] at hl; exact hl
  have hj27 : ∀ (gm_j27 : Nat → Nat → Int32) (_ : iv 0 79 x) (_ : iv 0 65535 cc) (_ : KS [56] gm gm_j27) (_ : CI sg gm_j27) (_ : ¬ (gm 11 x.toNatClampNeg).toInt = 0) (_ : W56 gm gm_j27 x.toNatClampNeg cc) (H : Heap) (locs : List Loc) (ls : Array Slot), va_P (dC, dI) vwCl (cW ad cid a2 lx sg gm_j27 lg) H → va_D A (cW ad cid a2 lx sg gm_j27 lg) → va_S A s.heap H locs → lv_has ls 2 [(0, eV (ad 9) x), (1, .int cc)] → W p l e (headSpec wm_X3_takeWhite ({ frames := 0, cells := 1, slots := 6, locals := 0 })).room s m ([eV (ad 9) x, .int cc] : List Value).toArray below meth c H locs 0 0 (vx_MQ below (cQx dC dI ad cid a2 lx (fun v u => v = none ∧ ∃ (sg2 : Nat → Int32) (gm2 : Nat → Nat → Int32) (lg2 : Nat → Nat → Int64), u = (sg2, gm2, lg2) ∧ CI sg2 gm2 ∧ KS [] sg sg2 ∧ KS [12, 56] gm gm2 ∧ KS [] lg lg2 ∧ (UB 12 (K9 + 1) gm2) ∧ ((gm2 11 = gm 11 ∧ (((gm 11 x.toNatClampNeg).toInt = 0 ∧ gm2 12 = gm 12) ∨ (¬ (gm 11 x.toNatClampNeg).toInt = 0 ∧ ∃ z : Int32, z.toInt = (gm 12 x.toNatClampNeg).toInt + 1 ∧ gm2 12 = upd (gm 12) x.toNatClampNeg z)))) ∧ (((gm 11 x.toNatClampNeg).toInt = 0 ∧ gm2 56 = gm 56) ∨ (¬ (gm 11 x.toNatClampNeg).toInt = 0 ∧ W56 gm gm2 x.toNatClampNeg cc))) A) (cX dC dI ad cid a2 lx (fun _ _ => False) A) ([eV (ad 9) x, .int cc] : List Value).toArray s 1 6 A) (F0 m 27 ls []) := by
    intro gm_j27 hsx0_27 hsx1_27 hkg_j27 hI_j27 n11 u56 H locs ls hP hD hS hl
    refine ec_aload_n hx hb dX3_takeWhite_27 rfl (lv_at hl 0 rfl) ?_
    refine lv_dup hx hb dX3_takeWhite_28 (eV_cat _ _) ?_
    refine cr_get (t := 9) (j := 2) (C := RX3) (T := TX3) (N := 21) (v := .int (gm_j27 12 x.toNatClampNeg)) hx hb htb inX3 hown hK hP hsx0_27 (by decide) (by decide) (by decide) rfl (by decide) (htb _ kw_382) rfl dX3_takeWhite_29 ?_
    obtain ⟨z_1, ez_1⟩ : ∃ z : Int32, z = (gm_j27 12 x.toNatClampNeg) := ⟨_, rfl⟩
    refine W.eq (g2 := F0 m 32 ls [.int z_1, eV (ad 9) x]) (by rw [ez_1]) ?_
    have hz_1 : iv 0 2000000 z_1 := iv_of ez_1 (CI_a hI_j27 12 hsx0_27 (by decide))
    have ez_1 := ez_1.trans (congrFun (hkg_j27 12 (by decide)) _)
    have h_2 : iv 0 1999990 z_1 := ⟨(hz_1).1, by have q9 := hU12 x.toNatClampNeg (by have q1 := iv_cl hsx0_27 (by decide); have q2 := (hsx0_27).2; omega); rw [ez_1]; omega⟩
    refine lv_iconst (v := 1) hx hb dX3_takeWhite_32 (by decide) ?_
    refine lv_iadd hx hb dX3_takeWhite_33 ?_
    refine lv_topi (fun z_3 ez_3 => ?_)
    have hz_3 : iv 1 1999991 z_3 := iv_of ez_3 (iv_add h_2 (iv_k (by decide) : iv 1 1 1) (by decide))
    have tz_3 : z_3.toInt = (z_1 : Int32).toInt + 1 := by rw [ez_3]; exact iv_addE h_2 (iv_k (by decide) : iv 1 1 1) (by decide)
    refine cr_putg (t := 9) (j := 2) (C := RX3) (T := TX3) (N := 21) (ty0 := tyX3) (k := 12) (y := z_3) hx hb htb inX3 tyX3_ok nmX3 hown hK hP hD hS hsx0_27 (by decide) (by decide) (by decide) (by decide) rfl rfl (by decide) (htb _ kw_382) rfl (by show Value.int z_3 = Value.int (va_up gm_j27 12 (upd (gm_j27 12) x.toNatClampNeg z_3) 12 x.toNatClampNeg); rw [va_up_self, upd_at]) rfl rfl dX3_takeWhite_34 (fun gm_4 H locs egm_4 hP hD hS => ?_)
    have hI_gm_4 := CI_st hI_j27 egm_4 hz_3 (by decide)
    exact W.nb (fun hN => W.widen (k := 1) (n := 6) (by decide) (by decide) (vx_ret (W.vret hx hb hr (fun t ht hW => ⟨⟨none, (sg, gm_4, lg), rfl, ⟨rfl, sg, gm_4, lg, rfl, hI_gm_4, KS_rf, (KS_up (KS_tr (L := [12, 56]) KS_rf hkg_j27 (by decide)) egm_4 (by decide)), KS_rf, (UB_u hU12 (show gm_4 12 = upd (gm 12) (x : Int32).toNatClampNeg z_3 from ((up_at egm_4).trans (by rw [show gm_j27 12 = gm 12 from ((hkg_j27 12 (by decide)).trans rfl)]))) (by omega) (by have := tz_3; have q9 := hU12 x.toNatClampNeg (by have q1 := iv_cl hsx0_27 (by decide); have q2 := (hsx0_27).2; omega); rw [← ez_1] at q9; omega)), (⟨(Eq.trans (up_ne egm_4 (by decide)) (hkg_j27 11 (by decide))), Or.inr ⟨n11, z_3, (by have := tz_3; have := congrArg Int32.toInt ez_1; omega), (show gm_4 12 = upd (gm 12) (x : Int32).toNatClampNeg z_3 from ((up_at egm_4).trans (by rw [show gm_j27 12 = gm 12 from ((hkg_j27 12 (by decide)).trans rfl)])))⟩⟩), (Or.inr ⟨n11, (by unfold W56 at *; rw [show gm_4 56 = gm_j27 56 from up_ne egm_4 (by decide)]; exact u56)⟩)⟩, by rw [ht]; exact hP, va_K.moved hW.alike hK, hD⟩, hS.F ht, by rw [ht]; exact hN⟩) hS.2.2 dX3_takeWhite_37)))
  refine ec_aload_n hx hb dX3_takeWhite_0 rfl (lv_at hl 0 rfl) ?_
  refine cr_get (t := 9) (j := 1) (C := RX3) (T := TX3) (N := 21) (v := .int (gm 11 x.toNatClampNeg)) hx hb htb inX3 hown hK hP hvx (by decide) (by decide) (by decide) rfl (by decide) (htb _ kw_381) rfl dX3_takeWhite_1 ?_
  obtain ⟨z_5, ez_5⟩ : ∃ z : Int32, z = (gm 11 x.toNatClampNeg) := ⟨_, rfl⟩
  refine W.eq (g2 := F0 m 4 ls [.int z_5]) (by rw [ez_5]) ?_
  have hz_5 : iv 0 24 z_5 := iv_of ez_5 (CI_a hI 11 hvx (by decide))
  refine lv_if_ne (tgt := 8) hx hb dX3_takeWhite_4 (by decide) (fun c_6 => ?_) (fun c_6 => ?_)
  · have h_7 : iv 1 24 z_5 := iv_neL c_6 hz_5 (by decide)
    refine ec_aload_n hx hb dX3_takeWhite_8 rfl (lv_at hl 0 rfl) ?_
    refine cr_get (t := 9) (j := 2) (C := RX3) (T := TX3) (N := 21) (v := .int (gm 12 x.toNatClampNeg)) hx hb htb inX3 hown hK hP hvx (by decide) (by decide) (by decide) rfl (by decide) (htb _ kw_382) rfl dX3_takeWhite_9 ?_
    obtain ⟨z_8, ez_8⟩ : ∃ z : Int32, z = (gm 12 x.toNatClampNeg) := ⟨_, rfl⟩
    refine W.eq (g2 := F0 m 12 ls [.int z_8]) (by rw [ez_8]) ?_
    have hz_8 : iv 0 2000000 z_8 := iv_of ez_8 (CI_a hI 12 hvx (by decide))
    have h_9 : iv 0 1999990 z_8 := ⟨(hz_8).1, by have q9 := hU12 x.toNatClampNeg (by have q1 := iv_cl hvx (by decide); have q2 := (hvx).2; omega); rw [ez_8]; omega⟩
    refine lv_bipush (v := 24) hx hb dX3_takeWhite_12 (by decide) ?_
    refine lv_icmp_ge (tgt := 27) hx hb dX3_takeWhite_14 (by decide) (fun c_10 => ?_) (fun c_10 => ?_)
    · have h_11 : iv 24 1999990 z_8 := iv_leR c_10 (iv_k (by decide) : iv 24 24 24) h_9 (by decide)
      exact hj27 gm hvx hvcc KS_rf hI (by have := i32_0; have := i32_1; have := i32_2; have := i32_m1; have := (hvx).1; have := (hvx).2; have := (hvcc).1; have := (hvcc).2; have := (h_7).1; have := (h_7).2; have := (h_11).1; have := (h_11).2; have := congrArg Int32.toInt ez_5; have n0 : ¬ z_5.toInt = 0 := fun q => c_6 (Int32.toInt_inj.mp q); omega) (Or.inr ⟨by have := i32_0; have := i32_1; have := i32_2; have := i32_m1; have := (hvx).1; have := (hvx).2; have := (hvcc).1; have := (hvcc).2; have := (h_7).1; have := (h_7).2; have := (h_11).1; have := (h_11).2; have := congrArg Int32.toInt ez_8; omega, rfl⟩) _ _ _ hP hD hS (lv_sub hl [0, 1] rfl)
    · have h_12 : iv 0 23 z_8 := iv_ltL (i32_lt c_10) h_9 (iv_k (by decide) : iv 24 24 24) (by decide)
      refine ec_aload_n hx hb dX3_takeWhite_17 rfl (lv_at hl 0 rfl) ?_
      refine cr_get (t := 9) (j := 0) (C := RX3) (T := TX3) (N := 21) (v := eV (ad 31) x) hx hb htb inX3 hown hK hP hvx (by decide) (by decide) (by decide) rfl (by decide) (htb _ kw_74) (cV_c rfl (hvx).1 (by rw [show cMu 9 0 = 1 from rfl, Nat.one_mul]; rfl)) dX3_takeWhite_18 ?_
      refine ec_aload_n hx hb dX3_takeWhite_21 rfl (lv_at hl 0 rfl) ?_
      refine cr_get (t := 9) (j := 2) (C := RX3) (T := TX3) (N := 21) (v := .int (gm 12 x.toNatClampNeg)) hx hb htb inX3 hown hK hP hvx (by decide) (by decide) (by decide) rfl (by decide) (htb _ kw_382) rfl dX3_takeWhite_22 ?_
      refine W.eq (g2 := F0 m 25 ls [.int z_8, eV (ad 31) x]) (by rw [show (gm 12 x.toNatClampNeg) = z_8 from ez_8.symm]) ?_
      refine lv_iload_n hx hb dX3_takeWhite_25 rfl (lv_at hl 1 rfl) ?_
      refine cr_cast (t := 31) (k := 56) (n9 := (24 * x.toNatClampNeg + (z_8 : Int32).toNatClampNeg)) (z := cc) hx hb hK hP hD hS hvx (by decide) (by decide) (by decide) rfl rfl rfl (show vp_in z_8 (cLen 31) from (show vp_in z_8 24 from (iv_in h_12 (by decide)))) (Or.inr (vin_lt (show vp_in z_8 (cLen 31) from (show vp_in z_8 24 from (iv_in h_12 (by decide)))))) rfl dX3_takeWhite_26 (fun gm_13 H locs egm_13 hP hD hS => ?_)
      rw [vnc hvcc] at egm_13
      have hI_gm_13 := CI_st hI egm_13 hvcc (by decide)
      exact hj27 gm_13 hvx hvcc (KS_up KS_rf egm_13 (by decide)) hI_gm_13 (by have := i32_0; have := i32_1; have := i32_2; have := i32_m1; have := (hvx).1; have := (hvx).2; have := (hvcc).1; have := (hvcc).2; have := (h_7).1; have := (h_7).2; have := (h_12).1; have := (h_12).2; have := congrArg Int32.toInt ez_5; have n0 : ¬ z_5.toInt = 0 := fun q => c_6 (Int32.toInt_inj.mp q); omega) (Or.inl ⟨by have := i32_0; have := i32_1; have := i32_2; have := i32_m1; have := (hvx).1; have := (hvx).2; have := (hvcc).1; have := (hvcc).2; have := (h_7).1; have := (h_7).2; have := (h_12).1; have := (h_12).2; have := congrArg Int32.toInt ez_8; omega, (up_at egm_13).trans (by rw [ez_8])⟩) _ _ _ hP hD hS (lv_sub hl [0, 1] rfl)
  · have h_14 : iv 0 0 z_5 := iv_eq c_6 hz_5 (iv_k (by decide) : iv 0 0 0) (by decide)
    exact W.nb (fun hN => W.widen (k := 1) (n := 6) (by decide) (by decide) (vx_ret (W.vret hx hb hr (fun t ht hW => ⟨⟨none, (sg, gm, lg), rfl, ⟨rfl, sg, gm, lg, rfl, hI, KS_rf, KS_rf, KS_rf, (UB_k hU12 rfl (by omega)), (⟨rfl, Or.inl ⟨(by have := i32_0; have := i32_1; have := i32_2; have := i32_m1; have := (hvx).1; have := (hvx).2; have := (hvcc).1; have := (hvcc).2; have := (h_14).1; have := (h_14).2; have := congrArg Int32.toInt ez_5; omega), rfl⟩⟩), (Or.inl ⟨by have := i32_0; have := i32_1; have := i32_2; have := i32_m1; have := (hvx).1; have := (hvx).2; have := (hvcc).1; have := (hvcc).2; have := (h_14).1; have := (h_14).2; have := congrArg Int32.toInt ez_5; omega, rfl⟩)⟩, by rw [ht]; exact hP, va_K.moved hW.alike hK, hD⟩, hS.F ht, by rw [ht]; exact hN⟩) hS.2.2 dX3_takeWhite_7)))

set_option maxHeartbeats 4000000 in
set_option maxRecDepth 100000 in
theorem d_takesText2 (l : Launch) (dC : Nat → ClassId) (dI : Nat → Nat → Nat) (ad : Nat → Nat → Nat) (cid : Nat → ClassId) (a2 : Nat → Nat) (lx : List Nat) (sg : Nat → Int32) (gm : Nat → Nat → Int32) (lg : Nat → Nat → Int64) (x : Int32) (cc : Int32) (K9 : Nat) (hI : CI sg gm) (hvx : iv 0 79 x) (hvcc : iv 0 65535 cc) (hU12 : UB 12 K9 gm) (hU18 : UB 18 K9 gm) (hK9 : K9 ≤ 1999990) : CMt dC dI ad cid a2 lx l yX3_takesText wm_X3_takesText ({ frames := 1, cells := 1, slots := 6, locals := 21 }) [eV (ad 9) x, .int cc] sg gm lg (fun v u => ∃ r : Int32, v = some (.int r) ∧ ∃ (sg2 : Nat → Int32) (gm2 : Nat → Nat → Int32) (lg2 : Nat → Nat → Int64), u = (sg2, gm2, lg2) ∧ CI sg2 gm2 ∧ KS [] sg sg2 ∧ KS [11, 12, 56] gm gm2 ∧ KS [] lg lg2 ∧ (iv 0 1 r) ∧ (UB 12 (K9 + 1) gm2) ∧ ((r.toInt = 0 ∧ sTn (gm 11 x.toNatClampNeg).toInt.toNat (gm 12 x.toNatClampNeg).toInt.toNat cc.toInt = none) ∨ (r.toInt = 1 ∧ sTn (gm 11 x.toNatClampNeg).toInt.toNat (gm 12 x.toNatClampNeg).toInt.toNat cc.toInt = some ((gm2 11 x.toNatClampNeg).toInt.toNat, (gm2 12 x.toNatClampNeg).toInt.toNat) ∧ ∀ j, j ≠ x.toNatClampNeg → gm2 11 j = gm 11 j ∧ gm2 12 j = gm 12 j)) ∧ (CY7 gm gm2 x.toNatClampNeg cc)) (fun _ _ => False) := by
  intro sz
  refine vx_ofW (cc := cX3_takesText) (maxL := 2) (ret := (some .boolean)) (by decide) rfl ?_
  intro p e s m args below meth c s₁ B hml hxt hv
  obtain ⟨rfl, hsz, hP, hK, hD0, hG⟩ := hv
  have hx := B.exec
  have hb := B.bytes
  have hr := B.returns
  have hts := atoms_spec (ws := wm_X3_takesText) B.pre
  have htb := fun (w : Cond) (h : w ∈ tb) => hts w (List.mem_cons_of_mem _ h)
  have hown : s.vm.findClass RX3 = some m.cls := findClass_of_methodNamed B.named
  have hlocks := B.notSynchronized
  subst hsz
  have hD := hD0.self (sz := s.heap.size)
  generalize hAe : va_A (cW ad cid a2 lx sg gm lg) s.heap.size = A at hD hG ⊢
  have hA : ∀ q : Nat, s.heap.size ≤ q → A q := fun q h => by rw [← hAe]; exact Or.inr h
  have hS : va_S A s.heap s.heap [] := va_S.rf
  have hl := lv_entry ([eV (ad 9) x, .int cc]) (n := 2) (by rw [show (lg_sl ([eV (ad 9) x, .int cc])).length = 2 from by simp [lg_sl, eV_cat, cat_i, cat_l]]; exact Nat.le_of_ble_eq_true rfl)
  rw [lg_entry_eq]
  generalize (lg_sl ([eV (ad 9) x, .int cc]) ++ List.replicate (2 - (lg_sl ([eV (ad 9) x, .int cc])).length) Slot.unset).toArray = ls at hl ⊢
  have hl : lv_has ls 2 [(0, eV (ad 9) x), (1, .int cc)] := by simp [lv_args, eV_cat, cat_i, cat_l] at hl; exact hl
  have hj12 : ∀ (_ : iv 0 79 x) (_ : iv 10 32 cc) (_ : isWc cc.toInt) (H : Heap) (locs : List Loc) (ls : Array Slot), va_P (dC, dI) vwCl (cW ad cid a2 lx sg gm lg) H → va_D A (cW ad cid a2 lx sg gm lg) → va_S A s.heap H locs → lv_has ls 2 [(0, eV (ad 9) x), (1, .int cc)] → W p l e (headSpec wm_X3_takesText ({ frames := 1, cells := 1, slots := 6, locals := 21 })).room s m ([eV (ad 9) x, .int cc] : List Value).toArray below meth c H locs 0 0 (vx_MQ below (cQx dC dI ad cid a2 lx (fun v u => ∃ r : Int32, v = some (.int r) ∧ ∃ (sg2 : Nat → Int32) (gm2 : Nat → Nat → Int32) (lg2 : Nat → Nat → Int64), u = (sg2, gm2, lg2) ∧ CI sg2 gm2 ∧ KS [] sg sg2 ∧ KS [11, 12, 56] gm gm2 ∧ KS [] lg lg2 ∧ (iv 0 1 r) ∧ (UB 12 (K9 + 1) gm2) ∧ ((r.toInt = 0 ∧ sTn (gm 11 x.toNatClampNeg).toInt.toNat (gm 12 x.toNatClampNeg).toInt.toNat cc.toInt = none) ∨ (r.toInt = 1 ∧ sTn (gm 11 x.toNatClampNeg).toInt.toNat (gm 12 x.toNatClampNeg).toInt.toNat cc.toInt = some ((gm2 11 x.toNatClampNeg).toInt.toNat, (gm2 12 x.toNatClampNeg).toInt.toNat) ∧ ∀ j, j ≠ x.toNatClampNeg → gm2 11 j = gm 11 j ∧ gm2 12 j = gm 12 j)) ∧ (CY7 gm gm2 x.toNatClampNeg cc)) A) (cX dC dI ad cid a2 lx (fun _ _ => False) A) ([eV (ad 9) x, .int cc] : List Value).toArray s 1 6 A) (F0 m 12 ls []) := by
    intro  hsx0_12 hsx1_12 w12 H locs ls hP hD hS hl
    refine ec_aload_n hx hb dX3_takesText_12 rfl (lv_at hl 0 rfl) ?_
    refine lv_iload_n hx hb dX3_takesText_13 rfl (lv_at hl 1 rfl) ?_
    refine cm_callV (t := 9) (C := RX3) (T := TX3) (N := 21) (rest := []) (as := [.int cc]) ⟨hx, hb, hml, hown, htb⟩ (d_takeWhite2 l dC dI ad cid a2 lx sg gm lg x cc K9 hI hsx0_12 (iv_w hsx1_12 (by decide)) hU12 hU18 hK9) (cwV 1 htb (gd_V kw_485 kw_486 kw_487 kw_66 kw_1453) rfl rfl rfl (by decide +kernel) ⟨Nat.le_of_ble_eq_true rfl, Nat.le_of_ble_eq_true rfl⟩) hsx0_12 (by decide) (by decide) rfl rfl hl.1 rfl (Nat.le_trans cs_n (by decide)) dX3_takesText_14 ⟨Nat.le_of_ble_eq_true rfl, Nat.le_of_ble_eq_true rfl⟩ hK hP hD hS hA hG (fun E ce q9 u_2 H locs hw hP hD hS hce hcv hcl => ?_) (fun v9 u_2 H locs hw hP hD hS => ?_)
    · exact hw.elim
    obtain ⟨rfl, sgv_3, gmv_3, lgv_3, rfl, hIv_3, ksv_3, kgv_3, klv_3, fU_r_1, fT_r_1, fY_r_1⟩ := hw
    obtain rfl := KS_nil ksv_3
    obtain rfl := KS_nil klv_3
    have hP : va_P (dC, dI) vwCl (cW ad cid a2 lx sg gmv_3 lg) H := hP
    have hD : va_D A (cW ad cid a2 lx sg gmv_3 lg) := hD
    refine W.eq (g2 := F0 m 17 ls []) rfl ?_
    refine lv_iconst (v := 1) hx hb dX3_takesText_17 (by decide) ?_
    exact W.nb (fun hN => W.widen (k := 1) (n := 6) (by decide) (by decide) (vx_ret (W.zret (v := 1) hx hb hr (iv_nb (iv_w (iv_k (by decide) : iv 1 1 1) (by decide))) (fun t ht hW => ⟨⟨some (.int 1), (sg, gmv_3, lg), rfl, ⟨1, rfl, sg, gmv_3, lg, rfl, hIv_3, KS_rf, (KS_tr (L := [11, 12, 56]) KS_rf kgv_3 (by decide)), KS_rf, (iv_w (iv_k (by decide) : iv 1 1 1) (by decide)), (fU_r_1), ((by have w9 : isWc cc.toInt := w12; obtain ⟨f1, f2⟩ := fT_r_1; refine Or.inr ⟨rfl, ?_, ?_⟩; (rw [sTx_w w9, f1]; rcases f2 with ⟨g1, g2⟩ | ⟨g1, z, g2, g3⟩; (rw [g2, if_pos (by omega)]); (rw [g3, upd_at, if_neg (by have := (show iv 0 24 (gm 11 x.toNatClampNeg) from CI_a hI 11 hvx (by decide)).1; have := (show iv 0 2000000 (gm 12 x.toNatClampNeg) from CI_a hI 12 hvx (by decide)).1; omega)]; congr 2; have := (show iv 0 24 (gm 11 x.toNatClampNeg) from CI_a hI 11 hvx (by decide)).1; have := (show iv 0 2000000 (gm 12 x.toNatClampNeg) from CI_a hI 12 hvx (by decide)).1; omega)); (intro j hj; rw [f1]; rcases f2 with ⟨g1, g2⟩ | ⟨g1, z, g2, g3⟩; (rw [g2]; exact ⟨rfl, rfl⟩); (rw [g3]; exact ⟨rfl, upd_ne hj⟩)))), (⟨fun _ => fY_r_1, fun q => absurd w12 q⟩)⟩, by rw [ht]; exact hP, va_K.moved hW.alike hK, hD⟩, hS.F ht, by rw [ht]; exact hN⟩) hS.2.2 dX3_takesText_18)))
  refine lv_iload_n hx hb dX3_takesText_0 rfl (lv_at hl 1 rfl) ?_
  refine lv_bipush (v := 10) hx hb dX3_takesText_1 (by decide) ?_
  refine lv_icmp_eq (tgt := 12) hx hb dX3_takesText_3 (by decide) (fun c_4 => ?_) (fun c_4 => ?_)
  · have h_5 : iv 10 10 cc := iv_eq c_4 hvcc (iv_k (by decide) : iv 10 10 10) (by decide)
    exact hj12 hvx (iv_w h_5 (by decide)) (by have := i32_0; have := i32_1; have := i32_2; have := i32_m1; have := (hvx).1; have := (hvx).2; have := (h_5).1; have := (h_5).2; omega) _ _ _ hP hD hS (lv_sub hl [0, 1] rfl)
  · have d_6 : ¬ (cc : Int32).toInt = 10 := lv_neT c_4 rfl
    refine lv_iload_n hx hb dX3_takesText_6 rfl (lv_at hl 1 rfl) ?_
    refine lv_bipush (v := 32) hx hb dX3_takesText_7 (by decide) ?_
    refine lv_icmp_ne (tgt := 19) hx hb dX3_takesText_9 (by decide) (fun c_7 => ?_) (fun c_7 => ?_)
    · have d_8 : ¬ (cc : Int32).toInt = 32 := lv_neT c_7 rfl
      refine ec_aload_n hx hb dX3_takesText_19 rfl (lv_at hl 0 rfl) ?_
      refine cr_get (t := 9) (j := 2) (C := RX3) (T := TX3) (N := 21) (v := .int (gm 12 x.toNatClampNeg)) hx hb htb inX3 hown hK hP hvx (by decide) (by decide) (by decide) rfl (by decide) (htb _ kw_382) rfl dX3_takesText_20 ?_
      obtain ⟨z_9, ez_9⟩ : ∃ z : Int32, z = (gm 12 x.toNatClampNeg) := ⟨_, rfl⟩
      refine W.eq (g2 := F0 m 23 ls [.int z_9]) (by rw [ez_9]) ?_
      have hz_9 : iv 0 2000000 z_9 := iv_of ez_9 (CI_a hI 12 hvx (by decide))
      refine lv_bipush (v := 24) hx hb dX3_takesText_23 (by decide) ?_
      refine lv_icmp_lt (tgt := 30) hx hb dX3_takesText_25 (by decide) (fun c_10 => ?_) (fun c_10 => ?_)
      · have h_11 : iv 0 23 z_9 := iv_ltL c_10 hz_9 (iv_k (by decide) : iv 24 24 24) (by decide)
        refine ec_aload_n hx hb dX3_takesText_30 rfl (lv_at hl 0 rfl) ?_
        refine cr_get (t := 9) (j := 0) (C := RX3) (T := TX3) (N := 21) (v := eV (ad 31) x) hx hb htb inX3 hown hK hP hvx (by decide) (by decide) (by decide) rfl (by decide) (htb _ kw_74) (cV_c rfl (hvx).1 (by rw [show cMu 9 0 = 1 from rfl, Nat.one_mul]; rfl)) dX3_takesText_31 ?_
        refine ec_aload_n hx hb dX3_takesText_34 rfl (lv_at hl 0 rfl) ?_
        refine cr_get (t := 9) (j := 2) (C := RX3) (T := TX3) (N := 21) (v := .int (gm 12 x.toNatClampNeg)) hx hb htb inX3 hown hK hP hvx (by decide) (by decide) (by decide) rfl (by decide) (htb _ kw_382) rfl dX3_takesText_35 ?_
        refine W.eq (g2 := F0 m 38 ls [.int z_9, eV (ad 31) x]) (by rw [show (gm 12 x.toNatClampNeg) = z_9 from ez_9.symm]) ?_
        refine lv_iload_n hx hb dX3_takesText_38 rfl (lv_at hl 1 rfl) ?_
        refine cr_cast (t := 31) (k := 56) (n9 := (24 * x.toNatClampNeg + (z_9 : Int32).toNatClampNeg)) (z := cc) hx hb hK hP hD hS hvx (by decide) (by decide) (by decide) rfl rfl rfl (show vp_in z_9 (cLen 31) from (show vp_in z_9 24 from (iv_in h_11 (by decide)))) (Or.inr (vin_lt (show vp_in z_9 (cLen 31) from (show vp_in z_9 24 from (iv_in h_11 (by decide)))))) rfl dX3_takesText_39 (fun gm_12 H locs egm_12 hP hD hS => ?_)
        rw [vnc hvcc] at egm_12
        have hI_gm_12 := CI_st hI egm_12 hvcc (by decide)
        refine ec_aload_n hx hb dX3_takesText_40 rfl (lv_at hl 0 rfl) ?_
        refine lv_dup hx hb dX3_takesText_41 (eV_cat _ _) ?_
        refine cr_get (t := 9) (j := 2) (C := RX3) (T := TX3) (N := 21) (v := .int (gm_12 12 x.toNatClampNeg)) hx hb htb inX3 hown hK hP hvx (by decide) (by decide) (by decide) rfl (by decide) (htb _ kw_382) rfl dX3_takesText_42 ?_
        refine W.eq (g2 := F0 m 45 ls [.int z_9, eV (ad 9) x]) (by rw [show (gm_12 12 x.toNatClampNeg) = z_9 from (Eq.trans (congrFun (up_ne egm_12 (by decide)) _) ez_9.symm)]) ?_
        refine lv_iconst (v := 1) hx hb dX3_takesText_45 (by decide) ?_
        refine lv_iadd hx hb dX3_takesText_46 ?_
        refine lv_topi (fun z_13 ez_13 => ?_)
        have hz_13 : iv 1 24 z_13 := iv_of ez_13 (iv_add h_11 (iv_k (by decide) : iv 1 1 1) (by decide))
        have tz_13 : z_13.toInt = (z_9 : Int32).toInt + 1 := by rw [ez_13]; exact iv_addE h_11 (iv_k (by decide) : iv 1 1 1) (by decide)
        refine cr_putg (t := 9) (j := 2) (C := RX3) (T := TX3) (N := 21) (ty0 := tyX3) (k := 12) (y := z_13) hx hb htb inX3 tyX3_ok nmX3 hown hK hP hD hS hvx (by decide) (by decide) (by decide) (by decide) rfl rfl (by decide) (htb _ kw_382) rfl (by show Value.int z_13 = Value.int (va_up gm_12 12 (upd (gm_12 12) x.toNatClampNeg z_13) 12 x.toNatClampNeg); rw [va_up_self, upd_at]) rfl rfl dX3_takesText_47 (fun gm_14 H locs egm_14 hP hD hS => ?_)
        have hI_gm_14 := CI_st hI_gm_12 egm_14 hz_13 (by decide)
        refine ec_aload_n hx hb dX3_takesText_50 rfl (lv_at hl 0 rfl) ?_
        refine ec_aload_n hx hb dX3_takesText_51 rfl (lv_at hl 0 rfl) ?_
        refine cr_get (t := 9) (j := 2) (C := RX3) (T := TX3) (N := 21) (v := .int (gm_14 12 x.toNatClampNeg)) hx hb htb inX3 hown hK hP hvx (by decide) (by decide) (by decide) rfl (by decide) (htb _ kw_382) rfl dX3_takesText_52 ?_
        refine W.eq (g2 := F0 m 55 ls [.int z_13, eV (ad 9) x]) (by rw [show (gm_14 12 x.toNatClampNeg) = z_13 from (Eq.trans (congrFun (up_at egm_14) _) upd_at)]) ?_
        refine cr_putg (t := 9) (j := 1) (C := RX3) (T := TX3) (N := 21) (ty0 := tyX3) (k := 11) (y := z_13) hx hb htb inX3 tyX3_ok nmX3 hown hK hP hD hS hvx (by decide) (by decide) (by decide) (by decide) rfl rfl (by decide) (htb _ kw_381) rfl (by show Value.int z_13 = Value.int (va_up gm_14 11 (upd (gm_14 11) x.toNatClampNeg z_13) 11 x.toNatClampNeg); rw [va_up_self, upd_at]) rfl rfl dX3_takesText_55 (fun gm_15 H locs egm_15 hP hD hS => ?_)
        have hI_gm_15 := CI_st hI_gm_14 egm_15 hz_13 (by decide)
        refine lv_iconst (v := 1) hx hb dX3_takesText_58 (by decide) ?_
        exact W.nb (fun hN => W.widen (k := 1) (n := 6) (by decide) (by decide) (vx_ret (W.zret (v := 1) hx hb hr (iv_nb (iv_w (iv_k (by decide) : iv 1 1 1) (by decide))) (fun t ht hW => ⟨⟨some (.int 1), (sg, gm_15, lg), rfl, ⟨1, rfl, sg, gm_15, lg, rfl, hI_gm_15, KS_rf, (KS_up (KS_up (KS_up KS_rf egm_12 (by decide)) egm_14 (by decide)) egm_15 (by decide)), KS_rf, (iv_w (iv_k (by decide) : iv 1 1 1) (by decide)), (UB_u hU12 (show gm_15 12 = upd (gm 12) (x : Int32).toNatClampNeg z_13 from ((up_ne egm_15 (by decide)).trans ((up_at egm_14).trans (by rw [show gm_12 12 = gm 12 from ((up_ne egm_12 (by decide)).trans rfl)])))) (by omega) (by have := tz_13; have q9 := hU12 x.toNatClampNeg (by have q1 := iv_cl hvx (by decide); have q2 := (hvx).2; omega); rw [← ez_9] at q9; omega)), ((by have q1 : gm_15 12 x.toNatClampNeg = z_13 := (by rw [(show gm_15 12 = upd (gm 12) (x : Int32).toNatClampNeg z_13 from ((up_ne egm_15 (by decide)).trans ((up_at egm_14).trans (by rw [show gm_12 12 = gm 12 from ((up_ne egm_12 (by decide)).trans rfl)])))), upd_at]); have q2 : gm_15 11 x.toNatClampNeg = z_13 := (by rw [(show gm_15 11 = upd (gm 11) (x : Int32).toNatClampNeg z_13 from ((up_at egm_15).trans (by rw [show gm_14 11 = gm 11 from ((up_ne egm_14 (by decide)).trans ((up_ne egm_12 (by decide)).trans rfl))]))), upd_at]); refine Or.inr ⟨rfl, ?_, fun j hj => ⟨by rw [(show gm_15 11 = upd (gm 11) (x : Int32).toNatClampNeg z_13 from ((up_at egm_15).trans (by rw [show gm_14 11 = gm 11 from ((up_ne egm_14 (by decide)).trans ((up_ne egm_12 (by decide)).trans rfl))])))]; exact upd_ne hj, by rw [(show gm_15 12 = upd (gm 12) (x : Int32).toNatClampNeg z_13 from ((up_ne egm_15 (by decide)).trans ((up_at egm_14).trans (by rw [show gm_12 12 = gm 12 from ((up_ne egm_12 (by decide)).trans rfl)]))))]; exact upd_ne hj⟩⟩; rw [sTx_s (show ¬ isWc cc.toInt from (by have := i32_0; have := i32_1; have := i32_2; have := i32_m1; have := (hvx).1; have := (hvx).2; have := (hvcc).1; have := (hvcc).2; have := (h_11).1; have := (h_11).2; have := (hz_13).1; have := (hz_13).2; have n0 : ¬ (cc : Int32).toInt = (10 : Int32).toInt := fun q => c_4 (Int32.toInt_inj.mp q); have : (10 : Int32).toInt = 10 := (by decide); have n1 : ¬ (cc : Int32).toInt = (32 : Int32).toInt := fun q => c_7 (Int32.toInt_inj.mp q); have : (32 : Int32).toInt = 32 := (by decide); omega)) (by have := i32_0; have := i32_1; have := i32_2; have := i32_m1; have := (hvx).1; have := (hvx).2; have := (hvcc).1; have := (hvcc).2; have := (h_11).1; have := (h_11).2; have := (hz_13).1; have := (hz_13).2; have := congrArg Int32.toInt ez_9; have := (show iv 0 24 (gm 11 x.toNatClampNeg) from CI_a hI 11 hvx (by decide)).1; have := (show iv 0 2000000 (gm 12 x.toNatClampNeg) from CI_a hI 12 hvx (by decide)).1; omega), q1, q2]; have := tz_13; have := congrArg Int32.toInt ez_9; have := (show iv 0 24 (gm 11 x.toNatClampNeg) from CI_a hI 11 hvx (by decide)).1; have := (show iv 0 2000000 (gm 12 x.toNatClampNeg) from CI_a hI 12 hvx (by decide)).1; congr 2 <;> omega)), (⟨fun q => absurd q (show ¬ isWc cc.toInt from (by have := i32_0; have := i32_1; have := i32_2; have := i32_m1; have := (hvx).1; have := (hvx).2; have := (hvcc).1; have := (hvcc).2; have := (h_11).1; have := (h_11).2; have := (hz_13).1; have := (hz_13).2; have n0 : ¬ (cc : Int32).toInt = (10 : Int32).toInt := fun q => c_4 (Int32.toInt_inj.mp q); have : (10 : Int32).toInt = 10 := (by decide); have n1 : ¬ (cc : Int32).toInt = (32 : Int32).toInt := fun q => c_7 (Int32.toInt_inj.mp q); have : (32 : Int32).toInt = 32 := (by decide); omega)), fun _ _ => ((Eq.trans (up_ne egm_15 (by decide)) (up_ne egm_14 (by decide))).trans ((up_at egm_12).trans (by rw [ez_9])))⟩)⟩, by rw [ht]; exact hP, va_K.moved hW.alike hK, hD⟩, hS.F ht, by rw [ht]; exact hN⟩) hS.2.2 dX3_takesText_59)))
      · have h_16 : iv 24 2000000 z_9 := iv_leR (i32_ge c_10) (iv_k (by decide) : iv 24 24 24) hz_9 (by decide)
        refine lv_iconst (v := 0) hx hb dX3_takesText_28 (by decide) ?_
        exact W.nb (fun hN => W.widen (k := 1) (n := 6) (by decide) (by decide) (vx_ret (W.zret (v := 0) hx hb hr (iv_nb (iv_w (iv_k (by decide) : iv 0 0 0) (by decide))) (fun t ht hW => ⟨⟨some (.int 0), (sg, gm, lg), rfl, ⟨0, rfl, sg, gm, lg, rfl, hI, KS_rf, KS_rf, KS_rf, (iv_w (iv_k (by decide) : iv 0 0 0) (by decide)), (UB_k hU12 rfl (by omega)), (Or.inl ⟨rfl, sTx_n (show ¬ isWc cc.toInt from (by have := i32_0; have := i32_1; have := i32_2; have := i32_m1; have := (hvx).1; have := (hvx).2; have := (hvcc).1; have := (hvcc).2; have := (h_16).1; have := (h_16).2; have n0 : ¬ (cc : Int32).toInt = (10 : Int32).toInt := fun q => c_4 (Int32.toInt_inj.mp q); have : (10 : Int32).toInt = 10 := (by decide); have n1 : ¬ (cc : Int32).toInt = (32 : Int32).toInt := fun q => c_7 (Int32.toInt_inj.mp q); have : (32 : Int32).toInt = 32 := (by decide); omega)) (by have := i32_0; have := i32_1; have := i32_2; have := i32_m1; have := (hvx).1; have := (hvx).2; have := (hvcc).1; have := (hvcc).2; have := (h_16).1; have := (h_16).2; have := congrArg Int32.toInt ez_9; have := (show iv 0 24 (gm 11 x.toNatClampNeg) from CI_a hI 11 hvx (by decide)).1; have := (show iv 0 2000000 (gm 12 x.toNatClampNeg) from CI_a hI 12 hvx (by decide)).1; omega)⟩), (⟨fun q => absurd q (show ¬ isWc cc.toInt from (by have := i32_0; have := i32_1; have := i32_2; have := i32_m1; have := (hvx).1; have := (hvx).2; have := (hvcc).1; have := (hvcc).2; have := (h_16).1; have := (h_16).2; have n0 : ¬ (cc : Int32).toInt = (10 : Int32).toInt := fun q => c_4 (Int32.toInt_inj.mp q); have : (10 : Int32).toInt = 10 := (by decide); have n1 : ¬ (cc : Int32).toInt = (32 : Int32).toInt := fun q => c_7 (Int32.toInt_inj.mp q); have : (32 : Int32).toInt = 32 := (by decide); omega)), fun _ q => absurd q (by have := i32_0; have := i32_1; have := i32_2; have := i32_m1; have := (hvx).1; have := (hvx).2; have := (hvcc).1; have := (hvcc).2; have := (h_16).1; have := (h_16).2; have := congrArg Int32.toInt ez_9; omega)⟩)⟩, by rw [ht]; exact hP, va_K.moved hW.alike hK, hD⟩, hS.F ht, by rw [ht]; exact hN⟩) hS.2.2 dX3_takesText_29)))
    · have h_17 : iv 32 32 cc := iv_eq c_7 hvcc (iv_k (by decide) : iv 32 32 32) (by decide)
      exact hj12 hvx (iv_w h_17 (by decide)) (by have := i32_0; have := i32_1; have := i32_2; have := i32_m1; have := (hvx).1; have := (hvx).2; have := (h_17).1; have := (h_17).2; omega) _ _ _ hP hD hS (lv_sub hl [0, 1] rfl)
end
section
set_option maxHeartbeats 4000000 in
set_option maxRecDepth 100000 in
theorem d_forgetWiring2 (l : Launch) (dC : Nat → ClassId) (dI : Nat → Nat → Nat) (ad : Nat → Nat → Nat) (cid : Nat → ClassId) (a2 : Nat → Nat) (lx : List Nat) (sg : Nat → Int32) (gm : Nat → Nat → Int32) (lg : Nat → Nat → Int64) (x : Int32) (hI : CI sg gm) (hvx : iv 0 79 x) : CMt dC dI ad cid a2 lx l yX3_forgetWiring wm_X3_forgetWiring ({ frames := 0, cells := 1, slots := 6, locals := 0 }) [eV (ad 9) x] sg gm lg (fun v u => v = none ∧ ∃ (sg2 : Nat → Int32) (gm2 : Nat → Nat → Int32) (lg2 : Nat → Nat → Int64), u = (sg2, gm2, lg2) ∧ CI sg2 gm2 ∧ KS [] sg sg2 ∧ KS [21, 22, 23, 24, 25, 26, 27] gm gm2 ∧ KS [1, 2, 3] lg lg2 ∧ (gm2 27 = upd (gm 27) x.toNatClampNeg (-1)) ∧ (lg2 1 = vp_updL (lg 1) x.toNatClampNeg 0)) (fun _ _ => False) := by
  intro sz
  refine vx_ofW (cc := cX3_forgetWiring) (maxL := 1) (ret := none) (by decide) rfl ?_
  intro p e s m args below meth c s₁ B hml hxt hv
  obtain ⟨rfl, hsz, hP, hK, hD0, hG⟩ := hv
  have hx := B.exec
  have hb := B.bytes
  have hr := B.returns
  have hts := atoms_spec (ws := wm_X3_forgetWiring) B.pre
  have htb := fun (w : Cond) (h : w ∈ tb) => hts w (List.mem_cons_of_mem _ h)
  have hown : s.vm.findClass RX3 = some m.cls := findClass_of_methodNamed B.named
  have hlocks := B.notSynchronized
  subst hsz
  have hD := hD0.self (sz := s.heap.size)
  generalize hAe : va_A (cW ad cid a2 lx sg gm lg) s.heap.size = A at hD hG ⊢
  have hA : ∀ q : Nat, s.heap.size ≤ q → A q := fun q h => by rw [← hAe]; exact Or.inr h
  have hS : va_S A s.heap s.heap [] := va_S.rf
  have hl := lv_entry ([eV (ad 9) x]) (n := 1) (by rw [show (lg_sl ([eV (ad 9) x])).length = 1 from by simp [lg_sl, eV_cat, cat_i, cat_l]]; exact Nat.le_of_ble_eq_true rfl)
  rw [lg_entry_eq]
  generalize (lg_sl ([eV (ad 9) x]) ++ List.replicate (1 - (lg_sl ([eV (ad 9) x])).length) Slot.unset).toArray = ls at hl ⊢
  have hl : lv_has ls 1 [(0, eV (ad 9) x)] := by simp [lv_args, eV_cat, cat_i, cat_l] at hl; exact hl
  refine ec_aload_n hx hb dX3_forgetWiring_0 rfl (lv_at hl 0 rfl) ?_
  refine lv_lconst (v := 0) hx hb dX3_forgetWiring_1 (by decide) ?_
  refine cr_putl (t := 9) (j := 11) (C := RX3) (T := TX3) (N := 21) (ty0 := tyX3) (k := 1) (y := 0) hx hb htb inX3 tyX3_ok nmX3 hown hK hP hD hS hvx (by decide) (by decide) (by decide) rfl rfl rfl (by decide) (htb _ kw_394) rfl (by show Value.long 0 = Value.long (va_up lg 1 (vp_updL (lg 1) x.toNatClampNeg 0) 1 x.toNatClampNeg); rw [va_up_self, pk_uLs]) rfl rfl dX3_forgetWiring_2 (fun lg_1 H locs elg_1 hP hD hS => ?_)
  refine ec_aload_n hx hb dX3_forgetWiring_5 rfl (lv_at hl 0 rfl) ?_
  refine lv_lconst (v := 0) hx hb dX3_forgetWiring_6 (by decide) ?_
  refine cr_putl (t := 9) (j := 12) (C := RX3) (T := TX3) (N := 21) (ty0 := tyX3) (k := 2) (y := 0) hx hb htb inX3 tyX3_ok nmX3 hown hK hP hD hS hvx (by decide) (by decide) (by decide) rfl rfl rfl (by decide) (htb _ kw_395) rfl (by show Value.long 0 = Value.long (va_up lg_1 2 (vp_updL (lg_1 2) x.toNatClampNeg 0) 2 x.toNatClampNeg); rw [va_up_self, pk_uLs]) rfl rfl dX3_forgetWiring_7 (fun lg_2 H locs elg_2 hP hD hS => ?_)
  refine ec_aload_n hx hb dX3_forgetWiring_10 rfl (lv_at hl 0 rfl) ?_
  refine lv_ldc2 (own := RX3) (v := 1099511627776) hx hb hown (htb _ kw_396) dX3_forgetWiring_11 ?_
  refine cr_putl (t := 9) (j := 13) (C := RX3) (T := TX3) (N := 21) (ty0 := tyX3) (k := 3) (y := 1099511627776) hx hb htb inX3 tyX3_ok nmX3 hown hK hP hD hS hvx (by decide) (by decide) (by decide) rfl rfl rfl (by decide) (htb _ kw_397) rfl (by show Value.long 1099511627776 = Value.long (va_up lg_2 3 (vp_updL (lg_2 3) x.toNatClampNeg 1099511627776) 3 x.toNatClampNeg); rw [va_up_self, pk_uLs]) rfl rfl dX3_forgetWiring_14 (fun lg_3 H locs elg_3 hP hD hS => ?_)
  refine ec_aload_n hx hb dX3_forgetWiring_17 rfl (lv_at hl 0 rfl) ?_
  refine lv_iconst (v := (-1)) hx hb dX3_forgetWiring_18 (by decide) ?_
  refine cr_putg (t := 9) (j := 14) (C := RX3) (T := TX3) (N := 21) (ty0 := tyX3) (k := 21) (y := (-1)) hx hb htb inX3 tyX3_ok nmX3 hown hK hP hD hS hvx (by decide) (by decide) (by decide) (by decide) rfl rfl (by decide) (htb _ kw_398) rfl (by show Value.int (-1) = Value.int (va_up gm 21 (upd (gm 21) x.toNatClampNeg (-1)) 21 x.toNatClampNeg); rw [va_up_self, upd_at]) rfl rfl dX3_forgetWiring_19 (fun gm_4 H locs egm_4 hP hD hS => ?_)
  have hI_gm_4 := CI_st hI egm_4 (iv_k (by decide) : iv (-1) (-1) (-1)) (by decide)
  refine ec_aload_n hx hb dX3_forgetWiring_22 rfl (lv_at hl 0 rfl) ?_
  refine lv_iconst (v := (-1)) hx hb dX3_forgetWiring_23 (by decide) ?_
  refine cr_putg (t := 9) (j := 15) (C := RX3) (T := TX3) (N := 21) (ty0 := tyX3) (k := 22) (y := (-1)) hx hb htb inX3 tyX3_ok nmX3 hown hK hP hD hS hvx (by decide) (by decide) (by decide) (by decide) rfl rfl (by decide) (htb _ kw_399) rfl (by show Value.int (-1) = Value.int (va_up gm_4 22 (upd (gm_4 22) x.toNatClampNeg (-1)) 22 x.toNatClampNeg); rw [va_up_self, upd_at]) rfl rfl dX3_forgetWiring_24 (fun gm_5 H locs egm_5 hP hD hS => ?_)
  have hI_gm_5 := CI_st hI_gm_4 egm_5 (iv_k (by decide) : iv (-1) (-1) (-1)) (by decide)
  refine ec_aload_n hx hb dX3_forgetWiring_27 rfl (lv_at hl 0 rfl) ?_
  refine lv_iconst (v := (-1)) hx hb dX3_forgetWiring_28 (by decide) ?_
  refine cr_putg (t := 9) (j := 16) (C := RX3) (T := TX3) (N := 21) (ty0 := tyX3) (k := 23) (y := (-1)) hx hb htb inX3 tyX3_ok nmX3 hown hK hP hD hS hvx (by decide) (by decide) (by decide) (by decide) rfl rfl (by decide) (htb _ kw_400) rfl (by show Value.int (-1) = Value.int (va_up gm_5 23 (upd (gm_5 23) x.toNatClampNeg (-1)) 23 x.toNatClampNeg); rw [va_up_self, upd_at]) rfl rfl dX3_forgetWiring_29 (fun gm_6 H locs egm_6 hP hD hS => ?_)
  have hI_gm_6 := CI_st hI_gm_5 egm_6 (iv_k (by decide) : iv (-1) (-1) (-1)) (by decide)
  refine ec_aload_n hx hb dX3_forgetWiring_32 rfl (lv_at hl 0 rfl) ?_
  refine lv_iconst (v := (-1)) hx hb dX3_forgetWiring_33 (by decide) ?_
  refine cr_putg (t := 9) (j := 17) (C := RX3) (T := TX3) (N := 21) (ty0 := tyX3) (k := 24) (y := (-1)) hx hb htb inX3 tyX3_ok nmX3 hown hK hP hD hS hvx (by decide) (by decide) (by decide) (by decide) rfl rfl (by decide) (htb _ kw_401) rfl (by show Value.int (-1) = Value.int (va_up gm_6 24 (upd (gm_6 24) x.toNatClampNeg (-1)) 24 x.toNatClampNeg); rw [va_up_self, upd_at]) rfl rfl dX3_forgetWiring_34 (fun gm_7 H locs egm_7 hP hD hS => ?_)
  have hI_gm_7 := CI_st hI_gm_6 egm_7 (iv_k (by decide) : iv (-1) (-1) (-1)) (by decide)
  refine ec_aload_n hx hb dX3_forgetWiring_37 rfl (lv_at hl 0 rfl) ?_
  refine ec_null (a := ad 33) hx hb dX3_forgetWiring_38 ?_
  refine cr_putg (t := 9) (j := 18) (C := RX3) (T := TX3) (N := 21) (ty0 := tyX3) (k := 25) (y := (-1)) hx hb htb inX3 tyX3_ok nmX3 hown hK hP hD hS hvx (by decide) (by decide) (by decide) (by decide) rfl rfl (by decide) (htb _ kw_402) rfl (by show eV (ad 33) (-1) = eV (ad 33) (va_up gm_7 25 (upd (gm_7 25) x.toNatClampNeg (-1)) 25 x.toNatClampNeg); rw [va_up_self, upd_at]) (ev_n _) (ev_f _) dX3_forgetWiring_39 (fun gm_8 H locs egm_8 hP hD hS => ?_)
  have hI_gm_8 := CI_st hI_gm_7 egm_8 (iv_k (by decide) : iv (-1) (-1) (-1)) (by decide)
  refine ec_aload_n hx hb dX3_forgetWiring_42 rfl (lv_at hl 0 rfl) ?_
  refine ec_null (a := ad 9) hx hb dX3_forgetWiring_43 ?_
  refine cr_putg (t := 9) (j := 19) (C := RX3) (T := TX3) (N := 21) (ty0 := tyX3) (k := 26) (y := (-1)) hx hb htb inX3 tyX3_ok nmX3 hown hK hP hD hS hvx (by decide) (by decide) (by decide) (by decide) rfl rfl (by decide) (htb _ kw_403) rfl (by show eV (ad 9) (-1) = eV (ad 9) (va_up gm_8 26 (upd (gm_8 26) x.toNatClampNeg (-1)) 26 x.toNatClampNeg); rw [va_up_self, upd_at]) (ev_n _) (ev_f _) dX3_forgetWiring_44 (fun gm_9 H locs egm_9 hP hD hS => ?_)
  have hI_gm_9 := CI_st hI_gm_8 egm_9 (iv_k (by decide) : iv (-1) (-1) (-1)) (by decide)
  refine ec_aload_n hx hb dX3_forgetWiring_47 rfl (lv_at hl 0 rfl) ?_
  refine ec_null (a := ad 10) hx hb dX3_forgetWiring_48 ?_
  refine cr_putg (t := 9) (j := 20) (C := RX3) (T := TX3) (N := 21) (ty0 := tyX3) (k := 27) (y := (-1)) hx hb htb inX3 tyX3_ok nmX3 hown hK hP hD hS hvx (by decide) (by decide) (by decide) (by decide) rfl rfl (by decide) (htb _ kw_404) rfl (by show eV (ad 10) (-1) = eV (ad 10) (va_up gm_9 27 (upd (gm_9 27) x.toNatClampNeg (-1)) 27 x.toNatClampNeg); rw [va_up_self, upd_at]) (ev_n _) (ev_f _) dX3_forgetWiring_49 (fun gm_10 H locs egm_10 hP hD hS => ?_)
  have hI_gm_10 := CI_st hI_gm_9 egm_10 (iv_k (by decide) : iv (-1) (-1) (-1)) (by decide)
  exact W.nb (fun hN => W.widen (k := 1) (n := 6) (by decide) (by decide) (vx_ret (W.vret hx hb hr (fun t ht hW => ⟨⟨none, (sg, gm_10, lg_3), rfl, ⟨rfl, sg, gm_10, lg_3, rfl, hI_gm_10, KS_rf, (KS_up (KS_up (KS_up (KS_up (KS_up (KS_up (KS_up KS_rf egm_4 (by decide)) egm_5 (by decide)) egm_6 (by decide)) egm_7 (by decide)) egm_8 (by decide)) egm_9 (by decide)) egm_10 (by decide)), (KS_up (KS_up (KS_up KS_rf elg_1 (by decide)) elg_2 (by decide)) elg_3 (by decide)), ((show gm_10 27 = upd (gm 27) (x : Int32).toNatClampNeg (-1) from ((up_at egm_10).trans (by rw [show gm_9 27 = gm 27 from ((up_ne egm_9 (by decide)).trans ((up_ne egm_8 (by decide)).trans ((up_ne egm_7 (by decide)).trans ((up_ne egm_6 (by decide)).trans ((up_ne egm_5 (by decide)).trans ((up_ne egm_4 (by decide)).trans rfl))))))])))), ((show lg_3 1 = vp_updL (lg 1) (x : Int32).toNatClampNeg 0 from ((up_ne elg_3 (by decide)).trans ((up_ne elg_2 (by decide)).trans ((up_at elg_1).trans (by rw [show lg 1 = lg 1 from rfl]))))))⟩, by rw [ht]; exact hP, va_K.moved hW.alike hK, hD⟩, hS.F ht, by rw [ht]; exact hN⟩) hS.2.2 dX3_forgetWiring_52)))

set_option maxHeartbeats 4000000 in
set_option maxRecDepth 100000 in
theorem d_beginEl2 (l : Launch) (dC : Nat → ClassId) (dI : Nat → Nat → Nat) (ad : Nat → Nat → Nat) (cid : Nat → ClassId) (a2 : Nat → Nat) (lx : List Nat) (sg : Nat → Int32) (gm : Nat → Nat → Int32) (lg : Nat → Nat → Int64) (x : Int32) (pl : Int32) (ar : Int32) (fa : Int32) (hI : CI sg gm) (hvx : iv 0 79 x) (hvpl : iv 0 1201 pl) (hvar : iv (-1) 79 ar) (hvfa : iv 0 240 fa) : CMt dC dI ad cid a2 lx l yX3_begin wm_X3_begin ({ frames := 1, cells := 1, slots := 6, locals := 20 }) [eV (ad 9) x, .int pl, eV (ad 9) ar, .int fa] sg gm lg (fun v u => v = none ∧ ∃ (sg2 : Nat → Int32) (gm2 : Nat → Nat → Int32) (lg2 : Nat → Nat → Int64), u = (sg2, gm2, lg2) ∧ CI sg2 gm2 ∧ KS [] sg sg2 ∧ KS [11, 12, 13, 14, 15, 16, 17, 18, 19, 20, 21, 22, 23, 24, 25, 26, 27] gm gm2 ∧ KS [1, 2, 3] lg lg2 ∧ (gm2 11 = upd (gm 11) x.toNatClampNeg 0) ∧ (gm2 12 = upd (gm 12) x.toNatClampNeg 0) ∧ (gm2 13 = upd (gm 13) x.toNatClampNeg pl) ∧ (gm2 14 = upd (gm 14) x.toNatClampNeg (-1)) ∧ (gm2 15 = upd (gm 15) x.toNatClampNeg ar) ∧ (gm2 16 = upd (gm 16) x.toNatClampNeg (-1)) ∧ (gm2 17 = upd (gm 17) x.toNatClampNeg (-1)) ∧ (gm2 18 = upd (gm 18) x.toNatClampNeg 0) ∧ (gm2 19 = upd (gm 19) x.toNatClampNeg fa) ∧ (gm2 20 = upd (gm 20) x.toNatClampNeg 0) ∧ (gm2 27 = upd (gm 27) x.toNatClampNeg (-1)) ∧ (lg2 1 = vp_updL (lg 1) x.toNatClampNeg 0)) (fun _ _ => False) := by
  intro sz
  refine vx_ofW (cc := cX3_begin) (maxL := 4) (ret := none) (by decide) rfl ?_
  intro p e s m args below meth c s₁ B hml hxt hv
  obtain ⟨rfl, hsz, hP, hK, hD0, hG⟩ := hv
  have hx := B.exec
  have hb := B.bytes
  have hr := B.returns
  have hts := atoms_spec (ws := wm_X3_begin) B.pre
  have htb := fun (w : Cond) (h : w ∈ tb) => hts w (List.mem_cons_of_mem _ h)
  have hown : s.vm.findClass RX3 = some m.cls := findClass_of_methodNamed B.named
  have hlocks := B.notSynchronized
  subst hsz
  have hD := hD0.self (sz := s.heap.size)
  generalize hAe : va_A (cW ad cid a2 lx sg gm lg) s.heap.size = A at hD hG ⊢
  have hA : ∀ q : Nat, s.heap.size ≤ q → A q := fun q h => by rw [← hAe]; exact Or.inr h
  have hS : va_S A s.heap s.heap [] := va_S.rf
  have hl := lv_entry ([eV (ad 9) x, .int pl, eV (ad 9) ar, .int fa]) (n := 4) (by rw [show (lg_sl ([eV (ad 9) x, .int pl, eV (ad 9) ar, .int fa])).length = 4 from by simp [lg_sl, eV_cat, cat_i, cat_l]]; exact Nat.le_of_ble_eq_true rfl)
  rw [lg_entry_eq]
  generalize (lg_sl ([eV (ad 9) x, .int pl, eV (ad 9) ar, .int fa]) ++ List.replicate (4 - (lg_sl ([eV (ad 9) x, .int pl, eV (ad 9) ar, .int fa])).length) Slot.unset).toArray = ls at hl ⊢
  have hl : lv_has ls 4 [(0, eV (ad 9) x), (1, .int pl), (2, eV (ad 9) ar), (3, .int fa)] := by simp [lv_args, eV_cat, cat_i, cat_l] at hl; exact hl
  refine ec_aload_n hx hb dX3_begin_0 rfl (lv_at hl 0 rfl) ?_
  refine lv_iconst (v := 0) hx hb dX3_begin_1 (by decide) ?_
  refine cr_putg (t := 9) (j := 1) (C := RX3) (T := TX3) (N := 21) (ty0 := tyX3) (k := 11) (y := 0) hx hb htb inX3 tyX3_ok nmX3 hown hK hP hD hS hvx (by decide) (by decide) (by decide) (by decide) rfl rfl (by decide) (htb _ kw_381) rfl (by show Value.int 0 = Value.int (va_up gm 11 (upd (gm 11) x.toNatClampNeg 0) 11 x.toNatClampNeg); rw [va_up_self, upd_at]) rfl rfl dX3_begin_2 (fun gm_1 H locs egm_1 hP hD hS => ?_)
  have hI_gm_1 := CI_st hI egm_1 (iv_k (by decide) : iv 0 0 0) (by decide)
  refine ec_aload_n hx hb dX3_begin_5 rfl (lv_at hl 0 rfl) ?_
  refine lv_iconst (v := 0) hx hb dX3_begin_6 (by decide) ?_
  refine cr_putg (t := 9) (j := 2) (C := RX3) (T := TX3) (N := 21) (ty0 := tyX3) (k := 12) (y := 0) hx hb htb inX3 tyX3_ok nmX3 hown hK hP hD hS hvx (by decide) (by decide) (by decide) (by decide) rfl rfl (by decide) (htb _ kw_382) rfl (by show Value.int 0 = Value.int (va_up gm_1 12 (upd (gm_1 12) x.toNatClampNeg 0) 12 x.toNatClampNeg); rw [va_up_self, upd_at]) rfl rfl dX3_begin_7 (fun gm_2 H locs egm_2 hP hD hS => ?_)
  have hI_gm_2 := CI_st hI_gm_1 egm_2 (iv_k (by decide) : iv 0 0 0) (by decide)
  refine ec_aload_n hx hb dX3_begin_10 rfl (lv_at hl 0 rfl) ?_
  refine lv_iload_n hx hb dX3_begin_11 rfl (lv_at hl 1 rfl) ?_
  refine cr_putg (t := 9) (j := 3) (C := RX3) (T := TX3) (N := 21) (ty0 := tyX3) (k := 13) (y := pl) hx hb htb inX3 tyX3_ok nmX3 hown hK hP hD hS hvx (by decide) (by decide) (by decide) (by decide) rfl rfl (by decide) (htb _ kw_383) rfl (by show Value.int pl = Value.int (va_up gm_2 13 (upd (gm_2 13) x.toNatClampNeg pl) 13 x.toNatClampNeg); rw [va_up_self, upd_at]) rfl rfl dX3_begin_12 (fun gm_3 H locs egm_3 hP hD hS => ?_)
  have hI_gm_3 := CI_st hI_gm_2 egm_3 hvpl (by decide)
  refine ec_aload_n hx hb dX3_begin_15 rfl (lv_at hl 0 rfl) ?_
  refine ec_null (a := ad 33) hx hb dX3_begin_16 ?_
  refine cr_putg (t := 9) (j := 4) (C := RX3) (T := TX3) (N := 21) (ty0 := tyX3) (k := 14) (y := (-1)) hx hb htb inX3 tyX3_ok nmX3 hown hK hP hD hS hvx (by decide) (by decide) (by decide) (by decide) rfl rfl (by decide) (htb _ kw_384) rfl (by show eV (ad 33) (-1) = eV (ad 33) (va_up gm_3 14 (upd (gm_3 14) x.toNatClampNeg (-1)) 14 x.toNatClampNeg); rw [va_up_self, upd_at]) (ev_n _) (ev_f _) dX3_begin_17 (fun gm_4 H locs egm_4 hP hD hS => ?_)
  have hI_gm_4 := CI_st hI_gm_3 egm_4 (iv_k (by decide) : iv (-1) (-1) (-1)) (by decide)
  refine ec_aload_n hx hb dX3_begin_20 rfl (lv_at hl 0 rfl) ?_
  refine ec_aload_n hx hb dX3_begin_21 rfl (lv_at hl 2 rfl) ?_
  refine cr_putg (t := 9) (j := 5) (C := RX3) (T := TX3) (N := 21) (ty0 := tyX3) (k := 15) (y := ar) hx hb htb inX3 tyX3_ok nmX3 hown hK hP hD hS hvx (by decide) (by decide) (by decide) (by decide) rfl rfl (by decide) (htb _ kw_385) rfl (by show eV (ad 9) ar = eV (ad 9) (va_up gm_4 15 (upd (gm_4 15) x.toNatClampNeg ar) 15 x.toNatClampNeg); rw [va_up_self, upd_at]) (ev_n _) (ev_f _) dX3_begin_22 (fun gm_5 H locs egm_5 hP hD hS => ?_)
  have hI_gm_5 := CI_st hI_gm_4 egm_5 hvar (by decide)
  refine ec_aload_n hx hb dX3_begin_25 rfl (lv_at hl 0 rfl) ?_
  refine ec_null (a := ad 9) hx hb dX3_begin_26 ?_
  refine cr_putg (t := 9) (j := 6) (C := RX3) (T := TX3) (N := 21) (ty0 := tyX3) (k := 16) (y := (-1)) hx hb htb inX3 tyX3_ok nmX3 hown hK hP hD hS hvx (by decide) (by decide) (by decide) (by decide) rfl rfl (by decide) (htb _ kw_386) rfl (by show eV (ad 9) (-1) = eV (ad 9) (va_up gm_5 16 (upd (gm_5 16) x.toNatClampNeg (-1)) 16 x.toNatClampNeg); rw [va_up_self, upd_at]) (ev_n _) (ev_f _) dX3_begin_27 (fun gm_6 H locs egm_6 hP hD hS => ?_)
  have hI_gm_6 := CI_st hI_gm_5 egm_6 (iv_k (by decide) : iv (-1) (-1) (-1)) (by decide)
  refine ec_aload_n hx hb dX3_begin_30 rfl (lv_at hl 0 rfl) ?_
  refine ec_null (a := ad 9) hx hb dX3_begin_31 ?_
  refine cr_putg (t := 9) (j := 7) (C := RX3) (T := TX3) (N := 21) (ty0 := tyX3) (k := 17) (y := (-1)) hx hb htb inX3 tyX3_ok nmX3 hown hK hP hD hS hvx (by decide) (by decide) (by decide) (by decide) rfl rfl (by decide) (htb _ kw_387) rfl (by show eV (ad 9) (-1) = eV (ad 9) (va_up gm_6 17 (upd (gm_6 17) x.toNatClampNeg (-1)) 17 x.toNatClampNeg); rw [va_up_self, upd_at]) (ev_n _) (ev_f _) dX3_begin_32 (fun gm_7 H locs egm_7 hP hD hS => ?_)
  have hI_gm_7 := CI_st hI_gm_6 egm_7 (iv_k (by decide) : iv (-1) (-1) (-1)) (by decide)
  refine ec_aload_n hx hb dX3_begin_35 rfl (lv_at hl 0 rfl) ?_
  refine lv_iconst (v := 0) hx hb dX3_begin_36 (by decide) ?_
  refine cr_putg (t := 9) (j := 8) (C := RX3) (T := TX3) (N := 21) (ty0 := tyX3) (k := 18) (y := 0) hx hb htb inX3 tyX3_ok nmX3 hown hK hP hD hS hvx (by decide) (by decide) (by decide) (by decide) rfl rfl (by decide) (htb _ kw_388) rfl (by show Value.int 0 = Value.int (va_up gm_7 18 (upd (gm_7 18) x.toNatClampNeg 0) 18 x.toNatClampNeg); rw [va_up_self, upd_at]) rfl rfl dX3_begin_37 (fun gm_8 H locs egm_8 hP hD hS => ?_)
  have hI_gm_8 := CI_st hI_gm_7 egm_8 (iv_k (by decide) : iv 0 0 0) (by decide)
  refine ec_aload_n hx hb dX3_begin_40 rfl (lv_at hl 0 rfl) ?_
  refine lv_iload_n hx hb dX3_begin_41 rfl (lv_at hl 3 rfl) ?_
  refine cr_putg (t := 9) (j := 9) (C := RX3) (T := TX3) (N := 21) (ty0 := tyX3) (k := 19) (y := fa) hx hb htb inX3 tyX3_ok nmX3 hown hK hP hD hS hvx (by decide) (by decide) (by decide) (by decide) rfl rfl (by decide) (htb _ kw_389) rfl (by show Value.int fa = Value.int (va_up gm_8 19 (upd (gm_8 19) x.toNatClampNeg fa) 19 x.toNatClampNeg); rw [va_up_self, upd_at]) rfl rfl dX3_begin_42 (fun gm_9 H locs egm_9 hP hD hS => ?_)
  have hI_gm_9 := CI_st hI_gm_8 egm_9 hvfa (by decide)
  refine ec_aload_n hx hb dX3_begin_45 rfl (lv_at hl 0 rfl) ?_
  refine lv_iconst (v := 0) hx hb dX3_begin_46 (by decide) ?_
  refine cr_putg (t := 9) (j := 10) (C := RX3) (T := TX3) (N := 21) (ty0 := tyX3) (k := 20) (y := 0) hx hb htb inX3 tyX3_ok nmX3 hown hK hP hD hS hvx (by decide) (by decide) (by decide) (by decide) rfl rfl (by decide) (htb _ kw_390) rfl (by show Value.int 0 = Value.int (va_up gm_9 20 (upd (gm_9 20) x.toNatClampNeg 0) 20 x.toNatClampNeg); rw [va_up_self, upd_at]) rfl rfl dX3_begin_47 (fun gm_10 H locs egm_10 hP hD hS => ?_)
  have hI_gm_10 := CI_st hI_gm_9 egm_10 (iv_k (by decide) : iv 0 0 0) (by decide)
  refine ec_aload_n hx hb dX3_begin_50 rfl (lv_at hl 0 rfl) ?_
  refine cm_callV (t := 9) (C := RX3) (T := TX3) (N := 21) (rest := []) (as := []) ⟨hx, hb, hml, hown, htb⟩ (d_forgetWiring2 l dC dI ad cid a2 lx sg gm_10 lg x hI_gm_10 hvx) (cwV 0 htb (gd_V kw_391 kw_392 kw_393 kw_66 kw_1429) rfl rfl rfl (by decide +kernel) ⟨Nat.le_of_ble_eq_true rfl, Nat.le_of_ble_eq_true rfl⟩) hvx (by decide) (by decide) rfl rfl hl.1 rfl (Nat.le_trans cs_n (by decide)) dX3_begin_51 ⟨Nat.le_of_ble_eq_true rfl, Nat.le_of_ble_eq_true rfl⟩ hK hP hD hS hA hG (fun E ce q9 u_12 H locs hw hP hD hS hce hcv hcl => ?_) (fun v9 u_12 H locs hw hP hD hS => ?_)
  · exact hw.elim
  obtain ⟨rfl, sgv_13, gmv_13, lgv_13, rfl, hIv_13, ksv_13, kgv_13, klv_13, f27_r_11, fl1_r_11⟩ := hw
  obtain rfl := KS_nil ksv_13
  have hP : va_P (dC, dI) vwCl (cW ad cid a2 lx sg gmv_13 lgv_13) H := hP
  have hD : va_D A (cW ad cid a2 lx sg gmv_13 lgv_13) := hD
  refine W.eq (g2 := F0 m 54 ls []) rfl ?_
  exact W.nb (fun hN => W.widen (k := 1) (n := 6) (by decide) (by decide) (vx_ret (W.vret hx hb hr (fun t ht hW => ⟨⟨none, (sg, gmv_13, lgv_13), rfl, ⟨rfl, sg, gmv_13, lgv_13, rfl, hIv_13, KS_rf, (KS_tr (L := [11, 12, 13, 14, 15, 16, 17, 18, 19, 20, 21, 22, 23, 24, 25, 26, 27]) (KS_up (KS_up (KS_up (KS_up (KS_up (KS_up (KS_up (KS_up (KS_up (KS_up KS_rf egm_1 (by decide)) egm_2 (by decide)) egm_3 (by decide)) egm_4 (by decide)) egm_5 (by decide)) egm_6 (by decide)) egm_7 (by decide)) egm_8 (by decide)) egm_9 (by decide)) egm_10 (by decide)) kgv_13 (by decide)), (KS_tr (L := [1, 2, 3]) KS_rf klv_13 (by decide)), ((show gmv_13 11 = upd (gm 11) (x : Int32).toNatClampNeg 0 from ((kgv_13 11 (by decide)).trans ((up_ne egm_10 (by decide)).trans ((up_ne egm_9 (by decide)).trans ((up_ne egm_8 (by decide)).trans ((up_ne egm_7 (by decide)).trans ((up_ne egm_6 (by decide)).trans ((up_ne egm_5 (by decide)).trans ((up_ne egm_4 (by decide)).trans ((up_ne egm_3 (by decide)).trans ((up_ne egm_2 (by decide)).trans ((up_at egm_1).trans (by rw [show gm 11 = gm 11 from rfl])))))))))))))), ((show gmv_13 12 = upd (gm 12) (x : Int32).toNatClampNeg 0 from ((kgv_13 12 (by decide)).trans ((up_ne egm_10 (by decide)).trans ((up_ne egm_9 (by decide)).trans ((up_ne egm_8 (by decide)).trans ((up_ne egm_7 (by decide)).trans ((up_ne egm_6 (by decide)).trans ((up_ne egm_5 (by decide)).trans ((up_ne egm_4 (by decide)).trans ((up_ne egm_3 (by decide)).trans ((up_at egm_2).trans (by rw [show gm_1 12 = gm 12 from ((up_ne egm_1 (by decide)).trans rfl)]))))))))))))), ((show gmv_13 13 = upd (gm 13) (x : Int32).toNatClampNeg pl from ((kgv_13 13 (by decide)).trans ((up_ne egm_10 (by decide)).trans ((up_ne egm_9 (by decide)).trans ((up_ne egm_8 (by decide)).trans ((up_ne egm_7 (by decide)).trans ((up_ne egm_6 (by decide)).trans ((up_ne egm_5 (by decide)).trans ((up_ne egm_4 (by decide)).trans ((up_at egm_3).trans (by rw [show gm_2 13 = gm 13 from ((up_ne egm_2 (by decide)).trans ((up_ne egm_1 (by decide)).trans rfl))])))))))))))), ((show gmv_13 14 = upd (gm 14) (x : Int32).toNatClampNeg (-1) from ((kgv_13 14 (by decide)).trans ((up_ne egm_10 (by decide)).trans ((up_ne egm_9 (by decide)).trans ((up_ne egm_8 (by decide)).trans ((up_ne egm_7 (by decide)).trans ((up_ne egm_6 (by decide)).trans ((up_ne egm_5 (by decide)).trans ((up_at egm_4).trans (by rw [show gm_3 14 = gm 14 from ((up_ne egm_3 (by decide)).trans ((up_ne egm_2 (by decide)).trans ((up_ne egm_1 (by decide)).trans rfl)))]))))))))))), ((show gmv_13 15 = upd (gm 15) (x : Int32).toNatClampNeg ar from ((kgv_13 15 (by decide)).trans ((up_ne egm_10 (by decide)).trans ((up_ne egm_9 (by decide)).trans ((up_ne egm_8 (by decide)).trans ((up_ne egm_7 (by decide)).trans ((up_ne egm_6 (by decide)).trans ((up_at egm_5).trans (by rw [show gm_4 15 = gm 15 from ((up_ne egm_4 (by decide)).trans ((up_ne egm_3 (by decide)).trans ((up_ne egm_2 (by decide)).trans ((up_ne egm_1 (by decide)).trans rfl))))])))))))))), ((show gmv_13 16 = upd (gm 16) (x : Int32).toNatClampNeg (-1) from ((kgv_13 16 (by decide)).trans ((up_ne egm_10 (by decide)).trans ((up_ne egm_9 (by decide)).trans ((up_ne egm_8 (by decide)).trans ((up_ne egm_7 (by decide)).trans ((up_at egm_6).trans (by rw [show gm_5 16 = gm 16 from ((up_ne egm_5 (by decide)).trans ((up_ne egm_4 (by decide)).trans ((up_ne egm_3 (by decide)).trans ((up_ne egm_2 (by decide)).trans ((up_ne egm_1 (by decide)).trans rfl)))))]))))))))), ((show gmv_13 17 = upd (gm 17) (x : Int32).toNatClampNeg (-1) from ((kgv_13 17 (by decide)).trans ((up_ne egm_10 (by decide)).trans ((up_ne egm_9 (by decide)).trans ((up_ne egm_8 (by decide)).trans ((up_at egm_7).trans (by rw [show gm_6 17 = gm 17 from ((up_ne egm_6 (by decide)).trans ((up_ne egm_5 (by decide)).trans ((up_ne egm_4 (by decide)).trans ((up_ne egm_3 (by decide)).trans ((up_ne egm_2 (by decide)).trans ((up_ne egm_1 (by decide)).trans rfl))))))])))))))), ((show gmv_13 18 = upd (gm 18) (x : Int32).toNatClampNeg 0 from ((kgv_13 18 (by decide)).trans ((up_ne egm_10 (by decide)).trans ((up_ne egm_9 (by decide)).trans ((up_at egm_8).trans (by rw [show gm_7 18 = gm 18 from ((up_ne egm_7 (by decide)).trans ((up_ne egm_6 (by decide)).trans ((up_ne egm_5 (by decide)).trans ((up_ne egm_4 (by decide)).trans ((up_ne egm_3 (by decide)).trans ((up_ne egm_2 (by decide)).trans ((up_ne egm_1 (by decide)).trans rfl)))))))]))))))), ((show gmv_13 19 = upd (gm 19) (x : Int32).toNatClampNeg fa from ((kgv_13 19 (by decide)).trans ((up_ne egm_10 (by decide)).trans ((up_at egm_9).trans (by rw [show gm_8 19 = gm 19 from ((up_ne egm_8 (by decide)).trans ((up_ne egm_7 (by decide)).trans ((up_ne egm_6 (by decide)).trans ((up_ne egm_5 (by decide)).trans ((up_ne egm_4 (by decide)).trans ((up_ne egm_3 (by decide)).trans ((up_ne egm_2 (by decide)).trans ((up_ne egm_1 (by decide)).trans rfl))))))))])))))), ((show gmv_13 20 = upd (gm 20) (x : Int32).toNatClampNeg 0 from ((kgv_13 20 (by decide)).trans ((up_at egm_10).trans (by rw [show gm_9 20 = gm 20 from ((up_ne egm_9 (by decide)).trans ((up_ne egm_8 (by decide)).trans ((up_ne egm_7 (by decide)).trans ((up_ne egm_6 (by decide)).trans ((up_ne egm_5 (by decide)).trans ((up_ne egm_4 (by decide)).trans ((up_ne egm_3 (by decide)).trans ((up_ne egm_2 (by decide)).trans ((up_ne egm_1 (by decide)).trans rfl)))))))))]))))), (f27_r_11.trans (by rw [(show gm_10 27 = gm 27 from (Eq.trans (up_ne egm_10 (by decide)) (Eq.trans (up_ne egm_9 (by decide)) (Eq.trans (up_ne egm_8 (by decide)) (Eq.trans (up_ne egm_7 (by decide)) (Eq.trans (up_ne egm_6 (by decide)) (Eq.trans (up_ne egm_5 (by decide)) (Eq.trans (up_ne egm_4 (by decide)) (Eq.trans (up_ne egm_3 (by decide)) (Eq.trans (up_ne egm_2 (by decide)) (up_ne egm_1 (by decide))))))))))))])), (fl1_r_11)⟩, by rw [ht]; exact hP, va_K.moved hW.alike hK, hD⟩, hS.F ht, by rw [ht]; exact hN⟩) hS.2.2 dX3_begin_54)))

set_option maxHeartbeats 4000000 in
set_option maxRecDepth 100000 in
theorem d_addInner2 (l : Launch) (dC : Nat → ClassId) (dI : Nat → Nat → Nat) (ad : Nat → Nat → Nat) (cid : Nat → ClassId) (a2 : Nat → Nat) (lx : List Nat) (sg : Nat → Int32) (gm : Nat → Nat → Int32) (lg : Nat → Nat → Int64) (x : Int32) (nn : Int32) (K9 : Nat) (hI : CI sg gm) (hvx : iv 0 79 x) (hvnn : iv 0 79 nn) (hU12 : UB 12 K9 gm) (hU18 : UB 18 K9 gm) (hK9 : K9 ≤ 1999990) (hLK : LK sg gm) (hxl : x.toInt < (sg 4).toInt) (hNX : ∀ j, j < (sg 4).toNatClampNeg → 0 ≤ (gm 17 j).toInt → (j : Int) < (gm 17 j).toInt) (hN2 : ∀ j : Nat, (j : Int) < nn.toInt → (gm 17 j).toInt < nn.toInt) (hF2 : (gm 16 x.toNatClampNeg).toInt < nn.toInt) : CMt dC dI ad cid a2 lx l yX3_addInner wm_X3_addInner ({ frames := 0, cells := 1, slots := 6, locals := 0 }) [eV (ad 9) x, eV (ad 9) nn] sg gm lg (fun v u => v = none ∧ ∃ (sg2 : Nat → Int32) (gm2 : Nat → Nat → Int32) (lg2 : Nat → Nat → Int64), u = (sg2, gm2, lg2) ∧ CI sg2 gm2 ∧ KS [] sg sg2 ∧ KS [16, 17, 18] gm gm2 ∧ KS [] lg lg2 ∧ (UB 18 (K9 + 1) gm2) ∧ (∀ j, (gm2 16 j = gm 16 j ∨ (gm2 16 j = nn ∧ j = x.toNatClampNeg)) ∧ (gm2 17 j = gm 17 j ∨ (gm2 17 j = nn ∧ gm 15 j = x))) ∧ ((∃ z : Int32, z.toInt = (gm 18 x.toNatClampNeg).toInt + 1 ∧ gm2 18 = upd (gm 18) x.toNatClampNeg z) ∧ (((gm 16 x.toNatClampNeg).toInt = -1 ∧ gm2 16 = upd (gm 16) x.toNatClampNeg nn ∧ gm2 17 = gm 17) ∨ (¬ (gm 16 x.toNatClampNeg).toInt = -1 ∧ gm2 16 = gm 16 ∧ ∃ j : Nat, (j : Int) < nn.toInt ∧ gm 15 j = x ∧ (gm 17 j).toInt = -1 ∧ gm2 17 = upd (gm 17) j nn)))) (fun _ _ => False) := by
  intro sz
  refine vx_ofW (cc := cX3_addInner) (maxL := 4) (ret := none) (by decide) rfl ?_
  intro p e s m args below meth c s₁ B hml hxt hv
  obtain ⟨rfl, hsz, hP, hK, hD0, hG⟩ := hv
  have hx := B.exec
  have hb := B.bytes
  have hr := B.returns
  have hts := atoms_spec (ws := wm_X3_addInner) B.pre
  have htb := fun (w : Cond) (h : w ∈ tb) => hts w (List.mem_cons_of_mem _ h)
  have hown : s.vm.findClass RX3 = some m.cls := findClass_of_methodNamed B.named
  have hlocks := B.notSynchronized
  subst hsz
  have hD := hD0.self (sz := s.heap.size)
  generalize hAe : va_A (cW ad cid a2 lx sg gm lg) s.heap.size = A at hD hG ⊢
  have hA : ∀ q : Nat, s.heap.size ≤ q → A q := fun q h => by rw [← hAe]; exact Or.inr h
  have hS : va_S A s.heap s.heap [] := va_S.rf
  have hl := lv_entry ([eV (ad 9) x, eV (ad 9) nn]) (n := 4) (by rw [show (lg_sl ([eV (ad 9) x, eV (ad 9) nn])).length = 2 from by simp [lg_sl, eV_cat, cat_i, cat_l]]; exact Nat.le_of_ble_eq_true rfl)
  rw [lg_entry_eq]
  generalize (lg_sl ([eV (ad 9) x, eV (ad 9) nn]) ++ List.replicate (4 - (lg_sl ([eV (ad 9) x, eV (ad 9) nn])).length) Slot.unset).toArray = ls at hl ⊢
  have hl : lv_has ls 4 [(0, eV (ad 9) x), (1, eV (ad 9) nn)] := by simp [lv_args, eV_cat, cat_i, cat_l] at hl; exact hl
  have hj54 : ∀ (gm_j54 : Nat → Nat → Int32) (x3_54 : Int32) (x2_54 : Int32) (_ : iv 0 80 x3_54) (_ : iv 0 79 x2_54) (_ : iv 0 79 x) (_ : iv 0 79 nn) (_ : KS [18] gm gm_j54) (_ : CI sg gm_j54) (_ : UB 18 (K9 + 1) gm_j54) (_ : gm 15 x2_54.toNatClampNeg = x ∧ x2_54.toInt < (sg 4).toInt) (_ : ∃ z : Int32, z.toInt = (gm 18 x.toNatClampNeg).toInt + 1 ∧ gm_j54 18 = upd (gm 18) x.toNatClampNeg z) (_ : ¬ (gm 16 x.toNatClampNeg).toInt = -1) (_ : (gm 17 x2_54.toNatClampNeg).toInt = -1) (_ : x2_54.toInt < nn.toInt) (H : Heap) (locs : List Loc) (ls : Array Slot), va_P (dC, dI) vwCl (cW ad cid a2 lx sg gm_j54 lg) H → va_D A (cW ad cid a2 lx sg gm_j54 lg) → va_S A s.heap H locs → lv_has ls 4 [(3, .int x3_54), (2, eV (ad 9) x2_54), (0, eV (ad 9) x), (1, eV (ad 9) nn)] → W p l e (headSpec wm_X3_addInner ({ frames := 0, cells := 1, slots := 6, locals := 0 })).room s m ([eV (ad 9) x, eV (ad 9) nn] : List Value).toArray below meth c H locs 0 0 (vx_MQ below (cQx dC dI ad cid a2 lx (fun v u => v = none ∧ ∃ (sg2 : Nat → Int32) (gm2 : Nat → Nat → Int32) (lg2 : Nat → Nat → Int64), u = (sg2, gm2, lg2) ∧ CI sg2 gm2 ∧ KS [] sg sg2 ∧ KS [16, 17, 18] gm gm2 ∧ KS [] lg lg2 ∧ (UB 18 (K9 + 1) gm2) ∧ (∀ j, (gm2 16 j = gm 16 j ∨ (gm2 16 j = nn ∧ j = x.toNatClampNeg)) ∧ (gm2 17 j = gm 17 j ∨ (gm2 17 j = nn ∧ gm 15 j = x))) ∧ ((∃ z : Int32, z.toInt = (gm 18 x.toNatClampNeg).toInt + 1 ∧ gm2 18 = upd (gm 18) x.toNatClampNeg z) ∧ (((gm 16 x.toNatClampNeg).toInt = -1 ∧ gm2 16 = upd (gm 16) x.toNatClampNeg nn ∧ gm2 17 = gm 17) ∨ (¬ (gm 16 x.toNatClampNeg).toInt = -1 ∧ gm2 16 = gm 16 ∧ ∃ j : Nat, (j : Int) < nn.toInt ∧ gm 15 j = x ∧ (gm 17 j).toInt = -1 ∧ gm2 17 = upd (gm 17) j nn)))) A) (cX dC dI ad cid a2 lx (fun _ _ => False) A) ([eV (ad 9) x, eV (ad 9) nn] : List Value).toArray s 1 6 A) (F0 m 54 ls []) := by
    intro gm_j54 x3_54 x2_54 hx3_54 hx2_54 hsx0_54 hsx1_54 hkg_j54 hI_j54 hU18b hlo u18 u16 ul un H locs ls hP hD hS hl
    refine ec_aload_n hx hb dX3_addInner_54 rfl (lv_at hl 1 rfl) ?_
    refine ec_aload_n hx hb dX3_addInner_55 rfl (lv_at hl 3 rfl) ?_
    refine cr_putg (t := 9) (j := 7) (C := RX3) (T := TX3) (N := 21) (ty0 := tyX3) (k := 17) (y := nn) hx hb htb inX3 tyX3_ok nmX3 hown hK hP hD hS hx2_54 (by decide) (by decide) (by decide) (by decide) rfl rfl (by decide) (htb _ kw_387) rfl (by show eV (ad 9) nn = eV (ad 9) (va_up gm_j54 17 (upd (gm_j54 17) x2_54.toNatClampNeg nn) 17 x2_54.toNatClampNeg); rw [va_up_self, upd_at]) (ev_n _) (ev_f _) dX3_addInner_56 (fun gm_1 H locs egm_1 hP hD hS => ?_)
    have hI_gm_1 := CI_st hI_j54 egm_1 hsx1_54 (by decide)
    exact W.nb (fun hN => W.widen (k := 1) (n := 6) (by decide) (by decide) (vx_ret (W.vret hx hb hr (fun t ht hW => ⟨⟨none, (sg, gm_1, lg), rfl, ⟨rfl, sg, gm_1, lg, rfl, hI_gm_1, KS_rf, (KS_up (KS_tr (L := [16, 17, 18]) KS_rf hkg_j54 (by decide)) egm_1 (by decide)), KS_rf, (UB_k hU18b (show gm_1 18 = gm_j54 18 from (up_ne egm_1 (by decide))) (by omega)), (fun j => ⟨Or.inl (by rw [(Eq.trans (up_ne egm_1 (by decide)) (hkg_j54 16 (by decide)))]), (upd_or2 (show gm_1 17 = upd (gm 17) (x2_54 : Int32).toNatClampNeg nn from ((up_at egm_1).trans (by rw [show gm_j54 17 = gm 17 from ((hkg_j54 17 (by decide)).trans rfl)]))) j).imp id (fun q9 => ⟨q9.1, by rw [q9.2]; exact hlo.1⟩)⟩), ((by obtain ⟨z, hz1, hz2⟩ := u18; exact ⟨⟨z, hz1, (show gm_1 18 = gm_j54 18 from (up_ne egm_1 (by decide))).trans hz2⟩, Or.inr ⟨u16, (Eq.trans (up_ne egm_1 (by decide)) (hkg_j54 16 (by decide))), x2_54.toNatClampNeg, (by have := iv_cl hx2_54 (by decide); have := un; omega), hlo.1, ul, (show gm_1 17 = upd (gm 17) (x2_54 : Int32).toNatClampNeg nn from ((up_at egm_1).trans (by rw [show gm_j54 17 = gm 17 from ((hkg_j54 17 (by decide)).trans rfl)])))⟩⟩))⟩, by rw [ht]; exact hP, va_K.moved hW.alike hK, hD⟩, hS.F ht, by rw [ht]; exact hN⟩) hS.2.2 dX3_addInner_59)))
  have hj30 : ∀ (n : Nat) (gm_j30 : Nat → Nat → Int32) (x3_30 : Int32) (x2_30 : Int32) (_ : (80 - x3_30.toInt).toNat = n) (_ : iv 0 80 x3_30) (_ : iv 0 79 x2_30) (_ : iv 0 79 x) (_ : iv 0 79 nn) (_ : KS [18] gm gm_j30) (_ : CI sg gm_j30) (_ : UB 18 (K9 + 1) gm_j30) (_ : gm 15 x2_30.toNatClampNeg = x ∧ x2_30.toInt < (sg 4).toInt) (_ : ∃ z : Int32, z.toInt = (gm 18 x.toNatClampNeg).toInt + 1 ∧ gm_j30 18 = upd (gm 18) x.toNatClampNeg z) (_ : ¬ (gm 16 x.toNatClampNeg).toInt = -1) (_ : x3_30.toInt ≤ x2_30.toInt) (_ : x2_30.toInt < nn.toInt) (H : Heap) (locs : List Loc) (ls : Array Slot), va_P (dC, dI) vwCl (cW ad cid a2 lx sg gm_j30 lg) H → va_D A (cW ad cid a2 lx sg gm_j30 lg) → va_S A s.heap H locs → lv_has ls 4 [(3, .int x3_30), (2, eV (ad 9) x2_30), (0, eV (ad 9) x), (1, eV (ad 9) nn)] → W p l e (headSpec wm_X3_addInner ({ frames := 0, cells := 1, slots := 6, locals := 0 })).room s m ([eV (ad 9) x, eV (ad 9) nn] : List Value).toArray below meth c H locs 0 0 (vx_MQ below (cQx dC dI ad cid a2 lx (fun v u => v = none ∧ ∃ (sg2 : Nat → Int32) (gm2 : Nat → Nat → Int32) (lg2 : Nat → Nat → Int64), u = (sg2, gm2, lg2) ∧ CI sg2 gm2 ∧ KS [] sg sg2 ∧ KS [16, 17, 18] gm gm2 ∧ KS [] lg lg2 ∧ (UB 18 (K9 + 1) gm2) ∧ (∀ j, (gm2 16 j = gm 16 j ∨ (gm2 16 j = nn ∧ j = x.toNatClampNeg)) ∧ (gm2 17 j = gm 17 j ∨ (gm2 17 j = nn ∧ gm 15 j = x))) ∧ ((∃ z : Int32, z.toInt = (gm 18 x.toNatClampNeg).toInt + 1 ∧ gm2 18 = upd (gm 18) x.toNatClampNeg z) ∧ (((gm 16 x.toNatClampNeg).toInt = -1 ∧ gm2 16 = upd (gm 16) x.toNatClampNeg nn ∧ gm2 17 = gm 17) ∨ (¬ (gm 16 x.toNatClampNeg).toInt = -1 ∧ gm2 16 = gm 16 ∧ ∃ j : Nat, (j : Int) < nn.toInt ∧ gm 15 j = x ∧ (gm 17 j).toInt = -1 ∧ gm2 17 = upd (gm 17) j nn)))) A) (cX dC dI ad cid a2 lx (fun _ _ => False) A) ([eV (ad 9) x, eV (ad 9) nn] : List Value).toArray s 1 6 A) (F0 m 30 ls []) := by
    intro n
    induction n using Nat.strongRecOn with
    | ind n ih30 =>
      intro gm_j30 x3_30 x2_30 hn30 hx3_30 hx2_30 hsx0_30 hsx1_30 hkg_j30 hI_j30 hU18b hlo u18 u16 ust un H locs ls hP hD hS hl
      refine lv_iload_n hx hb dX3_addInner_30 rfl (lv_at hl 0 rfl) ?_
      refine lv_bipush (v := 80) hx hb dX3_addInner_31 (by decide) ?_
      refine lv_icmp_ge (tgt := 54) hx hb dX3_addInner_33 (by decide) (fun c_2 => ?_) (fun c_2 => ?_)
      · have h_3 : iv 80 80 x3_30 := iv_leR c_2 (iv_k (by decide) : iv 80 80 80) hx3_30 (by decide)
        exact hj54 gm_j30 x3_30 x2_30 (iv_w h_3 (by decide)) hx2_30 hsx0_30 hsx1_30 (KS_tr (L := [18]) KS_rf hkg_j30 (by decide)) hI_j30 (hU18b) (hlo) (u18) (u16) (absurd ust (by have := (hx2_30).2; have := i32_0; have := i32_1; have := i32_2; have := i32_m1; have := (hsx0_30).1; have := (hsx0_30).2; have := (hsx1_30).1; have := (hsx1_30).2; have := (h_3).1; have := (h_3).2; have := (hx2_30).1; have := (hx2_30).2; omega)) (un) _ _ _ hP hD hS (lv_sub hl [0, 1, 2, 3] rfl)
      · have h_4 : iv 0 79 x3_30 := iv_ltL (i32_lt c_2) hx3_30 (iv_k (by decide) : iv 80 80 80) (by decide)
        refine ec_aload_n hx hb dX3_addInner_36 rfl (lv_at hl 1 rfl) ?_
        refine cr_get (t := 9) (j := 7) (C := RX3) (T := TX3) (N := 21) (v := eV (ad 9) (gm_j30 17 x2_30.toNatClampNeg)) hx hb htb inX3 hown hK hP hx2_30 (by decide) (by decide) (by decide) rfl (by decide) (htb _ kw_387) rfl dX3_addInner_37 ?_
        obtain ⟨z_5, ez_5⟩ : ∃ z : Int32, z = (gm_j30 17 x2_30.toNatClampNeg) := ⟨_, rfl⟩
        refine W.eq (g2 := F0 m 40 ls [eV (ad 9) z_5]) (by rw [ez_5]) ?_
        have hz_5 : iv (-1) 79 z_5 := iv_of ez_5 (CI_a hI_j30 17 hx2_30 (by decide))
        have ez_5 := ez_5.trans (congrFun (hkg_j30 17 (by decide)) _)
        refine ec_ifnull (tgt := 54) hx hb dX3_addInner_40 (by decide) (fun c_6 => ?_) (fun c_6 => ?_)
        · have h_7 : iv (-1) (-1) z_5 := ⟨(hz_5).1, by omega⟩
          exact hj54 gm_j30 x3_30 x2_30 (iv_w h_4 (by decide)) hx2_30 hsx0_30 hsx1_30 (KS_tr (L := [18]) KS_rf hkg_j30 (by decide)) hI_j30 (hU18b) (hlo) (u18) (u16) ((by have := congrArg Int32.toInt ez_5; have := (show iv (-1) (-1) z_5 from h_7); have := i32_0; have := i32_1; have := i32_2; have := i32_m1; have := (hsx0_30).1; have := (hsx0_30).2; have := (hsx1_30).1; have := (hsx1_30).2; have := (h_4).1; have := (h_4).2; have := (hx2_30).1; have := (hx2_30).2; have := (h_7).1; have := (h_7).2; omega)) (un) _ _ _ hP hD hS (lv_sub hl [0, 1, 2, 3] rfl)
        · have h_8 : iv 0 79 z_5 := ⟨c_6, (hz_5).2⟩
          refine ec_aload_n hx hb dX3_addInner_43 rfl (lv_at hl 1 rfl) ?_
          refine cr_get (t := 9) (j := 7) (C := RX3) (T := TX3) (N := 21) (v := eV (ad 9) (gm_j30 17 x2_30.toNatClampNeg)) hx hb htb inX3 hown hK hP hx2_30 (by decide) (by decide) (by decide) rfl (by decide) (htb _ kw_387) rfl dX3_addInner_44 ?_
          refine W.eq (g2 := F0 m 47 ls [eV (ad 9) z_5]) (by rw [show (gm_j30 17 x2_30.toNatClampNeg) = z_5 from (Eq.trans (congrFun (hkg_j30 17 (by decide)) _) ez_5.symm)]) ?_
          refine ec_astore_n (i := 2) (lv' := [(2, eV (ad 9) z_5), (3, .int x3_30), (0, eV (ad 9) x), (1, eV (ad 9) nn)]) hx hb dX3_addInner_47 rfl hl (by decide) (by simp [List.filter, eV_cat, cat_i, cat_l]) (fun ls hl => ?_)
          obtain ⟨z_9, ez_9⟩ : ∃ z : Int32, z = x3_30 + 1 := ⟨_, rfl⟩
          have hz_9 : iv 1 80 z_9 := iv_of ez_9 (iv_add h_4 (iv_k (by decide) : iv 1 1 1) (by decide))
          have tz_9 : z_9.toInt = x3_30.toInt + 1 := by rw [ez_9]; exact iv_addE h_4 (iv_k (by decide) : iv 1 1 1) (by decide)
          refine lv_iinc (v := z_9) (lv' := [(3, .int z_9), (2, eV (ad 9) z_5), (0, eV (ad 9) x), (1, eV (ad 9) nn)]) hx hb dX3_addInner_48 hl (k := 1) rfl ez_9.symm (by decide) (by simp [List.filter, eV_cat, cat_i, cat_l]) (fun ls hl => ?_)
          refine lv_goto (tgt := 30) hx hb dX3_addInner_51 (by decide) ?_
          exact ih30 _ (by rw [← hn30]; exact (iv_meas tz_9 h_4 (by decide))) gm_j30 z_9 z_5 rfl (iv_w hz_9 (by decide)) h_8 hsx0_30 hsx1_30 (KS_tr (L := [18]) KS_rf hkg_j30 (by decide)) hI_j30 (hU18b) (⟨by rw [ez_5, (hLK _ (lt_cl hx2_30 (show iv 0 80 (sg 4) from CI_s hI 4) (by decide) (by decide) hlo.2)).2.2.2.2 (by rw [← ez_5]; exact (h_8).1)]; exact hlo.1, by rw [ez_5]; exact (hLK _ (lt_cl hx2_30 (show iv 0 80 (sg 4) from CI_s hI 4) (by decide) (by decide) hlo.2)).2.2.1⟩) (u18) (u16) ((by have q1 := (hNX _ (lt_cl hx2_30 (show iv 0 80 (sg 4) from CI_s hI 4) (by decide) (by decide) hlo.2) (by rw [← ez_5]; exact (h_8).1)); rw [← ez_5] at q1; have q2 := iv_cl hx2_30 (by decide); have := tz_9; have := ust; omega)) ((by rw [ez_5]; exact hN2 _ (by have := iv_cl hx2_30 (by decide); have := un; omega))) _ _ _ hP hD hS (lv_sub hl [0, 1, 2, 3] rfl)
  refine ec_aload_n hx hb dX3_addInner_0 rfl (lv_at hl 0 rfl) ?_
  refine lv_dup hx hb dX3_addInner_1 (eV_cat _ _) ?_
  refine cr_get (t := 9) (j := 8) (C := RX3) (T := TX3) (N := 21) (v := .int (gm 18 x.toNatClampNeg)) hx hb htb inX3 hown hK hP hvx (by decide) (by decide) (by decide) rfl (by decide) (htb _ kw_388) rfl dX3_addInner_2 ?_
  obtain ⟨z_10, ez_10⟩ : ∃ z : Int32, z = (gm 18 x.toNatClampNeg) := ⟨_, rfl⟩
  refine W.eq (g2 := F0 m 5 ls [.int z_10, eV (ad 9) x]) (by rw [ez_10]) ?_
  have hz_10 : iv 0 2000000 z_10 := iv_of ez_10 (CI_a hI 18 hvx (by decide))
  have h_11 : iv 0 1999990 z_10 := ⟨(hz_10).1, by have q9 := hU18 x.toNatClampNeg (by have q1 := iv_cl hvx (by decide); have q2 := (hvx).2; omega); rw [ez_10]; omega⟩
  refine lv_iconst (v := 1) hx hb dX3_addInner_5 (by decide) ?_
  refine lv_iadd hx hb dX3_addInner_6 ?_
  refine lv_topi (fun z_12 ez_12 => ?_)
  have hz_12 : iv 1 1999991 z_12 := iv_of ez_12 (iv_add h_11 (iv_k (by decide) : iv 1 1 1) (by decide))
  have tz_12 : z_12.toInt = (z_10 : Int32).toInt + 1 := by rw [ez_12]; exact iv_addE h_11 (iv_k (by decide) : iv 1 1 1) (by decide)
  refine cr_putg (t := 9) (j := 8) (C := RX3) (T := TX3) (N := 21) (ty0 := tyX3) (k := 18) (y := z_12) hx hb htb inX3 tyX3_ok nmX3 hown hK hP hD hS hvx (by decide) (by decide) (by decide) (by decide) rfl rfl (by decide) (htb _ kw_388) rfl (by show Value.int z_12 = Value.int (va_up gm 18 (upd (gm 18) x.toNatClampNeg z_12) 18 x.toNatClampNeg); rw [va_up_self, upd_at]) rfl rfl dX3_addInner_7 (fun gm_13 H locs egm_13 hP hD hS => ?_)
  have hI_gm_13 := CI_st hI egm_13 hz_12 (by decide)
  refine ec_aload_n hx hb dX3_addInner_10 rfl (lv_at hl 0 rfl) ?_
  refine cr_get (t := 9) (j := 6) (C := RX3) (T := TX3) (N := 21) (v := eV (ad 9) (gm_13 16 x.toNatClampNeg)) hx hb htb inX3 hown hK hP hvx (by decide) (by decide) (by decide) rfl (by decide) (htb _ kw_386) rfl dX3_addInner_11 ?_
  obtain ⟨z_14, ez_14⟩ : ∃ z : Int32, z = (gm_13 16 x.toNatClampNeg) := ⟨_, rfl⟩
  refine W.eq (g2 := F0 m 14 ls [eV (ad 9) z_14]) (by rw [ez_14]) ?_
  have hz_14 : iv (-1) 79 z_14 := iv_of ez_14 (CI_a hI_gm_13 16 hvx (by decide))
  have ez_14 := ez_14.trans (congrFun (up_ne egm_13 (by decide)) _)
  refine ec_ifnonnull (tgt := 23) hx hb dX3_addInner_14 (by decide) (fun c_15 => ?_) (fun c_15 => ?_)
  · have h_16 : iv 0 79 z_14 := ⟨c_15, (hz_14).2⟩
    refine ec_aload_n hx hb dX3_addInner_23 rfl (lv_at hl 0 rfl) ?_
    refine cr_get (t := 9) (j := 6) (C := RX3) (T := TX3) (N := 21) (v := eV (ad 9) (gm_13 16 x.toNatClampNeg)) hx hb htb inX3 hown hK hP hvx (by decide) (by decide) (by decide) rfl (by decide) (htb _ kw_386) rfl dX3_addInner_24 ?_
    refine W.eq (g2 := F0 m 27 ls [eV (ad 9) z_14]) (by rw [show (gm_13 16 x.toNatClampNeg) = z_14 from (Eq.trans (congrFun (up_ne egm_13 (by decide)) _) ez_14.symm)]) ?_
    refine ec_astore_n (i := 2) (lv' := [(2, eV (ad 9) z_14), (0, eV (ad 9) x), (1, eV (ad 9) nn)]) hx hb dX3_addInner_27 rfl hl (by decide) (by simp [List.filter, eV_cat, cat_i, cat_l]) (fun ls hl => ?_)
    refine lv_iconst (v := 0) hx hb dX3_addInner_28 (by decide) ?_
    refine lv_istore_n (i := 3) (lv' := [(3, .int 0), (2, eV (ad 9) z_14), (0, eV (ad 9) x), (1, eV (ad 9) nn)]) hx hb dX3_addInner_29 rfl hl (by decide) (by simp [List.filter, eV_cat, cat_i, cat_l]) (fun ls hl => ?_)
    exact hj30 _ gm_13 0 z_14 rfl (iv_w (iv_k (by decide) : iv 0 0 0) (by decide)) h_16 hvx hvnn (KS_up KS_rf egm_13 (by decide)) hI_gm_13 (UB_u hU18 (show gm_13 18 = upd (gm 18) (x : Int32).toNatClampNeg z_12 from ((up_at egm_13).trans (by rw [show gm 18 = gm 18 from rfl]))) (by omega) (by have := tz_12; have q9 := hU18 x.toNatClampNeg (by have q1 := iv_cl hvx (by decide); have q2 := (hvx).2; omega); rw [← ez_10] at q9; omega)) (⟨Int32.toInt_inj.mp (by rw [ez_14, (hLK _ (lt_cl hvx (show iv 0 80 (sg 4) from CI_s hI 4) (by decide) (by decide) hxl)).2.2.2.1 (by rw [← ez_14]; exact (h_16).1)]; exact cl_0 hvx.1), by rw [ez_14]; exact (hLK _ (lt_cl hvx (show iv 0 80 (sg 4) from CI_s hI 4) (by decide) (by decide) hxl)).2.1⟩) (⟨z_12, (by have := tz_12; have := congrArg Int32.toInt ez_10; omega), (show gm_13 18 = upd (gm 18) (x : Int32).toNatClampNeg z_12 from ((up_at egm_13).trans (by rw [show gm 18 = gm 18 from rfl])))⟩) ((by have := congrArg Int32.toInt ez_14; have := i32_0; have := i32_1; have := i32_2; have := i32_m1; have := (hvx).1; have := (hvx).2; have := (hvnn).1; have := (hvnn).2; have := (h_11).1; have := (h_11).2; have := (hz_12).1; have := (hz_12).2; have := (h_16).1; have := (h_16).2; omega)) ((by have := (h_16).1; have := i32_0; omega)) ((by rw [ez_14]; exact hF2)) _ _ _ hP hD hS (lv_sub hl [0, 1, 2, 3] rfl)
  · have h_17 : iv (-1) (-1) z_14 := ⟨(hz_14).1, by omega⟩
    refine ec_aload_n hx hb dX3_addInner_17 rfl (lv_at hl 0 rfl) ?_
    refine ec_aload_n hx hb dX3_addInner_18 rfl (lv_at hl 1 rfl) ?_
    refine cr_putg (t := 9) (j := 6) (C := RX3) (T := TX3) (N := 21) (ty0 := tyX3) (k := 16) (y := nn) hx hb htb inX3 tyX3_ok nmX3 hown hK hP hD hS hvx (by decide) (by decide) (by decide) (by decide) rfl rfl (by decide) (htb _ kw_386) rfl (by show eV (ad 9) nn = eV (ad 9) (va_up gm_13 16 (upd (gm_13 16) x.toNatClampNeg nn) 16 x.toNatClampNeg); rw [va_up_self, upd_at]) (ev_n _) (ev_f _) dX3_addInner_19 (fun gm_18 H locs egm_18 hP hD hS => ?_)
    have hI_gm_18 := CI_st hI_gm_13 egm_18 hvnn (by decide)
    exact W.nb (fun hN => W.widen (k := 1) (n := 6) (by decide) (by decide) (vx_ret (W.vret hx hb hr (fun t ht hW => ⟨⟨none, (sg, gm_18, lg), rfl, ⟨rfl, sg, gm_18, lg, rfl, hI_gm_18, KS_rf, (KS_up (KS_up KS_rf egm_13 (by decide)) egm_18 (by decide)), KS_rf, (UB_u hU18 (show gm_18 18 = upd (gm 18) (x : Int32).toNatClampNeg z_12 from ((up_ne egm_18 (by decide)).trans ((up_at egm_13).trans (by rw [show gm 18 = gm 18 from rfl])))) (by omega) (by have := tz_12; have q9 := hU18 x.toNatClampNeg (by have q1 := iv_cl hvx (by decide); have q2 := (hvx).2; omega); rw [← ez_10] at q9; omega)), (fun j => ⟨upd_or2 (show gm_18 16 = upd (gm 16) (x : Int32).toNatClampNeg nn from ((up_at egm_18).trans (by rw [show gm_13 16 = gm 16 from ((up_ne egm_13 (by decide)).trans rfl)]))) j, Or.inl (by rw [(Eq.trans (up_ne egm_18 (by decide)) (up_ne egm_13 (by decide)))])⟩), (⟨⟨z_12, (by have := tz_12; have := congrArg Int32.toInt ez_10; omega), (show gm_18 18 = upd (gm 18) (x : Int32).toNatClampNeg z_12 from ((up_ne egm_18 (by decide)).trans ((up_at egm_13).trans (by rw [show gm 18 = gm 18 from rfl]))))⟩, Or.inl ⟨(by have := congrArg Int32.toInt ez_14; have := i32_0; have := i32_1; have := i32_2; have := i32_m1; have := (hvx).1; have := (hvx).2; have := (hvnn).1; have := (hvnn).2; have := (h_11).1; have := (h_11).2; have := (hz_12).1; have := (hz_12).2; have := (h_17).1; have := (h_17).2; omega), (show gm_18 16 = upd (gm 16) (x : Int32).toNatClampNeg nn from ((up_at egm_18).trans (by rw [show gm_13 16 = gm 16 from ((up_ne egm_13 (by decide)).trans rfl)]))), (Eq.trans (up_ne egm_18 (by decide)) (up_ne egm_13 (by decide)))⟩⟩)⟩, by rw [ht]; exact hP, va_K.moved hW.alike hK, hD⟩, hS.F ht, by rw [ht]; exact hN⟩) hS.2.2 dX3_addInner_22)))
end
section
theorem LKS_i {gm gb gm2 : Nat → Nat → Int32} {n : Nat} {a nn : Int32} (h : LKS gm n) (ha : a.toInt < (n : Int)) (ha0 : 0 ≤ a.toInt) (hn : n < 2147483647) (hnn : nn.toInt = (n : Int)) (b15 : gb 15 = upd (gm 15) n a) (b16 : gb 16 = upd (gm 16) n (-1)) (b17 : gb 17 = upd (gm 17) n (-1)) (b18 : gb 18 = upd (gm 18) n 0) (e15 : gm2 15 = gb 15)
    (hi : (∃ z : Int32, z.toInt = (gb 18 a.toNatClampNeg).toInt + 1 ∧ gm2 18 = upd (gb 18) a.toNatClampNeg z) ∧ (((gb 16 a.toNatClampNeg).toInt = -1 ∧ gm2 16 = upd (gb 16) a.toNatClampNeg nn ∧ gm2 17 = gb 17) ∨ (¬ (gb 16 a.toNatClampNeg).toInt = -1 ∧ gm2 16 = gb 16 ∧ ∃ j : Nat, (j : Int) < nn.toInt ∧ gb 15 j = a ∧ (gb 17 j).toInt = -1 ∧ gm2 17 = upd (gb 17) j nn))) : LKS gm2 (n + 1) := by
  have ka : a.toNatClampNeg = a.toInt.toNat := rfl
  have hne : a.toNatClampNeg ≠ n := by omega
  have c15 : ∀ e, e < n → gb 15 e = gm 15 e := fun e he => by rw [b15, upd_ne (by omega)]
  have c16 : ∀ e, e < n → gb 16 e = gm 16 e := fun e he => by rw [b16, upd_ne (by omega)]
  have c17 : ∀ e, e < n → gb 17 e = gm 17 e := fun e he => by rw [b17, upd_ne (by omega)]
  have c18 : ∀ e, e < n → gb 18 e = gm 18 e := fun e he => by rw [b18, upd_ne (by omega)]
  have m1 : (-1 : Int32).toInt = -1 := by decide
  have m0 : (0 : Int32).toInt = 0 := by decide
  obtain ⟨⟨z, hz1, hz2⟩, hi⟩ := hi
  rw [c16 _ (by omega)] at hi
  rw [c18 _ (by omega)] at hz1
  have hA := h a.toNatClampNeg (by omega)
  have hfi := fiR_p (f := fun j => (gm 15 j).toInt) (e := (a.toNatClampNeg : Int)) n
  have key : (gm2 16 n).toInt = -1 ∧ (gm2 17 n).toInt = -1 ∧ (∀ e, e < n → (gm2 16 e).toInt = if a.toInt = (e : Int) ∧ (gm 16 e).toInt = -1 then (n : Int) else (gm 16 e).toInt) ∧ (∀ e, e < n → (gm2 17 e).toInt = if (gm 15 e).toInt = a.toInt ∧ 0 ≤ a.toInt ∧ (gm 17 e).toInt = -1 then (n : Int) else (gm 17 e).toInt) := by
    rcases hi with ⟨q1, q2, q3⟩ | ⟨q1, q2, j, q3, q4, q5, q6⟩
    · refine ⟨by rw [q2, upd_ne (Ne.symm hne), b16, upd_at]; exact m1, by rw [q3, b17, upd_at]; exact m1, fun e he => ?_, fun e he => ?_⟩
      · rw [q2]
        by_cases e9 : e = a.toNatClampNeg
        · rw [e9, upd_at, if_pos ⟨by omega, q1⟩]; exact hnn
        · rw [upd_ne e9, c16 e he, if_neg (fun w => e9 (by omega))]
      · rw [q3, c17 e he, if_neg]
        intro w
        rw [← hA.2.2.1, q1] at hfi
        rcases hfi with ⟨_, w2⟩ | ⟨w1, _⟩
        · exact w2 e he (by show (gm 15 e).toInt = _; omega)
        · omega
    · have hj : j < n := by omega
      rw [c15 j hj] at q4
      rw [c17 j hj] at q5
      refine ⟨by rw [q2, b16, upd_at]; exact m1, by rw [q6, upd_ne (by omega), b17, upd_at]; exact m1, fun e he => ?_, fun e he => ?_⟩
      · rw [q2, c16 e he, if_neg]
        intro w
        have e9 : e = a.toNatClampNeg := by omega
        rw [e9] at w
        exact q1 w.2
      · rw [q6]
        by_cases e9 : e = j
        · rw [e9, upd_at, if_pos ⟨by rw [q4], ha0, q5⟩]; exact hnn
        · rw [upd_ne e9, c17 e he, if_neg]
          intro ⟨w1, _, w3⟩
          have ne := nxR_p (f := fun j => (gm 15 j).toInt) (k := e) n
          have nj := nxR_p (f := fun j => (gm 15 j).toInt) (k := j) n
          rw [← (h e he).2.2.2.1, w3] at ne
          rw [← (h j hj).2.2.2.1, q5] at nj
          have hs : (gm 15 e).toInt = (gm 15 j).toInt := by rw [q4]; exact w1
          rcases ne with ⟨_, ne⟩ | ⟨ne, _⟩
          · rcases nj with ⟨_, nj⟩ | ⟨nj, _⟩
            · rcases Nat.lt_or_gt_of_ne e9 with w | w
              · exact ne j w hj hs.symm
              · exact nj e w he hs
            · omega
          · omega
  refine LKS_n (a := a) h ha (by omega) hn (e15.trans b15) key.1 key.2.1 (by rw [hz2, upd_ne (Ne.symm hne), b18, upd_at]; exact m0) (fun e he => ?_) key.2.2.1 key.2.2.2 (fun q => by omega)
  rw [hz2]
  clear hi hfi key
  by_cases e9 : e = a.toNatClampNeg
  · rw [e9, upd_at, if_pos (by omega)]; exact hz1
  · rw [upd_ne e9, c18 e he, if_neg (by omega)]; omega

theorem LKS_x {gm gb : Nat → Nat → Int32} {n : Int32} (h : LKS gm n.toNatClampNeg) (b17 : gb 17 = upd (gm 17) n.toNatClampNeg (-1)) (h0 : 0 ≤ n.toInt) {j : Nat} (hj : j < n.toInt.toNat + 1) (hp : 0 ≤ (gb 17 j).toInt) : (j : Int) < (gb 17 j).toInt := by
  have k1 : n.toNatClampNeg = n.toInt.toNat := rfl
  rw [b17] at hp ⊢
  by_cases e9 : j = n.toNatClampNeg
  · rw [e9, upd_at] at hp; exact absurd hp (by decide)
  · rw [upd_ne e9] at hp ⊢
    rw [(h j (by omega)).2.2.2.1] at hp ⊢
    rcases nxR_p (f := fun j => (gm 15 j).toInt) (k := j) n.toNatClampNeg with ⟨q, _⟩ | ⟨_, q, _⟩
    · omega
    · exact q
theorem LKS_y {gm gb : Nat → Nat → Int32} {n : Int32} (h : LKS gm n.toNatClampNeg) (b17 : gb 17 = upd (gm 17) n.toNatClampNeg (-1)) {j : Nat} (hj : j < n.toInt.toNat) (h0 : 0 ≤ n.toInt) : (gb 17 j).toInt < n.toInt := by
  have k1 : n.toNatClampNeg = n.toInt.toNat := rfl
  rw [b17, upd_ne (by omega), (h j (by omega)).2.2.2.1]
  rcases nxR_p (f := fun j => (gm 15 j).toInt) (k := j) n.toNatClampNeg with ⟨q, _⟩ | ⟨_, _, q, _⟩
  · omega
  · omega
theorem LKS_z {gm gb : Nat → Nat → Int32} {n : Int32} (h : LKS gm n.toNatClampNeg) (b16 : gb 16 = upd (gm 16) n.toNatClampNeg (-1)) {j : Nat} (hj : j < n.toInt.toNat) (h0 : 0 ≤ n.toInt) : (gb 16 j).toInt < n.toInt := by
  have k1 : n.toNatClampNeg = n.toInt.toNat := rfl
  rw [b16, upd_ne (by omega), (h j (by omega)).2.2.1]
  rcases fiR_p (f := fun j => (gm 15 j).toInt) (e := (j : Int)) n.toNatClampNeg with ⟨q, _⟩ | ⟨_, q, _⟩
  · omega
  · omega

set_option maxHeartbeats 4000000 in
set_option maxRecDepth 100000 in
theorem d_addElement2 (l : Launch) (dC : Nat → ClassId) (dI : Nat → Nat → Nat) (ad : Nat → Nat → Nat) (cid : Nat → ClassId) (a2 : Nat → Nat) (lx : List Nat) (sg : Nat → Int32) (gm : Nat → Nat → Int32) (lg : Nat → Nat → Int64) (x : Int32) (pl : Int32) (ar : Int32) (K9 : Nat) (hI : CI sg gm) (hvx : iv 0 0 x) (hvpl : iv 0 1201 pl) (hvar : iv (-1) 79 ar) (hful : (sg 4).toInt ≤ 79) (hou : ar.toInt < (sg 4).toInt) (hFA : FA sg gm) (hLK : LK sg gm) (hBN : BN sg gm) (hLS : LKS gm (sg 4).toNatClampNeg) (hr0 : ar.toInt = -1 → (sg 4).toInt = 0) (hU12 : UB 12 K9 gm) (hU18 : UB 18 K9 gm) (hK9 : K9 ≤ 1999990) : CMt dC dI ad cid a2 lx l yX6_addElement wm_X6_addElement ({ frames := 2, cells := 1, slots := 6, locals := 43 }) [eV (ad 1) x, .int pl, eV (ad 9) ar] sg gm lg (fun v u => ∃ r : Int32, v = some (eV (ad 9) r) ∧ ∃ (sg2 : Nat → Int32) (gm2 : Nat → Nat → Int32) (lg2 : Nat → Nat → Int64), u = (sg2, gm2, lg2) ∧ CI sg2 gm2 ∧ KS [4] sg sg2 ∧ KS [11, 12, 13, 14, 15, 16, 17, 18, 19, 20, 21, 22, 23, 24, 25, 26, 27] gm gm2 ∧ KS [1, 2, 3] lg lg2 ∧ (iv 0 79 r) ∧ (BN sg2 gm2) ∧ (r = sg 4) ∧ ((sg2 4).toInt = (sg 4).toInt + 1) ∧ (FA sg2 gm2) ∧ (LK sg2 gm2) ∧ (UB 12 (K9 + 1) gm2) ∧ (UB 18 (K9 + 1) gm2) ∧ (LKS gm2 ((sg 4).toNatClampNeg + 1)) ∧ (lg2 1 = vp_updL (lg 1) (sg 4).toNatClampNeg 0) ∧ (gm2 11 = upd (gm 11) (sg 4).toNatClampNeg 0) ∧ (gm2 12 = upd (gm 12) (sg 4).toNatClampNeg 0) ∧ (gm2 13 = upd (gm 13) (sg 4).toNatClampNeg pl) ∧ (gm2 14 = upd (gm 14) (sg 4).toNatClampNeg (-1)) ∧ (gm2 15 = upd (gm 15) (sg 4).toNatClampNeg ar) ∧ (gm2 19 = upd (gm 19) (sg 4).toNatClampNeg (sg 5)) ∧ (gm2 20 = upd (gm 20) (sg 4).toNatClampNeg 0)) (fun _ _ => False) := by
  intro sz
  refine vx_ofW (cc := cX6_addElement) (maxL := 4) (ret := (some (.object "WiredBeans$Element"))) (by decide) rfl ?_
  intro p e s m args below meth c s₁ B hml hxt hv
  obtain ⟨rfl, hsz, hP, hK, hD0, hG⟩ := hv
  have hx := B.exec
  have hb := B.bytes
  have hr := B.returns
  have hts := atoms_spec (ws := wm_X6_addElement) B.pre
  have htb := fun (w : Cond) (h : w ∈ tb) => hts w (List.mem_cons_of_mem _ h)
  have hown : s.vm.findClass RX6 = some m.cls := findClass_of_methodNamed B.named
  have hlocks := B.notSynchronized
  subst hsz
  have hD := hD0.self (sz := s.heap.size)
  generalize hAe : va_A (cW ad cid a2 lx sg gm lg) s.heap.size = A at hD hG ⊢
  have hA : ∀ q : Nat, s.heap.size ≤ q → A q := fun q h => by rw [← hAe]; exact Or.inr h
  have hS : va_S A s.heap s.heap [] := va_S.rf
  have hl := lv_entry ([eV (ad 1) x, .int pl, eV (ad 9) ar]) (n := 4) (by rw [show (lg_sl ([eV (ad 1) x, .int pl, eV (ad 9) ar])).length = 3 from by simp [lg_sl, eV_cat, cat_i, cat_l]]; exact Nat.le_of_ble_eq_true rfl)
  rw [lg_entry_eq]
  generalize (lg_sl ([eV (ad 1) x, .int pl, eV (ad 9) ar]) ++ List.replicate (4 - (lg_sl ([eV (ad 1) x, .int pl, eV (ad 9) ar])).length) Slot.unset).toArray = ls at hl ⊢
  have hl : lv_has ls 4 [(0, eV (ad 1) x), (1, .int pl), (2, eV (ad 9) ar)] := by simp [lv_args, eV_cat, cat_i, cat_l] at hl; exact hl
  have h4 : iv 0 79 (sg 4) := ⟨(show iv 0 80 (sg 4) from CI_s hI 4).1, hful⟩
  have hj39 : ∀ (sg_j39 : Nat → Int32) (gm_j39 : Nat → Nat → Int32) (lg_j39 : Nat → Nat → Int64) (_ : iv 0 79 (sg 4)) (_ : iv 0 0 x) (_ : iv 0 1201 pl) (_ : iv (-1) 79 ar) (_ : KS [4] sg sg_j39) (_ : KS [11, 12, 13, 14, 15, 16, 17, 18, 19, 20, 21, 22, 23, 24, 25, 26, 27] gm gm_j39) (_ : KS [1, 2, 3] lg lg_j39) (_ : CI sg_j39 gm_j39) (_ : BN sg_j39 gm_j39) (_ : FA sg_j39 gm_j39) (_ : LK sg_j39 gm_j39) (_ : UB 12 (K9 + 1) gm_j39) (_ : UB 18 (K9 + 1) gm_j39) (_ : (sg_j39 4).toInt = (sg 4).toInt + 1) (_ : LKS gm_j39 ((sg 4).toNatClampNeg + 1)) (_ : lg_j39 1 = vp_updL (lg 1) (sg 4).toNatClampNeg 0) (_ : gm_j39 11 = upd (gm 11) (sg 4).toNatClampNeg 0) (_ : gm_j39 12 = upd (gm 12) (sg 4).toNatClampNeg 0) (_ : gm_j39 13 = upd (gm 13) (sg 4).toNatClampNeg pl) (_ : gm_j39 14 = upd (gm 14) (sg 4).toNatClampNeg (-1)) (_ : gm_j39 15 = upd (gm 15) (sg 4).toNatClampNeg ar) (_ : gm_j39 19 = upd (gm 19) (sg 4).toNatClampNeg (sg 5)) (_ : gm_j39 20 = upd (gm 20) (sg 4).toNatClampNeg 0) (H : Heap) (locs : List Loc) (ls : Array Slot), va_P (dC, dI) vwCl (cW ad cid a2 lx sg_j39 gm_j39 lg_j39) H → va_D A (cW ad cid a2 lx sg_j39 gm_j39 lg_j39) → va_S A s.heap H locs → lv_has ls 4 [(3, eV (ad 9) (sg 4)), (0, eV (ad 1) x), (1, .int pl), (2, eV (ad 9) ar)] → W p l e (headSpec wm_X6_addElement ({ frames := 2, cells := 1, slots := 6, locals := 43 })).room s m ([eV (ad 1) x, .int pl, eV (ad 9) ar] : List Value).toArray below meth c H locs 0 0 (vx_MQ below (cQx dC dI ad cid a2 lx (fun v u => ∃ r : Int32, v = some (eV (ad 9) r) ∧ ∃ (sg2 : Nat → Int32) (gm2 : Nat → Nat → Int32) (lg2 : Nat → Nat → Int64), u = (sg2, gm2, lg2) ∧ CI sg2 gm2 ∧ KS [4] sg sg2 ∧ KS [11, 12, 13, 14, 15, 16, 17, 18, 19, 20, 21, 22, 23, 24, 25, 26, 27] gm gm2 ∧ KS [1, 2, 3] lg lg2 ∧ (iv 0 79 r) ∧ (BN sg2 gm2) ∧ (r = sg 4) ∧ ((sg2 4).toInt = (sg 4).toInt + 1) ∧ (FA sg2 gm2) ∧ (LK sg2 gm2) ∧ (UB 12 (K9 + 1) gm2) ∧ (UB 18 (K9 + 1) gm2) ∧ (LKS gm2 ((sg 4).toNatClampNeg + 1)) ∧ (lg2 1 = vp_updL (lg 1) (sg 4).toNatClampNeg 0) ∧ (gm2 11 = upd (gm 11) (sg 4).toNatClampNeg 0) ∧ (gm2 12 = upd (gm 12) (sg 4).toNatClampNeg 0) ∧ (gm2 13 = upd (gm 13) (sg 4).toNatClampNeg pl) ∧ (gm2 14 = upd (gm 14) (sg 4).toNatClampNeg (-1)) ∧ (gm2 15 = upd (gm 15) (sg 4).toNatClampNeg ar) ∧ (gm2 19 = upd (gm 19) (sg 4).toNatClampNeg (sg 5)) ∧ (gm2 20 = upd (gm 20) (sg 4).toNatClampNeg 0)) A) (cX dC dI ad cid a2 lx (fun _ _ => False) A) ([eV (ad 1) x, .int pl, eV (ad 9) ar] : List Value).toArray s 1 6 A) (F0 m 39 ls []) := by
    intro sg_j39 gm_j39 lg_j39 hsx3_39 hsx0_39 hsx1_39 hsx2_39 hks_j39 hkg_j39 hkl_j39 hI_j39 hBN2 hFA2 hLK2 hU12b hU18b h4b hS2 ul1 u11 u12 u13 u14 u15 u19 u20 H locs ls hP hD hS hl
    refine ec_aload_n hx hb dX6_addElement_39 rfl (lv_at hl 0 rfl) ?_
    exact W.nb (fun hN => W.widen (k := 1) (n := 6) (by decide) (by decide) (vx_ret (W.aret (v := eV (ad 9) (sg 4)) hx hb hr (Or.inl ⟨_, rfl⟩) (eV_is _ _) (fun t ht hW => ⟨⟨some (eV (ad 9) (sg 4)), (sg_j39, gm_j39, lg_j39), rfl, ⟨(sg 4), rfl, sg_j39, gm_j39, lg_j39, rfl, hI_j39, (KS_tr (L := [4]) KS_rf hks_j39 (by decide)), (KS_tr (L := [11, 12, 13, 14, 15, 16, 17, 18, 19, 20, 21, 22, 23, 24, 25, 26, 27]) KS_rf hkg_j39 (by decide)), (KS_tr (L := [1, 2, 3]) KS_rf hkl_j39 (by decide)), hsx3_39, (hBN2), (rfl), (h4b), (hFA2), (hLK2), (hU12b), (hU18b), (hS2), (ul1), (u11), (u12), (u13), (u14), (u15), (u19), (u20)⟩, by rw [ht]; exact hP, va_K.moved hW.alike hK, hD⟩, hS.F ht, by rw [ht]; exact hN⟩) hS.2.2 dX6_addElement_40)))
  refine ec_aload_n hx hb dX6_addElement_0 rfl (lv_at hl 0 rfl) ?_
  refine cr_get (t := 1) (j := 0) (C := RX6) (T := TX6) (N := 8) (v := eV (ad 14) 0) hx hb htb inX6 hown hK hP hvx (by decide) (by decide) (by decide) rfl (by decide) (htb _ kw_64) (cV_c rfl (by decide) (by rw [show cMu 1 0 = 0 from rfl, Nat.zero_mul]; rfl)) dX6_addElement_1 ?_
  refine ec_aload_n hx hb dX6_addElement_4 rfl (lv_at hl 0 rfl) ?_
  refine cr_get (t := 1) (j := 5) (C := RX6) (T := TX6) (N := 8) (v := .int (sg 4)) hx hb htb inX6 hown hK hP hvx (by decide) (by decide) (by decide) rfl (by decide) (htb _ kw_345) rfl dX6_addElement_5 ?_
  refine cr_aald (t := 14) (C := RX3) (v := eV (ad 9) (sg 4)) hx hb hK hP (iv_k (by decide) : iv 0 0 0) (by decide) (by decide) (by decide) (by decide) (by decide) rfl (show vp_in (sg 4) (cLen 14) from (show vp_in (sg 4) 80 from (iv_in h4 (by decide)))) (cAr_c (by decide) (h4).1 (by rw [show cAm 14 = 0 from rfl, Nat.zero_mul, show cAo 14 = 0 from rfl]; omega)) dX6_addElement_8 ?_
  refine ec_astore_n (i := 3) (lv' := [(3, eV (ad 9) (sg 4)), (0, eV (ad 1) x), (1, .int pl), (2, eV (ad 9) ar)]) hx hb dX6_addElement_9 rfl hl (by decide) (by simp [List.filter, eV_cat, cat_i, cat_l]) (fun ls hl => ?_)
  refine ec_aload_n hx hb dX6_addElement_10 rfl (lv_at hl 1 rfl) ?_
  refine lv_dup hx hb dX6_addElement_11 (eV_cat _ _) ?_
  refine cr_get (t := 1) (j := 5) (C := RX6) (T := TX6) (N := 8) (v := .int (sg 4)) hx hb htb inX6 hown hK hP hvx (by decide) (by decide) (by decide) rfl (by decide) (htb _ kw_345) rfl dX6_addElement_12 ?_
  refine lv_iconst (v := 1) hx hb dX6_addElement_15 (by decide) ?_
  refine lv_iadd hx hb dX6_addElement_16 ?_
  refine lv_topi (fun z_1 ez_1 => ?_)
  have hz_1 : iv 1 80 z_1 := iv_of ez_1 (iv_add h4 (iv_k (by decide) : iv 1 1 1) (by decide))
  have tz_1 : z_1.toInt = ((sg 4) : Int32).toInt + 1 := by rw [ez_1]; exact iv_addE h4 (iv_k (by decide) : iv 1 1 1) (by decide)
  refine cr_puts (t := 1) (j := 5) (C := RX6) (T := TX6) (N := 8) (ty0 := tyX6) (k := 4) (y := z_1) hx hb htb inX6 tyX6_ok nmX6 hown hK hP hD hS hvx (by decide) (by decide) (by decide) (by decide) rfl rfl rfl (by decide) (htb _ kw_345) rfl (by show Value.int z_1 = Value.int (va_up sg 4 z_1 4); rw [va_up_self]) rfl rfl dX6_addElement_17 (fun sg_2 H locs esg_2 hP hD hS => ?_)
  have hI_sg_2 := CI_put hI esg_2 hz_1 (by decide)
  refine ec_aload_n hx hb dX6_addElement_20 rfl (lv_at hl 0 rfl) ?_
  refine lv_iload_n hx hb dX6_addElement_21 rfl (lv_at hl 2 rfl) ?_
  refine ec_aload_n hx hb dX6_addElement_22 rfl (lv_at hl 3 rfl) ?_
  refine ec_aload_n hx hb dX6_addElement_23 rfl (lv_at hl 1 rfl) ?_
  refine cr_get (t := 1) (j := 6) (C := RX6) (T := TX6) (N := 8) (v := .int (sg_2 5)) hx hb htb inX6 hown hK hP hvx (by decide) (by decide) (by decide) rfl (by decide) (htb _ kw_346) rfl dX6_addElement_24 ?_
  refine W.eq (g2 := F0 m 27 ls [.int (sg 5), eV (ad 9) ar, .int pl, eV (ad 9) (sg 4)]) (by rw [show sg_2 5 = sg 5 from (up_ne esg_2 (by decide))]) ?_
  refine cm_callV (t := 9) (C := RX3) (T := TX3) (N := 21) (rest := []) (as := [.int pl, eV (ad 9) ar, .int (sg 5)]) ⟨hx, hb, hml, hown, htb⟩ (d_beginEl2 l dC dI ad cid a2 lx sg_2 gm lg (sg 4) pl ar (sg 5) hI_sg_2 h4 hvpl hvar (show iv 0 240 (sg 5) from CI_s hI 5)) (cwV 3 htb (gd_V kw_378 kw_379 kw_380 kw_66 kw_1428) rfl rfl rfl (by decide +kernel) ⟨Nat.le_of_ble_eq_true rfl, Nat.le_of_ble_eq_true rfl⟩) h4 (by decide) (by decide) rfl rfl hl.1 rfl (Nat.le_trans cs_n (by decide)) dX6_addElement_27 ⟨Nat.le_of_ble_eq_true rfl, Nat.le_of_ble_eq_true rfl⟩ hK hP hD hS hA hG (fun E ce q9 u_4 H locs hw hP hD hS hce hcv hcl => ?_) (fun v9 u_4 H locs hw hP hD hS => ?_)
  · exact hw.elim
  obtain ⟨rfl, sgv_5, gmv_5, lgv_5, rfl, hIv_5, ksv_5, kgv_5, klv_5, f11_r_3, f12_r_3, f13_r_3, f14_r_3, f15_r_3, f16_r_3, f17_r_3, f18_r_3, f19_r_3, f20_r_3, f27_r_3, fl1_r_3⟩ := hw
  obtain rfl := KS_nil ksv_5
  have hP : va_P (dC, dI) vwCl (cW ad cid a2 lx sg_2 gmv_5 lgv_5) H := hP
  have hD : va_D A (cW ad cid a2 lx sg_2 gmv_5 lgv_5) := hD
  refine W.eq (g2 := F0 m 30 ls []) rfl ?_
  refine ec_aload_n hx hb dX6_addElement_30 rfl (lv_at hl 3 rfl) ?_
  refine ec_ifnull (tgt := 39) hx hb dX6_addElement_31 (by decide) (fun c_6 => ?_) (fun c_6 => ?_)
  · have h_7 : iv (-1) (-1) ar := ⟨(hvar).1, by omega⟩
    exact hj39 sg_2 gmv_5 lgv_5 h4 hvx hvpl (iv_w h_7 (by decide)) (KS_up KS_rf esg_2 (by decide)) (KS_tr (L := [11, 12, 13, 14, 15, 16, 17, 18, 19, 20, 21, 22, 23, 24, 25, 26, 27]) KS_rf kgv_5 (by decide)) (KS_tr (L := [1, 2, 3]) KS_rf klv_5 (by decide)) hIv_5 (BN_new hBN (by have := i32_0; have := i32_1; have := i32_2; have := i32_m1; have := congrArg Int32.toInt (show sg_2 4 = z_1 from up_at esg_2); have := (hz_1).1; have := (hz_1).2; have := (hvx).1; have := (hvx).2; have := (hvpl).1; have := (hvpl).2; have := (h_7).1; have := (h_7).2; have := (h4).1; have := (h4).2; have := ((show iv 0 240 (sg 5) from CI_s hI 5)).1; have := ((show iv 0 240 (sg 5) from CI_s hI 5)).2; omega) h4.1 (Eq.trans ((show KS [] gmv_5 gmv_5 from KS_rf) 27 (by decide)) f27_r_3)) (FA_new hFA (by have := i32_0; have := i32_1; have := i32_2; have := i32_m1; have := congrArg Int32.toInt (show sg_2 4 = z_1 from up_at esg_2); have := (hz_1).1; have := (hz_1).2; have := (hvx).1; have := (hvx).2; have := (hvpl).1; have := (hvpl).2; have := (h_7).1; have := (h_7).2; have := (h4).1; have := (h4).2; have := ((show iv 0 240 (sg 5) from CI_s hI 5)).1; have := ((show iv 0 240 (sg 5) from CI_s hI 5)).2; omega) h4.1 (up_ne esg_2 (by decide)) (Eq.trans ((show KS [] gmv_5 gmv_5 from KS_rf) 19 (by decide)) f19_r_3) (Eq.trans ((show KS [] gmv_5 gmv_5 from KS_rf) 20 (by decide)) f20_r_3) rfl) (LK_new hLK (by have := i32_0; have := i32_1; have := i32_2; have := i32_m1; have := congrArg Int32.toInt (show sg_2 4 = z_1 from up_at esg_2); have := (hz_1).1; have := (hz_1).2; have := (hvx).1; have := (hvx).2; have := (hvpl).1; have := (hvpl).2; have := (h_7).1; have := (h_7).2; have := (h4).1; have := (h4).2; have := ((show iv 0 240 (sg 5) from CI_s hI 5)).1; have := ((show iv 0 240 (sg 5) from CI_s hI 5)).2; omega) h4.1 hou (Eq.trans ((show KS [] gmv_5 gmv_5 from KS_rf) 15 (by decide)) f15_r_3) f16_r_3 f17_r_3 (fun _ => Or.inl rfl) (fun _ => Or.inl rfl)) (UB_u hU12 (Eq.trans ((show KS [] gmv_5 gmv_5 from KS_rf) 12 (by decide)) f12_r_3) (by omega) (by show (0 : Int) ≤ _; omega)) (UB_u hU18 (Eq.trans ((show KS [] gmv_5 gmv_5 from KS_rf) 18 (by decide)) f18_r_3) (by omega) (by show (0 : Int) ≤ _; omega)) (by have := i32_0; have := i32_1; have := i32_2; have := i32_m1; have := congrArg Int32.toInt (show sg_2 4 = z_1 from up_at esg_2); have := (hz_1).1; have := (hz_1).2; have := (hvx).1; have := (hvx).2; have := (hvpl).1; have := (hvpl).2; have := (h_7).1; have := (h_7).2; have := (h4).1; have := (h4).2; have := ((show iv 0 240 (sg 5) from CI_s hI 5)).1; have := ((show iv 0 240 (sg 5) from CI_s hI 5)).2; omega) ((LKS_n (a := ar) hLS (show ar.toInt < (((sg 4).toNatClampNeg : Nat) : Int) from (by show _ < (((sg 4).toInt.toNat : Nat) : Int); omega)) hvar.1 (show (sg 4).toNatClampNeg < 2147483647 from (by have := h4.2; show (sg 4).toInt.toNat < _; omega)) f15_r_3 (by rw [f16_r_3, upd_at]; decide) (by rw [f17_r_3, upd_at]; decide) (by rw [f18_r_3, upd_at]; decide) (fun e he => absurd he (by show ¬ e < (sg 4).toInt.toNat; have := hr0 (by have := i32_0; have := i32_1; have := i32_2; have := i32_m1; have := (hvx).1; have := (hvx).2; have := (hvpl).1; have := (hvpl).2; have := (h_7).1; have := (h_7).2; have := (h4).1; have := (h4).2; have := (hz_1).1; have := (hz_1).2; have := ((show iv 0 240 (sg 5) from CI_s hI 5)).1; have := ((show iv 0 240 (sg 5) from CI_s hI 5)).2; omega); omega)) (fun e he => absurd he (by show ¬ e < (sg 4).toInt.toNat; have := hr0 (by have := i32_0; have := i32_1; have := i32_2; have := i32_m1; have := (hvx).1; have := (hvx).2; have := (hvpl).1; have := (hvpl).2; have := (h_7).1; have := (h_7).2; have := (h4).1; have := (h4).2; have := (hz_1).1; have := (hz_1).2; have := ((show iv 0 240 (sg 5) from CI_s hI 5)).1; have := ((show iv 0 240 (sg 5) from CI_s hI 5)).2; omega); omega)) (fun e he => absurd he (by show ¬ e < (sg 4).toInt.toNat; have := hr0 (by have := i32_0; have := i32_1; have := i32_2; have := i32_m1; have := (hvx).1; have := (hvx).2; have := (hvpl).1; have := (hvpl).2; have := (h_7).1; have := (h_7).2; have := (h4).1; have := (h4).2; have := (hz_1).1; have := (hz_1).2; have := ((show iv 0 240 (sg 5) from CI_s hI 5)).1; have := ((show iv 0 240 (sg 5) from CI_s hI 5)).2; omega); omega)) (fun q => (show (sg 4).toInt.toNat = 0 by have := hr0 q; omega)))) (fl1_r_3) ((Eq.trans ((show KS [] gmv_5 gmv_5 from KS_rf) 11 (by decide)) f11_r_3)) ((Eq.trans ((show KS [] gmv_5 gmv_5 from KS_rf) 12 (by decide)) f12_r_3)) ((Eq.trans ((show KS [] gmv_5 gmv_5 from KS_rf) 13 (by decide)) f13_r_3)) ((Eq.trans ((show KS [] gmv_5 gmv_5 from KS_rf) 14 (by decide)) f14_r_3)) ((Eq.trans ((show KS [] gmv_5 gmv_5 from KS_rf) 15 (by decide)) f15_r_3)) ((Eq.trans ((show KS [] gmv_5 gmv_5 from KS_rf) 19 (by decide)) f19_r_3)) ((Eq.trans ((show KS [] gmv_5 gmv_5 from KS_rf) 20 (by decide)) f20_r_3)) _ _ _ hP hD hS (lv_sub hl [0, 1, 2, 3] rfl)
  · have h_8 : iv 0 79 ar := ⟨c_6, (hvar).2⟩
    refine ec_aload_n hx hb dX6_addElement_34 rfl (lv_at hl 3 rfl) ?_
    refine ec_aload_n hx hb dX6_addElement_35 rfl (lv_at hl 0 rfl) ?_
    refine cm_callV (t := 9) (C := RX3) (T := TX3) (N := 21) (rest := []) (as := [eV (ad 9) (sg 4)]) ⟨hx, hb, hml, hown, htb⟩ (d_addInner2 l dC dI ad cid a2 lx sg_2 gmv_5 lgv_5 ar (sg 4) K9 hIv_5 h_8 h4 (UB_u hU12 f12_r_3 (Nat.le_refl _) (by show (0 : Int) ≤ _; omega)) (UB_u hU18 f18_r_3 (Nat.le_refl _) (by show (0 : Int) ≤ _; omega)) hK9 (LK_new hLK (by have := i32_0; have := i32_1; have := i32_2; have := i32_m1; have := congrArg Int32.toInt (show sg_2 4 = z_1 from up_at esg_2); have := (hz_1).1; have := (hz_1).2; have := (hvx).1; have := (hvx).2; have := (hvpl).1; have := (hvpl).2; have := (h_8).1; have := (h_8).2; have := (h4).1; have := (h4).2; have := ((show iv 0 240 (sg 5) from CI_s hI 5)).1; have := ((show iv 0 240 (sg 5) from CI_s hI 5)).2; omega) h4.1 hou f15_r_3 f16_r_3 f17_r_3 (fun _ => Or.inl rfl) (fun _ => Or.inl rfl)) (by have := i32_0; have := i32_1; have := i32_2; have := i32_m1; have := congrArg Int32.toInt (show sg_2 4 = z_1 from up_at esg_2); have := (hz_1).1; have := (hz_1).2; have := (hvx).1; have := (hvx).2; have := (hvpl).1; have := (hvpl).2; have := (h_8).1; have := (h_8).2; have := (h4).1; have := (h4).2; have := ((show iv 0 240 (sg 5) from CI_s hI 5)).1; have := ((show iv 0 240 (sg 5) from CI_s hI 5)).2; omega) (fun j hj hp => LKS_x hLS f17_r_3 h4.1 (show j < (sg 4).toInt.toNat + 1 from (by have hj : j < (sg_2 4).toInt.toNat := hj; have := i32_0; have := i32_1; have := i32_2; have := i32_m1; have := congrArg Int32.toInt (show sg_2 4 = z_1 from up_at esg_2); have := (hz_1).1; have := (hz_1).2; have := (hvx).1; have := (hvx).2; have := (hvpl).1; have := (hvpl).2; have := (h_8).1; have := (h_8).2; have := (h4).1; have := (h4).2; have := ((show iv 0 240 (sg 5) from CI_s hI 5)).1; have := ((show iv 0 240 (sg 5) from CI_s hI 5)).2; omega)) hp) (fun j hj => LKS_y hLS f17_r_3 (show j < (sg 4).toInt.toNat from (by omega)) h4.1) (LKS_z hLS f16_r_3 (show ar.toInt.toNat < (sg 4).toInt.toNat from (by have := (h_8).1; omega)) h4.1)) (cwV 1 htb (gd_V kw_405 kw_406 kw_407 kw_66 kw_1430) rfl rfl rfl (by decide +kernel) ⟨Nat.le_of_ble_eq_true rfl, Nat.le_of_ble_eq_true rfl⟩) h_8 (by decide) (by decide) rfl rfl hl.1 rfl (Nat.le_trans cs_n (by decide)) dX6_addElement_36 ⟨Nat.le_of_ble_eq_true rfl, Nat.le_of_ble_eq_true rfl⟩ hK hP hD hS hA hG (fun E ce q9 u_10 H locs hw hP hD hS hce hcv hcl => ?_) (fun v9 u_10 H locs hw hP hD hS => ?_)
    · exact hw.elim
    obtain ⟨rfl, sgv_11, gmv_11, lgv_11, rfl, hIv_11, ksv_11, kgv_11, klv_11, fU_r_9, fL_r_9, fI_r_9⟩ := hw
    obtain rfl := KS_nil ksv_11
    obtain rfl := KS_nil klv_11
    have hP : va_P (dC, dI) vwCl (cW ad cid a2 lx sg_2 gmv_11 lgv_5) H := hP
    have hD : va_D A (cW ad cid a2 lx sg_2 gmv_11 lgv_5) := hD
    refine W.eq (g2 := F0 m 39 ls []) rfl ?_
    exact hj39 sg_2 gmv_11 lgv_5 h4 hvx hvpl (iv_w h_8 (by decide)) (KS_up KS_rf esg_2 (by decide)) (KS_tr (L := [11, 12, 13, 14, 15, 16, 17, 18, 19, 20, 21, 22, 23, 24, 25, 26, 27]) (KS_tr (L := [11, 12, 13, 14, 15, 16, 17, 18, 19, 20, 21, 22, 23, 24, 25, 26, 27]) KS_rf kgv_5 (by decide)) kgv_11 (by decide)) (KS_tr (L := [1, 2, 3]) KS_rf klv_5 (by decide)) hIv_11 (BN_new hBN (by have := i32_0; have := i32_1; have := i32_2; have := i32_m1; have := congrArg Int32.toInt (show sg_2 4 = z_1 from up_at esg_2); have := (hz_1).1; have := (hz_1).2; have := (hvx).1; have := (hvx).2; have := (hvpl).1; have := (hvpl).2; have := (h_8).1; have := (h_8).2; have := (h4).1; have := (h4).2; have := ((show iv 0 240 (sg 5) from CI_s hI 5)).1; have := ((show iv 0 240 (sg 5) from CI_s hI 5)).2; omega) h4.1 (Eq.trans ((show KS [16, 17, 18] gmv_5 gmv_11 from (KS_tr (L := [16, 17, 18]) KS_rf kgv_11 (by decide))) 27 (by decide)) f27_r_3)) (FA_new hFA (by have := i32_0; have := i32_1; have := i32_2; have := i32_m1; have := congrArg Int32.toInt (show sg_2 4 = z_1 from up_at esg_2); have := (hz_1).1; have := (hz_1).2; have := (hvx).1; have := (hvx).2; have := (hvpl).1; have := (hvpl).2; have := (h_8).1; have := (h_8).2; have := (h4).1; have := (h4).2; have := ((show iv 0 240 (sg 5) from CI_s hI 5)).1; have := ((show iv 0 240 (sg 5) from CI_s hI 5)).2; omega) h4.1 (up_ne esg_2 (by decide)) (Eq.trans ((show KS [16, 17, 18] gmv_5 gmv_11 from (KS_tr (L := [16, 17, 18]) KS_rf kgv_11 (by decide))) 19 (by decide)) f19_r_3) (Eq.trans ((show KS [16, 17, 18] gmv_5 gmv_11 from (KS_tr (L := [16, 17, 18]) KS_rf kgv_11 (by decide))) 20 (by decide)) f20_r_3) rfl) (LK_new hLK (by have := i32_0; have := i32_1; have := i32_2; have := i32_m1; have := congrArg Int32.toInt (show sg_2 4 = z_1 from up_at esg_2); have := (hz_1).1; have := (hz_1).2; have := (hvx).1; have := (hvx).2; have := (hvpl).1; have := (hvpl).2; have := (h_8).1; have := (h_8).2; have := (h4).1; have := (h4).2; have := ((show iv 0 240 (sg 5) from CI_s hI 5)).1; have := ((show iv 0 240 (sg 5) from CI_s hI 5)).2; omega) h4.1 hou (Eq.trans ((show KS [16, 17, 18] gmv_5 gmv_11 from (KS_tr (L := [16, 17, 18]) KS_rf kgv_11 (by decide))) 15 (by decide)) f15_r_3) f16_r_3 f17_r_3 (fun j => (fL_r_9 j).1.imp id (fun q9 => ⟨q9.1, by rw [q9.2]; exact cl_0 (h_8).1⟩)) (fun j => (fL_r_9 j).2.imp id (fun q9 => ⟨q9.1, by rw [show gmv_11 15 = gmv_5 15 from (show KS [16, 17, 18] gmv_5 gmv_11 from (KS_tr (L := [16, 17, 18]) KS_rf kgv_11 (by decide))) 15 (by decide)]; exact q9.2⟩))) (UB_u hU12 (Eq.trans ((show KS [16, 17, 18] gmv_5 gmv_11 from (KS_tr (L := [16, 17, 18]) KS_rf kgv_11 (by decide))) 12 (by decide)) f12_r_3) (by omega) (by show (0 : Int) ≤ _; omega)) (fU_r_9) (by have := i32_0; have := i32_1; have := i32_2; have := i32_m1; have := congrArg Int32.toInt (show sg_2 4 = z_1 from up_at esg_2); have := (hz_1).1; have := (hz_1).2; have := (hvx).1; have := (hvx).2; have := (hvpl).1; have := (hvpl).2; have := (h_8).1; have := (h_8).2; have := (h4).1; have := (h4).2; have := ((show iv 0 240 (sg 5) from CI_s hI 5)).1; have := ((show iv 0 240 (sg 5) from CI_s hI 5)).2; omega) ((LKS_i hLS (show ar.toInt < (((sg 4).toNatClampNeg : Nat) : Int) from (by show _ < (((sg 4).toInt.toNat : Nat) : Int); omega)) (h_8).1 (show (sg 4).toNatClampNeg < 2147483647 from (by have := h4.2; show (sg 4).toInt.toNat < _; omega)) (show (sg 4).toInt = (((sg 4).toNatClampNeg : Nat) : Int) from (by have := h4.1; show _ = (((sg 4).toInt.toNat : Nat) : Int); omega)) f15_r_3 f16_r_3 f17_r_3 f18_r_3 ((show KS [16, 17, 18] gmv_5 gmv_11 from (KS_tr (L := [16, 17, 18]) KS_rf kgv_11 (by decide))) 15 (by decide)) fI_r_9)) (fl1_r_3) ((Eq.trans ((show KS [16, 17, 18] gmv_5 gmv_11 from (KS_tr (L := [16, 17, 18]) KS_rf kgv_11 (by decide))) 11 (by decide)) f11_r_3)) ((Eq.trans ((show KS [16, 17, 18] gmv_5 gmv_11 from (KS_tr (L := [16, 17, 18]) KS_rf kgv_11 (by decide))) 12 (by decide)) f12_r_3)) ((Eq.trans ((show KS [16, 17, 18] gmv_5 gmv_11 from (KS_tr (L := [16, 17, 18]) KS_rf kgv_11 (by decide))) 13 (by decide)) f13_r_3)) ((Eq.trans ((show KS [16, 17, 18] gmv_5 gmv_11 from (KS_tr (L := [16, 17, 18]) KS_rf kgv_11 (by decide))) 14 (by decide)) f14_r_3)) ((Eq.trans ((show KS [16, 17, 18] gmv_5 gmv_11 from (KS_tr (L := [16, 17, 18]) KS_rf kgv_11 (by decide))) 15 (by decide)) f15_r_3)) ((Eq.trans ((show KS [16, 17, 18] gmv_5 gmv_11 from (KS_tr (L := [16, 17, 18]) KS_rf kgv_11 (by decide))) 19 (by decide)) f19_r_3)) ((Eq.trans ((show KS [16, 17, 18] gmv_5 gmv_11 from (KS_tr (L := [16, 17, 18]) KS_rf kgv_11 (by decide))) 20 (by decide)) f20_r_3)) _ _ _ hP hD hS (lv_sub hl [0, 1, 2, 3] rfl)
end
