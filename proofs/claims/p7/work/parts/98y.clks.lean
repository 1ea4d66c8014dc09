/-- the first of n that stands in e -/
def fiR (f : Nat → Int) (e : Int) : Nat → Int
  | 0 => -1
  | n + 1 => if 0 ≤ fiR f e n then fiR f e n else if f n = e then (n : Int) else -1
/-- the next of n that stands where k stands -/
def nxR (f : Nat → Int) (k : Nat) : Nat → Int
  | 0 => -1
  | n + 1 => if 0 ≤ nxR f k n then nxR f k n else if k < n ∧ f n = f k then (n : Int) else -1
def cnR (f : Nat → Int) (e : Int) : Nat → Nat
  | 0 => 0
  | n + 1 => cnR f e n + (if f n = e then 1 else 0)
theorem fiR_c {f g : Nat → Int} {e : Int} : ∀ {n : Nat}, (∀ j, j < n → g j = f j) → fiR g e n = fiR f e n := by
  intro n
  induction n with
  | zero => intro _; rfl
  | succ n ih =>
    intro h
    show (if 0 ≤ fiR g e n then fiR g e n else if g n = e then (n : Int) else -1) = (if 0 ≤ fiR f e n then fiR f e n else if f n = e then (n : Int) else -1)
    rw [ih (fun j hj => h j (by omega)), h n (by omega)]
theorem nxR_c {f g : Nat → Int} {k : Nat} : ∀ {n : Nat}, (∀ j, j < n → g j = f j) → g k = f k → nxR g k n = nxR f k n := by
  intro n
  induction n with
  | zero => intro _ _; rfl
  | succ n ih =>
    intro h hk
    show (if 0 ≤ nxR g k n then nxR g k n else if k < n ∧ g n = g k then (n : Int) else -1) = (if 0 ≤ nxR f k n then nxR f k n else if k < n ∧ f n = f k then (n : Int) else -1)
    rw [ih (fun j hj => h j (by omega)) hk, h n (by omega), hk]
theorem cnR_c {f g : Nat → Int} {e : Int} : ∀ {n : Nat}, (∀ j, j < n → g j = f j) → cnR g e n = cnR f e n := by
  intro n
  induction n with
  | zero => intro _; rfl
  | succ n ih =>
    intro h
    show cnR g e n + (if g n = e then 1 else 0) = cnR f e n + (if f n = e then 1 else 0)
    rw [ih (fun j hj => h j (by omega)), h n (by omega)]
theorem fiR_p {f : Nat → Int} {e : Int} : ∀ n, fiR f e n = -1 ∧ (∀ j, j < n → ¬ f j = e) ∨ (0 ≤ fiR f e n ∧ fiR f e n < (n : Int) ∧ f (fiR f e n).toNat = e ∧ ∀ j : Nat, (j : Int) < fiR f e n → ¬ f j = e) := by
  intro n
  induction n with
  | zero => exact Or.inl ⟨rfl, fun j hj => absurd hj (Nat.not_lt_zero j)⟩
  | succ n ih =>
    show (if 0 ≤ fiR f e n then fiR f e n else if f n = e then (n : Int) else -1) = -1 ∧ _ ∨ (0 ≤ (if 0 ≤ fiR f e n then fiR f e n else if f n = e then (n : Int) else -1) ∧ (if 0 ≤ fiR f e n then fiR f e n else if f n = e then (n : Int) else -1) < ((n + 1 : Nat) : Int) ∧ f (if 0 ≤ fiR f e n then fiR f e n else if f n = e then (n : Int) else -1).toNat = e ∧ ∀ j : Nat, (j : Int) < (if 0 ≤ fiR f e n then fiR f e n else if f n = e then (n : Int) else -1) → ¬ f j = e)
    rcases ih with ⟨h1, h2⟩ | ⟨h1, h2, h3, h4⟩
    · rw [if_neg (by omega)]
      by_cases hq : f n = e
      · rw [if_pos hq]
        exact Or.inr ⟨by omega, by omega, by rw [Int.toNat_natCast]; exact hq, fun j hj => h2 j (by omega)⟩
      · rw [if_neg hq]
        refine Or.inl ⟨rfl, fun j hj => ?_⟩
        by_cases e9 : j = n
        · rw [e9]; exact hq
        · exact h2 j (by omega)
    · rw [if_pos h1]
      exact Or.inr ⟨h1, by omega, h3, h4⟩
theorem nxR_p {f : Nat → Int} {k : Nat} : ∀ n, nxR f k n = -1 ∧ (∀ j, k < j → j < n → ¬ f j = f k) ∨ (0 ≤ nxR f k n ∧ (k : Int) < nxR f k n ∧ nxR f k n < (n : Int) ∧ f (nxR f k n).toNat = f k ∧ ∀ j, k < j → (j : Int) < nxR f k n → ¬ f j = f k) := by
  intro n
  induction n with
  | zero => exact Or.inl ⟨rfl, fun j _ hj => absurd hj (Nat.not_lt_zero j)⟩
  | succ n ih =>
    show (if 0 ≤ nxR f k n then nxR f k n else if k < n ∧ f n = f k then (n : Int) else -1) = -1 ∧ _ ∨ (0 ≤ (if 0 ≤ nxR f k n then nxR f k n else if k < n ∧ f n = f k then (n : Int) else -1) ∧ (k : Int) < (if 0 ≤ nxR f k n then nxR f k n else if k < n ∧ f n = f k then (n : Int) else -1) ∧ (if 0 ≤ nxR f k n then nxR f k n else if k < n ∧ f n = f k then (n : Int) else -1) < ((n + 1 : Nat) : Int) ∧ f (if 0 ≤ nxR f k n then nxR f k n else if k < n ∧ f n = f k then (n : Int) else -1).toNat = f k ∧ ∀ j : Nat, k < j → (j : Int) < (if 0 ≤ nxR f k n then nxR f k n else if k < n ∧ f n = f k then (n : Int) else -1) → ¬ f j = f k)
    rcases ih with ⟨h1, h2⟩ | ⟨h1, h2, h3, h4, h5⟩
    · rw [if_neg (by omega)]
      by_cases hq : k < n ∧ f n = f k
      · rw [if_pos hq]
        exact Or.inr ⟨by omega, by omega, by omega, by rw [Int.toNat_natCast]; exact hq.2, fun j hj hj2 => h2 j hj (by omega)⟩
      · rw [if_neg hq]
        refine Or.inl ⟨rfl, fun j hj hj2 => ?_⟩
        by_cases e9 : j = n
        · intro w; rw [e9] at w hj; exact hq ⟨hj, w⟩
        · exact h2 j hj (by omega)
    · rw [if_pos h1]
      exact Or.inr ⟨h1, h2, by omega, h4, h5⟩
/-- the links of the class's elements are those of the row of outer ones -/
def LKS (gm : Nat → Nat → Int32) (n : Nat) : Prop := ∀ e, e < n → (gm 15 e).toInt < (e : Int) ∧ -1 ≤ (gm 15 e).toInt ∧ (gm 16 e).toInt = fiR (fun j => (gm 15 j).toInt) (e : Int) n ∧ (gm 17 e).toInt = nxR (fun j => (gm 15 j).toInt) e n ∧ (gm 18 e).toInt = (cnR (fun j => (gm 15 j).toInt) (e : Int) n : Int)
theorem LKS_k {gm gm2 : Nat → Nat → Int32} {n : Nat} (h : LKS gm n) (e15 : gm2 15 = gm 15) (e16 : gm2 16 = gm 16) (e17 : gm2 17 = gm 17) (e18 : gm2 18 = gm 18) : LKS gm2 n := by unfold LKS; rw [e15, e16, e17, e18]; exact h
theorem cnR_0 {f : Nat → Int} {e : Int} : ∀ n, (∀ j, j < n → ¬ f j = e) → cnR f e n = 0 := by
  intro n
  induction n with
  | zero => intro _; rfl
  | succ n ih =>
    intro h
    show cnR f e n + _ = 0
    rw [ih (fun j hj => h j (by omega)), if_neg (h n (by omega))]
theorem LKS_0 {gm : Nat → Nat → Int32} : LKS gm 0 := fun e he => absurd he (Nat.not_lt_zero e)
/-- one element more -/
theorem LKS_n {gm gm2 : Nat → Nat → Int32} {n : Nat} {a : Int32} (h : LKS gm n) (ha : a.toInt < (n : Int)) (ha1 : -1 ≤ a.toInt) (hn : n < 2147483647) (e15 : gm2 15 = upd (gm 15) n a)
    (hz16 : (gm2 16 n).toInt = -1) (hz17 : (gm2 17 n).toInt = -1) (hz18 : (gm2 18 n).toInt = 0)
    (h18 : ∀ e, e < n → (gm2 18 e).toInt = (gm 18 e).toInt + (if a.toInt = (e : Int) then 1 else 0))
    (h16 : ∀ e, e < n → (gm2 16 e).toInt = if a.toInt = (e : Int) ∧ (gm 16 e).toInt = -1 then (n : Int) else (gm 16 e).toInt)
    (h17 : ∀ e, e < n → (gm2 17 e).toInt = if (gm 15 e).toInt = a.toInt ∧ 0 ≤ a.toInt ∧ (gm 17 e).toInt = -1 then (n : Int) else (gm 17 e).toInt) (hr : a.toInt = -1 → n = 0) : LKS gm2 (n + 1) := by
  have hf : ∀ j, j < n → (gm2 15 j).toInt = (gm 15 j).toInt := fun j hj => by rw [e15, upd_ne (by omega)]
  have hfn : (gm2 15 n).toInt = a.toInt := by rw [e15, upd_at]
  intro e he
  by_cases e9 : e = n
  · subst e9
    have hno : ∀ j, j < e → ¬ (gm2 15 j).toInt = (e : Int) := fun j hj q => by rw [hf j hj] at q; have := (h j hj).1; omega
    refine ⟨by rw [hfn]; exact ha, by rw [hfn]; exact ha1, ?_, ?_, ?_⟩
    · rw [hz16]
      rcases fiR_p (f := fun j => (gm2 15 j).toInt) (e := (e : Int)) (e + 1) with ⟨q1, _⟩ | ⟨q1, q2, q3, _⟩
      · exact q1.symm
      · exfalso
        have q3 : (gm2 15 (fiR (fun j => (gm2 15 j).toInt) (e : Int) (e + 1)).toNat).toInt = (e : Int) := q3
        by_cases q : (fiR (fun j => (gm2 15 j).toInt) (e : Int) (e + 1)).toNat = e
        · rw [q, hfn] at q3; omega
        · exact hno _ (by omega) q3
    · rw [hz17]
      rcases nxR_p (f := fun j => (gm2 15 j).toInt) (k := e) (e + 1) with ⟨q1, _⟩ | ⟨q1, q2, q3, _⟩
      · exact q1.symm
      · omega
    · rw [hz18, cnR_0 (e + 1) (fun j hj q => by
        have q : (gm2 15 j).toInt = (e : Int) := q
        by_cases q9 : j = e
        · rw [q9, hfn] at q; omega
        · exact hno j (by omega) q)]
      rfl
  · have he2 : e < n := by omega
    obtain ⟨a1, a2, a3, a4, a5⟩ := h e he2
    refine ⟨by rw [hf e he2]; exact a1, by rw [hf e he2]; exact a2, ?_, ?_, ?_⟩
    · rw [h16 e he2]
      show _ = (if 0 ≤ fiR (fun j => (gm2 15 j).toInt) (e : Int) n then fiR (fun j => (gm2 15 j).toInt) (e : Int) n else if (gm2 15 n).toInt = (e : Int) then (n : Int) else -1)
      rw [fiR_c (f := fun j => (gm 15 j).toInt) (fun j hj => hf j hj), ← a3, hfn]
      rcases fiR_p (f := fun j => (gm 15 j).toInt) (e := (e : Int)) n with ⟨q1, _⟩ | ⟨q1, _⟩
      · rw [← a3] at q1
        rw [q1, if_neg (show ¬ (0 : Int) ≤ -1 by decide)]
        by_cases q : a.toInt = (e : Int)
        · rw [if_pos ⟨q, rfl⟩, if_pos q]
        · rw [if_neg (fun w => q w.1), if_neg q]
      · rw [← a3] at q1
        rw [if_pos q1, if_neg (fun w => by omega)]
    · rw [h17 e he2]
      show _ = (if 0 ≤ nxR (fun j => (gm2 15 j).toInt) e n then nxR (fun j => (gm2 15 j).toInt) e n else if e < n ∧ (gm2 15 n).toInt = (gm2 15 e).toInt then (n : Int) else -1)
      rw [nxR_c (f := fun j => (gm 15 j).toInt) (fun j hj => hf j hj) (hf e he2), ← a4, hfn, hf e he2]
      rcases nxR_p (f := fun j => (gm 15 j).toInt) (k := e) n with ⟨q1, _⟩ | ⟨q1, _⟩
      · rw [← a4] at q1
        rw [q1, if_neg (show ¬ (0 : Int) ≤ -1 by decide)]
        by_cases q : (gm 15 e).toInt = a.toInt ∧ 0 ≤ a.toInt
        · rw [if_pos ⟨q.1, q.2, rfl⟩, if_pos ⟨he2, q.1.symm⟩]
        · rw [if_neg (fun w => q ⟨w.1, w.2.1⟩), if_neg (fun w => q ⟨w.2.symm, by
            rcases Int.lt_or_le a.toInt 0 with k | k
            · have := hr (by omega); omega
            · exact k⟩)]
      · rw [← a4] at q1
        rw [if_pos q1, if_neg (fun w => by omega)]
    · rw [h18 e he2, a5]
      show _ = ((cnR (fun j => (gm2 15 j).toInt) (e : Int) n + (if (gm2 15 n).toInt = (e : Int) then 1 else 0) : Nat) : Int)
      rw [cnR_c (f := fun j => (gm 15 j).toInt) (fun j hj => hf j hj), hfn]
      split <;> omega

set_option maxHeartbeats 4000000 in
set_option maxRecDepth 100000 in
theorem d_hasKey2 (l : Launch) (dC : Nat → ClassId) (dI : Nat → Nat → Nat) (ad : Nat → Nat → Nat) (cid : Nat → ClassId) (a2 : Nat → Nat) (lx : List Nat) (sg : Nat → Int32) (gm : Nat → Nat → Int32) (lg : Nat → Nat → Int64) (x : Int32) (o : Int32) (k : Int64) (hI : CI sg gm) (hvx : iv 0 0 x) (hvo : iv 0 79 o) (hFA : FA sg gm) (how : o.toInt < (sg 4).toInt) : CMt dC dI ad cid a2 lx l yX6_hasKey wm_X6_hasKey ({ frames := 0, cells := 1, slots := 6, locals := 0 }) [eV (ad 1) x, eV (ad 9) o, .long k] sg gm lg (fun v u => ∃ r : Int32, v = some (.int r) ∧ u = (sg, gm, lg) ∧ (iv 0 1 r) ∧ ((r.toInt = 1 ∧ HSK gm lg o.toNatClampNeg k) ∨ (r.toInt = 0 ∧ ¬ HSK gm lg o.toNatClampNeg k))) (fun _ _ => False) := by
  intro sz
  refine vx_ofW (cc := cX6_hasKey) (maxL := 5) (ret := (some .boolean)) (by decide) rfl ?_
  intro p e s m args below meth c s₁ B hml hxt hv
  obtain ⟨rfl, hsz, hP, hK, hD0, hG⟩ := hv
  have hx := B.exec
  have hb := B.bytes
  have hr := B.returns
  have hts := atoms_spec (ws := wm_X6_hasKey) B.pre
  have htb := fun (w : Cond) (h : w ∈ tb) => hts w (List.mem_cons_of_mem _ h)
  have hown : s.vm.findClass RX6 = some m.cls := findClass_of_methodNamed B.named
  have hlocks := B.notSynchronized
  subst hsz
  have hD := hD0.self (sz := s.heap.size)
  generalize hAe : va_A (cW ad cid a2 lx sg gm lg) s.heap.size = A at hD hG ⊢
  have hA : ∀ q : Nat, s.heap.size ≤ q → A q := fun q h => by rw [← hAe]; exact Or.inr h
  have hS : va_S A s.heap s.heap [] := va_S.rf
  have hl := lv_entry ([eV (ad 1) x, eV (ad 9) o, .long k]) (n := 5) (by rw [show (lg_sl ([eV (ad 1) x, eV (ad 9) o, .long k])).length = 4 from by simp [lg_sl, eV_cat, cat_i, cat_l]]; exact Nat.le_of_ble_eq_true rfl)
  rw [lg_entry_eq]
  generalize (lg_sl ([eV (ad 1) x, eV (ad 9) o, .long k]) ++ List.replicate (5 - (lg_sl ([eV (ad 1) x, eV (ad 9) o, .long k])).length) Slot.unset).toArray = ls at hl ⊢
  have hl : lv_has ls 5 [(0, eV (ad 1) x), (1, eV (ad 9) o), (2, .long k)] := by simp [lv_args, eV_cat, cat_i, cat_l] at hl; exact hl
  have hj3 : ∀ (n : Nat) (x4_3 : Int32) (_ : (12 - x4_3.toInt).toNat = n) (_ : iv 0 12 x4_3) (_ : iv 0 0 x) (_ : iv 0 79 o) (_ : ∀ i, i < x4_3.toNatClampNeg → ¬ lg 0 ((gm 19 o.toNatClampNeg).toNatClampNeg + i) = k) (H : Heap) (locs : List Loc) (ls : Array Slot), va_P (dC, dI) vwCl (cW ad cid a2 lx sg gm lg) H → va_D A (cW ad cid a2 lx sg gm lg) → va_S A s.heap H locs → lv_has ls 5 [(4, .int x4_3), (0, eV (ad 1) x), (1, eV (ad 9) o), (2, .long k)] → W p l e (headSpec wm_X6_hasKey ({ frames := 0, cells := 1, slots := 6, locals := 0 })).room s m ([eV (ad 1) x, eV (ad 9) o, .long k] : List Value).toArray below meth c H locs 0 0 (vx_MQ below (cQx dC dI ad cid a2 lx (fun v u => ∃ r : Int32, v = some (.int r) ∧ u = (sg, gm, lg) ∧ (iv 0 1 r) ∧ ((r.toInt = 1 ∧ HSK gm lg o.toNatClampNeg k) ∨ (r.toInt = 0 ∧ ¬ HSK gm lg o.toNatClampNeg k))) A) (cX dC dI ad cid a2 lx (fun _ _ => False) A) ([eV (ad 1) x, eV (ad 9) o, .long k] : List Value).toArray s 1 6 A) (F0 m 3 ls []) := by
    intro n
    induction n using Nat.strongRecOn with
    | ind n ih3 =>
      intro x4_3 hn3 hx4_3 hsx0_3 hsx1_3 uH H locs ls hP hD hS hl
      refine lv_iload hx hb dX6_hasKey_3 (lv_at hl 0 rfl) ?_
      refine ec_aload_n hx hb dX6_hasKey_5 rfl (lv_at hl 2 rfl) ?_
      refine cr_get (t := 9) (j := 10) (C := RX3) (T := TX3) (N := 21) (v := .int (gm 20 o.toNatClampNeg)) hx hb htb inX3 hown hK hP hsx1_3 (by decide) (by decide) (by decide) rfl (by decide) (htb _ kw_420) rfl dX6_hasKey_6 ?_
      obtain ⟨z_1, ez_1⟩ : ∃ z : Int32, z = (gm 20 o.toNatClampNeg) := ⟨_, rfl⟩
      refine W.eq (g2 := F0 m 9 ls [.int z_1, .int x4_3]) (by rw [ez_1]) ?_
      have hz_1 : iv 0 12 z_1 := iv_of ez_1 (CI_a hI 20 hsx1_3 (by decide))
      refine lv_icmp_ge (tgt := 37) hx hb dX6_hasKey_9 (by decide) (fun c_2 => ?_) (fun c_2 => ?_)
      · have d_3 : (z_1 : Int32).toInt ≤ (x4_3 : Int32).toInt := Int32.le_iff_toInt_le.mp c_2
        refine lv_iconst (v := 0) hx hb dX6_hasKey_37 (by decide) ?_
        exact W.nb (fun hN => W.widen (k := 1) (n := 6) (by decide) (by decide) (vx_ret (W.zret (v := 0) hx hb hr (iv_nb (iv_w (iv_k (by decide) : iv 0 0 0) (by decide))) (fun t ht hW => ⟨⟨some (.int 0), (sg, gm, lg), rfl, ⟨0, rfl, rfl, (iv_w (iv_k (by decide) : iv 0 0 0) (by decide)), (Or.inr ⟨rfl, fun ⟨i, hi, hk⟩ => uH i (by have k1 := iv_cl hx4_3 (by decide); have k2 : (gm 20 o.toNatClampNeg).toNatClampNeg = (gm 20 o.toNatClampNeg).toInt.toNat := rfl; have k3 := congrArg Int32.toInt ez_1; have := i32_0; have := i32_1; have := i32_2; have := i32_m1; have := (hsx0_3).1; have := (hsx0_3).2; have := (hsx1_3).1; have := (hsx1_3).2; have := (hx4_3).1; have := (hx4_3).2; have := (hz_1).1; have := (hz_1).2; omega) hk⟩)⟩, by rw [ht]; exact hP, va_K.moved hW.alike hK, hD⟩, hS.F ht, by rw [ht]; exact hN⟩) hS.2.2 dX6_hasKey_38)))
      · have d_4 : (x4_3 : Int32).toInt < (z_1 : Int32).toInt := Int32.lt_iff_toInt_lt.mp (i32_lt c_2)
        have h_5 : iv 0 11 x4_3 := iv_ltL (i32_lt c_2) hx4_3 hz_1 (by decide)
        have h_6 : iv 1 12 z_1 := iv_ltR (i32_lt c_2) hx4_3 hz_1 (by decide)
        refine ec_aload_n hx hb dX6_hasKey_12 rfl (lv_at hl 1 rfl) ?_
        refine cr_get (t := 1) (j := 1) (C := RX6) (T := TX6) (N := 8) (v := eV (ad 15) 0) hx hb htb inX6 hown hK hP hsx0_3 (by decide) (by decide) (by decide) rfl (by decide) (htb _ kw_67) (cV_c rfl (by decide) (by rw [show cMu 1 1 = 0 from rfl, Nat.zero_mul]; rfl)) dX6_hasKey_13 ?_
        refine ec_aload_n hx hb dX6_hasKey_16 rfl (lv_at hl 2 rfl) ?_
        refine cr_get (t := 9) (j := 9) (C := RX3) (T := TX3) (N := 21) (v := .int (gm 19 o.toNatClampNeg)) hx hb htb inX3 hown hK hP hsx1_3 (by decide) (by decide) (by decide) rfl (by decide) (htb _ kw_421) rfl dX6_hasKey_17 ?_
        obtain ⟨z_7, ez_7⟩ : ∃ z : Int32, z = (gm 19 o.toNatClampNeg) := ⟨_, rfl⟩
        refine W.eq (g2 := F0 m 20 ls [.int z_7, eV (ad 15) 0]) (by rw [ez_7]) ?_
        have hz_7 : iv 0 240 z_7 := iv_of ez_7 (CI_a hI 19 hsx1_3 (by decide))
        refine lv_iload hx hb dX6_hasKey_20 (lv_at hl 0 rfl) ?_
        have hfa9 : (z_7 : Int32).toInt + (z_1 : Int32).toInt ≤ (sg 5).toInt := by rw [ez_7, ez_1]; exact hFA _ (lt_cl hvo (show iv 0 80 (sg 4) from CI_s hI 4) (by decide) (by decide) how)
        refine lv_iadd hx hb dX6_hasKey_22 ?_
        refine lv_topi (fun z_8 ez_8 => ?_)
        have hz_8 : iv 0 251 z_8 := iv_of ez_8 (iv_add hz_7 h_5 (by decide))
        have tz_8 : z_8.toInt = (z_7 : Int32).toInt + (x4_3 : Int32).toInt := by rw [ez_8]; exact iv_addE hz_7 h_5 (by decide)
        refine cr_lald hx hb hK hP (iv_k (by decide) : iv 0 0 0) (show vp_in z_8 240 from (vp_in_iff.mpr ⟨by have := i32_0; have := i32_1; have := i32_2; have := i32_m1; have := (show iv 0 240 (sg 5) from CI_s hI 5).1; have := (show iv 0 240 (sg 5) from CI_s hI 5).2; have := (hsx0_3).1; have := (hsx0_3).2; have := (hsx1_3).1; have := (hsx1_3).2; have := (h_5).1; have := (h_5).2; have := (h_6).1; have := (h_6).2; have := (hz_7).1; have := (hz_7).2; have := (hz_8).1; have := (hz_8).2; omega, by have := i32_0; have := i32_1; have := i32_2; have := i32_m1; have := (show iv 0 240 (sg 5) from CI_s hI 5).1; have := (show iv 0 240 (sg 5) from CI_s hI 5).2; have := (hsx0_3).1; have := (hsx0_3).2; have := (hsx1_3).1; have := (hsx1_3).2; have := (h_5).1; have := (h_5).2; have := (h_6).1; have := (h_6).2; have := (hz_7).1; have := (hz_7).2; have := (hz_8).1; have := (hz_8).2; omega⟩)) dX6_hasKey_23 ?_
        refine lv_topl (fun z_9 ez_9 => ?_)
        refine lv_lload_n hx hb dX6_hasKey_24 rfl (lv_at hl 3 rfl) ?_
        refine W.lcmp hx hb dX6_hasKey_25 ?_
        refine lv_topi (fun z_10 ez_10 => ?_)
        have hz_10 : iv (-1) 1 z_10 := iv_of ez_10 (iv_cmp _ _)
        refine lv_if_ne (tgt := 31) hx hb dX6_hasKey_26 (by decide) (fun c_11 => ?_) (fun c_11 => ?_)
        · have d_12 : ¬ (z_10 : Int32).toInt = 0 := lv_neT c_11 rfl
          obtain ⟨z_13, ez_13⟩ : ∃ z : Int32, z = x4_3 + 1 := ⟨_, rfl⟩
          have hz_13 : iv 1 12 z_13 := iv_of ez_13 (iv_add h_5 (iv_k (by decide) : iv 1 1 1) (by decide))
          have tz_13 : z_13.toInt = x4_3.toInt + 1 := by rw [ez_13]; exact iv_addE h_5 (iv_k (by decide) : iv 1 1 1) (by decide)
          refine lv_iinc (v := z_13) (lv' := [(4, .int z_13), (0, eV (ad 1) x), (1, eV (ad 9) o), (2, .long k)]) hx hb dX6_hasKey_31 hl (k := 0) rfl ez_13.symm (by decide) rfl (fun ls hl => ?_)
          refine lv_goto (tgt := 3) hx hb dX6_hasKey_34 (by decide) ?_
          exact ih3 _ (by rw [← hn3]; exact (iv_meas tz_13 h_5 (by decide))) z_13 rfl (iv_w hz_13 (by decide)) hsx0_3 hsx1_3 ((fun i hi => (show i < x4_3.toNatClampNeg ∨ i = x4_3.toNatClampNeg by have := iv_cl h_5 (by decide); have : z_13.toNatClampNeg = z_13.toInt.toNat := rfl; have := tz_13; omega).elim (fun q => uH i q) (fun q q8 => c_11 (by rw [ez_10, ez_9, cl_add hz_7 h_5 (by decide) (by decide) tz_8, ez_7, ← q]; exact (lg_cmp_eq _ _).mpr q8)))) _ _ _ hP hD hS (lv_sub hl [0, 1, 2, 3] rfl)
        · have h_14 : iv 0 0 z_10 := iv_eq c_11 hz_10 (iv_k (by decide) : iv 0 0 0) (by decide)
          refine lv_iconst (v := 1) hx hb dX6_hasKey_29 (by decide) ?_
          exact W.nb (fun hN => W.widen (k := 1) (n := 6) (by decide) (by decide) (vx_ret (W.zret (v := 1) hx hb hr (iv_nb (iv_w (iv_k (by decide) : iv 1 1 1) (by decide))) (fun t ht hW => ⟨⟨some (.int 1), (sg, gm, lg), rfl, ⟨1, rfl, rfl, (iv_w (iv_k (by decide) : iv 1 1 1) (by decide)), (Or.inl ⟨rfl, ⟨x4_3.toNatClampNeg, lt_cl h_5 (show iv 0 12 (gm 20 o.toNatClampNeg) from CI_a hI 20 hvo (by decide)) (by decide) (by decide) (by have := congrArg Int32.toInt ez_1; have := i32_0; have := i32_1; have := i32_2; have := i32_m1; have := (hsx0_3).1; have := (hsx0_3).2; have := (hsx1_3).1; have := (hsx1_3).2; have := (h_5).1; have := (h_5).2; have := (h_6).1; have := (h_6).2; have := (hz_7).1; have := (hz_7).2; have := (hz_8).1; have := (hz_8).2; have := (h_14).1; have := (h_14).2; omega), by have q9 := c_11; rw [ez_10, ez_9, cl_add hz_7 h_5 (by decide) (by decide) tz_8, ez_7] at q9; exact (lg_cmp_eq _ _).mp q9⟩⟩)⟩, by rw [ht]; exact hP, va_K.moved hW.alike hK, hD⟩, hS.F ht, by rw [ht]; exact hN⟩) hS.2.2 dX6_hasKey_30)))
  refine lv_iconst (v := 0) hx hb dX6_hasKey_0 (by decide) ?_
  refine lv_istore (i := 4) (lv' := [(4, .int 0), (0, eV (ad 1) x), (1, eV (ad 9) o), (2, .long k)]) hx hb dX6_hasKey_1 hl (by decide) rfl (fun ls hl => ?_)
  exact hj3 _ 0 rfl (iv_w (iv_k (by decide) : iv 0 0 0) (by decide)) hvx hvo ((fun i hi => absurd hi (Nat.not_lt_zero i))) _ _ _ hP hD hS (lv_sub hl [0, 1, 2, 3] rfl)

set_option maxHeartbeats 4000000 in
set_option maxRecDepth 100000 in
theorem d_takeWhite2 (l : Launch) (dC : Nat → ClassId) (dI : Nat → Nat → Nat) (ad : Nat → Nat → Nat) (cid : Nat → ClassId) (a2 : Nat → Nat) (lx : List Nat) (sg : Nat → Int32) (gm : Nat → Nat → Int32) (lg : Nat → Nat → Int64) (x : Int32) (cc : Int32) (K9 : Nat) (hI : CI sg gm) (hvx : iv 0 79 x) (hvcc : iv 0 65535 cc) (hU12 : UB 12 K9 gm) (hU18 : UB 18 K9 gm) (hK9 : K9 ≤ 1999990) : CMt dC dI ad cid a2 lx l yX3_takeWhite wm_X3_takeWhite ({ frames := 0, cells := 1, slots := 6, locals := 0 }) [eV (ad 9) x, .int cc] sg gm lg (fun v u => v = none ∧ ∃ (sg2 : Nat → Int32) (gm2 : Nat → Nat → Int32) (lg2 : Nat → Nat → Int64), u = (sg2, gm2, lg2) ∧ CI sg2 gm2 ∧ KS [] sg sg2 ∧ KS [12, 56] gm gm2 ∧ KS [] lg lg2 ∧ (UB 12 (K9 + 1) gm2) ∧ ((gm2 11 = gm 11 ∧ (((gm 11 x.toNatClampNeg).toInt = 0 ∧ gm2 12 = gm 12) ∨ (¬ (gm 11 x.toNatClampNeg).toInt = 0 ∧ ∃ z : Int32, z.toInt = (gm 12 x.toNatClampNeg).toInt + 1 ∧ gm2 12 = upd (gm 12) x.toNatClampNeg z))))) (fun _ _ => False) := by
  intro sz
  refine vx_ofW (cc := cX3_takeWhite) (maxL := 2) (ret := none) (by decide) rfl ?_
  intro p e s m args below meth c s₁ B hml hxt hv
  obtain ⟨rfl, hsz, hP, hK, hD0, hG⟩ := hv
  have hx := B.exec
  have hb := B.bytes
  have hr := B.returns
  have hts := atoms_spec (ws := wm_X3_takeWhite) B.pre
  have htb := fun (w : Cond) (h : w ∈ tb) => hts w (List.mem_cons_of_mem _ h)
  have hown : s.vm.findClass RX3 = some m.cls := findClass_of_methodNamed B.named
  have hlocks := B.notSynchronized
  subst hsz
  have hD := hD0.self (sz := s.heap.size)
  generalize hAe : va_A (cW ad cid a2 lx sg gm lg) s.heap.size = A at hD hG ⊢
  have hA : ∀ q : Nat, s.heap.size ≤ q → A q := fun q h => by rw [← hAe]; exact Or.inr h
  have hS : va_S A s.heap s.heap [] := va_S.rf
  have hl := lv_entry ([eV (ad 9) x, .int cc]) (n := 2) (by rw [show (lg_sl ([eV (ad 9) x, .int cc])).length = 2 from by simp [lg_sl, eV_cat, cat_i, cat_l]]; exact Nat.le_of_ble_eq_true rfl)
  rw [lg_entry_eq]
  generalize (lg_sl ([eV (ad 9) x, .int cc]) ++ List.replicate (2 - (lg_sl ([eV (ad 9) x, .int cc])).length) Slot.unset).toArray = ls at hl ⊢
  have hl : lv_has ls 2 [(0, eV (ad 9) x), (1, .int cc)] := by simp [lv_args, eV_cat, cat_i, cat_l] at hl; exact hl
  have hj27 : ∀ (gm_j27 : Nat → Nat → Int32) (_ : iv 0 79 x) (_ : iv 0 65535 cc) (_ : KS [56] gm gm_j27) (_ : CI sg gm_j27) (_ : ¬ (gm 11 x.toNatClampNeg).toInt = 0) (H : Heap) (locs : List Loc) (ls : Array Slot), va_P (dC, dI) vwCl (cW ad cid a2 lx sg gm_j27 lg) H → va_D A (cW ad cid a2 lx sg gm_j27 lg) → va_S A s.heap H locs → lv_has ls 2 [(0, eV (ad 9) x), (1, .int cc)] → W p l e (headSpec wm_X3_takeWhite ({ frames := 0, cells := 1, slots := 6, locals := 0 })).room s m ([eV (ad 9) x, .int cc] : List Value).toArray below meth c H locs 0 0 (vx_MQ below (cQx dC dI ad cid a2 lx (fun v u => v = none ∧ ∃ (sg2 : Nat → Int32) (gm2 : Nat → Nat → Int32) (lg2 : Nat → Nat → Int64), u = (sg2, gm2, lg2) ∧ CI sg2 gm2 ∧ KS [] sg sg2 ∧ KS [12, 56] gm gm2 ∧ KS [] lg lg2 ∧ (UB 12 (K9 + 1) gm2) ∧ ((gm2 11 = gm 11 ∧ (((gm 11 x.toNatClampNeg).toInt = 0 ∧ gm2 12 = gm 12) ∨ (¬ (gm 11 x.toNatClampNeg).toInt = 0 ∧ ∃ z : Int32, z.toInt = (gm 12 x.toNatClampNeg).toInt + 1 ∧ gm2 12 = upd (gm 12) x.toNatClampNeg z))))) A) (cX dC dI ad cid a2 lx (fun _ _ => False) A) ([eV (ad 9) x, .int cc] : List Value).toArray s 1 6 A) (F0 m 27 ls []) := by
    intro gm_j27 hsx0_27 hsx1_27 hkg_j27 hI_j27 n11 H locs ls hP hD hS hl
    refine ec_aload_n hx hb dX3_takeWhite_27 rfl (lv_at hl 0 rfl) ?_
    refine lv_dup hx hb dX3_takeWhite_28 (eV_cat _ _) ?_
    refine cr_get (t := 9) (j := 2) (C := RX3) (T := TX3) (N := 21) (v := .int (gm_j27 12 x.toNatClampNeg)) hx hb htb inX3 hown hK hP hsx0_27 (by decide) (by decide) (by decide) rfl (by decide) (htb _ kw_382) rfl dX3_takeWhite_29 ?_
    obtain ⟨z_1, ez_1⟩ : ∃ z : Int32, z = (gm_j27 12 x.toNatClampNeg) := ⟨_, rfl⟩
    refine W.eq (g2 := F0 m 32 ls [.int z_1, eV (ad 9) x]) (by rw [ez_1]) ?_
    have hz_1 : iv 0 2000000 z_1 := iv_of ez_1 (CI_a hI_j27 12 hsx0_27 (by decide))
    have ez_1 := ez_1.trans (congrFun (hkg_j27 12 (by decide)) _)
    have h_2 : iv 0 1999990 z_1 := ⟨(hz_1).1, by have q9 := hU12 x.toNatClampNeg (by have q1 := iv_cl hsx0_27 (by decide); have q2 := (hsx0_27).2; omega); rw [ez_1]; omega⟩
    refine lv_iconst (v := 1) hx hb dX3_takeWhite_32 (by decide) ?_
    refine lv_iadd hx hb dX3_takeWhite_33 ?_
    refine lv_topi (fun z_3 ez_3 => ?_)
    have hz_3 : iv 1 1999991 z_3 := iv_of ez_3 (iv_add h_2 (iv_k (by decide) : iv 1 1 1) (by decide))
    have tz_3 : z_3.toInt = (z_1 : Int32).toInt + 1 := by rw [ez_3]; exact iv_addE h_2 (iv_k (by decide) : iv 1 1 1) (by decide)
    refine cr_putg (t := 9) (j := 2) (C := RX3) (T := TX3) (N := 21) (ty0 := tyX3) (k := 12) (y := z_3) hx hb htb inX3 tyX3_ok nmX3 hown hK hP hD hS hsx0_27 (by decide) (by decide) (by decide) (by decide) rfl rfl (by decide) (htb _ kw_382) rfl (by show Value.int z_3 = Value.int (va_up gm_j27 12 (upd (gm_j27 12) x.toNatClampNeg z_3) 12 x.toNatClampNeg); rw [va_up_self, upd_at]) rfl rfl dX3_takeWhite_34 (fun gm_4 H locs egm_4 hP hD hS => ?_)
    have hI_gm_4 := CI_st hI_j27 egm_4 hz_3 (by decide)
    exact W.nb (fun hN => W.widen (k := 1) (n := 6) (by decide) (by decide) (vx_ret (W.vret hx hb hr (fun t ht hW => ⟨⟨none, (sg, gm_4, lg), rfl, ⟨rfl, sg, gm_4, lg, rfl, hI_gm_4, KS_rf, (KS_up (KS_tr (L := [12, 56]) KS_rf hkg_j27 (by decide)) egm_4 (by decide)), KS_rf, (UB_u hU12 (show gm_4 12 = upd (gm 12) (x : Int32).toNatClampNeg z_3 from ((up_at egm_4).trans (by rw [show gm_j27 12 = gm 12 from ((hkg_j27 12 (by decide)).trans rfl)]))) (by omega) (by have := tz_3; have q9 := hU12 x.toNatClampNeg (by have q1 := iv_cl hsx0_27 (by decide); have q2 := (hsx0_27).2; omega); rw [← ez_1] at q9; omega)), (⟨(Eq.trans (up_ne egm_4 (by decide)) (hkg_j27 11 (by decide))), Or.inr ⟨n11, z_3, (by have := tz_3; have := congrArg Int32.toInt ez_1; omega), (show gm_4 12 = upd (gm 12) (x : Int32).toNatClampNeg z_3 from ((up_at egm_4).trans (by rw [show gm_j27 12 = gm 12 from ((hkg_j27 12 (by decide)).trans rfl)])))⟩⟩)⟩, by rw [ht]; exact hP, va_K.moved hW.alike hK, hD⟩, hS.F ht, by rw [ht]; exact hN⟩) hS.2.2 dX3_takeWhite_37)))
  refine ec_aload_n hx hb dX3_takeWhite_0 rfl (lv_at hl 0 rfl) ?_
  refine cr_get (t := 9) (j := 1) (C := RX3) (T := TX3) (N := 21) (v := .int (gm 11 x.toNatClampNeg)) hx hb htb inX3 hown hK hP hvx (by decide) (by decide) (by decide) rfl (by decide) (htb _ kw_381) rfl dX3_takeWhite_1 ?_
  obtain ⟨z_5, ez_5⟩ : ∃ z : Int32, z = (gm 11 x.toNatClampNeg) := ⟨_, rfl⟩
  refine W.eq (g2 := F0 m 4 ls [.int z_5]) (by rw [ez_5]) ?_
  have hz_5 : iv 0 24 z_5 := iv_of ez_5 (CI_a hI 11 hvx (by decide))
  refine lv_if_ne (tgt := 8) hx hb dX3_takeWhite_4 (by decide) (fun c_6 => ?_) (fun c_6 => ?_)
  · have h_7 : iv 1 24 z_5 := iv_neL c_6 hz_5 (by decide)
    refine ec_aload_n hx hb dX3_takeWhite_8 rfl (lv_at hl 0 rfl) ?_
    refine cr_get (t := 9) (j := 2) (C := RX3) (T := TX3) (N := 21) (v := .int (gm 12 x.toNatClampNeg)) hx hb htb inX3 hown hK hP hvx (by decide) (by decide) (by decide) rfl (by decide) (htb _ kw_382) rfl dX3_takeWhite_9 ?_
    obtain ⟨z_8, ez_8⟩ : ∃ z : Int32, z = (gm 12 x.toNatClampNeg) := ⟨_, rfl⟩
    refine W.eq (g2 := F0 m 12 ls [.int z_8]) (by rw [ez_8]) ?_
    have hz_8 : iv 0 2000000 z_8 := iv_of ez_8 (CI_a hI 12 hvx (by decide))
    have h_9 : iv 0 1999990 z_8 := ⟨(hz_8).1, by have q9 := hU12 x.toNatClampNeg (by have q1 := iv_cl hvx (by decide); have q2 := (hvx).2; omega); rw [ez_8]; omega⟩
    refine lv_bipush (v := 24) hx hb dX3_takeWhite_12 (by decide) ?_
    refine lv_icmp_ge (tgt := 27) hx hb dX3_takeWhite_14 (by decide) (fun c_10 => ?_) (fun c_10 => ?_)
    · have h_11 : iv 24 1999990 z_8 := iv_leR c_10 (iv_k (by decide) : iv 24 24 24) h_9 (by decide)
      exact hj27 gm hvx hvcc KS_rf hI (by have := i32_0; have := i32_1; have := i32_2; have := i32_m1; have := (hvx).1; have := (hvx).2; have := (hvcc).1; have := (hvcc).2; have := (h_7).1; have := (h_7).2; have := (h_11).1; have := (h_11).2; have := congrArg Int32.toInt ez_5; have n0 : ¬ z_5.toInt = 0 := fun q => c_6 (Int32.toInt_inj.mp q); omega) _ _ _ hP hD hS (lv_sub hl [0, 1] rfl)
    · have h_12 : iv 0 23 z_8 := iv_ltL (i32_lt c_10) h_9 (iv_k (by decide) : iv 24 24 24) (by decide)
      refine ec_aload_n hx hb dX3_takeWhite_17 rfl (lv_at hl 0 rfl) ?_
      refine cr_get (t := 9) (j := 0) (C := RX3) (T := TX3) (N := 21) (v := eV (ad 31) x) hx hb htb inX3 hown hK hP hvx (by decide) (by decide) (by decide) rfl (by decide) (htb _ kw_74) (cV_c rfl (hvx).1 (by rw [show cMu 9 0 = 1 from rfl, Nat.one_mul]; rfl)) dX3_takeWhite_18 ?_
      refine ec_aload_n hx hb dX3_takeWhite_21 rfl (lv_at hl 0 rfl) ?_
      refine cr_get (t := 9) (j := 2) (C := RX3) (T := TX3) (N := 21) (v := .int (gm 12 x.toNatClampNeg)) hx hb htb inX3 hown hK hP hvx (by decide) (by decide) (by decide) rfl (by decide) (htb _ kw_382) rfl dX3_takeWhite_22 ?_
      refine W.eq (g2 := F0 m 25 ls [.int z_8, eV (ad 31) x]) (by rw [show (gm 12 x.toNatClampNeg) = z_8 from ez_8.symm]) ?_
      refine lv_iload_n hx hb dX3_takeWhite_25 rfl (lv_at hl 1 rfl) ?_
      refine cr_cast (t := 31) (k := 56) (n9 := (24 * x.toNatClampNeg + (z_8 : Int32).toNatClampNeg)) (z := cc) hx hb hK hP hD hS hvx (by decide) (by decide) (by decide) rfl rfl rfl (show vp_in z_8 (cLen 31) from (show vp_in z_8 24 from (iv_in h_12 (by decide)))) (Or.inr (vin_lt (show vp_in z_8 (cLen 31) from (show vp_in z_8 24 from (iv_in h_12 (by decide)))))) rfl dX3_takeWhite_26 (fun gm_13 H locs egm_13 hP hD hS => ?_)
      rw [vnc hvcc] at egm_13
      have hI_gm_13 := CI_st hI egm_13 hvcc (by decide)
      exact hj27 gm_13 hvx hvcc (KS_up KS_rf egm_13 (by decide)) hI_gm_13 (by have := i32_0; have := i32_1; have := i32_2; have := i32_m1; have := (hvx).1; have := (hvx).2; have := (hvcc).1; have := (hvcc).2; have := (h_7).1; have := (h_7).2; have := (h_12).1; have := (h_12).2; have := congrArg Int32.toInt ez_5; have n0 : ¬ z_5.toInt = 0 := fun q => c_6 (Int32.toInt_inj.mp q); omega) _ _ _ hP hD hS (lv_sub hl [0, 1] rfl)
  · have h_14 : iv 0 0 z_5 := iv_eq c_6 hz_5 (iv_k (by decide) : iv 0 0 0) (by decide)
    exact W.nb (fun hN => W.widen (k := 1) (n := 6) (by decide) (by decide) (vx_ret (W.vret hx hb hr (fun t ht hW => ⟨⟨none, (sg, gm, lg), rfl, ⟨rfl, sg, gm, lg, rfl, hI, KS_rf, KS_rf, KS_rf, (UB_k hU12 rfl (by omega)), (⟨rfl, Or.inl ⟨(by have := i32_0; have := i32_1; have := i32_2; have := i32_m1; have := (hvx).1; have := (hvx).2; have := (hvcc).1; have := (hvcc).2; have := (h_14).1; have := (h_14).2; have := congrArg Int32.toInt ez_5; omega), rfl⟩⟩)⟩, by rw [ht]; exact hP, va_K.moved hW.alike hK, hD⟩, hS.F ht, by rw [ht]; exact hN⟩) hS.2.2 dX3_takeWhite_7)))

set_option maxHeartbeats 4000000 in
set_option maxRecDepth 100000 in
theorem d_takesText2 (l : Launch) (dC : Nat → ClassId) (dI : Nat → Nat → Nat) (ad : Nat → Nat → Nat) (cid : Nat → ClassId) (a2 : Nat → Nat) (lx : List Nat) (sg : Nat → Int32) (gm : Nat → Nat → Int32) (lg : Nat → Nat → Int64) (x : Int32) (cc : Int32) (K9 : Nat) (hI : CI sg gm) (hvx : iv 0 79 x) (hvcc : iv 0 65535 cc) (hU12 : UB 12 K9 gm) (hU18 : UB 18 K9 gm) (hK9 : K9 ≤ 1999990) : CMt dC dI ad cid a2 lx l yX3_takesText wm_X3_takesText ({ frames := 1, cells := 1, slots := 6, locals := 21 }) [eV (ad 9) x, .int cc] sg gm lg (fun v u => ∃ r : Int32, v = some (.int r) ∧ ∃ (sg2 : Nat → Int32) (gm2 : Nat → Nat → Int32) (lg2 : Nat → Nat → Int64), u = (sg2, gm2, lg2) ∧ CI sg2 gm2 ∧ KS [] sg sg2 ∧ KS [11, 12, 56] gm gm2 ∧ KS [] lg lg2 ∧ (iv 0 1 r) ∧ (UB 12 (K9 + 1) gm2) ∧ ((r.toInt = 0 ∧ sTx (gm 11 x.toNatClampNeg).toInt.toNat (gm 12 x.toNatClampNeg).toInt.toNat cc.toInt = none) ∨ (r.toInt = 1 ∧ sTx (gm 11 x.toNatClampNeg).toInt.toNat (gm 12 x.toNatClampNeg).toInt.toNat cc.toInt = some ((gm2 11 x.toNatClampNeg).toInt.toNat, (gm2 12 x.toNatClampNeg).toInt.toNat) ∧ ∀ j, j ≠ x.toNatClampNeg → gm2 11 j = gm 11 j ∧ gm2 12 j = gm 12 j))) (fun _ _ => False) := by
  intro sz
  refine vx_ofW (cc := cX3_takesText) (maxL := 2) (ret := (some .boolean)) (by decide) rfl ?_
  intro p e s m args below meth c s₁ B hml hxt hv
  obtain ⟨rfl, hsz, hP, hK, hD0, hG⟩ := hv
  have hx := B.exec
  have hb := B.bytes
  have hr := B.returns
  have hts := atoms_spec (ws := wm_X3_takesText) B.pre
  have htb := fun (w : Cond) (h : w ∈ tb) => hts w (List.mem_cons_of_mem _ h)
  have hown : s.vm.findClass RX3 = some m.cls := findClass_of_methodNamed B.named
  have hlocks := B.notSynchronized
  subst hsz
  have hD := hD0.self (sz := s.heap.size)
  generalize hAe : va_A (cW ad cid a2 lx sg gm lg) s.heap.size = A at hD hG ⊢
  have hA : ∀ q : Nat, s.heap.size ≤ q → A q := fun q h => by rw [← hAe]; exact Or.inr h
  have hS : va_S A s.heap s.heap [] := va_S.rf
  have hl := lv_entry ([eV (ad 9) x, .int cc]) (n := 2) (by rw [show (lg_sl ([eV (ad 9) x, .int cc])).length = 2 from by simp [lg_sl, eV_cat, cat_i, cat_l]]; exact Nat.le_of_ble_eq_true rfl)
  rw [lg_entry_eq]
  generalize (lg_sl ([eV (ad 9) x, .int cc]) ++ List.replicate (2 - (lg_sl ([eV (ad 9) x, .int cc])).length) Slot.unset).toArray = ls at hl ⊢
  have hl : lv_has ls 2 [(0, eV (ad 9) x), (1, .int cc)] := by simp [lv_args, eV_cat, cat_i, cat_l] at hl; exact hl
  have hj12 : ∀ (_ : iv 0 79 x) (_ : iv 10 32 cc) (_ : isWc cc.toInt) (H : Heap) (locs : List Loc) (ls : Array Slot), va_P (dC, dI) vwCl (cW ad cid a2 lx sg gm lg) H → va_D A (cW ad cid a2 lx sg gm lg) → va_S A s.heap H locs → lv_has ls 2 [(0, eV (ad 9) x), (1, .int cc)] → W p l e (headSpec wm_X3_takesText ({ frames := 1, cells := 1, slots := 6, locals := 21 })).room s m ([eV (ad 9) x, .int cc] : List Value).toArray below meth c H locs 0 0 (vx_MQ below (cQx dC dI ad cid a2 lx (fun v u => ∃ r : Int32, v = some (.int r) ∧ ∃ (sg2 : Nat → Int32) (gm2 : Nat → Nat → Int32) (lg2 : Nat → Nat → Int64), u = (sg2, gm2, lg2) ∧ CI sg2 gm2 ∧ KS [] sg sg2 ∧ KS [11, 12, 56] gm gm2 ∧ KS [] lg lg2 ∧ (iv 0 1 r) ∧ (UB 12 (K9 + 1) gm2) ∧ ((r.toInt = 0 ∧ sTx (gm 11 x.toNatClampNeg).toInt.toNat (gm 12 x.toNatClampNeg).toInt.toNat cc.toInt = none) ∨ (r.toInt = 1 ∧ sTx (gm 11 x.toNatClampNeg).toInt.toNat (gm 12 x.toNatClampNeg).toInt.toNat cc.toInt = some ((gm2 11 x.toNatClampNeg).toInt.toNat, (gm2 12 x.toNatClampNeg).toInt.toNat) ∧ ∀ j, j ≠ x.toNatClampNeg → gm2 11 j = gm 11 j ∧ gm2 12 j = gm 12 j))) A) (cX dC dI ad cid a2 lx (fun _ _ => False) A) ([eV (ad 9) x, .int cc] : List Value).toArray s 1 6 A) (F0 m 12 ls []) := by
    intro  hsx0_12 hsx1_12 w12 H locs ls hP hD hS hl
    refine ec_aload_n hx hb dX3_takesText_12 rfl (lv_at hl 0 rfl) ?_
    refine lv_iload_n hx hb dX3_takesText_13 rfl (lv_at hl 1 rfl) ?_
    refine cm_callV (t := 9) (C := RX3) (T := TX3) (N := 21) (rest := []) (as := [.int cc]) ⟨hx, hb, hml, hown, htb⟩ (d_takeWhite2 l dC dI ad cid a2 lx sg gm lg x cc K9 hI hsx0_12 (iv_w hsx1_12 (by decide)) hU12 hU18 hK9) (cwV 1 htb (gd_V kw_485 kw_486 kw_487 kw_66 kw_1453) rfl rfl rfl (by decide +kernel) ⟨Nat.le_of_ble_eq_true rfl, Nat.le_of_ble_eq_true rfl⟩) hsx0_12 (by decide) (by decide) rfl rfl hl.1 rfl (Nat.le_trans cs_n (by decide)) dX3_takesText_14 ⟨Nat.le_of_ble_eq_true rfl, Nat.le_of_ble_eq_true rfl⟩ hK hP hD hS hA hG (fun E ce q9 u_2 H locs hw hP hD hS hce hcv hcl => ?_) (fun v9 u_2 H locs hw hP hD hS => ?_)
    · exact hw.elim
    obtain ⟨rfl, sgv_3, gmv_3, lgv_3, rfl, hIv_3, ksv_3, kgv_3, klv_3, fU_r_1, fT_r_1⟩ := hw
    obtain rfl := KS_nil ksv_3
    obtain rfl := KS_nil klv_3
    have hP : va_P (dC, dI) vwCl (cW ad cid a2 lx sg gmv_3 lg) H := hP
    have hD : va_D A (cW ad cid a2 lx sg gmv_3 lg) := hD
    refine W.eq (g2 := F0 m 17 ls []) rfl ?_
    refine lv_iconst (v := 1) hx hb dX3_takesText_17 (by decide) ?_
    exact W.nb (fun hN => W.widen (k := 1) (n := 6) (by decide) (by decide) (vx_ret (W.zret (v := 1) hx hb hr (iv_nb (iv_w (iv_k (by decide) : iv 1 1 1) (by decide))) (fun t ht hW => ⟨⟨some (.int 1), (sg, gmv_3, lg), rfl, ⟨1, rfl, sg, gmv_3, lg, rfl, hIv_3, KS_rf, (KS_tr (L := [11, 12, 56]) KS_rf kgv_3 (by decide)), KS_rf, (iv_w (iv_k (by decide) : iv 1 1 1) (by decide)), (fU_r_1), ((by have w9 : isWc cc.toInt := w12; obtain ⟨f1, f2⟩ := fT_r_1; refine Or.inr ⟨rfl, ?_, ?_⟩; (rw [sTx_w w9, f1]; rcases f2 with ⟨g1, g2⟩ | ⟨g1, z, g2, g3⟩; (rw [g2, if_pos (by omega)]); (rw [g3, upd_at, if_neg (by have := (show iv 0 24 (gm 11 x.toNatClampNeg) from CI_a hI 11 hvx (by decide)).1; have := (show iv 0 2000000 (gm 12 x.toNatClampNeg) from CI_a hI 12 hvx (by decide)).1; omega)]; congr 2; have := (show iv 0 24 (gm 11 x.toNatClampNeg) from CI_a hI 11 hvx (by decide)).1; have := (show iv 0 2000000 (gm 12 x.toNatClampNeg) from CI_a hI 12 hvx (by decide)).1; omega)); (intro j hj; rw [f1]; rcases f2 with ⟨g1, g2⟩ | ⟨g1, z, g2, g3⟩; (rw [g2]; exact ⟨rfl, rfl⟩); (rw [g3]; exact ⟨rfl, upd_ne hj⟩))))⟩, by rw [ht]; exact hP, va_K.moved hW.alike hK, hD⟩, hS.F ht, by rw [ht]; exact hN⟩) hS.2.2 dX3_takesText_18)))
  refine lv_iload_n hx hb dX3_takesText_0 rfl (lv_at hl 1 rfl) ?_
  refine lv_bipush (v := 10) hx hb dX3_takesText_1 (by decide) ?_
  refine lv_icmp_eq (tgt := 12) hx hb dX3_takesText_3 (by decide) (fun c_4 => ?_) (fun c_4 => ?_)
  · have h_5 : iv 10 10 cc := iv_eq c_4 hvcc (iv_k (by decide) : iv 10 10 10) (by decide)
    exact hj12 hvx (iv_w h_5 (by decide)) (by have := i32_0; have := i32_1; have := i32_2; have := i32_m1; have := (hvx).1; have := (hvx).2; have := (h_5).1; have := (h_5).2; omega) _ _ _ hP hD hS (lv_sub hl [0, 1] rfl)
  · have d_6 : ¬ (cc : Int32).toInt = 10 := lv_neT c_4 rfl
    refine lv_iload_n hx hb dX3_takesText_6 rfl (lv_at hl 1 rfl) ?_
    refine lv_bipush (v := 32) hx hb dX3_takesText_7 (by decide) ?_
    refine lv_icmp_ne (tgt := 19) hx hb dX3_takesText_9 (by decide) (fun c_7 => ?_) (fun c_7 => ?_)
    · have d_8 : ¬ (cc : Int32).toInt = 32 := lv_neT c_7 rfl
      refine ec_aload_n hx hb dX3_takesText_19 rfl (lv_at hl 0 rfl) ?_
      refine cr_get (t := 9) (j := 2) (C := RX3) (T := TX3) (N := 21) (v := .int (gm 12 x.toNatClampNeg)) hx hb htb inX3 hown hK hP hvx (by decide) (by decide) (by decide) rfl (by decide) (htb _ kw_382) rfl dX3_takesText_20 ?_
      obtain ⟨z_9, ez_9⟩ : ∃ z : Int32, z = (gm 12 x.toNatClampNeg) := ⟨_, rfl⟩
      refine W.eq (g2 := F0 m 23 ls [.int z_9]) (by rw [ez_9]) ?_
      have hz_9 : iv 0 2000000 z_9 := iv_of ez_9 (CI_a hI 12 hvx (by decide))
      refine lv_bipush (v := 24) hx hb dX3_takesText_23 (by decide) ?_
      refine lv_icmp_lt (tgt := 30) hx hb dX3_takesText_25 (by decide) (fun c_10 => ?_) (fun c_10 => ?_)
      · have h_11 : iv 0 23 z_9 := iv_ltL c_10 hz_9 (iv_k (by decide) : iv 24 24 24) (by decide)
        refine ec_aload_n hx hb dX3_takesText_30 rfl (lv_at hl 0 rfl) ?_
        refine cr_get (t := 9) (j := 0) (C := RX3) (T := TX3) (N := 21) (v := eV (ad 31) x) hx hb htb inX3 hown hK hP hvx (by decide) (by decide) (by decide) rfl (by decide) (htb _ kw_74) (cV_c rfl (hvx).1 (by rw [show cMu 9 0 = 1 from rfl, Nat.one_mul]; rfl)) dX3_takesText_31 ?_
        refine ec_aload_n hx hb dX3_takesText_34 rfl (lv_at hl 0 rfl) ?_
        refine cr_get (t := 9) (j := 2) (C := RX3) (T := TX3) (N := 21) (v := .int (gm 12 x.toNatClampNeg)) hx hb htb inX3 hown hK hP hvx (by decide) (by decide) (by decide) rfl (by decide) (htb _ kw_382) rfl dX3_takesText_35 ?_
        refine W.eq (g2 := F0 m 38 ls [.int z_9, eV (ad 31) x]) (by rw [show (gm 12 x.toNatClampNeg) = z_9 from ez_9.symm]) ?_
        refine lv_iload_n hx hb dX3_takesText_38 rfl (lv_at hl 1 rfl) ?_
        refine cr_cast (t := 31) (k := 56) (n9 := (24 * x.toNatClampNeg + (z_9 : Int32).toNatClampNeg)) (z := cc) hx hb hK hP hD hS hvx (by decide) (by decide) (by decide) rfl rfl rfl (show vp_in z_9 (cLen 31) from (show vp_in z_9 24 from (iv_in h_11 (by decide)))) (Or.inr (vin_lt (show vp_in z_9 (cLen 31) from (show vp_in z_9 24 from (iv_in h_11 (by decide)))))) rfl dX3_takesText_39 (fun gm_12 H locs egm_12 hP hD hS => ?_)
        rw [vnc hvcc] at egm_12
        have hI_gm_12 := CI_st hI egm_12 hvcc (by decide)
        refine ec_aload_n hx hb dX3_takesText_40 rfl (lv_at hl 0 rfl) ?_
        refine lv_dup hx hb dX3_takesText_41 (eV_cat _ _) ?_
        refine cr_get (t := 9) (j := 2) (C := RX3) (T := TX3) (N := 21) (v := .int (gm_12 12 x.toNatClampNeg)) hx hb htb inX3 hown hK hP hvx (by decide) (by decide) (by decide) rfl (by decide) (htb _ kw_382) rfl dX3_takesText_42 ?_
        refine W.eq (g2 := F0 m 45 ls [.int z_9, eV (ad 9) x]) (by rw [show (gm_12 12 x.toNatClampNeg) = z_9 from (Eq.trans (congrFun (up_ne egm_12 (by decide)) _) ez_9.symm)]) ?_
        refine lv_iconst (v := 1) hx hb dX3_takesText_45 (by decide) ?_
        refine lv_iadd hx hb dX3_takesText_46 ?_
        refine lv_topi (fun z_13 ez_13 => ?_)
        have hz_13 : iv 1 24 z_13 := iv_of ez_13 (iv_add h_11 (iv_k (by decide) : iv 1 1 1) (by decide))
        have tz_13 : z_13.toInt = (z_9 : Int32).toInt + 1 := by rw [ez_13]; exact iv_addE h_11 (iv_k (by decide) : iv 1 1 1) (by decide)
        refine cr_putg (t := 9) (j := 2) (C := RX3) (T := TX3) (N := 21) (ty0 := tyX3) (k := 12) (y := z_13) hx hb htb inX3 tyX3_ok nmX3 hown hK hP hD hS hvx (by decide) (by decide) (by decide) (by decide) rfl rfl (by decide) (htb _ kw_382) rfl (by show Value.int z_13 = Value.int (va_up gm_12 12 (upd (gm_12 12) x.toNatClampNeg z_13) 12 x.toNatClampNeg); rw [va_up_self, upd_at]) rfl rfl dX3_takesText_47 (fun gm_14 H locs egm_14 hP hD hS => ?_)
        have hI_gm_14 := CI_st hI_gm_12 egm_14 hz_13 (by decide)
        refine ec_aload_n hx hb dX3_takesText_50 rfl (lv_at hl 0 rfl) ?_
        refine ec_aload_n hx hb dX3_takesText_51 rfl (lv_at hl 0 rfl) ?_
        refine cr_get (t := 9) (j := 2) (C := RX3) (T := TX3) (N := 21) (v := .int (gm_14 12 x.toNatClampNeg)) hx hb htb inX3 hown hK hP hvx (by decide) (by decide) (by decide) rfl (by decide) (htb _ kw_382) rfl dX3_takesText_52 ?_
        refine W.eq (g2 := F0 m 55 ls [.int z_13, eV (ad 9) x]) (by rw [show (gm_14 12 x.toNatClampNeg) = z_13 from (Eq.trans (congrFun (up_at egm_14) _) upd_at)]) ?_
        refine cr_putg (t := 9) (j := 1) (C := RX3) (T := TX3) (N := 21) (ty0 := tyX3) (k := 11) (y := z_13) hx hb htb inX3 tyX3_ok nmX3 hown hK hP hD hS hvx (by decide) (by decide) (by decide) (by decide) rfl rfl (by decide) (htb _ kw_381) rfl (by show Value.int z_13 = Value.int (va_up gm_14 11 (upd (gm_14 11) x.toNatClampNeg z_13) 11 x.toNatClampNeg); rw [va_up_self, upd_at]) rfl rfl dX3_takesText_55 (fun gm_15 H locs egm_15 hP hD hS => ?_)
        have hI_gm_15 := CI_st hI_gm_14 egm_15 hz_13 (by decide)
        refine lv_iconst (v := 1) hx hb dX3_takesText_58 (by decide) ?_
        exact W.nb (fun hN => W.widen (k := 1) (n := 6) (by decide) (by decide) (vx_ret (W.zret (v := 1) hx hb hr (iv_nb (iv_w (iv_k (by decide) : iv 1 1 1) (by decide))) (fun t ht hW => ⟨⟨some (.int 1), (sg, gm_15, lg), rfl, ⟨1, rfl, sg, gm_15, lg, rfl, hI_gm_15, KS_rf, (KS_up (KS_up (KS_up KS_rf egm_12 (by decide)) egm_14 (by decide)) egm_15 (by decide)), KS_rf, (iv_w (iv_k (by decide) : iv 1 1 1) (by decide)), (UB_u hU12 (show gm_15 12 = upd (gm 12) (x : Int32).toNatClampNeg z_13 from ((up_ne egm_15 (by decide)).trans ((up_at egm_14).trans (by rw [show gm_12 12 = gm 12 from ((up_ne egm_12 (by decide)).trans rfl)])))) (by omega) (by have := tz_13; have q9 := hU12 x.toNatClampNeg (by have q1 := iv_cl hvx (by decide); have q2 := (hvx).2; omega); rw [← ez_9] at q9; omega)), ((by have q1 : gm_15 12 x.toNatClampNeg = z_13 := (by rw [(show gm_15 12 = upd (gm 12) (x : Int32).toNatClampNeg z_13 from ((up_ne egm_15 (by decide)).trans ((up_at egm_14).trans (by rw [show gm_12 12 = gm 12 from ((up_ne egm_12 (by decide)).trans rfl)])))), upd_at]); have q2 : gm_15 11 x.toNatClampNeg = z_13 := (by rw [(show gm_15 11 = upd (gm 11) (x : Int32).toNatClampNeg z_13 from ((up_at egm_15).trans (by rw [show gm_14 11 = gm 11 from ((up_ne egm_14 (by decide)).trans ((up_ne egm_12 (by decide)).trans rfl))]))), upd_at]); refine Or.inr ⟨rfl, ?_, fun j hj => ⟨by rw [(show gm_15 11 = upd (gm 11) (x : Int32).toNatClampNeg z_13 from ((up_at egm_15).trans (by rw [show gm_14 11 = gm 11 from ((up_ne egm_14 (by decide)).trans ((up_ne egm_12 (by decide)).trans rfl))])))]; exact upd_ne hj, by rw [(show gm_15 12 = upd (gm 12) (x : Int32).toNatClampNeg z_13 from ((up_ne egm_15 (by decide)).trans ((up_at egm_14).trans (by rw [show gm_12 12 = gm 12 from ((up_ne egm_12 (by decide)).trans rfl)]))))]; exact upd_ne hj⟩⟩; rw [sTx_s (show ¬ isWc cc.toInt from (by have := i32_0; have := i32_1; have := i32_2; have := i32_m1; have := (hvx).1; have := (hvx).2; have := (hvcc).1; have := (hvcc).2; have := (h_11).1; have := (h_11).2; have := (hz_13).1; have := (hz_13).2; have n0 : ¬ (cc : Int32).toInt = (10 : Int32).toInt := fun q => c_4 (Int32.toInt_inj.mp q); have : (10 : Int32).toInt = 10 := (by decide); have n1 : ¬ (cc : Int32).toInt = (32 : Int32).toInt := fun q => c_7 (Int32.toInt_inj.mp q); have : (32 : Int32).toInt = 32 := (by decide); omega)) (by have := i32_0; have := i32_1; have := i32_2; have := i32_m1; have := (hvx).1; have := (hvx).2; have := (hvcc).1; have := (hvcc).2; have := (h_11).1; have := (h_11).2; have := (hz_13).1; have := (hz_13).2; have := congrArg Int32.toInt ez_9; have := (show iv 0 24 (gm 11 x.toNatClampNeg) from CI_a hI 11 hvx (by decide)).1; have := (show iv 0 2000000 (gm 12 x.toNatClampNeg) from CI_a hI 12 hvx (by decide)).1; omega), q1, q2]; have := tz_13; have := congrArg Int32.toInt ez_9; have := (show iv 0 24 (gm 11 x.toNatClampNeg) from CI_a hI 11 hvx (by decide)).1; have := (show iv 0 2000000 (gm 12 x.toNatClampNeg) from CI_a hI 12 hvx (by decide)).1; congr 2 <;> omega))⟩, by rw [ht]; exact hP, va_K.moved hW.alike hK, hD⟩, hS.F ht, by rw [ht]; exact hN⟩) hS.2.2 dX3_takesText_59)))
      · have h_16 : iv 24 2000000 z_9 := iv_leR (i32_ge c_10) (iv_k (by decide) : iv 24 24 24) hz_9 (by decide)
        refine lv_iconst (v := 0) hx hb dX3_takesText_28 (by decide) ?_
        exact W.nb (fun hN => W.widen (k := 1) (n := 6) (by decide) (by decide) (vx_ret (W.zret (v := 0) hx hb hr (iv_nb (iv_w (iv_k (by decide) : iv 0 0 0) (by decide))) (fun t ht hW => ⟨⟨some (.int 0), (sg, gm, lg), rfl, ⟨0, rfl, sg, gm, lg, rfl, hI, KS_rf, KS_rf, KS_rf, (iv_w (iv_k (by decide) : iv 0 0 0) (by decide)), (UB_k hU12 rfl (by omega)), (Or.inl ⟨rfl, sTx_n (show ¬ isWc cc.toInt from (by have := i32_0; have := i32_1; have := i32_2; have := i32_m1; have := (hvx).1; have := (hvx).2; have := (hvcc).1; have := (hvcc).2; have := (h_16).1; have := (h_16).2; have n0 : ¬ (cc : Int32).toInt = (10 : Int32).toInt := fun q => c_4 (Int32.toInt_inj.mp q); have : (10 : Int32).toInt = 10 := (by decide); have n1 : ¬ (cc : Int32).toInt = (32 : Int32).toInt := fun q => c_7 (Int32.toInt_inj.mp q); have : (32 : Int32).toInt = 32 := (by decide); omega)) (by have := i32_0; have := i32_1; have := i32_2; have := i32_m1; have := (hvx).1; have := (hvx).2; have := (hvcc).1; have := (hvcc).2; have := (h_16).1; have := (h_16).2; have := congrArg Int32.toInt ez_9; have := (show iv 0 24 (gm 11 x.toNatClampNeg) from CI_a hI 11 hvx (by decide)).1; have := (show iv 0 2000000 (gm 12 x.toNatClampNeg) from CI_a hI 12 hvx (by decide)).1; omega)⟩)⟩, by rw [ht]; exact hP, va_K.moved hW.alike hK, hD⟩, hS.F ht, by rw [ht]; exact hN⟩) hS.2.2 dX3_takesText_29)))
    · have h_17 : iv 32 32 cc := iv_eq c_7 hvcc (iv_k (by decide) : iv 32 32 32) (by decide)
      exact hj12 hvx (iv_w h_17 (by decide)) (by have := i32_0; have := i32_1; have := i32_2; have := i32_m1; have := (hvx).1; have := (hvx).2; have := (h_17).1; have := (h_17).2; omega) _ _ _ hP hD hS (lv_sub hl [0, 1] rfl)
