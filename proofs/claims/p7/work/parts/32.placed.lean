def ARGN (sg : Nat → Int32) (gm : Nat → Nat → Int32) (lg : Nat → Nat → Int64) (b : Int32) (m : Nat) : Prop := ∀ k, 0 ≤ k → k < m → ¬ mArg sg gm lg b k = -1
theorem ARGN_k {sg sg2 : Nat → Int32} {gm gm2 : Nat → Nat → Int32} {lg lg2 : Nat → Nat → Int64} {b : Int32} {m : Nat} (h : DK sg gm lg sg2 gm2 lg2) (q : ARGN sg gm lg b m) : ARGN sg2 gm2 lg2 b m := fun k h0 hk => by rw [mArg_k h]; exact q k h0 hk
theorem ARGN_r {sg sg2 : Nat → Int32} {gm gm2 : Nat → Nat → Int32} {lg lg2 : Nat → Nat → Int64} {b : Int32} {m : Nat} (h : DK sg gm lg sg2 gm2 lg2) (q : ARGN sg2 gm2 lg2 b m) : ARGN sg gm lg b m := fun k h0 hk => by rw [← mArg_k h]; exact q k h0 hk
def nAt (sg : Nat → Int32) (gm : Nat → Nat → Int32) (lg : Nat → Nat → Int64) (b : Int32) : Nat → Nat
  | 0 => 0
  | k + 1 => nAt sg gm lg b k + (if mHas gm lg (mArg sg gm lg b k).toNatClampNeg 24948 = 0 then 0 else 1)
theorem nAt_y {sg : Nat → Int32} {gm : Nat → Nat → Int32} {lg : Nat → Nat → Int64} {b : Int32} {k : Nat} (h : ¬ mHas gm lg (mArg sg gm lg b k).toNatClampNeg 24948 = 0) : nAt sg gm lg b (k + 1) = nAt sg gm lg b k + 1 := by
  show _ + _ = _; rw [if_neg h]
theorem nAt_n {sg : Nat → Int32} {gm : Nat → Nat → Int32} {lg : Nat → Nat → Int64} {b : Int32} {k : Nat} (h : mHas gm lg (mArg sg gm lg b k).toNatClampNeg 24948 = 0) : nAt sg gm lg b (k + 1) = nAt sg gm lg b k := by
  show _ + _ = _; rw [if_pos h]; rfl
theorem nAt_le {sg : Nat → Int32} {gm : Nat → Nat → Int32} {lg : Nat → Nat → Int64} {b : Int32} (j : Nat) : ∀ k, j ≤ k → nAt sg gm lg b k ≤ nAt sg gm lg b j + (k - j) := by
  intro k
  induction k with
  | zero => intro h; have h0 : j = 0 := by omega
            subst h0; exact Nat.le_refl _
  | succ k ih =>
    intro h
    by_cases hj : j = k + 1
    · subst hj; omega
    · have h1 := ih (by omega)
      by_cases q : mHas gm lg (mArg sg gm lg b k).toNatClampNeg 24948 = 0
      · rw [nAt_n q]; omega
      · rw [nAt_y q]; omega
def cF (f : Nat → Int32) : Nat → Nat
  | 0 => 0
  | k + 1 => cF f k + (if f k = -1 then 0 else 1)
theorem cF_s0 {f : Nat → Int32} {k : Nat} (h : f k = -1) : cF f (k + 1) = cF f k := by show _ + _ = _; rw [if_pos h]; rfl
theorem cF_s1 {f : Nat → Int32} {k : Nat} (h : ¬ f k = -1) : cF f (k + 1) = cF f k + 1 := by show _ + _ = _; rw [if_neg h]
theorem cF_le (f : Nat → Int32) : ∀ k, cF f k ≤ k := by
  intro k
  induction k with
  | zero => exact Nat.le_refl 0
  | succ k ih =>
    by_cases q : f k = -1
    · rw [cF_s0 q]; omega
    · rw [cF_s1 q]; omega
theorem cF_0 {f : Nat → Int32} : ∀ k, (∀ q, 0 ≤ q → q < k → f q = -1) → cF f k = 0 := by
  intro k
  induction k with
  | zero => intro _; rfl
  | succ k ih => intro h; rw [cF_s0 (h k (Nat.zero_le _) (by omega))]; exact ih (fun q q0 hq => h q q0 (by omega))
theorem cF_ge {f : Nat → Int32} {p9 : Nat} (h : ∀ q, 0 ≤ q → q < p9 → ¬ f q = -1) : ∀ k, p9 ≤ k → p9 ≤ cF f k := by
  have h1 : ∀ k, k ≤ p9 → cF f k = k := by
    intro k
    induction k with
    | zero => intro _; rfl
    | succ k ih => intro hk; rw [cF_s1 (h k (Nat.zero_le _) (by omega)), ih (by omega)]
  intro k
  induction k with
  | zero => intro hk; omega
  | succ k ih =>
    intro hk
    by_cases e9 : p9 = k + 1
    · rw [← e9, h1 p9 (Nat.le_refl _)]; exact Nat.le_refl _
    · have h2 := ih (by omega)
      by_cases q : f k = -1
      · rw [cF_s0 q]; exact h2
      · rw [cF_s1 q]; omega
theorem cF_ne {f f2 : Nat → Int32} : ∀ k, (∀ j, j < k → f2 j = f j) → cF f2 k = cF f k := by
  intro k
  induction k with
  | zero => intro _; rfl
  | succ k ih =>
    intro h
    by_cases q : f k = -1
    · rw [cF_s0 q, cF_s0 (by rw [h k (by omega)]; exact q)]; exact ih (fun j hj => h j (by omega))
    · rw [cF_s1 q, cF_s1 (by rw [h k (by omega)]; exact q), ih (fun j hj => h j (by omega))]
theorem cF_upd {f f2 : Nat → Int32} {i : Nat} {v : Int32} (h : f2 = upd f i v) (hv : ¬ v = -1) (hi : f i = -1) : ∀ k, i < k → cF f2 k = cF f k + 1 := by
  intro k
  induction k with
  | zero => intro q; omega
  | succ k ih =>
    intro hk
    by_cases e9 : i = k
    · subst e9
      rw [cF_s0 hi, cF_s1 (by rw [h, upd_at]; exact hv), cF_ne i (fun j hj => by rw [h, upd_ne (by omega)])]
    · have h1 := ih (by omega)
      have h2 : f2 k = f k := by rw [h, upd_ne (fun q => e9 q.symm)]
      by_cases q : f k = -1
      · rw [cF_s0 q, cF_s0 (by rw [h2]; exact q)]; exact h1
      · rw [cF_s1 q, cF_s1 (by rw [h2]; exact q), h1]
theorem cF_all {f : Nat → Int32} : ∀ k, cF f k = k → ∀ j, j < k → ¬ f j = -1 := by
  intro k
  induction k with
  | zero => intro _ j hj; omega
  | succ k ih =>
    intro h j hj
    have h1 := cF_le f k
    by_cases q : f k = -1
    · rw [cF_s0 q] at h; omega
    · rw [cF_s1 q] at h
      by_cases e9 : j = k
      · subst e9; exact q
      · exact ih (by omega) j (by omega)
/-- the spots: free, or one of the first n that holds one of the n -/
def SPo (f : Nat → Int32) (n : Nat) : Prop := ∀ q, q < 4 → f q = -1 ∨ (q < n ∧ 0 ≤ (f q).toInt ∧ (f q).toInt < (n : Int))
def SPF (f : Nat → Int32) (n : Nat) : Prop := ∀ q, q < n → 0 ≤ (f q).toInt ∧ (f q).toInt < (n : Int)
theorem SPo_0 {f : Nat → Int32} {n : Nat} {x : Int32} (hx : iv 4 4 x) (h : ∀ q, 0 ≤ q → q < x.toNatClampNeg → f q = -1) : SPo f n ∧ cF f 4 = 0 := by
  have k1 := iv_cl hx (by decide)
  have k2 := hx.1
  have h2 : ∀ q, 0 ≤ q → q < 4 → f q = -1 := fun q q0 hq => h q q0 (by omega)
  exact ⟨fun q hq => Or.inl (h2 q (Nat.zero_le _) hq), cF_0 4 h2⟩
theorem SPo_u {f f2 : Nat → Int32} {n i : Nat} {v : Int32} (h : SPo f n) (h2 : f2 = upd f i v) (hi : i < n) (v0 : 0 ≤ v.toInt) (v1 : v.toInt < (n : Int)) : SPo f2 n := by
  intro q hq
  by_cases e9 : q = i
  · subst e9; rw [h2, upd_at]; exact Or.inr ⟨hi, v0, v1⟩
  · rw [h2, upd_ne e9]; exact h q hq
theorem SPo_full {f : Nat → Int32} {n : Nat} (hn : n ≤ 4) (h : SPo f n) (hc : cF f 4 = n) : SPF f n := by
  have h1 : ∀ k, n ≤ k → k ≤ 4 → cF f k = cF f n := by
    intro k
    induction k with
    | zero => intro q _; have h0 : n = 0 := by omega
              subst h0; rfl
    | succ k ih =>
      intro q1 q2
      by_cases e9 : n = k + 1
      · rw [e9]
      · have h2 := ih (by omega) (by omega)
        rcases h k (by omega) with q | q
        · rw [cF_s0 q]; exact h2
        · omega
  have h3 := h1 4 hn (Nat.le_refl 4)
  intro q hq
  have h4 := cF_all n (h3.symm.trans hc) q hq
  rcases h q (by omega) with q5 | q5
  · exact absurd q5 h4
  · exact q5.2
theorem at_iv {w : Int64} {z z2 : Int32} (h : 48 ≤ w.toInt ∧ w.toInt ≤ 50) (e1 : z = w.toInt32) (e2 : z2 = z - 48) : iv 0 2 z2 := by
  have h1 : z.toInt = w.toInt := by rw [e1, Int64.toInt_toInt32, i32_bm ⟨by omega, by omega⟩]
  have h2 : (48 : Int32).toInt = 48 := rfl
  have h3 : z2.toInt = z.toInt - 48 := by rw [e2, Int32.toInt_sub, h2, i32_bm ⟨by omega, by omega⟩]
  exact ⟨by omega, by omega⟩
theorem arg_el {sg : Nat → Int32} {gm : Nat → Nat → Int32} {lg : Nat → Nat → Int64} {b r : Int32} {n : Nat} (hn : iv 0 80 (sg 24)) (hr : r = mArg sg gm lg b n) (h : ¬ mArg sg gm lg b n = -1) : iv 0 79 r ∧ r.toNatClampNeg < (sg 24).toNatClampNeg ∧ gm 26 r.toNatClampNeg = 4 := by
  obtain ⟨i1, i2, i3, i4, i5⟩ := argF_ok hn n h
  rw [hr]
  exact ⟨iv_w i1 (by decide), i2, i4⟩
theorem arg_at {sg : Nat → Int32} {gm : Nat → Nat → Int32} {lg : Nat → Nat → Int64} {r : Int32} (hs : STR sg gm lg) (h1 : r.toNatClampNeg < (sg 24).toNatClampNeg) (h2 : gm 26 r.toNatClampNeg = 4) (hh : ¬ mHas gm lg r.toNatClampNeg 24948 = 0) : 48 ≤ (mWord gm lg r.toNatClampNeg 24948).toInt ∧ (mWord gm lg r.toNatClampNeg 24948).toInt ≤ 50 :=
  ((hs.1 _ h1).2.1 (by rw [h2]; rfl)).2.resolve_left hh
/-- the maker or factory i can take the arguments of b -/
def CHO (sg : Nat → Int32) (gm : Nat → Nat → Int32) (lg : Nat → Nat → Int64) (b cs c i : Int32) : Prop := iv 0 31 i ∧ 0 ≤ c.toInt ∧ (¬ cs = 0 → ARGN sg gm lg b (gm 8 i.toNatClampNeg).toNatClampNeg) ∧ (cs = 0 → ARGN sg gm lg b (gm 16 i.toNatClampNeg).toNatClampNeg)

set_option maxHeartbeats 4000000 in
set_option maxRecDepth 100000 in
theorem f_placed (l : Launch) (dC : Nat → ClassId) (dI : Nat → Nat → Nat) (h0 : Nat) (ad : Nat → Nat) (cid : Nat → ClassId) (sg : Nat → Int32) (gm : Nat → Nat → Int32) (lg : Nat → Nat → Int64) (b : Int32) (nx : Int32) (hI : MI sg gm) (hvb : iv 0 79 b) (hvnx : iv 0 3 nx) (hbl : b.toInt < (sg 41).toInt) (hac : ACY sg gm lg) (hst : STR sg gm lg) (han : ARGN sg gm lg b nx.toNatClampNeg) : MMi l dC dI yX13_placed wm_X13_placed ({ frames := 6, cells := 0, slots := 0, locals := 142 }) h0 ad cid [.int b, .int nx] sg gm lg (fun r v => ∃ (sg2 : Nat → Int32) (gm2 : Nat → Nat → Int32) (lg2 : Nat → Nat → Int64), v = (sg2, gm2, lg2) ∧ MI sg2 gm2 ∧ KS [] sg sg2 ∧ KS [75] gm gm2 ∧ KS [] lg lg2 ∧ (iv 0 1 r) ∧ (r.toInt = 0 ∨ SPF (gm2 75) nx.toNatClampNeg)) := by
  intro sz
  refine Met.ofW (cc := cX13_placed) (maxL := 6) (ret := (some .boolean)) (by decide) rfl ?_
  intro p e s m args below meth c s₁ B hml hv
  obtain ⟨rfl, hsz, hP, hK, hD0⟩ := hv
  have hx := B.exec
  have hb := B.bytes
  have hr := B.returns
  have hts := atoms_spec (ws := wm_X13_placed) B.pre
  have htb := fun (w : Cond) (h : w ∈ tb) => hts w (List.mem_cons_of_mem _ h)
  have hown : s.vm.findClass RX13 = some m.cls := findClass_of_methodNamed B.named
  have hlocks := B.notSynchronized
  subst hsz
  have hD := hD0.self (sz := s.heap.size)
  generalize hAe : va_A (mW h0 ad cid sg gm lg) s.heap.size = A at hD ⊢
  have hA : ∀ q : Nat, s.heap.size ≤ q → A q := fun q h => by rw [← hAe]; exact Or.inr h
  have hS : va_S A s.heap s.heap [] := va_S.rf
  have hl := lv_entry ([.ref h0, .int b, .int nx]) (n := 6) (Nat.le_of_ble_eq_true rfl)
  rw [lg_entry_eq]
  generalize (lg_sl ([.ref h0, .int b, .int nx]) ++ List.replicate (6 - (lg_sl ([.ref h0, .int b, .int nx])).length) Slot.unset).toArray = ls at hl ⊢
  have hl : lv_has ls 6 [(0, .ref h0), (1, .int b), (2, .int nx)] := hl
  have hj103 : ∀ (n : Nat) (gm_j103 : Nat → Nat → Int32) (x4_103 : Int32) (x3_103 : Int32) (_ : (3 - x4_103.toInt).toNat = n) (_ : iv 0 3 x4_103) (_ : iv 0 3 x3_103) (_ : iv 0 79 b) (_ : iv 0 3 nx) (_ : KS [75] gm gm_j103) (_ : MI sg gm_j103) (_ : SPo (gm_j103 75) nx.toNatClampNeg) (_ : cF (gm_j103 75) 4 + nAt sg gm lg b x4_103.toNatClampNeg = nAt sg gm lg b nx.toNatClampNeg + x4_103.toNatClampNeg) (_ : ∀ q9, 0 ≤ q9 → q9 < x3_103.toNatClampNeg → ¬ gm_j103 75 q9 = -1) (_ : x4_103.toInt ≤ nx.toInt) (H : Heap) (locs : List Loc) (ls : Array Slot), va_P (dC, dI) vwCl (mW h0 ad cid sg gm_j103 lg) H → va_D A (mW h0 ad cid sg gm_j103 lg) → va_S A s.heap H locs → lv_has ls 6 [(4, .int x4_103), (3, .int x3_103), (0, .ref h0), (1, .int b), (2, .int nx)] → W p l e (headSpec wm_X13_placed ({ frames := 6, cells := 0, slots := 0, locals := 142 })).room s m ([.ref h0, .int b, .int nx] : List Value).toArray below meth c H locs 0 0 (MQ below (va_Qi (fun r v => ∃ (sg2 : Nat → Int32) (gm2 : Nat → Nat → Int32) (lg2 : Nat → Nat → Int64), v = (sg2, gm2, lg2) ∧ MI sg2 gm2 ∧ KS [] sg sg2 ∧ KS [75] gm gm2 ∧ KS [] lg lg2 ∧ (iv 0 1 r) ∧ (r.toInt = 0 ∨ SPF (gm2 75) nx.toNatClampNeg)) (MB dC dI h0 ad cid A) A) ([.ref h0, .int b, .int nx] : List Value).toArray s 0 0 A) (F0 m 103 ls []) := by
    intro n
    induction n using Nat.strongRecOn with
    | ind n ih103 =>
      intro gm_j103 x4_103 x3_103 hn103 hx4_103 hx3_103 hsx1_103 hsx2_103 hkg_j103 hI_j103 hsp hcf hpf hl4 H locs ls hP hD hS hl
      have hj153 : ∀ (gm_j153 : Nat → Nat → Int32) (x3_153 : Int32) (_ : iv 0 2 x4_103) (_ : iv 0 3 x3_153) (_ : iv 0 79 b) (_ : iv 1 3 nx) (_ : KS [75] gm gm_j153) (_ : MI sg gm_j153) (_ : SPo (gm_j153 75) nx.toNatClampNeg) (_ : cF (gm_j153 75) 4 + nAt sg gm lg b (x4_103.toNatClampNeg + 1) = nAt sg gm lg b nx.toNatClampNeg + (x4_103.toNatClampNeg + 1)) (_ : ∀ q9, 0 ≤ q9 → q9 < x3_153.toNatClampNeg → ¬ gm_j153 75 q9 = -1) (_ : x4_103.toInt < nx.toInt) (H : Heap) (locs : List Loc) (ls : Array Slot), va_P (dC, dI) vwCl (mW h0 ad cid sg gm_j153 lg) H → va_D A (mW h0 ad cid sg gm_j153 lg) → va_S A s.heap H locs → lv_has ls 6 [(4, .int x4_103), (3, .int x3_153), (0, .ref h0), (1, .int b), (2, .int nx)] → W p l e (headSpec wm_X13_placed ({ frames := 6, cells := 0, slots := 0, locals := 142 })).room s m ([.ref h0, .int b, .int nx] : List Value).toArray below meth c H locs 0 0 (MQ below (va_Qi (fun r v => ∃ (sg2 : Nat → Int32) (gm2 : Nat → Nat → Int32) (lg2 : Nat → Nat → Int64), v = (sg2, gm2, lg2) ∧ MI sg2 gm2 ∧ KS [] sg sg2 ∧ KS [75] gm gm2 ∧ KS [] lg lg2 ∧ (iv 0 1 r) ∧ (r.toInt = 0 ∨ SPF (gm2 75) nx.toNatClampNeg)) (MB dC dI h0 ad cid A) A) ([.ref h0, .int b, .int nx] : List Value).toArray s 0 0 A) (F0 m 153 ls []) := by
        intro gm_j153 x3_153 hsx4_153 hx3_153 hsx1_153 hsx2_153 hkg_j153 hI_j153 hsp hcf hpf hl1 H locs ls hP hD hS hl
        obtain ⟨z_1, ez_1⟩ : ∃ z : Int32, z = x4_103 + 1 := ⟨_, rfl⟩
        have hz_1 : iv 1 3 z_1 := iv_of ez_1 (iv_add hsx4_153 (iv_k (by decide) : iv 1 1 1) (by decide))
        have tz_1 : z_1.toInt = x4_103.toInt + 1 := by rw [ez_1]; exact iv_addE hsx4_153 (iv_k (by decide) : iv 1 1 1) (by decide)
        refine lv_iinc (v := z_1) (lv' := [(4, .int z_1), (3, .int x3_153), (0, .ref h0), (1, .int b), (2, .int nx)]) hx hb dX13_placed_153 hl (k := 0) rfl ez_1.symm (by decide) rfl (fun ls hl => ?_)
        refine lv_goto (tgt := 103) hx hb dX13_placed_156 (by decide) ?_
        exact ih103 _ (by rw [← hn103]; exact (iv_meas tz_1 hsx4_153 (by decide))) gm_j153 z_1 x3_153 rfl (iv_w hz_1 (by decide)) hx3_153 hsx1_153 (iv_w hsx2_153 (by decide)) (KS_tr (L := [75]) KS_rf hkg_j153 (by decide)) hI_j153 (hsp) (by rw [s_cl hsx4_153 (by decide) tz_1]; exact hcf) (hpf) (by have := i32_0; have := i32_1; have := i32_2; have := i32_m1; have := (show iv 0 1200 (sg 20) from MI_s hI 20).1; have := (show iv 0 1200 (sg 20) from MI_s hI 20).2; have := (show iv 0 1201 (sg 21) from MI_s hI 21).1; have := (show iv 0 1201 (sg 21) from MI_s hI 21).2; have := (show iv 0 3 (sg 22) from MI_s hI 22).1; have := (show iv 0 3 (sg 22) from MI_s hI 22).2; have := (show iv 0 80 (sg 24) from MI_s hI 24).1; have := (show iv 0 80 (sg 24) from MI_s hI 24).2; have := (show iv 0 1201 (sg 25) from MI_s hI 25).1; have := (show iv 0 1201 (sg 25) from MI_s hI 25).2; have := (hsx1_153).1; have := (hsx1_153).2; have := (hsx2_153).1; have := (hsx2_153).2; have := (hsx4_153).1; have := (hsx4_153).2; have := (hx3_103).1; have := (hx3_103).2; have := (hx3_153).1; have := (hx3_153).2; have := (hz_1).1; have := (hz_1).2; omega) _ _ _ hP hD hS (lv_sub hl [0, 1, 2, 3, 4] rfl)
      have hj129 : ∀ (n : Nat) (gm_j129 : Nat → Nat → Int32) (x3_129 : Int32) (_ : (2 - x3_129.toInt).toNat = n) (_ : iv 0 2 x4_103) (_ : iv 0 2 x3_129) (_ : iv 0 79 b) (_ : iv 1 3 nx) (_ : KS [75] gm gm_j129) (_ : MI sg gm_j129) (_ : SPo (gm_j129 75) nx.toNatClampNeg) (_ : cF (gm_j129 75) 4 + nAt sg gm lg b x4_103.toNatClampNeg = nAt sg gm lg b nx.toNatClampNeg + x4_103.toNatClampNeg) (_ : ∀ q9, 0 ≤ q9 → q9 < x3_129.toNatClampNeg → ¬ gm_j129 75 q9 = -1) (_ : cF (gm_j129 75) 4 + 1 ≤ nx.toNatClampNeg) (_ : mHas gm lg (mArg sg gm lg b x4_103.toNatClampNeg).toNatClampNeg 24948 = 0) (_ : x4_103.toInt < nx.toInt) (H : Heap) (locs : List Loc) (ls : Array Slot), va_P (dC, dI) vwCl (mW h0 ad cid sg gm_j129 lg) H → va_D A (mW h0 ad cid sg gm_j129 lg) → va_S A s.heap H locs → lv_has ls 6 [(4, .int x4_103), (3, .int x3_129), (0, .ref h0), (1, .int b), (2, .int nx)] → W p l e (headSpec wm_X13_placed ({ frames := 6, cells := 0, slots := 0, locals := 142 })).room s m ([.ref h0, .int b, .int nx] : List Value).toArray below meth c H locs 0 0 (MQ below (va_Qi (fun r v => ∃ (sg2 : Nat → Int32) (gm2 : Nat → Nat → Int32) (lg2 : Nat → Nat → Int64), v = (sg2, gm2, lg2) ∧ MI sg2 gm2 ∧ KS [] sg sg2 ∧ KS [75] gm gm2 ∧ KS [] lg lg2 ∧ (iv 0 1 r) ∧ (r.toInt = 0 ∨ SPF (gm2 75) nx.toNatClampNeg)) (MB dC dI h0 ad cid A) A) ([.ref h0, .int b, .int nx] : List Value).toArray s 0 0 A) (F0 m 129 ls []) := by
        intro n
        induction n using Nat.strongRecOn with
        | ind n ih129 =>
          intro gm_j129 x3_129 hn129 hsx4_129 hx3_129 hsx1_129 hsx2_129 hkg_j129 hI_j129 hsp hcf hpf hF hh0 hl1 H locs ls hP hD hS hl
          refine lv_aload_n hx hb dX13_placed_129 rfl (lv_at hl 2 rfl) ?_
          refine mr_get (v := .ref (ad 75)) hx hb htb inX13 hown hK hP 75 (by decide) (htb _ kw_223) rfl dX13_placed_130 ?_
          refine lv_iload_n hx hb dX13_placed_133 rfl (lv_at hl 1 rfl) ?_
          refine mr_iald hx hb hK hP 59 (k := 75) rfl rfl rfl (show vp_in x3_129 4 from (iv_in hx3_129 (by decide))) dX13_placed_134 ?_
          refine lv_topi (fun z_2 ez_2 => ?_)
          have hz_2 : iv (-1) 3 z_2 := iv_of ez_2 (MI_a hI_j129 75 hx3_129 (by decide))
          refine lv_iconst (v := (-1)) hx hb dX13_placed_135 (by decide) ?_
          refine lv_icmp_eq (tgt := 145) hx hb dX13_placed_136 (by decide) (fun c_3 => ?_) (fun c_3 => ?_)
          · have h_4 : iv (-1) (-1) z_2 := iv_eq c_3 hz_2 (iv_k (by decide) : iv (-1) (-1) (-1)) (by decide)
            refine lv_aload_n hx hb dX13_placed_145 rfl (lv_at hl 2 rfl) ?_
            refine mr_get (v := .ref (ad 75)) hx hb htb inX13 hown hK hP 75 (by decide) (htb _ kw_223) rfl dX13_placed_146 ?_
            refine lv_iload_n hx hb dX13_placed_149 rfl (lv_at hl 1 rfl) ?_
            refine lv_iload hx hb dX13_placed_150 (lv_at hl 0 rfl) ?_
            refine ma_iast (x := x4_103) hx hb hK hP hD hS 59 (k := 75) rfl rfl rfl (show vp_in x3_129 4 from (iv_in hx3_129 (by decide))) dX13_placed_152 (fun gm_5 H locs egm_5 hP hD hS => ?_)
            have hI_gm_5 := MI_st hI_j129 egm_5 hsx4_129 (by decide)
            exact hj153 gm_5 x3_129 hsx4_129 (iv_w hx3_129 (by decide)) hsx1_129 hsx2_129 (KS_up (KS_tr (L := [75]) KS_rf hkg_j129 (by decide)) egm_5 (by decide)) hI_gm_5 (SPo_u hsp (show gm_5 75 = upd (gm_j129 75) (x3_129 : Int32).toNatClampNeg x4_103 from ((up_at egm_5).trans (by rw [show gm_j129 75 = gm_j129 75 from rfl]))) (by have := cF_ge hpf 4 (by have := iv_cl hx3_129 (by decide); have := (hx3_129).2; omega); omega) (hsx4_129).1 (by have := iv_cl hvnx (by decide); have := hvnx.1; have := i32_0; have := i32_1; have := i32_2; have := i32_m1; have := (hsx1_129).1; have := (hsx1_129).2; have := (hsx2_129).1; have := (hsx2_129).2; have := (hsx4_129).1; have := (hsx4_129).2; have := (hx3_103).1; have := (hx3_103).2; have := (hx3_129).1; have := (hx3_129).2; have := (h_4).1; have := (h_4).2; omega)) (by rw [nAt_n hh0, cF_upd (show gm_5 75 = upd (gm_j129 75) (x3_129 : Int32).toNatClampNeg x4_103 from ((up_at egm_5).trans (by rw [show gm_j129 75 = gm_j129 75 from rfl]))) (fun q9 => absurd (hsx4_129).1 (by rw [q9]; decide)) (ez_2.symm.trans c_3) 4 (by have := iv_cl hx3_129 (by decide); have := (hx3_129).2; omega)]; omega) (fun q9 h8 h9 => by rw [(show gm_5 75 = upd (gm_j129 75) (x3_129 : Int32).toNatClampNeg x4_103 from ((up_at egm_5).trans (by rw [show gm_j129 75 = gm_j129 75 from rfl]))), upd_ne (by omega)]; exact hpf q9 h8 h9) (by have := i32_0; have := i32_1; have := i32_2; have := i32_m1; have := (show iv 0 1200 (sg 20) from MI_s hI 20).1; have := (show iv 0 1200 (sg 20) from MI_s hI 20).2; have := (show iv 0 1201 (sg 21) from MI_s hI 21).1; have := (show iv 0 1201 (sg 21) from MI_s hI 21).2; have := (show iv 0 3 (sg 22) from MI_s hI 22).1; have := (show iv 0 3 (sg 22) from MI_s hI 22).2; have := (show iv 0 80 (sg 24) from MI_s hI 24).1; have := (show iv 0 80 (sg 24) from MI_s hI 24).2; have := (show iv 0 1201 (sg 25) from MI_s hI 25).1; have := (show iv 0 1201 (sg 25) from MI_s hI 25).2; have := (hsx1_129).1; have := (hsx1_129).2; have := (hsx2_129).1; have := (hsx2_129).2; have := (hsx4_129).1; have := (hsx4_129).2; have := (hx3_103).1; have := (hx3_103).2; have := (hx3_129).1; have := (hx3_129).2; have := (h_4).1; have := (h_4).2; omega) _ _ _ hP hD hS (lv_sub hl [0, 1, 2, 3, 4] rfl)
          · have h_6 : iv 0 3 z_2 := iv_neL c_3 hz_2 (by decide)
            have hpg : ∀ q9, 0 ≤ q9 → q9 < x3_129.toNatClampNeg + 1 → ¬ gm_j129 75 q9 = -1 := fun q9 h8 h9 => by { by_cases q7 : q9 = x3_129.toNatClampNeg; (subst q7; rw [← ez_2]; exact c_3); exact hpf q9 h8 (by omega) }
            have hp1 : iv 0 1 x3_129 := ⟨(hx3_129).1, by have q8 := cF_ge hpg 4 (by have := iv_cl hx3_129 (by decide); have := (hx3_129).2; omega); have := iv_cl hx3_129 (by decide); have := iv_cl hvnx (by decide); have := hvnx.2; omega⟩
            obtain ⟨z_7, ez_7⟩ : ∃ z : Int32, z = x3_129 + 1 := ⟨_, rfl⟩
            have hz_7 : iv 1 2 z_7 := iv_of ez_7 (iv_add hp1 (iv_k (by decide) : iv 1 1 1) (by decide))
            have tz_7 : z_7.toInt = x3_129.toInt + 1 := by rw [ez_7]; exact iv_addE hp1 (iv_k (by decide) : iv 1 1 1) (by decide)
            refine lv_iinc (v := z_7) (lv' := [(3, .int z_7), (4, .int x4_103), (0, .ref h0), (1, .int b), (2, .int nx)]) hx hb dX13_placed_139 hl (k := 1) rfl ez_7.symm (by decide) rfl (fun ls hl => ?_)
            refine lv_goto (tgt := 129) hx hb dX13_placed_142 (by decide) ?_
            exact ih129 _ (by rw [← hn129]; exact (iv_meas tz_7 hp1 (by decide))) gm_j129 z_7 rfl hsx4_129 (iv_w hz_7 (by decide)) hsx1_129 hsx2_129 (KS_tr (L := [75]) KS_rf hkg_j129 (by decide)) hI_j129 (hsp) (hcf) (all_s hp1 (by decide) tz_7 hpf (by rw [← ez_2]; exact c_3)) (hF) (hh0) (by have := i32_0; have := i32_1; have := i32_2; have := i32_m1; have := (show iv 0 1200 (sg 20) from MI_s hI 20).1; have := (show iv 0 1200 (sg 20) from MI_s hI 20).2; have := (show iv 0 1201 (sg 21) from MI_s hI 21).1; have := (show iv 0 1201 (sg 21) from MI_s hI 21).2; have := (show iv 0 3 (sg 22) from MI_s hI 22).1; have := (show iv 0 3 (sg 22) from MI_s hI 22).2; have := (show iv 0 80 (sg 24) from MI_s hI 24).1; have := (show iv 0 80 (sg 24) from MI_s hI 24).2; have := (show iv 0 1201 (sg 25) from MI_s hI 25).1; have := (show iv 0 1201 (sg 25) from MI_s hI 25).2; have := (hsx1_129).1; have := (hsx1_129).2; have := (hsx2_129).1; have := (hsx2_129).2; have := (hsx4_129).1; have := (hsx4_129).2; have := (hx3_103).1; have := (hx3_103).2; have := (hp1).1; have := (hp1).2; have := (h_6).1; have := (h_6).2; have := (hz_7).1; have := (hz_7).2; omega) _ _ _ hP hD hS (lv_sub hl [1, 0, 2, 3, 4] rfl)
      refine lv_iload hx hb dX13_placed_103 (lv_at hl 0 rfl) ?_
      refine lv_iload_n hx hb dX13_placed_105 rfl (lv_at hl 4 rfl) ?_
      refine lv_icmp_ge (tgt := 159) hx hb dX13_placed_106 (by decide) (fun c_8 => ?_) (fun c_8 => ?_)
      · have d_9 : (nx : Int32).toInt ≤ (x4_103 : Int32).toInt := Int32.le_iff_toInt_le.mp c_8
        refine lv_iconst (v := 1) hx hb dX13_placed_159 (by decide) ?_
        exact W.zret (v := 1) hx hb hr (iv_nb (iv_w (iv_k (by decide) : iv 1 1 1) (by decide))) (fun t ht hW => ⟨⟨1, (sg, gm_j103, lg), rfl, ⟨sg, gm_j103, lg, rfl, hI_j103, KS_rf, (KS_tr (L := [75]) KS_rf hkg_j103 (by decide)), KS_rf, (iv_w (iv_k (by decide) : iv 1 1 1) (by decide)), (Or.inr (SPo_full (by have := iv_cl hvnx (by decide); have := hvnx.2; omega) hsp (by have q9 : x4_103.toNatClampNeg = nx.toNatClampNeg := (by have := le_cl hx4_103 hvnx (by decide) (by decide) hl4; have := le_cl hvnx hx4_103 (by decide) (by decide) (by have := i32_0; have := i32_1; have := i32_2; have := i32_m1; have := (hsx1_103).1; have := (hsx1_103).2; have := (hsx2_103).1; have := (hsx2_103).2; have := (hx4_103).1; have := (hx4_103).2; have := (hx3_103).1; have := (hx3_103).2; omega); omega); rw [q9] at hcf; omega)))⟩, by rw [ht]; exact hP, va_K.moved hW.alike hK, hD⟩, hS.F ht⟩) hS.2.2 dX13_placed_160
      · have d_10 : (x4_103 : Int32).toInt < (nx : Int32).toInt := Int32.lt_iff_toInt_lt.mp (i32_lt c_8)
        have h_11 : iv 0 2 x4_103 := iv_ltL (i32_lt c_8) hx4_103 hsx2_103 (by decide)
        have h_12 : iv 1 3 nx := iv_ltR (i32_lt c_8) hx4_103 hsx2_103 (by decide)
        refine lv_aload_n hx hb dX13_placed_109 rfl (lv_at hl 2 rfl) ?_
        refine lv_aload_n hx hb dX13_placed_110 rfl (lv_at hl 2 rfl) ?_
        refine lv_iload_n hx hb dX13_placed_111 rfl (lv_at hl 3 rfl) ?_
        refine lv_iload hx hb dX13_placed_112 (lv_at hl 0 rfl) ?_
        refine mr_calli (rest := [.ref h0]) ⟨hx, hb, hml, hown, htb⟩ (f_arg l dC dI h0 ad cid sg gm_j103 lg b x4_103 hI_j103 hsx1_103 (iv_w h_11 (by decide)) (by have := i32_0; have := i32_1; have := i32_2; have := i32_m1; have := (show iv 0 80 (sg 41) from MI_s hI 41).1; have := (show iv 0 80 (sg 41) from MI_s hI 41).2; have := (hsx1_103).1; have := (hsx1_103).2; have := (h_12).1; have := (h_12).2; have := (h_11).1; have := (h_11).2; have := (hx3_103).1; have := (hx3_103).2; omega) (ACY_k (DK_of (show KS [] sg sg from KS_rf) (show KS [75] gm gm_j103 from (KS_tr (L := [75]) KS_rf hkg_j103 (by decide))) (show KS [] lg lg from KS_rf) (by decide) (by decide) (by decide)) hac)) (cwV 2 htb (gd_V kw_1177 kw_1178 kw_1179 kw_5 kw_1609) rfl rfl rfl (by decide +kernel) ⟨Nat.le_of_ble_eq_true rfl, Nat.le_of_ble_eq_true rfl⟩) rfl hl.1 rfl (Nat.le_of_ble_eq_true rfl) dX13_placed_114 ⟨Nat.zero_le _, Nat.zero_le _⟩ hK hP hD hS hA (fun r_13 u_14 H locs hw hP hD hS => ?_)
        obtain ⟨hr_13, fR_r_13, rfl⟩ := hw
        have hP : va_P (dC, dI) vwCl (mW h0 ad cid sg gm_j103 lg) H := hP
        have hD : va_D A (mW h0 ad cid sg gm_j103 lg) := hD
        have hla := lt_cl h_11 hvnx (by decide) (by decide) (by have := i32_0; have := i32_1; have := i32_2; have := i32_m1; have := (hsx1_103).1; have := (hsx1_103).2; have := (h_12).1; have := (h_12).2; have := (h_11).1; have := (h_11).2; have := (hx3_103).1; have := (hx3_103).2; have := (hr_13).1; have := (hr_13).2; omega)
        have hbR := (fR_r_13.trans (mArg_k (DK_of (show KS [] sg sg from KS_rf) (show KS [75] gm gm_j103 from (KS_tr (L := [75]) KS_rf hkg_j103 (by decide))) (show KS [] lg lg from KS_rf) (by decide) (by decide) (by decide)) _ _))
        obtain ⟨hr33, hr34, hr35⟩ := arg_el (show iv 0 80 (sg 24) from MI_s hI 24) hbR (han _ (Nat.zero_le _) hla)
        refine lv_ldc2 (own := RX13) (v := 24948) hx hb hown (htb _ kw_889) dX13_placed_117 ?_
        refine mr_calli (rest := []) ⟨hx, hb, hml, hown, htb⟩ (f_has l dC dI h0 ad cid sg gm_j103 lg r_13 24948 hI_j103 hr33) (cwV 2 htb (gd_V kw_916 kw_917 kw_918 kw_5 kw_1543) rfl rfl rfl (by decide +kernel) ⟨Nat.le_of_ble_eq_true rfl, Nat.le_of_ble_eq_true rfl⟩) rfl hl.1 rfl (Nat.le_of_ble_eq_true rfl) dX13_placed_120 ⟨Nat.zero_le _, Nat.zero_le _⟩ hK hP hD hS hA (fun r_15 u_16 H locs hw hP hD hS => ?_)
        obtain ⟨hr_15, fH_r_15, rfl⟩ := hw
        have hP : va_P (dC, dI) vwCl (mW h0 ad cid sg gm_j103 lg) H := hP
        have hD : va_D A (mW h0 ad cid sg gm_j103 lg) := hD
        have hbH := fH_r_15.trans (mHas_k (DK_of (show KS [] sg sg from KS_rf) (show KS [75] gm gm_j103 from (KS_tr (L := [75]) KS_rf hkg_j103 (by decide))) (show KS [] lg lg from KS_rf) (by decide) (by decide) (by decide)).1 _ _)
        refine lv_if_eq (tgt := 129) hx hb dX13_placed_123 (by decide) (fun c_17 => ?_) (fun c_17 => ?_)
        · have h_18 : iv 0 0 r_15 := iv_eq c_17 hr_15 (iv_k (by decide) : iv 0 0 0) (by decide)
          have hh0 : mHas gm lg (mArg sg gm lg b x4_103.toNatClampNeg).toNatClampNeg 24948 = 0 := (by rw [← hbR, ← hbH]; exact c_17)
          have hF : cF (gm_j103 75) 4 + 1 ≤ nx.toNatClampNeg := by have q8 := nAt_le (sg := sg) (gm := gm) (lg := lg) (b := b) (x4_103.toNatClampNeg + 1) nx.toNatClampNeg (by omega); rw [nAt_n hh0] at q8; omega
          have hp2 : iv 0 2 x3_103 := ⟨(hx3_103).1, by have q8 := cF_ge hpf 4 (by have := iv_cl hx3_103 (by decide); have := (hx3_103).2; omega); have := iv_cl hx3_103 (by decide); have := iv_cl hvnx (by decide); have := hvnx.2; omega⟩
          exact hj129 _ gm_j103 x3_103 rfl h_11 hp2 hsx1_103 h_12 (KS_tr (L := [75]) KS_rf hkg_j103 (by decide)) hI_j103 (hsp) (hcf) (hpf) (hF) (hh0) (by have := i32_0; have := i32_1; have := i32_2; have := i32_m1; have := (show iv 0 1200 (sg 20) from MI_s hI 20).1; have := (show iv 0 1200 (sg 20) from MI_s hI 20).2; have := (show iv 0 1201 (sg 21) from MI_s hI 21).1; have := (show iv 0 1201 (sg 21) from MI_s hI 21).2; have := (show iv 0 3 (sg 22) from MI_s hI 22).1; have := (show iv 0 3 (sg 22) from MI_s hI 22).2; have := (show iv 0 80 (sg 24) from MI_s hI 24).1; have := (show iv 0 80 (sg 24) from MI_s hI 24).2; have := (show iv 0 1201 (sg 25) from MI_s hI 25).1; have := (show iv 0 1201 (sg 25) from MI_s hI 25).2; have := (hsx1_103).1; have := (hsx1_103).2; have := (h_12).1; have := (h_12).2; have := (h_11).1; have := (h_11).2; have := (hp2).1; have := (hp2).2; have := (hr33).1; have := (hr33).2; have := (h_18).1; have := (h_18).2; omega) _ _ _ hP hD hS (lv_sub hl [0, 1, 2, 3, 4] rfl)
        · have h_19 : iv 1 1 r_15 := iv_neL c_17 hr_15 (by decide)
          refine lv_goto (tgt := 153) hx hb dX13_placed_126 (by decide) ?_
          exact hj153 gm_j103 x3_103 h_11 hx3_103 hsx1_103 h_12 (KS_tr (L := [75]) KS_rf hkg_j103 (by decide)) hI_j103 (hsp) (by rw [nAt_y (by rw [← hbR, ← hbH]; exact c_17)]; omega) (hpf) (by have := i32_0; have := i32_1; have := i32_2; have := i32_m1; have := (show iv 0 1200 (sg 20) from MI_s hI 20).1; have := (show iv 0 1200 (sg 20) from MI_s hI 20).2; have := (show iv 0 1201 (sg 21) from MI_s hI 21).1; have := (show iv 0 1201 (sg 21) from MI_s hI 21).2; have := (show iv 0 3 (sg 22) from MI_s hI 22).1; have := (show iv 0 3 (sg 22) from MI_s hI 22).2; have := (show iv 0 80 (sg 24) from MI_s hI 24).1; have := (show iv 0 80 (sg 24) from MI_s hI 24).2; have := (show iv 0 1201 (sg 25) from MI_s hI 25).1; have := (show iv 0 1201 (sg 25) from MI_s hI 25).2; have := (hsx1_103).1; have := (hsx1_103).2; have := (h_12).1; have := (h_12).2; have := (h_11).1; have := (h_11).2; have := (hx3_103).1; have := (hx3_103).2; have := (hr33).1; have := (hr33).2; have := (h_19).1; have := (h_19).2; omega) _ _ _ hP hD hS (lv_sub hl [0, 1, 2, 3, 4] rfl)
  have hj82 : ∀ (gm_j82 : Nat → Nat → Int32) (x5_82 : Int32) (x4_82 : Int32) (x3_82 : Int32) (_ : iv 0 2 x5_82) (_ : iv 0 79 x4_82) (_ : iv 0 2 x3_82) (_ : iv 0 79 b) (_ : iv 1 3 nx) (_ : KS [75] gm gm_j82) (_ : MI sg gm_j82) (H : Heap) (locs : List Loc) (ls : Array Slot), va_P (dC, dI) vwCl (mW h0 ad cid sg gm_j82 lg) H → va_D A (mW h0 ad cid sg gm_j82 lg) → va_S A s.heap H locs → lv_has ls 6 [(5, .int x5_82), (4, .int x4_82), (3, .int x3_82), (0, .ref h0), (1, .int b), (2, .int nx)] → W p l e (headSpec wm_X13_placed ({ frames := 6, cells := 0, slots := 0, locals := 142 })).room s m ([.ref h0, .int b, .int nx] : List Value).toArray below meth c H locs 0 0 (MQ below (va_Qi (fun r v => ∃ (sg2 : Nat → Int32) (gm2 : Nat → Nat → Int32) (lg2 : Nat → Nat → Int64), v = (sg2, gm2, lg2) ∧ MI sg2 gm2 ∧ KS [] sg sg2 ∧ KS [75] gm gm2 ∧ KS [] lg lg2 ∧ (iv 0 1 r) ∧ (r.toInt = 0 ∨ SPF (gm2 75) nx.toNatClampNeg)) (MB dC dI h0 ad cid A) A) ([.ref h0, .int b, .int nx] : List Value).toArray s 0 0 A) (F0 m 82 ls []) := by
    intro gm_j82 x5_82 x4_82 x3_82 hx5_82 hx4_82 hx3_82 hsx1_82 hsx2_82 hkg_j82 hI_j82 H locs ls hP hD hS hl
    refine lv_iconst (v := 0) hx hb dX13_placed_82 (by decide) ?_
    exact W.zret (v := 0) hx hb hr (iv_nb (iv_w (iv_k (by decide) : iv 0 0 0) (by decide))) (fun t ht hW => ⟨⟨0, (sg, gm_j82, lg), rfl, ⟨sg, gm_j82, lg, rfl, hI_j82, KS_rf, (KS_tr (L := [75]) KS_rf hkg_j82 (by decide)), KS_rf, (iv_w (iv_k (by decide) : iv 0 0 0) (by decide)), (Or.inl rfl)⟩, by rw [ht]; exact hP, va_K.moved hW.alike hK, hD⟩, hS.F ht⟩) hS.2.2 dX13_placed_83
  have hj22 : ∀ (n : Nat) (gm_j22 : Nat → Nat → Int32) (x3_22 : Int32) (_ : (3 - x3_22.toInt).toNat = n) (_ : iv 0 3 x3_22) (_ : iv 0 79 b) (_ : iv 0 3 nx) (_ : KS [75] gm gm_j22) (_ : MI sg gm_j22) (_ : SPo (gm_j22 75) nx.toNatClampNeg) (_ : cF (gm_j22 75) 4 = nAt sg gm lg b x3_22.toNatClampNeg) (_ : x3_22.toInt ≤ nx.toInt) (H : Heap) (locs : List Loc) (ls : Array Slot), va_P (dC, dI) vwCl (mW h0 ad cid sg gm_j22 lg) H → va_D A (mW h0 ad cid sg gm_j22 lg) → va_S A s.heap H locs → lv_has ls 6 [(3, .int x3_22), (0, .ref h0), (1, .int b), (2, .int nx)] → W p l e (headSpec wm_X13_placed ({ frames := 6, cells := 0, slots := 0, locals := 142 })).room s m ([.ref h0, .int b, .int nx] : List Value).toArray below meth c H locs 0 0 (MQ below (va_Qi (fun r v => ∃ (sg2 : Nat → Int32) (gm2 : Nat → Nat → Int32) (lg2 : Nat → Nat → Int64), v = (sg2, gm2, lg2) ∧ MI sg2 gm2 ∧ KS [] sg sg2 ∧ KS [75] gm gm2 ∧ KS [] lg lg2 ∧ (iv 0 1 r) ∧ (r.toInt = 0 ∨ SPF (gm2 75) nx.toNatClampNeg)) (MB dC dI h0 ad cid A) A) ([.ref h0, .int b, .int nx] : List Value).toArray s 0 0 A) (F0 m 22 ls []) := by
    intro n
    induction n using Nat.strongRecOn with
    | ind n ih22 =>
      intro gm_j22 x3_22 hn22 hx3_22 hsx1_22 hsx2_22 hkg_j22 hI_j22 hsp hcf hln H locs ls hP hD hS hl
      have hj92 : ∀ (gm_j92 : Nat → Nat → Int32) (x4_92 : Int32) (_ : iv 0 79 x4_92) (_ : iv 0 2 x3_22) (_ : iv 0 79 b) (_ : iv 1 3 nx) (_ : KS [75] gm gm_j92) (_ : MI sg gm_j92) (_ : SPo (gm_j92 75) nx.toNatClampNeg) (_ : cF (gm_j92 75) 4 = nAt sg gm lg b (x3_22.toNatClampNeg + 1)) (_ : x3_22.toInt < nx.toInt) (H : Heap) (locs : List Loc) (ls : Array Slot), va_P (dC, dI) vwCl (mW h0 ad cid sg gm_j92 lg) H → va_D A (mW h0 ad cid sg gm_j92 lg) → va_S A s.heap H locs → lv_has ls 6 [(4, .int x4_92), (3, .int x3_22), (0, .ref h0), (1, .int b), (2, .int nx)] → W p l e (headSpec wm_X13_placed ({ frames := 6, cells := 0, slots := 0, locals := 142 })).room s m ([.ref h0, .int b, .int nx] : List Value).toArray below meth c H locs 0 0 (MQ below (va_Qi (fun r v => ∃ (sg2 : Nat → Int32) (gm2 : Nat → Nat → Int32) (lg2 : Nat → Nat → Int64), v = (sg2, gm2, lg2) ∧ MI sg2 gm2 ∧ KS [] sg sg2 ∧ KS [75] gm gm2 ∧ KS [] lg lg2 ∧ (iv 0 1 r) ∧ (r.toInt = 0 ∨ SPF (gm2 75) nx.toNatClampNeg)) (MB dC dI h0 ad cid A) A) ([.ref h0, .int b, .int nx] : List Value).toArray s 0 0 A) (F0 m 92 ls []) := by
        intro gm_j92 x4_92 hx4_92 hsx3_92 hsx1_92 hsx2_92 hkg_j92 hI_j92 hsp hcf hl1 H locs ls hP hD hS hl
        obtain ⟨z_20, ez_20⟩ : ∃ z : Int32, z = x3_22 + 1 := ⟨_, rfl⟩
        have hz_20 : iv 1 3 z_20 := iv_of ez_20 (iv_add hsx3_92 (iv_k (by decide) : iv 1 1 1) (by decide))
        have tz_20 : z_20.toInt = x3_22.toInt + 1 := by rw [ez_20]; exact iv_addE hsx3_92 (iv_k (by decide) : iv 1 1 1) (by decide)
        refine lv_iinc (v := z_20) (lv' := [(3, .int z_20), (4, .int x4_92), (0, .ref h0), (1, .int b), (2, .int nx)]) hx hb dX13_placed_92 hl (k := 1) rfl ez_20.symm (by decide) rfl (fun ls hl => ?_)
        refine lv_goto (tgt := 22) hx hb dX13_placed_95 (by decide) ?_
        exact ih22 _ (by rw [← hn22]; exact (iv_meas tz_20 hsx3_92 (by decide))) gm_j92 z_20 rfl (iv_w hz_20 (by decide)) hsx1_92 (iv_w hsx2_92 (by decide)) (KS_tr (L := [75]) KS_rf hkg_j92 (by decide)) hI_j92 (hsp) (by rw [s_cl hsx3_92 (by decide) tz_20]; exact hcf) (by have := i32_0; have := i32_1; have := i32_2; have := i32_m1; have := (show iv 0 1200 (sg 20) from MI_s hI 20).1; have := (show iv 0 1200 (sg 20) from MI_s hI 20).2; have := (show iv 0 1201 (sg 21) from MI_s hI 21).1; have := (show iv 0 1201 (sg 21) from MI_s hI 21).2; have := (show iv 0 3 (sg 22) from MI_s hI 22).1; have := (show iv 0 3 (sg 22) from MI_s hI 22).2; have := (show iv 0 80 (sg 24) from MI_s hI 24).1; have := (show iv 0 80 (sg 24) from MI_s hI 24).2; have := (show iv 0 1201 (sg 25) from MI_s hI 25).1; have := (show iv 0 1201 (sg 25) from MI_s hI 25).2; have := (hsx1_92).1; have := (hsx1_92).2; have := (hsx2_92).1; have := (hsx2_92).2; have := (hsx3_92).1; have := (hsx3_92).2; have := (hx4_92).1; have := (hx4_92).2; have := (hz_20).1; have := (hz_20).2; omega) _ _ _ hP hD hS (lv_sub hl [0, 2, 3, 4] rfl)
      refine lv_iload_n hx hb dX13_placed_22 rfl (lv_at hl 0 rfl) ?_
      refine lv_iload_n hx hb dX13_placed_23 rfl (lv_at hl 3 rfl) ?_
      refine lv_icmp_ge (tgt := 98) hx hb dX13_placed_24 (by decide) (fun c_21 => ?_) (fun c_21 => ?_)
      · have d_22 : (nx : Int32).toInt ≤ (x3_22 : Int32).toInt := Int32.le_iff_toInt_le.mp c_21
        refine lv_iconst (v := 0) hx hb dX13_placed_98 (by decide) ?_
        refine lv_istore_n (lv' := [(3, .int 0), (0, .ref h0), (1, .int b), (2, .int nx)]) hx hb dX13_placed_99 rfl hl (by decide) rfl (fun ls hl => ?_)
        refine lv_iconst (v := 0) hx hb dX13_placed_100 (by decide) ?_
        refine lv_istore (lv' := [(4, .int 0), (3, .int 0), (0, .ref h0), (1, .int b), (2, .int nx)]) hx hb dX13_placed_101 hl (by decide) rfl (fun ls hl => ?_)
        exact hj103 _ gm_j22 0 0 rfl (iv_w (iv_k (by decide) : iv 0 0 0) (by decide)) (iv_w (iv_k (by decide) : iv 0 0 0) (by decide)) hsx1_22 hsx2_22 (KS_tr (L := [75]) KS_rf hkg_j22 (by decide)) hI_j22 (hsp) (by have q9 : x3_22.toNatClampNeg = nx.toNatClampNeg := (by have := le_cl hx3_22 hvnx (by decide) (by decide) hln; have := le_cl hvnx hx3_22 (by decide) (by decide) (by have := i32_0; have := i32_1; have := i32_2; have := i32_m1; have := (hsx1_22).1; have := (hsx1_22).2; have := (hsx2_22).1; have := (hsx2_22).2; have := (hx3_22).1; have := (hx3_22).2; omega); omega); rw [hcf, q9]; rfl) (fun q9 _ h9 => absurd h9 (Nat.not_lt_zero _)) (by have := i32_0; have := i32_1; have := i32_2; have := i32_m1; have := (show iv 0 1200 (sg 20) from MI_s hI 20).1; have := (show iv 0 1200 (sg 20) from MI_s hI 20).2; have := (show iv 0 1201 (sg 21) from MI_s hI 21).1; have := (show iv 0 1201 (sg 21) from MI_s hI 21).2; have := (show iv 0 3 (sg 22) from MI_s hI 22).1; have := (show iv 0 3 (sg 22) from MI_s hI 22).2; have := (show iv 0 80 (sg 24) from MI_s hI 24).1; have := (show iv 0 80 (sg 24) from MI_s hI 24).2; have := (show iv 0 1201 (sg 25) from MI_s hI 25).1; have := (show iv 0 1201 (sg 25) from MI_s hI 25).2; have := (hsx1_22).1; have := (hsx1_22).2; have := (hsx2_22).1; have := (hsx2_22).2; have := (hx3_22).1; have := (hx3_22).2; omega) _ _ _ hP hD hS (lv_sub hl [0, 1, 2, 3, 4] rfl)
      · have d_23 : (x3_22 : Int32).toInt < (nx : Int32).toInt := Int32.lt_iff_toInt_lt.mp (i32_lt c_21)
        have h_24 : iv 0 2 x3_22 := iv_ltL (i32_lt c_21) hx3_22 hsx2_22 (by decide)
        have h_25 : iv 1 3 nx := iv_ltR (i32_lt c_21) hx3_22 hsx2_22 (by decide)
        refine lv_aload_n hx hb dX13_placed_27 rfl (lv_at hl 1 rfl) ?_
        refine lv_iload_n hx hb dX13_placed_28 rfl (lv_at hl 2 rfl) ?_
        refine lv_iload_n hx hb dX13_placed_29 rfl (lv_at hl 0 rfl) ?_
        refine mr_calli (rest := []) ⟨hx, hb, hml, hown, htb⟩ (f_arg l dC dI h0 ad cid sg gm_j22 lg b x3_22 hI_j22 hsx1_22 (iv_w h_24 (by decide)) (by have := i32_0; have := i32_1; have := i32_2; have := i32_m1; have := (show iv 0 80 (sg 41) from MI_s hI 41).1; have := (show iv 0 80 (sg 41) from MI_s hI 41).2; have := (hsx1_22).1; have := (hsx1_22).2; have := (h_25).1; have := (h_25).2; have := (h_24).1; have := (h_24).2; omega) (ACY_k (DK_of (show KS [] sg sg from KS_rf) (show KS [75] gm gm_j22 from (KS_tr (L := [75]) KS_rf hkg_j22 (by decide))) (show KS [] lg lg from KS_rf) (by decide) (by decide) (by decide)) hac)) (cwV 2 htb (gd_V kw_1177 kw_1178 kw_1179 kw_5 kw_1609) rfl rfl rfl (by decide +kernel) ⟨Nat.le_of_ble_eq_true rfl, Nat.le_of_ble_eq_true rfl⟩) rfl hl.1 rfl (Nat.le_of_ble_eq_true rfl) dX13_placed_30 ⟨Nat.zero_le _, Nat.zero_le _⟩ hK hP hD hS hA (fun r_26 u_27 H locs hw hP hD hS => ?_)
        obtain ⟨hr_26, fR_r_26, rfl⟩ := hw
        have hP : va_P (dC, dI) vwCl (mW h0 ad cid sg gm_j22 lg) H := hP
        have hD : va_D A (mW h0 ad cid sg gm_j22 lg) := hD
        have hla := lt_cl h_24 hvnx (by decide) (by decide) (by have := i32_0; have := i32_1; have := i32_2; have := i32_m1; have := (hsx1_22).1; have := (hsx1_22).2; have := (h_25).1; have := (h_25).2; have := (h_24).1; have := (h_24).2; have := (hr_26).1; have := (hr_26).2; omega)
        have hbR := (fR_r_26.trans (mArg_k (DK_of (show KS [] sg sg from KS_rf) (show KS [75] gm gm_j22 from (KS_tr (L := [75]) KS_rf hkg_j22 (by decide))) (show KS [] lg lg from KS_rf) (by decide) (by decide) (by decide)) _ _))
        obtain ⟨hr33, hr34, hr35⟩ := arg_el (show iv 0 80 (sg 24) from MI_s hI 24) hbR (han _ (Nat.zero_le _) hla)
        refine lv_istore (lv' := [(4, .int r_26), (3, .int x3_22), (0, .ref h0), (1, .int b), (2, .int nx)]) hx hb dX13_placed_33 hl (by decide) rfl (fun ls hl => ?_)
        refine lv_aload_n hx hb dX13_placed_35 rfl (lv_at hl 2 rfl) ?_
        refine lv_iload hx hb dX13_placed_36 (lv_at hl 0 rfl) ?_
        refine lv_ldc2 (own := RX13) (v := 24948) hx hb hown (htb _ kw_889) dX13_placed_38 ?_
        refine mr_calli (rest := []) ⟨hx, hb, hml, hown, htb⟩ (f_has l dC dI h0 ad cid sg gm_j22 lg r_26 24948 hI_j22 hr33) (cwV 2 htb (gd_V kw_916 kw_917 kw_918 kw_5 kw_1543) rfl rfl rfl (by decide +kernel) ⟨Nat.le_of_ble_eq_true rfl, Nat.le_of_ble_eq_true rfl⟩) rfl hl.1 rfl (Nat.le_of_ble_eq_true rfl) dX13_placed_41 ⟨Nat.zero_le _, Nat.zero_le _⟩ hK hP hD hS hA (fun r_28 u_29 H locs hw hP hD hS => ?_)
        obtain ⟨hr_28, fH_r_28, rfl⟩ := hw
        have hP : va_P (dC, dI) vwCl (mW h0 ad cid sg gm_j22 lg) H := hP
        have hD : va_D A (mW h0 ad cid sg gm_j22 lg) := hD
        have hbH := fH_r_28.trans (mHas_k (DK_of (show KS [] sg sg from KS_rf) (show KS [75] gm gm_j22 from (KS_tr (L := [75]) KS_rf hkg_j22 (by decide))) (show KS [] lg lg from KS_rf) (by decide) (by decide) (by decide)).1 _ _)
        refine lv_if_ne (tgt := 50) hx hb dX13_placed_44 (by decide) (fun c_30 => ?_) (fun c_30 => ?_)
        · have h_31 : iv 1 1 r_28 := iv_neL c_30 hr_28 (by decide)
          refine lv_aload_n hx hb dX13_placed_50 rfl (lv_at hl 2 rfl) ?_
          refine lv_iload hx hb dX13_placed_51 (lv_at hl 0 rfl) ?_
          refine lv_ldc2 (own := RX13) (v := 24948) hx hb hown (htb _ kw_889) dX13_placed_53 ?_
          refine mr_calll (rest := []) ⟨hx, hb, hml, hown, htb⟩ (f_word l dC dI h0 ad cid sg gm_j22 lg r_26 24948 hI_j22 hr33) (cwV 2 htb (gd_V kw_923 kw_924 kw_925 kw_5 kw_1545) rfl rfl rfl (by decide +kernel) ⟨Nat.le_of_ble_eq_true rfl, Nat.le_of_ble_eq_true rfl⟩) rfl hl.1 rfl (Nat.le_of_ble_eq_true rfl) dX13_placed_56 ⟨Nat.zero_le _, Nat.zero_le _⟩ hK hP hD hS hA (fun r_32 u_33 H locs hw hP hD hS => ?_)
          obtain ⟨fW_r_32, rfl⟩ := hw
          have hP : va_P (dC, dI) vwCl (mW h0 ad cid sg gm_j22 lg) H := hP
          have hD : va_D A (mW h0 ad cid sg gm_j22 lg) := hD
          refine lv_l2i (v := (r_32).toInt32) hx hb dX13_placed_59 rfl ?_
          refine lv_topi (fun z_34 ez_34 => ?_)
          refine lv_bipush (v := 48) hx hb dX13_placed_60 (by decide) ?_
          refine lv_isub hx hb dX13_placed_62 ?_
          refine lv_topi (fun z_35 ez_35 => ?_)
          have hhn := (by rw [← mHas_k (DK_of (show KS [] sg sg from KS_rf) (show KS [75] gm gm_j22 from (KS_tr (L := [75]) KS_rf hkg_j22 (by decide))) (show KS [] lg lg from KS_rf) (by decide) (by decide) (by decide)).1, ← fH_r_28]; exact c_30 : ¬ mHas gm lg r_26.toNatClampNeg 24948 = 0)
          have h63 := at_iv (arg_at hst hr34 hr35 hhn) (show z_34 = (mWord gm lg r_26.toNatClampNeg 24948).toInt32 from by rw [← mWord_k (DK_of (show KS [] sg sg from KS_rf) (show KS [75] gm gm_j22 from (KS_tr (L := [75]) KS_rf hkg_j22 (by decide))) (show KS [] lg lg from KS_rf) (by decide) (by decide) (by decide)).1, ← fW_r_32]; exact ez_34) ez_35
          refine lv_istore (lv' := [(5, .int z_35), (4, .int r_26), (3, .int x3_22), (0, .ref h0), (1, .int b), (2, .int nx)]) hx hb dX13_placed_63 hl (by decide) rfl (fun ls hl => ?_)
          refine lv_iload hx hb dX13_placed_65 (lv_at hl 0 rfl) ?_
          refine lv_iload_n hx hb dX13_placed_67 rfl (lv_at hl 5 rfl) ?_
          refine lv_icmp_ge (tgt := 82) hx hb dX13_placed_68 (by decide) (fun c_36 => ?_) (fun c_36 => ?_)
          · have d_37 : (nx : Int32).toInt ≤ (z_35 : Int32).toInt := Int32.le_iff_toInt_le.mp c_36
            have h_38 : iv 1 2 nx := iv_leL c_36 h_25 h63 (by decide)
            have h_39 : iv 1 2 z_35 := iv_leR c_36 h_25 h63 (by decide)
            exact hj82 gm_j22 z_35 r_26 x3_22 (iv_w h_39 (by decide)) hr33 h_24 hsx1_22 (iv_w h_38 (by decide)) (KS_tr (L := [75]) KS_rf hkg_j22 (by decide)) hI_j22 _ _ _ hP hD hS (lv_sub hl [0, 1, 2, 3, 4, 5] rfl)
          · have d_40 : (z_35 : Int32).toInt < (nx : Int32).toInt := Int32.lt_iff_toInt_lt.mp (i32_lt c_36)
            refine lv_aload_n hx hb dX13_placed_71 rfl (lv_at hl 3 rfl) ?_
            refine mr_get (v := .ref (ad 75)) hx hb htb inX13 hown hK hP 75 (by decide) (htb _ kw_223) rfl dX13_placed_72 ?_
            refine lv_iload hx hb dX13_placed_75 (lv_at hl 0 rfl) ?_
            refine mr_iald hx hb hK hP 59 (k := 75) rfl rfl rfl (show vp_in z_35 4 from (iv_in h63 (by decide))) dX13_placed_77 ?_
            refine lv_topi (fun z_41 ez_41 => ?_)
            have hz_41 : iv (-1) 3 z_41 := iv_of ez_41 (MI_a hI_j22 75 h63 (by decide))
            refine lv_iconst (v := (-1)) hx hb dX13_placed_78 (by decide) ?_
            refine lv_icmp_eq (tgt := 84) hx hb dX13_placed_79 (by decide) (fun c_42 => ?_) (fun c_42 => ?_)
            · have h_43 : iv (-1) (-1) z_41 := iv_eq c_42 hz_41 (iv_k (by decide) : iv (-1) (-1) (-1)) (by decide)
              refine lv_aload_n hx hb dX13_placed_84 rfl (lv_at hl 3 rfl) ?_
              refine mr_get (v := .ref (ad 75)) hx hb htb inX13 hown hK hP 75 (by decide) (htb _ kw_223) rfl dX13_placed_85 ?_
              refine lv_iload hx hb dX13_placed_88 (lv_at hl 0 rfl) ?_
              refine lv_iload_n hx hb dX13_placed_90 rfl (lv_at hl 2 rfl) ?_
              refine ma_iast (x := x3_22) hx hb hK hP hD hS 59 (k := 75) rfl rfl rfl (show vp_in z_35 4 from (iv_in h63 (by decide))) dX13_placed_91 (fun gm_44 H locs egm_44 hP hD hS => ?_)
              have hI_gm_44 := MI_st hI_j22 egm_44 h_24 (by decide)
              exact hj92 gm_44 r_26 hr33 h_24 hsx1_22 h_25 (KS_up (KS_tr (L := [75]) KS_rf hkg_j22 (by decide)) egm_44 (by decide)) hI_gm_44 (SPo_u hsp (show gm_44 75 = upd (gm_j22 75) (z_35 : Int32).toNatClampNeg x3_22 from ((up_at egm_44).trans (by rw [show gm_j22 75 = gm_j22 75 from rfl]))) (lt_cl h63 hvnx (by decide) (by decide) (by have := i32_0; have := i32_1; have := i32_2; have := i32_m1; have := (hsx1_22).1; have := (hsx1_22).2; have := (h_25).1; have := (h_25).2; have := (h_24).1; have := (h_24).2; have := (hr33).1; have := (hr33).2; have := (h_31).1; have := (h_31).2; have := (h63).1; have := (h63).2; have := (h_43).1; have := (h_43).2; omega)) (h_24).1 (by have := iv_cl hvnx (by decide); have := hvnx.1; have := i32_0; have := i32_1; have := i32_2; have := i32_m1; have := (hsx1_22).1; have := (hsx1_22).2; have := (h_25).1; have := (h_25).2; have := (h_24).1; have := (h_24).2; have := (hr33).1; have := (hr33).2; have := (h_31).1; have := (h_31).2; have := (h63).1; have := (h63).2; have := (h_43).1; have := (h_43).2; omega)) (by rw [nAt_y (by rw [← hbR, ← hbH]; exact c_30), ← hcf]; exact cF_upd (show gm_44 75 = upd (gm_j22 75) (z_35 : Int32).toNatClampNeg x3_22 from ((up_at egm_44).trans (by rw [show gm_j22 75 = gm_j22 75 from rfl]))) (fun q9 => absurd (h_24).1 (by rw [q9]; decide)) (ez_41.symm.trans c_42) 4 (by have := iv_cl h63 (by decide); have := (h63).2; omega)) (by have := i32_0; have := i32_1; have := i32_2; have := i32_m1; have := (show iv 0 1200 (sg 20) from MI_s hI 20).1; have := (show iv 0 1200 (sg 20) from MI_s hI 20).2; have := (show iv 0 1201 (sg 21) from MI_s hI 21).1; have := (show iv 0 1201 (sg 21) from MI_s hI 21).2; have := (show iv 0 3 (sg 22) from MI_s hI 22).1; have := (show iv 0 3 (sg 22) from MI_s hI 22).2; have := (show iv 0 80 (sg 24) from MI_s hI 24).1; have := (show iv 0 80 (sg 24) from MI_s hI 24).2; have := (show iv 0 1201 (sg 25) from MI_s hI 25).1; have := (show iv 0 1201 (sg 25) from MI_s hI 25).2; have := (hsx1_22).1; have := (hsx1_22).2; have := (h_25).1; have := (h_25).2; have := (h_24).1; have := (h_24).2; have := (hr33).1; have := (hr33).2; have := (h_31).1; have := (h_31).2; have := (h63).1; have := (h63).2; have := (h_43).1; have := (h_43).2; omega) _ _ _ hP hD hS (lv_sub hl [1, 2, 3, 4, 5] rfl)
            · have h_45 : iv 0 3 z_41 := iv_neL c_42 hz_41 (by decide)
              exact hj82 gm_j22 z_35 r_26 x3_22 h63 hr33 h_24 hsx1_22 h_25 (KS_tr (L := [75]) KS_rf hkg_j22 (by decide)) hI_j22 _ _ _ hP hD hS (lv_sub hl [0, 1, 2, 3, 4, 5] rfl)
        · have h_46 : iv 0 0 r_28 := iv_eq c_30 hr_28 (iv_k (by decide) : iv 0 0 0) (by decide)
          refine lv_goto (tgt := 92) hx hb dX13_placed_47 (by decide) ?_
          exact hj92 gm_j22 r_26 hr33 h_24 hsx1_22 h_25 (KS_tr (L := [75]) KS_rf hkg_j22 (by decide)) hI_j22 (hsp) (hcf.trans (nAt_n (by rw [← hbR, ← hbH]; exact c_30)).symm) (by have := i32_0; have := i32_1; have := i32_2; have := i32_m1; have := (show iv 0 1200 (sg 20) from MI_s hI 20).1; have := (show iv 0 1200 (sg 20) from MI_s hI 20).2; have := (show iv 0 1201 (sg 21) from MI_s hI 21).1; have := (show iv 0 1201 (sg 21) from MI_s hI 21).2; have := (show iv 0 3 (sg 22) from MI_s hI 22).1; have := (show iv 0 3 (sg 22) from MI_s hI 22).2; have := (show iv 0 80 (sg 24) from MI_s hI 24).1; have := (show iv 0 80 (sg 24) from MI_s hI 24).2; have := (show iv 0 1201 (sg 25) from MI_s hI 25).1; have := (show iv 0 1201 (sg 25) from MI_s hI 25).2; have := (hsx1_22).1; have := (hsx1_22).2; have := (h_25).1; have := (h_25).2; have := (h_24).1; have := (h_24).2; have := (hr33).1; have := (hr33).2; have := (h_46).1; have := (h_46).2; omega) _ _ _ hP hD hS (lv_sub hl [0, 1, 2, 3, 4] rfl)
  have hj2 : ∀ (n : Nat) (gm_j2 : Nat → Nat → Int32) (x3_2 : Int32) (_ : (4 - x3_2.toInt).toNat = n) (_ : iv 0 4 x3_2) (_ : iv 0 79 b) (_ : iv 0 3 nx) (_ : KS [75] gm gm_j2) (_ : MI sg gm_j2) (_ : ∀ q9, 0 ≤ q9 → q9 < x3_2.toNatClampNeg → gm_j2 75 q9 = -1) (H : Heap) (locs : List Loc) (ls : Array Slot), va_P (dC, dI) vwCl (mW h0 ad cid sg gm_j2 lg) H → va_D A (mW h0 ad cid sg gm_j2 lg) → va_S A s.heap H locs → lv_has ls 6 [(3, .int x3_2), (0, .ref h0), (1, .int b), (2, .int nx)] → W p l e (headSpec wm_X13_placed ({ frames := 6, cells := 0, slots := 0, locals := 142 })).room s m ([.ref h0, .int b, .int nx] : List Value).toArray below meth c H locs 0 0 (MQ below (va_Qi (fun r v => ∃ (sg2 : Nat → Int32) (gm2 : Nat → Nat → Int32) (lg2 : Nat → Nat → Int64), v = (sg2, gm2, lg2) ∧ MI sg2 gm2 ∧ KS [] sg sg2 ∧ KS [75] gm gm2 ∧ KS [] lg lg2 ∧ (iv 0 1 r) ∧ (r.toInt = 0 ∨ SPF (gm2 75) nx.toNatClampNeg)) (MB dC dI h0 ad cid A) A) ([.ref h0, .int b, .int nx] : List Value).toArray s 0 0 A) (F0 m 2 ls []) := by
    intro n
    induction n using Nat.strongRecOn with
    | ind n ih2 =>
      intro gm_j2 x3_2 hn2 hx3_2 hsx1_2 hsx2_2 hkg_j2 hI_j2 hs0 H locs ls hP hD hS hl
      refine lv_iload_n hx hb dX13_placed_2 rfl (lv_at hl 0 rfl) ?_
      refine lv_iconst (v := 4) hx hb dX13_placed_3 (by decide) ?_
      refine lv_icmp_ge (tgt := 20) hx hb dX13_placed_4 (by decide) (fun c_47 => ?_) (fun c_47 => ?_)
      · have h_48 : iv 4 4 x3_2 := iv_leR c_47 (iv_k (by decide) : iv 4 4 4) hx3_2 (by decide)
        refine lv_iconst (v := 0) hx hb dX13_placed_20 (by decide) ?_
        refine lv_istore_n (lv' := [(3, .int 0), (0, .ref h0), (1, .int b), (2, .int nx)]) hx hb dX13_placed_21 rfl hl (by decide) rfl (fun ls hl => ?_)
        exact hj22 _ gm_j2 0 rfl (iv_w (iv_k (by decide) : iv 0 0 0) (by decide)) hsx1_2 hsx2_2 (KS_tr (L := [75]) KS_rf hkg_j2 (by decide)) hI_j2 ((SPo_0 h_48 hs0).1) ((SPo_0 (n := 0) h_48 hs0).2) (by have := i32_0; have := i32_1; have := i32_2; have := i32_m1; have := (show iv 0 1200 (sg 20) from MI_s hI 20).1; have := (show iv 0 1200 (sg 20) from MI_s hI 20).2; have := (show iv 0 1201 (sg 21) from MI_s hI 21).1; have := (show iv 0 1201 (sg 21) from MI_s hI 21).2; have := (show iv 0 3 (sg 22) from MI_s hI 22).1; have := (show iv 0 3 (sg 22) from MI_s hI 22).2; have := (show iv 0 80 (sg 24) from MI_s hI 24).1; have := (show iv 0 80 (sg 24) from MI_s hI 24).2; have := (show iv 0 1201 (sg 25) from MI_s hI 25).1; have := (show iv 0 1201 (sg 25) from MI_s hI 25).2; have := (hsx1_2).1; have := (hsx1_2).2; have := (hsx2_2).1; have := (hsx2_2).2; have := (h_48).1; have := (h_48).2; omega) _ _ _ hP hD hS (lv_sub hl [0, 1, 2, 3] rfl)
      · have h_49 : iv 0 3 x3_2 := iv_ltL (i32_lt c_47) hx3_2 (iv_k (by decide) : iv 4 4 4) (by decide)
        refine lv_aload_n hx hb dX13_placed_7 rfl (lv_at hl 1 rfl) ?_
        refine mr_get (v := .ref (ad 75)) hx hb htb inX13 hown hK hP 75 (by decide) (htb _ kw_223) rfl dX13_placed_8 ?_
        refine lv_iload_n hx hb dX13_placed_11 rfl (lv_at hl 0 rfl) ?_
        refine lv_iconst (v := (-1)) hx hb dX13_placed_12 (by decide) ?_
        refine ma_iast (x := (-1)) hx hb hK hP hD hS 59 (k := 75) rfl rfl rfl (show vp_in x3_2 4 from (iv_in h_49 (by decide))) dX13_placed_13 (fun gm_50 H locs egm_50 hP hD hS => ?_)
        have hI_gm_50 := MI_st hI_j2 egm_50 (iv_k (by decide) : iv (-1) (-1) (-1)) (by decide)
        obtain ⟨z_51, ez_51⟩ : ∃ z : Int32, z = x3_2 + 1 := ⟨_, rfl⟩
        have hz_51 : iv 1 4 z_51 := iv_of ez_51 (iv_add h_49 (iv_k (by decide) : iv 1 1 1) (by decide))
        have tz_51 : z_51.toInt = x3_2.toInt + 1 := by rw [ez_51]; exact iv_addE h_49 (iv_k (by decide) : iv 1 1 1) (by decide)
        refine lv_iinc (v := z_51) (lv' := [(3, .int z_51), (0, .ref h0), (1, .int b), (2, .int nx)]) hx hb dX13_placed_14 hl (k := 0) rfl ez_51.symm (by decide) rfl (fun ls hl => ?_)
        refine lv_goto (tgt := 2) hx hb dX13_placed_17 (by decide) ?_
        exact ih2 _ (by rw [← hn2]; exact (iv_meas tz_51 h_49 (by decide))) gm_50 z_51 rfl (iv_w hz_51 (by decide)) hsx1_2 hsx2_2 (KS_up (KS_tr (L := [75]) KS_rf hkg_j2 (by decide)) egm_50 (by decide)) hI_gm_50 (all_s (P := fun q9 => gm_50 75 q9 = -1) h_49 (by decide) tz_51 (fun q9 h8 h9 => by show gm_50 75 q9 = -1; rw [(show gm_50 75 = upd (gm_j2 75) (x3_2 : Int32).toNatClampNeg (-1) from ((up_at egm_50).trans (by rw [show gm_j2 75 = gm_j2 75 from rfl]))), upd_ne (by omega)]; exact hs0 q9 h8 h9) (by show gm_50 75 _ = -1; rw [(show gm_50 75 = upd (gm_j2 75) (x3_2 : Int32).toNatClampNeg (-1) from ((up_at egm_50).trans (by rw [show gm_j2 75 = gm_j2 75 from rfl]))), upd_at])) _ _ _ hP hD hS (lv_sub hl [0, 1, 2, 3] rfl)
  refine lv_iconst (v := 0) hx hb dX13_placed_0 (by decide) ?_
  refine lv_istore_n (lv' := [(3, .int 0), (0, .ref h0), (1, .int b), (2, .int nx)]) hx hb dX13_placed_1 rfl hl (by decide) rfl (fun ls hl => ?_)
  exact hj2 _ gm 0 rfl (iv_w (iv_k (by decide) : iv 0 0 0) (by decide)) hvb hvnx KS_rf hI (fun q9 _ h9 => absurd h9 (Nat.not_lt_zero _)) _ _ _ hP hD hS (lv_sub hl [0, 1, 2, 3] rfl)
