def eL (e : Nat) : Nat := match e with | 0 => 3 | 1 => 3 | 2 => 4 | _ => 5
def eS (e : Nat) : Int := match e with | 0 => 60 | 1 => 62 | 2 => 38 | 3 => 34 | _ => 39
def eB (e i : Nat) : Int := match e, i with | 0, 0 => 108 | 0, 1 => 116 | 1, 0 => 103 | 1, 1 => 116 | 2, 0 => 97 | 2, 1 => 109 | 2, 2 => 112 | 3, 0 => 113 | 3, 1 => 117 | 3, 2 => 111 | 3, 3 => 116 | 4, 0 => 97 | 4, 1 => 112 | 4, 2 => 111 | 4, 3 => 115 | _, _ => 59
/-- the reference's tables of entities -/
def ENT (g3 g4 : Nat → Int32) (l2 : Nat → Int64) : Prop := (g3 0 = 3 ∧ g3 1 = 3 ∧ g3 2 = 4 ∧ g3 3 = 5 ∧ g3 4 = 5) ∧ (g4 0 = 60 ∧ g4 1 = 62 ∧ g4 2 = 38 ∧ g4 3 = 34 ∧ g4 4 = 39) ∧ (l2 0 = 7107643 ∧ l2 1 = 6779963 ∧ l2 2 = 1634562107 ∧ l2 3 = 487301542971 ∧ l2 4 = 418498179899)
theorem ENT_k {g3 g4 h3 h4 : Nat → Int32} {l2 m2 : Nat → Int64} (h : ENT g3 g4 l2) (a : h3 = g3) (b : h4 = g4) (c : m2 = l2) : ENT h3 h4 m2 := by rw [a, b, c]; exact h
theorem ENT_5 {x : Int32} (hx : iv 0 4 x) : x = 0 ∨ x = 1 ∨ x = 2 ∨ x = 3 ∨ x = 4 := by
  have h1 := hx.1
  have h2 := hx.2
  rcases (show x.toInt = 0 ∨ x.toInt = 1 ∨ x.toInt = 2 ∨ x.toInt = 3 ∨ x.toInt = 4 by omega) with h | h | h | h | h
  · exact Or.inl (Int32.toInt_inj.mp h)
  · exact Or.inr (Or.inl (Int32.toInt_inj.mp h))
  · exact Or.inr (Or.inr (Or.inl (Int32.toInt_inj.mp h)))
  · exact Or.inr (Or.inr (Or.inr (Or.inl (Int32.toInt_inj.mp h))))
  · exact Or.inr (Or.inr (Or.inr (Or.inr (Int32.toInt_inj.mp h))))
theorem ENT_l {g3 g4 : Nat → Int32} {l2 : Nat → Int64} (h : ENT g3 g4 l2) {x : Int32} (hx : iv 0 4 x) : (g3 x.toNatClampNeg).toInt = (eL x.toInt.toNat : Int) ∧ (g4 x.toNatClampNeg).toInt = eS x.toInt.toNat := by
  obtain ⟨⟨a0, a1, a2, a3, a4⟩, ⟨b0, b1, b2, b3, b4⟩, _⟩ := h
  rcases ENT_5 hx with rfl | rfl | rfl | rfl | rfl
  · exact ⟨by rw [show (0 : Int32).toNatClampNeg = 0 from by decide, a0]; decide, by rw [show (0 : Int32).toNatClampNeg = 0 from by decide, b0]; decide⟩
  · exact ⟨by rw [show (1 : Int32).toNatClampNeg = 1 from by decide, a1]; decide, by rw [show (1 : Int32).toNatClampNeg = 1 from by decide, b1]; decide⟩
  · exact ⟨by rw [show (2 : Int32).toNatClampNeg = 2 from by decide, a2]; decide, by rw [show (2 : Int32).toNatClampNeg = 2 from by decide, b2]; decide⟩
  · exact ⟨by rw [show (3 : Int32).toNatClampNeg = 3 from by decide, a3]; decide, by rw [show (3 : Int32).toNatClampNeg = 3 from by decide, b3]; decide⟩
  · exact ⟨by rw [show (4 : Int32).toNatClampNeg = 4 from by decide, a4]; decide, by rw [show (4 : Int32).toNatClampNeg = 4 from by decide, b4]; decide⟩
theorem i32_k {x : Int32} {k : Int} {y : Int32} (h : x.toInt = k) (hy : y.toInt = k) : x = y := Int32.toInt_inj.mp (h.trans hy.symm)
theorem ENT_b {g3 g4 : Nat → Int32} {l2 : Nat → Int64} (h : ENT g3 g4 l2) {x i z : Int32} {w1 w2 : Int64} {y : Int32} (hx : iv 0 4 x) (hi : 0 ≤ i.toInt) (hl : i.toInt < (eL x.toInt.toNat : Int)) (hz : z.toInt = 8 * ((eL x.toInt.toNat : Int) - 1 - i.toInt)) (e1 : w1 = l2 x.toNatClampNeg >>> (z.toInt64 &&& 63)) (e2 : w2 = w1 &&& 255) (e3 : y = w2.toInt32) : y.toInt = eB x.toInt.toNat i.toInt.toNat := by
  obtain ⟨_, _, c0, c1, c2, c3, c4⟩ := h
  subst e1 e2 e3
  rcases ENT_5 hx with rfl | rfl | rfl | rfl | rfl
  · rw [show (0 : Int32).toNatClampNeg = 0 from by decide, c0]
    have hl : i.toInt < 3 := hl
    have hz : z.toInt = 8 * (3 - 1 - i.toInt) := hz
    rcases (show i.toInt = 0 ∨ i.toInt = 1 ∨ i.toInt = 2 by omega) with q | q | q
    · rw [i32_k (y := 0) q (by decide), i32_k (x := z) (k := 16) (y := 16) (by omega) (by decide)]; decide
    · rw [i32_k (y := 1) q (by decide), i32_k (x := z) (k := 8) (y := 8) (by omega) (by decide)]; decide
    · rw [i32_k (y := 2) q (by decide), i32_k (x := z) (k := 0) (y := 0) (by omega) (by decide)]; decide
  · rw [show (1 : Int32).toNatClampNeg = 1 from by decide, c1]
    have hl : i.toInt < 3 := hl
    have hz : z.toInt = 8 * (3 - 1 - i.toInt) := hz
    rcases (show i.toInt = 0 ∨ i.toInt = 1 ∨ i.toInt = 2 by omega) with q | q | q
    · rw [i32_k (y := 0) q (by decide), i32_k (x := z) (k := 16) (y := 16) (by omega) (by decide)]; decide
    · rw [i32_k (y := 1) q (by decide), i32_k (x := z) (k := 8) (y := 8) (by omega) (by decide)]; decide
    · rw [i32_k (y := 2) q (by decide), i32_k (x := z) (k := 0) (y := 0) (by omega) (by decide)]; decide
  · rw [show (2 : Int32).toNatClampNeg = 2 from by decide, c2]
    have hl : i.toInt < 4 := hl
    have hz : z.toInt = 8 * (4 - 1 - i.toInt) := hz
    rcases (show i.toInt = 0 ∨ i.toInt = 1 ∨ i.toInt = 2 ∨ i.toInt = 3 by omega) with q | q | q | q
    · rw [i32_k (y := 0) q (by decide), i32_k (x := z) (k := 24) (y := 24) (by omega) (by decide)]; decide
    · rw [i32_k (y := 1) q (by decide), i32_k (x := z) (k := 16) (y := 16) (by omega) (by decide)]; decide
    · rw [i32_k (y := 2) q (by decide), i32_k (x := z) (k := 8) (y := 8) (by omega) (by decide)]; decide
    · rw [i32_k (y := 3) q (by decide), i32_k (x := z) (k := 0) (y := 0) (by omega) (by decide)]; decide
  · rw [show (3 : Int32).toNatClampNeg = 3 from by decide, c3]
    have hl : i.toInt < 5 := hl
    have hz : z.toInt = 8 * (5 - 1 - i.toInt) := hz
    rcases (show i.toInt = 0 ∨ i.toInt = 1 ∨ i.toInt = 2 ∨ i.toInt = 3 ∨ i.toInt = 4 by omega) with q | q | q | q | q
    · rw [i32_k (y := 0) q (by decide), i32_k (x := z) (k := 32) (y := 32) (by omega) (by decide)]; decide
    · rw [i32_k (y := 1) q (by decide), i32_k (x := z) (k := 24) (y := 24) (by omega) (by decide)]; decide
    · rw [i32_k (y := 2) q (by decide), i32_k (x := z) (k := 16) (y := 16) (by omega) (by decide)]; decide
    · rw [i32_k (y := 3) q (by decide), i32_k (x := z) (k := 8) (y := 8) (by omega) (by decide)]; decide
    · rw [i32_k (y := 4) q (by decide), i32_k (x := z) (k := 0) (y := 0) (by omega) (by decide)]; decide
  · rw [show (4 : Int32).toNatClampNeg = 4 from by decide, c4]
    have hl : i.toInt < 5 := hl
    have hz : z.toInt = 8 * (5 - 1 - i.toInt) := hz
    rcases (show i.toInt = 0 ∨ i.toInt = 1 ∨ i.toInt = 2 ∨ i.toInt = 3 ∨ i.toInt = 4 by omega) with q | q | q | q | q
    · rw [i32_k (y := 0) q (by decide), i32_k (x := z) (k := 32) (y := 32) (by omega) (by decide)]; decide
    · rw [i32_k (y := 1) q (by decide), i32_k (x := z) (k := 24) (y := 24) (by omega) (by decide)]; decide
    · rw [i32_k (y := 2) q (by decide), i32_k (x := z) (k := 16) (y := 16) (by omega) (by decide)]; decide
    · rw [i32_k (y := 3) q (by decide), i32_k (x := z) (k := 8) (y := 8) (by omega) (by decide)]; decide
    · rw [i32_k (y := 4) q (by decide), i32_k (x := z) (k := 0) (y := 0) (by omega) (by decide)]; decide
def eM (ch : Nat → Int) (a e k : Nat) : Prop := ∀ i, i ≤ k → ch (a + i) = eB e i
theorem sEn_y {ch : Nat → Int} {a e k : Nat} (he : e < 5) (hk : eL e = k + 1) (h : eM ch a e k) : sEn ch a = some (eS e, a + k) := by
  unfold sEn
  rcases (show e = 0 ∨ e = 1 ∨ e = 2 ∨ e = 3 ∨ e = 4 by omega) with rfl | rfl | rfl | rfl | rfl
  · have hk : 3 = k + 1 := hk
    obtain rfl : k = 2 := by omega
    have c0 : ch a = 108 := h 0 (by decide)
    have c1 : ch (a + 1) = 116 := h 1 (by decide)
    have c2 : ch (a + 2) = 59 := h 2 (by decide)
    rw [if_neg (by omega), if_pos (by omega)]; rfl
  · have hk : 3 = k + 1 := hk
    obtain rfl : k = 2 := by omega
    have c0 : ch a = 103 := h 0 (by decide)
    have c1 : ch (a + 1) = 116 := h 1 (by decide)
    have c2 : ch (a + 2) = 59 := h 2 (by decide)
    rw [if_neg (by omega), if_neg (by omega), if_pos (by omega)]; rfl
  · have hk : 4 = k + 1 := hk
    obtain rfl : k = 3 := by omega
    have c0 : ch a = 97 := h 0 (by decide)
    have c1 : ch (a + 1) = 109 := h 1 (by decide)
    have c2 : ch (a + 2) = 112 := h 2 (by decide)
    have c3 : ch (a + 3) = 59 := h 3 (by decide)
    rw [if_neg (by omega), if_neg (by omega), if_neg (by omega), if_pos (by omega)]; rfl
  · have hk : 5 = k + 1 := hk
    obtain rfl : k = 4 := by omega
    have c0 : ch a = 113 := h 0 (by decide)
    have c1 : ch (a + 1) = 117 := h 1 (by decide)
    have c2 : ch (a + 2) = 111 := h 2 (by decide)
    have c3 : ch (a + 3) = 116 := h 3 (by decide)
    have c4 : ch (a + 4) = 59 := h 4 (by decide)
    rw [if_neg (by omega), if_neg (by omega), if_neg (by omega), if_neg (by omega), if_pos (by omega)]; rfl
  · have hk : 5 = k + 1 := hk
    obtain rfl : k = 4 := by omega
    have c0 : ch a = 97 := h 0 (by decide)
    have c1 : ch (a + 1) = 112 := h 1 (by decide)
    have c2 : ch (a + 2) = 111 := h 2 (by decide)
    have c3 : ch (a + 3) = 115 := h 3 (by decide)
    have c4 : ch (a + 4) = 59 := h 4 (by decide)
    rw [if_neg (by omega), if_neg (by omega), if_neg (by omega), if_neg (by omega), if_neg (by omega), if_pos (by omega)]; rfl
theorem sEn_o {ch : Nat → Int} {a : Nat} (h5 : ¬ ch a = 35) (h : ∀ e k, e < 5 → eL e = k + 1 → ¬ eM ch a e k) : sEn ch a = none := by
  unfold sEn
  rw [if_neg h5]
  rw [if_neg (fun q => h 0 2 (by decide) rfl (fun i hi => by
    rcases (show i = 0 ∨ i = 1 ∨ i = 2 by omega) with rfl | rfl | rfl
    · exact q.1
    · exact q.2.1
    · exact q.2.2))]
  rw [if_neg (fun q => h 1 2 (by decide) rfl (fun i hi => by
    rcases (show i = 0 ∨ i = 1 ∨ i = 2 by omega) with rfl | rfl | rfl
    · exact q.1
    · exact q.2.1
    · exact q.2.2))]
  rw [if_neg (fun q => h 2 3 (by decide) rfl (fun i hi => by
    rcases (show i = 0 ∨ i = 1 ∨ i = 2 ∨ i = 3 by omega) with rfl | rfl | rfl | rfl
    · exact q.1
    · exact q.2.1
    · exact q.2.2.1
    · exact q.2.2.2))]
  rw [if_neg (fun q => h 3 4 (by decide) rfl (fun i hi => by
    rcases (show i = 0 ∨ i = 1 ∨ i = 2 ∨ i = 3 ∨ i = 4 by omega) with rfl | rfl | rfl | rfl | rfl
    · exact q.1
    · exact q.2.1
    · exact q.2.2.1
    · exact q.2.2.2.1
    · exact q.2.2.2.2))]
  rw [if_neg (fun q => h 4 4 (by decide) rfl (fun i hi => by
    rcases (show i = 0 ∨ i = 1 ∨ i = 2 ∨ i = 3 ∨ i = 4 by omega) with rfl | rfl | rfl | rfl | rfl
    · exact q.1
    · exact q.2.1
    · exact q.2.2.1
    · exact q.2.2.2.1
    · exact q.2.2.2.2))]

set_option maxHeartbeats 4000000 in
set_option maxRecDepth 100000 in
theorem a_agrees2 (l : Launch) (dC : Nat → ClassId) (dI : Nat → Nat → Nat) (h0 : Nat) (ad : Nat → Nat) (cid : Nat → ClassId) (sg : Nat → Int32) (gm : Nat → Nat → Int32) (lg : Nat → Nat → Int64) (a : Int32) (b : Int32) (ch : Nat → Int) (N9 : Nat) (hI : MI sg gm) (hva : iv 0 4 a) (hvb : iv 0 5 b) (hch : CHR ch N9 (sg 20) (gm 19)) (hen : ENT (gm 3) (gm 4) (lg 2)) (hbl : b.toInt < (gm 3 a.toNatClampNeg).toInt) : MMi l dC dI yX13_agrees wm_X13_agrees ({ frames := 1, cells := 0, slots := 0, locals := 21 }) h0 ad cid [.int a, .int b] sg gm lg (fun r v => (iv 0 1 r) ∧ (r.toInt = 0 ∨ (sg 21).toInt + b.toInt < (sg 20).toInt) ∧ ((r.toInt = 1 ∧ eM ch (sg 21).toInt.toNat a.toInt.toNat b.toInt.toNat) ∨ (r.toInt = 0 ∧ ¬ eM ch (sg 21).toInt.toNat a.toInt.toNat b.toInt.toNat)) ∧ v = (sg, gm, lg)) := by
  intro sz
  refine Met.ofW (cc := cX13_agrees) (maxL := 4) (ret := (some .boolean)) (by decide) rfl ?_
  intro p e s m args below meth c s₁ B hml hv
  obtain ⟨rfl, hsz, hP, hK, hD0⟩ := hv
  have hx := B.exec
  have hb := B.bytes
  have hr := B.returns
  have hts := atoms_spec (ws := wm_X13_agrees) B.pre
  have htb := fun (w : Cond) (h : w ∈ tb) => hts w (List.mem_cons_of_mem _ h)
  have hown : s.vm.findClass RX13 = some m.cls := findClass_of_methodNamed B.named
  have hlocks := B.notSynchronized
  subst hsz
  have hD := hD0.self (sz := s.heap.size)
  generalize hAe : va_A (mW h0 ad cid sg gm lg) s.heap.size = A at hD ⊢
  have hA : ∀ q : Nat, s.heap.size ≤ q → A q := fun q h => by rw [← hAe]; exact Or.inr h
  have hS : va_S A s.heap s.heap [] := va_S.rf
  have hl := lv_entry ([.ref h0, .int a, .int b]) (n := 4) (Nat.le_of_ble_eq_true rfl)
  rw [lg_entry_eq]
  generalize (lg_sl ([.ref h0, .int a, .int b]) ++ List.replicate (4 - (lg_sl ([.ref h0, .int a, .int b])).length) Slot.unset).toArray = ls at hl ⊢
  have hl : lv_has ls 4 [(0, .ref h0), (1, .int a), (2, .int b)] := hl
  have hj2 : ∀ (n : Nat) (x3_2 : Int32) (_ : (6 - x3_2.toInt).toNat = n) (_ : iv 0 6 x3_2) (_ : iv 0 4 a) (_ : iv 0 5 b) (_ : x3_2.toInt ≤ b.toInt + 1) (_ : x3_2.toInt = 0 ∨ (sg 21).toInt + x3_2.toInt ≤ (sg 20).toInt) (_ : ∀ i : Nat, (i : Int) < x3_2.toInt → ch ((sg 21).toInt.toNat + i) = eB a.toInt.toNat i) (H : Heap) (locs : List Loc) (ls : Array Slot), va_P (dC, dI) vwCl (mW h0 ad cid sg gm lg) H → va_D A (mW h0 ad cid sg gm lg) → va_S A s.heap H locs → lv_has ls 4 [(3, .int x3_2), (0, .ref h0), (1, .int a), (2, .int b)] → W p l e (headSpec wm_X13_agrees ({ frames := 1, cells := 0, slots := 0, locals := 21 })).room s m ([.ref h0, .int a, .int b] : List Value).toArray below meth c H locs 0 0 (MQ below (va_Qi (fun r v => (iv 0 1 r) ∧ (r.toInt = 0 ∨ (sg 21).toInt + b.toInt < (sg 20).toInt) ∧ ((r.toInt = 1 ∧ eM ch (sg 21).toInt.toNat a.toInt.toNat b.toInt.toNat) ∨ (r.toInt = 0 ∧ ¬ eM ch (sg 21).toInt.toNat a.toInt.toNat b.toInt.toNat)) ∧ v = (sg, gm, lg)) (MB dC dI h0 ad cid A) A) ([.ref h0, .int a, .int b] : List Value).toArray s 0 0 A) (F0 m 2 ls []) := by
    intro n
    induction n using Nat.strongRecOn with
    | ind n ih2 =>
      intro x3_2 hn2 hx3_2 hsx1_2 hsx2_2 h1 h2 uA H locs ls hP hD hS hl
      refine lv_iload_n hx hb dX13_agrees_2 rfl (lv_at hl 0 rfl) ?_
      refine lv_iload_n hx hb dX13_agrees_3 rfl (lv_at hl 3 rfl) ?_
      refine lv_icmp_gt (tgt := 48) hx hb dX13_agrees_4 (by decide) (fun c_1 => ?_) (fun c_1 => ?_)
      · have d_2 : (b : Int32).toInt < (x3_2 : Int32).toInt := Int32.lt_iff_toInt_lt.mp c_1
        have h_3 : iv 1 6 x3_2 := iv_ltR c_1 hsx2_2 hx3_2 (by decide)
        refine lv_iconst (v := 1) hx hb dX13_agrees_48 (by decide) ?_
        exact W.zret (v := 1) hx hb hr (iv_nb (iv_w (iv_k (by decide) : iv 1 1 1) (by decide))) (fun t ht hW => ⟨⟨1, (sg, gm, lg), rfl, ⟨(iv_w (iv_k (by decide) : iv 1 1 1) (by decide)), (Or.inr (by have := i32_0; have := i32_1; have := i32_2; have := i32_m1; have := (show iv 0 1200 (sg 20) from MI_s hI 20).1; have := (show iv 0 1200 (sg 20) from MI_s hI 20).2; have := (show iv 0 1201 (sg 21) from MI_s hI 21).1; have := (show iv 0 1201 (sg 21) from MI_s hI 21).2; have := (show iv 0 3 (sg 22) from MI_s hI 22).1; have := (show iv 0 3 (sg 22) from MI_s hI 22).2; have := (show iv 0 80 (sg 24) from MI_s hI 24).1; have := (show iv 0 80 (sg 24) from MI_s hI 24).2; have := (show iv 0 1201 (sg 25) from MI_s hI 25).1; have := (show iv 0 1201 (sg 25) from MI_s hI 25).2; have := (hsx1_2).1; have := (hsx1_2).2; have := (hsx2_2).1; have := (hsx2_2).2; have := (h_3).1; have := (h_3).2; omega)), (Or.inl ⟨rfl, fun i hi => uA i (by have := i32_0; have := i32_1; have := i32_2; have := i32_m1; have := (show iv 0 1200 (sg 20) from MI_s hI 20).1; have := (show iv 0 1200 (sg 20) from MI_s hI 20).2; have := (show iv 0 1201 (sg 21) from MI_s hI 21).1; have := (show iv 0 1201 (sg 21) from MI_s hI 21).2; have := (show iv 0 3 (sg 22) from MI_s hI 22).1; have := (show iv 0 3 (sg 22) from MI_s hI 22).2; have := (show iv 0 80 (sg 24) from MI_s hI 24).1; have := (show iv 0 80 (sg 24) from MI_s hI 24).2; have := (show iv 0 1201 (sg 25) from MI_s hI 25).1; have := (show iv 0 1201 (sg 25) from MI_s hI 25).2; have := (hsx1_2).1; have := (hsx1_2).2; have := (hsx2_2).1; have := (hsx2_2).2; have := (h_3).1; have := (h_3).2; omega)⟩), rfl⟩, by rw [ht]; exact hP, va_K.moved hW.alike hK, hD⟩, hS.F ht⟩) hS.2.2 dX13_agrees_49
      · have d_4 : (x3_2 : Int32).toInt ≤ (b : Int32).toInt := Int32.le_iff_toInt_le.mp (i32_ge c_1)
        have h_5 : iv 0 5 x3_2 := iv_leL (i32_ge c_1) hx3_2 hsx2_2 (by decide)
        refine lv_aload_n hx hb dX13_agrees_7 rfl (lv_at hl 1 rfl) ?_
        refine lv_iload_n hx hb dX13_agrees_8 rfl (lv_at hl 0 rfl) ?_
        refine mr_calli (rest := []) ⟨hx, hb, hml, hown, htb⟩ (a_here2 l dC dI h0 ad cid sg gm lg x3_2 ch N9 hI (iv_w h_5 (by decide)) (CHR_k hch rfl rfl)) (cwV 1 htb (gd_V kw_835 kw_836 kw_837 kw_5 kw_1522) rfl rfl rfl (by decide +kernel) ⟨Nat.le_of_ble_eq_true rfl, Nat.le_of_ble_eq_true rfl⟩) rfl hl.1 rfl (Nat.le_of_ble_eq_true rfl) dX13_agrees_9 ⟨Nat.zero_le _, Nat.zero_le _⟩ hK hP hD hS hA (fun r_6 u_7 H locs hw hP hD hS => ?_)
        obtain ⟨hr_6, hw_r_6, hn_r_6, hc_r_6, rfl⟩ := hw
        have hP : va_P (dC, dI) vwCl (mW h0 ad cid sg gm lg) H := hP
        have hD : va_D A (mW h0 ad cid sg gm lg) := hD
        refine lv_aload_n hx hb dX13_agrees_12 rfl (lv_at hl 1 rfl) ?_
        refine mr_get (v := .ref (ad 2)) hx hb htb inX13 hown hK hP 2 (by decide) (htb _ kw_162) rfl dX13_agrees_13 ?_
        refine lv_iload_n hx hb dX13_agrees_16 rfl (lv_at hl 2 rfl) ?_
        refine mr_lald hx hb hK hP 2 (k := 2) rfl rfl rfl (show vp_in a 5 from (iv_in hsx1_2 (by decide))) dX13_agrees_17 ?_
        refine lv_topl (fun z_8 ez_8 => ?_)
        refine lv_bipush (v := 8) hx hb dX13_agrees_18 (by decide) ?_
        refine lv_aload_n hx hb dX13_agrees_20 rfl (lv_at hl 1 rfl) ?_
        refine mr_get (v := .ref (ad 3)) hx hb htb inX13 hown hK hP 3 (by decide) (htb _ kw_163) rfl dX13_agrees_21 ?_
        refine lv_iload_n hx hb dX13_agrees_24 rfl (lv_at hl 2 rfl) ?_
        refine mr_iald hx hb hK hP 3 (k := 3) rfl rfl rfl (show vp_in a 5 from (iv_in hsx1_2 (by decide))) dX13_agrees_25 ?_
        refine lv_topi (fun z_9 ez_9 => ?_)
        have hz_9 : iv 3 5 z_9 := iv_of ez_9 (MI_a hI 3 hsx1_2 (by decide))
        refine lv_iconst (v := 1) hx hb dX13_agrees_26 (by decide) ?_
        refine lv_isub hx hb dX13_agrees_27 ?_
        refine lv_topi (fun z_10 ez_10 => ?_)
        have hz_10 : iv 2 4 z_10 := iv_of ez_10 (iv_sub hz_9 (iv_k (by decide) : iv 1 1 1) (by decide))
        have tz_10 : z_10.toInt = (z_9 : Int32).toInt - 1 := by rw [ez_10]; exact iv_subE hz_9 (iv_k (by decide) : iv 1 1 1) (by decide)
        refine lv_iload_n hx hb dX13_agrees_28 rfl (lv_at hl 0 rfl) ?_
        refine lv_isub hx hb dX13_agrees_29 ?_
        refine lv_topi (fun z_11 ez_11 => ?_)
        have hz_11 : iv (-3) 4 z_11 := iv_of ez_11 (iv_sub hz_10 h_5 (by decide))
        have tz_11 : z_11.toInt = (z_10 : Int32).toInt - (x3_2 : Int32).toInt := by rw [ez_11]; exact iv_subE hz_10 h_5 (by decide)
        have h_12 : iv 0 4 z_11 := ⟨by have := i32_0; have := i32_1; have := i32_2; have := i32_m1; have := (show iv 0 1200 (sg 20) from MI_s hI 20).1; have := (show iv 0 1200 (sg 20) from MI_s hI 20).2; have := (show iv 0 1201 (sg 21) from MI_s hI 21).1; have := (show iv 0 1201 (sg 21) from MI_s hI 21).2; have := (show iv 0 3 (sg 22) from MI_s hI 22).1; have := (show iv 0 3 (sg 22) from MI_s hI 22).2; have := (show iv 0 80 (sg 24) from MI_s hI 24).1; have := (show iv 0 80 (sg 24) from MI_s hI 24).2; have := (show iv 0 1201 (sg 25) from MI_s hI 25).1; have := (show iv 0 1201 (sg 25) from MI_s hI 25).2; have := (hsx1_2).1; have := (hsx1_2).2; have := (hsx2_2).1; have := (hsx2_2).2; have := (h_5).1; have := (h_5).2; have := (hr_6).1; have := (hr_6).2; have := (hz_9).1; have := (hz_9).2; have := (hz_10).1; have := (hz_10).2; have := (hz_11).1; have := (hz_11).2; have := hbl; have := congrArg Int32.toInt ez_9; omega, by have := i32_0; have := i32_1; have := i32_2; have := i32_m1; have := (show iv 0 1200 (sg 20) from MI_s hI 20).1; have := (show iv 0 1200 (sg 20) from MI_s hI 20).2; have := (show iv 0 1201 (sg 21) from MI_s hI 21).1; have := (show iv 0 1201 (sg 21) from MI_s hI 21).2; have := (show iv 0 3 (sg 22) from MI_s hI 22).1; have := (show iv 0 3 (sg 22) from MI_s hI 22).2; have := (show iv 0 80 (sg 24) from MI_s hI 24).1; have := (show iv 0 80 (sg 24) from MI_s hI 24).2; have := (show iv 0 1201 (sg 25) from MI_s hI 25).1; have := (show iv 0 1201 (sg 25) from MI_s hI 25).2; have := (hsx1_2).1; have := (hsx1_2).2; have := (hsx2_2).1; have := (hsx2_2).2; have := (h_5).1; have := (h_5).2; have := (hr_6).1; have := (hr_6).2; have := (hz_9).1; have := (hz_9).2; have := (hz_10).1; have := (hz_10).2; have := (hz_11).1; have := (hz_11).2; have := hbl; have := congrArg Int32.toInt ez_9; omega⟩
        refine lv_imul hx hb dX13_agrees_30 ?_
        refine lv_topi (fun z_13 ez_13 => ?_)
        have hz_13 : iv 0 32 z_13 := iv_of ez_13 (iv_mul (iv_k (by decide) : iv 8 8 8) h_12 (by decide))
        have tz_13 : z_13.toInt = 8 * (z_11 : Int32).toInt := by rw [ez_13]; exact iv_mulE (iv_k (by decide) : iv 8 8 8) h_12 (by decide)
        refine lv_lshr (v := z_8 >>> ((z_13 : Int32).toInt64 &&& 63)) hx hb dX13_agrees_31 rfl ?_
        refine lv_topl (fun z_14 ez_14 => ?_)
        refine lv_ldc2 (own := RX13) (v := 255) hx hb hown (htb _ kw_874) dX13_agrees_32 ?_
        refine lv_land hx hb dX13_agrees_35 ?_
        refine lv_topl (fun z_15 ez_15 => ?_)
        refine lv_l2i (v := (z_15).toInt32) hx hb dX13_agrees_36 rfl ?_
        refine lv_topi (fun z_16 ez_16 => ?_)
        have hz_16 : iv 0 255 z_16 := iv_of ez_16 (iv_l255 ez_15)
        refine lv_icmp_eq (tgt := 42) hx hb dX13_agrees_37 (by decide) (fun c_17 => ?_) (fun c_17 => ?_)
        · have d_18 : (r_6 : Int32).toInt = (z_16 : Int32).toInt := congrArg Int32.toInt c_17
          have h_19 : iv 0 126 r_6 := iv_eq c_17 hr_6 hz_16 (by decide)
          have h_20 : iv 0 126 z_16 := iv_eq (Eq.symm c_17) hz_16 hr_6 (by decide)
          obtain ⟨z_21, ez_21⟩ : ∃ z : Int32, z = x3_2 + 1 := ⟨_, rfl⟩
          have hz_21 : iv 1 6 z_21 := iv_of ez_21 (iv_add h_5 (iv_k (by decide) : iv 1 1 1) (by decide))
          have tz_21 : z_21.toInt = x3_2.toInt + 1 := by rw [ez_21]; exact iv_addE h_5 (iv_k (by decide) : iv 1 1 1) (by decide)
          refine lv_iinc (v := z_21) (lv' := [(3, .int z_21), (0, .ref h0), (1, .int a), (2, .int b)]) hx hb dX13_agrees_42 hl (k := 0) rfl ez_21.symm (by decide) rfl (fun ls hl => ?_)
          refine lv_goto (tgt := 2) hx hb dX13_agrees_45 (by decide) ?_
          exact ih2 _ (by rw [← hn2]; exact (iv_meas tz_21 h_5 (by decide))) z_21 rfl (iv_w hz_21 (by decide)) hsx1_2 hsx2_2 (by have := i32_0; have := i32_1; have := i32_2; have := i32_m1; have := (show iv 0 1200 (sg 20) from MI_s hI 20).1; have := (show iv 0 1200 (sg 20) from MI_s hI 20).2; have := (show iv 0 1201 (sg 21) from MI_s hI 21).1; have := (show iv 0 1201 (sg 21) from MI_s hI 21).2; have := (show iv 0 3 (sg 22) from MI_s hI 22).1; have := (show iv 0 3 (sg 22) from MI_s hI 22).2; have := (show iv 0 80 (sg 24) from MI_s hI 24).1; have := (show iv 0 80 (sg 24) from MI_s hI 24).2; have := (show iv 0 1201 (sg 25) from MI_s hI 25).1; have := (show iv 0 1201 (sg 25) from MI_s hI 25).2; have := (hsx1_2).1; have := (hsx1_2).2; have := (hsx2_2).1; have := (hsx2_2).2; have := (h_5).1; have := (h_5).2; have := (h_19).1; have := (h_19).2; have := (hz_9).1; have := (hz_9).2; have := (hz_10).1; have := (hz_10).2; have := (h_12).1; have := (h_12).2; have := (hz_13).1; have := (hz_13).2; have := (h_20).1; have := (h_20).2; have := (hz_21).1; have := (hz_21).2; omega) (by have := i32_0; have := i32_1; have := i32_2; have := i32_m1; have := (show iv 0 1200 (sg 20) from MI_s hI 20).1; have := (show iv 0 1200 (sg 20) from MI_s hI 20).2; have := (show iv 0 1201 (sg 21) from MI_s hI 21).1; have := (show iv 0 1201 (sg 21) from MI_s hI 21).2; have := (show iv 0 3 (sg 22) from MI_s hI 22).1; have := (show iv 0 3 (sg 22) from MI_s hI 22).2; have := (show iv 0 80 (sg 24) from MI_s hI 24).1; have := (show iv 0 80 (sg 24) from MI_s hI 24).2; have := (show iv 0 1201 (sg 25) from MI_s hI 25).1; have := (show iv 0 1201 (sg 25) from MI_s hI 25).2; have := (hsx1_2).1; have := (hsx1_2).2; have := (hsx2_2).1; have := (hsx2_2).2; have := (h_5).1; have := (h_5).2; have := (h_19).1; have := (h_19).2; have := (hz_9).1; have := (hz_9).2; have := (hz_10).1; have := (hz_10).2; have := (h_12).1; have := (h_12).2; have := (hz_13).1; have := (hz_13).2; have := (h_20).1; have := (h_20).2; have := (hz_21).1; have := (hz_21).2; omega) ((fun i hi => (show i < x3_2.toInt.toNat ∨ i = x3_2.toInt.toNat by have := tz_21; have := i32_0; have := i32_1; have := i32_2; have := i32_m1; have := (show iv 0 1200 (sg 20) from MI_s hI 20).1; have := (show iv 0 1200 (sg 20) from MI_s hI 20).2; have := (show iv 0 1201 (sg 21) from MI_s hI 21).1; have := (show iv 0 1201 (sg 21) from MI_s hI 21).2; have := (show iv 0 3 (sg 22) from MI_s hI 22).1; have := (show iv 0 3 (sg 22) from MI_s hI 22).2; have := (show iv 0 80 (sg 24) from MI_s hI 24).1; have := (show iv 0 80 (sg 24) from MI_s hI 24).2; have := (show iv 0 1201 (sg 25) from MI_s hI 25).1; have := (show iv 0 1201 (sg 25) from MI_s hI 25).2; have := (hsx1_2).1; have := (hsx1_2).2; have := (hsx2_2).1; have := (hsx2_2).2; have := (h_5).1; have := (h_5).2; have := (h_19).1; have := (h_19).2; have := (hz_9).1; have := (hz_9).2; have := (hz_10).1; have := (hz_10).2; have := (h_12).1; have := (h_12).2; have := (hz_13).1; have := (hz_13).2; have := (h_20).1; have := (h_20).2; have := (hz_21).1; have := (hz_21).2; omega).elim (fun q => uA i (by omega)) (fun q => by rw [q, ← (ENT_b (z := z_13) hen hva (by have := i32_0; have := i32_1; have := i32_2; have := i32_m1; have := (show iv 0 1200 (sg 20) from MI_s hI 20).1; have := (show iv 0 1200 (sg 20) from MI_s hI 20).2; have := (show iv 0 1201 (sg 21) from MI_s hI 21).1; have := (show iv 0 1201 (sg 21) from MI_s hI 21).2; have := (show iv 0 3 (sg 22) from MI_s hI 22).1; have := (show iv 0 3 (sg 22) from MI_s hI 22).2; have := (show iv 0 80 (sg 24) from MI_s hI 24).1; have := (show iv 0 80 (sg 24) from MI_s hI 24).2; have := (show iv 0 1201 (sg 25) from MI_s hI 25).1; have := (show iv 0 1201 (sg 25) from MI_s hI 25).2; have := (hsx1_2).1; have := (hsx1_2).2; have := (hsx2_2).1; have := (hsx2_2).2; have := (h_5).1; have := (h_5).2; have := (h_19).1; have := (h_19).2; have := (hz_9).1; have := (hz_9).2; have := (hz_10).1; have := (hz_10).2; have := (h_12).1; have := (h_12).2; have := (hz_13).1; have := (hz_13).2; have := (h_20).1; have := (h_20).2; have := (hz_21).1; have := (hz_21).2; omega) (by have := (ENT_l hen hva).1; have := hbl; have := i32_0; have := i32_1; have := i32_2; have := i32_m1; have := (show iv 0 1200 (sg 20) from MI_s hI 20).1; have := (show iv 0 1200 (sg 20) from MI_s hI 20).2; have := (show iv 0 1201 (sg 21) from MI_s hI 21).1; have := (show iv 0 1201 (sg 21) from MI_s hI 21).2; have := (show iv 0 3 (sg 22) from MI_s hI 22).1; have := (show iv 0 3 (sg 22) from MI_s hI 22).2; have := (show iv 0 80 (sg 24) from MI_s hI 24).1; have := (show iv 0 80 (sg 24) from MI_s hI 24).2; have := (show iv 0 1201 (sg 25) from MI_s hI 25).1; have := (show iv 0 1201 (sg 25) from MI_s hI 25).2; have := (hsx1_2).1; have := (hsx1_2).2; have := (hsx2_2).1; have := (hsx2_2).2; have := (h_5).1; have := (h_5).2; have := (h_19).1; have := (h_19).2; have := (hz_9).1; have := (hz_9).2; have := (hz_10).1; have := (hz_10).2; have := (h_12).1; have := (h_12).2; have := (hz_13).1; have := (hz_13).2; have := (h_20).1; have := (h_20).2; have := (hz_21).1; have := (hz_21).2; omega) (by have q1 := (ENT_l hen hva).1; rw [← ez_9] at q1; have := i32_0; have := i32_1; have := i32_2; have := i32_m1; have := (show iv 0 1200 (sg 20) from MI_s hI 20).1; have := (show iv 0 1200 (sg 20) from MI_s hI 20).2; have := (show iv 0 1201 (sg 21) from MI_s hI 21).1; have := (show iv 0 1201 (sg 21) from MI_s hI 21).2; have := (show iv 0 3 (sg 22) from MI_s hI 22).1; have := (show iv 0 3 (sg 22) from MI_s hI 22).2; have := (show iv 0 80 (sg 24) from MI_s hI 24).1; have := (show iv 0 80 (sg 24) from MI_s hI 24).2; have := (show iv 0 1201 (sg 25) from MI_s hI 25).1; have := (show iv 0 1201 (sg 25) from MI_s hI 25).2; have := (hsx1_2).1; have := (hsx1_2).2; have := (hsx2_2).1; have := (hsx2_2).2; have := (h_5).1; have := (h_5).2; have := (h_19).1; have := (h_19).2; have := (hz_9).1; have := (hz_9).2; have := (hz_10).1; have := (hz_10).2; have := (h_12).1; have := (h_12).2; have := (hz_13).1; have := (hz_13).2; have := (h_20).1; have := (h_20).2; have := (hz_21).1; have := (hz_21).2; omega) (by rw [ez_14, ez_8]) ez_15 ez_16)]; exact hc_r_6.symm.trans (congrArg Int32.toInt c_17)))) _ _ _ hP hD hS (lv_sub hl [0, 1, 2, 3] rfl)
        · refine lv_iconst (v := 0) hx hb dX13_agrees_40 (by decide) ?_
          exact W.zret (v := 0) hx hb hr (iv_nb (iv_w (iv_k (by decide) : iv 0 0 0) (by decide))) (fun t ht hW => ⟨⟨0, (sg, gm, lg), rfl, ⟨(iv_w (iv_k (by decide) : iv 0 0 0) (by decide)), (Or.inl rfl), (Or.inr ⟨rfl, fun q => c_17 (Int32.toInt_inj.mp (hc_r_6.trans ((q x3_2.toInt.toNat (by have := i32_0; have := i32_1; have := i32_2; have := i32_m1; have := (show iv 0 1200 (sg 20) from MI_s hI 20).1; have := (show iv 0 1200 (sg 20) from MI_s hI 20).2; have := (show iv 0 1201 (sg 21) from MI_s hI 21).1; have := (show iv 0 1201 (sg 21) from MI_s hI 21).2; have := (show iv 0 3 (sg 22) from MI_s hI 22).1; have := (show iv 0 3 (sg 22) from MI_s hI 22).2; have := (show iv 0 80 (sg 24) from MI_s hI 24).1; have := (show iv 0 80 (sg 24) from MI_s hI 24).2; have := (show iv 0 1201 (sg 25) from MI_s hI 25).1; have := (show iv 0 1201 (sg 25) from MI_s hI 25).2; have := (hsx1_2).1; have := (hsx1_2).2; have := (hsx2_2).1; have := (hsx2_2).2; have := (h_5).1; have := (h_5).2; have := (hr_6).1; have := (hr_6).2; have := (hz_9).1; have := (hz_9).2; have := (hz_10).1; have := (hz_10).2; have := (h_12).1; have := (h_12).2; have := (hz_13).1; have := (hz_13).2; have := (hz_16).1; have := (hz_16).2; omega)).trans (ENT_b (z := z_13) hen hva (by have := i32_0; have := i32_1; have := i32_2; have := i32_m1; have := (show iv 0 1200 (sg 20) from MI_s hI 20).1; have := (show iv 0 1200 (sg 20) from MI_s hI 20).2; have := (show iv 0 1201 (sg 21) from MI_s hI 21).1; have := (show iv 0 1201 (sg 21) from MI_s hI 21).2; have := (show iv 0 3 (sg 22) from MI_s hI 22).1; have := (show iv 0 3 (sg 22) from MI_s hI 22).2; have := (show iv 0 80 (sg 24) from MI_s hI 24).1; have := (show iv 0 80 (sg 24) from MI_s hI 24).2; have := (show iv 0 1201 (sg 25) from MI_s hI 25).1; have := (show iv 0 1201 (sg 25) from MI_s hI 25).2; have := (hsx1_2).1; have := (hsx1_2).2; have := (hsx2_2).1; have := (hsx2_2).2; have := (h_5).1; have := (h_5).2; have := (hr_6).1; have := (hr_6).2; have := (hz_9).1; have := (hz_9).2; have := (hz_10).1; have := (hz_10).2; have := (h_12).1; have := (h_12).2; have := (hz_13).1; have := (hz_13).2; have := (hz_16).1; have := (hz_16).2; omega) (by have := (ENT_l hen hva).1; have := hbl; have := i32_0; have := i32_1; have := i32_2; have := i32_m1; have := (show iv 0 1200 (sg 20) from MI_s hI 20).1; have := (show iv 0 1200 (sg 20) from MI_s hI 20).2; have := (show iv 0 1201 (sg 21) from MI_s hI 21).1; have := (show iv 0 1201 (sg 21) from MI_s hI 21).2; have := (show iv 0 3 (sg 22) from MI_s hI 22).1; have := (show iv 0 3 (sg 22) from MI_s hI 22).2; have := (show iv 0 80 (sg 24) from MI_s hI 24).1; have := (show iv 0 80 (sg 24) from MI_s hI 24).2; have := (show iv 0 1201 (sg 25) from MI_s hI 25).1; have := (show iv 0 1201 (sg 25) from MI_s hI 25).2; have := (hsx1_2).1; have := (hsx1_2).2; have := (hsx2_2).1; have := (hsx2_2).2; have := (h_5).1; have := (h_5).2; have := (hr_6).1; have := (hr_6).2; have := (hz_9).1; have := (hz_9).2; have := (hz_10).1; have := (hz_10).2; have := (h_12).1; have := (h_12).2; have := (hz_13).1; have := (hz_13).2; have := (hz_16).1; have := (hz_16).2; omega) (by have q1 := (ENT_l hen hva).1; rw [← ez_9] at q1; have := i32_0; have := i32_1; have := i32_2; have := i32_m1; have := (show iv 0 1200 (sg 20) from MI_s hI 20).1; have := (show iv 0 1200 (sg 20) from MI_s hI 20).2; have := (show iv 0 1201 (sg 21) from MI_s hI 21).1; have := (show iv 0 1201 (sg 21) from MI_s hI 21).2; have := (show iv 0 3 (sg 22) from MI_s hI 22).1; have := (show iv 0 3 (sg 22) from MI_s hI 22).2; have := (show iv 0 80 (sg 24) from MI_s hI 24).1; have := (show iv 0 80 (sg 24) from MI_s hI 24).2; have := (show iv 0 1201 (sg 25) from MI_s hI 25).1; have := (show iv 0 1201 (sg 25) from MI_s hI 25).2; have := (hsx1_2).1; have := (hsx1_2).2; have := (hsx2_2).1; have := (hsx2_2).2; have := (h_5).1; have := (h_5).2; have := (hr_6).1; have := (hr_6).2; have := (hz_9).1; have := (hz_9).2; have := (hz_10).1; have := (hz_10).2; have := (h_12).1; have := (h_12).2; have := (hz_13).1; have := (hz_13).2; have := (hz_16).1; have := (hz_16).2; omega) (by rw [ez_14, ez_8]) ez_15 ez_16).symm)))⟩), rfl⟩, by rw [ht]; exact hP, va_K.moved hW.alike hK, hD⟩, hS.F ht⟩) hS.2.2 dX13_agrees_41
  refine lv_iconst (v := 0) hx hb dX13_agrees_0 (by decide) ?_
  refine lv_istore_n (lv' := [(3, .int 0), (0, .ref h0), (1, .int a), (2, .int b)]) hx hb dX13_agrees_1 rfl hl (by decide) rfl (fun ls hl => ?_)
  exact hj2 _ 0 rfl (iv_w (iv_k (by decide) : iv 0 0 0) (by decide)) hva hvb (by have := i32_0; have := i32_1; have := i32_2; have := i32_m1; have := (show iv 0 1200 (sg 20) from MI_s hI 20).1; have := (show iv 0 1200 (sg 20) from MI_s hI 20).2; have := (show iv 0 1201 (sg 21) from MI_s hI 21).1; have := (show iv 0 1201 (sg 21) from MI_s hI 21).2; have := (show iv 0 3 (sg 22) from MI_s hI 22).1; have := (show iv 0 3 (sg 22) from MI_s hI 22).2; have := (show iv 0 80 (sg 24) from MI_s hI 24).1; have := (show iv 0 80 (sg 24) from MI_s hI 24).2; have := (show iv 0 1201 (sg 25) from MI_s hI 25).1; have := (show iv 0 1201 (sg 25) from MI_s hI 25).2; have := (hva).1; have := (hva).2; have := (hvb).1; have := (hvb).2; omega) (by have := i32_0; have := i32_1; have := i32_2; have := i32_m1; have := (show iv 0 1200 (sg 20) from MI_s hI 20).1; have := (show iv 0 1200 (sg 20) from MI_s hI 20).2; have := (show iv 0 1201 (sg 21) from MI_s hI 21).1; have := (show iv 0 1201 (sg 21) from MI_s hI 21).2; have := (show iv 0 3 (sg 22) from MI_s hI 22).1; have := (show iv 0 3 (sg 22) from MI_s hI 22).2; have := (show iv 0 80 (sg 24) from MI_s hI 24).1; have := (show iv 0 80 (sg 24) from MI_s hI 24).2; have := (show iv 0 1201 (sg 25) from MI_s hI 25).1; have := (show iv 0 1201 (sg 25) from MI_s hI 25).2; have := (hva).1; have := (hva).2; have := (hvb).1; have := (hvb).2; omega) ((fun i hi => absurd hi (by have := i32_0; omega))) _ _ _ hP hD hS (lv_sub hl [0, 1, 2, 3] rfl)
