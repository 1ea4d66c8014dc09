theorem dEl_s {D : List El7} {e : Nat} {w : El7} (h : D[e]? = some w) : dEl D e = w := by unfold dEl; rw [h]; rfl
theorem dEl_g {D : List El7} {e : Nat} (h : e < D.length) : D[e]? = some (dEl D e) := by
  unfold dEl
  rw [List.getElem?_eq_getElem h]; rfl
theorem RDR_f {ch : Nat → Int} {D : List El7} {sg : Nat → Int32} {gm : Nat → Nat → Int32} {lg : Nat → Nat → Int64} (h : RDR ch D sg gm lg) {e : Nat} (he : e < D.length) : (gm 28 e).toInt = dAb D e ∧ (gm 31 e).toInt = (dTx D e : Int) ∧ lg 34 e = (dEl D e).2.2.1 ∧ ATR (dAt D e) gm lg e (sg 25).toInt ∧ (dAt D e).length ≤ 12 := by
  obtain ⟨_, a2, a3, a4, a5, a6, _⟩ := h.2 e _ (dEl_g he)
  exact ⟨a2, a6, a3, a4, a5⟩
/-- the kinds as the names tell them -/
def KN7 (D : List El7) (gm : Nat → Nat → Int32) (n : Nat) : Prop := ∀ k, k < n → (gm 26 k).toInt = dKd D k
theorem cn_e {D : List El7} {f : Nat → Int32} {k : Nat} : ∀ n, n ≤ D.length → (∀ j, j < D.length → (f j).toInt = dAb D j) → cntA f k n = cnD (dAb D) (k : Int) n := by
  intro n
  induction n with
  | zero => intro _ _; rfl
  | succ n ih =>
    intro h1 h2
    show cntA f k n + (if (f n).toInt = (k : Int) then 1 else 0) = cnD (dAb D) (k : Int) n + (if dAb D n = (k : Int) then 1 else 0)
    rw [ih (by omega) h2, h2 n (by omega)]
theorem ah_e {D : List El7} {gm : Nat → Nat → Int32} {lg : Nat → Nat → Int64} {f : Int} {x : Nat} (hx : x < D.length) (h28 : ∀ j, j < D.length → (gm 28 j).toInt = dAb D j) (h26 : ∀ j, j < D.length → (gm 26 j).toInt = dKd D j) (hW : ∀ j, j < D.length → mWord gm lg j 1851878757 = aW (dAt D j) 1851878757) : ∀ n, n ≤ D.length → ahF gm lg f x n = ahD D f x n := by
  intro n
  induction n with
  | zero => intro _; rfl
  | succ n ih =>
    intro h1
    have e : AQ7 gm lg f x n ↔ AQD D f x n := by
      unfold AQ7 AQD
      rw [h28 n (by omega), h28 x hx, h26 n (by omega), h26 x hx, hW n (by omega), hW x hx]
    show ahF gm lg f x n + (if AQ7 gm lg f x n then 1 else 0) = ahD D f x n + (if AQD D f x n then 1 else 0)
    rw [ih (by omega)]
    by_cases h : AQD D f x n
    · rw [if_pos h, if_pos (e.mpr h)]
    · rw [if_neg h, if_neg (fun q => h (e.mp q))]
theorem ahN_e {gm : Nat → Nat → Int32} {lg : Nat → Nat → Int64} {x : Nat} : ∀ n, ahN gm x n = ahF gm lg 0 x n := by
  intro n
  induction n with
  | zero => rfl
  | succ n ih =>
    have e : (gm 28 n = gm 28 x ∧ gm 26 n = gm 26 x) ↔ AQ7 gm lg 0 x n := by
      unfold AQ7
      rw [Int32.toInt_inj, Int32.toInt_inj]
      exact ⟨fun h => ⟨h.1, h.2, Or.inl rfl⟩, fun h => ⟨h.1, h.2.1⟩⟩
    show ahN gm x n + (if gm 28 n = gm 28 x ∧ gm 26 n = gm 26 x then 1 else 0) = ahF gm lg 0 x n + (if AQ7 gm lg 0 x n then 1 else 0)
    rw [ih]
    by_cases h : AQ7 gm lg 0 x n
    · rw [if_pos h, if_pos (e.mpr h)]
    · rw [if_neg h, if_neg (fun q => h (e.mp q))]
/-- all that rows and list have in common for an element -/
def RL7 (D : List El7) (gm : Nat → Nat → Int32) (lg : Nat → Nat → Int64) (x : Nat) : Prop := (∀ nn, mWord gm lg x nn = aW (dAt D x) nn) ∧ (∀ nn, (mIsW gm lg x nn).toInt = aI (dAt D x) nn) ∧ (∀ nn, (mHas gm lg x nn).toInt = aH (dAt D x) nn) ∧ (gm 28 x).toInt = dAb D x ∧ (gm 31 x).toInt = (dTx D x : Int) ∧ (gm 29 x).toInt = (dCn D x : Int) ∧ (gm 30 x).toNatClampNeg = (dAt D x).length ∧ (∀ k, k < (dAt D x).length → lg 35 (12 * x + k) = dAy D x k)
theorem RL_of {ch : Nat → Int} {D : List El7} {sg : Nat → Int32} {gm : Nat → Nat → Int32} {lg : Nat → Nat → Int64} (h : RDR ch D sg gm lg) (hT : TRE sg gm) (h80 : D.length ≤ 80) {x : Nat} (hx : x < D.length) : RL7 D gm lg x := by
  obtain ⟨a1, a2, a3, a4, a5⟩ := RDR_f h hx
  have hn : (sg 24).toNatClampNeg = D.length := by have := h.1; show (sg 24).toInt.toNat = _; omega
  have hw := fun nn => m_W (nn := nn) a4 (by omega) a5
  refine ⟨fun nn => (hw nn).1, fun nn => (hw nn).2.1, fun nn => (hw nn).2.2, a1, a2, ?_, ?_, ?_⟩
  · rw [hT.2 x (by omega), hn, cn_e D.length (Nat.le_refl _) (fun j hj => (RDR_f h hj).1)]; rfl
  · have := a4.1; show (gm 30 x).toInt.toNat = _; omega
  · intro k hk
    unfold dAy
    rw [List.getElem?_eq_getElem hk]
    exact (a4.2 k _ (List.getElem?_eq_getElem hk)).1
theorem GR_e {D : List El7} {gm : Nat → Nat → Int32} {lg : Nat → Nat → Int64} {x : Nat} (hx : x < D.length) (hR : ∀ j, j < D.length → RL7 D gm lg j) (hK : KN7 D gm D.length) (hA : ∀ j, j < D.length → dAb D j < (j : Int) ∧ -1 ≤ dAb D j) : GOOD7 gm lg x ↔ GOODR D x := by
  obtain ⟨hW, hI, hH, h28, h31, h29, h30, h35⟩ := hR x hx
  have h26 := hK x hx
  have hA' := hA x hx
  have hix : (gm 28 x).toNatClampNeg = (dAb D x).toNat := by show (gm 28 x).toInt.toNat = _; rw [h28]
  have h26a : (gm 26 (gm 28 x).toNatClampNeg).toInt = dKd D (dAb D x).toNat := by rw [hix]; exact hK _ (by omega)
  have hab : abk gm x = dIn D x := by unfold abk dIn; rw [h28, h26a]
  have hah : ∀ f, ahF gm lg f x x = ahD D f x x := fun f => ah_e hx (fun j hj => (hR j hj).2.2.2.1) hK (fun j hj => (hR j hj).1 _) x (by omega)
  unfold GOOD7 GOODR
  refine and_congr ?_ ?_
  · unfold COM7 CMR
    rw [h26, hab, h31]
    refine and_congr Iff.rfl ?_
    constructor
    · intro h k h0 hk
      have := h k h0 (by rw [h30]; exact hk)
      rw [h35 k hk] at this
      exact this
    · intro h k h0 hk
      rw [h30] at hk
      rw [h35 k hk]
      exact h k h0 hk
  · unfold GK7 GKR
    simp only [hW, hI, hH, h26, h26a, h29, hah]
theorem h_0 {gm : Nat → Nat → Int32} {lg : Nat → Nat → Int64} {x : Nat} {nn : Int64} {a : Int} (h : (mHas gm lg x nn).toInt = a) : mHas gm lg x nn = 0 ↔ a = 0 := by
  rw [← h]
  exact ⟨fun q => by rw [q]; rfl, fun q => Int32.toInt_inj.mp q⟩
theorem HOLD_e {D : List El7} {gm : Nat → Nat → Int32} {lg : Nat → Nat → Int64} {x : Nat} (hR : RL7 D gm lg x) (h : aH (dAt D x) 508440638821 + aH (dAt D x) 7497062 + (dCn D x : Int) = 1) : HOLD gm lg x := by
  unfold HOLD
  rw [h_0 (hR.2.2.1 508440638821), h_0 (hR.2.2.1 7497062), hR.2.2.2.2.2.1]
  have h1 := aH_01 (q := dAt D x) (k := 508440638821)
  have h2 := aH_01 (q := dAt D x) (k := 7497062)
  omega
theorem GOOD_of {D : List El7} {gm : Nat → Nat → Int32} {lg : Nat → Nat → Int64} {x : Nat} (hP : PD7 D) (hx : x < D.length) (hR : ∀ j, j < D.length → RL7 D gm lg j) (hK : KN7 D gm D.length) (g : GOODR D x) : GOOD gm lg x := by
  have hq := dAt_pv (x := x) hP
  have h26 := hK x hx
  have hah : ∀ f, ahF gm lg f x x = ahD D f x x := fun f => ah_e hx (fun j hj => (hR j hj).2.2.2.1) hK (fun j hj => (hR j hj).1 _) x (by omega)
  have hOL : aI (dAt D x) 1851878757 = 1 ∧ (aW (dAt D x) 1851878757).toInt < 256 → OL gm lg x 1851878757 := by
    intro w
    unfold OL
    rw [(hR x hx).1]
    have := lv7_a (k := 1851878757) hq
    omega
  by_cases k4 : dKd D x = 4
  · have p := (GKR_4 k4).mp g.2
    refine GOOD_4 (by omega) (HOLD_e (hR x hx) p.1.1.1) ?_ ?_
    · rw [ahN_e (lg := lg), hah]; have := p.1.2.1; omega
    · rw [h_0 ((hR x hx).2.2.1 24948), (hR x hx).1]; exact p.1.2.2
  · by_cases k5 : dKd D x = 5
    · have p := (GKR_5 k5).mp g.2
      exact GOOD_5 (by omega) (HOLD_e (hR x hx) p.1.1) (hOL p.2.1)
    · by_cases k6 : dKd D x = 6
      · have p := (GKR_6 k6).mp g.2
        exact GOOD_6 (by omega) (by rw [(hR x hx).2.2.2.2.2.1]; exact p)
      · by_cases k10 : dKd D x = 10
        · have p := (GKR_10 k10).mp g.2
          exact GOOD_10 (by omega) (hOL p.1)
        · exact GOOD_o (by omega)
