/-- a word of the class as a kind -/
def kwF (w : Int) : Int := if w = 0 then 1 else if w = 1 then 2 else if w = 2 then 3 else if w = 3 then 4 else if w = 4 then 5 else if w = 5 then 10 else if w = 6 then 6 else if w = 7 then 7 else if w = 8 then 8 else if w = 9 then 9 else 0
def KW7 (w kd : Int) : Prop := kwF w = kd
theorem kw7_n : ∀ n : Nat, n < 34 → kwF (n : Int) = kd7 (wKy.getD n 0).toInt := by decide
theorem kwF_0 {w : Int} (h : w < 0 ∨ 9 < w) : kwF w = 0 := by
  unfold kwF
  rw [if_neg (show ¬ w = 0 by omega), if_neg (show ¬ w = 1 by omega), if_neg (show ¬ w = 2 by omega), if_neg (show ¬ w = 3 by omega), if_neg (show ¬ w = 4 by omega), if_neg (show ¬ w = 5 by omega), if_neg (show ¬ w = 6 by omega), if_neg (show ¬ w = 7 by omega), if_neg (show ¬ w = 8 by omega), if_neg (show ¬ w = 9 by omega)]
def wkF (k : Int) : Int := if k = 1 then 0 else if k = 2 then 1 else if k = 3 then 2 else if k = 4 then 3 else if k = 5 then 4 else if k = 10 then 5 else if k = 6 then 6 else if k = 7 then 7 else if k = 8 then 8 else if k = 9 then 9 else -1
theorem kwF_i {w : Int} (h : 1 ≤ kwF w) : w = wkF (kwF w) := by
  by_cases h0 : w = 0
  · subst h0; decide
  by_cases h1 : w = 1
  · subst h1; decide
  by_cases h2 : w = 2
  · subst h2; decide
  by_cases h3 : w = 3
  · subst h3; decide
  by_cases h4 : w = 4
  · subst h4; decide
  by_cases h5 : w = 5
  · subst h5; decide
  by_cases h6 : w = 6
  · subst h6; decide
  by_cases h7 : w = 7
  · subst h7; decide
  by_cases h8 : w = 8
  · subst h8; decide
  by_cases h9 : w = 9
  · subst h9; decide
  rw [kwF_0 (by omega)] at h
  omega
theorem kd7_0 {k : Int} (h : ∀ j, j < 34 → ¬ (wKy.getD j 0).toInt = k) : kd7 k = 0 := by
  unfold kd7
  have a0 : ¬ k = 422607679091 := fun q => h 0 (by decide) (by rw [q]; decide)
  have a1 : ¬ k = 418430673267 := fun q => h 1 (by decide) (by rw [q]; decide)
  have a2 : ¬ k = 1650811246 := fun q => h 2 (by decide) (by rw [q]; decide)
  have a3 : ¬ k = 6386279 := fun q => h 3 (by decide) (by rw [q]; decide)
  have a4 : ¬ k = 7562612 := fun q => h 4 (by decide) (by rw [q]; decide)
  have a5 : ¬ k = 119225866483056 := fun q => h 5 (by decide) (by rw [q]; decide)
  have a6 : ¬ k = 1818850164 := fun q => h 6 (by decide) (by rw [q]; decide)
  have a7 : ¬ k = 508440638821 := fun q => h 7 (by decide) (by rw [q]; decide)
  have a8 : ¬ k = 7497062 := fun q => h 8 (by decide) (by rw [q]; decide)
  have a9 : ¬ k = 1853189228 := fun q => h 9 (by decide) (by rw [q]; decide)
  rw [if_neg a0, if_neg a1, if_neg a2, if_neg a3, if_neg a4, if_neg a6, if_neg a7, if_neg a8, if_neg a9, if_neg a5]
theorem WKR_k {r : Int32} {k : Int64} (h : WKR r k) : KW7 r.toInt (kd7 k.toInt) := by
  rcases h with ⟨a1, a2, a3⟩ | ⟨a1, a2⟩
  · have q : ((r.toNatClampNeg : Nat) : Int) = r.toInt := by show ((r.toInt.toNat : Nat) : Int) = _; omega
    have := kw7_n r.toNatClampNeg (by omega)
    rw [a3, q] at this
    exact this
  · have := kd7_0 (k := k.toInt) (fun j hj q => a2 j hj (Int64.toInt_inj.mp q))
    unfold KW7
    rw [this, kwF_0 (by omega)]
theorem cn_r {f g : Nat → Int} {e : Int} : ∀ n, (∀ j, j < n → f j = g j) → cnR f e n = cnD g e n := by
  intro n
  induction n with
  | zero => intro _; rfl
  | succ n ih =>
    intro h
    show cnR f e n + (if f n = e then 1 else 0) = cnD g e n + (if g n = e then 1 else 0)
    rw [ih (fun j hj => h j (by omega)), h n (by omega)]
/-- an element of the class by the list -/
def EV7 (D : List El7) (sg : Nat → Int32) (gm : Nat → Nat → Int32) (lg : Nat → Nat → Int64) (j : Nat) : Prop := KW7 (gm 14 j).toInt (dKd D j) ∧ ATC (dAt D j) gm lg j (sg 5).toInt (sg 6).toInt ∧ ((gm 15 j).toInt = dAb D j ∧ -1 ≤ dAb D j) ∧ (0 ≤ dAb D j → KW7 (gm 14 (gm 15 j).toNatClampNeg).toInt (dIn D j)) ∧ (gm 11 j).toInt = (dTx D j : Int) ∧ (gm 18 j).toInt = (dCn D j : Int)
theorem RDC_f {D : List El7} {sg : Nat → Int32} {gm : Nat → Nat → Int32} {lg : Nat → Nat → Int64} (h : RDC D sg gm lg) {j : Nat} (hj : j < D.length) : (gm 15 j).toInt = dAb D j ∧ WKR (gm 14 j) (dEl D j).2.2.1 ∧ ATC (dAt D j) gm lg j (sg 5).toInt (sg 6).toInt ∧ (gm 11 j).toInt = (dTx D j : Int) := by
  obtain ⟨_, a2, a3, a4, _, a6, _⟩ := h.2.2 j _ (dEl_g hj)
  exact ⟨a2, a3, a4, a6⟩
theorem RDC_n {D : List El7} {sg : Nat → Int32} {gm : Nat → Nat → Int32} {lg : Nat → Nat → Int64} (h : RDC D sg gm lg) : (sg 4).toNatClampNeg = D.length := by have := h.1; show (sg 4).toInt.toNat = _; omega
theorem EV_of {D : List El7} {sg : Nat → Int32} {gm : Nat → Nat → Int32} {lg : Nat → Nat → Int64} (h : RDC D sg gm lg) {j : Nat} (hj : j < D.length) : EV7 D sg gm lg j := by
  obtain ⟨a1, a2, a3, a4⟩ := RDC_f h hj
  have hn := RDC_n h
  obtain ⟨b1, b2, b3, b4, b5⟩ := h.2.1 j (by omega)
  refine ⟨WKR_k a2, a3, ⟨a1, by omega⟩, fun h0 => ?_, a4, ?_⟩
  · have e : (gm 15 j).toNatClampNeg = (dAb D j).toNat := by show (gm 15 j).toInt.toNat = _; rw [a1]
    rw [e]
    have := WKR_k (RDC_f h (show (dAb D j).toNat < D.length by omega)).2.1
    unfold dIn
    rw [if_neg (by omega)]
    exact this
  · rw [b5, hn]
    unfold dCn
    rw [cn_r D.length (fun i hi => (RDC_f h hi).1)]
theorem KW_f {w k k2 : Int} (h : KW7 w k) (h2 : KW7 w k2) : k = k2 := h.symm.trans h2
theorem KW_i {w w2 k : Int} (h : KW7 w k) (h2 : KW7 w2 k) (h1 : 1 ≤ k) : w = w2 := by
  unfold KW7 at h h2
  rw [kwF_i (w := w) (by omega), kwF_i (w := w2) (by omega), h, h2]
theorem KW_j {w k : Int} (h : KW7 w k) (h1 : 1 ≤ k) : w = wkF k := by
  unfold KW7 at h
  rw [kwF_i (w := w) (by omega), h]
theorem ISI_d {D : List El7} {sg : Nat → Int32} {gm : Nat → Nat → Int32} {lg : Nat → Nat → Int64} {j : Nat} (h : EV7 D sg gm lg j) {a : Int32} {K : Int} (ha : KW7 a.toInt K) (h1 : 1 ≤ K) : ISI gm j a ↔ dIn D j = K := by
  obtain ⟨_, _, ⟨b1, b2⟩, b3, _⟩ := h
  constructor
  · rintro ⟨c1, c2⟩
    have := b3 (by omega)
    rw [c2] at this
    exact KW_f this ha
  · intro e
    have h0 : 0 ≤ dAb D j := by
      by_cases q : dAb D j = -1
      · unfold dIn at e; rw [if_pos q] at e; omega
      · omega
    have := b3 h0
    rw [e] at this
    exact ⟨by omega, Int32.toInt_inj.mp (KW_i this ha h1)⟩
theorem swy {y z : Int32} (j i : Nat) (hd : ∀ n, n < 34 → (wSw.getD n 0).toInt = (i : Int) → n = j) (hy : iv 0 33 y) (e : z = wSw.getD y.toNatClampNeg 0) (h : z.toInt = (i : Int)) : y.toInt = (j : Int) := by
  have q1 := iv_cl hy (by decide)
  have q2 := hy.2
  rw [e] at h
  have := hd y.toNatClampNeg (by omega) h
  omega
theorem wkz {w : Int32} {x : Int} {j : Nat} (hw : iv 0 33 w) (h : w.toInt = (j : Int)) (e : (wKy.getD j 0).toInt = x) : (wKy.getD w.toNatClampNeg 0).toInt = x := by
  have q1 := iv_cl hw (by decide)
  rw [show w.toNatClampNeg = j by omega]
  exact e
theorem wkn {w : Int32} {x : Int} {j : Nat} (hd : ∀ n, n < 34 → (wKy.getD n 0).toInt = x → n = j) (hw : iv 0 33 w) (h : ¬ w.toInt = (j : Int)) : ¬ (wKy.getD w.toNatClampNeg 0).toInt = x := fun q => by
  have q1 := iv_cl hw (by decide)
  have q2 := hw.2
  have := hd w.toNatClampNeg (by omega) q
  omega
