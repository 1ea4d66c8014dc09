
theorem LVP_e {gm gm2 : Nat → Nat → Int32} {lg lg2 : Nat → Nat → Int64} {j : Nat} {k : Int64} (h : LVP gm lg j k) (h19 : gm2 19 = gm 19) (h20 : gm2 20 = gm 20) (h44 : gm2 44 = gm 44) (h45 : gm2 45 = gm 45) (h46 : gm2 46 = gm 46) (h0 : lg2 0 = lg 0) : LVP gm2 lg2 j k := by
  unfold LVP FND at *; rw [h19, h20, h44, h45, h46, h0]; exact h
theorem SOK_e {gm gm2 : Nat → Nat → Int32} {lg lg2 : Nat → Nat → Int64} {j : Nat} (h : SOK gm lg j) (h14 : gm2 14 = gm 14) (h15 : gm2 15 = gm 15) (h19 : gm2 19 = gm 19) (h20 : gm2 20 = gm 20) (h44 : gm2 44 = gm 44) (h45 : gm2 45 = gm 45) (h46 : gm2 46 = gm 46) (h0 : lg2 0 = lg 0) : SOK gm2 lg2 j := by
  unfold SOK HOK LVP FND ISI HSK at *; rw [h14, h15, h19, h20, h44, h45, h46, h0]; exact h
/-- an element that is settled -/
def STL (sg : Nat → Int32) (gm : Nat → Nat → Int32) (lg : Nat → Nat → Int64) (o : Nat) : Prop :=
  0 ≤ (gm 25 o).toInt ∧ (¬ (gm 14 o).toInt = 3 → ¬ (gm 14 o).toInt = 4 → gm 25 o = gm 14 o) ∧
  ((gm 14 o).toInt = 3 ∨ (gm 14 o).toInt = 4 → (0 ≤ (gm 16 o).toInt ∧ gm 26 o = gm 16 o) ∨ ((gm 26 o).toInt = (o : Int) ∧ ((gm 25 o).toInt = 7 ∨ (gm 25 o).toInt = 8))) ∧
  ((gm 14 o).toInt = 4 → 0 ≤ (gm 22 o).toInt) ∧
  ((gm 27 o).toInt = -1 ∨ ((gm 14 o).toInt = 2 ∧ (gm 27 o).toInt < (sg 12).toInt ∧ (lg 4 (gm 27 o).toNatClampNeg = 0 ∨ HSK gm lg o (wKy.getD 10 0))))
/-- what settling an element leaves of the others -/
def SFR (gm gm2 : Nat → Nat → Int32) (o : Nat) : Prop := ∀ j, j ≠ o → gm2 25 j = gm 25 j ∧ gm2 26 j = gm 26 j ∧ gm2 22 j = gm 22 j ∧ gm2 27 j = gm 27 j
/-- no bean begins, or the next one -/
def BBG (sg sg2 : Nat → Int32) (gm gm2 : Nat → Nat → Int32) (lg lg2 : Nat → Nat → Int64) (o : Int32) : Prop :=
  (sg2 12 = sg 12 ∧ gm2 29 = gm 29 ∧ gm2 37 = gm 37 ∧ gm2 38 = gm 38 ∧ gm2 41 = gm 41 ∧ lg2 4 = lg 4) ∨
  ((sg2 12).toInt = (sg 12).toInt + 1 ∧ gm2 29 = upd (gm 29) (sg 12).toNatClampNeg o ∧ gm2 37 = upd (gm 37) (sg 12).toNatClampNeg 0 ∧ gm2 38 = upd (gm 38) (sg 12).toNatClampNeg 0 ∧ gm2 41 = upd (upd (upd (gm 41) (3 * (sg 12).toNatClampNeg + 0) 0) (3 * (sg 12).toNatClampNeg + 1) 0) (3 * (sg 12).toNatClampNeg + 2) 0 ∧ ∃ id9 : Int64, lg2 4 = vp_updL (lg 4) (sg 12).toNatClampNeg id9)
theorem BBG_0 {sg sg2 : Nat → Int32} {gm gm2 : Nat → Nat → Int32} {lg lg2 : Nat → Nat → Int64} {o : Int32} (h12 : sg2 12 = sg 12) (h29 : gm2 29 = gm 29) (h37 : gm2 37 = gm 37) (h38 : gm2 38 = gm 38) (h41 : gm2 41 = gm 41) (h4 : lg2 4 = lg 4) : BBG sg sg2 gm gm2 lg lg2 o := Or.inl ⟨h12, h29, h37, h38, h41, h4⟩
/-- neither arg nor set nor bean -/
theorem STL_k {sg2 : Nat → Int32} {gm gm2 : Nat → Nat → Int32} {lg lg2 : Nat → Nat → Int64} {o : Nat} (hw : SOK gm lg o) (hb : gm 27 o = -1) (h14 : gm2 14 = gm 14) (h25 : gm2 25 = upd (gm 25) o (gm 14 o)) (h27 : gm2 27 = gm 27) (n3 : ¬ (gm 14 o).toInt = 3) (n4 : ¬ (gm 14 o).toInt = 4) : STL sg2 gm2 lg2 o := by
  unfold STL
  rw [h14, h25, h27, upd_at, hb]
  exact ⟨hw.1, fun _ _ => rfl, fun q => by omega, fun q => absurd q n4, Or.inl (by decide)⟩
theorem SFR_k {gm gm2 : Nat → Nat → Int32} {o : Nat} {w : Int32} (h25 : gm2 25 = upd (gm 25) o w) (h26 : gm2 26 = gm 26) (h22 : gm2 22 = gm 22) (h27 : gm2 27 = gm 27) : SFR gm gm2 o := fun j hj => by
  rw [h25, h26, h22, h27, upd_ne hj]; exact ⟨rfl, rfl, rfl, rfl⟩
theorem SFR_l {gm gm2 : Nat → Nat → Int32} {o : Nat} {w l : Int32} (h25 : gm2 25 = upd (gm 25) o w) (h26 : gm2 26 = gm 26) (h22 : gm2 22 = upd (gm 22) o l) (h27 : gm2 27 = gm 27) : SFR gm gm2 o := fun j hj => by
  rw [h25, h26, h22, h27, upd_ne hj, upd_ne hj]; exact ⟨rfl, rfl, rfl, rfl⟩
theorem SFR_b {gm gm2 : Nat → Nat → Int32} {o : Nat} {w l : Int32} (h25 : gm2 25 = upd (gm 25) o w) (h26 : gm2 26 = gm 26) (h22 : gm2 22 = gm 22) (h27 : gm2 27 = upd (gm 27) o l) : SFR gm gm2 o := fun j hj => by
  rw [h25, h26, h22, h27, upd_ne hj, upd_ne hj]; exact ⟨rfl, rfl, rfl, rfl⟩
/-- arg and set -/
theorem STL_a {sg2 : Nat → Int32} {gm gm1 gm2 : Nat → Nat → Int32} {lg lg2 : Nat → Nat → Int64} {o : Int32} (ho : 0 ≤ o.toInt) (hw : SOK gm lg o.toNatClampNeg) (hb : gm 27 o.toNatClampNeg = -1) (h14 : gm2 14 = gm 14) (h16 : gm2 16 = gm 16) (h25 : gm1 25 = upd (gm 25) o.toNatClampNeg (gm 14 o.toNatClampNeg)) (h26 : gm1 26 = gm 26) (h16b : gm1 16 = gm 16) (h27 : gm2 27 = gm 27)
    (hC : ∃ c9 : Int32, gm2 26 = upd (gm1 26) o.toNatClampNeg c9 ∧ ((0 ≤ (gm1 16 o.toNatClampNeg).toInt ∧ c9 = gm1 16 o.toNatClampNeg) ∨ ((gm1 16 o.toNatClampNeg).toInt < 0 ∧ c9 = o)))
    (hK : (0 ≤ (gm1 16 o.toNatClampNeg).toInt ∧ gm2 25 = gm1 25) ∨ ((gm1 16 o.toNatClampNeg).toInt < 0 ∧ (gm2 25 = upd (gm1 25) o.toNatClampNeg 7 ∨ gm2 25 = upd (gm1 25) o.toNatClampNeg 8)))
    (h34 : (gm 14 o.toNatClampNeg).toInt = 3 ∨ (gm 14 o.toNatClampNeg).toInt = 4) (h4 : (gm 14 o.toNatClampNeg).toInt = 4 → 0 ≤ (gm2 22 o.toNatClampNeg).toInt) : STL sg2 gm2 lg2 o.toNatClampNeg := by
  have e7 : (7 : Int32).toInt = 7 := by decide
  have e8 : (8 : Int32).toInt = 8 := by decide
  obtain ⟨c9, e26, hc⟩ := hC
  rw [h16b] at hc hK
  have k1 := cl_0 ho
  have hw0 := hw.1
  unfold STL
  rw [h14, h16, h27, e26, upd_at, hb]
  refine ⟨?_, fun q1 q2 => by omega, fun _ => ?_, h4, Or.inl (by decide)⟩
  · rcases hK with ⟨-, q⟩ | ⟨-, q | q⟩
    · rw [q, h25, upd_at]; exact hw0
    · rw [q, upd_at, e7]; decide
    · rw [q, upd_at, e8]; decide
  · rcases hc with ⟨q1, q2⟩ | ⟨q1, q2⟩
    · exact Or.inl ⟨q1, q2⟩
    · refine Or.inr ⟨by rw [q2]; omega, ?_⟩
      rcases hK with ⟨q3, -⟩ | ⟨-, q | q⟩
      · omega
      · rw [q, upd_at]; exact Or.inl e7
      · rw [q, upd_at]; exact Or.inr e8
theorem SFR_a {gm gm1 gm2 : Nat → Nat → Int32} {o : Int32} {w : Int32} (h25 : gm1 25 = upd (gm 25) o.toNatClampNeg w) (h26 : gm1 26 = gm 26) (h27 : gm2 27 = gm 27)
    (hC : ∃ c9 : Int32, gm2 26 = upd (gm1 26) o.toNatClampNeg c9 ∧ ((0 ≤ (gm1 16 o.toNatClampNeg).toInt ∧ c9 = gm1 16 o.toNatClampNeg) ∨ ((gm1 16 o.toNatClampNeg).toInt < 0 ∧ c9 = o)))
    (hK : (0 ≤ (gm1 16 o.toNatClampNeg).toInt ∧ gm2 25 = gm1 25) ∨ ((gm1 16 o.toNatClampNeg).toInt < 0 ∧ (gm2 25 = upd (gm1 25) o.toNatClampNeg 7 ∨ gm2 25 = upd (gm1 25) o.toNatClampNeg 8)))
    (h22 : gm2 22 = gm 22 ∨ ∃ l9, gm2 22 = upd (gm 22) o.toNatClampNeg l9) : SFR gm gm2 o.toNatClampNeg := fun j hj => by
  obtain ⟨c9, e26, -⟩ := hC
  refine ⟨?_, by rw [e26, upd_ne hj, h26], ?_, by rw [h27]⟩
  · rcases hK with ⟨-, q⟩ | ⟨-, q | q⟩
    · rw [q, h25, upd_ne hj]
    · rw [q, upd_ne hj, h25, upd_ne hj]
    · rw [q, upd_ne hj, h25, upd_ne hj]
  · rcases h22 with q | ⟨l9, q⟩
    · rw [q]
    · rw [q, upd_ne hj]
/-- a bean -/
theorem STL_b {sg2 : Nat → Int32} {gm gm1 gm2 : Nat → Nat → Int32} {lg lg1 lg2 : Nat → Nat → Int64} {o : Nat} {c : Int32} (hw : SOK gm lg o) (h14 : gm2 14 = gm 14) (h19 : gm2 19 = gm 19) (h20 : gm2 20 = gm 20) (h25 : gm2 25 = upd (gm 25) o (gm 14 o)) (h27 : gm2 27 = upd (gm 27) o c) (hc0 : 0 ≤ c.toInt) (h2 : (gm 14 o).toInt = 2) (hc : c.toInt < (sg2 12).toInt) (hl0 : lg2 0 = lg 0)
    (hid : ∃ id9 : Int64, lg2 4 = vp_updL (lg1 4) c.toNatClampNeg id9 ∧ (id9 = 0 ∨ HSK gm1 lg1 o (wKy.getD 10 0))) (h19b : gm1 19 = gm 19) (h20b : gm1 20 = gm 20) (hl0b : lg1 0 = lg 0) : STL sg2 gm2 lg2 o := by
  obtain ⟨id9, e4, hd⟩ := hid
  unfold STL
  rw [h14, h25, h27, upd_at, upd_at]
  refine ⟨hw.1, fun _ _ => rfl, fun q => by omega, fun q => by omega, Or.inr ⟨h2, hc, ?_⟩⟩
  rw [e4, pk_uLs]
  rcases hd with q | q
  · exact Or.inl q
  · exact Or.inr (HSK_e q (h19.trans h19b.symm) (h20.trans h20b.symm) (hl0.trans hl0b.symm))
theorem BBG_1 {sg sg2 : Nat → Int32} {gm gm1 gm2 : Nat → Nat → Int32} {lg lg1 lg2 : Nat → Nat → Int64} {o : Int32} (h12 : (sg2 12).toInt = (sg 12).toInt + 1) (e29 : gm1 29 = gm 29) (e37 : gm1 37 = gm 37) (e38 : gm1 38 = gm 38) (e41 : gm1 41 = gm 41) (e4 : lg1 4 = lg 4) (fE : gm2 29 = upd (gm1 29) (sg 12).toNatClampNeg o) (f37 : gm2 37 = upd (gm1 37) (sg 12).toNatClampNeg 0) (f38 : gm2 38 = upd (gm1 38) (sg 12).toNatClampNeg 0) (fS : gm2 41 = upd (upd (upd (gm1 41) (3 * (sg 12).toNatClampNeg + 0) 0) (3 * (sg 12).toNatClampNeg + 1) 0) (3 * (sg 12).toNatClampNeg + 2) 0) {P : Int64 → Prop} (fI : ∃ id9 : Int64, lg2 4 = vp_updL (lg1 4) (sg 12).toNatClampNeg id9 ∧ P id9) : BBG sg sg2 gm gm2 lg lg2 o := by
  obtain ⟨id9, e9, -⟩ := fI
  rw [e29] at fE; rw [e37] at f37; rw [e38] at f38; rw [e41] at fS; rw [e4] at e9
  exact Or.inr ⟨h12, fE, f37, f38, fS, id9, e9⟩
/-- the beans that have begun -/
def BGN (sg : Nat → Int32) (gm : Nat → Nat → Int32) : Prop := ∀ c, c < (sg 12).toNatClampNeg → (0 ≤ (gm 29 c).toInt ∧ (gm 29 c).toInt < (sg 4).toInt) ∧ (gm 37 c = 0 ∧ gm 38 c = 0) ∧ gm 41 (3 * c + 0) = 0 ∧ gm 41 (3 * c + 1) = 0 ∧ gm 41 (3 * c + 2) = 0
theorem BGN_s {sg sg2 : Nat → Int32} {gm gm2 : Nat → Nat → Int32} {lg lg2 : Nat → Nat → Int64} {o : Int32} (h : BGN sg gm) (hb : BBG sg sg2 gm gm2 lg lg2 o) (h0 : 0 ≤ (sg 12).toInt) (h4 : sg2 4 = sg 4) (ho : 0 ≤ o.toInt ∧ o.toInt < (sg 4).toInt) : BGN sg2 gm2 := fun c hc => by
  rcases hb with ⟨e12, e29, e37, e38, e41, -⟩ | ⟨e12, e29, e37, e38, e41, -⟩
  · rw [e12] at hc; rw [e29, e37, e38, e41, h4]; exact h c hc
  · have k1 := cl_0 h0
    have k2 := cl_0 (x := sg2 12) (by omega)
    rw [e29, e37, e38, e41, h4]
    by_cases e9 : c = (sg 12).toNatClampNeg
    · subst e9
      rw [upd_at, upd_at, upd_at, upd_at]
      refine ⟨ho, ⟨rfl, rfl⟩, ?_, ?_, rfl⟩
      · rw [upd_ne (by omega), upd_ne (by omega), upd_at]
      · rw [upd_ne (by omega), upd_at]
    · obtain ⟨a1, a2, a3, a4, a5⟩ := h c (by omega)
      rw [upd_ne e9, upd_ne e9, upd_ne e9]
      refine ⟨a1, a2, ?_, ?_, ?_⟩
      · rw [upd_ne (by omega), upd_ne (by omega), upd_ne (by omega)]; exact a3
      · rw [upd_ne (by omega), upd_ne (by omega), upd_ne (by omega)]; exact a4
      · rw [upd_ne (by omega), upd_ne (by omega), upd_ne (by omega)]; exact a5
theorem STL_s {sg sg2 : Nat → Int32} {gm gm2 : Nat → Nat → Int32} {lg lg2 : Nat → Nat → Int64} {o : Int32} {j : Nat} (h : STL sg gm lg j) (hI : CI sg gm) (hj8 : j < 80) (hj : j ≠ o.toNatClampNeg) (hf : SFR gm gm2 o.toNatClampNeg) (hb : BBG sg sg2 gm gm2 lg lg2 o) (h0 : 0 ≤ (sg 12).toInt) (h14 : gm2 14 = gm 14) (h16 : gm2 16 = gm 16) (h19 : gm2 19 = gm 19) (h20 : gm2 20 = gm 20) (hl0 : lg2 0 = lg 0) : STL sg2 gm2 lg2 j := by
  obtain ⟨a1, a2, a3, a4, a5⟩ := h
  obtain ⟨e25, e26, e22, e27⟩ := hf j hj
  unfold STL
  rw [h14, h16, e25, e26, e22, e27]
  refine ⟨a1, a2, a3, a4, ?_⟩
  have i27 := (show iv (-1) 79 (gm 27 j) from CI_n hI 27 hj8)
  rcases a5 with q | ⟨q1, q2, q3⟩
  · exact Or.inl q
  · by_cases hm : (gm 27 j).toInt = -1
    · exact Or.inl hm
    have k1 := cl_0 h0
    have hn0 := i27.1
    have k2 := cl_0 (x := gm 27 j) (by omega)
    refine Or.inr ⟨q1, ?_, q3.imp (fun q => ?_) (fun q => HSK_e q h19 h20 hl0)⟩
    · rcases hb with ⟨e12, -⟩ | ⟨e12, -⟩
      · rw [e12]; exact q2
      · omega
    · rcases hb with ⟨-, -, -, -, -, e4⟩ | ⟨-, -, -, -, -, id9, e4⟩
      · rw [e4]; exact q
      · rw [e4, pk_uLn (by omega)]; exact q
theorem STL_e {sg sg2 : Nat → Int32} {gm gm2 : Nat → Nat → Int32} {lg lg2 : Nat → Nat → Int64} {j : Nat} (h : STL sg gm lg j) (h12 : sg2 12 = sg 12) (h14 : gm2 14 = gm 14) (h16 : gm2 16 = gm 16) (h19 : gm2 19 = gm 19) (h20 : gm2 20 = gm 20) (h22 : gm2 22 = gm 22) (h25 : gm2 25 = gm 25) (h26 : gm2 26 = gm 26) (h27 : gm2 27 = gm 27) (hl0 : lg2 0 = lg 0) (hl4 : lg2 4 = lg 4) : STL sg2 gm2 lg2 j := by
  unfold STL HSK at *; rw [h12, h14, h16, h19, h20, h22, h25, h26, h27, hl0, hl4]; exact h
theorem BLI_z {sg : Nat → Int32} {gm : Nat → Nat → Int32} {b : Nat} (h0 : gm 41 (3 * b + 0) = 0) (h1 : gm 41 (3 * b + 1) = 0) (h2 : gm 41 (3 * b + 2) = 0) : BLI sg gm b :=
  ⟨LWD_0 h0, LWD_0 h1, fun i j _ hj => by rw [h1] at hj; exact absurd hj (Nat.not_lt_zero _), fun i j _ hj => by rw [h2] at hj; exact absurd hj (Nat.not_lt_zero _)⟩
theorem BLI_o {sg : Nat → Int32} {gm gm2 : Nat → Nat → Int32} {b c : Nat} (hI : CI sg gm) (hc : c < 80) (h : BLI sg gm c) (hov : OVS b gm gm2) (hne : c ≠ b) (h14 : gm2 14 = gm 14) (h22 : gm2 22 = gm 22) : BLI sg gm2 c := by
  have s0 := hov (3 * c + 0) (by omega) (by omega) (by omega)
  have s1 := hov (3 * c + 1) (by omega) (by omega) (by omega)
  have s2 := hov (3 * c + 2) (by omega) (by omega) (by omega)
  exact ⟨LWD_s h.1 s0.1 s0.2 h14 (sz80 hI (by omega)), LWD_s h.2.1 s1.1 s1.2 h14 (sz80 hI (by omega)), LDL_s h.2.2.1 s1.1 s1.2 h22 (sz80 hI (by omega)), LDL_s h.2.2.2 s2.1 s2.2 h22 (sz80 hI (by omega))⟩
theorem OVS_e {b : Nat} {gm gm1 gm2 : Nat → Nat → Int32} (h : OVS b gm1 gm2) (h41 : gm1 41 = gm 41) (h57 : gm1 57 = gm 57) : OVS b gm gm2 := by
  unfold OVS at *; rw [← h41, ← h57]; exact h
theorem OVS_t {b : Nat} {gm gm1 gm2 : Nat → Nat → Int32} (h : OVS b gm gm1) (h2 : OVS b gm1 gm2) : OVS b gm gm2 := fun q2 a1 a2 a3 => ⟨(h2 q2 a1 a2 a3).1.trans (h q2 a1 a2 a3).1, fun j hj => ((h2 q2 a1 a2 a3).2 j hj).trans ((h q2 a1 a2 a3).2 j hj)⟩
/-- the elements of the beans -/
def BEE (sg : Nat → Int32) (gm : Nat → Nat → Int32) : Prop := ∀ c, c < (sg 12).toNatClampNeg → 0 ≤ (gm 29 c).toInt ∧ (gm 29 c).toInt < (sg 4).toInt
theorem BEE_e {sg sg2 : Nat → Int32} {gm gm2 : Nat → Nat → Int32} (h : BEE sg gm) (h4 : sg2 4 = sg 4) (h12 : sg2 12 = sg 12) (h29 : gm2 29 = gm 29) : BEE sg2 gm2 := by
  unfold BEE at *; rw [h4, h12, h29]; exact h
/-- a document that is wired -/
def WRD (sg : Nat → Int32) (gm : Nat → Nat → Int32) (lg : Nat → Nat → Int64) : Prop := LK sg gm ∧ (∀ j, j < (sg 4).toNatClampNeg → STL sg gm lg j ∧ SOK gm lg j) ∧ BEE sg gm ∧ ∀ c, c < (sg 12).toNatClampNeg → BLI sg gm c

set_option maxHeartbeats 4000000 in
set_option maxRecDepth 100000 in
theorem d_overlay (l : Launch) (dC : Nat → ClassId) (dI : Nat → Nat → Nat) (ad : Nat → Nat → Nat) (cid : Nat → ClassId) (a2 : Nat → Nat) (lx : List Nat) (sg : Nat → Int32) (gm : Nat → Nat → Int32) (lg : Nat → Nat → Int64) (b : Int32) (o : Int32) (pp : Int32) (hI : CI sg gm) (hvb : iv 0 79 b) (hvo : iv 0 79 o) (hvpp : iv 0 0 pp) (hFA : FA sg gm) (how : o.toInt < (sg 4).toInt) (hVS : VS sg gm) (hLK : LK sg gm) (hLD : LDI lx gm) (hBL : BLI sg gm b.toNatClampNeg) : CMg dC dI ad cid l yX1_overlay wm_X1_overlay ({ frames := 13, cells := 213361, slots := 853567, locals := 314 }) [eV (ad 10) b, eV (ad 9) o, eV (ad 1) pp] a2 lx sg gm lg 0 213361 853567 (fun v u => v = none ∧ ∃ (a22 : Nat → Nat) (lx2 : List Nat), ∃ (sg2 : Nat → Int32) (gm2 : Nat → Nat → Int32) (lg2 : Nat → Nat → Int64), u = (a22, lx2, sg2, gm2, lg2) ∧ CI sg2 gm2 ∧ KS [] sg sg2 ∧ KS [30, 31, 32, 33, 40, 41, 42, 57] gm gm2 ∧ KS [7] lg lg2 ∧ (LDI lx2 gm2) ∧ (BLI sg gm2 b.toNatClampNeg) ∧ (OVS b.toNatClampNeg gm gm2)) (fun _ _ => False) := by
  intro sz
  refine vx_ofW (cc := cX1_overlay) (maxL := 3) (ret := none) (by decide) rfl ?_
  intro p e s m args below meth c s₁ B hml hxt hv
  obtain ⟨rfl, hsz, hP, hK, hD0, hG⟩ := hv
  have hx := B.exec
  have hb := B.bytes
  have hr := B.returns
  have hts := atoms_spec (ws := wm_X1_overlay) B.pre
  have htb := fun (w : Cond) (h : w ∈ tb) => hts w (List.mem_cons_of_mem _ h)
  have hown : s.vm.findClass RX1 = some m.cls := findClass_of_methodNamed B.named
  have hlocks := B.notSynchronized
  subst hsz
  have hD := hD0.self (sz := s.heap.size)
  generalize hAe : va_A (cW ad cid a2 lx sg gm lg) s.heap.size = A at hD hG ⊢
  have hA : ∀ q : Nat, s.heap.size ≤ q → A q := fun q h => by rw [← hAe]; exact Or.inr h
  have hS : va_S A s.heap s.heap [] := va_S.rf
  have hl := lv_entry ([eV (ad 10) b, eV (ad 9) o, eV (ad 1) pp]) (n := 3) (by rw [show (lg_sl ([eV (ad 10) b, eV (ad 9) o, eV (ad 1) pp])).length = 3 from by simp [lg_sl, eV_cat, cat_i, cat_l]]; exact Nat.le_of_ble_eq_true rfl)
  rw [lg_entry_eq]
  generalize (lg_sl ([eV (ad 10) b, eV (ad 9) o, eV (ad 1) pp]) ++ List.replicate (3 - (lg_sl ([eV (ad 10) b, eV (ad 9) o, eV (ad 1) pp])).length) Slot.unset).toArray = ls at hl ⊢
  have hl : lv_has ls 3 [(0, eV (ad 10) b), (1, eV (ad 9) o), (2, eV (ad 1) pp)] := by simp [lv_args, eV_cat, cat_i, cat_l] at hl; exact hl
  refine W.widen (k := gc gm gm 0) (n := gs gm gm 0) (Nat.zero_le _) (Nat.zero_le _) ?_
  have hj115 : ∀ (gm_j115 : Nat → Nat → Int32) (lg_j115 : Nat → Nat → Int64) (_ : iv 0 79 b) (_ : iv 0 79 o) (_ : iv 0 0 pp) (_ : KS [30, 31, 32, 33] gm gm_j115) (_ : KS [7] lg lg_j115) (_ : CI sg gm_j115) (_ : PHs gm ≤ PHs gm_j115) (H : Heap) (locs : List Loc) (ls : Array Slot), va_P (dC, dI) vwCl (cW ad cid a2 lx sg gm_j115 lg_j115) H → va_D A (cW ad cid a2 lx sg gm_j115 lg_j115) → va_S A s.heap H locs → lv_has ls 3 [(0, eV (ad 10) b), (1, eV (ad 9) o), (2, eV (ad 1) pp)] → W p l e (headSpec wm_X1_overlay ({ frames := 13, cells := 213361, slots := 853567, locals := 314 })).room s m ([eV (ad 10) b, eV (ad 9) o, eV (ad 1) pp] : List Value).toArray below meth c H locs (gc gm gm_j115 0) (gs gm gm_j115 0) (vx_MQ below (cQg dC dI ad cid (fun v u => v = none ∧ ∃ (a22 : Nat → Nat) (lx2 : List Nat), ∃ (sg2 : Nat → Int32) (gm2 : Nat → Nat → Int32) (lg2 : Nat → Nat → Int64), u = (a22, lx2, sg2, gm2, lg2) ∧ CI sg2 gm2 ∧ KS [] sg sg2 ∧ KS [30, 31, 32, 33, 40, 41, 42, 57] gm gm2 ∧ KS [7] lg lg2 ∧ (LDI lx2 gm2) ∧ (BLI sg gm2 b.toNatClampNeg) ∧ (OVS b.toNatClampNeg gm gm2)) 0 gm A) (cXg dC dI ad cid (fun _ _ => False) 0 gm A) ([eV (ad 10) b, eV (ad 9) o, eV (ad 1) pp] : List Value).toArray s 213361 853567 A) (F0 m 115 ls []) := by
    intro gm_j115 lg_j115 hsx0_115 hsx1_115 hsx2_115 hkg_j115 hkl_j115 hI_j115 hm_j115 H locs ls hP hD hS hl
    refine ec_aload_n hx hb dX1_overlay_115 rfl (lv_at hl 0 rfl) ?_
    refine ec_aload_n hx hb dX1_overlay_116 rfl (lv_at hl 1 rfl) ?_
    refine cm_callGV (t := 10) (C := RX1) (T := TX1) (N := 19) (rest := []) (as := [eV (ad 9) o]) ⟨hx, hb, hml, hown, htb⟩ (d_overlayInner l dC dI ad cid a2 lx sg gm_j115 lg_j115 b o hI_j115 hsx0_115 hsx1_115 (LDI_e hLD (hkg_j115 41 (by decide)) (hkg_j115 42 (by decide)) (hkg_j115 57 (by decide))) (LK_e2 hLK rfl (hkg_j115 15 (by decide)) (hkg_j115 16 (by decide)) (hkg_j115 17 (by decide))) how (BLI_e hBL rfl (hkg_j115 14 (by decide)) (hkg_j115 22 (by decide)) (hkg_j115 41 (by decide)) (hkg_j115 57 (by decide)))) (cwV 1 htb (gd_V kw_738 kw_739 kw_740 kw_90 kw_1499) rfl rfl rfl (by decide +kernel) ⟨Nat.le_of_ble_eq_true rfl, Nat.le_of_ble_eq_true rfl⟩) hsx0_115 (by decide) (by decide) rfl rfl hl.1 rfl (Nat.le_trans cs_n (by decide)) dX1_overlay_117 ⟨Nat.le_trans (gc_le hI_j115) (Nat.le_of_ble_eq_true rfl), Nat.le_trans (gs_le hI_j115) (Nat.le_of_ble_eq_true rfl)⟩ hK hP hD hS hA hG (fun E ce q9 u_2 H locs hw hmu hP hD hS hce hcv hcl => ?_) (fun v9 u_2 H locs hw hmu hP hD hS => ?_)
    · exact hw.elim
    obtain ⟨rfl, a2v_3, lxv_3, sgv_3, gmv_3, lgv_3, rfl, hIv_3, ksv_3, kgv_3, klv_3, fLD_r_1, fBL_r_1, fOV_r_1⟩ := hw
    obtain rfl := KS_nil ksv_3
    obtain rfl := KS_nil klv_3
    have hP : va_P (dC, dI) vwCl (cW ad cid a2v_3 lxv_3 sg gmv_3 lg_j115) H := hP
    have hD : va_D A (cW ad cid a2v_3 lxv_3 sg gmv_3 lg_j115) := hD
    have hmu : PHs gm_j115 ≤ PHs gmv_3 := hmu
    rw [show (gc gm gm_j115 0 + gc gm_j115 gmv_3 0) = gc gm gmv_3 0 from gc_t hm_j115 hmu, show (gs gm gm_j115 0 + gs gm_j115 gmv_3 0) = gs gm gmv_3 0 from gs_t hm_j115 hmu]
    have hm_4 : PHs gm ≤ PHs gmv_3 := Nat.le_trans hm_j115 hmu
    refine W.eq (g2 := F0 m 120 ls []) rfl ?_
    exact W.nb (fun hN => W.widen (k := 213361) (n := 853567) (Nat.le_trans (gc_l0 (gm := gm) (k := 0) hIv_3) (Nat.le_of_ble_eq_true rfl)) (Nat.le_trans (gs_l0 (gm := gm) (k := 0) hIv_3) (Nat.le_of_ble_eq_true rfl)) (vx_ret (W.vret hx hb hr (fun t ht hW => ⟨⟨none, (a2v_3, lxv_3, sg, gmv_3, lg_j115), rfl, ⟨rfl, a2v_3, lxv_3, sg, gmv_3, lg_j115, rfl, hIv_3, KS_rf, (KS_tr (L := [30, 31, 32, 33, 40, 41, 42, 57]) (KS_tr (L := [30, 31, 32, 33, 40, 41, 42, 57]) KS_rf hkg_j115 (by decide)) kgv_3 (by decide)), (KS_tr (L := [7]) KS_rf hkl_j115 (by decide)), (fLD_r_1), (fBL_r_1), (OVS_e fOV_r_1 (show gm_j115 41 = gm 41 from (hkg_j115 41 (by decide))) (show gm_j115 57 = gm 57 from (hkg_j115 57 (by decide))))⟩, ⟨by rw [ht]; exact hP, va_K.moved hW.alike hK, hD⟩, hm_4, by rw [ht]; exact hN⟩, hS.F ht⟩) hS.2.2 dX1_overlay_120)))
  have hj92 : ∀ (gm_j92 : Nat → Nat → Int32) (lg_j92 : Nat → Nat → Int64) (_ : iv 0 79 b) (_ : iv 0 79 o) (_ : iv 0 0 pp) (_ : KS [30, 31, 32] gm gm_j92) (_ : KS [7] lg lg_j92) (_ : CI sg gm_j92) (_ : PHs gm ≤ PHs gm_j92) (H : Heap) (locs : List Loc) (ls : Array Slot), va_P (dC, dI) vwCl (cW ad cid a2 lx sg gm_j92 lg_j92) H → va_D A (cW ad cid a2 lx sg gm_j92 lg_j92) → va_S A s.heap H locs → lv_has ls 3 [(0, eV (ad 10) b), (1, eV (ad 9) o), (2, eV (ad 1) pp)] → W p l e (headSpec wm_X1_overlay ({ frames := 13, cells := 213361, slots := 853567, locals := 314 })).room s m ([eV (ad 10) b, eV (ad 9) o, eV (ad 1) pp] : List Value).toArray below meth c H locs (gc gm gm_j92 0) (gs gm gm_j92 0) (vx_MQ below (cQg dC dI ad cid (fun v u => v = none ∧ ∃ (a22 : Nat → Nat) (lx2 : List Nat), ∃ (sg2 : Nat → Int32) (gm2 : Nat → Nat → Int32) (lg2 : Nat → Nat → Int64), u = (a22, lx2, sg2, gm2, lg2) ∧ CI sg2 gm2 ∧ KS [] sg sg2 ∧ KS [30, 31, 32, 33, 40, 41, 42, 57] gm gm2 ∧ KS [7] lg lg2 ∧ (LDI lx2 gm2) ∧ (BLI sg gm2 b.toNatClampNeg) ∧ (OVS b.toNatClampNeg gm gm2)) 0 gm A) (cXg dC dI ad cid (fun _ _ => False) 0 gm A) ([eV (ad 10) b, eV (ad 9) o, eV (ad 1) pp] : List Value).toArray s 213361 853567 A) (F0 m 92 ls []) := by
    intro gm_j92 lg_j92 hsx0_92 hsx1_92 hsx2_92 hkg_j92 hkl_j92 hI_j92 hm_j92 H locs ls hP hD hS hl
    refine ec_aload_n hx hb dX1_overlay_92 rfl (lv_at hl 2 rfl) ?_
    refine ec_aload_n hx hb dX1_overlay_93 rfl (lv_at hl 1 rfl) ?_
    refine cw_word (k := 19) (kx := 19) hx hb hG hS (by decide) rfl ⟨by decide, by decide⟩ hown (htb _ kw_734) dX1_overlay_94 ?_
    refine cm_callTV (t := 1) (C := RX6) (T := TX6) (N := 8) (rest := []) (as := [eV (ad 9) o, eV (ad 33) 19]) ⟨hx, hb, hml, hown, htb⟩ (d_has l dC dI ad cid a2 lx sg gm_j92 lg_j92 pp o 19 hI_j92 hsx2_92 hsx1_92 (iv_w (iv_k (by decide) : iv 19 19 19) (by decide)) (FA_e hFA rfl rfl (hkg_j92 19 (by decide)) (hkg_j92 20 (by decide))) how) (cwV 2 htb (gd_V kw_735 kw_605 kw_606 kw_20 kw_1481) rfl rfl rfl (by decide +kernel) ⟨Nat.le_of_ble_eq_true rfl, Nat.le_of_ble_eq_true rfl⟩) hsx2_92 (by decide) (by decide) rfl rfl hl.1 rfl (Nat.le_trans cs_n (by decide)) dX1_overlay_97 ⟨Nat.le_trans (gc_le hI_j92) (Nat.le_of_ble_eq_true rfl), Nat.le_trans (gs_le hI_j92) (Nat.le_of_ble_eq_true rfl)⟩ hK hP hD hS hA hG (fun E ce q9 u_6 H locs hw hP hD hS hce hcv hcl => ?_) (fun v9 u_6 H locs hw hP hD hS => ?_)
    · exact hw.elim
    obtain ⟨r_5, rfl, rfl, hr_5, fH_r_5⟩ := hw
    have hP : va_P (dC, dI) vwCl (cW ad cid a2 lx sg gm_j92 lg_j92) H := hP
    have hD : va_D A (cW ad cid a2 lx sg gm_j92 lg_j92) := hD
    refine W.eq (g2 := F0 m 100 ls [.int r_5]) rfl ?_
    refine lv_if_eq (tgt := 115) hx hb dX1_overlay_100 (by decide) (fun c_8 => ?_) (fun c_8 => ?_)
    · have h_9 : iv 0 0 r_5 := iv_eq c_8 hr_5 (iv_k (by decide) : iv 0 0 0) (by decide)
      exact hj115 gm_j92 lg_j92 hsx0_92 hsx1_92 hsx2_92 (KS_tr (L := [30, 31, 32, 33]) KS_rf hkg_j92 (by decide)) (KS_tr (L := [7]) KS_rf hkl_j92 (by decide)) hI_j92 hm_j92 _ _ _ hP hD hS (lv_sub hl [0, 1, 2] rfl)
    · have h_10 : iv 1 1 r_5 := iv_neL c_8 hr_5 (by decide)
      refine ec_aload_n hx hb dX1_overlay_103 rfl (lv_at hl 0 rfl) ?_
      refine ec_aload_n hx hb dX1_overlay_104 rfl (lv_at hl 2 rfl) ?_
      refine ec_aload_n hx hb dX1_overlay_105 rfl (lv_at hl 1 rfl) ?_
      refine cw_word (k := 19) (kx := 19) hx hb hG hS (by decide) rfl ⟨by decide, by decide⟩ hown (htb _ kw_734) dX1_overlay_106 ?_
      refine cm_callTV (t := 1) (C := RX6) (T := TX6) (N := 8) (rest := [eV (ad 10) b]) (as := [eV (ad 9) o, eV (ad 33) 19]) ⟨hx, hb, hml, hown, htb⟩ (d_letterValue l dC dI ad cid a2 lx sg gm_j92 lg_j92 pp o 19 hI_j92 hsx2_92 hsx1_92 (iv_w (iv_k (by decide) : iv 19 19 19) (by decide)) (FA_e hFA rfl rfl (hkg_j92 19 (by decide)) (hkg_j92 20 (by decide))) how (VS_e hVS rfl rfl (hkg_j92 44 (by decide)) (hkg_j92 45 (by decide)))) (cwV 2 htb (gd_V kw_737 kw_543 kw_544 kw_20 kw_1466) rfl rfl rfl (by decide +kernel) ⟨Nat.le_of_ble_eq_true rfl, Nat.le_of_ble_eq_true rfl⟩) hsx2_92 (by decide) (by decide) rfl rfl hl.1 rfl (Nat.le_trans (cs_c (eV_cat _ _) cs_n) (by decide)) dX1_overlay_109 ⟨Nat.le_trans (gc_le hI_j92) (Nat.le_of_ble_eq_true rfl), Nat.le_trans (gs_le hI_j92) (Nat.le_of_ble_eq_true rfl)⟩ hK hP hD hS hA hG (fun E ce q9 u_12 H locs hw hP hD hS hce hcv hcl => ?_) (fun v9 u_12 H locs hw hP hD hS => ?_)
      · exact hw.elim
      obtain ⟨r_11, rfl, rfl, hr_11, fP_r_11, fQ_r_11⟩ := hw
      have hP : va_P (dC, dI) vwCl (cW ad cid a2 lx sg gm_j92 lg_j92) H := hP
      have hD : va_D A (cW ad cid a2 lx sg gm_j92 lg_j92) := hD
      refine W.eq (g2 := F0 m 112 ls [.int r_11, eV (ad 10) b]) rfl ?_
      refine cr_putg (t := 10) (j := 12) (C := RX1) (T := TX1) (N := 19) (ty0 := tyX1) (k := 33) (y := r_11) hx hb htb inX1 tyX1_ok nmX1 hown hK hP hD hS hsx0_92 (by decide) (by decide) (by decide) (by decide) rfl rfl (by decide) (htb _ kw_669) rfl (by show Value.int r_11 = Value.int (va_up gm_j92 33 (upd (gm_j92 33) b.toNatClampNeg r_11) 33 b.toNatClampNeg); rw [va_up_self, upd_at]) rfl rfl dX1_overlay_112 (fun gm_14 H locs egm_14 hP hD hS => ?_)
      have hI_gm_14 := CI_st hI_j92 egm_14 hr_11 (by decide)
      refine W.widen (k := gc gm gm_14 0) (n := gs gm gm_14 0) (gc_e (show gm_14 42 = gm_j92 42 from (up_ne egm_14 (by decide))) (by decide)) (gs_e (show gm_14 42 = gm_j92 42 from (up_ne egm_14 (by decide))) (by decide)) ?_
      have hm_15 : PHs gm ≤ PHs gm_14 := by rw [PHs_e (show gm_14 42 = gm_j92 42 from (up_ne egm_14 (by decide)))]; exact hm_j92
      exact hj115 gm_14 lg_j92 hsx0_92 hsx1_92 hsx2_92 (KS_up (KS_tr (L := [30, 31, 32, 33]) KS_rf hkg_j92 (by decide)) egm_14 (by decide)) (KS_tr (L := [7]) KS_rf hkl_j92 (by decide)) hI_gm_14 hm_15 _ _ _ hP hD hS (lv_sub hl [0, 1, 2] rfl)
  have hj69 : ∀ (gm_j69 : Nat → Nat → Int32) (lg_j69 : Nat → Nat → Int64) (_ : iv 0 79 b) (_ : iv 0 79 o) (_ : iv 0 0 pp) (_ : KS [30, 31] gm gm_j69) (_ : KS [7] lg lg_j69) (_ : CI sg gm_j69) (_ : PHs gm ≤ PHs gm_j69) (H : Heap) (locs : List Loc) (ls : Array Slot), va_P (dC, dI) vwCl (cW ad cid a2 lx sg gm_j69 lg_j69) H → va_D A (cW ad cid a2 lx sg gm_j69 lg_j69) → va_S A s.heap H locs → lv_has ls 3 [(0, eV (ad 10) b), (1, eV (ad 9) o), (2, eV (ad 1) pp)] → W p l e (headSpec wm_X1_overlay ({ frames := 13, cells := 213361, slots := 853567, locals := 314 })).room s m ([eV (ad 10) b, eV (ad 9) o, eV (ad 1) pp] : List Value).toArray below meth c H locs (gc gm gm_j69 0) (gs gm gm_j69 0) (vx_MQ below (cQg dC dI ad cid (fun v u => v = none ∧ ∃ (a22 : Nat → Nat) (lx2 : List Nat), ∃ (sg2 : Nat → Int32) (gm2 : Nat → Nat → Int32) (lg2 : Nat → Nat → Int64), u = (a22, lx2, sg2, gm2, lg2) ∧ CI sg2 gm2 ∧ KS [] sg sg2 ∧ KS [30, 31, 32, 33, 40, 41, 42, 57] gm gm2 ∧ KS [7] lg lg2 ∧ (LDI lx2 gm2) ∧ (BLI sg gm2 b.toNatClampNeg) ∧ (OVS b.toNatClampNeg gm gm2)) 0 gm A) (cXg dC dI ad cid (fun _ _ => False) 0 gm A) ([eV (ad 10) b, eV (ad 9) o, eV (ad 1) pp] : List Value).toArray s 213361 853567 A) (F0 m 69 ls []) := by
    intro gm_j69 lg_j69 hsx0_69 hsx1_69 hsx2_69 hkg_j69 hkl_j69 hI_j69 hm_j69 H locs ls hP hD hS hl
    refine ec_aload_n hx hb dX1_overlay_69 rfl (lv_at hl 2 rfl) ?_
    refine ec_aload_n hx hb dX1_overlay_70 rfl (lv_at hl 1 rfl) ?_
    refine cw_word (k := 18) (kx := 18) hx hb hG hS (by decide) rfl ⟨by decide, by decide⟩ hown (htb _ kw_733) dX1_overlay_71 ?_
    refine cm_callTV (t := 1) (C := RX6) (T := TX6) (N := 8) (rest := []) (as := [eV (ad 9) o, eV (ad 33) 18]) ⟨hx, hb, hml, hown, htb⟩ (d_has l dC dI ad cid a2 lx sg gm_j69 lg_j69 pp o 18 hI_j69 hsx2_69 hsx1_69 (iv_w (iv_k (by decide) : iv 18 18 18) (by decide)) (FA_e hFA rfl rfl (hkg_j69 19 (by decide)) (hkg_j69 20 (by decide))) how) (cwV 2 htb (gd_V kw_735 kw_605 kw_606 kw_20 kw_1481) rfl rfl rfl (by decide +kernel) ⟨Nat.le_of_ble_eq_true rfl, Nat.le_of_ble_eq_true rfl⟩) hsx2_69 (by decide) (by decide) rfl rfl hl.1 rfl (Nat.le_trans cs_n (by decide)) dX1_overlay_74 ⟨Nat.le_trans (gc_le hI_j69) (Nat.le_of_ble_eq_true rfl), Nat.le_trans (gs_le hI_j69) (Nat.le_of_ble_eq_true rfl)⟩ hK hP hD hS hA hG (fun E ce q9 u_17 H locs hw hP hD hS hce hcv hcl => ?_) (fun v9 u_17 H locs hw hP hD hS => ?_)
    · exact hw.elim
    obtain ⟨r_16, rfl, rfl, hr_16, fH_r_16⟩ := hw
    have hP : va_P (dC, dI) vwCl (cW ad cid a2 lx sg gm_j69 lg_j69) H := hP
    have hD : va_D A (cW ad cid a2 lx sg gm_j69 lg_j69) := hD
    refine W.eq (g2 := F0 m 77 ls [.int r_16]) rfl ?_
    refine lv_if_eq (tgt := 92) hx hb dX1_overlay_77 (by decide) (fun c_19 => ?_) (fun c_19 => ?_)
    · have h_20 : iv 0 0 r_16 := iv_eq c_19 hr_16 (iv_k (by decide) : iv 0 0 0) (by decide)
      exact hj92 gm_j69 lg_j69 hsx0_69 hsx1_69 hsx2_69 (KS_tr (L := [30, 31, 32]) KS_rf hkg_j69 (by decide)) (KS_tr (L := [7]) KS_rf hkl_j69 (by decide)) hI_j69 hm_j69 _ _ _ hP hD hS (lv_sub hl [0, 1, 2] rfl)
    · have h_21 : iv 1 1 r_16 := iv_neL c_19 hr_16 (by decide)
      refine ec_aload_n hx hb dX1_overlay_80 rfl (lv_at hl 0 rfl) ?_
      refine ec_aload_n hx hb dX1_overlay_81 rfl (lv_at hl 2 rfl) ?_
      refine ec_aload_n hx hb dX1_overlay_82 rfl (lv_at hl 1 rfl) ?_
      refine cw_word (k := 18) (kx := 18) hx hb hG hS (by decide) rfl ⟨by decide, by decide⟩ hown (htb _ kw_733) dX1_overlay_83 ?_
      refine cm_callTV (t := 1) (C := RX6) (T := TX6) (N := 8) (rest := [eV (ad 10) b]) (as := [eV (ad 9) o, eV (ad 33) 18]) ⟨hx, hb, hml, hown, htb⟩ (d_letterValue l dC dI ad cid a2 lx sg gm_j69 lg_j69 pp o 18 hI_j69 hsx2_69 hsx1_69 (iv_w (iv_k (by decide) : iv 18 18 18) (by decide)) (FA_e hFA rfl rfl (hkg_j69 19 (by decide)) (hkg_j69 20 (by decide))) how (VS_e hVS rfl rfl (hkg_j69 44 (by decide)) (hkg_j69 45 (by decide)))) (cwV 2 htb (gd_V kw_737 kw_543 kw_544 kw_20 kw_1466) rfl rfl rfl (by decide +kernel) ⟨Nat.le_of_ble_eq_true rfl, Nat.le_of_ble_eq_true rfl⟩) hsx2_69 (by decide) (by decide) rfl rfl hl.1 rfl (Nat.le_trans (cs_c (eV_cat _ _) cs_n) (by decide)) dX1_overlay_86 ⟨Nat.le_trans (gc_le hI_j69) (Nat.le_of_ble_eq_true rfl), Nat.le_trans (gs_le hI_j69) (Nat.le_of_ble_eq_true rfl)⟩ hK hP hD hS hA hG (fun E ce q9 u_23 H locs hw hP hD hS hce hcv hcl => ?_) (fun v9 u_23 H locs hw hP hD hS => ?_)
      · exact hw.elim
      obtain ⟨r_22, rfl, rfl, hr_22, fP_r_22, fQ_r_22⟩ := hw
      have hP : va_P (dC, dI) vwCl (cW ad cid a2 lx sg gm_j69 lg_j69) H := hP
      have hD : va_D A (cW ad cid a2 lx sg gm_j69 lg_j69) := hD
      refine W.eq (g2 := F0 m 89 ls [.int r_22, eV (ad 10) b]) rfl ?_
      refine cr_putg (t := 10) (j := 11) (C := RX1) (T := TX1) (N := 19) (ty0 := tyX1) (k := 32) (y := r_22) hx hb htb inX1 tyX1_ok nmX1 hown hK hP hD hS hsx0_69 (by decide) (by decide) (by decide) (by decide) rfl rfl (by decide) (htb _ kw_668) rfl (by show Value.int r_22 = Value.int (va_up gm_j69 32 (upd (gm_j69 32) b.toNatClampNeg r_22) 32 b.toNatClampNeg); rw [va_up_self, upd_at]) rfl rfl dX1_overlay_89 (fun gm_25 H locs egm_25 hP hD hS => ?_)
      have hI_gm_25 := CI_st hI_j69 egm_25 hr_22 (by decide)
      refine W.widen (k := gc gm gm_25 0) (n := gs gm gm_25 0) (gc_e (show gm_25 42 = gm_j69 42 from (up_ne egm_25 (by decide))) (by decide)) (gs_e (show gm_25 42 = gm_j69 42 from (up_ne egm_25 (by decide))) (by decide)) ?_
      have hm_26 : PHs gm ≤ PHs gm_25 := by rw [PHs_e (show gm_25 42 = gm_j69 42 from (up_ne egm_25 (by decide)))]; exact hm_j69
      exact hj92 gm_25 lg_j69 hsx0_69 hsx1_69 hsx2_69 (KS_up (KS_tr (L := [30, 31, 32]) KS_rf hkg_j69 (by decide)) egm_25 (by decide)) (KS_tr (L := [7]) KS_rf hkl_j69 (by decide)) hI_gm_25 hm_26 _ _ _ hP hD hS (lv_sub hl [0, 1, 2] rfl)
  have hj46 : ∀ (gm_j46 : Nat → Nat → Int32) (lg_j46 : Nat → Nat → Int64) (_ : iv 0 79 b) (_ : iv 0 79 o) (_ : iv 0 0 pp) (_ : KS [30] gm gm_j46) (_ : KS [7] lg lg_j46) (_ : CI sg gm_j46) (_ : PHs gm ≤ PHs gm_j46) (H : Heap) (locs : List Loc) (ls : Array Slot), va_P (dC, dI) vwCl (cW ad cid a2 lx sg gm_j46 lg_j46) H → va_D A (cW ad cid a2 lx sg gm_j46 lg_j46) → va_S A s.heap H locs → lv_has ls 3 [(0, eV (ad 10) b), (1, eV (ad 9) o), (2, eV (ad 1) pp)] → W p l e (headSpec wm_X1_overlay ({ frames := 13, cells := 213361, slots := 853567, locals := 314 })).room s m ([eV (ad 10) b, eV (ad 9) o, eV (ad 1) pp] : List Value).toArray below meth c H locs (gc gm gm_j46 0) (gs gm gm_j46 0) (vx_MQ below (cQg dC dI ad cid (fun v u => v = none ∧ ∃ (a22 : Nat → Nat) (lx2 : List Nat), ∃ (sg2 : Nat → Int32) (gm2 : Nat → Nat → Int32) (lg2 : Nat → Nat → Int64), u = (a22, lx2, sg2, gm2, lg2) ∧ CI sg2 gm2 ∧ KS [] sg sg2 ∧ KS [30, 31, 32, 33, 40, 41, 42, 57] gm gm2 ∧ KS [7] lg lg2 ∧ (LDI lx2 gm2) ∧ (BLI sg gm2 b.toNatClampNeg) ∧ (OVS b.toNatClampNeg gm gm2)) 0 gm A) (cXg dC dI ad cid (fun _ _ => False) 0 gm A) ([eV (ad 10) b, eV (ad 9) o, eV (ad 1) pp] : List Value).toArray s 213361 853567 A) (F0 m 46 ls []) := by
    intro gm_j46 lg_j46 hsx0_46 hsx1_46 hsx2_46 hkg_j46 hkl_j46 hI_j46 hm_j46 H locs ls hP hD hS hl
    refine ec_aload_n hx hb dX1_overlay_46 rfl (lv_at hl 2 rfl) ?_
    refine ec_aload_n hx hb dX1_overlay_47 rfl (lv_at hl 1 rfl) ?_
    refine cw_word (k := 17) (kx := 17) hx hb hG hS (by decide) rfl ⟨by decide, by decide⟩ hown (htb _ kw_732) dX1_overlay_48 ?_
    refine cm_callTV (t := 1) (C := RX6) (T := TX6) (N := 8) (rest := []) (as := [eV (ad 9) o, eV (ad 33) 17]) ⟨hx, hb, hml, hown, htb⟩ (d_has l dC dI ad cid a2 lx sg gm_j46 lg_j46 pp o 17 hI_j46 hsx2_46 hsx1_46 (iv_w (iv_k (by decide) : iv 17 17 17) (by decide)) (FA_e hFA rfl rfl (hkg_j46 19 (by decide)) (hkg_j46 20 (by decide))) how) (cwV 2 htb (gd_V kw_735 kw_605 kw_606 kw_20 kw_1481) rfl rfl rfl (by decide +kernel) ⟨Nat.le_of_ble_eq_true rfl, Nat.le_of_ble_eq_true rfl⟩) hsx2_46 (by decide) (by decide) rfl rfl hl.1 rfl (Nat.le_trans cs_n (by decide)) dX1_overlay_51 ⟨Nat.le_trans (gc_le hI_j46) (Nat.le_of_ble_eq_true rfl), Nat.le_trans (gs_le hI_j46) (Nat.le_of_ble_eq_true rfl)⟩ hK hP hD hS hA hG (fun E ce q9 u_28 H locs hw hP hD hS hce hcv hcl => ?_) (fun v9 u_28 H locs hw hP hD hS => ?_)
    · exact hw.elim
    obtain ⟨r_27, rfl, rfl, hr_27, fH_r_27⟩ := hw
    have hP : va_P (dC, dI) vwCl (cW ad cid a2 lx sg gm_j46 lg_j46) H := hP
    have hD : va_D A (cW ad cid a2 lx sg gm_j46 lg_j46) := hD
    refine W.eq (g2 := F0 m 54 ls [.int r_27]) rfl ?_
    refine lv_if_eq (tgt := 69) hx hb dX1_overlay_54 (by decide) (fun c_30 => ?_) (fun c_30 => ?_)
    · have h_31 : iv 0 0 r_27 := iv_eq c_30 hr_27 (iv_k (by decide) : iv 0 0 0) (by decide)
      exact hj69 gm_j46 lg_j46 hsx0_46 hsx1_46 hsx2_46 (KS_tr (L := [30, 31]) KS_rf hkg_j46 (by decide)) (KS_tr (L := [7]) KS_rf hkl_j46 (by decide)) hI_j46 hm_j46 _ _ _ hP hD hS (lv_sub hl [0, 1, 2] rfl)
    · have h_32 : iv 1 1 r_27 := iv_neL c_30 hr_27 (by decide)
      refine ec_aload_n hx hb dX1_overlay_57 rfl (lv_at hl 0 rfl) ?_
      refine ec_aload_n hx hb dX1_overlay_58 rfl (lv_at hl 2 rfl) ?_
      refine ec_aload_n hx hb dX1_overlay_59 rfl (lv_at hl 1 rfl) ?_
      refine cw_word (k := 17) (kx := 17) hx hb hG hS (by decide) rfl ⟨by decide, by decide⟩ hown (htb _ kw_732) dX1_overlay_60 ?_
      refine cm_callTV (t := 1) (C := RX6) (T := TX6) (N := 8) (rest := [eV (ad 10) b]) (as := [eV (ad 9) o, eV (ad 33) 17]) ⟨hx, hb, hml, hown, htb⟩ (d_letterValue l dC dI ad cid a2 lx sg gm_j46 lg_j46 pp o 17 hI_j46 hsx2_46 hsx1_46 (iv_w (iv_k (by decide) : iv 17 17 17) (by decide)) (FA_e hFA rfl rfl (hkg_j46 19 (by decide)) (hkg_j46 20 (by decide))) how (VS_e hVS rfl rfl (hkg_j46 44 (by decide)) (hkg_j46 45 (by decide)))) (cwV 2 htb (gd_V kw_737 kw_543 kw_544 kw_20 kw_1466) rfl rfl rfl (by decide +kernel) ⟨Nat.le_of_ble_eq_true rfl, Nat.le_of_ble_eq_true rfl⟩) hsx2_46 (by decide) (by decide) rfl rfl hl.1 rfl (Nat.le_trans (cs_c (eV_cat _ _) cs_n) (by decide)) dX1_overlay_63 ⟨Nat.le_trans (gc_le hI_j46) (Nat.le_of_ble_eq_true rfl), Nat.le_trans (gs_le hI_j46) (Nat.le_of_ble_eq_true rfl)⟩ hK hP hD hS hA hG (fun E ce q9 u_34 H locs hw hP hD hS hce hcv hcl => ?_) (fun v9 u_34 H locs hw hP hD hS => ?_)
      · exact hw.elim
      obtain ⟨r_33, rfl, rfl, hr_33, fP_r_33, fQ_r_33⟩ := hw
      have hP : va_P (dC, dI) vwCl (cW ad cid a2 lx sg gm_j46 lg_j46) H := hP
      have hD : va_D A (cW ad cid a2 lx sg gm_j46 lg_j46) := hD
      refine W.eq (g2 := F0 m 66 ls [.int r_33, eV (ad 10) b]) rfl ?_
      refine cr_putg (t := 10) (j := 10) (C := RX1) (T := TX1) (N := 19) (ty0 := tyX1) (k := 31) (y := r_33) hx hb htb inX1 tyX1_ok nmX1 hown hK hP hD hS hsx0_46 (by decide) (by decide) (by decide) (by decide) rfl rfl (by decide) (htb _ kw_667) rfl (by show Value.int r_33 = Value.int (va_up gm_j46 31 (upd (gm_j46 31) b.toNatClampNeg r_33) 31 b.toNatClampNeg); rw [va_up_self, upd_at]) rfl rfl dX1_overlay_66 (fun gm_36 H locs egm_36 hP hD hS => ?_)
      have hI_gm_36 := CI_st hI_j46 egm_36 hr_33 (by decide)
      refine W.widen (k := gc gm gm_36 0) (n := gs gm gm_36 0) (gc_e (show gm_36 42 = gm_j46 42 from (up_ne egm_36 (by decide))) (by decide)) (gs_e (show gm_36 42 = gm_j46 42 from (up_ne egm_36 (by decide))) (by decide)) ?_
      have hm_37 : PHs gm ≤ PHs gm_36 := by rw [PHs_e (show gm_36 42 = gm_j46 42 from (up_ne egm_36 (by decide)))]; exact hm_j46
      exact hj69 gm_36 lg_j46 hsx0_46 hsx1_46 hsx2_46 (KS_up (KS_tr (L := [30, 31]) KS_rf hkg_j46 (by decide)) egm_36 (by decide)) (KS_tr (L := [7]) KS_rf hkl_j46 (by decide)) hI_gm_36 hm_37 _ _ _ hP hD hS (lv_sub hl [0, 1, 2] rfl)
  have hj23 : ∀ (lg_j23 : Nat → Nat → Int64) (_ : iv 0 79 b) (_ : iv 0 79 o) (_ : iv 0 0 pp) (_ : KS [7] lg lg_j23) (_ : CI sg gm) (_ : PHs gm ≤ PHs gm) (H : Heap) (locs : List Loc) (ls : Array Slot), va_P (dC, dI) vwCl (cW ad cid a2 lx sg gm lg_j23) H → va_D A (cW ad cid a2 lx sg gm lg_j23) → va_S A s.heap H locs → lv_has ls 3 [(0, eV (ad 10) b), (1, eV (ad 9) o), (2, eV (ad 1) pp)] → W p l e (headSpec wm_X1_overlay ({ frames := 13, cells := 213361, slots := 853567, locals := 314 })).room s m ([eV (ad 10) b, eV (ad 9) o, eV (ad 1) pp] : List Value).toArray below meth c H locs (gc gm gm 0) (gs gm gm 0) (vx_MQ below (cQg dC dI ad cid (fun v u => v = none ∧ ∃ (a22 : Nat → Nat) (lx2 : List Nat), ∃ (sg2 : Nat → Int32) (gm2 : Nat → Nat → Int32) (lg2 : Nat → Nat → Int64), u = (a22, lx2, sg2, gm2, lg2) ∧ CI sg2 gm2 ∧ KS [] sg sg2 ∧ KS [30, 31, 32, 33, 40, 41, 42, 57] gm gm2 ∧ KS [7] lg lg2 ∧ (LDI lx2 gm2) ∧ (BLI sg gm2 b.toNatClampNeg) ∧ (OVS b.toNatClampNeg gm gm2)) 0 gm A) (cXg dC dI ad cid (fun _ _ => False) 0 gm A) ([eV (ad 10) b, eV (ad 9) o, eV (ad 1) pp] : List Value).toArray s 213361 853567 A) (F0 m 23 ls []) := by
    intro lg_j23 hsx0_23 hsx1_23 hsx2_23 hkl_j23 hI_j23 hm_j23 H locs ls hP hD hS hl
    refine ec_aload_n hx hb dX1_overlay_23 rfl (lv_at hl 2 rfl) ?_
    refine ec_aload_n hx hb dX1_overlay_24 rfl (lv_at hl 1 rfl) ?_
    refine cw_word (k := 11) (kx := 11) hx hb hG hS (by decide) rfl ⟨by decide, by decide⟩ hown (htb _ kw_731) dX1_overlay_25 ?_
    refine cm_callTV (t := 1) (C := RX6) (T := TX6) (N := 8) (rest := []) (as := [eV (ad 9) o, eV (ad 33) 11]) ⟨hx, hb, hml, hown, htb⟩ (d_has l dC dI ad cid a2 lx sg gm lg_j23 pp o 11 hI_j23 hsx2_23 hsx1_23 (iv_w (iv_k (by decide) : iv 11 11 11) (by decide)) hFA how) (cwV 2 htb (gd_V kw_735 kw_605 kw_606 kw_20 kw_1481) rfl rfl rfl (by decide +kernel) ⟨Nat.le_of_ble_eq_true rfl, Nat.le_of_ble_eq_true rfl⟩) hsx2_23 (by decide) (by decide) rfl rfl hl.1 rfl (Nat.le_trans cs_n (by decide)) dX1_overlay_28 ⟨Nat.le_trans (gc_le hI_j23) (Nat.le_of_ble_eq_true rfl), Nat.le_trans (gs_le hI_j23) (Nat.le_of_ble_eq_true rfl)⟩ hK hP hD hS hA hG (fun E ce q9 u_39 H locs hw hP hD hS hce hcv hcl => ?_) (fun v9 u_39 H locs hw hP hD hS => ?_)
    · exact hw.elim
    obtain ⟨r_38, rfl, rfl, hr_38, fH_r_38⟩ := hw
    have hP : va_P (dC, dI) vwCl (cW ad cid a2 lx sg gm lg_j23) H := hP
    have hD : va_D A (cW ad cid a2 lx sg gm lg_j23) := hD
    refine W.eq (g2 := F0 m 31 ls [.int r_38]) rfl ?_
    refine lv_if_eq (tgt := 46) hx hb dX1_overlay_31 (by decide) (fun c_41 => ?_) (fun c_41 => ?_)
    · have h_42 : iv 0 0 r_38 := iv_eq c_41 hr_38 (iv_k (by decide) : iv 0 0 0) (by decide)
      exact hj46 gm lg_j23 hsx0_23 hsx1_23 hsx2_23 KS_rf (KS_tr (L := [7]) KS_rf hkl_j23 (by decide)) hI_j23 hm_j23 _ _ _ hP hD hS (lv_sub hl [0, 1, 2] rfl)
    · have h_43 : iv 1 1 r_38 := iv_neL c_41 hr_38 (by decide)
      refine ec_aload_n hx hb dX1_overlay_34 rfl (lv_at hl 0 rfl) ?_
      refine ec_aload_n hx hb dX1_overlay_35 rfl (lv_at hl 2 rfl) ?_
      refine ec_aload_n hx hb dX1_overlay_36 rfl (lv_at hl 1 rfl) ?_
      refine cw_word (k := 11) (kx := 11) hx hb hG hS (by decide) rfl ⟨by decide, by decide⟩ hown (htb _ kw_731) dX1_overlay_37 ?_
      refine cm_callTV (t := 1) (C := RX6) (T := TX6) (N := 8) (rest := [eV (ad 10) b]) (as := [eV (ad 9) o, eV (ad 33) 11]) ⟨hx, hb, hml, hown, htb⟩ (d_classValue l dC dI ad cid a2 lx sg gm lg_j23 pp o 11 hI_j23 hsx2_23 hsx1_23 (iv_w (iv_k (by decide) : iv 11 11 11) (by decide)) hFA how hVS) (cwV 2 htb (gd_V kw_736 kw_586 kw_587 kw_20 kw_1476) rfl rfl rfl (by decide +kernel) ⟨Nat.le_of_ble_eq_true rfl, Nat.le_of_ble_eq_true rfl⟩) hsx2_23 (by decide) (by decide) rfl rfl hl.1 rfl (Nat.le_trans (cs_c (eV_cat _ _) cs_n) (by decide)) dX1_overlay_40 ⟨Nat.le_trans (gc_le hI_j23) (Nat.le_of_ble_eq_true rfl), Nat.le_trans (gs_le hI_j23) (Nat.le_of_ble_eq_true rfl)⟩ hK hP hD hS hA hG (fun E ce q9 u_45 H locs hw hP hD hS hce hcv hcl => ?_) (fun v9 u_45 H locs hw hP hD hS => ?_)
      · exact hw.elim
      obtain ⟨r_44, rfl, rfl, hr_44⟩ := hw
      have hP : va_P (dC, dI) vwCl (cW ad cid a2 lx sg gm lg_j23) H := hP
      have hD : va_D A (cW ad cid a2 lx sg gm lg_j23) := hD
      refine W.eq (g2 := F0 m 43 ls [.int r_44, eV (ad 10) b]) rfl ?_
      refine cr_putg (t := 10) (j := 9) (C := RX1) (T := TX1) (N := 19) (ty0 := tyX1) (k := 30) (y := r_44) hx hb htb inX1 tyX1_ok nmX1 hown hK hP hD hS hsx0_23 (by decide) (by decide) (by decide) (by decide) rfl rfl (by decide) (htb _ kw_666) rfl (by show Value.int r_44 = Value.int (va_up gm 30 (upd (gm 30) b.toNatClampNeg r_44) 30 b.toNatClampNeg); rw [va_up_self, upd_at]) rfl rfl dX1_overlay_43 (fun gm_47 H locs egm_47 hP hD hS => ?_)
      have hI_gm_47 := CI_st hI_j23 egm_47 hr_44 (by decide)
      refine W.widen (k := gc gm gm_47 0) (n := gs gm gm_47 0) (gc_e (show gm_47 42 = gm 42 from (up_ne egm_47 (by decide))) (by decide)) (gs_e (show gm_47 42 = gm 42 from (up_ne egm_47 (by decide))) (by decide)) ?_
      have hm_48 : PHs gm ≤ PHs gm_47 := by rw [PHs_e (show gm_47 42 = gm 42 from (up_ne egm_47 (by decide)))]; exact hm_j23
      exact hj46 gm_47 lg_j23 hsx0_23 hsx1_23 hsx2_23 (KS_up KS_rf egm_47 (by decide)) (KS_tr (L := [7]) KS_rf hkl_j23 (by decide)) hI_gm_47 hm_48 _ _ _ hP hD hS (lv_sub hl [0, 1, 2] rfl)
  refine ec_aload_n hx hb dX1_overlay_0 rfl (lv_at hl 2 rfl) ?_
  refine ec_aload_n hx hb dX1_overlay_1 rfl (lv_at hl 1 rfl) ?_
  refine cw_word (k := 16) (kx := 16) hx hb hG hS (by decide) rfl ⟨by decide, by decide⟩ hown (htb _ kw_730) dX1_overlay_2 ?_
  refine cm_callTV (t := 1) (C := RX6) (T := TX6) (N := 8) (rest := []) (as := [eV (ad 9) o, eV (ad 33) 16]) ⟨hx, hb, hml, hown, htb⟩ (d_has l dC dI ad cid a2 lx sg gm lg pp o 16 hI hvpp hvo (iv_w (iv_k (by decide) : iv 16 16 16) (by decide)) hFA how) (cwV 2 htb (gd_V kw_735 kw_605 kw_606 kw_20 kw_1481) rfl rfl rfl (by decide +kernel) ⟨Nat.le_of_ble_eq_true rfl, Nat.le_of_ble_eq_true rfl⟩) hvpp (by decide) (by decide) rfl rfl hl.1 rfl (Nat.le_trans cs_n (by decide)) dX1_overlay_5 ⟨Nat.le_trans (gc_le hI) (Nat.le_of_ble_eq_true rfl), Nat.le_trans (gs_le hI) (Nat.le_of_ble_eq_true rfl)⟩ hK hP hD hS hA hG (fun E ce q9 u_50 H locs hw hP hD hS hce hcv hcl => ?_) (fun v9 u_50 H locs hw hP hD hS => ?_)
  · exact hw.elim
  obtain ⟨r_49, rfl, rfl, hr_49, fH_r_49⟩ := hw
  have hP : va_P (dC, dI) vwCl (cW ad cid a2 lx sg gm lg) H := hP
  have hD : va_D A (cW ad cid a2 lx sg gm lg) := hD
  refine W.eq (g2 := F0 m 8 ls [.int r_49]) rfl ?_
  refine lv_if_eq (tgt := 23) hx hb dX1_overlay_8 (by decide) (fun c_52 => ?_) (fun c_52 => ?_)
  · have h_53 : iv 0 0 r_49 := iv_eq c_52 hr_49 (iv_k (by decide) : iv 0 0 0) (by decide)
    exact hj23 lg hvb hvo hvpp KS_rf hI (Nat.le_refl _) _ _ _ hP hD hS (lv_sub hl [0, 1, 2] rfl)
  · have h_54 : iv 1 1 r_49 := iv_neL c_52 hr_49 (by decide)
    refine ec_aload_n hx hb dX1_overlay_11 rfl (lv_at hl 0 rfl) ?_
    refine ec_aload_n hx hb dX1_overlay_12 rfl (lv_at hl 2 rfl) ?_
    refine ec_aload_n hx hb dX1_overlay_13 rfl (lv_at hl 1 rfl) ?_
    refine cw_word (k := 16) (kx := 16) hx hb hG hS (by decide) rfl ⟨by decide, by decide⟩ hown (htb _ kw_730) dX1_overlay_14 ?_
    refine cm_callTV (t := 1) (C := RX6) (T := TX6) (N := 8) (rest := [eV (ad 10) b]) (as := [eV (ad 9) o, eV (ad 33) 16]) ⟨hx, hb, hml, hown, htb⟩ (d_nameValue2 l dC dI ad cid a2 lx sg gm lg pp o 16 hI hvpp hvo (iv_w (iv_k (by decide) : iv 16 16 16) (by decide)) hFA how hVS) (cwV 2 htb (gd_V kw_679 kw_583 kw_584 kw_20 kw_1475) rfl rfl rfl (by decide +kernel) ⟨Nat.le_of_ble_eq_true rfl, Nat.le_of_ble_eq_true rfl⟩) hvpp (by decide) (by decide) rfl rfl hl.1 rfl (Nat.le_trans (cs_c (eV_cat _ _) cs_n) (by decide)) dX1_overlay_17 ⟨Nat.le_trans (gc_le hI) (Nat.le_of_ble_eq_true rfl), Nat.le_trans (gs_le hI) (Nat.le_of_ble_eq_true rfl)⟩ hK hP hD hS hA hG (fun E ce q9 u_56 H locs hw hP hD hS hce hcv hcl => ?_) (fun v9 u_56 H locs hw hP hD hS => ?_)
    · exact hw.elim
    obtain ⟨r_55, rfl, rfl, fZ_r_55⟩ := hw
    have hP : va_P (dC, dI) vwCl (cW ad cid a2 lx sg gm lg) H := hP
    have hD : va_D A (cW ad cid a2 lx sg gm lg) := hD
    refine W.eq (g2 := F0 m 20 ls [.long r_55, eV (ad 10) b]) rfl ?_
    refine cr_putl (t := 10) (j := 8) (C := RX1) (T := TX1) (N := 19) (ty0 := tyX1) (k := 7) (y := r_55) hx hb htb inX1 tyX1_ok nmX1 hown hK hP hD hS hvb (by decide) (by decide) (by decide) rfl rfl rfl (by decide) (htb _ kw_665) rfl (by show Value.long r_55 = Value.long (va_up lg 7 (vp_updL (lg 7) b.toNatClampNeg r_55) 7 b.toNatClampNeg); rw [va_up_self, pk_uLs]) rfl rfl dX1_overlay_20 (fun lg_58 H locs elg_58 hP hD hS => ?_)
    exact hj23 lg_58 hvb hvo hvpp (KS_up KS_rf elg_58 (by decide)) hI (Nat.le_refl _) _ _ _ hP hD hS (lv_sub hl [0, 1, 2] rfl)

set_option maxHeartbeats 4000000 in
set_option maxRecDepth 100000 in
theorem d_settle (l : Launch) (dC : Nat → ClassId) (dI : Nat → Nat → Nat) (ad : Nat → Nat → Nat) (cid : Nat → ClassId) (a2 : Nat → Nat) (lx : List Nat) (sg : Nat → Int32) (gm : Nat → Nat → Int32) (lg : Nat → Nat → Int64) (x : Int32) (o : Int32) (hI : CI sg gm) (hvx : iv 0 0 x) (hvo : iv 0 79 o) (hFA : FA sg gm) (how : o.toInt < (sg 4).toInt) (hVS : VS sg gm) (hLD : LDI lx gm) (hSO : SOK gm lg o.toNatClampNeg) (hbn : gm 27 o.toNatClampNeg = -1) (hc12 : (sg 12).toInt < 80) : CMt dC dI ad cid a2 lx l yX10_settle wm_X10_settle ({ frames := 7, cells := 1, slots := 6, locals := 153 }) [eV (ad 4) x, eV (ad 9) o] sg gm lg (fun v u => v = none ∧ ∃ (sg2 : Nat → Int32) (gm2 : Nat → Nat → Int32) (lg2 : Nat → Nat → Int64), u = (sg2, gm2, lg2) ∧ CI sg2 gm2 ∧ KS [12] sg sg2 ∧ KS [11, 21, 22, 23, 24, 25, 26, 27, 29, 30, 31, 32, 33, 34, 35, 36, 37, 38, 39, 40, 41, 56, 57] gm gm2 ∧ KS [1, 2, 3, 4, 5, 6, 7] lg lg2 ∧ (STL sg2 gm2 lg2 o.toNatClampNeg) ∧ (SFR gm gm2 o.toNatClampNeg) ∧ (BBG sg sg2 gm gm2 lg lg2 o) ∧ (LDI lx gm2)) (fun _ _ => False) := by
  intro sz
  refine vx_ofW (cc := cX10_settle) (maxL := 2) (ret := none) (by decide) rfl ?_
  intro p e s m args below meth c s₁ B hml hxt hv
  obtain ⟨rfl, hsz, hP, hK, hD0, hG⟩ := hv
  have hx := B.exec
  have hb := B.bytes
  have hr := B.returns
  have hts := atoms_spec (ws := wm_X10_settle) B.pre
  have htb := fun (w : Cond) (h : w ∈ tb) => hts w (List.mem_cons_of_mem _ h)
  have hown : s.vm.findClass RX10 = some m.cls := findClass_of_methodNamed B.named
  have hlocks := B.notSynchronized
  subst hsz
  have hD := hD0.self (sz := s.heap.size)
  generalize hAe : va_A (cW ad cid a2 lx sg gm lg) s.heap.size = A at hD hG ⊢
  have hA : ∀ q : Nat, s.heap.size ≤ q → A q := fun q h => by rw [← hAe]; exact Or.inr h
  have hS : va_S A s.heap s.heap [] := va_S.rf
  have hl := lv_entry ([eV (ad 4) x, eV (ad 9) o]) (n := 2) (by rw [show (lg_sl ([eV (ad 4) x, eV (ad 9) o])).length = 2 from by simp [lg_sl, eV_cat, cat_i, cat_l]]; exact Nat.le_of_ble_eq_true rfl)
  rw [lg_entry_eq]
  generalize (lg_sl ([eV (ad 4) x, eV (ad 9) o]) ++ List.replicate (2 - (lg_sl ([eV (ad 4) x, eV (ad 9) o])).length) Slot.unset).toArray = ls at hl ⊢
  have hl : lv_has ls 2 [(0, eV (ad 4) x), (1, eV (ad 9) o)] := by simp [lv_args, eV_cat, cat_i, cat_l] at hl; exact hl
  have h12z : iv 0 79 (sg 12) := ⟨(show iv 0 80 (sg 12) from CI_s hI 12).1, by omega⟩
  have hj274 : ∀ (sg_j274 : Nat → Int32) (gm_j274 : Nat → Nat → Int32) (lg_j274 : Nat → Nat → Int64) (_ : iv 0 0 x) (_ : iv 0 79 o) (_ : KS [12] sg sg_j274) (_ : KS [11, 21, 22, 23, 24, 25, 26, 27, 29, 30, 31, 32, 33, 34, 35, 36, 37, 38, 39, 40, 41, 56, 57] gm gm_j274) (_ : KS [1, 2, 3, 4, 5, 6, 7] lg lg_j274) (_ : CI sg_j274 gm_j274) (_ : STL sg_j274 gm_j274 lg_j274 o.toNatClampNeg) (_ : SFR gm gm_j274 o.toNatClampNeg) (_ : BBG sg sg_j274 gm gm_j274 lg lg_j274 o) (_ : LDI lx gm_j274) (H : Heap) (locs : List Loc) (ls : Array Slot), va_P (dC, dI) vwCl (cW ad cid a2 lx sg_j274 gm_j274 lg_j274) H → va_D A (cW ad cid a2 lx sg_j274 gm_j274 lg_j274) → va_S A s.heap H locs → lv_has ls 2 [(0, eV (ad 4) x), (1, eV (ad 9) o)] → W p l e (headSpec wm_X10_settle ({ frames := 7, cells := 1, slots := 6, locals := 153 })).room s m ([eV (ad 4) x, eV (ad 9) o] : List Value).toArray below meth c H locs 0 0 (vx_MQ below (cQx dC dI ad cid a2 lx (fun v u => v = none ∧ ∃ (sg2 : Nat → Int32) (gm2 : Nat → Nat → Int32) (lg2 : Nat → Nat → Int64), u = (sg2, gm2, lg2) ∧ CI sg2 gm2 ∧ KS [12] sg sg2 ∧ KS [11, 21, 22, 23, 24, 25, 26, 27, 29, 30, 31, 32, 33, 34, 35, 36, 37, 38, 39, 40, 41, 56, 57] gm gm2 ∧ KS [1, 2, 3, 4, 5, 6, 7] lg lg2 ∧ (STL sg2 gm2 lg2 o.toNatClampNeg) ∧ (SFR gm gm2 o.toNatClampNeg) ∧ (BBG sg sg2 gm gm2 lg lg2 o) ∧ (LDI lx gm2)) A) (cX dC dI ad cid a2 lx (fun _ _ => False) A) ([eV (ad 4) x, eV (ad 9) o] : List Value).toArray s 1 6 A) (F0 m 274 ls []) := by
    intro sg_j274 gm_j274 lg_j274 hsx0_274 hsx1_274 hks_j274 hkg_j274 hkl_j274 hI_j274 hST hSF hBB hLDs H locs ls hP hD hS hl
    exact W.nb (fun hN => W.widen (k := 1) (n := 6) (by decide) (by decide) (vx_ret (W.vret hx hb hr (fun t ht hW => ⟨⟨none, (sg_j274, gm_j274, lg_j274), rfl, ⟨rfl, sg_j274, gm_j274, lg_j274, rfl, hI_j274, (KS_tr (L := [12]) KS_rf hks_j274 (by decide)), (KS_tr (L := [11, 21, 22, 23, 24, 25, 26, 27, 29, 30, 31, 32, 33, 34, 35, 36, 37, 38, 39, 40, 41, 56, 57]) KS_rf hkg_j274 (by decide)), (KS_tr (L := [1, 2, 3, 4, 5, 6, 7]) KS_rf hkl_j274 (by decide)), (hST), (hSF), (hBB), (hLDs)⟩, by rw [ht]; exact hP, va_K.moved hW.alike hK, hD⟩, hS.F ht, by rw [ht]; exact hN⟩) hS.2.2 dX10_settle_274)))
  refine ec_aload_n hx hb dX10_settle_0 rfl (lv_at hl 1 rfl) ?_
  refine ec_aload_n hx hb dX10_settle_1 rfl (lv_at hl 1 rfl) ?_
  refine cr_get (t := 9) (j := 4) (C := RX3) (T := TX3) (N := 21) (v := eV (ad 33) (gm 14 o.toNatClampNeg)) hx hb htb inX3 hown hK hP hvo (by decide) (by decide) (by decide) rfl (by decide) (htb _ kw_630) rfl dX10_settle_2 ?_
  obtain ⟨z_1, ez_1⟩ : ∃ z : Int32, z = (gm 14 o.toNatClampNeg) := ⟨_, rfl⟩
  refine W.eq (g2 := F0 m 5 ls [eV (ad 33) z_1, eV (ad 9) o]) (by rw [ez_1]) ?_
  have hz_1 : iv (-1) 33 z_1 := iv_of ez_1 (CI_a hI 14 hvo (by decide))
  have h_2 : iv 0 33 z_1 := ⟨by rw [ez_1]; exact hSO.1, (hz_1).2⟩
  refine cr_putg (t := 9) (j := 18) (C := RX3) (T := TX3) (N := 21) (ty0 := tyX3) (k := 25) (y := z_1) hx hb htb inX3 tyX3_ok nmX3 hown hK hP hD hS hvo (by decide) (by decide) (by decide) (by decide) rfl rfl (by decide) (htb _ kw_631) rfl (by show eV (ad 33) z_1 = eV (ad 33) (va_up gm 25 (upd (gm 25) o.toNatClampNeg z_1) 25 o.toNatClampNeg); rw [va_up_self, upd_at]) (ev_n _) (ev_f _) dX10_settle_5 (fun gm_3 H locs egm_3 hP hD hS => ?_)
  have hI_gm_3 := CI_st hI egm_3 h_2 (by decide)
  refine cw_sw hx hb hG hS hown (htb _ kw_632) dX10_settle_8 ?_
  refine ec_aload_n hx hb dX10_settle_11 rfl (lv_at hl 1 rfl) ?_
  refine cr_get (t := 9) (j := 4) (C := RX3) (T := TX3) (N := 21) (v := eV (ad 33) (gm_3 14 o.toNatClampNeg)) hx hb htb inX3 hown hK hP hvo (by decide) (by decide) (by decide) rfl (by decide) (htb _ kw_630) rfl dX10_settle_12 ?_
  refine W.eq (g2 := F0 m 15 ls [eV (ad 33) z_1, eV (ad 36) 0]) (by rw [show (gm_3 14 o.toNatClampNeg) = z_1 from (Eq.trans (congrFun (up_ne egm_3 (by decide)) _) ez_1.symm)]) ?_
  refine cw_ord ⟨hx, hb, hml, hown, htb⟩ kw_645 h_2 hl.1 (Nat.le_trans (cs_c (eV_cat _ _) cs_n) (by decide)) dX10_settle_15 ⟨Nat.le_of_ble_eq_true rfl, Nat.le_of_ble_eq_true rfl⟩ ⟨Nat.le_of_ble_eq_true rfl, Nat.le_of_ble_eq_true rfl⟩ hP hD hS hA hG (fun H locs hP hS => ?_)
  refine cw_swld (iv_k (by decide) : iv 0 0 0) hx hb hG hS h_2 dX10_settle_18 ?_
  refine lv_topi (fun z_4 ez_4 => ?_)
  have hz_4 : iv 0 29 z_4 := iv_of ez_4 (sw_iv z_1)
  by_cases c_5 : (z_4 : Int32).toInt = 7
  · refine lv_tableIn (tgt := 64) hx hb dX10_settle_19 (by rw [c_5]; decide) (by rw [c_5]; decide) (by rw [c_5]; rfl) (by decide) ?_
    have h_6 : iv 7 7 z_4 := iv_at c_5
    refine ec_aload_n hx hb dX10_settle_64 rfl (lv_at hl 1 rfl) ?_
    refine ec_aload_n hx hb dX10_settle_65 rfl (lv_at hl 0 rfl) ?_
    refine cr_get (t := 4) (j := 0) (C := RX10) (T := TX10) (N := 4) (v := eV (ad 1) 0) hx hb htb inX10 hown hK hP hvx (by decide) (by decide) (by decide) rfl (by decide) (htb _ kw_86) (cV_c rfl (by decide) (by rw [show cMu 4 0 = 0 from rfl, Nat.zero_mul]; rfl)) dX10_settle_66 ?_
    refine ec_aload_n hx hb dX10_settle_69 rfl (lv_at hl 1 rfl) ?_
    refine cw_word (k := 22) (kx := 22) hx hb hG hS (by decide) rfl ⟨by decide, by decide⟩ hown (htb _ kw_633) dX10_settle_70 ?_
    refine cm_callV (t := 1) (C := RX6) (T := TX6) (N := 8) (rest := [eV (ad 9) o]) (as := [eV (ad 9) o, eV (ad 33) 22]) ⟨hx, hb, hml, hown, htb⟩ (d_nameValue2 l dC dI ad cid a2 lx sg gm_3 lg 0 o 22 hI_gm_3 (iv_k (by decide) : iv 0 0 0) hvo (iv_w (iv_k (by decide) : iv 22 22 22) (by decide)) (FA_e hFA rfl rfl (up_ne egm_3 (by decide)) (up_ne egm_3 (by decide))) how (VS_e hVS rfl rfl (up_ne egm_3 (by decide)) (up_ne egm_3 (by decide)))) (cwV 2 htb (gd_V kw_646 kw_583 kw_584 kw_20 kw_1475) rfl rfl rfl (by decide +kernel) ⟨Nat.le_of_ble_eq_true rfl, Nat.le_of_ble_eq_true rfl⟩) (iv_k (by decide) : iv 0 0 0) (by decide) (by decide) rfl rfl hl.1 rfl (Nat.le_trans (cs_c (eV_cat _ _) cs_n) (by decide)) dX10_settle_73 ⟨Nat.le_of_ble_eq_true rfl, Nat.le_of_ble_eq_true rfl⟩ hK hP hD hS hA hG (fun E ce q9 u_8 H locs hw hP hD hS hce hcv hcl => ?_) (fun v9 u_8 H locs hw hP hD hS => ?_)
    · exact hw.elim
    obtain ⟨r_7, rfl, rfl, fZ_r_7⟩ := hw
    have hP : va_P (dC, dI) vwCl (cW ad cid a2 lx sg gm_3 lg) H := hP
    have hD : va_D A (cW ad cid a2 lx sg gm_3 lg) := hD
    refine W.eq (g2 := F0 m 76 ls [.long r_7, eV (ad 9) o]) rfl ?_
    refine cr_putl (t := 9) (j := 11) (C := RX3) (T := TX3) (N := 21) (ty0 := tyX3) (k := 1) (y := r_7) hx hb htb inX3 tyX3_ok nmX3 hown hK hP hD hS hvo (by decide) (by decide) (by decide) rfl rfl rfl (by decide) (htb _ kw_634) rfl (by show Value.long r_7 = Value.long (va_up lg 1 (vp_updL (lg 1) o.toNatClampNeg r_7) 1 o.toNatClampNeg); rw [va_up_self, pk_uLs]) rfl rfl dX10_settle_76 (fun lg_10 H locs elg_10 hP hD hS => ?_)
    refine ec_aload_n hx hb dX10_settle_79 rfl (lv_at hl 1 rfl) ?_
    refine ec_aload_n hx hb dX10_settle_80 rfl (lv_at hl 0 rfl) ?_
    refine cr_get (t := 4) (j := 0) (C := RX10) (T := TX10) (N := 4) (v := eV (ad 1) 0) hx hb htb inX10 hown hK hP hvx (by decide) (by decide) (by decide) rfl (by decide) (htb _ kw_86) (cV_c rfl (by decide) (by rw [show cMu 4 0 = 0 from rfl, Nat.zero_mul]; rfl)) dX10_settle_81 ?_
    refine ec_aload_n hx hb dX10_settle_84 rfl (lv_at hl 1 rfl) ?_
    refine cw_word (k := 21) (kx := 21) hx hb hG hS (by decide) rfl ⟨by decide, by decide⟩ hown (htb _ kw_635) dX10_settle_85 ?_
    refine cm_callV (t := 1) (C := RX6) (T := TX6) (N := 8) (rest := [eV (ad 9) o]) (as := [eV (ad 9) o, eV (ad 33) 21]) ⟨hx, hb, hml, hown, htb⟩ (d_nameValue2 l dC dI ad cid a2 lx sg gm_3 lg_10 0 o 21 hI_gm_3 (iv_k (by decide) : iv 0 0 0) hvo (iv_w (iv_k (by decide) : iv 21 21 21) (by decide)) (FA_e hFA rfl rfl (up_ne egm_3 (by decide)) (up_ne egm_3 (by decide))) how (VS_e hVS rfl rfl (up_ne egm_3 (by decide)) (up_ne egm_3 (by decide)))) (cwV 2 htb (gd_V kw_646 kw_583 kw_584 kw_20 kw_1475) rfl rfl rfl (by decide +kernel) ⟨Nat.le_of_ble_eq_true rfl, Nat.le_of_ble_eq_true rfl⟩) (iv_k (by decide) : iv 0 0 0) (by decide) (by decide) rfl rfl hl.1 rfl (Nat.le_trans (cs_c (eV_cat _ _) cs_n) (by decide)) dX10_settle_88 ⟨Nat.le_of_ble_eq_true rfl, Nat.le_of_ble_eq_true rfl⟩ hK hP hD hS hA hG (fun E ce q9 u_12 H locs hw hP hD hS hce hcv hcl => ?_) (fun v9 u_12 H locs hw hP hD hS => ?_)
    · exact hw.elim
    obtain ⟨r_11, rfl, rfl, fZ_r_11⟩ := hw
    have hP : va_P (dC, dI) vwCl (cW ad cid a2 lx sg gm_3 lg_10) H := hP
    have hD : va_D A (cW ad cid a2 lx sg gm_3 lg_10) := hD
    refine W.eq (g2 := F0 m 91 ls [.long r_11, eV (ad 9) o]) rfl ?_
    refine cr_putl (t := 9) (j := 12) (C := RX3) (T := TX3) (N := 21) (ty0 := tyX3) (k := 2) (y := r_11) hx hb htb inX3 tyX3_ok nmX3 hown hK hP hD hS hvo (by decide) (by decide) (by decide) rfl rfl rfl (by decide) (htb _ kw_636) rfl (by show Value.long r_11 = Value.long (va_up lg_10 2 (vp_updL (lg_10 2) o.toNatClampNeg r_11) 2 o.toNatClampNeg); rw [va_up_self, pk_uLs]) rfl rfl dX10_settle_91 (fun lg_14 H locs elg_14 hP hD hS => ?_)
    refine lv_goto (tgt := 274) hx hb dX10_settle_94 (by decide) ?_
    exact hj274 sg gm_3 lg_14 hvx hvo KS_rf (KS_up KS_rf egm_3 (by decide)) (KS_up (KS_up KS_rf elg_10 (by decide)) elg_14 (by decide)) hI_gm_3 (STL_k hSO hbn (up_ne egm_3 (by decide)) (show gm_3 25 = upd (gm 25) o.toNatClampNeg (gm 14 o.toNatClampNeg) from (by rw [(show gm_3 25 = upd (gm 25) (o : Int32).toNatClampNeg z_1 from ((up_at egm_3).trans (by rw [show gm 25 = gm 25 from rfl]))), ez_1])) (up_ne egm_3 (by decide)) (by rw [← ez_1]; exact swx 3 9 (by decide) (h_2) ez_4 (by omega)) (by rw [← ez_1]; exact swx 4 10 (by decide) (h_2) ez_4 (by omega))) (SFR_k (show gm_3 25 = upd (gm 25) o.toNatClampNeg (gm 14 o.toNatClampNeg) from (by rw [(show gm_3 25 = upd (gm 25) (o : Int32).toNatClampNeg z_1 from ((up_at egm_3).trans (by rw [show gm 25 = gm 25 from rfl]))), ez_1])) (up_ne egm_3 (by decide)) (up_ne egm_3 (by decide)) (up_ne egm_3 (by decide))) (BBG_0 rfl (up_ne egm_3 (by decide)) (up_ne egm_3 (by decide)) (up_ne egm_3 (by decide)) (up_ne egm_3 (by decide)) (Eq.trans (up_ne elg_14 (by decide)) (up_ne elg_10 (by decide)))) ((LDI_e hLD (up_ne egm_3 (by decide)) (up_ne egm_3 (by decide)) (up_ne egm_3 (by decide)))) _ _ _ hP hD hS (lv_sub hl [0, 1] rfl)
  by_cases c_15 : (z_4 : Int32).toInt = 8
  · refine lv_tableIn (tgt := 97) hx hb dX10_settle_19 (by rw [c_15]; decide) (by rw [c_15]; decide) (by rw [c_15]; rfl) (by decide) ?_
    have h_16 : iv 8 8 z_4 := iv_at c_15
    refine ec_aload_n hx hb dX10_settle_97 rfl (lv_at hl 1 rfl) ?_
    refine ec_aload_n hx hb dX10_settle_98 rfl (lv_at hl 0 rfl) ?_
    refine cr_get (t := 4) (j := 0) (C := RX10) (T := TX10) (N := 4) (v := eV (ad 1) 0) hx hb htb inX10 hown hK hP hvx (by decide) (by decide) (by decide) rfl (by decide) (htb _ kw_86) (cV_c rfl (by decide) (by rw [show cMu 4 0 = 0 from rfl, Nat.zero_mul]; rfl)) dX10_settle_99 ?_
    refine ec_aload_n hx hb dX10_settle_102 rfl (lv_at hl 1 rfl) ?_
    refine cw_word (k := 10) (kx := 10) hx hb hG hS (by decide) rfl ⟨by decide, by decide⟩ hown (htb _ kw_637) dX10_settle_103 ?_
    refine cm_callV (t := 1) (C := RX6) (T := TX6) (N := 8) (rest := [eV (ad 9) o]) (as := [eV (ad 9) o, eV (ad 33) 10]) ⟨hx, hb, hml, hown, htb⟩ (d_nameValue2 l dC dI ad cid a2 lx sg gm_3 lg 0 o 10 hI_gm_3 (iv_k (by decide) : iv 0 0 0) hvo (iv_w (iv_k (by decide) : iv 10 10 10) (by decide)) (FA_e hFA rfl rfl (up_ne egm_3 (by decide)) (up_ne egm_3 (by decide))) how (VS_e hVS rfl rfl (up_ne egm_3 (by decide)) (up_ne egm_3 (by decide)))) (cwV 2 htb (gd_V kw_646 kw_583 kw_584 kw_20 kw_1475) rfl rfl rfl (by decide +kernel) ⟨Nat.le_of_ble_eq_true rfl, Nat.le_of_ble_eq_true rfl⟩) (iv_k (by decide) : iv 0 0 0) (by decide) (by decide) rfl rfl hl.1 rfl (Nat.le_trans (cs_c (eV_cat _ _) cs_n) (by decide)) dX10_settle_106 ⟨Nat.le_of_ble_eq_true rfl, Nat.le_of_ble_eq_true rfl⟩ hK hP hD hS hA hG (fun E ce q9 u_18 H locs hw hP hD hS hce hcv hcl => ?_) (fun v9 u_18 H locs hw hP hD hS => ?_)
    · exact hw.elim
    obtain ⟨r_17, rfl, rfl, fZ_r_17⟩ := hw
    have hP : va_P (dC, dI) vwCl (cW ad cid a2 lx sg gm_3 lg) H := hP
    have hD : va_D A (cW ad cid a2 lx sg gm_3 lg) := hD
    refine W.eq (g2 := F0 m 109 ls [.long r_17, eV (ad 9) o]) rfl ?_
    refine cr_putl (t := 9) (j := 11) (C := RX3) (T := TX3) (N := 21) (ty0 := tyX3) (k := 1) (y := r_17) hx hb htb inX3 tyX3_ok nmX3 hown hK hP hD hS hvo (by decide) (by decide) (by decide) rfl rfl rfl (by decide) (htb _ kw_634) rfl (by show Value.long r_17 = Value.long (va_up lg 1 (vp_updL (lg 1) o.toNatClampNeg r_17) 1 o.toNatClampNeg); rw [va_up_self, pk_uLs]) rfl rfl dX10_settle_109 (fun lg_20 H locs elg_20 hP hD hS => ?_)
    refine ec_aload_n hx hb dX10_settle_112 rfl (lv_at hl 1 rfl) ?_
    refine ec_aload_n hx hb dX10_settle_113 rfl (lv_at hl 0 rfl) ?_
    refine cr_get (t := 4) (j := 1) (C := RX10) (T := TX10) (N := 4) (v := eV (ad 19) 0) hx hb htb inX10 hown hK hP hvx (by decide) (by decide) (by decide) rfl (by decide) (htb _ kw_88) (cV_c rfl (by decide) (by rw [show cMu 4 1 = 0 from rfl, Nat.zero_mul]; rfl)) dX10_settle_114 ?_
    refine ec_aload_n hx hb dX10_settle_117 rfl (lv_at hl 0 rfl) ?_
    refine cr_get (t := 4) (j := 3) (C := RX10) (T := TX10) (N := 4) (v := .int (sg 12)) hx hb htb inX10 hown hK hP hvx (by decide) (by decide) (by decide) rfl (by decide) (htb _ kw_325) rfl dX10_settle_118 ?_
    refine cr_aald (t := 19) (C := RX1) (v := eV (ad 10) (sg 12)) hx hb hK hP (iv_k (by decide) : iv 0 0 0) (by decide) (by decide) (by decide) (by decide) (by decide) rfl (show vp_in (sg 12) (cLen 19) from (show vp_in (sg 12) 80 from (iv_in h12z (by decide)))) (cAr_c (by decide) (h12z).1 (by rw [show cAm 19 = 0 from rfl, Nat.zero_mul, show cAo 19 = 0 from rfl]; omega)) dX10_settle_121 ?_
    refine cr_putg (t := 9) (j := 20) (C := RX3) (T := TX3) (N := 21) (ty0 := tyX3) (k := 27) (y := (sg 12)) hx hb htb inX3 tyX3_ok nmX3 hown hK hP hD hS hvo (by decide) (by decide) (by decide) (by decide) rfl rfl (by decide) (htb _ kw_638) rfl (by show eV (ad 10) (sg 12) = eV (ad 10) (va_up gm_3 27 (upd (gm_3 27) o.toNatClampNeg (sg 12)) 27 o.toNatClampNeg); rw [va_up_self, upd_at]) (ev_n _) (ev_f _) dX10_settle_122 (fun gm_21 H locs egm_21 hP hD hS => ?_)
    have hI_gm_21 := CI_st hI_gm_3 egm_21 h12z (by decide)
    refine ec_aload_n hx hb dX10_settle_125 rfl (lv_at hl 0 rfl) ?_
    refine cr_get (t := 4) (j := 1) (C := RX10) (T := TX10) (N := 4) (v := eV (ad 19) 0) hx hb htb inX10 hown hK hP hvx (by decide) (by decide) (by decide) rfl (by decide) (htb _ kw_88) (cV_c rfl (by decide) (by rw [show cMu 4 1 = 0 from rfl, Nat.zero_mul]; rfl)) dX10_settle_126 ?_
    refine ec_aload_n hx hb dX10_settle_129 rfl (lv_at hl 0 rfl) ?_
    refine cr_get (t := 4) (j := 3) (C := RX10) (T := TX10) (N := 4) (v := .int (sg 12)) hx hb htb inX10 hown hK hP hvx (by decide) (by decide) (by decide) rfl (by decide) (htb _ kw_325) rfl dX10_settle_130 ?_
    refine cr_aald (t := 19) (C := RX1) (v := eV (ad 10) (sg 12)) hx hb hK hP (iv_k (by decide) : iv 0 0 0) (by decide) (by decide) (by decide) (by decide) (by decide) rfl (show vp_in (sg 12) (cLen 19) from (show vp_in (sg 12) 80 from (iv_in h12z (by decide)))) (cAr_c (by decide) (h12z).1 (by rw [show cAm 19 = 0 from rfl, Nat.zero_mul, show cAo 19 = 0 from rfl]; omega)) dX10_settle_133 ?_
    refine ec_aload_n hx hb dX10_settle_134 rfl (lv_at hl 1 rfl) ?_
    refine ec_aload_n hx hb dX10_settle_135 rfl (lv_at hl 0 rfl) ?_
    refine cr_get (t := 4) (j := 0) (C := RX10) (T := TX10) (N := 4) (v := eV (ad 1) 0) hx hb htb inX10 hown hK hP hvx (by decide) (by decide) (by decide) rfl (by decide) (htb _ kw_86) (cV_c rfl (by decide) (by rw [show cMu 4 0 = 0 from rfl, Nat.zero_mul]; rfl)) dX10_settle_136 ?_
    refine cm_callV (t := 10) (C := RX1) (T := TX1) (N := 19) (rest := []) (as := [eV (ad 9) o, eV (ad 1) 0]) ⟨hx, hb, hml, hown, htb⟩ (d_beginBe l dC dI ad cid a2 lx sg gm_21 lg_20 (sg 12) o 0 hI_gm_21 h12z hvo (iv_k (by decide) : iv 0 0 0) (FA_e hFA rfl rfl (Eq.trans (up_ne egm_21 (by decide)) (up_ne egm_3 (by decide))) (Eq.trans (up_ne egm_21 (by decide)) (up_ne egm_3 (by decide)))) how (VS_e hVS rfl rfl (Eq.trans (up_ne egm_21 (by decide)) (up_ne egm_3 (by decide))) (Eq.trans (up_ne egm_21 (by decide)) (up_ne egm_3 (by decide)))) (LDI_e hLD (Eq.trans (up_ne egm_21 (by decide)) (up_ne egm_3 (by decide))) (Eq.trans (up_ne egm_21 (by decide)) (up_ne egm_3 (by decide))) (Eq.trans (up_ne egm_21 (by decide)) (up_ne egm_3 (by decide))))) (cwV 2 htb (gd_V kw_647 kw_648 kw_649 kw_90 kw_1486) rfl rfl rfl (by decide +kernel) ⟨Nat.le_of_ble_eq_true rfl, Nat.le_of_ble_eq_true rfl⟩) h12z (by decide) (by decide) rfl rfl hl.1 rfl (Nat.le_trans cs_n (by decide)) dX10_settle_139 ⟨Nat.le_of_ble_eq_true rfl, Nat.le_of_ble_eq_true rfl⟩ hK hP hD hS hA hG (fun E ce q9 u_23 H locs hw hP hD hS hce hcv hcl => ?_) (fun v9 u_23 H locs hw hP hD hS => ?_)
    · exact hw.elim
    obtain ⟨rfl, sgv_24, gmv_24, lgv_24, rfl, hIv_24, ksv_24, kgv_24, klv_24, fE_r_22, f37_r_22, f38_r_22, f39_r_22, fS_r_22, fLD_r_22, fID_r_22⟩ := hw
    obtain rfl := KS_nil ksv_24
    have hP : va_P (dC, dI) vwCl (cW ad cid a2 lx sg gmv_24 lgv_24) H := hP
    have hD : va_D A (cW ad cid a2 lx sg gmv_24 lgv_24) := hD
    refine W.eq (g2 := F0 m 142 ls []) rfl ?_
    refine ec_aload_n hx hb dX10_settle_142 rfl (lv_at hl 0 rfl) ?_
    refine lv_dup hx hb dX10_settle_143 (eV_cat _ _) ?_
    refine cr_get (t := 4) (j := 3) (C := RX10) (T := TX10) (N := 4) (v := .int (sg 12)) hx hb htb inX10 hown hK hP hvx (by decide) (by decide) (by decide) rfl (by decide) (htb _ kw_325) rfl dX10_settle_144 ?_
    refine lv_iconst (v := 1) hx hb dX10_settle_147 (by decide) ?_
    refine lv_iadd hx hb dX10_settle_148 ?_
    refine lv_topi (fun z_25 ez_25 => ?_)
    have hz_25 : iv 1 80 z_25 := iv_of ez_25 (iv_add h12z (iv_k (by decide) : iv 1 1 1) (by decide))
    have tz_25 : z_25.toInt = ((sg 12) : Int32).toInt + 1 := by rw [ez_25]; exact iv_addE h12z (iv_k (by decide) : iv 1 1 1) (by decide)
    refine cr_puts (t := 4) (j := 3) (C := RX10) (T := TX10) (N := 4) (ty0 := tyX10) (k := 12) (y := z_25) hx hb htb inX10 tyX10_ok nmX10 hown hK hP hD hS hvx (by decide) (by decide) (by decide) (by decide) rfl rfl rfl (by decide) (htb _ kw_325) rfl (by show Value.int z_25 = Value.int (va_up sg 12 z_25 12); rw [va_up_self]) rfl rfl dX10_settle_149 (fun sg_26 H locs esg_26 hP hD hS => ?_)
    have hI_sg_26 := CI_put hIv_24 esg_26 hz_25 (by decide)
    refine lv_goto (tgt := 274) hx hb dX10_settle_152 (by decide) ?_
    exact hj274 sg_26 gmv_24 lgv_24 hvx hvo (KS_up KS_rf esg_26 (by decide)) (KS_tr (L := [11, 21, 22, 23, 24, 25, 26, 27, 29, 30, 31, 32, 33, 34, 35, 36, 37, 38, 39, 40, 41, 56, 57]) (KS_up (KS_up KS_rf egm_3 (by decide)) egm_21 (by decide)) kgv_24 (by decide)) (KS_tr (L := [1, 2, 3, 4, 5, 6, 7]) (KS_up KS_rf elg_20 (by decide)) klv_24 (by decide)) hI_sg_26 (STL_b (c := sg 12) hSO (Eq.trans (Eq.trans (kgv_24 14 (by decide)) (up_ne egm_21 (by decide))) (up_ne egm_3 (by decide))) (Eq.trans (Eq.trans (kgv_24 19 (by decide)) (up_ne egm_21 (by decide))) (up_ne egm_3 (by decide))) (Eq.trans (Eq.trans (kgv_24 20 (by decide)) (up_ne egm_21 (by decide))) (up_ne egm_3 (by decide))) (show gmv_24 25 = upd (gm 25) o.toNatClampNeg (gm 14 o.toNatClampNeg) from (by rw [(show gmv_24 25 = upd (gm 25) (o : Int32).toNatClampNeg z_1 from ((kgv_24 25 (by decide)).trans ((up_ne egm_21 (by decide)).trans ((up_at egm_3).trans (by rw [show gm 25 = gm 25 from rfl]))))), ez_1])) (show gmv_24 27 = upd (gm 27) (o : Int32).toNatClampNeg (sg 12) from ((kgv_24 27 (by decide)).trans ((up_at egm_21).trans (by rw [show gm_3 27 = gm 27 from ((up_ne egm_3 (by decide)).trans rfl)])))) h12z.1 (by have q1 := sw10 (show iv 0 33 z_1 from h_2) ez_4 (by omega) (by omega); rw [← ez_1]; omega) (by have := i32_0; have := i32_1; have := i32_2; have := i32_m1; have := congrArg Int32.toInt (show sg_26 12 = z_25 from up_at esg_26); have := (hz_25).1; have := (hz_25).2; have := (hvx).1; have := (hvx).2; have := (hvo).1; have := (hvo).2; have := (h12z).1; have := (h12z).2; have := (h_2).1; have := (h_2).2; have := (h_16).1; have := (h_16).2; omega) (Eq.trans (klv_24 0 (by decide)) (up_ne elg_20 (by decide))) fID_r_22 (show gm_21 19 = gm 19 from (Eq.trans (up_ne egm_21 (by decide)) (up_ne egm_3 (by decide)))) (show gm_21 20 = gm 20 from (Eq.trans (up_ne egm_21 (by decide)) (up_ne egm_3 (by decide)))) (show lg_20 0 = lg 0 from (up_ne elg_20 (by decide)))) (SFR_b (show gmv_24 25 = upd (gm 25) o.toNatClampNeg (gm 14 o.toNatClampNeg) from (by rw [(show gmv_24 25 = upd (gm 25) (o : Int32).toNatClampNeg z_1 from ((kgv_24 25 (by decide)).trans ((up_ne egm_21 (by decide)).trans ((up_at egm_3).trans (by rw [show gm 25 = gm 25 from rfl]))))), ez_1])) (Eq.trans (Eq.trans (kgv_24 26 (by decide)) (up_ne egm_21 (by decide))) (up_ne egm_3 (by decide))) (Eq.trans (Eq.trans (kgv_24 22 (by decide)) (up_ne egm_21 (by decide))) (up_ne egm_3 (by decide))) (show gmv_24 27 = upd (gm 27) (o : Int32).toNatClampNeg (sg 12) from ((kgv_24 27 (by decide)).trans ((up_at egm_21).trans (by rw [show gm_3 27 = gm 27 from ((up_ne egm_3 (by decide)).trans rfl)]))))) (BBG_1 (by have := i32_0; have := i32_1; have := i32_2; have := i32_m1; have := congrArg Int32.toInt (show sg_26 12 = z_25 from up_at esg_26); have := (hz_25).1; have := (hz_25).2; have := (hvx).1; have := (hvx).2; have := (hvo).1; have := (hvo).2; have := (h12z).1; have := (h12z).2; have := (h_2).1; have := (h_2).2; have := (h_16).1; have := (h_16).2; omega) (show gm_21 29 = gm 29 from (Eq.trans (up_ne egm_21 (by decide)) (up_ne egm_3 (by decide)))) (show gm_21 37 = gm 37 from (Eq.trans (up_ne egm_21 (by decide)) (up_ne egm_3 (by decide)))) (show gm_21 38 = gm 38 from (Eq.trans (up_ne egm_21 (by decide)) (up_ne egm_3 (by decide)))) (show gm_21 41 = gm 41 from (Eq.trans (up_ne egm_21 (by decide)) (up_ne egm_3 (by decide)))) (show lg_20 4 = lg 4 from (up_ne elg_20 (by decide))) fE_r_22 f37_r_22 f38_r_22 fS_r_22 fID_r_22) (fLD_r_22) _ _ _ hP hD hS (lv_sub hl [0, 1] rfl)
  by_cases c_27 : (z_4 : Int32).toInt = 9
  · refine lv_tableIn (tgt := 155) hx hb dX10_settle_19 (by rw [c_27]; decide) (by rw [c_27]; decide) (by rw [c_27]; rfl) (by decide) ?_
    have h_28 : iv 9 9 z_4 := iv_at c_27
    refine ec_aload_n hx hb dX10_settle_155 rfl (lv_at hl 1 rfl) ?_
    refine ec_aload_n hx hb dX10_settle_156 rfl (lv_at hl 0 rfl) ?_
    refine cr_get (t := 4) (j := 0) (C := RX10) (T := TX10) (N := 4) (v := eV (ad 1) 0) hx hb htb inX10 hown hK hP hvx (by decide) (by decide) (by decide) rfl (by decide) (htb _ kw_86) (cV_c rfl (by decide) (by rw [show cMu 4 0 = 0 from rfl, Nat.zero_mul]; rfl)) dX10_settle_157 ?_
    refine ec_aload_n hx hb dX10_settle_160 rfl (lv_at hl 1 rfl) ?_
    refine cw_word (k := 23) (kx := 23) hx hb hG hS (by decide) rfl ⟨by decide, by decide⟩ hown (htb _ kw_639) dX10_settle_161 ?_
    refine cm_callV (t := 1) (C := RX6) (T := TX6) (N := 8) (rest := [eV (ad 9) o]) (as := [eV (ad 9) o, eV (ad 33) 23]) ⟨hx, hb, hml, hown, htb⟩ (d_placeValue l dC dI ad cid a2 lx sg gm_3 lg 0 o 23 hI_gm_3 (iv_k (by decide) : iv 0 0 0) hvo (iv_w (iv_k (by decide) : iv 23 23 23) (by decide)) (FA_e hFA rfl rfl (up_ne egm_3 (by decide)) (up_ne egm_3 (by decide))) how (VS_e hVS rfl rfl (up_ne egm_3 (by decide)) (up_ne egm_3 (by decide)))) (cwV 2 htb (gd_V kw_681 kw_593 kw_594 kw_20 kw_1478) rfl rfl rfl (by decide +kernel) ⟨Nat.le_of_ble_eq_true rfl, Nat.le_of_ble_eq_true rfl⟩) (iv_k (by decide) : iv 0 0 0) (by decide) (by decide) rfl rfl hl.1 rfl (Nat.le_trans (cs_c (eV_cat _ _) cs_n) (by decide)) dX10_settle_164 ⟨Nat.le_of_ble_eq_true rfl, Nat.le_of_ble_eq_true rfl⟩ hK hP hD hS hA hG (fun E ce q9 u_30 H locs hw hP hD hS hce hcv hcl => ?_) (fun v9 u_30 H locs hw hP hD hS => ?_)
    · exact hw.elim
    obtain ⟨r_29, rfl, rfl, hr_29⟩ := hw
    have hP : va_P (dC, dI) vwCl (cW ad cid a2 lx sg gm_3 lg) H := hP
    have hD : va_D A (cW ad cid a2 lx sg gm_3 lg) := hD
    refine W.eq (g2 := F0 m 167 ls [.int r_29, eV (ad 9) o]) rfl ?_
    refine cr_putg (t := 9) (j := 16) (C := RX3) (T := TX3) (N := 21) (ty0 := tyX3) (k := 23) (y := r_29) hx hb htb inX3 tyX3_ok nmX3 hown hK hP hD hS hvo (by decide) (by decide) (by decide) (by decide) rfl rfl (by decide) (htb _ kw_640) rfl (by show Value.int r_29 = Value.int (va_up gm_3 23 (upd (gm_3 23) o.toNatClampNeg r_29) 23 o.toNatClampNeg); rw [va_up_self, upd_at]) rfl rfl dX10_settle_167 (fun gm_32 H locs egm_32 hP hD hS => ?_)
    have hI_gm_32 := CI_st hI_gm_3 egm_32 hr_29 (by decide)
    refine ec_aload_n hx hb dX10_settle_170 rfl (lv_at hl 1 rfl) ?_
    refine ec_aload_n hx hb dX10_settle_171 rfl (lv_at hl 0 rfl) ?_
    refine cr_get (t := 4) (j := 0) (C := RX10) (T := TX10) (N := 4) (v := eV (ad 1) 0) hx hb htb inX10 hown hK hP hvx (by decide) (by decide) (by decide) rfl (by decide) (htb _ kw_86) (cV_c rfl (by decide) (by rw [show cMu 4 0 = 0 from rfl, Nat.zero_mul]; rfl)) dX10_settle_172 ?_
    refine ec_aload_n hx hb dX10_settle_175 rfl (lv_at hl 1 rfl) ?_
    refine cw_word (k := 24) (kx := 24) hx hb hG hS (by decide) rfl ⟨by decide, by decide⟩ hown (htb _ kw_641) dX10_settle_176 ?_
    refine cm_callV (t := 1) (C := RX6) (T := TX6) (N := 8) (rest := [eV (ad 9) o]) (as := [eV (ad 9) o, eV (ad 33) 24]) ⟨hx, hb, hml, hown, htb⟩ (d_typeValue l dC dI ad cid a2 lx sg gm_32 lg 0 o 24 hI_gm_32 (iv_k (by decide) : iv 0 0 0) hvo (iv_w (iv_k (by decide) : iv 24 24 24) (by decide)) (FA_e hFA rfl rfl (Eq.trans (up_ne egm_32 (by decide)) (up_ne egm_3 (by decide))) (Eq.trans (up_ne egm_32 (by decide)) (up_ne egm_3 (by decide)))) how (VS_e hVS rfl rfl (Eq.trans (up_ne egm_32 (by decide)) (up_ne egm_3 (by decide))) (Eq.trans (up_ne egm_32 (by decide)) (up_ne egm_3 (by decide))))) (cwV 2 htb (gd_V kw_682 kw_596 kw_597 kw_20 kw_1479) rfl rfl rfl (by decide +kernel) ⟨Nat.le_of_ble_eq_true rfl, Nat.le_of_ble_eq_true rfl⟩) (iv_k (by decide) : iv 0 0 0) (by decide) (by decide) rfl rfl hl.1 rfl (Nat.le_trans (cs_c (eV_cat _ _) cs_n) (by decide)) dX10_settle_179 ⟨Nat.le_of_ble_eq_true rfl, Nat.le_of_ble_eq_true rfl⟩ hK hP hD hS hA hG (fun E ce q9 u_34 H locs hw hP hD hS hce hcv hcl => ?_) (fun v9 u_34 H locs hw hP hD hS => ?_)
    · exact hw.elim
    obtain ⟨r_33, rfl, rfl, hr_33⟩ := hw
    have hP : va_P (dC, dI) vwCl (cW ad cid a2 lx sg gm_32 lg) H := hP
    have hD : va_D A (cW ad cid a2 lx sg gm_32 lg) := hD
    refine W.eq (g2 := F0 m 182 ls [.int r_33, eV (ad 9) o]) rfl ?_
    refine cr_putg (t := 9) (j := 17) (C := RX3) (T := TX3) (N := 21) (ty0 := tyX3) (k := 24) (y := r_33) hx hb htb inX3 tyX3_ok nmX3 hown hK hP hD hS hvo (by decide) (by decide) (by decide) (by decide) rfl rfl (by decide) (htb _ kw_642) rfl (by show Value.int r_33 = Value.int (va_up gm_32 24 (upd (gm_32 24) o.toNatClampNeg r_33) 24 o.toNatClampNeg); rw [va_up_self, upd_at]) rfl rfl dX10_settle_182 (fun gm_36 H locs egm_36 hP hD hS => ?_)
    have hI_gm_36 := CI_st hI_gm_32 egm_36 hr_33 (by decide)
    refine ec_aload_n hx hb dX10_settle_185 rfl (lv_at hl 0 rfl) ?_
    refine ec_aload_n hx hb dX10_settle_186 rfl (lv_at hl 1 rfl) ?_
    refine cm_callV (t := 4) (C := RX10) (T := TX10) (N := 4) (rest := []) (as := [eV (ad 9) o]) ⟨hx, hb, hml, hown, htb⟩ (d_settleContent l dC dI ad cid a2 lx sg gm_36 lg x o hI_gm_36 hvx hvo (FA_e hFA rfl rfl (Eq.trans (Eq.trans (up_ne egm_36 (by decide)) (up_ne egm_32 (by decide))) (up_ne egm_3 (by decide))) (Eq.trans (Eq.trans (up_ne egm_36 (by decide)) (up_ne egm_32 (by decide))) (up_ne egm_3 (by decide)))) how (VS_e hVS rfl rfl (Eq.trans (Eq.trans (up_ne egm_36 (by decide)) (up_ne egm_32 (by decide))) (up_ne egm_3 (by decide))) (Eq.trans (Eq.trans (up_ne egm_36 (by decide)) (up_ne egm_32 (by decide))) (up_ne egm_3 (by decide))))) (cwV 1 htb (gd_V kw_683 kw_684 kw_685 kw_32 kw_1488) rfl rfl rfl (by decide +kernel) ⟨Nat.le_of_ble_eq_true rfl, Nat.le_of_ble_eq_true rfl⟩) hvx (by decide) (by decide) rfl rfl hl.1 rfl (Nat.le_trans cs_n (by decide)) dX10_settle_187 ⟨Nat.le_of_ble_eq_true rfl, Nat.le_of_ble_eq_true rfl⟩ hK hP hD hS hA hG (fun E ce q9 u_38 H locs hw hP hD hS hce hcv hcl => ?_) (fun v9 u_38 H locs hw hP hD hS => ?_)
    · exact hw.elim
    obtain ⟨rfl, sgv_39, gmv_39, lgv_39, rfl, hIv_39, ksv_39, kgv_39, klv_39, fC_r_37, fK_r_37⟩ := hw
    obtain rfl := KS_nil ksv_39
    have hP : va_P (dC, dI) vwCl (cW ad cid a2 lx sg gmv_39 lgv_39) H := hP
    have hD : va_D A (cW ad cid a2 lx sg gmv_39 lgv_39) := hD
    refine W.eq (g2 := F0 m 190 ls []) rfl ?_
    refine lv_goto (tgt := 274) hx hb dX10_settle_190 (by decide) ?_
    exact hj274 sg gmv_39 lgv_39 hvx hvo KS_rf (KS_tr (L := [11, 21, 22, 23, 24, 25, 26, 27, 29, 30, 31, 32, 33, 34, 35, 36, 37, 38, 39, 40, 41, 56, 57]) (KS_up (KS_up (KS_up KS_rf egm_3 (by decide)) egm_32 (by decide)) egm_36 (by decide)) kgv_39 (by decide)) (KS_tr (L := [1, 2, 3, 4, 5, 6, 7]) KS_rf klv_39 (by decide)) hIv_39 (STL_a hvo.1 hSO hbn (Eq.trans (Eq.trans (Eq.trans (kgv_39 14 (by decide)) (up_ne egm_36 (by decide))) (up_ne egm_32 (by decide))) (up_ne egm_3 (by decide))) (Eq.trans (Eq.trans (Eq.trans (kgv_39 16 (by decide)) (up_ne egm_36 (by decide))) (up_ne egm_32 (by decide))) (up_ne egm_3 (by decide))) (show gm_36 25 = upd (gm 25) o.toNatClampNeg (gm 14 o.toNatClampNeg) from (by rw [(show gm_36 25 = upd (gm 25) (o : Int32).toNatClampNeg z_1 from ((up_ne egm_36 (by decide)).trans ((up_ne egm_32 (by decide)).trans ((up_at egm_3).trans (by rw [show gm 25 = gm 25 from rfl]))))), ez_1])) (show gm_36 26 = gm 26 from (Eq.trans (up_ne egm_36 (by decide)) (Eq.trans (up_ne egm_32 (by decide)) (up_ne egm_3 (by decide))))) (show gm_36 16 = gm 16 from (Eq.trans (up_ne egm_36 (by decide)) (Eq.trans (up_ne egm_32 (by decide)) (up_ne egm_3 (by decide))))) (Eq.trans (Eq.trans (Eq.trans (kgv_39 27 (by decide)) (up_ne egm_36 (by decide))) (up_ne egm_32 (by decide))) (up_ne egm_3 (by decide))) fC_r_37 fK_r_37 (Or.inl (by have q1 := sw10 (show iv 0 33 z_1 from h_2) ez_4 (by omega) (by omega); rw [← ez_1]; omega)) (fun q9 => by have q8 : (gm 14 o.toNatClampNeg).toInt = 3 := (by have q1 := sw10 (show iv 0 33 z_1 from h_2) ez_4 (by omega) (by omega); rw [← ez_1]; omega); omega)) (SFR_a (show gm_36 25 = upd (gm 25) o.toNatClampNeg (gm 14 o.toNatClampNeg) from (by rw [(show gm_36 25 = upd (gm 25) (o : Int32).toNatClampNeg z_1 from ((up_ne egm_36 (by decide)).trans ((up_ne egm_32 (by decide)).trans ((up_at egm_3).trans (by rw [show gm 25 = gm 25 from rfl]))))), ez_1])) (show gm_36 26 = gm 26 from (Eq.trans (up_ne egm_36 (by decide)) (Eq.trans (up_ne egm_32 (by decide)) (up_ne egm_3 (by decide))))) (Eq.trans (Eq.trans (Eq.trans (kgv_39 27 (by decide)) (up_ne egm_36 (by decide))) (up_ne egm_32 (by decide))) (up_ne egm_3 (by decide))) fC_r_37 fK_r_37 (Or.inl (Eq.trans (Eq.trans (Eq.trans (kgv_39 22 (by decide)) (up_ne egm_36 (by decide))) (up_ne egm_32 (by decide))) (up_ne egm_3 (by decide))))) (BBG_0 rfl (Eq.trans (Eq.trans (Eq.trans (kgv_39 29 (by decide)) (up_ne egm_36 (by decide))) (up_ne egm_32 (by decide))) (up_ne egm_3 (by decide))) (Eq.trans (Eq.trans (Eq.trans (kgv_39 37 (by decide)) (up_ne egm_36 (by decide))) (up_ne egm_32 (by decide))) (up_ne egm_3 (by decide))) (Eq.trans (Eq.trans (Eq.trans (kgv_39 38 (by decide)) (up_ne egm_36 (by decide))) (up_ne egm_32 (by decide))) (up_ne egm_3 (by decide))) (Eq.trans (Eq.trans (Eq.trans (kgv_39 41 (by decide)) (up_ne egm_36 (by decide))) (up_ne egm_32 (by decide))) (up_ne egm_3 (by decide))) (klv_39 4 (by decide))) ((LDI_e hLD (Eq.trans (Eq.trans (Eq.trans (kgv_39 41 (by decide)) (up_ne egm_36 (by decide))) (up_ne egm_32 (by decide))) (up_ne egm_3 (by decide))) (Eq.trans (Eq.trans (Eq.trans (kgv_39 42 (by decide)) (up_ne egm_36 (by decide))) (up_ne egm_32 (by decide))) (up_ne egm_3 (by decide))) (Eq.trans (Eq.trans (Eq.trans (kgv_39 57 (by decide)) (up_ne egm_36 (by decide))) (up_ne egm_32 (by decide))) (up_ne egm_3 (by decide))))) _ _ _ hP hD hS (lv_sub hl [0, 1] rfl)
  by_cases c_40 : (z_4 : Int32).toInt = 10
  · refine lv_tableIn (tgt := 193) hx hb dX10_settle_19 (by rw [c_40]; decide) (by rw [c_40]; decide) (by rw [c_40]; rfl) (by decide) ?_
    have h_41 : iv 10 10 z_4 := iv_at c_40
    refine ec_aload_n hx hb dX10_settle_193 rfl (lv_at hl 1 rfl) ?_
    refine ec_aload_n hx hb dX10_settle_194 rfl (lv_at hl 0 rfl) ?_
    refine cr_get (t := 4) (j := 0) (C := RX10) (T := TX10) (N := 4) (v := eV (ad 1) 0) hx hb htb inX10 hown hK hP hvx (by decide) (by decide) (by decide) rfl (by decide) (htb _ kw_86) (cV_c rfl (by decide) (by rw [show cMu 4 0 = 0 from rfl, Nat.zero_mul]; rfl)) dX10_settle_195 ?_
    refine ec_aload_n hx hb dX10_settle_198 rfl (lv_at hl 1 rfl) ?_
    refine cw_word (k := 21) (kx := 21) hx hb hG hS (by decide) rfl ⟨by decide, by decide⟩ hown (htb _ kw_635) dX10_settle_199 ?_
    refine cm_callV (t := 1) (C := RX6) (T := TX6) (N := 8) (rest := [eV (ad 9) o]) (as := [eV (ad 9) o, eV (ad 33) 21]) ⟨hx, hb, hml, hown, htb⟩ (d_letterValue l dC dI ad cid a2 lx sg gm_3 lg 0 o 21 hI_gm_3 (iv_k (by decide) : iv 0 0 0) hvo (iv_w (iv_k (by decide) : iv 21 21 21) (by decide)) (FA_e hFA rfl rfl (up_ne egm_3 (by decide)) (up_ne egm_3 (by decide))) how (VS_e hVS rfl rfl (up_ne egm_3 (by decide)) (up_ne egm_3 (by decide)))) (cwV 2 htb (gd_V kw_708 kw_543 kw_544 kw_20 kw_1466) rfl rfl rfl (by decide +kernel) ⟨Nat.le_of_ble_eq_true rfl, Nat.le_of_ble_eq_true rfl⟩) (iv_k (by decide) : iv 0 0 0) (by decide) (by decide) rfl rfl hl.1 rfl (Nat.le_trans (cs_c (eV_cat _ _) cs_n) (by decide)) dX10_settle_202 ⟨Nat.le_of_ble_eq_true rfl, Nat.le_of_ble_eq_true rfl⟩ hK hP hD hS hA hG (fun E ce q9 u_43 H locs hw hP hD hS hce hcv hcl => ?_) (fun v9 u_43 H locs hw hP hD hS => ?_)
    · exact hw.elim
    obtain ⟨r_42, rfl, rfl, hr_42, fP_r_42, fQ_r_42⟩ := hw
    have hP : va_P (dC, dI) vwCl (cW ad cid a2 lx sg gm_3 lg) H := hP
    have hD : va_D A (cW ad cid a2 lx sg gm_3 lg) := hD
    refine W.eq (g2 := F0 m 205 ls [.int r_42, eV (ad 9) o]) rfl ?_
    refine cr_putg (t := 9) (j := 15) (C := RX3) (T := TX3) (N := 21) (ty0 := tyX3) (k := 22) (y := r_42) hx hb htb inX3 tyX3_ok nmX3 hown hK hP hD hS hvo (by decide) (by decide) (by decide) (by decide) rfl rfl (by decide) (htb _ kw_643) rfl (by show Value.int r_42 = Value.int (va_up gm_3 22 (upd (gm_3 22) o.toNatClampNeg r_42) 22 o.toNatClampNeg); rw [va_up_self, upd_at]) rfl rfl dX10_settle_205 (fun gm_45 H locs egm_45 hP hD hS => ?_)
    have hI_gm_45 := CI_st hI_gm_3 egm_45 hr_42 (by decide)
    refine ec_aload_n hx hb dX10_settle_208 rfl (lv_at hl 0 rfl) ?_
    refine ec_aload_n hx hb dX10_settle_209 rfl (lv_at hl 1 rfl) ?_
    refine cm_callV (t := 4) (C := RX10) (T := TX10) (N := 4) (rest := []) (as := [eV (ad 9) o]) ⟨hx, hb, hml, hown, htb⟩ (d_settleContent l dC dI ad cid a2 lx sg gm_45 lg x o hI_gm_45 hvx hvo (FA_e hFA rfl rfl (Eq.trans (up_ne egm_45 (by decide)) (up_ne egm_3 (by decide))) (Eq.trans (up_ne egm_45 (by decide)) (up_ne egm_3 (by decide)))) how (VS_e hVS rfl rfl (Eq.trans (up_ne egm_45 (by decide)) (up_ne egm_3 (by decide))) (Eq.trans (up_ne egm_45 (by decide)) (up_ne egm_3 (by decide))))) (cwV 1 htb (gd_V kw_683 kw_684 kw_685 kw_32 kw_1488) rfl rfl rfl (by decide +kernel) ⟨Nat.le_of_ble_eq_true rfl, Nat.le_of_ble_eq_true rfl⟩) hvx (by decide) (by decide) rfl rfl hl.1 rfl (Nat.le_trans cs_n (by decide)) dX10_settle_210 ⟨Nat.le_of_ble_eq_true rfl, Nat.le_of_ble_eq_true rfl⟩ hK hP hD hS hA hG (fun E ce q9 u_47 H locs hw hP hD hS hce hcv hcl => ?_) (fun v9 u_47 H locs hw hP hD hS => ?_)
    · exact hw.elim
    obtain ⟨rfl, sgv_48, gmv_48, lgv_48, rfl, hIv_48, ksv_48, kgv_48, klv_48, fC_r_46, fK_r_46⟩ := hw
    obtain rfl := KS_nil ksv_48
    have hP : va_P (dC, dI) vwCl (cW ad cid a2 lx sg gmv_48 lgv_48) H := hP
    have hD : va_D A (cW ad cid a2 lx sg gmv_48 lgv_48) := hD
    refine W.eq (g2 := F0 m 213 ls []) rfl ?_
    refine lv_goto (tgt := 274) hx hb dX10_settle_213 (by decide) ?_
    exact hj274 sg gmv_48 lgv_48 hvx hvo KS_rf (KS_tr (L := [11, 21, 22, 23, 24, 25, 26, 27, 29, 30, 31, 32, 33, 34, 35, 36, 37, 38, 39, 40, 41, 56, 57]) (KS_up (KS_up KS_rf egm_3 (by decide)) egm_45 (by decide)) kgv_48 (by decide)) (KS_tr (L := [1, 2, 3, 4, 5, 6, 7]) KS_rf klv_48 (by decide)) hIv_48 (STL_a hvo.1 hSO hbn (Eq.trans (Eq.trans (kgv_48 14 (by decide)) (up_ne egm_45 (by decide))) (up_ne egm_3 (by decide))) (Eq.trans (Eq.trans (kgv_48 16 (by decide)) (up_ne egm_45 (by decide))) (up_ne egm_3 (by decide))) (show gm_45 25 = upd (gm 25) o.toNatClampNeg (gm 14 o.toNatClampNeg) from (by rw [(show gm_45 25 = upd (gm 25) (o : Int32).toNatClampNeg z_1 from ((up_ne egm_45 (by decide)).trans ((up_at egm_3).trans (by rw [show gm 25 = gm 25 from rfl])))), ez_1])) (show gm_45 26 = gm 26 from (Eq.trans (up_ne egm_45 (by decide)) (up_ne egm_3 (by decide)))) (show gm_45 16 = gm 16 from (Eq.trans (up_ne egm_45 (by decide)) (up_ne egm_3 (by decide)))) (Eq.trans (Eq.trans (kgv_48 27 (by decide)) (up_ne egm_45 (by decide))) (up_ne egm_3 (by decide))) fC_r_46 fK_r_46 (Or.inr (by have q1 := sw10 (show iv 0 33 z_1 from h_2) ez_4 (by omega) (by omega); rw [← ez_1]; omega)) (fun _ => (by rw [(show gmv_48 22 = upd (gm 22) (o : Int32).toNatClampNeg r_42 from ((kgv_48 22 (by decide)).trans ((up_at egm_45).trans (by rw [show gm_3 22 = gm 22 from ((up_ne egm_3 (by decide)).trans rfl)])))), upd_at]; exact fQ_r_42 (LVP_e (hSO.2.2.1 (by have q1 := sw10 (show iv 0 33 z_1 from h_2) ez_4 (by omega) (by omega); rw [← ez_1]; omega)) (show gm_3 19 = gm 19 from (up_ne egm_3 (by decide))) (show gm_3 20 = gm 20 from (up_ne egm_3 (by decide))) (show gm_3 44 = gm 44 from (up_ne egm_3 (by decide))) (show gm_3 45 = gm 45 from (up_ne egm_3 (by decide))) (show gm_3 46 = gm 46 from (up_ne egm_3 (by decide))) rfl)))) (SFR_a (show gm_45 25 = upd (gm 25) o.toNatClampNeg (gm 14 o.toNatClampNeg) from (by rw [(show gm_45 25 = upd (gm 25) (o : Int32).toNatClampNeg z_1 from ((up_ne egm_45 (by decide)).trans ((up_at egm_3).trans (by rw [show gm 25 = gm 25 from rfl])))), ez_1])) (show gm_45 26 = gm 26 from (Eq.trans (up_ne egm_45 (by decide)) (up_ne egm_3 (by decide)))) (Eq.trans (Eq.trans (kgv_48 27 (by decide)) (up_ne egm_45 (by decide))) (up_ne egm_3 (by decide))) fC_r_46 fK_r_46 (Or.inr ⟨_, (show gmv_48 22 = upd (gm 22) (o : Int32).toNatClampNeg r_42 from ((kgv_48 22 (by decide)).trans ((up_at egm_45).trans (by rw [show gm_3 22 = gm 22 from ((up_ne egm_3 (by decide)).trans rfl)]))))⟩)) (BBG_0 rfl (Eq.trans (Eq.trans (kgv_48 29 (by decide)) (up_ne egm_45 (by decide))) (up_ne egm_3 (by decide))) (Eq.trans (Eq.trans (kgv_48 37 (by decide)) (up_ne egm_45 (by decide))) (up_ne egm_3 (by decide))) (Eq.trans (Eq.trans (kgv_48 38 (by decide)) (up_ne egm_45 (by decide))) (up_ne egm_3 (by decide))) (Eq.trans (Eq.trans (kgv_48 41 (by decide)) (up_ne egm_45 (by decide))) (up_ne egm_3 (by decide))) (klv_48 4 (by decide))) ((LDI_e hLD (Eq.trans (Eq.trans (kgv_48 41 (by decide)) (up_ne egm_45 (by decide))) (up_ne egm_3 (by decide))) (Eq.trans (Eq.trans (kgv_48 42 (by decide)) (up_ne egm_45 (by decide))) (up_ne egm_3 (by decide))) (Eq.trans (Eq.trans (kgv_48 57 (by decide)) (up_ne egm_45 (by decide))) (up_ne egm_3 (by decide))))) _ _ _ hP hD hS (lv_sub hl [0, 1] rfl)
  by_cases c_49 : (z_4 : Int32).toInt = 11
  · refine lv_tableIn (tgt := 216) hx hb dX10_settle_19 (by rw [c_49]; decide) (by rw [c_49]; decide) (by rw [c_49]; rfl) (by decide) ?_
    have h_50 : iv 11 11 z_4 := iv_at c_49
    refine ec_aload_n hx hb dX10_settle_216 rfl (lv_at hl 1 rfl) ?_
    refine ec_aload_n hx hb dX10_settle_217 rfl (lv_at hl 0 rfl) ?_
    refine cr_get (t := 4) (j := 0) (C := RX10) (T := TX10) (N := 4) (v := eV (ad 1) 0) hx hb htb inX10 hown hK hP hvx (by decide) (by decide) (by decide) rfl (by decide) (htb _ kw_86) (cV_c rfl (by decide) (by rw [show cMu 4 0 = 0 from rfl, Nat.zero_mul]; rfl)) dX10_settle_218 ?_
    refine ec_aload_n hx hb dX10_settle_221 rfl (lv_at hl 1 rfl) ?_
    refine cw_word (k := 21) (kx := 21) hx hb hG hS (by decide) rfl ⟨by decide, by decide⟩ hown (htb _ kw_635) dX10_settle_222 ?_
    refine cm_callV (t := 1) (C := RX6) (T := TX6) (N := 8) (rest := [eV (ad 9) o]) (as := [eV (ad 9) o, eV (ad 33) 21]) ⟨hx, hb, hml, hown, htb⟩ (d_letterValue l dC dI ad cid a2 lx sg gm_3 lg 0 o 21 hI_gm_3 (iv_k (by decide) : iv 0 0 0) hvo (iv_w (iv_k (by decide) : iv 21 21 21) (by decide)) (FA_e hFA rfl rfl (up_ne egm_3 (by decide)) (up_ne egm_3 (by decide))) how (VS_e hVS rfl rfl (up_ne egm_3 (by decide)) (up_ne egm_3 (by decide)))) (cwV 2 htb (gd_V kw_708 kw_543 kw_544 kw_20 kw_1466) rfl rfl rfl (by decide +kernel) ⟨Nat.le_of_ble_eq_true rfl, Nat.le_of_ble_eq_true rfl⟩) (iv_k (by decide) : iv 0 0 0) (by decide) (by decide) rfl rfl hl.1 rfl (Nat.le_trans (cs_c (eV_cat _ _) cs_n) (by decide)) dX10_settle_225 ⟨Nat.le_of_ble_eq_true rfl, Nat.le_of_ble_eq_true rfl⟩ hK hP hD hS hA hG (fun E ce q9 u_52 H locs hw hP hD hS hce hcv hcl => ?_) (fun v9 u_52 H locs hw hP hD hS => ?_)
    · exact hw.elim
    obtain ⟨r_51, rfl, rfl, hr_51, fP_r_51, fQ_r_51⟩ := hw
    have hP : va_P (dC, dI) vwCl (cW ad cid a2 lx sg gm_3 lg) H := hP
    have hD : va_D A (cW ad cid a2 lx sg gm_3 lg) := hD
    refine W.eq (g2 := F0 m 228 ls [.int r_51, eV (ad 9) o]) rfl ?_
    refine cr_putg (t := 9) (j := 15) (C := RX3) (T := TX3) (N := 21) (ty0 := tyX3) (k := 22) (y := r_51) hx hb htb inX3 tyX3_ok nmX3 hown hK hP hD hS hvo (by decide) (by decide) (by decide) (by decide) rfl rfl (by decide) (htb _ kw_643) rfl (by show Value.int r_51 = Value.int (va_up gm_3 22 (upd (gm_3 22) o.toNatClampNeg r_51) 22 o.toNatClampNeg); rw [va_up_self, upd_at]) rfl rfl dX10_settle_228 (fun gm_54 H locs egm_54 hP hD hS => ?_)
    have hI_gm_54 := CI_st hI_gm_3 egm_54 hr_51 (by decide)
    refine ec_aload_n hx hb dX10_settle_231 rfl (lv_at hl 1 rfl) ?_
    refine ec_aload_n hx hb dX10_settle_232 rfl (lv_at hl 0 rfl) ?_
    refine cr_get (t := 4) (j := 0) (C := RX10) (T := TX10) (N := 4) (v := eV (ad 1) 0) hx hb htb inX10 hown hK hP hvx (by decide) (by decide) (by decide) rfl (by decide) (htb _ kw_86) (cV_c rfl (by decide) (by rw [show cMu 4 0 = 0 from rfl, Nat.zero_mul]; rfl)) dX10_settle_233 ?_
    refine ec_aload_n hx hb dX10_settle_236 rfl (lv_at hl 1 rfl) ?_
    refine cw_word (k := 2) (kx := 2) hx hb hG hS (by decide) rfl ⟨by decide, by decide⟩ hown (htb _ kw_644) dX10_settle_237 ?_
    refine cm_callV (t := 1) (C := RX6) (T := TX6) (N := 8) (rest := [eV (ad 9) o]) (as := [eV (ad 9) o, eV (ad 33) 2]) ⟨hx, hb, hml, hown, htb⟩ (d_nameValue2 l dC dI ad cid a2 lx sg gm_54 lg 0 o 2 hI_gm_54 (iv_k (by decide) : iv 0 0 0) hvo (iv_w (iv_k (by decide) : iv 2 2 2) (by decide)) (FA_e hFA rfl rfl (Eq.trans (up_ne egm_54 (by decide)) (up_ne egm_3 (by decide))) (Eq.trans (up_ne egm_54 (by decide)) (up_ne egm_3 (by decide)))) how (VS_e hVS rfl rfl (Eq.trans (up_ne egm_54 (by decide)) (up_ne egm_3 (by decide))) (Eq.trans (up_ne egm_54 (by decide)) (up_ne egm_3 (by decide))))) (cwV 2 htb (gd_V kw_646 kw_583 kw_584 kw_20 kw_1475) rfl rfl rfl (by decide +kernel) ⟨Nat.le_of_ble_eq_true rfl, Nat.le_of_ble_eq_true rfl⟩) (iv_k (by decide) : iv 0 0 0) (by decide) (by decide) rfl rfl hl.1 rfl (Nat.le_trans (cs_c (eV_cat _ _) cs_n) (by decide)) dX10_settle_240 ⟨Nat.le_of_ble_eq_true rfl, Nat.le_of_ble_eq_true rfl⟩ hK hP hD hS hA hG (fun E ce q9 u_56 H locs hw hP hD hS hce hcv hcl => ?_) (fun v9 u_56 H locs hw hP hD hS => ?_)
    · exact hw.elim
    obtain ⟨r_55, rfl, rfl, fZ_r_55⟩ := hw
    have hP : va_P (dC, dI) vwCl (cW ad cid a2 lx sg gm_54 lg) H := hP
    have hD : va_D A (cW ad cid a2 lx sg gm_54 lg) := hD
    refine W.eq (g2 := F0 m 243 ls [.long r_55, eV (ad 9) o]) rfl ?_
    refine cr_putl (t := 9) (j := 12) (C := RX3) (T := TX3) (N := 21) (ty0 := tyX3) (k := 2) (y := r_55) hx hb htb inX3 tyX3_ok nmX3 hown hK hP hD hS hvo (by decide) (by decide) (by decide) rfl rfl rfl (by decide) (htb _ kw_636) rfl (by show Value.long r_55 = Value.long (va_up lg 2 (vp_updL (lg 2) o.toNatClampNeg r_55) 2 o.toNatClampNeg); rw [va_up_self, pk_uLs]) rfl rfl dX10_settle_243 (fun lg_58 H locs elg_58 hP hD hS => ?_)
    refine lv_goto (tgt := 274) hx hb dX10_settle_246 (by decide) ?_
    exact hj274 sg gm_54 lg_58 hvx hvo KS_rf (KS_up (KS_up KS_rf egm_3 (by decide)) egm_54 (by decide)) (KS_up KS_rf elg_58 (by decide)) hI_gm_54 (STL_k hSO hbn (Eq.trans (up_ne egm_54 (by decide)) (up_ne egm_3 (by decide))) (show gm_54 25 = upd (gm 25) o.toNatClampNeg (gm 14 o.toNatClampNeg) from (by rw [(show gm_54 25 = upd (gm 25) (o : Int32).toNatClampNeg z_1 from ((up_ne egm_54 (by decide)).trans ((up_at egm_3).trans (by rw [show gm 25 = gm 25 from rfl])))), ez_1])) (Eq.trans (up_ne egm_54 (by decide)) (up_ne egm_3 (by decide))) (by rw [← ez_1]; exact swx 3 9 (by decide) (h_2) ez_4 (by omega)) (by rw [← ez_1]; exact swx 4 10 (by decide) (h_2) ez_4 (by omega))) (SFR_l (show gm_54 25 = upd (gm 25) o.toNatClampNeg (gm 14 o.toNatClampNeg) from (by rw [(show gm_54 25 = upd (gm 25) (o : Int32).toNatClampNeg z_1 from ((up_ne egm_54 (by decide)).trans ((up_at egm_3).trans (by rw [show gm 25 = gm 25 from rfl])))), ez_1])) (Eq.trans (up_ne egm_54 (by decide)) (up_ne egm_3 (by decide))) (show gm_54 22 = upd (gm 22) (o : Int32).toNatClampNeg r_51 from ((up_at egm_54).trans (by rw [show gm_3 22 = gm 22 from ((up_ne egm_3 (by decide)).trans rfl)]))) (Eq.trans (up_ne egm_54 (by decide)) (up_ne egm_3 (by decide)))) (BBG_0 rfl (Eq.trans (up_ne egm_54 (by decide)) (up_ne egm_3 (by decide))) (Eq.trans (up_ne egm_54 (by decide)) (up_ne egm_3 (by decide))) (Eq.trans (up_ne egm_54 (by decide)) (up_ne egm_3 (by decide))) (Eq.trans (up_ne egm_54 (by decide)) (up_ne egm_3 (by decide))) (up_ne elg_58 (by decide))) ((LDI_e hLD (Eq.trans (up_ne egm_54 (by decide)) (up_ne egm_3 (by decide))) (Eq.trans (up_ne egm_54 (by decide)) (up_ne egm_3 (by decide))) (Eq.trans (up_ne egm_54 (by decide)) (up_ne egm_3 (by decide))))) _ _ _ hP hD hS (lv_sub hl [0, 1] rfl)
  by_cases c_59 : (z_4 : Int32).toInt = 12
  · refine lv_tableIn (tgt := 274) hx hb dX10_settle_19 (by rw [c_59]; decide) (by rw [c_59]; decide) (by rw [c_59]; rfl) (by decide) ?_
    have h_60 : iv 12 12 z_4 := iv_at c_59
    exact hj274 sg gm_3 lg hvx hvo KS_rf (KS_up KS_rf egm_3 (by decide)) KS_rf hI_gm_3 (STL_k hSO hbn (up_ne egm_3 (by decide)) (show gm_3 25 = upd (gm 25) o.toNatClampNeg (gm 14 o.toNatClampNeg) from (by rw [(show gm_3 25 = upd (gm 25) (o : Int32).toNatClampNeg z_1 from ((up_at egm_3).trans (by rw [show gm 25 = gm 25 from rfl]))), ez_1])) (up_ne egm_3 (by decide)) (by rw [← ez_1]; exact swx 3 9 (by decide) (h_2) ez_4 (by omega)) (by rw [← ez_1]; exact swx 4 10 (by decide) (h_2) ez_4 (by omega))) (SFR_k (show gm_3 25 = upd (gm 25) o.toNatClampNeg (gm 14 o.toNatClampNeg) from (by rw [(show gm_3 25 = upd (gm 25) (o : Int32).toNatClampNeg z_1 from ((up_at egm_3).trans (by rw [show gm 25 = gm 25 from rfl]))), ez_1])) (up_ne egm_3 (by decide)) (up_ne egm_3 (by decide)) (up_ne egm_3 (by decide))) (BBG_0 rfl (up_ne egm_3 (by decide)) (up_ne egm_3 (by decide)) (up_ne egm_3 (by decide)) (up_ne egm_3 (by decide)) rfl) ((LDI_e hLD (up_ne egm_3 (by decide)) (up_ne egm_3 (by decide)) (up_ne egm_3 (by decide)))) _ _ _ hP hD hS (lv_sub hl [0, 1] rfl)
  by_cases c_61 : (z_4 : Int32).toInt = 13
  · refine lv_tableIn (tgt := 267) hx hb dX10_settle_19 (by rw [c_61]; decide) (by rw [c_61]; decide) (by rw [c_61]; rfl) (by decide) ?_
    have h_62 : iv 13 13 z_4 := iv_at c_61
    refine ec_aload_n hx hb dX10_settle_267 rfl (lv_at hl 1 rfl) ?_
    refine cm_callV (t := 9) (C := RX3) (T := TX3) (N := 21) (rest := []) (as := []) ⟨hx, hb, hml, hown, htb⟩ (d_weighText l dC dI ad cid a2 lx sg gm_3 lg o hI_gm_3 hvo) (cwV 0 htb (gd_V kw_696 kw_697 kw_698 kw_66 kw_1490) rfl rfl rfl (by decide +kernel) ⟨Nat.le_of_ble_eq_true rfl, Nat.le_of_ble_eq_true rfl⟩) hvo (by decide) (by decide) rfl rfl hl.1 rfl (Nat.le_trans cs_n (by decide)) dX10_settle_268 ⟨Nat.le_of_ble_eq_true rfl, Nat.le_of_ble_eq_true rfl⟩ hK hP hD hS hA hG (fun E ce q9 u_64 H locs hw hP hD hS hce hcv hcl => ?_) (fun v9 u_64 H locs hw hP hD hS => ?_)
    · exact hw.elim
    obtain ⟨rfl, sgv_65, gmv_65, lgv_65, rfl, hIv_65, ksv_65, kgv_65, klv_65⟩ := hw
    obtain rfl := KS_nil ksv_65
    have hP : va_P (dC, dI) vwCl (cW ad cid a2 lx sg gmv_65 lgv_65) H := hP
    have hD : va_D A (cW ad cid a2 lx sg gmv_65 lgv_65) := hD
    refine W.eq (g2 := F0 m 271 ls []) rfl ?_
    refine lv_goto (tgt := 274) hx hb dX10_settle_271 (by decide) ?_
    exact hj274 sg gmv_65 lgv_65 hvx hvo KS_rf (KS_tr (L := [11, 21, 22, 23, 24, 25, 26, 27, 29, 30, 31, 32, 33, 34, 35, 36, 37, 38, 39, 40, 41, 56, 57]) (KS_up KS_rf egm_3 (by decide)) kgv_65 (by decide)) (KS_tr (L := [1, 2, 3, 4, 5, 6, 7]) KS_rf klv_65 (by decide)) hIv_65 (STL_k hSO hbn (Eq.trans (kgv_65 14 (by decide)) (up_ne egm_3 (by decide))) (show gmv_65 25 = upd (gm 25) o.toNatClampNeg (gm 14 o.toNatClampNeg) from (by rw [(show gmv_65 25 = upd (gm 25) (o : Int32).toNatClampNeg z_1 from ((kgv_65 25 (by decide)).trans ((up_at egm_3).trans (by rw [show gm 25 = gm 25 from rfl])))), ez_1])) (Eq.trans (kgv_65 27 (by decide)) (up_ne egm_3 (by decide))) (by rw [← ez_1]; exact swx 3 9 (by decide) (h_2) ez_4 (by omega)) (by rw [← ez_1]; exact swx 4 10 (by decide) (h_2) ez_4 (by omega))) (SFR_k (show gmv_65 25 = upd (gm 25) o.toNatClampNeg (gm 14 o.toNatClampNeg) from (by rw [(show gmv_65 25 = upd (gm 25) (o : Int32).toNatClampNeg z_1 from ((kgv_65 25 (by decide)).trans ((up_at egm_3).trans (by rw [show gm 25 = gm 25 from rfl])))), ez_1])) (Eq.trans (kgv_65 26 (by decide)) (up_ne egm_3 (by decide))) (Eq.trans (kgv_65 22 (by decide)) (up_ne egm_3 (by decide))) (Eq.trans (kgv_65 27 (by decide)) (up_ne egm_3 (by decide)))) (BBG_0 rfl (Eq.trans (kgv_65 29 (by decide)) (up_ne egm_3 (by decide))) (Eq.trans (kgv_65 37 (by decide)) (up_ne egm_3 (by decide))) (Eq.trans (kgv_65 38 (by decide)) (up_ne egm_3 (by decide))) (Eq.trans (kgv_65 41 (by decide)) (up_ne egm_3 (by decide))) (klv_65 4 (by decide))) ((LDI_e hLD (Eq.trans (kgv_65 41 (by decide)) (up_ne egm_3 (by decide))) (Eq.trans (kgv_65 42 (by decide)) (up_ne egm_3 (by decide))) (Eq.trans (kgv_65 57 (by decide)) (up_ne egm_3 (by decide))))) _ _ _ hP hD hS (lv_sub hl [0, 1] rfl)
  by_cases c_66 : (z_4 : Int32).toInt = 14
  · refine lv_tableIn (tgt := 249) hx hb dX10_settle_19 (by rw [c_66]; decide) (by rw [c_66]; decide) (by rw [c_66]; rfl) (by decide) ?_
    have h_67 : iv 14 14 z_4 := iv_at c_66
    refine ec_aload_n hx hb dX10_settle_249 rfl (lv_at hl 1 rfl) ?_
    refine ec_aload_n hx hb dX10_settle_250 rfl (lv_at hl 0 rfl) ?_
    refine cr_get (t := 4) (j := 0) (C := RX10) (T := TX10) (N := 4) (v := eV (ad 1) 0) hx hb htb inX10 hown hK hP hvx (by decide) (by decide) (by decide) rfl (by decide) (htb _ kw_86) (cV_c rfl (by decide) (by rw [show cMu 4 0 = 0 from rfl, Nat.zero_mul]; rfl)) dX10_settle_251 ?_
    refine ec_aload_n hx hb dX10_settle_254 rfl (lv_at hl 1 rfl) ?_
    refine cw_word (k := 2) (kx := 2) hx hb hG hS (by decide) rfl ⟨by decide, by decide⟩ hown (htb _ kw_644) dX10_settle_255 ?_
    refine cm_callV (t := 1) (C := RX6) (T := TX6) (N := 8) (rest := [eV (ad 9) o]) (as := [eV (ad 9) o, eV (ad 33) 2]) ⟨hx, hb, hml, hown, htb⟩ (d_nameValue2 l dC dI ad cid a2 lx sg gm_3 lg 0 o 2 hI_gm_3 (iv_k (by decide) : iv 0 0 0) hvo (iv_w (iv_k (by decide) : iv 2 2 2) (by decide)) (FA_e hFA rfl rfl (up_ne egm_3 (by decide)) (up_ne egm_3 (by decide))) how (VS_e hVS rfl rfl (up_ne egm_3 (by decide)) (up_ne egm_3 (by decide)))) (cwV 2 htb (gd_V kw_646 kw_583 kw_584 kw_20 kw_1475) rfl rfl rfl (by decide +kernel) ⟨Nat.le_of_ble_eq_true rfl, Nat.le_of_ble_eq_true rfl⟩) (iv_k (by decide) : iv 0 0 0) (by decide) (by decide) rfl rfl hl.1 rfl (Nat.le_trans (cs_c (eV_cat _ _) cs_n) (by decide)) dX10_settle_258 ⟨Nat.le_of_ble_eq_true rfl, Nat.le_of_ble_eq_true rfl⟩ hK hP hD hS hA hG (fun E ce q9 u_69 H locs hw hP hD hS hce hcv hcl => ?_) (fun v9 u_69 H locs hw hP hD hS => ?_)
    · exact hw.elim
    obtain ⟨r_68, rfl, rfl, fZ_r_68⟩ := hw
    have hP : va_P (dC, dI) vwCl (cW ad cid a2 lx sg gm_3 lg) H := hP
    have hD : va_D A (cW ad cid a2 lx sg gm_3 lg) := hD
    refine W.eq (g2 := F0 m 261 ls [.long r_68, eV (ad 9) o]) rfl ?_
    refine cr_putl (t := 9) (j := 12) (C := RX3) (T := TX3) (N := 21) (ty0 := tyX3) (k := 2) (y := r_68) hx hb htb inX3 tyX3_ok nmX3 hown hK hP hD hS hvo (by decide) (by decide) (by decide) rfl rfl rfl (by decide) (htb _ kw_636) rfl (by show Value.long r_68 = Value.long (va_up lg 2 (vp_updL (lg 2) o.toNatClampNeg r_68) 2 o.toNatClampNeg); rw [va_up_self, pk_uLs]) rfl rfl dX10_settle_261 (fun lg_71 H locs elg_71 hP hD hS => ?_)
    refine lv_goto (tgt := 274) hx hb dX10_settle_264 (by decide) ?_
    exact hj274 sg gm_3 lg_71 hvx hvo KS_rf (KS_up KS_rf egm_3 (by decide)) (KS_up KS_rf elg_71 (by decide)) hI_gm_3 (STL_k hSO hbn (up_ne egm_3 (by decide)) (show gm_3 25 = upd (gm 25) o.toNatClampNeg (gm 14 o.toNatClampNeg) from (by rw [(show gm_3 25 = upd (gm 25) (o : Int32).toNatClampNeg z_1 from ((up_at egm_3).trans (by rw [show gm 25 = gm 25 from rfl]))), ez_1])) (up_ne egm_3 (by decide)) (by rw [← ez_1]; exact swx 3 9 (by decide) (h_2) ez_4 (by omega)) (by rw [← ez_1]; exact swx 4 10 (by decide) (h_2) ez_4 (by omega))) (SFR_k (show gm_3 25 = upd (gm 25) o.toNatClampNeg (gm 14 o.toNatClampNeg) from (by rw [(show gm_3 25 = upd (gm 25) (o : Int32).toNatClampNeg z_1 from ((up_at egm_3).trans (by rw [show gm 25 = gm 25 from rfl]))), ez_1])) (up_ne egm_3 (by decide)) (up_ne egm_3 (by decide)) (up_ne egm_3 (by decide))) (BBG_0 rfl (up_ne egm_3 (by decide)) (up_ne egm_3 (by decide)) (up_ne egm_3 (by decide)) (up_ne egm_3 (by decide)) (up_ne elg_71 (by decide))) ((LDI_e hLD (up_ne egm_3 (by decide)) (up_ne egm_3 (by decide)) (up_ne egm_3 (by decide)))) _ _ _ hP hD hS (lv_sub hl [0, 1] rfl)
  refine lv_tableOut (tgt := 274) hx hb dX10_settle_19 (by have q1 := (hz_4).1; have q2 := (hz_4).2; omega) (by decide) ?_
  exact hj274 sg gm_3 lg hvx hvo KS_rf (KS_up KS_rf egm_3 (by decide)) KS_rf hI_gm_3 (STL_k hSO hbn (up_ne egm_3 (by decide)) (show gm_3 25 = upd (gm 25) o.toNatClampNeg (gm 14 o.toNatClampNeg) from (by rw [(show gm_3 25 = upd (gm 25) (o : Int32).toNatClampNeg z_1 from ((up_at egm_3).trans (by rw [show gm 25 = gm 25 from rfl]))), ez_1])) (up_ne egm_3 (by decide)) (by rw [← ez_1]; exact swx 3 9 (by decide) (h_2) ez_4 (by omega)) (by rw [← ez_1]; exact swx 4 10 (by decide) (h_2) ez_4 (by omega))) (SFR_k (show gm_3 25 = upd (gm 25) o.toNatClampNeg (gm 14 o.toNatClampNeg) from (by rw [(show gm_3 25 = upd (gm 25) (o : Int32).toNatClampNeg z_1 from ((up_at egm_3).trans (by rw [show gm 25 = gm 25 from rfl]))), ez_1])) (up_ne egm_3 (by decide)) (up_ne egm_3 (by decide)) (up_ne egm_3 (by decide))) (BBG_0 rfl (up_ne egm_3 (by decide)) (up_ne egm_3 (by decide)) (up_ne egm_3 (by decide)) (up_ne egm_3 (by decide)) rfl) ((LDI_e hLD (up_ne egm_3 (by decide)) (up_ne egm_3 (by decide)) (up_ne egm_3 (by decide)))) _ _ _ hP hD hS (lv_sub hl [0, 1] rfl)
