def bt (x : Int32) (i : Nat) : Bool := x.toBitVec.getLsbD i
theorem b_ext {x y : Int32} (h : ∀ i, i < 32 → bt x i = bt y i) : x = y := Int32.toBitVec_inj.mp (BitVec.eq_of_getLsbD_eq (fun i hi => h i hi))
theorem b_and (x y : Int32) (i : Nat) : bt (x &&& y) i = (bt x i && bt y i) := by unfold bt; rw [Int32.toBitVec_and, BitVec.getLsbD_and]
theorem b_big {x : Int32} {i : Nat} (h : 32 ≤ i) : bt x i = false := BitVec.getLsbD_of_ge _ _ h
theorem b_255 (i : Nat) : bt 255 i = decide (i < 8) := by
  rcases Nat.lt_or_ge i 32 with h | h
  · exact (by decide +kernel : ∀ i, i < 32 → bt 255 i = decide (i < 8)) i h
  · rw [b_big h, decide_eq_false (by omega)]
theorem s_l : ∀ n, n < 32 → ((nI n &&& 31).toBitVec.smod 32).toNat = n := by decide +kernel
theorem s_u : ∀ n, n < 32 → (((nI n).toUInt32 &&& Int32.toUInt32 31).toBitVec % 32).toNat = n := by decide +kernel
theorem b_ushr (n : Nat) (hn : n < 32) (x : Int32) (i : Nat) : bt ((x.toUInt32 >>> ((nI n).toUInt32 &&& Int32.toUInt32 31)).toInt32) i = bt x (n + i) := by
  show (x.toUInt32 >>> ((nI n).toUInt32 &&& Int32.toUInt32 31)).toBitVec.getLsbD i = x.toUInt32.toBitVec.getLsbD (n + i)
  rw [UInt32.toBitVec_shiftRight]
  show (x.toUInt32.toBitVec >>> (((nI n).toUInt32 &&& Int32.toUInt32 31).toBitVec % 32).toNat).getLsbD i = _
  rw [s_u n hn, BitVec.getLsbD_ushiftRight]
theorem b_sshr (n : Nat) (hn : n < 32) (x : Int32) {i : Nat} (hi : i < 32) : bt (x >>> (nI n &&& 31)) i = if n + i < 32 then bt x (n + i) else bt x 31 := by
  unfold bt
  rw [Int32.toBitVec_shiftRight]
  show (x.toBitVec.sshiftRight ((nI n &&& 31).toBitVec.smod 32).toNat).getLsbD i = _
  rw [s_l n hn, BitVec.getLsbD_sshiftRight, BitVec.msb_eq_getLsbD_last]
  simp [hi]
/-! a text of four characters more; -1 is "no" and stays -/
def tS (n s : Int32) : Int32 := if n = -1 then -1 else if s = 0 then n else if s = 10 then n + 1 else if s < 32 then -1 else if 126 < s then -1 else n + 1
def sh (j : Nat) : Int32 := 24 - 8 * nI j
def cby (w : Int32) (j : Nat) : Int32 := (w.toUInt32 >>> ((sh j).toUInt32 &&& Int32.toUInt32 31)).toInt32 &&& 255
def cE (n w : Int32) : Nat → Int32
  | 0 => n
  | j + 1 => tS (cE n w j) (cby w j)
def f4 (n w : Int32) : Int32 := cE n w 4
def wsel (a b c d e : Int32) (i : Nat) : Int32 := if i < 4 then a else if i < 8 then b else if i < 12 then c else if i < 16 then d else e
def byt (w : Int32) (i : Nat) : Int32 := (w >>> ((24 - (8 * (nI i - nI i / 4 * 4))) &&& 31)) &&& 255
def mE (a b c d e : Int32) : Nat → Int32
  | 0 => 0
  | i + 1 => tS (mE a b c d e i) (byt (wsel a b c d e i) i)
theorem sh_nn : ∀ i, i < 4 → ¬ sh i < 0 := by decide
theorem sh_s : ∀ i, i < 4 → sh i + (-8) = sh (i + 1) := by decide
theorem nI_m1 {n : Nat} (h : n < 2 ^ 31) : ¬ nI n = -1 := by
  intro e
  have h1 := nI_toInt h
  rw [e] at h1
  have h2 : ((-1 : Int32)).toInt = -1 := by decide
  omega
theorem tS_m1 (s : Int32) : tS (-1) s = -1 := by unfold tS; rw [if_pos rfl]
theorem tS_z {n : Nat} (h : n < 2 ^ 31) {s : Int32} (hs : s = 0) : tS (nI n) s = nI n := by
  unfold tS
  rw [if_neg (nI_m1 h), if_pos hs]
theorem tS_10 {n : Nat} (h : n < 2 ^ 31) {s : Int32} (h0 : ¬ s = 0) (hs : s = 10) : tS (nI n) s = nI (n + 1) := by
  unfold tS
  rw [if_neg (nI_m1 h), if_neg h0, if_pos hs, nI_1]
theorem tS_g {n : Nat} (h : n < 2 ^ 31) {s : Int32} (h0 : ¬ s = 0) (h1 : ¬ s = 10) (h2 : ¬ s < 32) (h3 : ¬ 126 < s) : tS (nI n) s = nI (n + 1) := by
  unfold tS
  rw [if_neg (nI_m1 h), if_neg h0, if_neg h1, if_neg h2, if_neg h3, nI_1]
theorem tS_lo {n s : Int32} (h0 : ¬ s = 0) (h1 : ¬ s = 10) (h2 : s < 32) : tS n s = -1 := by
  unfold tS
  by_cases e : n = -1
  · rw [if_pos e]
  · rw [if_neg e, if_neg h0, if_neg h1, if_pos h2]
theorem tS_hi {n s : Int32} (h0 : ¬ s = 0) (h1 : ¬ s = 10) (h3 : 126 < s) : tS n s = -1 := by
  unfold tS
  by_cases e : n = -1
  · rw [if_pos e]
  · rw [if_neg e, if_neg h0, if_neg h1]
    by_cases h2 : s < 32
    · rw [if_pos h2]
    · rw [if_neg h2, if_pos h3]
theorem tS_or {n : Nat} (h : n < 2 ^ 31) (s : Int32) : tS (nI n) s = -1 ∨ tS (nI n) s = nI n ∨ tS (nI n) s = nI (n + 1) := by
  by_cases h0 : s = 0
  · exact Or.inr (Or.inl (tS_z h h0))
  by_cases h1 : s = 10
  · exact Or.inr (Or.inr (tS_10 h h0 h1))
  by_cases h2 : s < 32
  · exact Or.inl (tS_lo h0 h1 h2)
  by_cases h3 : 126 < s
  · exact Or.inl (tS_hi h0 h1 h3)
  exact Or.inr (Or.inr (tS_g h h0 h1 h2 h3))
theorem tS_nz {n : Nat} (h : n < 2 ^ 31) {s : Int32} (h0 : ¬ s = 0) (hn : ¬ tS (nI n) s = -1) : tS (nI n) s = nI (n + 1) := by
  by_cases h1 : s = 10
  · exact tS_10 h h0 h1
  by_cases h2 : s < 32
  · exact absurd (tS_lo h0 h1 h2) hn
  by_cases h3 : 126 < s
  · exact absurd (tS_hi h0 h1 h3) hn
  exact tS_g h h0 h1 h2 h3
theorem cE_stay {n w : Int32} {i : Nat} (h : cE n w i = -1) : ∀ k, cE n w (i + k) = -1 := by
  intro k
  induction k with
  | zero => exact h
  | succ k ih => show tS (cE n w (i + k)) (cby w (i + k)) = -1; rw [ih]; exact tS_m1 _
theorem cE_bad {n w : Int32} {i : Nat} (hi : i < 4) (h : tS (cE n w i) (cby w i) = -1) : -1 = f4 n w := by
  have h1 := cE_stay (n := n) (w := w) (i := i + 1) h (3 - i)
  rw [show i + 1 + (3 - i) = 4 by omega] at h1
  exact h1.symm
theorem f4_m1 (w : Int32) : -1 = f4 (-1) w := by
  have h1 := cE_stay (n := -1) (w := w) (i := 0) rfl 4
  exact h1.symm
def tok (M : Nat) (p : Int32) : Prop := p = -1 ∨ ∃ m : Nat, m ≤ M ∧ p = nI m
theorem cE_ok {M : Nat} (hM : M < 1000) {p : Int32} (h : tok M p) (w : Int32) : ∀ k, k ≤ 4 → tok (M + k) (cE p w k) := by
  intro k
  induction k with
  | zero => intro _; exact h
  | succ k ih =>
    intro hk
    rcases ih (by omega) with e | ⟨q, hq, e⟩
    · left; show tS (cE p w k) (cby w k) = -1; rw [e]; exact tS_m1 _
    · show tok (M + (k + 1)) (tS (cE p w k) (cby w k))
      rw [e]
      rcases tS_or (n := q) (by omega) (cby w k) with z | z | z
      · exact Or.inl z
      · exact Or.inr ⟨q, by omega, z⟩
      · exact Or.inr ⟨q + 1, by omega, z⟩
theorem f4_ok {M : Nat} (hM : M < 1000) {p : Int32} (h : tok M p) (w : Int32) : tok (M + 4) (f4 p w) := cE_ok hM h w 4 (Nat.le_refl 4)
theorem mE_stay {a b c d e : Int32} {i : Nat} (h : mE a b c d e i = -1) : ∀ k, mE a b c d e (i + k) = -1 := by
  intro k
  induction k with
  | zero => exact h
  | succ k ih => show tS (mE a b c d e (i + k)) _ = -1; rw [ih]; exact tS_m1 _
theorem mE_bad {a b c d e : Int32} {i : Nat} (hi : i < 20) (h : tS (mE a b c d e i) (byt (wsel a b c d e i) i) = -1) : -1 = mE a b c d e 20 := by
  have h1 := mE_stay (i := i + 1) h (19 - i)
  rw [show i + 1 + (19 - i) = 20 by omega] at h1
  exact h1.symm
theorem mE_nb {a b c d e : Int32} {q : Nat} (hq : q < 2 ^ 31) (h : mE a b c d e 20 = nI q) {i : Nat} (hi : i < 20) : ¬ tS (mE a b c d e i) (byt (wsel a b c d e i) i) = -1 := by
  intro hb
  have h1 := mE_bad hi hb
  rw [h] at h1
  exact nI_m1 hq h1.symm
theorem ws0 {a b c d e : Int32} {i : Nat} (hi : i < 20) (h1 : ¬ 4 ≤ nI i) : wsel a b c d e i = a := by
  have k1 : ¬ 4 ≤ i := fun h => h1 (nI_le h (by omega))
  unfold wsel; rw [if_pos (by omega)]
theorem ws1 {a b c d e : Int32} {i : Nat} (hi : i < 20) (h1 : 4 ≤ nI i) (h2 : ¬ 8 ≤ nI i) : wsel a b c d e i = b := by
  have k1 : 4 ≤ i := (nI_leI (a := 4) (by decide) (by omega)).mp h1
  have k2 : ¬ 8 ≤ i := fun h => h2 (nI_le h (by omega))
  unfold wsel; rw [if_neg (by omega), if_pos (by omega)]
theorem ws2 {a b c d e : Int32} {i : Nat} (hi : i < 20) (h1 : 8 ≤ nI i) (h2 : ¬ 12 ≤ nI i) : wsel a b c d e i = c := by
  have k1 : 8 ≤ i := (nI_leI (a := 8) (by decide) (by omega)).mp h1
  have k2 : ¬ 12 ≤ i := fun h => h2 (nI_le h (by omega))
  unfold wsel; rw [if_neg (by omega), if_neg (by omega), if_pos (by omega)]
theorem ws3 {a b c d e : Int32} {i : Nat} (hi : i < 20) (h1 : 12 ≤ nI i) (h2 : ¬ 16 ≤ nI i) : wsel a b c d e i = d := by
  have k1 : 12 ≤ i := (nI_leI (a := 12) (by decide) (by omega)).mp h1
  have k2 : ¬ 16 ≤ i := fun h => h2 (nI_le h (by omega))
  unfold wsel; rw [if_neg (by omega), if_neg (by omega), if_neg (by omega), if_pos (by omega)]
theorem ws4 {a b c d e : Int32} {i : Nat} (hi : i < 20) (h1 : 16 ≤ nI i) : wsel a b c d e i = e := by
  have k1 : 16 ≤ i := (nI_leI (a := 16) (by decide) (by omega)).mp h1
  unfold wsel; rw [if_neg (by omega), if_neg (by omega), if_neg (by omega), if_neg (by omega)]
theorem by_eq (w : Int32) {n : Nat} (hn : n ≤ 24) : (w >>> (nI n &&& 31)) &&& 255 = (w.toUInt32 >>> ((nI n).toUInt32 &&& Int32.toUInt32 31)).toInt32 &&& 255 := by
  apply b_ext
  intro i hi
  rw [b_and, b_and, b_255, b_sshr n (by omega) w hi, b_ushr n (by omega) w i]
  by_cases h : i < 8
  · rw [if_pos (by omega)]
  · rw [decide_eq_false h, Bool.and_false, Bool.and_false]
theorem amt_m : ∀ q, q < 5 → ∀ r, r < 4 → (24 - (8 * (nI (4 * q + r) - nI (4 * q + r) / 4 * 4))) = nI (24 - 8 * r) := by decide
theorem amt_c : ∀ r, r < 4 → sh r = nI (24 - 8 * r) := by decide
theorem byt_eq (w : Int32) {q r : Nat} (hq : q < 5) (hr : r < 4) : byt w (4 * q + r) = cby w r := by
  unfold byt cby
  rw [amt_m q hq r hr, amt_c r hr]
  exact by_eq w (by omega)
theorem mE_run {a b c d e w : Int32} {q : Nat} (hq : q < 5) (hw : ∀ r, r < 4 → wsel a b c d e (4 * q + r) = w) : ∀ r, r ≤ 4 → mE a b c d e (4 * q + r) = cE (mE a b c d e (4 * q)) w r := by
  intro r
  induction r with
  | zero => intro _; rfl
  | succ r ih =>
    intro hr
    show tS (mE a b c d e (4 * q + r)) (byt (wsel a b c d e (4 * q + r)) (4 * q + r)) = tS (cE (mE a b c d e (4 * q)) w r) (cby w r)
    rw [ih (by omega), hw r (by omega), byt_eq w hq (by omega)]
theorem type_eq (a b c d e : Int32) : mE a b c d e 20 = f4 (f4 (f4 (f4 (f4 0 a) b) c) d) e := by
  have h0 : mE a b c d e 4 = f4 0 a := mE_run (q := 0) (w := a) (by omega) (fun r hr => by unfold wsel; rw [if_pos (by omega)]) 4 (by omega)
  have h1 : mE a b c d e 8 = f4 (mE a b c d e 4) b := mE_run (q := 1) (w := b) (by omega) (fun r hr => by unfold wsel; rw [if_neg (by omega), if_pos (by omega)]) 4 (by omega)
  have h2 : mE a b c d e 12 = f4 (mE a b c d e 8) c := mE_run (q := 2) (w := c) (by omega) (fun r hr => by unfold wsel; rw [if_neg (by omega), if_neg (by omega), if_pos (by omega)]) 4 (by omega)
  have h3 : mE a b c d e 16 = f4 (mE a b c d e 12) d := mE_run (q := 3) (w := d) (by omega) (fun r hr => by unfold wsel; rw [if_neg (by omega), if_neg (by omega), if_neg (by omega), if_pos (by omega)]) 4 (by omega)
  have h4 : mE a b c d e 20 = f4 (mE a b c d e 16) e := mE_run (q := 4) (w := e) (by omega) (fun r hr => by unfold wsel; rw [if_neg (by omega), if_neg (by omega), if_neg (by omega), if_neg (by omega)]) 4 (by omega)
  rw [h4, h3, h2, h1, h0]
