def fstB (q : Nat → Bool) : Nat → Nat → Int32
  | 0, _ => -1
  | n + 1, j => if q j = true then nI j else fstB q n (j + 1)
/-- from a on below b nothing is hit -/
def NHB (q : Nat → Bool) (a b : Nat) : Prop := ∀ k, a ≤ k → k < b → q k = false
theorem NHB_0 {q : Nat → Bool} {a : Nat} : NHB q a a := fun k h1 h2 => by omega
theorem NHB_s {q : Nat → Bool} {a b : Nat} (h : NHB q a b) (hb : q b = false) : NHB q a (b + 1) := fun k h1 h2 => by
  by_cases hk : k = b
  · subst hk; exact hb
  · exact h k h1 (by omega)
theorem fst_no {q : Nat → Bool} : ∀ (n j : Nat), NHB q j (j + n) → fstB q n j = -1 := by
  intro n
  induction n with
  | zero => intro j _; rfl
  | succ n ih =>
    intro j h
    show (if _ then _ else _) = _
    rw [if_neg (by rw [h j (by omega) (by omega)]; decide)]
    exact ih (j + 1) (fun k h1 h2 => h k (by omega) (by omega))
theorem fst_hit {q : Nat → Bool} : ∀ (i n j : Nat), i < n → NHB q j (j + i) → q (j + i) = true → fstB q n j = nI (j + i) := by
  intro i
  induction i with
  | zero =>
    intro n j h1 _ h3
    obtain ⟨c, rfl⟩ : ∃ c, n = c + 1 := ⟨n - 1, by omega⟩
    show (if _ then _ else _) = _
    rw [if_pos (by exact h3)]
    rfl
  | succ i ih =>
    intro n j h1 h2 h3
    obtain ⟨c, rfl⟩ : ∃ c, n = c + 1 := ⟨n - 1, by omega⟩
    show (if _ then _ else _) = _
    rw [if_neg (by rw [h2 j (by omega) (by omega)]; decide)]
    have e1 : j + (i + 1) = j + 1 + i := by omega
    rw [e1] at h2 h3 ⊢
    exact ih c (j + 1) (by omega) (fun k k1 k2 => h2 k (by omega) (by omega)) h3
theorem fst_or (q : Nat → Bool) (n j : Nat) : (fstB q n j = -1 ∧ NHB q j (j + n)) ∨ ∃ i, i < n ∧ fstB q n j = nI (j + i) ∧ q (j + i) = true ∧ NHB q j (j + i) := by
  by_cases h : ∃ i, i < n ∧ q (j + i) = true ∧ NHB q j (j + i)
  · obtain ⟨i, h1, h2, h3⟩ := h
    exact Or.inr ⟨i, h1, fst_hit i n j h1 h3 h2, h2, h3⟩
  · have h2 : ∀ i, i ≤ n → NHB q j (j + i) := by
      intro i
      induction i with
      | zero => intro _; exact NHB_0
      | succ i ih =>
        intro hi
        have h4 := ih (by omega)
        refine NHB_s (b := j + i) h4 ?_
        cases hq : q (j + i) with
        | false => rfl
        | true => exact absurd ⟨i, by omega, hq, h4⟩ h
    exact Or.inl ⟨fst_no n j (h2 n (Nat.le_refl n)), h2 n (Nat.le_refl n)⟩
def qWid (gm : Nat → Nat → Int32) (lg : Nat → Nat → Int64) (w : Int64) (j : Nat) : Bool := decide (gm 28 (gm 42 j).toNatClampNeg = 0) && decide (mWord gm lg (gm 42 j).toNatClampNeg 26980 = w)
theorem qW_t {gm : Nat → Nat → Int32} {lg : Nat → Nat → Int64} {w : Int64} {j : Nat} (h1 : gm 28 (gm 42 j).toNatClampNeg = 0) (h2 : mWord gm lg (gm 42 j).toNatClampNeg 26980 = w) : qWid gm lg w j = true := by
  unfold qWid; rw [decide_eq_true h1, decide_eq_true h2]; rfl
theorem qW_1 {gm : Nat → Nat → Int32} {lg : Nat → Nat → Int64} {w : Int64} {j : Nat} (h1 : ¬ gm 28 (gm 42 j).toNatClampNeg = 0) : qWid gm lg w j = false := by
  unfold qWid; rw [decide_eq_false h1]; rfl
theorem qW_2 {gm : Nat → Nat → Int32} {lg : Nat → Nat → Int64} {w : Int64} {j : Nat} (h1 : ¬ mWord gm lg (gm 42 j).toNatClampNeg 26980 = w) : qWid gm lg w j = false := by
  unfold qWid; rw [decide_eq_false h1, Bool.and_false]
def mWid (sg : Nat → Int32) (gm : Nat → Nat → Int32) (lg : Nat → Nat → Int64) (w : Int64) : Int32 := fstB (qWid gm lg w) (sg 41).toNatClampNeg 0
theorem wid_no {sg : Nat → Int32} {gm : Nat → Nat → Int32} {lg : Nat → Nat → Int64} {w : Int64} {x : Int32} (hn : iv 0 80 (sg 41)) (hx : iv 0 80 x) (hl : (sg 41).toInt ≤ x.toInt) (h : NHB (qWid gm lg w) 0 x.toNatClampNeg) : (-1 : Int32) = mWid sg gm lg w := by
  have k1 := iv_cl hn (by decide)
  have k2 := iv_cl hx (by decide)
  exact (fst_no _ 0 (fun k q1 q2 => h k q1 (by omega))).symm
theorem wid_hit {sg : Nat → Int32} {gm : Nat → Nat → Int32} {lg : Nat → Nat → Int64} {w : Int64} {x : Int32} (hn : iv 0 80 (sg 41)) (hx : iv 0 79 x) (hl : x.toInt < (sg 41).toInt) (h : NHB (qWid gm lg w) 0 x.toNatClampNeg) (hq : qWid gm lg w x.toNatClampNeg = true) : x = mWid sg gm lg w := by
  have k1 := iv_cl hn (by decide)
  have k2 := iv_cl hx (by decide)
  have k3 := fst_hit (q := qWid gm lg w) x.toNatClampNeg (sg 41).toNatClampNeg 0 (by omega) (by rw [Nat.zero_add]; exact h) (by rw [Nat.zero_add]; exact hq)
  rw [Nat.zero_add, iv_nI hx (by decide)] at k3
  exact k3.symm
def mPar (sg : Nat → Int32) (gm : Nat → Nat → Int32) (lg : Nat → Nat → Int64) (b : Int32) : Int32 := if mHas gm lg (gm 42 b.toNatClampNeg).toNatClampNeg 123563833388660 = 0 then -1 else mWid sg gm lg (mWord gm lg (gm 42 b.toNatClampNeg).toNatClampNeg 123563833388660)
theorem mWid_iv {sg : Nat → Int32} {gm : Nat → Nat → Int32} {lg : Nat → Nat → Int64} (w : Int64) (hn : iv 0 80 (sg 41)) : iv (-1) 79 (mWid sg gm lg w) ∧ ((mWid sg gm lg w).toInt < (sg 41).toInt ∨ mWid sg gm lg w = -1) := by
  have k1 := iv_cl hn (by decide)
  have k2 := hn.2
  rcases fst_or (qWid gm lg w) (sg 41).toNatClampNeg 0 with h | ⟨i, h1, h2, _⟩
  · have h3 : mWid sg gm lg w = -1 := h.1
    rw [h3]; exact ⟨iv_k (by decide), Or.inr rfl⟩
  · rw [Nat.zero_add] at h2
    have h3 : mWid sg gm lg w = nI i := h2
    rw [h3]
    have h4 : (nI i).toInt = i := nI_toInt (by omega)
    exact ⟨⟨by omega, by omega⟩, Or.inl (by omega)⟩
theorem mPar_iv {sg : Nat → Int32} {gm : Nat → Nat → Int32} {lg : Nat → Nat → Int64} (b : Int32) (hn : iv 0 80 (sg 41)) : iv (-1) 79 (mPar sg gm lg b) ∧ ((mPar sg gm lg b).toInt < (sg 41).toInt ∨ mPar sg gm lg b = -1) := by
  unfold mPar
  split
  · exact ⟨iv_k (by decide), Or.inr rfl⟩
  · exact mWid_iv _ hn
/-- n steps along f, until none -/
def itF (f : Int32 → Int32) : Nat → Int32 → Int32
  | 0, b => b
  | n + 1, b => if b = -1 then -1 else itF f n (f b)
theorem itF_m1 (f : Int32 → Int32) : ∀ n, itF f n (-1) = -1 := by
  intro n
  cases n with
  | zero => rfl
  | succ n => show (if _ then _ else _) = _; rw [if_pos rfl]
theorem itF_add (f : Int32 → Int32) (m : Nat) : ∀ (n : Nat) (b : Int32), itF f (n + m) b = itF f m (itF f n b) := by
  intro n
  induction n with
  | zero => intro b; rw [Nat.zero_add]; rfl
  | succ n ih =>
    intro b
    rw [Nat.succ_add]
    show (if _ then _ else _) = itF f m (if _ then _ else _)
    by_cases h : b = -1
    · rw [if_pos h, if_pos h, itF_m1]
    · rw [if_neg h, if_neg h]; exact ih (f b)
theorem itF_1 {f : Int32 → Int32} {b : Int32} (h : ¬ b = -1) : itF f 1 b = f b := by
  show (if _ then _ else _) = _
  rw [if_neg h]
  rfl
def NR (f : Int32 → Int32) (b : Int32) : Prop := ∀ k, 1 ≤ k → k ≤ 80 → ¬ itF f k b = b
theorem NR_80 {f : Int32 → Int32} {b x : Int32} (hx : iv 80 80 x) (h : ∀ k, 1 ≤ k → k ≤ x.toNatClampNeg → ¬ itF f k b = b) : NR f b := fun k h1 h2 => h k h1 (by
  have := iv_cl hx (by decide)
  have := hx.1
  omega)
theorem NR_no {f : Int32 → Int32} {b : Int32} {n : Nat} (hb : 0 ≤ b.toInt) (hp : itF f (n + 1) b = -1) (h : ∀ k, 1 ≤ k → k ≤ n → ¬ itF f k b = b) : NR f b := fun k h1 h2 hk => by
  by_cases h3 : k ≤ n
  · exact h k h1 h3 hk
  · have h4 : k = (n + 1) + (k - (n + 1)) := by omega
    rw [h4, itF_add, hp, itF_m1] at hk
    rw [← hk] at hb
    exact absurd hb (by decide)
theorem NR_s {f : Int32 → Int32} {b p9 : Int32} {n : Nat} (hp : p9 = itF f (n + 1) b) (hb : ¬ p9 = b) (h : ∀ k, 1 ≤ k → k ≤ n → ¬ itF f k b = b) : ∀ k, 1 ≤ k → k ≤ n + 1 → ¬ itF f k b = b := fun k h1 h2 hk => by
  by_cases h3 : k ≤ n
  · exact h k h1 h3 hk
  · have h4 : k = n + 1 := by omega
    rw [h4, ← hp] at hk
    exact hb hk
theorem itF_s {f : Int32 → Int32} {b p9 r : Int32} {n : Nat} (hp : p9 = itF f (n + 1) b) (hb : ¬ p9 = -1) (hr : r = f p9) : r = itF f (n + 1 + 1) b := by
  rw [itF_add, ← hp, itF_1 hb, hr]
def BB1 (sg : Nat → Int32) (gm : Nat → Nat → Int32) (lg : Nat → Nat → Int64) (k : Nat) : Prop := (gm 26 k).toInt = 3 → mHas gm lg k 123563833388660 = 0 ∨ NR (mPar sg gm lg) (gm 43 k)
def BBE (sg : Nat → Int32) (gm : Nat → Nat → Int32) (lg : Nat → Nat → Int64) : Prop := ∀ k, 1 ≤ k → k < (sg 24).toNatClampNeg → BB1 sg gm lg k
/-- the beans and their elements -/
def BEL (sg : Nat → Int32) (gm : Nat → Nat → Int32) : Prop := (∀ x : Nat, x < (sg 24).toNatClampNeg → (gm 26 x).toInt = 3 → (gm 43 x).toInt < (sg 41).toInt) ∧ ∀ b, b < (sg 41).toNatClampNeg → 1 ≤ (gm 42 b).toNatClampNeg ∧ (gm 42 b).toNatClampNeg < (sg 24).toNatClampNeg ∧ (gm 26 (gm 42 b).toNatClampNeg).toInt = 3 ∧ gm 43 (gm 42 b).toNatClampNeg = nI b
def ACY (sg : Nat → Int32) (gm : Nat → Nat → Int32) (lg : Nat → Nat → Int64) : Prop := ∀ b : Int32, 0 ≤ b.toInt → b.toInt < (sg 41).toInt → itF (mPar sg gm lg) 80 b = -1
theorem pigeon : ∀ (n : Nat) (f : Nat → Nat), (∀ i, i ≤ n → f i < n) → ∃ i j, i < j ∧ j ≤ n ∧ f i = f j := by
  intro n
  induction n with
  | zero => intro f h; exact absurd (h 0 (Nat.le_refl 0)) (Nat.not_lt_zero _)
  | succ n ih =>
    intro f h
    by_cases h0 : ∃ i, i ≤ n ∧ f i = f (n + 1)
    · obtain ⟨i, h1, h2⟩ := h0
      exact ⟨i, n + 1, by omega, Nat.le_refl _, h2⟩
    · obtain ⟨i, j, h1, h2, h3⟩ := ih (fun i => if f i < f (n + 1) then f i else f i - 1) (fun i hi => by
        have a1 := h i (by omega)
        have a2 := h (n + 1) (Nat.le_refl _)
        have a3 : f i ≠ f (n + 1) := fun q => h0 ⟨i, hi, q⟩
        show (if f i < f (n + 1) then f i else f i - 1) < n
        split <;> omega)
      refine ⟨i, j, h1, by omega, ?_⟩
      have a3 : f i ≠ f (n + 1) := fun q => h0 ⟨i, by omega, q⟩
      have a4 : f j ≠ f (n + 1) := fun q => h0 ⟨j, by omega, q⟩
      have h3 : (if f i < f (n + 1) then f i else f i - 1) = (if f j < f (n + 1) then f j else f j - 1) := h3
      split at h3 <;> split at h3 <;> omega
theorem ACY_of {sg : Nat → Int32} {gm : Nat → Nat → Int32} {lg : Nat → Nat → Int64} (hn : iv 0 80 (sg 41)) (hb : BBE sg gm lg) (he : BEL sg gm) : ACY sg gm lg := by
  intro b h0 h1
  have k1 := iv_cl hn (by decide)
  have k2 := hn.2
  have hr : ∀ k, itF (mPar sg gm lg) k b = -1 ∨ (0 ≤ (itF (mPar sg gm lg) k b).toInt ∧ (itF (mPar sg gm lg) k b).toInt < (sg 41).toInt) := by
    intro k
    induction k with
    | zero => exact Or.inr ⟨h0, h1⟩
    | succ k ih =>
      rw [itF_add]
      rcases ih with h | ⟨h2, h3⟩
      · rw [h]; exact Or.inl (itF_m1 _ _)
      · have hm : ¬ itF (mPar sg gm lg) k b = -1 := fun q => by rw [q] at h2; exact absurd h2 (by decide)
        rw [itF_1 hm]
        obtain ⟨q1, q2⟩ := mPar_iv (sg := sg) (gm := gm) (lg := lg) (itF (mPar sg gm lg) k b) hn
        rcases q2 with q2 | q2
        · by_cases q3 : mPar sg gm lg (itF (mPar sg gm lg) k b) = -1
          · exact Or.inl q3
          · refine Or.inr ⟨?_, q2⟩
            have q4 := q1.1
            have q5 : (mPar sg gm lg (itF (mPar sg gm lg) k b)).toInt ≠ -1 := fun q => q3 (Int32.toInt_inj.mp q)
            omega
        · exact Or.inl q2
  by_cases hz : itF (mPar sg gm lg) 80 b = -1
  · exact hz
  exfalso
  have hne : ∀ k, k ≤ 80 → ¬ itF (mPar sg gm lg) k b = -1 := fun k hk q => hz (by
    have e1 : 80 = k + (80 - k) := by omega
    rw [e1, itF_add, q, itF_m1])
  obtain ⟨i, j, p1, p2, p3⟩ := pigeon 80 (fun k => (itF (mPar sg gm lg) k b).toInt.toNat) (fun k hk => by
    rcases hr k with h | ⟨h2, h3⟩
    · exact absurd h (hne k hk)
    · show Int.toNat _ < 80
      omega)
  have p3 : (itF (mPar sg gm lg) i b).toInt.toNat = (itF (mPar sg gm lg) j b).toInt.toNat := p3
  have hi := (hr i).resolve_left (hne i (by omega))
  have hj := (hr j).resolve_left (hne j p2)
  have e2 : itF (mPar sg gm lg) i b = itF (mPar sg gm lg) j b := Int32.toInt_inj.mp (by omega)
  generalize hx : itF (mPar sg gm lg) i b = x at *
  have e3 : itF (mPar sg gm lg) (j - i) x = x := by
    have e4 : j = i + (j - i) := by omega
    rw [e4, itF_add, hx] at e2
    exact e2.symm
  have hxi : iv 0 79 x := ⟨hi.1, by omega⟩
  have kx := iv_cl hxi (by decide)
  obtain ⟨b1, b2, b3, b4⟩ := he.2 x.toNatClampNeg (by omega)
  rcases hb _ b1 b2 b3 with c1 | c1
  · have c2 : mPar sg gm lg x = -1 := by unfold mPar; rw [if_pos c1]
    have c3 := hne (i + 1) (by omega)
    rw [itF_add, hx, itF_1 (fun q => by have := hi.1; rw [q] at this; exact absurd this (by decide)), c2] at c3
    exact c3 rfl
  · rw [b4, iv_nI hxi (by decide)] at c1
    exact c1 (j - i) (by omega) (by omega) e3
def STR (sg : Nat → Int32) (gm : Nat → Nat → Int32) (lg : Nat → Nat → Int64) : Prop := (∀ k, k < (sg 24).toNatClampNeg → GOOD gm lg k) ∧ ((sg 24).toInt = 0 ∨ (gm 26 0).toInt = 1)
theorem BS_hg {gm gm2 : Nat → Nat → Int32} {x y : Int32} (h : TA (gm 28) y.toNatClampNeg) (e28 : gm2 28 = gm 28) (h95 : (gm2 26 0).toInt = 1) (hx : iv 0 79 x) (hy : iv 0 80 y) (hn : x.toInt < y.toInt) : 0 ≤ (gm2 28 x.toNatClampNeg).toInt ∨ (gm2 26 x.toNatClampNeg).toInt = 1 := by
  have k1 := iv_cl hx (by decide)
  have k2 := iv_cl hy (by decide)
  rcases (h x.toNatClampNeg (by omega)).2 with q | q
  · rw [q]; exact Or.inr h95
  · rw [e28]; exact Or.inl q
theorem lt_cl {x y : Int32} {a b c d : Int} (hx : iv a b x) (hy : iv c d y) (ha : 0 ≤ a) (hc : 0 ≤ c) (h : x.toInt < y.toInt) : x.toNatClampNeg < y.toNatClampNeg := by
  have k1 := iv_cl hx ha
  have k2 := iv_cl hy hc
  omega
theorem le_cl {x y : Int32} {a b c d : Int} (hx : iv a b x) (hy : iv c d y) (ha : 0 ≤ a) (hc : 0 ≤ c) (h : x.toInt ≤ y.toInt) : x.toNatClampNeg ≤ y.toNatClampNeg := by
  have k1 := iv_cl hx ha
  have k2 := iv_cl hy hc
  omega
theorem s_cl {x z : Int32} {a b : Int} (hx : iv a b x) (ha : 0 ≤ a) (h : z.toInt = x.toInt + 1) : z.toNatClampNeg = x.toNatClampNeg + 1 := by
  have k1 := iv_cl hx ha
  have k2 := hx.1
  have k3 := iv_cl (a := a) (b := b + 1) (x := z) ⟨by omega, by have := hx.2; omega⟩ ha
  omega
theorem all_s {x z : Int32} {a b : Int} {P : Nat → Prop} {k0 : Nat} (hx : iv a b x) (ha : 0 ≤ a) (h : z.toInt = x.toInt + 1) (q : ∀ k, k0 ≤ k → k < x.toNatClampNeg → P k) (hp : P x.toNatClampNeg) : ∀ k, k0 ≤ k → k < z.toNatClampNeg → P k := by
  rw [s_cl hx ha h]
  intro k h1 h2
  by_cases e9 : k = x.toNatClampNeg
  · subst e9; exact hp
  · exact q k h1 (by omega)

set_option maxHeartbeats 4000000 in
set_option maxRecDepth 100000 in
theorem f_badStructure (l : Launch) (dC : Nat → ClassId) (dI : Nat → Nat → Nat) (h0 : Nat) (ad : Nat → Nat) (cid : Nat → ClassId) (sg : Nat → Int32) (gm : Nat → Nat → Int32) (lg : Nat → Nat → Int64) (hI : MI sg gm) (hTR : TRE sg gm) : MMi l dC dI yX13_badStructure wm_X13_badStructure ({ frames := 5, cells := 0, slots := 0, locals := 125 }) h0 ad cid [] sg gm lg (fun r v => ∃ (sg2 : Nat → Int32) (gm2 : Nat → Nat → Int32) (lg2 : Nat → Nat → Int64), v = (sg2, gm2, lg2) ∧ MI sg2 gm2 ∧ KS [] sg sg2 ∧ KS [26] gm gm2 ∧ KS [] lg lg2 ∧ (iv (-1) 79 r) ∧ (0 ≤ r.toInt ∨ STR sg2 gm2 lg2)) := by
  intro sz
  refine Met.ofW (cc := cX13_badStructure) (maxL := 3) (ret := (some .int)) (by decide) rfl ?_
  intro p e s m args below meth c s₁ B hml hv
  obtain ⟨rfl, hsz, hP, hK, hD0⟩ := hv
  have hx := B.exec
  have hb := B.bytes
  have hr := B.returns
  have hts := atoms_spec (ws := wm_X13_badStructure) B.pre
  have htb := fun (w : Cond) (h : w ∈ tb) => hts w (List.mem_cons_of_mem _ h)
  have hown : s.vm.findClass RX13 = some m.cls := findClass_of_methodNamed B.named
  have hlocks := B.notSynchronized
  subst hsz
  have hD := hD0.self (sz := s.heap.size)
  generalize hAe : va_A (mW h0 ad cid sg gm lg) s.heap.size = A at hD ⊢
  have hA : ∀ q : Nat, s.heap.size ≤ q → A q := fun q h => by rw [← hAe]; exact Or.inr h
  have hS : va_S A s.heap s.heap [] := va_S.rf
  have hl := lv_entry ([.ref h0]) (n := 3) (Nat.le_of_ble_eq_true rfl)
  rw [lg_entry_eq]
  generalize (lg_sl ([.ref h0]) ++ List.replicate (3 - (lg_sl ([.ref h0])).length) Slot.unset).toArray = ls at hl ⊢
  have hl : lv_has ls 3 [(0, .ref h0)] := hl
  have hj103 : ∀ (gm_j103 : Nat → Nat → Int32) (x1_103 : Int32) (_ : iv 0 79 x1_103) (_ : KS [26] gm gm_j103) (_ : MI sg gm_j103) (H : Heap) (locs : List Loc) (ls : Array Slot), va_P (dC, dI) vwCl (mW h0 ad cid sg gm_j103 lg) H → va_D A (mW h0 ad cid sg gm_j103 lg) → va_S A s.heap H locs → lv_has ls 3 [(1, .int x1_103), (0, .ref h0)] → W p l e (headSpec wm_X13_badStructure ({ frames := 5, cells := 0, slots := 0, locals := 125 })).room s m ([.ref h0] : List Value).toArray below meth c H locs 0 0 (MQ below (va_Qi (fun r v => ∃ (sg2 : Nat → Int32) (gm2 : Nat → Nat → Int32) (lg2 : Nat → Nat → Int64), v = (sg2, gm2, lg2) ∧ MI sg2 gm2 ∧ KS [] sg sg2 ∧ KS [26] gm gm2 ∧ KS [] lg lg2 ∧ (iv (-1) 79 r) ∧ (0 ≤ r.toInt ∨ STR sg2 gm2 lg2)) (MB dC dI h0 ad cid A) A) ([.ref h0] : List Value).toArray s 0 0 A) (F0 m 103 ls []) := by
    intro gm_j103 x1_103 hx1_103 hkg_j103 hI_j103 H locs ls hP hD hS hl
    refine lv_iload_n hx hb dX13_badStructure_103 rfl (lv_at hl 0 rfl) ?_
    exact W.iret (v := x1_103) hx hb hr (fun t ht hW => ⟨⟨x1_103, (sg, gm_j103, lg), rfl, ⟨sg, gm_j103, lg, rfl, hI_j103, KS_rf, (KS_tr (L := [26]) KS_rf hkg_j103 (by decide)), KS_rf, (iv_w hx1_103 (by decide)), (Or.inl (hx1_103).1)⟩, by rw [ht]; exact hP, va_K.moved hW.alike hK, hD⟩, hS.F ht⟩) hS.2.2 dX13_badStructure_104
  have hj73 : ∀ (n : Nat) (gm_j73 : Nat → Nat → Int32) (x1_73 : Int32) (_ : (80 - x1_73.toInt).toNat = n) (_ : iv 0 80 x1_73) (_ : KS [26] gm gm_j73) (_ : MI sg gm_j73) (_ : ∀ k9, 0 ≤ k9 → k9 < x1_73.toNatClampNeg → GOOD gm_j73 lg k9) (_ : x1_73.toInt = 0 ∨ (gm_j73 26 0).toInt = 1) (H : Heap) (locs : List Loc) (ls : Array Slot), va_P (dC, dI) vwCl (mW h0 ad cid sg gm_j73 lg) H → va_D A (mW h0 ad cid sg gm_j73 lg) → va_S A s.heap H locs → lv_has ls 3 [(1, .int x1_73), (0, .ref h0)] → W p l e (headSpec wm_X13_badStructure ({ frames := 5, cells := 0, slots := 0, locals := 125 })).room s m ([.ref h0] : List Value).toArray below meth c H locs 0 0 (MQ below (va_Qi (fun r v => ∃ (sg2 : Nat → Int32) (gm2 : Nat → Nat → Int32) (lg2 : Nat → Nat → Int64), v = (sg2, gm2, lg2) ∧ MI sg2 gm2 ∧ KS [] sg sg2 ∧ KS [26] gm gm2 ∧ KS [] lg lg2 ∧ (iv (-1) 79 r) ∧ (0 ≤ r.toInt ∨ STR sg2 gm2 lg2)) (MB dC dI h0 ad cid A) A) ([.ref h0] : List Value).toArray s 0 0 A) (F0 m 73 ls []) := by
    intro n
    induction n using Nat.strongRecOn with
    | ind n ih73 =>
      intro gm_j73 x1_73 hn73 hx1_73 hkg_j73 hI_j73 hgd hk0 H locs ls hP hD hS hl
      have hj95 : ∀ (gm_j95 : Nat → Nat → Int32) (_ : iv 0 79 x1_73) (_ : KS [26] gm gm_j95) (_ : MI sg gm_j95) (_ : ∀ k9, 0 ≤ k9 → k9 < x1_73.toNatClampNeg → GOOD gm_j95 lg k9) (_ : (gm_j95 26 0).toInt = 1) (_ : x1_73.toInt < (sg 24).toInt) (H : Heap) (locs : List Loc) (ls : Array Slot), va_P (dC, dI) vwCl (mW h0 ad cid sg gm_j95 lg) H → va_D A (mW h0 ad cid sg gm_j95 lg) → va_S A s.heap H locs → lv_has ls 3 [(1, .int x1_73), (0, .ref h0)] → W p l e (headSpec wm_X13_badStructure ({ frames := 5, cells := 0, slots := 0, locals := 125 })).room s m ([.ref h0] : List Value).toArray below meth c H locs 0 0 (MQ below (va_Qi (fun r v => ∃ (sg2 : Nat → Int32) (gm2 : Nat → Nat → Int32) (lg2 : Nat → Nat → Int64), v = (sg2, gm2, lg2) ∧ MI sg2 gm2 ∧ KS [] sg sg2 ∧ KS [26] gm gm2 ∧ KS [] lg lg2 ∧ (iv (-1) 79 r) ∧ (0 ≤ r.toInt ∨ STR sg2 gm2 lg2)) (MB dC dI h0 ad cid A) A) ([.ref h0] : List Value).toArray s 0 0 A) (F0 m 95 ls []) := by
        intro gm_j95 hsx1_95 hkg_j95 hI_j95 hgd h95 hlt9 H locs ls hP hD hS hl
        refine lv_aload_n hx hb dX13_badStructure_95 rfl (lv_at hl 1 rfl) ?_
        refine lv_iload_n hx hb dX13_badStructure_96 rfl (lv_at hl 0 rfl) ?_
        refine mr_calli (rest := []) ⟨hx, hb, hml, hown, htb⟩ (f_isGood l dC dI h0 ad cid sg gm_j95 lg x1_73 hI_j95 hsx1_95 (BS_hg hTR.1 (hkg_j95 28 (by decide)) h95 hsx1_95 (show iv 0 80 (sg 24) from MI_s hI 24) hlt9)) (cwV 1 htb (gd_V kw_884 kw_885 kw_886 kw_5 kw_1538) rfl rfl rfl (by decide +kernel) ⟨Nat.le_of_ble_eq_true rfl, Nat.le_of_ble_eq_true rfl⟩) rfl hl.1 rfl (Nat.le_of_ble_eq_true rfl) dX13_badStructure_97 ⟨Nat.zero_le _, Nat.zero_le _⟩ hK hP hD hS hA (fun r_1 u_2 H locs hw hP hD hS => ?_)
        obtain ⟨hr_1, fGd_r_1, rfl⟩ := hw
        have hP : va_P (dC, dI) vwCl (mW h0 ad cid sg gm_j95 lg) H := hP
        have hD : va_D A (mW h0 ad cid sg gm_j95 lg) := hD
        refine lv_if_ne (tgt := 105) hx hb dX13_badStructure_100 (by decide) (fun c_3 => ?_) (fun c_3 => ?_)
        · have h_4 : iv 1 1 r_1 := iv_neL c_3 hr_1 (by decide)
          obtain ⟨z_5, ez_5⟩ : ∃ z : Int32, z = x1_73 + 1 := ⟨_, rfl⟩
          have hz_5 : iv 1 80 z_5 := iv_of ez_5 (iv_add hsx1_95 (iv_k (by decide) : iv 1 1 1) (by decide))
          have tz_5 : z_5.toInt = x1_73.toInt + 1 := by rw [ez_5]; exact iv_addE hsx1_95 (iv_k (by decide) : iv 1 1 1) (by decide)
          refine lv_iinc (v := z_5) (lv' := [(1, .int z_5), (0, .ref h0)]) hx hb dX13_badStructure_105 hl (k := 0) rfl ez_5.symm (by decide) rfl (fun ls hl => ?_)
          refine lv_goto (tgt := 73) hx hb dX13_badStructure_108 (by decide) ?_
          exact ih73 _ (by rw [← hn73]; exact (iv_meas tz_5 hsx1_95 (by decide))) gm_j95 z_5 rfl (iv_w hz_5 (by decide)) (KS_tr (L := [26]) KS_rf hkg_j95 (by decide)) hI_j95 (all_s hsx1_95 (by decide) tz_5 hgd (fGd_r_1.resolve_left (fun q9 => c_3 (Int32.toInt_inj.mp q9)))) (Or.inr h95) _ _ _ hP hD hS (lv_sub hl [0, 1] rfl)
        · have h_6 : iv 0 0 r_1 := iv_eq c_3 hr_1 (iv_k (by decide) : iv 0 0 0) (by decide)
          exact hj103 gm_j95 x1_73 hsx1_95 (KS_tr (L := [26]) KS_rf hkg_j95 (by decide)) hI_j95 _ _ _ hP hD hS (lv_sub hl [0, 1] rfl)
      refine lv_iload_n hx hb dX13_badStructure_73 rfl (lv_at hl 0 rfl) ?_
      refine lv_aload_n hx hb dX13_badStructure_74 rfl (lv_at hl 1 rfl) ?_
      refine mr_get (v := .int (sg 24)) hx hb htb inX13 hown hK hP 24 (by decide) (htb _ kw_815) rfl dX13_badStructure_75 ?_
      refine lv_icmp_ge (tgt := 111) hx hb dX13_badStructure_78 (by decide) (fun c_7 => ?_) (fun c_7 => ?_)
      · have d_8 : ((sg 24) : Int32).toInt ≤ (x1_73 : Int32).toInt := Int32.le_iff_toInt_le.mp c_7
        refine lv_iconst (v := (-1)) hx hb dX13_badStructure_111 (by decide) ?_
        exact W.iret (v := (-1)) hx hb hr (fun t ht hW => ⟨⟨(-1), (sg, gm_j73, lg), rfl, ⟨sg, gm_j73, lg, rfl, hI_j73, KS_rf, (KS_tr (L := [26]) KS_rf hkg_j73 (by decide)), KS_rf, (iv_w (iv_k (by decide) : iv (-1) (-1) (-1)) (by decide)), (Or.inr ⟨fun k9 h9 => hgd k9 (Nat.zero_le _) (by have := le_cl (show iv 0 80 (sg 24) from MI_s hI 24) hx1_73 (by decide) (by decide) (by have := i32_0; have := i32_1; have := i32_2; have := i32_m1; have := (show iv 0 80 (sg 24) from MI_s hI 24).1; have := (show iv 0 80 (sg 24) from MI_s hI 24).2; have := (hx1_73).1; have := (hx1_73).2; have := ((show iv 0 80 (sg 24) from MI_s hI 24)).1; have := ((show iv 0 80 (sg 24) from MI_s hI 24)).2; omega); omega), by rcases hk0 with q9 | q9; exact Or.inl (by have := (show iv 0 80 (sg 24) from MI_s hI 24).1; have := i32_0; have := i32_1; have := i32_2; have := i32_m1; have := (show iv 0 80 (sg 24) from MI_s hI 24).1; have := (show iv 0 80 (sg 24) from MI_s hI 24).2; have := (hx1_73).1; have := (hx1_73).2; have := ((show iv 0 80 (sg 24) from MI_s hI 24)).1; have := ((show iv 0 80 (sg 24) from MI_s hI 24)).2; omega); exact Or.inr q9⟩)⟩, by rw [ht]; exact hP, va_K.moved hW.alike hK, hD⟩, hS.F ht⟩) hS.2.2 dX13_badStructure_112
      · have d_9 : (x1_73 : Int32).toInt < ((sg 24) : Int32).toInt := Int32.lt_iff_toInt_lt.mp (i32_lt c_7)
        have h_10 : iv 0 79 x1_73 := iv_ltL (i32_lt c_7) hx1_73 (show iv 0 80 (sg 24) from MI_s hI 24) (by decide)
        have h_11 : iv 1 80 (sg 24) := iv_ltR (i32_lt c_7) hx1_73 (show iv 0 80 (sg 24) from MI_s hI 24) (by decide)
        refine lv_iload_n hx hb dX13_badStructure_81 rfl (lv_at hl 0 rfl) ?_
        refine lv_if_ne (tgt := 95) hx hb dX13_badStructure_82 (by decide) (fun c_12 => ?_) (fun c_12 => ?_)
        · have h_13 : iv 1 79 x1_73 := iv_neL c_12 h_10 (by decide)
          exact hj95 gm_j73 (iv_w h_13 (by decide)) (KS_tr (L := [26]) KS_rf hkg_j73 (by decide)) hI_j73 (hgd) (hk0.resolve_left (fun q9 => c_12 (Int32.toInt_inj.mp q9))) (by have := i32_0; have := i32_1; have := i32_2; have := i32_m1; have := (show iv 0 80 (sg 24) from MI_s hI 24).1; have := (show iv 0 80 (sg 24) from MI_s hI 24).2; have := (h_13).1; have := (h_13).2; have := (h_11).1; have := (h_11).2; omega) _ _ _ hP hD hS (lv_sub hl [0, 1] rfl)
        · have h_14 : iv 0 0 x1_73 := iv_eq c_12 h_10 (iv_k (by decide) : iv 0 0 0) (by decide)
          refine lv_aload_n hx hb dX13_badStructure_85 rfl (lv_at hl 1 rfl) ?_
          refine mr_get (v := .ref (ad 26)) hx hb htb inX13 hown hK hP 26 (by decide) (htb _ kw_182) rfl dX13_badStructure_86 ?_
          refine lv_iconst (v := 0) hx hb dX13_badStructure_89 (by decide) ?_
          refine mr_iald hx hb hK hP 19 (k := 26) rfl rfl rfl (show vp_in 0 80 from (iv_in (iv_k (by decide) : iv 0 0 0) (by decide))) dX13_badStructure_90 ?_
          refine lv_topi (fun z_15 ez_15 => ?_)
          have hz_15 : iv 0 10 z_15 := iv_of ez_15 (MI_a hI_j73 26 (iv_k (by decide) : iv 0 0 0) (by decide))
          refine lv_iconst (v := 1) hx hb dX13_badStructure_91 (by decide) ?_
          refine lv_icmp_ne (tgt := 103) hx hb dX13_badStructure_92 (by decide) (fun c_16 => ?_) (fun c_16 => ?_)
          · have d_17 : ¬ (z_15 : Int32).toInt = 1 := lv_neT c_16 rfl
            exact hj103 gm_j73 x1_73 (iv_w h_14 (by decide)) (KS_tr (L := [26]) KS_rf hkg_j73 (by decide)) hI_j73 _ _ _ hP hD hS (lv_sub hl [0, 1] rfl)
          · have h_18 : iv 1 1 z_15 := iv_eq c_16 hz_15 (iv_k (by decide) : iv 1 1 1) (by decide)
            exact hj95 gm_j73 (iv_w h_14 (by decide)) (KS_tr (L := [26]) KS_rf hkg_j73 (by decide)) hI_j73 (hgd) (by rw [show gm_j73 26 0 = z_15 from ez_15.symm]; exact congrArg Int32.toInt c_16) (by have := i32_0; have := i32_1; have := i32_2; have := i32_m1; have := (show iv 0 80 (sg 24) from MI_s hI 24).1; have := (show iv 0 80 (sg 24) from MI_s hI 24).2; have := (h_14).1; have := (h_14).2; have := (h_11).1; have := (h_11).2; have := (h_18).1; have := (h_18).2; omega) _ _ _ hP hD hS (lv_sub hl [0, 1] rfl)
  have hj2 : ∀ (n : Nat) (gm_j2 : Nat → Nat → Int32) (x1_2 : Int32) (_ : (80 - x1_2.toInt).toNat = n) (_ : iv 0 80 x1_2) (_ : KS [26] gm gm_j2) (_ : MI sg gm_j2) (H : Heap) (locs : List Loc) (ls : Array Slot), va_P (dC, dI) vwCl (mW h0 ad cid sg gm_j2 lg) H → va_D A (mW h0 ad cid sg gm_j2 lg) → va_S A s.heap H locs → lv_has ls 3 [(1, .int x1_2), (0, .ref h0)] → W p l e (headSpec wm_X13_badStructure ({ frames := 5, cells := 0, slots := 0, locals := 125 })).room s m ([.ref h0] : List Value).toArray below meth c H locs 0 0 (MQ below (va_Qi (fun r v => ∃ (sg2 : Nat → Int32) (gm2 : Nat → Nat → Int32) (lg2 : Nat → Nat → Int64), v = (sg2, gm2, lg2) ∧ MI sg2 gm2 ∧ KS [] sg sg2 ∧ KS [26] gm gm2 ∧ KS [] lg lg2 ∧ (iv (-1) 79 r) ∧ (0 ≤ r.toInt ∨ STR sg2 gm2 lg2)) (MB dC dI h0 ad cid A) A) ([.ref h0] : List Value).toArray s 0 0 A) (F0 m 2 ls []) := by
    intro n
    induction n using Nat.strongRecOn with
    | ind n ih2 =>
      intro gm_j2 x1_2 hn2 hx1_2 hkg_j2 hI_j2 H locs ls hP hD hS hl
      have hj19 : ∀ (n : Nat) (gm_j19 : Nat → Nat → Int32) (x2_19 : Int32) (_ : (11 - x2_19.toInt).toNat = n) (_ : iv 0 11 x2_19) (_ : iv 0 79 x1_2) (_ : KS [26] gm gm_j19) (_ : MI sg gm_j19) (H : Heap) (locs : List Loc) (ls : Array Slot), va_P (dC, dI) vwCl (mW h0 ad cid sg gm_j19 lg) H → va_D A (mW h0 ad cid sg gm_j19 lg) → va_S A s.heap H locs → lv_has ls 3 [(2, .int x2_19), (1, .int x1_2), (0, .ref h0)] → W p l e (headSpec wm_X13_badStructure ({ frames := 5, cells := 0, slots := 0, locals := 125 })).room s m ([.ref h0] : List Value).toArray below meth c H locs 0 0 (MQ below (va_Qi (fun r v => ∃ (sg2 : Nat → Int32) (gm2 : Nat → Nat → Int32) (lg2 : Nat → Nat → Int64), v = (sg2, gm2, lg2) ∧ MI sg2 gm2 ∧ KS [] sg sg2 ∧ KS [26] gm gm2 ∧ KS [] lg lg2 ∧ (iv (-1) 79 r) ∧ (0 ≤ r.toInt ∨ STR sg2 gm2 lg2)) (MB dC dI h0 ad cid A) A) ([.ref h0] : List Value).toArray s 0 0 A) (F0 m 19 ls []) := by
        intro n
        induction n using Nat.strongRecOn with
        | ind n ih19 =>
          intro gm_j19 x2_19 hn19 hx2_19 hsx1_19 hkg_j19 hI_j19 H locs ls hP hD hS hl
          have hj58 : ∀ (gm_j58 : Nat → Nat → Int32) (y0_58 : Int32) (_ : iv 0 9 x2_19) (_ : iv 0 79 x1_2) (_ : iv 0 10 y0_58) (_ : iv 0 79 x1_2) (_ : KS [26] gm gm_j58) (_ : MI sg gm_j58) (H : Heap) (locs : List Loc) (ls : Array Slot), va_P (dC, dI) vwCl (mW h0 ad cid sg gm_j58 lg) H → va_D A (mW h0 ad cid sg gm_j58 lg) → va_S A s.heap H locs → lv_has ls 3 [(2, .int x2_19), (1, .int x1_2), (0, .ref h0)] → W p l e (headSpec wm_X13_badStructure ({ frames := 5, cells := 0, slots := 0, locals := 125 })).room s m ([.ref h0] : List Value).toArray below meth c H locs 0 0 (MQ below (va_Qi (fun r v => ∃ (sg2 : Nat → Int32) (gm2 : Nat → Nat → Int32) (lg2 : Nat → Nat → Int64), v = (sg2, gm2, lg2) ∧ MI sg2 gm2 ∧ KS [] sg sg2 ∧ KS [26] gm gm2 ∧ KS [] lg lg2 ∧ (iv (-1) 79 r) ∧ (0 ≤ r.toInt ∨ STR sg2 gm2 lg2)) (MB dC dI h0 ad cid A) A) ([.ref h0] : List Value).toArray s 0 0 A) (F0 m 58 ls [.int y0_58, .int x1_2, .ref (ad 26)]) := by
            intro gm_j58 y0_58 hsx2_58 hsx1_58 hy0_58 hsy1_58 hkg_j58 hI_j58 H locs ls hP hD hS hl
            refine ma_iast (x := y0_58) hx hb hK hP hD hS 19 (k := 26) rfl rfl rfl (show vp_in x1_2 80 from (iv_in hsy1_58 (by decide))) dX13_badStructure_58 (fun gm_19 H locs egm_19 hP hD hS => ?_)
            have hI_gm_19 := MI_st hI_j58 egm_19 hy0_58 (by decide)
            obtain ⟨z_20, ez_20⟩ : ∃ z : Int32, z = x2_19 + 1 := ⟨_, rfl⟩
            have hz_20 : iv 1 10 z_20 := iv_of ez_20 (iv_add hsx2_58 (iv_k (by decide) : iv 1 1 1) (by decide))
            have tz_20 : z_20.toInt = x2_19.toInt + 1 := by rw [ez_20]; exact iv_addE hsx2_58 (iv_k (by decide) : iv 1 1 1) (by decide)
            refine lv_iinc (v := z_20) (lv' := [(2, .int z_20), (1, .int x1_2), (0, .ref h0)]) hx hb dX13_badStructure_59 hl (k := 0) rfl ez_20.symm (by decide) rfl (fun ls hl => ?_)
            refine lv_goto (tgt := 19) hx hb dX13_badStructure_62 (by decide) ?_
            exact ih19 _ (by rw [← hn19]; exact (iv_meas tz_20 hsx2_58 (by decide))) gm_19 z_20 rfl (iv_w hz_20 (by decide)) hsy1_58 (KS_up (KS_tr (L := [26]) KS_rf hkg_j58 (by decide)) egm_19 (by decide)) hI_gm_19 _ _ _ hP hD hS (lv_sub hl [0, 1, 2] rfl)
          refine lv_iload_n hx hb dX13_badStructure_19 rfl (lv_at hl 0 rfl) ?_
          refine lv_bipush (v := 10) hx hb dX13_badStructure_20 (by decide) ?_
          refine lv_icmp_ge (tgt := 65) hx hb dX13_badStructure_22 (by decide) (fun c_21 => ?_) (fun c_21 => ?_)
          · have h_22 : iv 10 11 x2_19 := iv_leR c_21 (iv_k (by decide) : iv 10 10 10) hx2_19 (by decide)
            obtain ⟨z_23, ez_23⟩ : ∃ z : Int32, z = x1_2 + 1 := ⟨_, rfl⟩
            have hz_23 : iv 1 80 z_23 := iv_of ez_23 (iv_add hsx1_19 (iv_k (by decide) : iv 1 1 1) (by decide))
            have tz_23 : z_23.toInt = x1_2.toInt + 1 := by rw [ez_23]; exact iv_addE hsx1_19 (iv_k (by decide) : iv 1 1 1) (by decide)
            refine lv_iinc (v := z_23) (lv' := [(1, .int z_23), (2, .int x2_19), (0, .ref h0)]) hx hb dX13_badStructure_65 hl (k := 1) rfl ez_23.symm (by decide) rfl (fun ls hl => ?_)
            refine lv_goto (tgt := 2) hx hb dX13_badStructure_68 (by decide) ?_
            exact ih2 _ (by rw [← hn2]; exact (iv_meas tz_23 hsx1_19 (by decide))) gm_j19 z_23 rfl (iv_w hz_23 (by decide)) (KS_tr (L := [26]) KS_rf hkg_j19 (by decide)) hI_j19 _ _ _ hP hD hS (lv_sub hl [0, 2] rfl)
          · have h_24 : iv 0 9 x2_19 := iv_ltL (i32_lt c_21) hx2_19 (iv_k (by decide) : iv 10 10 10) (by decide)
            refine lv_aload_n hx hb dX13_badStructure_25 rfl (lv_at hl 2 rfl) ?_
            refine mr_get (v := .ref (ad 26)) hx hb htb inX13 hown hK hP 26 (by decide) (htb _ kw_182) rfl dX13_badStructure_26 ?_
            refine lv_iload_n hx hb dX13_badStructure_29 rfl (lv_at hl 1 rfl) ?_
            refine lv_aload_n hx hb dX13_badStructure_30 rfl (lv_at hl 2 rfl) ?_
            refine mr_get (v := .ref (ad 34)) hx hb htb inX13 hown hK hP 34 (by decide) (htb _ kw_190) rfl dX13_badStructure_31 ?_
            refine lv_iload_n hx hb dX13_badStructure_34 rfl (lv_at hl 1 rfl) ?_
            refine mr_lald hx hb hK hP 27 (k := 34) rfl rfl rfl (show vp_in x1_2 80 from (iv_in hsx1_19 (by decide))) dX13_badStructure_35 ?_
            refine lv_topl (fun z_25 ez_25 => ?_)
            refine lv_aload_n hx hb dX13_badStructure_36 rfl (lv_at hl 2 rfl) ?_
            refine mr_get (v := .ref (ad 0)) hx hb htb inX13 hown hK hP 0 (by decide) (htb _ kw_144) rfl dX13_badStructure_37 ?_
            refine lv_iload_n hx hb dX13_badStructure_40 rfl (lv_at hl 0 rfl) ?_
            refine mr_lald hx hb hK hP 0 (k := 0) rfl rfl rfl (show vp_in x2_19 10 from (iv_in h_24 (by decide))) dX13_badStructure_41 ?_
            refine lv_topl (fun z_26 ez_26 => ?_)
            refine W.lcmp hx hb dX13_badStructure_42 ?_
            refine lv_topi (fun z_27 ez_27 => ?_)
            have hz_27 : iv (-1) 1 z_27 := iv_of ez_27 (iv_cmp _ _)
            refine lv_if_ne (tgt := 52) hx hb dX13_badStructure_43 (by decide) (fun c_28 => ?_) (fun c_28 => ?_)
            · have d_29 : ¬ (z_27 : Int32).toInt = 0 := lv_neT c_28 rfl
              refine lv_aload_n hx hb dX13_badStructure_52 rfl (lv_at hl 2 rfl) ?_
              refine mr_get (v := .ref (ad 26)) hx hb htb inX13 hown hK hP 26 (by decide) (htb _ kw_182) rfl dX13_badStructure_53 ?_
              refine lv_iload_n hx hb dX13_badStructure_56 rfl (lv_at hl 1 rfl) ?_
              refine mr_iald hx hb hK hP 19 (k := 26) rfl rfl rfl (show vp_in x1_2 80 from (iv_in hsx1_19 (by decide))) dX13_badStructure_57 ?_
              refine lv_topi (fun z_30 ez_30 => ?_)
              have hz_30 : iv 0 10 z_30 := iv_of ez_30 (MI_a hI_j19 26 hsx1_19 (by decide))
              exact hj58 gm_j19 z_30 h_24 hsx1_19 hz_30 hsx1_19 (KS_tr (L := [26]) KS_rf hkg_j19 (by decide)) hI_j19 _ _ _ hP hD hS (lv_sub hl [0, 1, 2] rfl)
            · have h_31 : iv 0 0 z_27 := iv_eq c_28 hz_27 (iv_k (by decide) : iv 0 0 0) (by decide)
              refine lv_iconst (v := 1) hx hb dX13_badStructure_46 (by decide) ?_
              refine lv_iload_n hx hb dX13_badStructure_47 rfl (lv_at hl 0 rfl) ?_
              refine lv_iadd hx hb dX13_badStructure_48 ?_
              refine lv_topi (fun z_32 ez_32 => ?_)
              have hz_32 : iv 1 10 z_32 := iv_of ez_32 (iv_add (iv_k (by decide) : iv 1 1 1) h_24 (by decide))
              have tz_32 : z_32.toInt = 1 + (x2_19 : Int32).toInt := by rw [ez_32]; exact iv_addE (iv_k (by decide) : iv 1 1 1) h_24 (by decide)
              refine lv_goto (tgt := 58) hx hb dX13_badStructure_49 (by decide) ?_
              exact hj58 gm_j19 z_32 h_24 hsx1_19 (iv_w hz_32 (by decide)) hsx1_19 (KS_tr (L := [26]) KS_rf hkg_j19 (by decide)) hI_j19 _ _ _ hP hD hS (lv_sub hl [0, 1, 2] rfl)
      refine lv_iload_n hx hb dX13_badStructure_2 rfl (lv_at hl 0 rfl) ?_
      refine lv_aload_n hx hb dX13_badStructure_3 rfl (lv_at hl 1 rfl) ?_
      refine mr_get (v := .int (sg 24)) hx hb htb inX13 hown hK hP 24 (by decide) (htb _ kw_815) rfl dX13_badStructure_4 ?_
      refine lv_icmp_ge (tgt := 71) hx hb dX13_badStructure_7 (by decide) (fun c_33 => ?_) (fun c_33 => ?_)
      · have d_34 : ((sg 24) : Int32).toInt ≤ (x1_2 : Int32).toInt := Int32.le_iff_toInt_le.mp c_33
        refine lv_iconst (v := 0) hx hb dX13_badStructure_71 (by decide) ?_
        refine lv_istore_n (lv' := [(1, .int 0), (0, .ref h0)]) hx hb dX13_badStructure_72 rfl hl (by decide) rfl (fun ls hl => ?_)
        exact hj73 _ gm_j2 0 rfl (iv_w (iv_k (by decide) : iv 0 0 0) (by decide)) (KS_tr (L := [26]) KS_rf hkg_j2 (by decide)) hI_j2 (fun k9 _ h9 => absurd h9 (Nat.not_lt_zero _)) (Or.inl rfl) _ _ _ hP hD hS (lv_sub hl [0, 1] rfl)
      · have d_35 : (x1_2 : Int32).toInt < ((sg 24) : Int32).toInt := Int32.lt_iff_toInt_lt.mp (i32_lt c_33)
        have h_36 : iv 0 79 x1_2 := iv_ltL (i32_lt c_33) hx1_2 (show iv 0 80 (sg 24) from MI_s hI 24) (by decide)
        have h_37 : iv 1 80 (sg 24) := iv_ltR (i32_lt c_33) hx1_2 (show iv 0 80 (sg 24) from MI_s hI 24) (by decide)
        refine lv_aload_n hx hb dX13_badStructure_10 rfl (lv_at hl 1 rfl) ?_
        refine mr_get (v := .ref (ad 26)) hx hb htb inX13 hown hK hP 26 (by decide) (htb _ kw_182) rfl dX13_badStructure_11 ?_
        refine lv_iload_n hx hb dX13_badStructure_14 rfl (lv_at hl 0 rfl) ?_
        refine lv_iconst (v := 0) hx hb dX13_badStructure_15 (by decide) ?_
        refine ma_iast (x := 0) hx hb hK hP hD hS 19 (k := 26) rfl rfl rfl (show vp_in x1_2 80 from (iv_in h_36 (by decide))) dX13_badStructure_16 (fun gm_38 H locs egm_38 hP hD hS => ?_)
        have hI_gm_38 := MI_st hI_j2 egm_38 (iv_k (by decide) : iv 0 0 0) (by decide)
        refine lv_iconst (v := 0) hx hb dX13_badStructure_17 (by decide) ?_
        refine lv_istore_n (lv' := [(2, .int 0), (1, .int x1_2), (0, .ref h0)]) hx hb dX13_badStructure_18 rfl hl (by decide) rfl (fun ls hl => ?_)
        exact hj19 _ gm_38 0 rfl (iv_w (iv_k (by decide) : iv 0 0 0) (by decide)) h_36 (KS_up (KS_tr (L := [26]) KS_rf hkg_j2 (by decide)) egm_38 (by decide)) hI_gm_38 _ _ _ hP hD hS (lv_sub hl [0, 1, 2] rfl)
  refine lv_iconst (v := 0) hx hb dX13_badStructure_0 (by decide) ?_
  refine lv_istore_n (lv' := [(1, .int 0), (0, .ref h0)]) hx hb dX13_badStructure_1 rfl hl (by decide) rfl (fun ls hl => ?_)
  exact hj2 _ gm 0 rfl (iv_w (iv_k (by decide) : iv 0 0 0) (by decide)) KS_rf hI _ _ _ hP hD hS (lv_sub hl [0, 1] rfl)
