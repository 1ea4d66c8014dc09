/-- the beans' elements below e, in their order -/
def bsN (D : List El7) : Nat → List Nat
  | 0 => []
  | e + 1 => if dKd D e = 3 then bsN D e ++ [e] else bsN D e
theorem bsN_t {D : List El7} {e : Nat} (h : dKd D e = 3) : bsN D (e + 1) = bsN D e ++ [e] := if_pos h
theorem bsN_f {D : List El7} {e : Nat} (h : ¬ dKd D e = 3) : bsN D (e + 1) = bsN D e := if_neg h
def nbD (D : List El7) : Nat := (bsN D D.length).length
def elD (D : List El7) (b : Nat) : Nat := ((bsN D D.length)[b]?).getD 0
theorem bsN_m {D : List El7} : ∀ e y, y ∈ bsN D e ↔ y < e ∧ dKd D y = 3 := by
  intro e
  induction e with
  | zero => intro y; exact ⟨fun h => (by cases h), fun h => absurd h.1 (Nat.not_lt_zero y)⟩
  | succ e ih =>
    intro y
    by_cases h : dKd D e = 3
    · rw [bsN_t h, List.mem_append, ih y, List.mem_singleton]
      constructor
      · rintro (w | rfl)
        · exact ⟨by omega, w.2⟩
        · exact ⟨by omega, h⟩
      · intro w
        by_cases he : y = e
        · exact Or.inr he
        · exact Or.inl ⟨by omega, w.2⟩
    · rw [bsN_f h, ih y]
      constructor
      · intro w; exact ⟨by omega, w.2⟩
      · intro w
        by_cases he : y = e
        · rw [he] at w; exact absurd w.2 h
        · exact ⟨by omega, w.2⟩
theorem bsN_l {D : List El7} : ∀ e, (bsN D e).length ≤ e := by
  intro e
  induction e with
  | zero => exact Nat.le_refl 0
  | succ e ih =>
    by_cases h : dKd D e = 3
    · rw [bsN_t h, List.length_append]; show _ + 1 ≤ _; omega
    · rw [bsN_f h]; omega
theorem bsN_p {D : List El7} {y : Nat} : ∀ e, y ≤ e → ∃ r, bsN D e = bsN D y ++ r := by
  intro e
  induction e with
  | zero => intro h; rw [Nat.le_zero.mp h]; exact ⟨[], (List.append_nil _).symm⟩
  | succ e ih =>
    intro h
    by_cases he : y = e + 1
    · rw [he]; exact ⟨[], (List.append_nil _).symm⟩
    · obtain ⟨r, hr⟩ := ih (by omega)
      by_cases hk : dKd D e = 3
      · rw [bsN_t hk, hr]; exact ⟨r ++ [e], List.append_assoc _ _ _⟩
      · rw [bsN_f hk]; exact ⟨r, hr⟩
theorem bsN_i {D : List El7} {y e : Nat} (h : y < e) (hk : dKd D y = 3) : (bsN D e)[(bsN D y).length]? = some y := by
  obtain ⟨r, hr⟩ := bsN_p (D := D) (y := y + 1) e h
  rw [hr, bsN_t hk, List.append_assoc, List.getElem?_append_right (Nat.le_refl _), Nat.sub_self]
  rfl
theorem elD_i {D : List El7} {y : Nat} (h : y < D.length) (hk : dKd D y = 3) : elD D (bsN D y).length = y ∧ (bsN D y).length < nbD D := by
  have q := bsN_i h hk
  refine ⟨by unfold elD; rw [q]; rfl, ?_⟩
  unfold nbD
  rcases Nat.lt_or_ge (bsN D y).length (bsN D D.length).length with w | w
  · exact w
  · rw [List.getElem?_eq_none w] at q; cases q
theorem elD_k {D : List El7} {b : Nat} (h : b < nbD D) : elD D b < D.length ∧ dKd D (elD D b) = 3 := by
  unfold nbD at h
  have q : elD D b = (bsN D D.length)[b] := by unfold elD; rw [List.getElem?_eq_getElem h]; rfl
  rw [q]
  exact (bsN_m _ _).mp (List.getElem_mem h)
/-- the numbers of beans go up with their elements -/
theorem bsN_r {D : List El7} : ∀ e b y, (bsN D e)[b]? = some y → (bsN D y).length = b := by
  intro e
  induction e with
  | zero => intro b y h; cases h
  | succ e ih =>
    intro b y h
    by_cases hk : dKd D e = 3
    · rw [bsN_t hk] at h
      rcases Nat.lt_or_ge b (bsN D e).length with w | w
      · rw [List.getElem?_append_left w] at h; exact ih b y h
      · rw [List.getElem?_append_right w] at h
        have hb : b - (bsN D e).length = 0 := by
          rcases Nat.eq_zero_or_pos (b - (bsN D e).length) with z | z
          · exact z
          · rw [List.getElem?_eq_none (by show 1 ≤ _; omega)] at h; cases h
        rw [hb] at h
        have h : some e = some y := h
        cases h
        omega
    · rw [bsN_f hk] at h; exact ih b y h
theorem elD_r {D : List El7} {b : Nat} (h : b < nbD D) : (bsN D (elD D b)).length = b := by
  unfold nbD at h
  refine bsN_r D.length b _ ?_
  rw [List.getElem?_eq_getElem h]
  unfold elD
  rw [List.getElem?_eq_getElem h]
  rfl
def qR (D : List El7) (w : Int64) (b : Nat) : Bool := decide (dAb D (elD D b) = 0) && decide (aW (dAt D (elD D b)) 26980 = w)
def widR (D : List El7) (w : Int64) : Int32 := fstB (qR D w) (nbD D) 0
def parR (D : List El7) (b : Int32) : Int32 := if aH (dAt D (elD D b.toNatClampNeg)) 123563833388660 = 0 then -1 else widR D (aW (dAt D (elD D b.toNatClampNeg)) 123563833388660)
def qC (D : List El7) (w : Int64) (b : Nat) : Bool := decide (nv7 (dAt D (elD D b)) 26980 = w)
def widC (D : List El7) (w : Int64) : Int32 := if w = 0 then -1 else fstB (qC D w) (nbD D) 0
def parC (D : List El7) (b : Int32) : Int32 := widC D (nv7 (dAt D (elD D b.toNatClampNeg)) 123563833388660)
def nmD (D : List El7) (e : Nat) : Int64 := if dKd D e = 2 then nv7 (dAt D e) 29807 else if dKd D e = 3 then nv7 (dAt D e) 26980 else 0
def wdD (D : List El7) (e : Nat) : Int64 := if dKd D e = 3 then aW (dAt D e) 26980 else aW (dAt D e) 29807
def USD (D : List El7) (e : Nat) (w : Int64) : Prop := ∃ k, k < e ∧ dAb D k = 0 ∧ ((dKd D k = 3 ∧ aW (dAt D k) 26980 = w) ∨ (dKd D k = 2 ∧ aW (dAt D k) 29807 = w))
def BR1 (D : List El7) (e : Nat) : Prop := ¬ (dAb D e = 0 ∧ USD D e (wdD D e)) ∧ (dKd D e = 3 → aH (dAt D e) 123563833388660 = 1 → ¬ parR D (nI (bsN D e).length) = -1 ∧ NR (parR D) (nI (bsN D e).length))
def BBR (D : List El7) : Prop := ∀ e, 1 ≤ e → e < D.length → BR1 D e
def BC1 (D : List El7) (e : Nat) : Prop := (¬ nmD D e = 0 → ∀ k, k < e → ¬ nmD D k = nmD D e) ∧ (dKd D e = 3 → ¬ nv7 (dAt D e) 123563833388660 = 0 → ¬ parC D (nI (bsN D e).length) = -1 ∧ NR (parC D) (parC D (nI (bsN D e).length)))
def BBC (D : List El7) : Prop := ∀ e, e < D.length → BC1 D e
/-- what good elements are, as far as wiring asks -/
def GW7 (D : List El7) (e : Nat) : Prop := (dKd D e = 2 ∧ dAb D e = 0 ∧ 1 ≤ e ∧ aI (dAt D e) 29807 = 1) ∨ (dKd D e = 3 ∧ 1 ≤ e ∧ ((dAb D e = 0 ∧ aI (dAt D e) 26980 = 1) ∨ (¬ dAb D e = 0 ∧ aH (dAt D e) 26980 = 0)) ∧ (aH (dAt D e) 123563833388660 = 0 ∨ aI (dAt D e) 123563833388660 = 1)) ∨ (¬ dKd D e = 2 ∧ ¬ dKd D e = 3 ∧ ¬ dAb D e = 0)
theorem nv_H {q : At7} {k : Int64} (h : aH q k = 0) : nv7 q k = 0 ∧ ¬ aI q k = 1 := by
  have : ¬ aI q k = 1 := by
    intro w
    rcases gA_h (q := q) (k := k) with ⟨g1, _⟩ | ⟨v, _, g2⟩
    · rw [aI_n g1] at w; exact absurd w (by decide)
    · rw [g2] at h; exact absurd h (by decide)
  exact ⟨by unfold nv7; rw [if_neg this], this⟩
theorem nv_I {q : At7} {k : Int64} (h : aI q k = 1) : nv7 q k = aW q k := by unfold nv7; rw [if_pos h]
theorem nm_w {D : List El7} (hP : PD7 D) {e : Nat} (h : GW7 D e) : (nmD D e = 0 ∧ ¬ dAb D e = 0) ∨ (¬ nmD D e = 0 ∧ dAb D e = 0 ∧ nmD D e = wdD D e ∧ (dKd D e = 2 ∨ dKd D e = 3)) := by
  have hq := dAt_pv (x := e) hP
  unfold nmD wdD
  rcases h with ⟨a, b, _, c⟩ | ⟨a, _, b, _⟩ | ⟨a, b, c⟩
  · rw [if_pos a, if_neg (by omega)]
    exact Or.inr ⟨(nv7_z hq).mpr c, b, nv_I c, Or.inl a⟩
  · rw [if_neg (by omega), if_pos a, if_pos a]
    rcases b with ⟨b, c⟩ | ⟨b, c⟩
    · exact Or.inr ⟨(nv7_z hq).mpr c, b, nv_I c, Or.inr a⟩
    · exact Or.inl ⟨(nv_H c).1, b⟩
  · rw [if_neg a, if_neg b]; exact Or.inl ⟨rfl, c⟩
theorem NM_e {D : List El7} (hP : PD7 D) (hg : ∀ e, e < D.length → GW7 D e) {e : Nat} (he : e < D.length) : (¬ (dAb D e = 0 ∧ USD D e (wdD D e))) ↔ (¬ nmD D e = 0 → ∀ k, k < e → ¬ nmD D k = nmD D e) := by
  have hw : ∀ k, k < e → nmD D k = wdD D e → ¬ nmD D e = 0 → nmD D e = wdD D e → USD D e (wdD D e) := by
    intro k hk q q2 q3
    rcases nm_w hP (hg k (by omega)) with v | ⟨v1, v2, v3, v4⟩
    · rw [v.1] at q; rw [q3, ← q] at q2; exact absurd rfl q2
    · refine ⟨k, hk, v2, ?_⟩
      unfold wdD at v3
      rcases v4 with v4 | v4
      · rw [if_neg (by omega)] at v3; exact Or.inr ⟨v4, by rw [← v3]; exact q⟩
      · rw [if_pos v4] at v3; exact Or.inl ⟨v4, by rw [← v3]; exact q⟩
  rcases nm_w hP (hg e he) with v | ⟨v1, v2, v3, v4⟩
  · exact ⟨fun _ w => absurd v.1 w, fun _ w => v.2 w.1⟩
  · constructor
    · intro h _ k hk q
      exact h ⟨v2, hw k hk (q.trans v3) v1 v3⟩
    · rintro h ⟨_, k, hk, q1, q2⟩
      refine h v1 k hk ?_
      rcases nm_w hP (hg k (by omega)) with u | ⟨u1, u2, u3, u4⟩
      · exact absurd q1 u.2
      · rw [u3, v3]
        unfold wdD at u3
        rcases q2 with ⟨q2, q3⟩ | ⟨q2, q3⟩
        · show (if dKd D k = 3 then _ else _) = _; rw [if_pos q2, q3]
        · show (if dKd D k = 3 then _ else _) = _; rw [if_neg (by omega), q3]
theorem fst_c {q r : Nat → Bool} : ∀ n j, (∀ k, j ≤ k → k < j + n → q k = r k) → fstB q n j = fstB r n j := by
  intro n
  induction n with
  | zero => intro j _; rfl
  | succ n ih =>
    intro j h
    show (if _ then _ else _) = (if _ then _ else _)
    rw [h j (by omega) (by omega), ih (j + 1) (fun k h1 h2 => h k (by omega) (by omega))]
theorem qRC {D : List El7} (hP : PD7 D) (hg : ∀ e, e < D.length → GW7 D e) {w : Int64} (hw : ¬ w = 0) {b : Nat} (hb : b < nbD D) : qR D w b = qC D w b := by
  obtain ⟨k1, k2⟩ := elD_k hb
  have hG := hg _ k1
  unfold qR qC
  have h3 : (dAb D (elD D b) = 0 ∧ aI (dAt D (elD D b)) 26980 = 1) ∨ (¬ dAb D (elD D b) = 0 ∧ aH (dAt D (elD D b)) 26980 = 0) := by
    rcases hG with v | v | v
    · have := v.1; omega
    · exact v.2.2.1
    · exact absurd k2 v.2.1
  rcases h3 with ⟨a, c⟩ | ⟨a, c⟩
  · rw [decide_eq_true a, nv_I c, Bool.true_and]
  · rw [decide_eq_false a, (nv_H c).1, Bool.false_and, decide_eq_false (fun q => hw q.symm)]
theorem parRC {D : List El7} (hP : PD7 D) (hg : ∀ e, e < D.length → GW7 D e) {b : Int32} (hb : b.toNatClampNeg < nbD D) : parR D b = parC D b := by
  obtain ⟨k1, k2⟩ := elD_k hb
  have hq := dAt_pv (x := elD D b.toNatClampNeg) hP
  unfold parR parC
  have h3 : aH (dAt D (elD D b.toNatClampNeg)) 123563833388660 = 0 ∨ aI (dAt D (elD D b.toNatClampNeg)) 123563833388660 = 1 := by
    rcases hg _ k1 with v | v | v
    · have := v.1; omega
    · exact v.2.2.2
    · exact absurd k2 v.2.1
  by_cases h0 : aH (dAt D (elD D b.toNatClampNeg)) 123563833388660 = 0
  · rw [if_pos h0, (nv_H h0).1]; unfold widC; rw [if_pos rfl]
  · rw [if_neg h0]
    have hI := h3.resolve_left h0
    have hz := (nv7_z hq).mpr hI
    rw [nv_I hI] at hz ⊢
    unfold widR widC
    rw [if_neg hz]
    exact fst_c _ _ (fun k _ hk => qRC hP hg hz (by omega))
theorem par_r {D : List El7} (h80 : D.length ≤ 80) (b : Int32) : parC D b = -1 ∨ (0 ≤ (parC D b).toInt ∧ (parC D b).toNatClampNeg < nbD D) := by
  unfold parC widC
  split
  · exact Or.inl rfl
  · rcases fst_or (qC D (nv7 (dAt D (elD D b.toNatClampNeg)) 123563833388660)) (nbD D) 0 with v | ⟨i, v1, v2, _⟩
    · exact Or.inl v.1
    · rw [v2, Nat.zero_add]
      have := bsN_l (D := D) D.length
      have h9 : nbD D ≤ 80 := by unfold nbD; omega
      have h4 : (nI i).toInt = i := nI_toInt (by omega)
      exact Or.inr ⟨by omega, by show (nI i).toInt.toNat < _; omega⟩
theorem itF_c {f g : Int32 → Int32} {P : Int32 → Prop} (h : ∀ b, P b → g b = f b) (hp : ∀ b, P b → f b = -1 ∨ P (f b)) : ∀ n b, P b → itF g n b = itF f n b := by
  intro n
  induction n with
  | zero => intro b _; rfl
  | succ n ih =>
    intro b hb
    show (if _ then _ else _) = (if _ then _ else _)
    by_cases h1 : b = -1
    · rw [if_pos h1, if_pos h1]
    · rw [if_neg h1, if_neg h1, h b hb]
      rcases hp b hb with q | q
      · rw [q, itF_m1, itF_m1]
      · exact ih _ q
theorem BB_e {D : List El7} (hP : PD7 D) (h80 : D.length ≤ 80) (hg : ∀ e, e < D.length → GW7 D e) : BBR D ↔ BBC D := by
  have hB : ∀ b : Int32, 0 ≤ b.toInt ∧ b.toNatClampNeg < nbD D → parR D b = parC D b := fun b hb => parRC hP hg hb.2
  have hIt : ∀ n (b : Int32), 0 ≤ b.toInt ∧ b.toNatClampNeg < nbD D → itF (parR D) n b = itF (parC D) n b := itF_c hB (fun b _ => (par_r h80 b))
  have hnb : ∀ {e}, e < D.length → dKd D e = 3 → 0 ≤ (nI (bsN D e).length).toInt ∧ (nI (bsN D e).length).toNatClampNeg < nbD D ∧ (nI (bsN D e).length).toNatClampNeg = (bsN D e).length := by
    intro e he hk
    have q1 := (elD_i he hk).2
    have q2 := bsN_l (D := D) e
    have h4 : (nI (bsN D e).length).toInt = (bsN D e).length := nI_toInt (by omega)
    have h5 : (nI (bsN D e).length).toNatClampNeg = (bsN D e).length := by show (nI (bsN D e).length).toInt.toNat = _; omega
    exact ⟨by omega, by omega, h5⟩
  have hm1 : ∀ b : Int32, 0 ≤ b.toInt → ¬ b = -1 := fun b hb q => by rw [q] at hb; exact absurd hb (by decide)
  have hPa : ∀ {e}, e < D.length → dKd D e = 3 → (aH (dAt D e) 123563833388660 = 1 ↔ ¬ nv7 (dAt D e) 123563833388660 = 0) := by
    intro e he hk
    rw [nv7_z (dAt_pv hP)]
    have h3 : aH (dAt D e) 123563833388660 = 0 ∨ aI (dAt D e) 123563833388660 = 1 := by
      rcases hg _ he with v | v | v
      · have := v.1; omega
      · exact v.2.2.2
      · exact absurd hk v.2.1
    constructor
    · intro w; exact h3.resolve_left (by omega)
    · intro w; exact (aI_1 (dAt_pv hP) w).2
  constructor
  · intro h e he
    refine ⟨?_, ?_⟩
    · by_cases h0 : 1 ≤ e
      · exact (NM_e hP hg he).mp (h e h0 he).1
      · intro _ k hk; omega
    · intro hk hn
      have h1e : 1 ≤ e := by
        rcases hg e he with v | v | v
        · exact v.2.2.1
        · exact v.2.1
        · exact absurd hk v.2.1
      obtain ⟨n1, n2, n3⟩ := hnb he hk
      obtain ⟨a1, a2⟩ := (h e h1e he).2 hk ((hPa he hk).mpr hn)
      rw [hB _ ⟨n1, n2⟩] at a1
      refine ⟨a1, ?_⟩
      rcases par_r h80 (nI (bsN D e).length) with q | ⟨q1, q2⟩
      · exact absurd q a1
      · -- the parent is a bean of its own
        intro k k1 k2 hk3
        obtain ⟨r1, r2⟩ := elD_k q2
        have r3 := elD_r q2
        have hr1 : 1 ≤ elD D (parC D (nI (bsN D e).length)).toNatClampNeg := by
          rcases hg _ r1 with v | v | v
          · exact v.2.2.1
          · exact v.2.1
          · exact absurd r2 v.2.1
        have r4 : nI (bsN D (elD D (parC D (nI (bsN D e).length)).toNatClampNeg)).length = parC D (nI (bsN D e).length) := by
          rw [r3]
          refine Int32.toInt_inj.mp ?_
          have := bsN_l (D := D) D.length
          have h9 : nbD D ≤ 80 := by unfold nbD; omega
          rw [nI_toInt (by omega)]
          show (((parC D (nI (bsN D e).length)).toInt.toNat : Nat) : Int) = _
          omega
        by_cases hz : aH (dAt D (elD D (parC D (nI (bsN D e).length)).toNatClampNeg)) 123563833388660 = 1
        · have := ((h _ hr1 r1).2 r2 hz).2
          rw [r4] at this
          exact this k k1 k2 (by rw [hIt k _ ⟨q1, q2⟩]; exact hk3)
        · have hz0 := aH_01.resolve_right hz
          have hpp : parR D (parC D (nI (bsN D e).length)) = -1 := by unfold parR; rw [if_pos hz0]
          rw [hB _ ⟨q1, q2⟩] at hpp
          obtain ⟨k', rfl⟩ : ∃ k', k = k' + 1 := ⟨k - 1, by omega⟩
          have h5 : itF (parC D) (k' + 1) (parC D (nI (bsN D e).length)) = -1 := by
            show (if _ then _ else _) = _
            rw [if_neg a1, hpp, itF_m1]
          rw [h5] at hk3
          exact a1 hk3.symm
  · intro h e h1e he
    refine ⟨(NM_e hP hg he).mpr (h e he).1, fun hk hn => ?_⟩
    obtain ⟨n1, n2, n3⟩ := hnb he hk
    obtain ⟨a1, a2⟩ := (h e he).2 hk ((hPa he hk).mp hn)
    rw [hB _ ⟨n1, n2⟩]
    refine ⟨a1, fun k k1 k2 hk3 => ?_⟩
    rw [hIt k _ ⟨n1, n2⟩] at hk3
    refine a2 k k1 k2 ?_
    have h6 : itF (parC D) (1 + k) (nI (bsN D e).length) = parC D (nI (bsN D e).length) := by
      rw [Nat.add_comm, itF_add, hk3, itF_1 (hm1 _ n1)]
    rw [itF_add, itF_1 (hm1 _ n1)] at h6
    exact h6
def TR7 (D : List El7) : Prop := ∀ x, x < D.length → dAb D x < (x : Int) ∧ -1 ≤ dAb D x ∧ (x = 0 ∨ 0 ≤ dAb D x)
theorem kd_0 {D : List El7} (hT : TR7 D) (h0 : 0 < D.length) (g : GOODC D 0) : dKd D 0 = 1 := by
  have h1 := hT 0 h0
  have h2 : dAb D 0 = -1 := by omega
  have h3 : dIn D 0 = 0 := by unfold dIn; rw [if_pos h2]
  have g1 := g.1
  unfold STN at g1
  rw [h3] at g1
  rcases g1 with v | v | v | v | v | v | v | v
  · exact v.1
  · have := v.2; omega
  · have := v.2; omega
  · have := v.2.1; omega
  · have := v.2.1; omega
  · have := v.2.1; omega
  · have := v.2; omega
  · have := v.2; omega
theorem dIn_n {D : List El7} {e : Nat} (h : ¬ dIn D e = 0) : ¬ dAb D e = -1 ∧ dIn D e = dKd D (dAb D e).toNat := by
  unfold dIn at h ⊢
  by_cases h1 : dAb D e = -1
  · rw [if_pos h1] at h; exact absurd rfl h
  · rw [if_neg h1]; exact ⟨h1, rfl⟩
theorem in_1 {D : List El7} (hT : TR7 D) (hg : ∀ x, x < D.length → GOODC D x) {e : Nat} (he : e < D.length) (h : dIn D e = 1) : dAb D e = 0 ∧ 1 ≤ e := by
  obtain ⟨a, b⟩ := dIn_n (D := D) (e := e) (by omega)
  obtain ⟨t1, t2, t3⟩ := hT e he
  have hl : (dAb D e).toNat < D.length := by omega
  have c := STN_1 (D := D) (x := (dAb D e).toNat) (by omega) (hg _ hl).1
  have t4 := hT _ hl
  have h5 : (dAb D e).toNat = 0 := by omega
  omega
theorem GW_e {D : List El7} (hP : PD7 D) (hT : TR7 D) (hg : ∀ x, x < D.length → GOODC D x) : ∀ e, e < D.length → GW7 D e := by
  intro e he
  have hq := dAt_pv (x := e) hP
  have h0 := kd_0 hT (by omega) (hg 0 (by omega))
  obtain ⟨t1, t2, t3⟩ := hT e he
  have hin0 : dAb D e = 0 → dIn D e = 1 := by
    intro w
    unfold dIn
    rw [if_neg (by omega), w]
    exact h0
  obtain ⟨g1, g2, g3, g4, g5⟩ := hg e he
  obtain ⟨m, r⟩ := ATN_e.mp g2
  by_cases k2 : dKd D e = 2
  · have i1 := STN_2 k2 g1
    obtain ⟨a1, a2⟩ := in_1 hT hg he i1
    have n1 := g3.1.resolve_left (fun v => v k2)
    exact Or.inl ⟨k2, a1, a2, (rv_TO hq).mp ((r 29807).resolve_left (by rw [n1.2]; decide))⟩
  · by_cases k3 : dKd D e = 3
    · have i1 := STN_3 k3 g1
      have n1 := g3.2.1.resolve_left (fun v => v k3)
      refine Or.inr (Or.inl ⟨k3, ?_, ?_, (r 123563833388660).imp id (rv_PARENT hq).mp⟩)
      · have := (dIn_n (D := D) (e := e) (by omega)).1; omega
      · by_cases i2 : dIn D e = 1
        · refine Or.inl ⟨(in_1 hT hg he i2).1, ?_⟩
          have n2 := n1.1.resolve_left (fun v => v i2)
          exact (rv_ID hq).mp ((r 26980).resolve_left (by rw [n2]; decide))
        · rw [k3] at m
          exact Or.inr ⟨fun w => i2 (hin0 w), may0 (k := 26980) m (by decide) i2⟩
    · refine Or.inr (Or.inr ⟨k2, k3, fun w => ?_⟩)
      have i1 := hin0 w
      unfold STN at g1
      rw [i1] at g1
      rcases g1 with v | v | v | v | v | v | v | v
      · have := v.2; omega
      · exact k2 v.1
      · exact k3 v.1
      · have := v.2.1; omega
      · have := v.2.1; omega
      · have := v.2.1; omega
      · have := v.2; omega
      · have := v.2; omega
/-- what the reference lets through, and what the class does -/
def ACR (D : List El7) : Prop := (∀ x, x < D.length → GOODR D x) ∧ (D.length = 0 ∨ dKd D 0 = 1) ∧ BBR D
def ACC (D : List El7) : Prop := (∀ x, x < D.length → GOODC D x) ∧ BBC D
theorem AC_e {D : List El7} (hP : PD7 D) (hT : TR7 D) (h80 : D.length ≤ 80) : ACR D ↔ ACC D := by
  have hG := GOODS_e hP (fun x hx => ⟨(hT x hx).1, (hT x hx).2.1⟩)
  constructor
  · rintro ⟨a, _, c⟩
    have a := hG.mp a
    exact ⟨a, (BB_e hP h80 (GW_e hP hT a)).mp c⟩
  · rintro ⟨a, c⟩
    refine ⟨hG.mpr a, ?_, (BB_e hP h80 (GW_e hP hT a)).mpr c⟩
    rcases Nat.eq_zero_or_pos D.length with q | q
    · exact Or.inl q
    · exact Or.inr (kd_0 hT q (a 0 q))
