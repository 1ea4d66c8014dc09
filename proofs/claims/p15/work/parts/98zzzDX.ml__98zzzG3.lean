section
section ML9
variable {w : Int32 → Int} {lt : Int32 → Int32} {W : Nat → Int64} {P : Int32 → Prop} {D : List El7} {rs : Nat → Int32} {wg rg : Nat → Nat → Int32} {lg wl : Nat → Nat → Int64}
/-- overlaying, kind by kind -/
abbrev f3 (w : Int32 → Int) (l : List Int32) : List Int32 := l.filter (fun x => decide (w x = 3))
abbrev f4 (w : Int32 → Int) (l : List Int32) : List Int32 := l.filter (fun x => decide (w x = 4))
abbrev f5 (w : Int32 → Int) (l : List Int32) : List Int32 := l.filter (fun x => decide (¬ w x = 3 ∧ ¬ w x = 4))
theorem ov_s : ∀ (l : List Int32) (h : Bool) (A S L : List Int32), ovI w lt h A S L l = ((if f3 w l = [] then A else (if h = true then A else []) ++ f3 w l), (f4 w l).foldl (pnL lt) S, (f5 w l).foldl (pnL lt) L)
  | [], h, A, S, L => rfl
  | x :: r, h, A, S, L => by
    show (if w x = 3 then ovI w lt true ((if h = true then A else []) ++ [x]) S L r else if w x = 4 then ovI w lt h A (pnL lt S x) L r else ovI w lt h A S (pnL lt L x) r) = _
    by_cases h3 : w x = 3
    · have a3 : f3 w (x :: r) = x :: f3 w r := List.filter_cons_of_pos (decide_eq_true h3)
      have a4 : f4 w (x :: r) = f4 w r := List.filter_cons_of_neg (by rw [decide_eq_false (by omega)]; decide)
      have a5 : f5 w (x :: r) = f5 w r := List.filter_cons_of_neg (by rw [decide_eq_false (fun q => q.1 h3)]; decide)
      rw [if_pos h3, ov_s r, a3, a4, a5, if_neg (List.cons_ne_nil _ _), if_pos rfl]
      by_cases z : f3 w r = []
      · rw [if_pos z, z]
      · rw [if_neg z, List.append_assoc]; rfl
    · by_cases h4 : w x = 4
      · have a3 : f3 w (x :: r) = f3 w r := List.filter_cons_of_neg (by rw [decide_eq_false h3]; decide)
        have a4 : f4 w (x :: r) = x :: f4 w r := List.filter_cons_of_pos (decide_eq_true h4)
        have a5 : f5 w (x :: r) = f5 w r := List.filter_cons_of_neg (by rw [decide_eq_false (fun q => q.2 h4)]; decide)
        rw [if_neg h3, if_pos h4, ov_s r, a3, a4, a5]; rfl
      · have a3 : f3 w (x :: r) = f3 w r := List.filter_cons_of_neg (by rw [decide_eq_false h3]; decide)
        have a4 : f4 w (x :: r) = f4 w r := List.filter_cons_of_neg (by rw [decide_eq_false h4]; decide)
        have a5 : f5 w (x :: r) = x :: f5 w r := List.filter_cons_of_pos (decide_eq_true ⟨h3, h4⟩)
        rw [if_neg h3, if_neg h4, ov_s r, a3, a4, a5]; rfl
theorem pn_e (hP : ∀ x y, P x → P y → (lt x = lt y ↔ W x.toNatClampNeg = W y.toNatClampNeg)) {n : Int32} (hn : P n) : ∀ L : List Int32, (∀ x, x ∈ L → P x) → pnL lt L n = pnW W L n ∧ ∀ x, x ∈ pnW W L n → P x
  | [], _ => ⟨rfl, fun x h => by rw [List.mem_singleton.mp h]; exact hn⟩
  | y :: r, h => by
    have hy := h y (List.mem_cons_self ..)
    obtain ⟨i1, i2⟩ := pn_e hP hn r (fun x hx => h x (List.mem_cons_of_mem _ hx))
    have e1 : pnL lt (y :: r) n = if lt y = lt n then n :: r else y :: pnL lt r n := rfl
    have e2 : pnW W (y :: r) n = if W y.toNatClampNeg = W n.toNatClampNeg then n :: r else y :: pnW W r n := rfl
    rw [e1, e2]
    by_cases c : lt y = lt n
    · rw [if_pos c, if_pos ((hP _ _ hy hn).mp c)]
      refine ⟨rfl, fun x hx => ?_⟩
      rcases List.mem_cons.mp hx with q | q
      · rw [q]; exact hn
      · exact h x (List.mem_cons_of_mem _ q)
    · rw [if_neg c, if_neg (fun q => c ((hP _ _ hy hn).mpr q)), i1]
      refine ⟨rfl, fun x hx => ?_⟩
      rcases List.mem_cons.mp hx with q | q
      · rw [q]; exact hy
      · exact i2 x q
theorem fo_e (hP : ∀ x y, P x → P y → (lt x = lt y ↔ W x.toNatClampNeg = W y.toNatClampNeg)) : ∀ (K L : List Int32), (∀ x, x ∈ K → P x) → (∀ x, x ∈ L → P x) → K.foldl (pnL lt) L = K.foldl (pnW W) L ∧ ∀ x, x ∈ K.foldl (pnW W) L → P x
  | [], L, _, hL => ⟨rfl, hL⟩
  | k :: K, L, hK, hL => by
    obtain ⟨i1, i2⟩ := pn_e hP (hK k (List.mem_cons_self ..)) L hL
    show K.foldl (pnL lt) (pnL lt L k) = K.foldl (pnW W) (pnW W L k) ∧ ∀ x, x ∈ K.foldl (pnW W) (pnW W L k) → P x
    rw [i1]
    exact fo_e hP K _ (fun x hx => hK x (List.mem_cons_of_mem _ hx)) i2
/-- letters are told apart by both -/
theorem pnW_u (W : Nat → Int64) (n : Int32) : ∀ L : List Int32, (∀ (i j : Nat) (x y : Int32), i < j → L[i]? = some x → L[j]? = some y → ¬ W x.toNatClampNeg = W y.toNatClampNeg) → ∀ (i j : Nat) (x y : Int32), i < j → (pnW W L n)[i]? = some x → (pnW W L n)[j]? = some y → ¬ W x.toNatClampNeg = W y.toNatClampNeg := by
  have hm : ∀ (L : List Int32) (x : Int32), x ∈ pnW W L n → x = n ∨ x ∈ L := by
    intro L
    induction L with
    | nil => intro x h; exact Or.inl (List.mem_singleton.mp h)
    | cons y r ih =>
      intro x h
      have h : x ∈ (if W y.toNatClampNeg = W n.toNatClampNeg then n :: r else y :: pnW W r n) := h
      by_cases c : W y.toNatClampNeg = W n.toNatClampNeg
      · rw [if_pos c] at h
        rcases List.mem_cons.mp h with q | q
        · exact Or.inl q
        · exact Or.inr (List.mem_cons_of_mem _ q)
      · rw [if_neg c] at h
        rcases List.mem_cons.mp h with q | q
        · exact Or.inr (by rw [q]; exact List.mem_cons_self ..)
        · exact (ih x q).imp id (List.mem_cons_of_mem _)
  intro L
  induction L with
  | nil =>
    intro _ i j x y hij h1 h2
    have : j < 1 := (List.getElem?_eq_some_iff.mp h2).1
    omega
  | cons z r ih =>
    intro h i j x y hij h1 h2
    have e2 : pnW W (z :: r) n = if W z.toNatClampNeg = W n.toNatClampNeg then n :: r else z :: pnW W r n := rfl
    rw [e2] at h1 h2
    have hr : ∀ (i j : Nat) (x y : Int32), i < j → r[i]? = some x → r[j]? = some y → ¬ W x.toNatClampNeg = W y.toNatClampNeg := fun i j x y hij a b => h (i + 1) (j + 1) x y (by omega) a b
    by_cases c : W z.toNatClampNeg = W n.toNatClampNeg
    · rw [if_pos c] at h1 h2
      cases j with
      | zero => omega
      | succ j =>
        cases i with
        | zero =>
          have h1 : some n = some x := h1
          rw [← Option.some.inj h1, ← c]
          exact h 0 (j + 1) z y (by omega) rfl h2
        | succ i => exact hr i j x y (by omega) h1 h2
    · rw [if_neg c] at h1 h2
      cases j with
      | zero => omega
      | succ j =>
        cases i with
        | zero =>
          have h1 : some z = some x := h1
          have h2 : (pnW W r n)[j]? = some y := h2
          rw [← Option.some.inj h1]
          rcases hm r y (List.mem_of_getElem? h2) with q | q
          · rw [q]; exact c
          · obtain ⟨k, hk⟩ := List.mem_iff_getElem?.mp q
            exact h 0 (k + 1) z y (by omega) rfl hk
        | succ i => exact ih hr i j x y (by omega) h1 h2
theorem fo_u (W : Nat → Int64) : ∀ (K L : List Int32), (∀ (i j : Nat) (x y : Int32), i < j → L[i]? = some x → L[j]? = some y → ¬ W x.toNatClampNeg = W y.toNatClampNeg) → ∀ (i j : Nat) (x y : Int32), i < j → (K.foldl (pnW W) L)[i]? = some x → (K.foldl (pnW W) L)[j]? = some y → ¬ W x.toNatClampNeg = W y.toNatClampNeg
  | [], _, h => h
  | k :: K, L, h => fo_u W K (pnW W L k) (pnW_u W k L h)
theorem mrS_u (W : Nat → Int64) (K : Int32 → List Int32) : ∀ (C : List Int32) (i j : Nat) (x y : Int32), i < j → (mrS W K C)[i]? = some x → (mrS W K C)[j]? = some y → ¬ W x.toNatClampNeg = W y.toNatClampNeg
  | [], i, j, x, y, _, h, _ => by cases h
  | c :: r, i, j, x, y, h, h1, h2 => fo_u W (K c) (mrS W K r) (mrS_u W K r) i j x y h h1 h2
/-- the lists of a bean, merged along its chain -/
abbrev elW (wg : Nat → Nat → Int32) (c : Int32) : Nat := (wg 29 c.toNatClampNeg).toNatClampNeg
abbrev kiW (wg : Nat → Nat → Int32) (c : Int32) : List Int32 := ki9 wg 80 (wg 16 (elW wg c))
theorem mg_S (hP : ∀ x y, P x → P y → (l22 wg x = l22 wg y ↔ W x.toNatClampNeg = W y.toNatClampNeg)) {K : Int32 → List Int32} : ∀ C : List Int32, (∀ c, c ∈ C → f4 (w14 wg) (kiW wg c) = K c ∧ ∀ x, x ∈ K c → P x) → (mgF D wg C MB0).1.2.1 = mrS W K C ∧ ∀ x, x ∈ mrS W K C → P x
  | [], _ => ⟨rfl, fun x h => by cases h⟩
  | c :: r, h => by
    obtain ⟨i1, i2⟩ := mg_S hP r (fun x hx => h x (List.mem_cons_of_mem _ hx))
    obtain ⟨k1, k2⟩ := h c (List.mem_cons_self ..)
    have e : (mgF D wg (c :: r) MB0).1 = ovI (w14 wg) (l22 wg) false (mgF D wg r MB0).1.1 (mgF D wg r MB0).1.2.1 (mgF D wg r MB0).1.2.2 (kiW wg c) := rfl
    rw [e, ov_s]
    show (f4 (w14 wg) (kiW wg c)).foldl (pnL (l22 wg)) (mgF D wg r MB0).1.2.1 = (K c).foldl (pnW W) (mrS W K r) ∧ ∀ x, x ∈ (K c).foldl (pnW W) (mrS W K r) → P x
    rw [k1, i1]
    exact fo_e hP _ _ k2 i2
theorem mg_L (hP : ∀ x y, P x → P y → (l22 wg x = l22 wg y ↔ W x.toNatClampNeg = W y.toNatClampNeg)) {K : Int32 → List Int32} : ∀ C : List Int32, (∀ c, c ∈ C → f5 (w14 wg) (kiW wg c) = K c ∧ ∀ x, x ∈ K c → P x) → (mgF D wg C MB0).1.2.2 = mrS W K C ∧ ∀ x, x ∈ mrS W K C → P x
  | [], _ => ⟨rfl, fun x h => by cases h⟩
  | c :: r, h => by
    obtain ⟨i1, i2⟩ := mg_L hP r (fun x hx => h x (List.mem_cons_of_mem _ hx))
    obtain ⟨k1, k2⟩ := h c (List.mem_cons_self ..)
    have e : (mgF D wg (c :: r) MB0).1 = ovI (w14 wg) (l22 wg) false (mgF D wg r MB0).1.1 (mgF D wg r MB0).1.2.1 (mgF D wg r MB0).1.2.2 (kiW wg c) := rfl
    rw [e, ov_s]
    show (f5 (w14 wg) (kiW wg c)).foldl (pnL (l22 wg)) (mgF D wg r MB0).1.2.2 = (K c).foldl (pnW W) (mrS W K r) ∧ ∀ x, x ∈ (K c).foldl (pnW W) (mrS W K r) → P x
    rw [k1, i1]
    exact fo_e hP _ _ k2 i2
/-- the args: of the first that has some -/
def agF (K : Int32 → List Int32) : List Int32 → List Int32
  | [] => []
  | c :: r => if K c = [] then agF K r else K c
theorem mg_A {K : Int32 → List Int32} : ∀ C : List Int32, (∀ c, c ∈ C → f3 (w14 wg) (kiW wg c) = K c) → (mgF D wg C MB0).1.1 = agF K C
  | [], _ => rfl
  | c :: r, h => by
    have i1 := mg_A r (fun x hx => h x (List.mem_cons_of_mem _ hx))
    have k1 := h c (List.mem_cons_self ..)
    have e : (mgF D wg (c :: r) MB0).1 = ovI (w14 wg) (l22 wg) false (mgF D wg r MB0).1.1 (mgF D wg r MB0).1.2.1 (mgF D wg r MB0).1.2.2 (kiW wg c) := rfl
    rw [e, ov_s, k1, i1]
    show (if K c = [] then agF K r else (if false = true then agF K r else []) ++ K c) = if K c = [] then agF K r else K c
    rw [if_neg (show ¬ false = true by decide), List.nil_append]
theorem ag_ao (K : Int32 → List Int32) (hK : ∀ c, K c = [] ↔ mInn rs rg (rg 42 c.toNatClampNeg) 4 0 = -1) : ∀ (n : Nat) (b : Int32), ¬ b = -1 → (an9 (mPar rs rg lg) n b).length < n → agF K (an9 (mPar rs rg lg) n b) = K (aoF rs rg lg (an9 (mPar rs rg lg) n b).length b)
  | 0, b, _, h => by omega
  | n + 1, b, hb, h => by
    have e1 : an9 (mPar rs rg lg) (n + 1) b = b :: an9 (mPar rs rg lg) n (mPar rs rg lg b) := by show (if b = -1 then _ else _) = _; rw [if_neg hb]
    rw [e1] at h ⊢
    rw [List.length_cons] at h ⊢
    have e2 : aoF rs rg lg ((an9 (mPar rs rg lg) n (mPar rs rg lg b)).length + 1) b = if mInn rs rg (rg 42 b.toNatClampNeg) 4 0 = -1 ∧ ¬ mPar rs rg lg b = -1 then aoF rs rg lg (an9 (mPar rs rg lg) n (mPar rs rg lg b)).length (mPar rs rg lg b) else b := rfl
    have e3 : agF K (b :: an9 (mPar rs rg lg) n (mPar rs rg lg b)) = if K b = [] then agF K (an9 (mPar rs rg lg) n (mPar rs rg lg b)) else K b := rfl
    rw [e2, e3]
    by_cases k : K b = []
    · rw [if_pos k]
      by_cases p : mPar rs rg lg b = -1
      · rw [if_neg (fun q => q.2 p), k, p]
        cases n with
        | zero => rfl
        | succ n => rfl
      · rw [if_pos ⟨(hK b).mp k, p⟩]
        exact ag_ao K hK n _ p (by omega)
    · rw [if_neg k, if_neg (fun q => k ((hK b).mpr q.1))]
/-- an attribute: of the first that has it -/
theorem te_f {nn : Int64} : ∀ (n : Nat) (b : Int32), telF rs rg lg nn (an9 (mPar rs rg lg) n b).length b = match (an9 (mPar rs rg lg) n b).find? (fun c => decide (¬ mHas rg lg (rg 42 c.toNatClampNeg).toNatClampNeg nn = 0)) with | none => -1 | some c => rg 42 c.toNatClampNeg
  | 0, b => rfl
  | n + 1, b => by
    have e1 : an9 (mPar rs rg lg) (n + 1) b = if b = -1 then [] else b :: an9 (mPar rs rg lg) n (mPar rs rg lg b) := rfl
    rw [e1]
    by_cases hb : b = -1
    · rw [if_pos hb]; rfl
    · rw [if_neg hb, List.length_cons]
      have e2 : telF rs rg lg nn ((an9 (mPar rs rg lg) n (mPar rs rg lg b)).length + 1) b = if mHas rg lg (rg 42 b.toNatClampNeg).toNatClampNeg nn = 0 then telF rs rg lg nn (an9 (mPar rs rg lg) n (mPar rs rg lg b)).length (mPar rs rg lg b) else rg 42 b.toNatClampNeg := rfl
      rw [e2]
      by_cases z : mHas rg lg (rg 42 b.toNatClampNeg).toNatClampNeg nn = 0
      · rw [if_pos z, List.find?_cons_of_neg (by rw [decide_eq_false (fun q => q z)]; decide)]; exact te_f n _
      · rw [if_neg z, List.find?_cons_of_pos (p := fun c : Int32 => decide (¬ mHas rg lg (rg 42 c.toNatClampNeg).toNatClampNeg nn = 0)) (a := b) (decide_eq_true z)]
end ML9
end
section
section BP9
variable {D : List El7} {ws rs : Nat → Int32} {wg rg : Nat → Nat → Int32} {wl lg : Nat → Nat → Int64} {b y k : Nat} {A : At7} {nn : Int64}
/-- the class's rows by D; the reference's; the document -/
def PBc (D : List El7) (ws : Nat → Int32) (wg : Nat → Nat → Int32) (wl : Nat → Nat → Int64) : Prop := (ws 4).toInt = (D.length : Int) ∧ LKS wg D.length ∧ (∀ e, e < D.length → KW7 (wg 14 e).toInt (dKd D e) ∧ (wg 15 e).toInt = dAb D e) ∧ (∀ e, e < D.length → SE9 D wg wl e) ∧ BHt D wg wl ∧ BC7 D ws wg wl D.length ∧ (∀ c, c < (ws 12).toNatClampNeg → MBq wg wl c = mgF D wg (cn9 ws wl 80 (nI c)) MB0) ∧ (∀ b, b < 80 → (wg 28 b).toInt = (b : Int)) ∧ ∀ q, q < 240 → 0 ≤ (wg 41 q).toInt
def PBr (D : List El7) (rs : Nat → Int32) (rg : Nat → Nat → Int32) (lg : Nat → Nat → Int64) : Prop := (rs 24).toInt = (D.length : Int) ∧ (∀ x, x < D.length → RL7 D rg lg x ∧ (∃ P : Int, ATR (dAt D x) rg lg x P) ∧ (dAt D x).length ≤ 12 ∧ TXT7 (dEl D x) rg x) ∧ KN7 D rg D.length ∧ BN7 D rs rg D.length ∧ (∀ c, c < (rs 41).toNatClampNeg → MM9 rs rg lg (nI c)) ∧ ACY rs rg lg ∧ WRD7 (lg 0) (lg 1) ∧ ∀ b, b < 80 → iv 0 26 (rg 44 b) ∧ iv 0 26 (rg 46 b)
def PBd (D : List El7) : Prop := RT9 D ∧ (∀ j, j < D.length → GOODC D j) ∧ BBC D ∧ (∀ x, x < D.length → PA7 (dAt D x)) ∧ PT7 D ∧ D.length ≤ 80 ∧ 0 < D.length
theorem nb_e (hc : PBc D ws wg wl) (hr : PBr D rs rg lg) (hd : PBd D) : (ws 12).toInt = (rs 41).toInt ∧ iv 0 80 (rs 41) := by
  have a1 := hc.2.2.2.2.2.1.1
  have a2 := hr.2.2.2.1.1
  have a3 := bsN_l (D := D) D.length
  have a4 := hd.2.2.2.2.2.1
  exact ⟨by omega, by omega, by omega⟩
theorem bn_y (hc : PBc D ws wg wl) (hr : PBr D rs rg lg) (hd : PBd D) (hb : b < (rs 41).toNatClampNeg) : ∃ y, (bsN D D.length)[b]? = some y ∧ 0 < y ∧ y < D.length ∧ dKd D y = 3 ∧ (rg 42 b).toInt = (y : Int) ∧ (rg 43 y).toInt = (b : Int) ∧ (wg 29 b).toInt = (y : Int) ∧ (wg 27 y).toInt = (b : Int) ∧ BH9 (dAt D y) wg wl b := by
  obtain ⟨c1, c2⟩ := hr.2.2.2.1
  have hl : b < (bsN D D.length).length := by have e : (rs 41).toNatClampNeg = (rs 41).toInt.toNat := rfl; omega
  have hg := List.getElem?_eq_getElem hl
  have hm := (bsN_m D.length _).mp (List.mem_of_getElem? hg)
  obtain ⟨f1, f2⟩ := c2 b _ hg
  obtain ⟨d1, d2, d3⟩ := hc.2.2.2.2.2.1.2.1 b _ hg
  obtain ⟨g1, g2⟩ := hc.2.2.2.2.1 b _ hg
  refine ⟨_, hg, ?_, hm.1, hm.2, f1, f2, g2, d3, g1⟩
  rcases Nat.eq_zero_or_pos ((bsN D D.length)[b]) with q | q
  · have h3 := hm.2
    rw [q, root_k hd.1 hd.2.1 hd.2.2.2.2.2.2] at h3; exact absurd h3 (by decide)
  · exact q
theorem an_le (g : Int32 → Int32) : ∀ (n : Nat) (b : Int32), (an9 g n b).length ≤ n
  | 0, _ => Nat.le_refl _
  | n + 1, b => by
    show (if b = -1 then [] else b :: an9 g n (g b)).length ≤ n + 1
    by_cases q : b = -1
    · rw [if_pos q]; exact Nat.zero_le _
    · rw [if_neg q, List.length_cons]; have := an_le g n (g b); omega
theorem an_mm (hn : iv 0 80 (rs 41)) {c : Int32} : ∀ (n : Nat) (b : Int32), (0 ≤ b.toInt ∧ b.toInt < (rs 41).toInt) ∨ b = -1 → c ∈ an9 (mPar rs rg lg) n b → 0 ≤ c.toInt ∧ c.toInt < (rs 41).toInt
  | 0, _, _, h => by cases h
  | n + 1, b, hb, h => by
    have h : c ∈ (if b = -1 then [] else b :: an9 (mPar rs rg lg) n (mPar rs rg lg b)) := h
    by_cases q : b = -1
    · rw [if_pos q] at h; cases h
    · rw [if_neg q] at h
      rcases List.mem_cons.mp h with w | w
      · rw [w]; exact hb.resolve_right q
      · refine an_mm hn n _ ?_ w
        have hi := par_iv (rg := rg) (lg := lg) hn b
        by_cases z : mPar rs rg lg b = -1
        · exact Or.inr z
        · have h1 := hi.1.1
          have h3 : ¬ (mPar rs rg lg b).toInt = -1 := fun p => z (Int32.toInt_inj.mp (p.trans (by decide)))
          exact Or.inl ⟨by omega, hi.2.resolve_right z⟩
/-- the chain of a bean, on both sides -/
theorem ch_e (hc : PBc D ws wg wl) (hr : PBr D rs rg lg) (hd : PBd D) (hb : b < (rs 41).toNatClampNeg) : cn9 ws wl 80 (nI b) = an9 (mPar rs rg lg) 81 (nI b) ∧ (an9 (mPar rs rg lg) 81 (nI b)).length ≤ 80 ∧ ¬ nI b = -1 ∧ ∀ c, c ∈ an9 (mPar rs rg lg) 81 (nI b) → 0 ≤ c.toInt ∧ c.toInt < (rs 41).toInt := by
  obtain ⟨_, hn⟩ := nb_e hc hr hd
  have kn := iv_cl hn (by decide)
  have kn2 := hn.2
  have tb := nI_toInt (n := b) (by omega)
  have hv : 0 ≤ (nI b).toInt ∧ (nI b).toInt < (rs 41).toInt := ⟨by omega, by omega⟩
  obtain ⟨hI, hP⟩ := IDB_of hc.2.2.2.2.2.1 hr.2.2.2.1 (fun x hx => (hr.2.1 x hx).1) hd.1 hd.2.1
  have hl : (an9 (mPar rs rg lg) 81 (nI b)).length ≤ 80 := by
    rw [an_l, dpF_st 80 (nI b) (hr.2.2.2.2.2.1 (nI b) hv.1 hv.2), ← an_l]
    exact an_le _ 80 _
  refine ⟨?_, hl, nI_m (by omega), fun c h => an_mm hn 81 _ (Or.inl hv) h⟩
  rw [an_f (mPar rs rg lg) 80 1 (nI b) hl]
  exact (CHN_e hI hP hn 80 (nI b) (Or.inr hv)).symm
theorem ch_k (hd : PBd D) (hy : dKd D y = 3) (hk : k < D.length) (h : dAb D k = (y : Int)) : dKd D k = 4 ∨ dKd D k = 5 ∨ dKd D k = 10 := by
  have hi : dIn D k = 3 := by unfold dIn; rw [if_neg (by omega), h]; exact hy
  have hS := (hd.2.1 k hk).1
  unfold STN at hS
  rw [hi] at hS
  omega
theorem w14_k (hc : PBc D ws wg wl) (hd : PBd D) (hk : k < D.length) (h : 1 ≤ dKd D k) : w14 wg (nI k) = wkF (dKd D k) := by
  unfold w14
  rw [nI_n (by have := hd.2.2.2.2.2.1; omega)]
  exact KW_j (hc.2.2.1 k hk).1 h
theorem ki_b (hc : PBc D ws wg wl) (hd : PBd D) (hy : y < D.length) : ki9 wg 80 (wg 16 y) = kc9 D y :=
  KI_c hc.2.1 rfl hd.2.2.2.2.2.1 (fun j hj => (hc.2.2.1 j hj).2) hy hd.2.2.2.2.2.1
abbrev fK (D : List El7) (y : Nat) (n : Int) : List Int32 := (kc9 D y).filter (fun x => decide (dKd D x.toNatClampNeg = n))
theorem kk_b (hr : PBr D rs rg lg) (hd : PBd D) (hy : y < D.length) {c : Int32} (hc : (rg 42 c.toNatClampNeg).toInt = (y : Int)) {kd : Int32} {n : Int} (hk : kd.toInt = n) (hz : ¬ kd = 0) : KK9 rs rg kd c = fK D y n := by
  have e : rg 42 c.toNatClampNeg = nI y := Int32.toInt_inj.mp (by rw [hc, nI_toInt (by have := hd.2.2.2.2.2.1; omega)])
  unfold KK9
  rw [e, kA_c hr.1 hd.2.2.2.2.2.1 (fun j hj => (hr.2.1 j hj).1.2.2.2.1) hr.2.2.1 hy (show (0 : Int32).toNatClampNeg < D.length from hd.2.2.2.2.2.2) (fun j hj => ?_)]
  · refine List.filter_congr (fun x _ => ?_)
    rw [decide_eq_false hz, Bool.false_or, hk]
  · have hj : j ≤ 0 := hj
    have : j = 0 := by omega
    rw [this, hd.1.1]; omega
theorem f_b (hc : PBc D ws wg wl) (hd : PBd D) (hy : y < D.length) (h3 : dKd D y = 3) {c : Int32} (h29 : (wg 29 c.toNatClampNeg).toInt = (y : Int)) : f3 (w14 wg) (kiW wg c) = fK D y 4 ∧ f4 (w14 wg) (kiW wg c) = fK D y 5 ∧ f5 (w14 wg) (kiW wg c) = fK D y 10 := by
  have ey : elW wg c = y := by show (wg 29 c.toNatClampNeg).toInt.toNat = y; omega
  unfold kiW
  rw [ey, ki_b hc hd hy]
  have key : ∀ x, x ∈ kc9 D y → (dKd D x.toNatClampNeg = 4 ∧ w14 wg x = 3) ∨ (dKd D x.toNatClampNeg = 5 ∧ w14 wg x = 4) ∨ (dKd D x.toNatClampNeg = 10 ∧ w14 wg x = 5) := by
    intro x hx
    obtain ⟨k, a1, a2, a3⟩ := kc_m hx
    have hk := ch_k hd h3 a1 a2
    rw [a3, nI_n (by have := hd.2.2.2.2.2.1; omega), w14_k hc hd a1 (by omega)]
    rcases hk with q | q | q
    · exact Or.inl ⟨q, by rw [q]; decide⟩
    · exact Or.inr (Or.inl ⟨q, by rw [q]; decide⟩)
    · exact Or.inr (Or.inr ⟨q, by rw [q]; decide⟩)
  refine ⟨List.filter_congr (fun x hx => ?_), List.filter_congr (fun x hx => ?_), List.filter_congr (fun x hx => ?_)⟩
  · exact decide_eq_decide.mpr (by have := key x hx; omega)
  · exact decide_eq_decide.mpr (by have := key x hx; omega)
  · exact decide_eq_decide.mpr (by have := key x hx; omega)
theorem fK_m {n : Int} {x : Int32} (hd : PBd D) (h : x ∈ fK D y n) : ∃ k, k < D.length ∧ dAb D k = (y : Int) ∧ x = nI k ∧ dKd D k = n ∧ x.toNatClampNeg = k := by
  obtain ⟨h1, h2⟩ := List.mem_filter.mp h
  obtain ⟨k, a1, a2, a3⟩ := kc_m h1
  have e : x.toNatClampNeg = k := by rw [a3]; exact nI_n (by have := hd.2.2.2.2.2.1; omega)
  have h2 := of_decide_eq_true h2
  rw [e] at h2
  exact ⟨k, a1, a2, a3, h2, e⟩
/-- letters, classes, places, as words -/
theorem lv_w (hp : PA7 A) (h : 0 ≤ lv7 A nn) : (aW A nn).toInt = lv7 A nn + 97 ∧ lv7 A nn ≤ 25 ∧ aH A nn = 1 := by
  rcases gA_h (q := A) (k := nn) with ⟨g, _⟩ | ⟨v, g, ha⟩
  · unfold lv7 at h; rw [g] at h; exact absurd (show (0 : Int) ≤ -1 from h) (by decide)
  · cases v with
    | nil => unfold lv7 at h; rw [g] at h; exact absurd (show (0 : Int) ≤ -1 from h) (by decide)
    | cons c r =>
      cases r with
      | cons d t => unfold lv7 at h; rw [g] at h; exact absurd (show (0 : Int) ≤ -1 from h) (by decide)
      | nil =>
        rw [(lv_s g).1] at h ⊢
        by_cases w : 97 ≤ c ∧ c ≤ 122
        · rw [if_pos w, aW_s g, if_pos (show [c].length ≤ 8 from (show 1 ≤ 8 by decide))]
          have hv := foL_len (gA_pv hp g) (show 1 ≤ 8 by decide)
          rcases hv with q | ⟨c2, q1, q2, _⟩ | ⟨c2, d2, q1, _⟩ | ⟨q1, _⟩
          · exact absurd q.1 (by simp)
          · cases q1; exact ⟨by omega, by omega, ha⟩
          · exact absurd q1 (by simp)
          · exact absurd q1 (show ¬ 3 ≤ 1 by decide)
        · rw [if_neg w] at h; exact absurd h (by decide)
theorem pl_w (hp : PA7 A) (h : 0 ≤ pl7 A nn) : (aW A nn).toInt = pl7 A nn + 48 ∧ pl7 A nn ≤ 2 ∧ aH A nn = 1 := by
  rcases gA_h (q := A) (k := nn) with ⟨g, _⟩ | ⟨v, g, ha⟩
  · unfold pl7 at h; rw [g] at h; exact absurd (show (0 : Int) ≤ -1 from h) (by decide)
  · cases v with
    | nil => unfold pl7 at h; rw [g] at h; exact absurd (show (0 : Int) ≤ -1 from h) (by decide)
    | cons c r =>
      cases r with
      | cons d t => unfold pl7 at h; rw [g] at h; exact absurd (show (0 : Int) ≤ -1 from h) (by decide)
      | nil =>
        rw [(lv_s g).2] at h ⊢
        by_cases w : 48 ≤ c ∧ c ≤ 50
        · rw [if_pos w, aW_s g, if_pos (show [c].length ≤ 8 from (show 1 ≤ 8 by decide))]
          have hv := foL_len (gA_pv hp g) (show 1 ≤ 8 by decide)
          rcases hv with q | ⟨c2, q1, q2, _⟩ | ⟨c2, d2, q1, _⟩ | ⟨q1, _⟩
          · exact absurd q.1 (by simp)
          · cases q1; exact ⟨by omega, by omega, ha⟩
          · exact absurd q1 (by simp)
          · exact absurd q1 (show ¬ 3 ≤ 1 by decide)
        · rw [if_neg w] at h; exact absurd h (by decide)
theorem cv_w (hp : PA7 A) (h : 0 ≤ cv7 A nn) : (aW A nn).toInt = 256 * 75 + 48 + cv7 A nn ∧ cv7 A nn ≤ 7 ∧ aH A nn = 1 := by
  rcases gA_h (q := A) (k := nn) with ⟨g, _⟩ | ⟨v, g, ha⟩
  · unfold cv7 at h; rw [g] at h; exact absurd (show (0 : Int) ≤ -1 from h) (by decide)
  · cases v with
    | nil => unfold cv7 at h; rw [g] at h; exact absurd (show (0 : Int) ≤ -1 from h) (by decide)
    | cons c r =>
      cases r with
      | nil => unfold cv7 at h; rw [g] at h; exact absurd (show (0 : Int) ≤ -1 from h) (by decide)
      | cons d t =>
        cases t with
        | cons e u => unfold cv7 at h; rw [g] at h; exact absurd (show (0 : Int) ≤ -1 from h) (by decide)
        | nil =>
          rw [cv_s g] at h ⊢
          by_cases w : c = 75 ∧ 48 ≤ d ∧ d ≤ 55
          · rw [if_pos w, aW_s g, if_pos (show [c, d].length ≤ 8 from (show 2 ≤ 8 by decide))]
            have hv := foL_len (gA_pv hp g) (show 2 ≤ 8 by decide)
            rcases hv with q | ⟨c2, q1, q2, _⟩ | ⟨c2, d2, q1, q2, _⟩ | ⟨q1, _⟩
            · exact absurd q.1 (by simp)
            · exact absurd q1 (by simp)
            · cases q1; exact ⟨by omega, by omega, ha⟩
            · exact absurd q1 (show ¬ 3 ≤ 2 by decide)
          · rw [if_neg w] at h; exact absurd h (by decide)
theorem w32_l {v : Int64} {n z : Int} {c : Int32} (h : v.toInt = n + z) (h0 : 0 ≤ n) (h1 : n ≤ 25) (hc : c.toInt = z) (hz : 48 ≤ z ∧ z ≤ 97) : (v.toInt32 - c).toInt = n := by
  have e := l2i_g (v := v) rfl (by omega) (by omega)
  rw [Int32.toInt_sub, e, i32_bm ⟨by omega, by omega⟩]; omega
end BP9
end
section
section HB9
variable {D : List El7} {ws rs : Nat → Int32} {wg rg : Nat → Nat → Int32} {wl lg : Nat → Nat → Int64} {x a c : Nat}
theorem cdq_e (hc : PBc D ws wg wl) (hr : PBr D rs rg lg) (hd : PBd D) (v : Int64) : (cdR rs rg lg v).toInt = caN ws wg wl v :=
  CA_of hc.2.2.2.2.2.1 hc.2.2.2.1 (fun e he => (hc.2.2.1 e he).1) hr.2.2.2.1 (fun x hx => (hr.2.1 x hx).1) hr.2.2.1 hd.1 hd.2.1 hd.2.2.1 hd.2.2.2.1 hd.2.2.2.2.2.2 (by show (ws 4).toInt.toNat = _; have := hc.1; omega) (by show (rs 24).toInt.toNat = _; have := hr.1; omega) v
/-- a bean within another element -/
theorem in_b (hc : PBc D ws wg wl) (hr : PBr D rs rg lg) (hd : PBd D) (hx : x < D.length) (hk : dKd D x = 3) (hin : ¬ dAb D x = 0) : (wg 27 x).toInt = (rg 43 x).toInt ∧ 0 ≤ (rg 43 x).toInt ∧ (rg 43 x).toInt < (rs 41).toInt ∧ wl 4 (rg 43 x).toNatClampNeg = 0 ∧ wg 34 (rg 43 x).toNatClampNeg = 0 := by
  obtain ⟨b, hb⟩ := List.mem_iff_getElem?.mp ((bsN_m D.length x).mpr ⟨hx, hk⟩)
  obtain ⟨f1, f2⟩ := hr.2.2.2.1.2 b x hb
  obtain ⟨_, _, d3⟩ := hc.2.2.2.2.2.1.2.1 b x hb
  obtain ⟨g1, _⟩ := hc.2.2.2.2.1 b x hb
  have hl := (List.getElem?_eq_some_iff.mp hb).1
  have h41 := hr.2.2.2.1.1
  have eb : (rg 43 x).toNatClampNeg = b := by show (rg 43 x).toInt.toNat = b; omega
  have hi : ¬ aH (dAt D x) 26980 = 1 := fun q => hin ((id_root hd.1 hd.2.1 hx hk).mpr q)
  refine ⟨by omega, by omega, by omega, ?_, ?_⟩
  · rw [eb, g1.1]
    exact nv_0 (by have := aH_z1 (q := dAt D x) (k := 26980); omega)
  · rw [eb]
    obtain ⟨_, _, _, g34, _⟩ := g1
    rcases g34 with ⟨_, q⟩ | ⟨q, _⟩
    · exfalso
      have ha : aH (dAt D x) 7017298113369039732 = 1 := by
        rcases aH_z1 (q := dAt D x) (k := 7017298113369039732) with w | w
        · rw [nv_0 w] at q; exact absurd q (by decide)
        · exact w
      obtain ⟨z, h1, h2⟩ := aH_mm ha
      have hm := ((hd.2.1 x hx).2.1 z h1).1
      rw [h2, hk] at hm
      have e : (7017298113369039732 : Int64).toInt = 7017298113369039732 := by decide
      rw [e] at hm
      unfold MAY at hm
      have hy0 : 0 < x := by
        rcases Nat.eq_zero_or_pos x with q | q
        · rw [q, root_k hd.1 hd.2.1 (by omega)] at hk; exact absurd hk (by decide)
        · exact q
      obtain ⟨a1, a2⟩ := hd.1.2 x hy0 hx
      have hi : dIn D x = dKd D (dAb D x).toNat := by unfold dIn; rw [if_neg (by omega)]
      have h1 : dIn D x = 1 := by omega
      rw [h1] at hi
      have hS := (hd.2.1 (dAb D x).toNat (by omega)).1
      unfold STN at hS
      have := (hd.1.2 (dAb D x).toNat (by omega) (by omega)).1
      omega
    · exact i0_e.mpr q
theorem WK_x (hc : PBc D ws wg wl) (hr : PBr D rs rg lg) (hd : PBd D) (hx : x < D.length) (hkd : ((dKd D x = 4 ∨ dKd D x = 5) ∧ dCn D x = 0) ∨ dKd D x = 7 ∨ dKd D x = 8 ∨ dKd D x = 9 ∨ dKd D x = 3) (hin : dKd D x = 3 → ¬ dAb D x = 0) : WKB ws wg wl rs rg lg x := by
  obtain ⟨r1, ⟨P, r2⟩, r3, r4⟩ := hr.2.1 x hx
  have hG := hd.2.1 x hx
  have h80 := hd.2.2.2.2.2.1
  refine WKB_of (hc.2.2.2.1 x hx) (hc.2.2.1 x hx).1 r1 (hr.2.2.1 x hx) hG r2 r3 r4 (by omega) (hd.2.2.2.1 x hx) (hd.2.2.2.2.1 _ (List.mem_of_getElem? (dEl_g hx))) (fun q => fi_no hc.2.1 rfl (fun j hj => (hc.2.2.1 j hj).2) hx q) (cdq_e hc hr hd) (fun q => hc.2.2.2.2.2.1.2.2.1 x hx q) (fun q => in_b hc hr hd hx q (hin q)) hkd (fun q => ?_) (fun q => ?_)
  · exact (nm_ok hG.2.1 q (by decide)).2
  · exact (nm_ok hG.2.1 q (by decide)).2
/-- the items of a list -/
theorem itL_k : ∀ (n : Nat) (v : Int32), itL wg n v.toInt = (ki9 wg n v).map Int32.toNatClampNeg
  | 0, _ => rfl
  | n + 1, v => by
    show (if v.toInt < 0 then [] else v.toInt.toNat :: itL wg n (wg 17 v.toInt.toNat).toInt) = (if v.toInt < 0 then [] else v :: ki9 wg n (wg 17 v.toNatClampNeg)).map Int32.toNatClampNeg
    by_cases q : v.toInt < 0
    · rw [if_pos q, if_pos q]; rfl
    · rw [if_neg q, if_neg q, itL_k n]; rfl
theorem ki_f : ∀ (n m : Nat) (v : Int32), (ki9 wg (n + m) v).length ≤ n → ki9 wg (n + m) v = ki9 wg n v
  | 0, m, v, h => List.eq_nil_of_length_eq_zero (by omega)
  | n + 1, m, v, h => by
    rw [show n + 1 + m = (n + m) + 1 by omega] at h ⊢
    have e1 : ki9 wg (n + m + 1) v = if v.toInt < 0 then [] else v :: ki9 wg (n + m) (wg 17 v.toNatClampNeg) := rfl
    have e2 : ki9 wg (n + 1) v = if v.toInt < 0 then [] else v :: ki9 wg n (wg 17 v.toNatClampNeg) := rfl
    rw [e1, e2]
    rw [e1] at h
    by_cases q : v.toInt < 0
    · rw [if_pos q, if_pos q]
    · rw [if_neg q, if_neg q]
      rw [if_neg q, List.length_cons] at h
      rw [ki_f n m _ (by omega)]
theorem it_c (hc : PBc D ws wg wl) (hd : PBd D) (hx : c < D.length) (h6 : dCn D c ≤ 6) : itC wg c = (kc9 D c).map Int32.toNatClampNeg := by
  unfold itC
  have hk := ki_b hc hd hx
  have hl : (ki9 wg (6 + 74) (wg 16 c)).length ≤ 6 := by rw [hk, kc_l]; exact h6
  rw [itL_k, ← ki_f 6 74 _ hl, hk]
theorem cnR_e (hA : ∀ j, j < D.length → (wg 15 j).toInt = dAb D j) (e : Int) : ∀ n, n ≤ D.length → cnR (fun j => (wg 15 j).toInt) e n = cnD (dAb D) e n
  | 0, _ => rfl
  | n + 1, h => by
    show cnR (fun j => (wg 15 j).toInt) e n + (if (wg 15 n).toInt = e then 1 else 0) = cnD (dAb D) e n + (if dAb D n = e then 1 else 0)
    rw [cnR_e hA e n (by omega), hA n (by omega)]
/-- the reference's items -/
theorem ch_f (hr : PBr D rs rg lg) (hd : PBd D) (hx : c < D.length) (n : Nat) : chF rs rg (nI c) n = ((kc9 D c)[n]?).getD (-1) := by
  have h80 := hd.2.2.2.2.2.1
  have hn : iv 0 80 (rs 24) := ⟨by have := hr.1; omega, by have := hr.1; omega⟩
  have e := nI_n (k := c) (by omega)
  have h := sq_g (F := chF rs rg (nI c)) (a := nI c) (kd := 0) (bh := nI c) hn rfl (fun n => rfl) n
  rw [h, kA_c hr.1 h80 (fun j hj => (hr.2.1 j hj).1.2.2.2.1) hr.2.2.1 hx (by rw [e]; exact hx) (fun j hj => ?_)]
  · rw [List.filter_eq_self.mpr (fun x _ => by rw [decide_eq_true rfl]; rfl)]
  · rw [e] at hj
    rcases Nat.eq_zero_or_pos j with q | q
    · rw [q, hd.1.1]; omega
    · have := (hd.1.2 j q (by omega)).2; omega
theorem LS_c (hc : PBc D ws wg wl) (hr : PBr D rs rg lg) (hd : PBd D) (hx : c < D.length) (h6 : dKd D c = 6) (hc0 : 0 < c) : LSB ws wg wl rs rg lg c := by
  have h80 := hd.2.2.2.2.2.1
  have hG := hd.2.1 c hx
  have hcn : dCn D c ≤ 6 := by
    have hC := hG.2.2.2.2
    unfold CNT at hC
    omega
  have hit := it_c hc hd hx hcn
  have hlen : (itC wg c).length = dCn D c := by rw [hit, List.length_map, kc_l]
  have h18 : (wg 18 c).toInt = (dCn D c : Int) := by rw [(hc.2.1 c hx).2.2.2.2, cnR_e (fun j hj => (hc.2.2.1 j hj).2) _ _ (Nat.le_refl _)]; rfl
  have h29 := (hr.2.1 c hx).1.2.2.2.2.2.1
  refine ⟨?_, by omega, by omega, by omega, fun k z hz => ?_, ?_⟩
  · rw [(hc.2.2.2.1 c hx).2.2.2.2.2.1 (by omega) (by omega), KW_j (hc.2.2.1 c hx).1 (by omega), h6]; decide
  · rw [hit, List.getElem?_map] at hz
    cases q : (kc9 D c)[k]? with
    | none => rw [q] at hz; cases hz
    | some u =>
      rw [q] at hz
      have hz : some u.toNatClampNeg = some z := hz
      obtain ⟨m, m1, m2, m3⟩ := kc_m (List.mem_of_getElem? q)
      have hm : u.toNatClampNeg = m := by rw [m3]; exact nI_n (by omega)
      have hz2 : z = m := by rw [← Option.some.inj hz]; exact hm
      rw [hz2, ch_f hr hd hx, q]
      refine ⟨m3, by omega, WK_x hc hr hd m1 ?_ (fun _ => by omega)⟩
      have hi : dIn D m = 6 := by unfold dIn; rw [if_neg (by omega), m2]; exact h6
      have hS := (hd.2.1 m m1).1
      unfold STN at hS
      rw [hi] at hS
      omega
  · rw [ch_f hr hd hx, List.getElem?_eq_none (by rw [hlen, kc_l]; exact Nat.le_refl _)]; rfl
/-- an arg or a set -/
theorem HL_a (hc : PBc D ws wg wl) (hr : PBr D rs rg lg) (hd : PBd D) (ha : a < D.length) (hk : dKd D a = 4 ∨ dKd D a = 5) : HLB ws wg wl rs rg lg a := by
  have h80 := hd.2.2.2.2.2.1
  have hG := hd.2.1 a ha
  have hR := (hr.2.1 a ha).1
  have ea := nI_n (k := a) (by omega)
  have ta := nI_toInt (n := a) (by omega)
  have hcn : aH (dAt D a) 508440638821 + aH (dAt D a) 7497062 + (dCn D a : Int) = 1 := by
    have hC := hG.2.2.2.2
    unfold CNT at hC
    omega
  have z1 := aH_z1 (q := dAt D a) (k := 508440638821)
  have z2 := aH_z1 (q := dAt D a) (k := 7497062)
  have hm : ∀ n, (¬ mHas rg lg a n = 0 ↔ aH (dAt D a) n = 1) := fun n => by
    rw [i0_e, hR.2.2.1]
    have := aH_z1 (q := dAt D a) (k := n)
    omega
  have r6 : ∀ j, j < D.length → (rg 26 j = 6 ↔ dKd D j = 6) := fun j hj => by rw [ik_e (n := 6) (by decide), hr.2.2.1 j hj]
  have h29 := hR.2.2.2.2.2.1
  have s5 := (hc.2.2.2.1 a ha).2.2.2.2.1 hk
  by_cases w : aH (dAt D a) 508440638821 = 1 ∨ aH (dAt D a) 7497062 = 1
  · have hcn0 : dCn D a = 0 := by omega
    have hin : inR rs rg lg a = nI a := by unfold inR; rw [if_pos (by rw [hm, hm]; exact w)]
    have h16 := fi_no hc.2.1 rfl (fun j hj => (hc.2.2.1 j hj).2) ha hcn0
    have ect : ctE wg a = a := by
      rcases s5 with q | ⟨_, q, _⟩
      · omega
      · show (wg 26 a).toInt.toNat = a; omega
    unfold HLB
    rw [hin, ea, ect]
    have n6 : ¬ rg 26 a = 6 := fun q => by have := (r6 a ha).mp q; omega
    refine ⟨by omega, ⟨by omega, by omega⟩, rfl, ⟨fun q => by have := q.1; omega, fun q => absurd q n6⟩, fun q => absurd q n6, fun _ => WK_x hc hr hd ha (Or.inl ⟨hk, hcn0⟩) (fun q => by omega)⟩
  · have hcn1 : dCn D a = 1 := by omega
    have hin : inR rs rg lg a = mInn rs rg (nI a) 0 (nI a) := by unfold inR; rw [if_neg (by rw [hm, hm]; exact w)]
    have hl : (kc9 D a).length = 1 := by rw [kc_l]; exact hcn1
    obtain ⟨u, hu⟩ := List.length_eq_one_iff.mp hl
    obtain ⟨m, m1, m2, m3⟩ := kc_m (show u ∈ kc9 D a by rw [hu]; exact List.mem_singleton.mpr rfl)
    have em : u.toNatClampNeg = m := by rw [m3]; exact nI_n (by omega)
    have tm := nI_toInt (n := m) (by omega)
    have hmi : mInn rs rg (nI a) 0 (nI a) = u := by
      have := ch_f hr hd ha 0
      rw [hu] at this
      exact this
    have h16 : wg 16 a = u := by
      have hk9 := ki_b hc hd ha
      rw [hu] at hk9
      have e : ki9 wg 80 (wg 16 a) = if (wg 16 a).toInt < 0 then [] else wg 16 a :: ki9 wg 79 (wg 17 (wg 16 a).toNatClampNeg) := rfl
      rw [e] at hk9
      by_cases q : (wg 16 a).toInt < 0
      · rw [if_pos q] at hk9; exact absurd hk9 (by simp)
      · rw [if_neg q] at hk9; exact (List.cons.inj hk9).1
    have ect : ctE wg a = m := by
      rcases s5 with ⟨_, q, _⟩ | ⟨q, _⟩
      · show (wg 26 a).toNatClampNeg = m
        rw [q, h16]; exact em
      · rw [h16, m3] at q; omega
    have hi : dIn D m = dKd D a := by
      unfold dIn; rw [if_neg (by omega), m2]; rfl
    have hS := (hd.2.1 m m1).1
    unfold STN at hS
    rw [hi] at hS
    have ha0 : 0 < a := by
      rcases Nat.eq_zero_or_pos a with q | q
      · rw [q, root_k hd.1 hd.2.1 (by omega)] at hk; omega
      · exact q
    have hm0 : 0 < m := by
      rcases Nat.eq_zero_or_pos m with q | q
      · rw [q, hd.1.1] at m2; omega
      · exact q
    unfold HLB
    rw [hin, hmi, em, ect]
    refine ⟨by omega, ⟨by rw [m3]; omega, by rw [m3]; omega⟩, rfl, ⟨fun q => q.2, fun q => ⟨by omega, q⟩⟩, fun q => LS_c hc hr hd m1 ((r6 m m1).mp q) hm0, fun q => WK_x hc hr hd m1 ?_ (fun _ => by omega)⟩
    rw [r6 m m1] at q
    omega
end HB9
end
section
section BL9
variable {D : List El7} {ws rs : Nat → Int32} {wg rg : Nat → Nat → Int32} {wl lg : Nat → Nat → Int64} {b y : Nat}
/-- an element of a kind, within a bean -/
def PKD (D : List El7) (n : Int) (x : Int32) : Prop := ∃ k, k < D.length ∧ x = nI k ∧ dKd D k = n ∧ x.toNatClampNeg = k
theorem lt_e (hc : PBc D ws wg wl) (hr : PBr D rs rg lg) (hd : PBd D) {n : Int} (hn : n = 5 ∨ n = 10) {x : Int32} (h : PKD D n x) : (wg 22 x.toNatClampNeg).toInt = lv7 (dAt D x.toNatClampNeg) 1851878757 ∧ 0 ≤ lv7 (dAt D x.toNatClampNeg) 1851878757 ∧ lv7 (dAt D x.toNatClampNeg) 1851878757 ≤ 25 ∧ (mWord rg lg x.toNatClampNeg 1851878757).toInt = lv7 (dAt D x.toNatClampNeg) 1851878757 + 97 := by
  obtain ⟨k, h1, h2, h3, h4⟩ := h
  rw [h4]
  have hG := hd.2.1 k h1
  have ha : aH (dAt D k) 1851878757 = 1 := by
    have hN := hG.2.2.1
    rcases hn with q | q
    · exact hN.2.2.1.resolve_left (fun p => p (h3.trans q))
    · exact (hN.2.2.2.2.resolve_left (fun p => p (h3.trans q))).1
  have hl : 0 ≤ lv7 (dAt D k) 1851878757 := by
    obtain ⟨z, q1, q2⟩ := aH_mm ha
    have hv := (hG.2.1 z q1).2
    rw [q2] at hv
    unfold RVL at hv
    have e : (1851878757 : Int64).toInt = 1851878757 := by decide
    rw [e] at hv
    rcases hv with c | c | c | c | c | c | c | c | c
    · rcases c.2 with d | d
      · omega
      · exact d.2
    · omega
    · omega
    · omega
    · omega
    · omega
    · omega
    · omega
    · omega
  have hw := lv_w (hd.2.2.2.1 k h1) hl
  refine ⟨(hc.2.2.2.1 k h1).2.1 (by omega), hl, hw.2.1, ?_⟩
  rw [(hr.2.1 k h1).1.1]; exact hw.1
theorem pk_i (hc : PBc D ws wg wl) (hr : PBr D rs rg lg) (hd : PBd D) {n : Int} (hn : n = 5 ∨ n = 10) (x z : Int32) (hx : PKD D n x) (hz : PKD D n z) : l22 wg x = l22 wg z ↔ mWn rg lg x.toNatClampNeg = mWn rg lg z.toNatClampNeg := by
  obtain ⟨a1, _, _, a4⟩ := lt_e hc hr hd hn hx
  obtain ⟨b1, _, _, b4⟩ := lt_e hc hr hd hn hz
  unfold l22 mWn
  constructor
  · intro q
    refine Int64.toInt_inj.mp ?_
    have := congrArg Int32.toInt q
    omega
  · intro q
    refine Int32.toInt_inj.mp ?_
    have := congrArg Int64.toInt q
    omega
theorem PK_f (hd : PBd D) {n : Int} {x : Int32} (h : x ∈ fK D y n) : PKD D n x := by
  obtain ⟨k, a1, _, a3, a4, a5⟩ := fK_m hd h
  exact ⟨k, a1, a3, a4, a5⟩
/-- what a bean of the chain has -/
theorem cb_y (hc : PBc D ws wg wl) (hr : PBr D rs rg lg) (hd : PBd D) {c : Int32} (h0 : 0 ≤ c.toInt) (h1 : c.toInt < (rs 41).toInt) : ∃ y, y < D.length ∧ dKd D y = 3 ∧ (rg 42 c.toNatClampNeg).toInt = (y : Int) ∧ (wg 29 c.toNatClampNeg).toInt = (y : Int) := by
  obtain ⟨y, _, _, a2, a3, a4, _, a6, _⟩ := bn_y hc hr hd (b := c.toNatClampNeg) (by show c.toInt.toNat < (rs 41).toInt.toNat; omega)
  exact ⟨y, a2, a3, a4, a6⟩
/-- the sets of a bean -/
theorem se_l (hc : PBc D ws wg wl) (hr : PBr D rs rg lg) (hd : PBd D) (hb : b < (rs 41).toNatClampNeg) : LQ wg (3 * b + 1) = S59 rg (nI b) ∧ (∀ x, x ∈ S59 rg (nI b) → PKD D 5 x) := by
  obtain ⟨n1, n2⟩ := nb_e hc hr hd
  obtain ⟨c1, c2, c3, c4⟩ := ch_e hc hr hd hb
  have hM := hc.2.2.2.2.2.2.1 b (by show b < (ws 12).toInt.toNat; rw [n1]; exact hb)
  rw [c1] at hM
  have e : LQ wg (3 * b + 1) = (mgF D wg (an9 (mPar rs rg lg) 81 (nI b)) MB0).1.2.1 := by rw [← hM]; rfl
  obtain ⟨g1, g2⟩ := mg_S (D := D) (wg := wg) (W := mWn rg lg) (P := PKD D 5) (K := KK9 rs rg 5) (pk_i hc hr hd (Or.inl rfl)) (an9 (mPar rs rg lg) 81 (nI b)) (fun c hcc => by
    obtain ⟨y, y1, y2, y3, y4⟩ := cb_y hc hr hd (c4 c hcc).1 (c4 c hcc).2
    rw [kk_b hr hd y1 y3 (kd := 5) (n := 5) (by decide) (by decide)]
    exact ⟨(f_b hc hd y1 y2 y4).2.1, fun x hx => PK_f hd hx⟩)
  have hS := (hr.2.2.2.2.1 b hb).1
  unfold MR9 ANr9 at hS
  rw [List.drop_zero] at hS
  rw [hS, e]
  exact ⟨g1, g2⟩
theorem lo_l (hc : PBc D ws wg wl) (hr : PBr D rs rg lg) (hd : PBd D) (hb : b < (rs 41).toNatClampNeg) : LQ wg (3 * b + 2) = S10 rg (nI b) ∧ (∀ x, x ∈ S10 rg (nI b) → PKD D 10 x) ∧ ∀ (i j : Nat) (x z : Int32), i < j → (S10 rg (nI b))[i]? = some x → (S10 rg (nI b))[j]? = some z → ¬ mWn rg lg x.toNatClampNeg = mWn rg lg z.toNatClampNeg := by
  obtain ⟨n1, n2⟩ := nb_e hc hr hd
  obtain ⟨c1, c2, c3, c4⟩ := ch_e hc hr hd hb
  have hM := hc.2.2.2.2.2.2.1 b (by show b < (ws 12).toInt.toNat; rw [n1]; exact hb)
  rw [c1] at hM
  have e : LQ wg (3 * b + 2) = (mgF D wg (an9 (mPar rs rg lg) 81 (nI b)) MB0).1.2.2 := by rw [← hM]; rfl
  obtain ⟨g1, g2⟩ := mg_L (D := D) (wg := wg) (W := mWn rg lg) (P := PKD D 10) (K := KK9 rs rg 10) (pk_i hc hr hd (Or.inr rfl)) (an9 (mPar rs rg lg) 81 (nI b)) (fun c hcc => by
    obtain ⟨y, y1, y2, y3, y4⟩ := cb_y hc hr hd (c4 c hcc).1 (c4 c hcc).2
    rw [kk_b hr hd y1 y3 (kd := 10) (n := 10) (by decide) (by decide)]
    exact ⟨(f_b hc hd y1 y2 y4).2.2, fun x hx => PK_f hd hx⟩)
  have hS := (hr.2.2.2.2.1 b hb).2
  unfold MR9 ANr9 at hS
  rw [List.drop_zero] at hS
  rw [hS, e]
  exact ⟨g1, g2, mrS_u _ _ _⟩
/-- lists alike, rows alike -/
theorem lq_r {q B : Nat} {f : Nat → Int32} {n : Int32} (h : LQ wg q = RLq f B n.toNatClampNeg) (h0 : 0 ≤ (wg 41 q).toInt) (hn : 0 ≤ n.toInt) : n.toInt = (wg 41 q).toInt ∧ ∀ i, i < (wg 41 q).toNatClampNeg → f (B + i) = wg 57 (128 * q + i) ∧ wg 57 (128 * q + i) ∈ RLq f B n.toNatClampNeg ∧ (RLq f B n.toNatClampNeg)[i]? = some (wg 57 (128 * q + i)) := by
  have hl := congrArg List.length h
  rw [LQ_l, RLq_l] at hl
  have k1 : (wg 41 q).toNatClampNeg = (wg 41 q).toInt.toNat := rfl
  have k2 : n.toNatClampNeg = n.toInt.toNat := rfl
  refine ⟨by omega, fun i hi => ?_⟩
  have g1 := LQ_g hi
  rw [h] at g1
  have g2 := RLq_g (f := f) (B := B) (n := n.toNatClampNeg) (i := i) (by omega)
  exact ⟨Option.some.inj (g2.symm.trans g1), List.mem_of_getElem? g1, g1⟩
theorem BNe_b (hc : PBc D ws wg wl) (hr : PBr D rs rg lg) (hd : PBd D) (hb : b < (rs 41).toNatClampNeg) : BNe ws wg wl rs rg lg b := by
  obtain ⟨n1, n2⟩ := nb_e hc hr hd
  have kn := iv_cl n2 (by decide)
  have kn2 := n2.2
  obtain ⟨s1, s2⟩ := se_l hc hr hd hb
  have eb := nI_n (k := b) (by omega)
  unfold S59 at s1 s2
  rw [eb] at s1 s2
  obtain ⟨q1, q2⟩ := lq_r s1 (hc.2.2.2.2.2.2.2.2 _ (by omega)) (hr.2.2.2.2.2.2.2 b (by omega)).1.1
  refine ⟨q1, fun n hn => ?_⟩
  obtain ⟨p1, p2, p3⟩ := q2 n hn
  have hP := s2 _ p2
  obtain ⟨l1, l2, l3, l4⟩ := lt_e hc hr hd (Or.inl rfl) hP
  obtain ⟨k, k1, k2, k3, k4⟩ := hP
  refine ⟨p1, ?_, ?_, by omega, by omega⟩
  · rw [k4]; exact HL_a hc hr hd k1 (Or.inr k3)
  · rw [l1]; exact w32_l l4 l2 l3 (by decide) (by decide)
theorem BNl_b (hc : PBc D ws wg wl) (hr : PBr D rs rg lg) (hd : PBd D) (hb : b < (rs 41).toNatClampNeg) : BNl ws wg wl rs rg lg b := by
  obtain ⟨n1, n2⟩ := nb_e hc hr hd
  have kn := iv_cl n2 (by decide)
  have kn2 := n2.2
  obtain ⟨s1, s2, s3⟩ := lo_l hc hr hd hb
  have eb := nI_n (k := b) (by omega)
  unfold S10 at s1 s2 s3
  rw [eb] at s1 s2 s3
  obtain ⟨q1, q2⟩ := lq_r s1 (hc.2.2.2.2.2.2.2.2 _ (by omega)) (hr.2.2.2.2.2.2.2 b (by omega)).2.1
  refine ⟨q1, fun n hn => ?_⟩
  obtain ⟨p1, p2, p3⟩ := q2 n hn
  have hP := s2 _ p2
  obtain ⟨l1, l2, l3, l4⟩ := lt_e hc hr hd (Or.inr rfl) hP
  have hP2 := hP
  obtain ⟨k, k1, k2, k3, k4⟩ := hP2
  refine ⟨p1, ?_, ?_, fun j hj => ?_⟩
  · rw [l1]; exact w32_l l4 l2 l3 (by decide) (by decide)
  · rw [k4, cdq_e hc hr hd, (hr.2.1 k k1).1.1, (hc.2.2.2.1 k k1).2.2.1 (Or.inl k3)]
    have hG := hd.2.1 k k1
    have ha := (hG.2.2.1.2.2.2.2.resolve_left (fun p => p k3)).2
    rw [(nm_ok hG.2.1 ha (by decide)).2]
  · obtain ⟨j1, j2, j3⟩ := q2 j (by omega)
    have hJ := s2 _ j2
    intro w
    refine s3 j n _ _ hj j3 p3 ((pk_i hc hr hd (Or.inr rfl) _ _ hJ hP).mp ?_)
    exact Int32.toInt_inj.mp w
end BL9
end
section
section BA9
variable {D : List El7} {ws rs : Nat → Int32} {wg rg : Nat → Nat → Int32} {wl lg : Nat → Nat → Int64} {b y x a : Nat}
/-- at most four args stand in a bean -/
theorem kd_ah {q : Nat → Bool} (hq : ∀ k, k < D.length → (q k = true ↔ AQD D 0 x k)) (hx : x ≤ 80) : ∀ (n j i : Nat), j + n ≤ D.length → D.length ≤ 80 → (kdL q n j)[i]? = some (nI x) → ahD D 0 x j + i ≤ ahD D 0 x x
  | 0, _, _, _, _, h => by cases h
  | n + 1, j, i, hj, h80, h => by
    have h : (if q j = true then nI j :: kdL q n (j + 1) else kdL q n (j + 1))[i]? = some (nI x) := h
    have e : ahD D 0 x (j + 1) = ahD D 0 x j + (if AQD D 0 x j then 1 else 0) := rfl
    by_cases w : q j = true
    · rw [if_pos w] at h
      rw [if_pos ((hq j (by omega)).mp w)] at e
      cases i with
      | zero =>
        have h : some (nI j) = some (nI x) := h
        have h := congrArg Int32.toInt (Option.some.inj h)
        rw [nI_toInt (by omega), nI_toInt (by omega)] at h
        have : j = x := by omega
        rw [this]; exact Nat.le_refl _
      | succ i =>
        have h : (kdL q n (j + 1))[i]? = some (nI x) := h
        have := kd_ah hq hx n (j + 1) i (by omega) h80 h
        omega
    · rw [if_neg w] at h
      rw [if_neg (fun p => w ((hq j (by omega)).mpr p))] at e
      have := kd_ah hq hx n (j + 1) i (by omega) h80 h
      omega
theorem fK_4 (hd : PBd D) : (fK D y 4).length ≤ 4 := by
  have h80 := hd.2.2.2.2.2.1
  by_cases w : (fK D y 4).length ≤ 4
  · exact w
  · exfalso
    have hg := List.getElem?_eq_getElem (l := fK D y 4) (i := 4) (by omega)
    obtain ⟨k, k1, k2, k3, k4, k5⟩ := fK_m hd (List.mem_of_getElem? hg)
    rw [k3] at hg
    have e : fK D y 4 = kdL (fun j => qC9 D y j && decide (dKd D j = 4)) D.length 0 := (kdL_fl (q := qC9 D y) (p := fun j => decide (dKd D j = 4)) D.length 0 (by omega)).symm
    rw [e] at hg
    have := kd_ah (x := k) (fun j hj => by
      show (decide (dAb D j = (y : Int)) && decide (dKd D j = 4)) = true ↔ _
      rw [Bool.and_eq_true, decide_eq_true_iff, decide_eq_true_iff]
      unfold AQD
      rw [k2, k4]
      exact ⟨fun q => ⟨q.1, q.2, Or.inl rfl⟩, fun q => ⟨q.1, q.2.1⟩⟩) (by omega) D.length 0 4 (by omega) h80 hg
    have hS := (hd.2.1 k k1).1
    unfold STN at hS
    omega
theorem ag_m {K : Int32 → List Int32} : ∀ C : List Int32, agF K C = [] ∨ ∃ c, c ∈ C ∧ agF K C = K c
  | [] => Or.inl rfl
  | c :: r => by
    show (if K c = [] then agF K r else K c) = [] ∨ ∃ d, d ∈ c :: r ∧ (if K c = [] then agF K r else K c) = K d
    by_cases w : K c = []
    · rw [if_pos w]
      rcases ag_m r with q | ⟨d, q1, q2⟩
      · exact Or.inl q
      · exact Or.inr ⟨d, List.mem_cons_of_mem _ q1, q2⟩
    · rw [if_neg w]; exact Or.inr ⟨c, List.mem_cons_self .., rfl⟩
theorem ar_l (hc : PBc D ws wg wl) (hr : PBr D rs rg lg) (hd : PBd D) (hb : b < (rs 41).toNatClampNeg) : (LQ wg (3 * b)).length ≤ 4 ∧ (∀ n, mArg rs rg lg (nI b) n = ((LQ wg (3 * b))[n]?).getD (-1)) ∧ ∀ z, z ∈ LQ wg (3 * b) → PKD D 4 z := by
  have h80 := hd.2.2.2.2.2.1
  obtain ⟨n1, n2⟩ := nb_e hc hr hd
  obtain ⟨c1, c2, c3, c4⟩ := ch_e hc hr hd hb
  have hn : iv 0 80 (rs 24) := ⟨by have := hr.1; omega, by have := hr.1; omega⟩
  have hM := hc.2.2.2.2.2.2.1 b (by show b < (ws 12).toInt.toNat; rw [n1]; exact hb)
  rw [c1] at hM
  have e : LQ wg (3 * b) = (mgF D wg (an9 (mPar rs rg lg) 81 (nI b)) MB0).1.1 := by rw [← hM]; rfl
  have g := mg_A (D := D) (wg := wg) (K := KK9 rs rg 4) (an9 (mPar rs rg lg) 81 (nI b)) (fun c hcc => by
    obtain ⟨y, y1, y2, y3, y4⟩ := cb_y hc hr hd (c4 c hcc).1 (c4 c hcc).2
    rw [kk_b hr hd y1 y3 (kd := 4) (n := 4) (by decide) (by decide)]
    exact (f_b hc hd y1 y2 y4).1)
  have ga := ag_ao (rs := rs) (rg := rg) (lg := lg) (KK9 rs rg 4) (fun c => by
    have q := kA_r (a := rg 42 c.toNatClampNeg) (kd := 4) (bh := 0) (r := mInn rs rg (rg 42 c.toNatClampNeg) 4 0) (gm := rg) hn rfl
    show kA9 rs rg (rg 42 c.toNatClampNeg) 4 0 = [] ↔ _
    rw [q]
    unfold rem9
    by_cases w : mInn rs rg (rg 42 c.toNatClampNeg) 4 0 = -1
    · rw [if_pos w]; exact ⟨fun _ => w, fun _ => rfl⟩
    · rw [if_neg w]; exact ⟨fun p => absurd p (List.cons_ne_nil _ _), fun p => absurd p w⟩) 81 (nI b) c3 (by omega)
  refine ⟨?_, fun n => ?_, fun z hz => ?_⟩
  · rw [e, g]
    rcases ag_m (K := KK9 rs rg 4) (an9 (mPar rs rg lg) 81 (nI b)) with q | ⟨c, q1, q2⟩
    · rw [q]; exact Nat.zero_le _
    · obtain ⟨y, y1, y2, y3, y4⟩ := cb_y hc hr hd (c4 c q1).1 (c4 c q1).2
      rw [q2, kk_b hr hd y1 y3 (kd := 4) (n := 4) (by decide) (by decide)]
      exact fK_4 hd
  · rw [e, g, ga]
    unfold mArg mAO dP
    rw [← an_l]
    exact sq_g (F := argF rs rg (rg 42 (aoF rs rg lg (an9 (mPar rs rg lg) 81 (nI b)).length (nI b)).toNatClampNeg)) hn rfl (fun n => rfl) n
  · rw [e, g] at hz
    rcases ag_m (K := KK9 rs rg 4) (an9 (mPar rs rg lg) 81 (nI b)) with q | ⟨c, q1, q2⟩
    · rw [q] at hz; cases hz
    · obtain ⟨y, y1, y2, y3, y4⟩ := cb_y hc hr hd (c4 c q1).1 (c4 c q1).2
      rw [q2, kk_b hr hd y1 y3 (kd := 4) (n := 4) (by decide) (by decide)] at hz
      exact PK_f hd hz
/-- an attribute's rules -/
theorem rv_of (hd : PBd D) (hx : x < D.length) {k : Int64} (h : aH (dAt D x) k = 1) : RVL (dKd D x) (dAt D x) k := by
  obtain ⟨z, q1, q2⟩ := aH_mm h
  have hv := ((hd.2.1 x hx).2.1 z q1).2
  rw [q2] at hv; exact hv
theorem aW_n0 {A : At7} {k : Int64} (h : aH A k = 0) : aW A k = -1 ∧ pl7 A k = -1 := by
  rcases gA_h (q := A) (k := k) with ⟨g, _⟩ | ⟨v, g, ha⟩
  · unfold aW pl7; rw [g]; exact ⟨rfl, rfl⟩
  · omega
theorem wd_t (hw : WRD7 (lg 0) (lg 1)) {i : Nat} (hi : i < 5) : lg 1 (4 + i) = wKy.getD (29 + i) 0 := by
  obtain ⟨_, _, _, _, _, a4, a5, a6, a7, a8, _⟩ := hw
  match i, hi with
  | 0, _ => exact a4.trans (by decide)
  | 1, _ => exact a5.trans (by decide)
  | 2, _ => exact a6.trans (by decide)
  | 3, _ => exact a7.trans (by decide)
  | 4, _ => exact a8.trans (by decide)
theorem wk_d : ∀ i, i < 5 → (wKy.getD (29 + i) 0).toInt ≥ 65536 ∧ ∀ j, j < 5 → wKy.getD (29 + i) 0 = wKy.getD (29 + j) 0 → i = j := by decide
theorem TY_q (hw : WRD7 (lg 0) (lg 1)) {A : At7} {r : Int} {h : Int32} (hp : PA7 A) (hT : TQ9 A 1954115685 r) (hr : aH A 1954115685 = 1 → ty7 A 1954115685) (hh : h.toInt = aH A 1954115685) : TYQ lg (aW A 1954115685) h r := by
  unfold TYQ
  rcases hT with ⟨q1, q2⟩ | ⟨_, i, i1, i2, i3⟩ | ⟨q1, q2⟩
  · obtain ⟨w1, w2, w3⟩ := cv_w hp q1
    refine Or.inr ⟨fun j hj p => ?_, Or.inl ⟨fun p => ?_, ⟨by omega, by omega, by omega⟩, by omega⟩⟩
    · have := (wk_d j hj).1
      rw [p, wd_t hw hj] at w1; omega
    · rw [i0_e.mp p, w3] at hh; exact absurd hh (by decide)
  · have hz : ¬ nv7 A 1954115685 = 0 := fun p => by
      have := (wk_d i i1).1
      rw [← i3, p] at this; exact absurd this (by decide)
    refine Or.inl ⟨i, i1, i2, by rw [← nv_aW hz, i3, wd_t hw i1], fun j hj p => ?_⟩
    rw [← nv_aW hz, i3, wd_t hw (by omega)] at p
    have := (wk_d i i1).2 j (by omega) p
    omega
  · have ha : aH A 1954115685 = 0 := by
      rcases aH_z1 (q := A) (k := 1954115685) with w | w
      · exact w
      · exact absurd (hr w) q2
    refine Or.inr ⟨fun j hj p => ?_, Or.inr ⟨Or.inl (i0_e.mpr (hh.trans ha)), q1⟩⟩
    have := (wk_d j hj).1
    rw [← wd_t hw hj, ← p, (aW_n0 ha).1] at this
    exact absurd this (by decide)
theorem AR_a (hc : PBc D ws wg wl) (hr : PBr D rs rg lg) (hd : PBd D) (ha : a < D.length) (hk : dKd D a = 4) : ARB ws wg wl rs rg lg a := by
  have hR := (hr.2.1 a ha).1
  have hS := (hc.2.2.2.1 a ha).1 hk
  have z := aH_z1 (q := dAt D a) (k := 24948)
  have hP := hd.2.2.2.1 a ha
  have hH := hR.2.2.1 24948
  refine ⟨HL_a hc hr hd ha (Or.inl hk), fun q => ?_, fun q => ?_, ?_⟩
  · rw [hS.1]
    exact (aW_n0 (by rw [i0_e.mp q] at hH; exact hH.symm)).2
  · have h1 : aH (dAt D a) 24948 = 1 := by
      rcases z with w | w
      · rw [w] at hH; exact absurd (i0_e.mpr hH) q
      · exact w
    have hv := rv_of hd ha h1
    have e : (24948 : Int64).toInt = 24948 := by decide
    unfold RVL at hv
    rw [e] at hv
    have hl : 0 ≤ pl7 (dAt D a) 24948 := by
      rcases hv with c | c | c | c | c | c | c | c | c
      · omega
      · omega
      · omega
      · omega
      · omega
      · exact c.2
      · omega
      · omega
      · omega
    obtain ⟨w1, w2, w3⟩ := pl_w hP hl
    rw [hS.1, hR.1]
    exact ⟨w32_l w1 hl (by omega) (by decide) (by decide), hl⟩
  · rw [hR.1]
    refine TY_q hr.2.2.2.2.2.2.1 hP hS.2 (fun h1 => ?_) (hR.2.2.1 _)
    have hv := rv_of hd ha h1
    have e : (1954115685 : Int64).toInt = 1954115685 := by decide
    unfold RVL at hv
    rw [e] at hv
    rcases hv with c | c | c | c | c | c | c | c | c
    · omega
    · omega
    · omega
    · omega
    · omega
    · omega
    · exact c.2
    · omega
    · omega
theorem BNa_b (hc : PBc D ws wg wl) (hr : PBr D rs rg lg) (hd : PBd D) (hb : b < (rs 41).toNatClampNeg) : BNa ws wg wl rs rg lg b := by
  obtain ⟨n1, n2⟩ := nb_e hc hr hd
  have kn := iv_cl n2 (by decide)
  have kn2 := n2.2
  have h80 := hd.2.2.2.2.2.1
  obtain ⟨a1, a2, a3⟩ := ar_l hc hr hd hb
  rw [LQ_l] at a1
  refine ⟨a1, hc.2.2.2.2.2.2.2.2 _ (by omega), ?_, fun n hn => ?_⟩
  · rw [a2, List.getElem?_eq_none (by rw [LQ_l]; exact Nat.le_refl _)]; rfl
  · have g := LQ_g hn
    obtain ⟨k, k1, k2, k3, k4⟩ := a3 _ (List.mem_of_getElem? g)
    refine ⟨by rw [a2, g]; rfl, ?_, by rw [k4]; exact AR_a hc hr hd k1 k3⟩
    rw [k2, nI_toInt (by omega)]; omega
end BA9
end
section
section BS9
variable {D : List El7} {ws rs : Nat → Int32} {wg rg : Nat → Nat → Int32} {wl lg : Nat → Nat → Int64} {b y x : Nat} {nn : Int64}
theorem ff_9 {α : Type} {g : List Int32 → α} {d : α} {p : Int32 → Bool} {v : Int32 → α} (h0 : g [] = d) (h1 : ∀ c r, p c = true → g (c :: r) = v c) (h2 : ∀ c r, p c = false → g (c :: r) = g r) : ∀ C : List Int32, g C = match C.find? p with | none => d | some c => v c
  | [] => h0
  | c :: r => by
    cases q : p c with
    | true => rw [h1 c r q, List.find?_cons_of_pos q]
    | false => rw [h2 c r q, List.find?_cons_of_neg (by rw [q]; decide)]; exact ff_9 h0 h1 h2 r
theorem fi_e {p q : Int32 → Bool} : ∀ C : List Int32, (∀ c, c ∈ C → p c = q c) → C.find? p = C.find? q
  | [], _ => rfl
  | c :: r, h => by
    rw [List.find?_cons, List.find?_cons, h c (List.mem_cons_self ..), fi_e r (fun z hz => h z (List.mem_cons_of_mem _ hz))]
/-- the first of the chain that has an attribute -/
abbrev fA9 (D : List El7) (wg : Nat → Nat → Int32) (nn : Int64) (C : List Int32) : Option Int32 := C.find? (fun c => decide (aH (dAt D (elW wg c)) nn = 1))
theorem mgt_7 (C : List Int32) : (mgF D wg C MB0).2.1 = match fA9 D wg 28817527407604345 C with | none => 0 | some c => nv7 (dAt D (elW wg c)) 28817527407604345 :=
  ff_9 (g := fun C => (mgF D wg C MB0).2.1) rfl (fun _ _ h => if_pos (of_decide_eq_true h)) (fun _ _ h => if_neg (of_decide_eq_false h)) C
theorem mgt_30 (C : List Int32) : (mgF D wg C MB0).2.2.1 = match fA9 D wg 427020088179 C with | none => -1 | some c => cv7 (dAt D (elW wg c)) 427020088179 :=
  ff_9 (g := fun C => (mgF D wg C MB0).2.2.1) rfl (fun _ _ h => if_pos (of_decide_eq_true h)) (fun _ _ h => if_neg (of_decide_eq_false h)) C
theorem mgt_31 (C : List Int32) : (mgF D wg C MB0).2.2.2.1 = match fA9 D wg 120282512125796 C with | none => -1 | some c => lv7 (dAt D (elW wg c)) 120282512125796 :=
  ff_9 (g := fun C => (mgF D wg C MB0).2.2.2.1) rfl (fun _ _ h => if_pos (of_decide_eq_true h)) (fun _ _ h => if_neg (of_decide_eq_false h)) C
theorem mgt_32 (C : List Int32) : (mgF D wg C MB0).2.2.2.2.1 = match fA9 D wg 1768843636 C with | none => -1 | some c => lv7 (dAt D (elW wg c)) 1768843636 :=
  ff_9 (g := fun C => (mgF D wg C MB0).2.2.2.2.1) rfl (fun _ _ h => if_pos (of_decide_eq_true h)) (fun _ _ h => if_neg (of_decide_eq_false h)) C
theorem mgt_33 (C : List Int32) : (mgF D wg C MB0).2.2.2.2.2 = match fA9 D wg 28259044220366713 C with | none => -1 | some c => lv7 (dAt D (elW wg c)) 28259044220366713 :=
  ff_9 (g := fun C => (mgF D wg C MB0).2.2.2.2.2) rfl (fun _ _ h => if_pos (of_decide_eq_true h)) (fun _ _ h => if_neg (of_decide_eq_false h)) C
abbrev CH_b (rs : Nat → Int32) (rg : Nat → Nat → Int32) (lg : Nat → Nat → Int64) (b : Nat) : List Int32 := an9 (mPar rs rg lg) 81 (nI b)
theorem tl_c (hc : PBc D ws wg wl) (hr : PBr D rs rg lg) (hd : PBd D) (hb : b < (rs 41).toNatClampNeg) (nn : Int64) : (mTel rs rg lg (nI b) nn = -1 ∧ fA9 D wg nn (CH_b rs rg lg b) = none) ∨ ∃ c y, fA9 D wg nn (CH_b rs rg lg b) = some c ∧ c ∈ CH_b rs rg lg b ∧ y < D.length ∧ dKd D y = 3 ∧ elW wg c = y ∧ (mTel rs rg lg (nI b) nn).toNatClampNeg = y ∧ ¬ mTel rs rg lg (nI b) nn = -1 ∧ aH (dAt D y) nn = 1 := by
  obtain ⟨c1, c2, c3, c4⟩ := ch_e hc hr hd hb
  have hf : (CH_b rs rg lg b).find? (fun c => decide (¬ mHas rg lg (rg 42 c.toNatClampNeg).toNatClampNeg nn = 0)) = fA9 D wg nn (CH_b rs rg lg b) := fi_e _ (fun c hcc => by
    obtain ⟨y, y1, y2, y3, y4⟩ := cb_y hc hr hd (c4 c hcc).1 (c4 c hcc).2
    have e1 : elW wg c = y := by show (wg 29 c.toNatClampNeg).toInt.toNat = y; omega
    have e2 : (rg 42 c.toNatClampNeg).toNatClampNeg = y := by show (rg 42 c.toNatClampNeg).toInt.toNat = y; omega
    rw [e1, e2]
    refine decide_eq_decide.mpr ?_
    rw [i0_e, (hr.2.1 y y1).1.2.2.1]
    have := aH_z1 (q := dAt D y) (k := nn)
    omega)
  have ht : mTel rs rg lg (nI b) nn = match fA9 D wg nn (CH_b rs rg lg b) with | none => -1 | some c => rg 42 c.toNatClampNeg := by
    unfold mTel dP
    rw [← an_l, te_f 81 (nI b), hf]
    try rfl
  cases q : fA9 D wg nn (CH_b rs rg lg b) with
  | none => rw [q] at ht; exact Or.inl ⟨ht, rfl⟩
  | some c =>
    rw [q] at ht
    have hm := List.mem_of_find?_eq_some q
    have hp := List.find?_some q
    obtain ⟨y, y1, y2, y3, y4⟩ := cb_y hc hr hd (c4 c hm).1 (c4 c hm).2
    have e1 : elW wg c = y := by show (wg 29 c.toNatClampNeg).toInt.toNat = y; omega
    have hp := of_decide_eq_true hp
    rw [e1] at hp
    have ht : mTel rs rg lg (nI b) nn = rg 42 c.toNatClampNeg := ht
    refine Or.inr ⟨c, y, rfl, hm, y1, y2, e1, by rw [ht]; show (rg 42 c.toNatClampNeg).toInt.toNat = y; omega, fun w => ?_, hp⟩
    rw [ht] at w
    rw [w] at y3
    have : (-1 : Int32).toInt = -1 := by decide
    omega
theorem fA_some {C : List Int32} {c : Int32} (hm : c ∈ C) (h : aH (dAt D (elW wg c)) nn = 1) : ¬ fA9 D wg nn C = none := fun q =>
  absurd (decide_eq_true h) (List.find?_eq_none.mp q c hm)
/-- yes or no, one or many -/
theorem yn_e {A : At7} {k v : Int64} (hv : ¬ v = 0) (hv2 : ¬ v = -1) (h : aH A k = 1 → ¬ nv7 A k = 0) : aW A k = v ↔ nv7 A k = v := by
  rcases aH_z1 (q := A) (k := k) with q | q
  · rw [(aW_n0 q).1, nv_0 q]
    exact ⟨fun p => absurd p.symm hv2, fun p => absurd p.symm hv⟩
  · rw [nv_aW (h q)]
theorem yn_r {A : At7} {k v : Int64} {r : Int32} (h : YN9 A k v r) : r = 0 ↔ ¬ nv7 A k = v := by
  rw [i0_e]
  rcases h with ⟨q1, q2⟩ | ⟨q1, q2⟩
  · exact ⟨fun p => by omega, fun p => absurd q2 p⟩
  · exact ⟨fun _ => q2, fun _ => q1⟩
theorem lv_r (hd : PBd D) (hx : x < D.length) (h : aH (dAt D x) nn = 1) (hn : nn.toInt = 120282512125796 ∨ nn.toInt = 1768843636 ∨ nn.toInt = 28259044220366713) : 0 ≤ lv7 (dAt D x) nn := by
  have hv := rv_of hd hx h
  unfold RVL at hv
  rcases hv with c | c | c | c | c | c | c | c | c
  · omega
  · omega
  · omega
  · omega
  · exact c.2
  · omega
  · omega
  · omega
  · omega
theorem cv_r (hd : PBd D) (hx : x < D.length) (h : aH (dAt D x) 427020088179 = 1) : 0 ≤ cv7 (dAt D x) 427020088179 := by
  have hv := rv_of hd hx h
  unfold RVL at hv
  have e : (427020088179 : Int64).toInt = 427020088179 := by decide
  rw [e] at hv
  rcases hv with c | c | c | c | c | c | c | c | c
  · omega
  · exact c.2
  · omega
  · omega
  · omega
  · omega
  · omega
  · omega
  · omega
theorem sc_r (hd : PBd D) (hx : x < D.length) (hn : nn.toInt = 7017298113369039732 ∨ nn.toInt = 1818327673 ∨ nn.toInt = 495589486693) (h : aH (dAt D x) nn = 1) : ¬ nv7 (dAt D x) nn = 0 := by
  have hv := rv_of hd hx h
  unfold RVL at hv
  intro z
  rw [z] at hv
  rcases hv with c | c | c | c | c | c | c | c | c
  · omega
  · omega
  · rcases c.2 with d | d
    · exact absurd d (by decide)
    · exact absurd d (by decide)
  · rcases c.2 with d | d
    · exact absurd d (by decide)
    · exact absurd d (by decide)
  · omega
  · omega
  · omega
  · omega
  · omega
/-- a letter that the chain tells -/
theorem lt_c (hc : PBc D ws wg wl) (hr : PBr D rs rg lg) (hd : PBd D) (hb : b < (rs 41).toNatClampNeg) (hn : nn.toInt = 120282512125796 ∨ nn.toInt = 1768843636 ∨ nn.toInt = 28259044220366713) {v : Int} (hv : v = match fA9 D wg nn (CH_b rs rg lg b) with | none => -1 | some c => lv7 (dAt D (elW wg c)) nn) : (ltR rs rg lg (nI b) nn).toInt = v := by
  unfold ltR
  rcases tl_c hc hr hd hb nn with ⟨t1, t2⟩ | ⟨c, y, t1, t2, t3, t4, t5, t6, t7, t8⟩
  · rw [t2] at hv
    have hv : v = -1 := hv
    rw [if_pos t1, hv]; decide
  · rw [t1] at hv
    have hv : v = lv7 (dAt D (elW wg c)) nn := hv
    rw [t5] at hv
    have h0 := lv_r hd t3 t8 hn
    obtain ⟨w1, w2, w3⟩ := lv_w (hd.2.2.2.1 y t3) h0
    rw [if_neg t7, t6, (hr.2.1 y t3).1.1, hv]
    exact w32_l w1 h0 w2 (by decide) (by decide)
theorem BNs_b (hc : PBc D ws wg wl) (hr : PBr D rs rg lg) (hd : PBd D) (hb : b < (rs 41).toNatClampNeg) : BNs ws wg wl rs rg lg b := by
  obtain ⟨n1, n2⟩ := nb_e hc hr hd
  have kn := iv_cl n2 (by decide)
  have kn2 := n2.2
  obtain ⟨y, y0, y1, y2, y3, y4, y5, y6, y7, y8⟩ := bn_y hc hr hd hb
  obtain ⟨h4, h5, h6, h34, h35, h36⟩ := y8
  have ey : (rg 42 b).toNatClampNeg = y := by show (rg 42 b).toInt.toNat = y; omega
  have hR := (hr.2.1 y y2).1
  have hG := hd.2.1 y y2
  obtain ⟨_, w0, w1, w2, w3, _⟩ := hr.2.2.2.2.2.2.1
  obtain ⟨c1, c2, c3, c4⟩ := ch_e hc hr hd hb
  have hM := hc.2.2.2.2.2.2.1 b (by show b < (ws 12).toInt.toNat; rw [n1]; exact hb)
  rw [c1] at hM
  have m7 : wl 7 b = match fA9 D wg 28817527407604345 (CH_b rs rg lg b) with | none => 0 | some c => nv7 (dAt D (elW wg c)) 28817527407604345 := by rw [← mgt_7, ← hM]; rfl
  have m30 : (wg 30 b).toInt = match fA9 D wg 427020088179 (CH_b rs rg lg b) with | none => -1 | some c => cv7 (dAt D (elW wg c)) 427020088179 := by rw [← mgt_30, ← hM]; rfl
  have m31 : (wg 31 b).toInt = match fA9 D wg 120282512125796 (CH_b rs rg lg b) with | none => -1 | some c => lv7 (dAt D (elW wg c)) 120282512125796 := by rw [← mgt_31, ← hM]; rfl
  have m32 : (wg 32 b).toInt = match fA9 D wg 1768843636 (CH_b rs rg lg b) with | none => -1 | some c => lv7 (dAt D (elW wg c)) 1768843636 := by rw [← mgt_32, ← hM]; rfl
  have m33 : (wg 33 b).toInt = match fA9 D wg 28259044220366713 (CH_b rs rg lg b) with | none => -1 | some c => lv7 (dAt D (elW wg c)) 28259044220366713 := by rw [← mgt_33, ← hM]; rfl
  have yA : aW (dAt D y) 7017298113369039732 = 7955827 ↔ nv7 (dAt D y) 7017298113369039732 = 7955827 := yn_e (by decide) (by decide) (sc_r hd y2 (by decide))
  have yS : aW (dAt D y) 495589486693 = 1835101817 ↔ nv7 (dAt D y) 495589486693 = 1835101817 := yn_e (by decide) (by decide) (sc_r hd y2 (by decide))
  have yL : aW (dAt D y) 1818327673 = 7955827 ↔ nv7 (dAt D y) 1818327673 = 7955827 := yn_e (by decide) (by decide) (sc_r hd y2 (by decide))
  have i4 : wl 4 b = 0 ↔ ¬ rg 28 y = 0 := by
    rw [h4, i0_e, hR.2.2.2.1, id_root hd.1 hd.2.1 y2 y3]
    rcases aH_z1 (q := dAt D y) (k := 26980) with q | q
    · exact ⟨fun _ p => by omega, fun _ => nv_0 q⟩
    · exact ⟨fun p => absurd p (nm_ok hG.2.1 q (by decide)).1, fun p => absurd q p⟩
  have r35 := yn_r h35
  have r34 := yn_r h34
  have r36 := yn_r h36
  have hmn : mMny rg lg b ↔ ¬ one9 wg wl b := by
    unfold mMny one9
    rw [ey, hR.1, w3, yS, ← i4, r35]
    by_cases q : wl 4 b = 0
    · exact ⟨fun _ p => p.1 q, fun _ => Or.inl q⟩
    · exact ⟨fun p w => w.2 (p.resolve_left q), fun p => Or.inr (Classical.byContradiction (fun w => p ⟨q, w⟩))⟩
  have hab : absR rg lg b ↔ ¬ wg 34 b = 0 := by
    unfold absR
    rw [ey, hR.1, w0, yA, r34]
    exact ⟨fun p q => q p, fun p => Classical.byContradiction p⟩
  have hla : mWord rg lg (rg 42 b).toNatClampNeg 1818327673 = lg 1 0 ↔ ¬ wg 36 b = 0 := by
    rw [ey, hR.1, w0, yL, r36]
    exact ⟨fun p q => q p, fun p => Classical.byContradiction p⟩
  have fac : (wl 7 b = 0 ∧ mTel rs rg lg (nI b) 28817527407604345 = -1) ∨ (¬ wl 7 b = 0 ∧ ¬ mTel rs rg lg (nI b) 28817527407604345 = -1 ∧ ¬ mTel rs rg lg (nI b) 120282512125796 = -1 ∧ mWord rg lg (mTel rs rg lg (nI b) 28817527407604345).toNatClampNeg 28817527407604345 = wl 7 b) := by
    rcases tl_c hc hr hd hb 28817527407604345 with ⟨t1, t2⟩ | ⟨c, z, t1, t2, t3, t4, t5, t6, t7, t8⟩
    · rw [t2] at m7; exact Or.inl ⟨m7, t1⟩
    · rw [t1] at m7
      have m7 : wl 7 b = nv7 (dAt D (elW wg c)) 28817527407604345 := m7
      rw [t5] at m7
      obtain ⟨q1, q2⟩ := nm_ok (hd.2.1 z t3).2.1 t8 (by decide)
      refine Or.inr ⟨by rw [m7]; exact q1, t7, fun w => ?_, by rw [t6, (hr.2.1 z t3).1.1, m7, q2]⟩
      have hB := ((hd.2.1 z t3).2.2.1.2.1.resolve_left (fun p => p t4)).2.1.resolve_left (fun p => by omega)
      rcases tl_c hc hr hd hb 120282512125796 with ⟨s1, s2⟩ | ⟨c', z', s1, s2, s3, s4, s5, s6, s7, s8⟩
      · exact fA_some t2 (by rw [t5]; exact hB) s2
      · exact s7 w
  have cls : (mTel rs rg lg (nI b) 427020088179 = -1 ∧ (wg 30 b).toInt = -1) ∨ (¬ mTel rs rg lg (nI b) 427020088179 = -1 ∧ 0 ≤ (wg 30 b).toInt ∧ (wg 30 b).toInt ≤ 7 ∧ (mWord rg lg (mTel rs rg lg (nI b) 427020088179).toNatClampNeg 427020088179).toInt = 256 * 75 + 48 + (wg 30 b).toInt) := by
    rcases tl_c hc hr hd hb 427020088179 with ⟨t1, t2⟩ | ⟨c, z, t1, t2, t3, t4, t5, t6, t7, t8⟩
    · rw [t2] at m30; exact Or.inl ⟨t1, m30⟩
    · rw [t1] at m30
      have m30 : (wg 30 b).toInt = cv7 (dAt D (elW wg c)) 427020088179 := m30
      rw [t5] at m30
      have h0 := cv_r hd t3 t8
      obtain ⟨q1, q2, q3⟩ := cv_w (hd.2.2.2.1 z t3) h0
      exact Or.inr ⟨t7, by omega, by omega, by rw [t6, (hr.2.1 z t3).1.1, m30]; exact q1⟩
  unfold BNs
  refine ⟨hmn, hab, hc.2.2.2.2.2.2.2.1 b (by omega), ?_, fun q => ?_, ?_, ?_, fun q => ?_, ⟨fun q => ?_, fun q => ?_⟩, lt_c hc hr hd hb (by decide) m31, lt_c hc hr hd hb (by decide) m32, lt_c hc hr hd hb (by decide) m33, ?_⟩
  · rw [ey, i0_e, hR.2.2.1, h6]
    rcases aH_z1 (q := dAt D y) (k := 28259031083541619) with q | q
    · exact ⟨fun _ => nv_0 q, fun _ => q⟩
    · exact ⟨fun p => by omega, fun p => absurd p (nm_ok hG.2.1 q (by decide)).1⟩
  · rw [ey, hR.1, cdq_e hc hr hd, ← nv_aW (fun w => q (h6.trans w)), h6]
  · rcases fac with ⟨f1, f2⟩ | ⟨f1, f2, _⟩
    · rcases cls with ⟨g1, g2⟩ | ⟨g1, g2, _⟩
      · exact ⟨fun _ => ⟨g2, f1⟩, fun _ => ⟨g1, f2⟩⟩
      · exact ⟨fun p => absurd p.1 g1, fun p => by have := p.1; omega⟩
    · exact ⟨fun p => absurd p.2 f2, fun p => absurd p.2 f1⟩
  · rcases fac with ⟨f1, f2⟩ | ⟨f1, f2, f3, _⟩
    · exact ⟨fun p => absurd f2 p.1, fun p => absurd f1 p⟩
    · exact ⟨fun _ => f1, fun _ => ⟨f2, f3⟩⟩
  · rcases fac with ⟨f1, _⟩ | ⟨_, _, _, f4⟩
    · exact absurd f1 q
    · rw [f4, cdq_e hc hr hd]
  · rcases cls with ⟨_, g2⟩ | ⟨g1, _⟩
    · exact g2
    · exact absurd q g1
  · rcases cls with ⟨g1, _⟩ | ⟨_, g2, g3, g4⟩
    · exact absurd g1 q
    · rw [g4]; exact Or.inr ⟨by omega, by omega, by omega, by omega⟩
  · unfold rfW
    rw [hmn, hab, hla]
    unfold one9
    exact ⟨fun p => ⟨fun w => w ⟨p.1, p.2.2.1⟩, fun w => w p.2.1, fun w => w p.2.2.2⟩, fun p => by
      have a := Classical.byContradiction p.1
      exact ⟨a.1, Classical.byContradiction p.2.1, a.2, Classical.byContradiction p.2.2⟩⟩
/-- both documents are alike -/
theorem BRG_of (hc : PBc D ws wg wl) (hr : PBr D rs rg lg) (hd : PBd D) : BRG ws wg wl rs rg lg :=
  ⟨(nb_e hc hr hd).1.symm, fun _ hb => ⟨BNs_b hc hr hd hb, BNa_b hc hr hd hb, BNe_b hc hr hd hb, BNl_b hc hr hd hb⟩, cdq_e hc hr hd⟩
end BS9
end
section
section TL9s
variable {ch : Nat → Int} {n : Nat}
/-- how many letters a name has -/
def nlF : Nat → Int → Nat
  | 0, _ => 0
  | f + 1, k => if k ≤ 0 then 0 else nlF f (k / 256) + 1
def nl7 (k : Int64) : Nat := nlF 8 k.toInt
theorem nlF_v {a : Nat} : ∀ (f j : Nat), (∀ i, i < j → isLc (ch (a + i))) → nlF f (nvI ch a j) ≤ j
  | 0, j, _ => Nat.zero_le _
  | f + 1, 0, _ => Nat.le_refl _
  | f + 1, j + 1, h => by
    have hd := (nvI_d (ch := ch) (a := a) (j := j) (h j (by omega))).1
    have ih := nlF_v f j (fun i hi => h i (by omega))
    show (if nvI ch a (j + 1) ≤ 0 then 0 else nlF f (nvI ch a (j + 1) / 256) + 1) ≤ j + 1
    rw [hd]
    split <;> omega
theorem nl_nm {a b : Nat} {k : Int64} (h : sNm ch a = some (k, b)) : a + nl7 k ≤ b := by
  obtain ⟨m, h1, h2, h3, h4, h5, h6⟩ := nm_v h
  unfold nl7
  rw [h6, h3]
  have := nlF_v 8 m h4
  omega
/-- what a list of attributes takes -/
def aC7 : At7 → Nat
  | [] => 0
  | y :: r => nl7 y.1 + 4 + y.2.length + aC7 r
theorem aC_app : ∀ (q r : At7), aC7 (q ++ r) = aC7 q + aC7 r
  | [], r => by show aC7 r = 0 + aC7 r; omega
  | y :: q, r => by
    show nl7 y.1 + 4 + y.2.length + aC7 (q ++ r) = nl7 y.1 + 4 + y.2.length + aC7 q + aC7 r
    rw [aC_app q r]; omega
theorem vaF_len : ∀ f v a r, vaF ch f v a = some r → a + r.1.length + 1 ≤ r.2 + v.length := by
  intro f
  induction f with
  | zero => intro v a r h; cases h
  | succ f ih =>
    intro v a r h
    have h : (if ch a = 34 then some (v, a + 1) else if ch a = 60 then none else match sCh ch a with | none => none | some (x, b) => if v.length = 24 then none else vaF ch f (v ++ [x]) (b + 1)) = some r := h
    split at h
    · cases h; show a + v.length + 1 ≤ a + 1 + v.length; omega
    · split at h
      · cases h
      · cases hc : sCh ch a with
        | none => rw [hc] at h; cases h
        | some q =>
          obtain ⟨x, b⟩ := q
          rw [hc] at h
          have h1 : a ≤ b := sCh_le hc
          have h : (if v.length = 24 then none else vaF ch f (v ++ [x]) (b + 1)) = some r := h
          split at h
          · cases h
          · have := ih _ _ _ h
            rw [List.length_append, List.length_singleton] at this
            omega
theorem sAt_len {a : Nat} {at9 : At7} {r : At7 × Nat} (h : sAt ch n at9 a = some r) : a + aC7 r.1 ≤ r.2 + 1 + aC7 at9 := by
  unfold sAt at h
  split at h
  · cases h
  · cases hc : sNm ch a with
    | none => rw [hc] at h; cases h
    | some q =>
      obtain ⟨k, b⟩ := q
      rw [hc] at h
      have h1 := nl_nm hc
      have h : (if hasK at9 k = true then none else if ch b = 61 ∧ ch (b + 1) = 34 then (match sVa ch n [] (b + 2) with | none => none | some (v, e) => some (at9 ++ [(k, v)], e)) else none) = some r := h
      split at h
      · cases h
      · split at h
        · cases hv : sVa ch n [] (b + 2) with
          | none => rw [hv] at h; cases h
          | some w =>
            obtain ⟨v, e⟩ := w
            rw [hv] at h
            cases h
            have h2 : b + 2 + v.length + 1 ≤ e + 0 := vaF_len _ _ _ _ hv
            show a + aC7 (at9 ++ [(k, v)]) ≤ e + 1 + aC7 at9
            rw [aC_app]
            show a + (aC7 at9 + (nl7 k + 4 + v.length + 0)) ≤ e + 1 + aC7 at9
            omega
        · cases h
theorem atsF_len : ∀ f at9 a r, atsF ch n f at9 a = some r → a + aC7 r.1 ≤ r.2 + aC7 at9 := by
  intro f
  induction f with
  | zero => intro at9 a r h; cases h; exact Nat.le_refl _
  | succ f ih =>
    intro at9 a r h
    have h : (if a < sWh ch n a ∧ isLc (ch (sWh ch n a)) then (match sAt ch n at9 (sWh ch n a) with | none => none | some (q, e) => atsF ch n f q e) else some (at9, sWh ch n a)) = some r := h
    split at h
    · rename_i hw
      cases hc : sAt ch n at9 (sWh ch n a) with
      | none => rw [hc] at h; cases h
      | some w =>
        obtain ⟨q, e⟩ := w
        rw [hc] at h
        have h1 : sWh ch n a + aC7 q ≤ e + 1 + aC7 at9 := sAt_len hc
        have h2 := ih _ _ _ h
        have := hw.1
        omega
    · cases h
      have := sWh_le ch n a
      show a + aC7 at9 ≤ sWh ch n a + aC7 at9
      omega
theorem sOp_len {cnt depth a e : Nat} {k : Int64} {q : At7} {c : Bool} (h : sOp ch n cnt depth a = some (k, q, c, e)) : a + 1 + nl7 k + aC7 q + (if c = true then 2 else 1) ≤ e ∧ (∃ b, sNm ch (a + 1) = some (k, b)) ∧ ch (e - 1) = 62 := by
  by_cases h0 : ch a = 60 ∧ isLc (ch (a + 1)) ∧ depth < 6 ∧ cnt < 80
  · cases h1 : sNm ch (a + 1) with
    | none => rw [sOp_n h1] at h; cases h
    | some w =>
      obtain ⟨k1, b⟩ := w
      have h3 := nl_nm h1
      cases h2 : sAs ch n [] b with
      | none => rw [sOp_a h1 h2] at h; cases h
      | some w2 =>
        obtain ⟨q1, e1⟩ := w2
        have h4 : b + aC7 q1 ≤ e1 + 0 := atsF_len _ _ _ _ h2
        rw [sOp_u h0 h1 h2] at h
        split at h
        · split at h
          · rename_i hz
            cases h
            refine ⟨?_, ⟨b, rfl⟩, hz⟩
            show a + 1 + nl7 k + aC7 q + 2 ≤ e1 + 2
            omega
          · cases h
        · split at h
          · rename_i hz
            cases h
            refine ⟨?_, ⟨b, rfl⟩, hz⟩
            show a + 1 + nl7 k + aC7 q + 1 ≤ e1 + 1
            omega
          · cases h
  · rw [sOp_x h0] at h; cases h
theorem clF_len : ∀ (m f p a b : Nat), m ≤ f → (∀ i, i < m → isLc (ch (p + i))) → clF ch f p a = some b → a + m ≤ b
  | 0, f, p, a, b, _, _, h => clF_le f p a b h
  | m + 1, 0, p, a, b, hm, _, _ => by omega
  | m + 1, f + 1, p, a, b, hm, hl, h => by
    have h : (if isLc (ch p) then (if ch a = ch p then clF ch f (p + 1) (a + 1) else none) else some a) = some b := h
    rw [if_pos (show isLc (ch p) from hl 0 (by omega))] at h
    split at h
    · have := clF_len m f (p + 1) (a + 1) b (by omega) (fun i hi => by rw [show p + 1 + i = p + (i + 1) by omega]; exact hl (i + 1) (by omega)) h
      omega
    · cases h
theorem sEd_len {p a e b : Nat} {k : Int64} (h : sEd ch n p a = some e) (hk : sNm ch (p + 1) = some (k, b)) : a + 3 + nl7 k ≤ e ∧ ch (e - 1) = 62 := by
  obtain ⟨m, m1, m2, m3, m4, m5, m6⟩ := nm_v hk
  have hn := nl_nm hk
  cases h1 : clF ch 8 (p + 1) (a + 2) with
  | none => rw [sEd_x h1] at h; cases h
  | some b =>
    have h2 := clF_len m 8 (p + 1) (a + 2) b m2 m4 h1
    have h3 := sWh_le ch n b
    rw [sEd_u h1] at h
    split at h
    · rename_i hz
      cases h
      exact ⟨by omega, hz⟩
    · cases h
end TL9s
end
section
section DL9s
variable {ch : Nat → Int} {n : Nat} {D D2 : List El7} {F : Nat → Bool}
/-- what an element takes of the text -/
def eC7 (w : El7) : Nat := 1 + nl7 w.2.2.1 + aC7 w.2.2.2.1
def cF7 (D : List El7) (F : Nat → Bool) (e : Nat) : Nat := eC7 (dEl D e) + (if F e = true then 4 + nl7 (dEl D e).2.2.1 else 2)
/-- the elements that are begun and not ended, the inmost first -/
def LKO (D : List El7) : Int → List Nat → Prop
  | _, [] => True
  | c, o :: r => c = (o : Int) ∧ o < D.length ∧ LKO D (dAb D o) r
def dbt (D : List El7) : List Nat → Nat
  | [] => 0
  | o :: r => 3 + nl7 (dEl D o).2.2.1 + dbt D r
theorem sB_e {f g : Nat → Nat} : ∀ m, (∀ e, e < m → f e = g e) → sB f m = sB g m
  | 0, _ => rfl
  | m + 1, h => by
    show sB f m + f m = sB g m + g m
    rw [sB_e m (fun e he => h e (by omega)), h m (by omega)]
def PRE7 (D D2 : List El7) : Prop := D.length ≤ D2.length ∧ ∀ e, e < D.length → (dEl D2 e).1 = (dEl D e).1 ∧ (dEl D2 e).2.1 = (dEl D e).2.1 ∧ (dEl D2 e).2.2.1 = (dEl D e).2.2.1 ∧ (dEl D2 e).2.2.2.1 = (dEl D e).2.2.2.1
theorem LKO_p (h : PRE7 D D2) : ∀ (O : List Nat) (c : Int), LKO D c O → LKO D2 c O ∧ dbt D2 O = dbt D O
  | [], _, _ => ⟨trivial, rfl⟩
  | o :: r, c, hl => by
    obtain ⟨h1, h2, h3⟩ := hl
    have e := h.2 o h2
    have ab : dAb D2 o = dAb D o := e.2.1
    obtain ⟨i1, i2⟩ := LKO_p h r _ h3
    refine ⟨⟨h1, by have := h.1; omega, by rw [ab]; exact i1⟩, ?_⟩
    show 3 + nl7 (dEl D2 o).2.2.1 + dbt D2 r = 3 + nl7 (dEl D o).2.2.1 + dbt D r
    rw [e.2.2.1, i2]
theorem LKO_m : ∀ (O : List Nat) (c : Int), LKO D c O → ∀ o, o ∈ O → o < D.length
  | [], _, _, _, h => by cases h
  | o :: r, c, hl, x, hx => by
    rcases List.mem_cons.mp hx with q | q
    · rw [q]; exact hl.2.1
    · exact LKO_m r _ hl.2.2 x q
theorem cF_p (h : PRE7 D D2) {G : Nat → Bool} (hG : ∀ e, e < D.length → G e = F e) {e : Nat} (he : e < D.length) : cF7 D2 G e = cF7 D F e := by
  have q := h.2 e he
  unfold cF7 eC7
  rw [q.2.2.1, q.2.2.2, hG e he]
/-- how far the text has been read, at least -/
def DLI (ch : Nat → Int) (n : Nat) (D : List El7) (cur : Int) (depth a : Nat) : Prop := ∃ (F : Nat → Bool) (O : List Nat), O.length = depth ∧ LKO D cur O ∧ (∀ o, o ∈ O → F o = true) ∧ (∀ e, e < D.length → dAb D e < (D.length : Int) ∧ (0 ≤ dAb D e → F (dAb D e).toNat = true)) ∧ (∀ e, e < D.length → ∃ b, sNm ch ((dEl D e).1 + 1) = some ((dEl D e).2.2.1, b)) ∧ sB (cF7 D F) D.length ≤ a + dbt D O ∧ (depth = 0 → a ≤ n)
theorem dEl_app {w : El7} : dEl (D ++ [w]) D.length = w := by unfold dEl; rw [List.getElem?_append_right (Nat.le_refl _), Nat.sub_self]; rfl
theorem dEl_al {w : El7} {e : Nat} (h : e < D.length) : dEl (D ++ [w]) e = dEl D e := by unfold dEl; rw [List.getElem?_append_left h]
theorem PRE_app {w : El7} : PRE7 D (D ++ [w]) := ⟨by rw [List.length_append]; omega, fun e he => by rw [dEl_al he]; exact ⟨rfl, rfl, rfl, rfl⟩⟩
theorem PRE_set {i : Nat} {w w2 : El7} (hw : D[i]? = some w) (h : w2.1 = w.1 ∧ w2.2.1 = w.2.1 ∧ w2.2.2.1 = w.2.2.1 ∧ w2.2.2.2.1 = w.2.2.2.1) : PRE7 D (D.set i w2) := by
  refine ⟨by rw [List.length_set]; exact Nat.le_refl _, fun e he => ?_⟩
  have hi := (List.getElem?_eq_some_iff.mp hw).1
  by_cases q : i = e
  · subst q
    have e1 : dEl (D.set i w2) i = w2 := by unfold dEl; rw [List.getElem?_set, if_pos rfl, if_pos hi]; rfl
    have e2 : dEl D i = w := by unfold dEl; rw [hw]; rfl
    rw [e1, e2]; exact h
  · have e1 : dEl (D.set i w2) e = dEl D e := by unfold dEl; rw [List.getElem?_set, if_neg q]
    rw [e1]; exact ⟨rfl, rfl, rfl, rfl⟩
/-- on: nothing new but texts -/
theorem DLI_s {cur : Int} {depth a b : Nat} (h : DLI ch n D cur depth a) (hp : PRE7 D D2) (hl : D2.length = D.length) (hab : a ≤ b) (hd : ¬ depth = 0) : DLI ch n D2 cur depth b := by
  obtain ⟨F, O, h1, h2, h3, h4, h5, h6, _⟩ := h
  obtain ⟨i1, i2⟩ := LKO_p hp O _ h2
  refine ⟨F, O, h1, i1, h3, fun e he => ?_, fun e he => ?_, ?_, fun q => absurd q hd⟩
  · have q : dAb D2 e = dAb D e := (hp.2 e (by omega)).2.1
    rw [q, hl]; exact h4 e (by omega)
  · have q := hp.2 e (by omega)
    rw [q.1, q.2.2.1]; exact h5 e (by omega)
  · rw [i2, hl, sB_e (f := cF7 D2 F) (g := cF7 D F) D.length (fun e he => cF_p hp (fun _ _ => rfl) he)]; omega
theorem DLI_new {cur : Int} {depth a b : Nat} {k : Int64} {q : At7} {c : Bool} (h : DLI ch n D cur depth a) (hd : ¬ depth = 0) (hb : a + 1 + nl7 k + aC7 q + (if c = true then 2 else 1) ≤ b) (hk : ∃ z, sNm ch (a + 1) = some (k, z)) : DLI ch n (D ++ [(a, cur, k, q, 0, [])]) (if c = true then cur else (D.length : Int)) (if c = true then depth else depth + 1) b := by
  obtain ⟨F, O, h1, h2, h3, h4, h5, h6, _⟩ := h
  cases O with
  | nil => exact absurd h1.symm hd
  | cons o r =>
    obtain ⟨hcu, hol, _⟩ := h2
    have hlen : (D ++ [((a, cur, k, q, 0, []) : El7)]).length = D.length + 1 := by rw [List.length_append]; rfl
    have hp : PRE7 D (D ++ [((a, cur, k, q, 0, []) : El7)]) := PRE_app
    obtain ⟨i1, i2⟩ := LKO_p hp (o :: r) _ ⟨hcu, hol, by assumption⟩
    have hFo : F o = true := h3 o (List.mem_cons_self ..)
    have hab : dAb (D ++ [((a, cur, k, q, 0, []) : El7)]) D.length = cur := by unfold dAb; rw [dEl_app]
    have hG : ∀ e, e < D.length → (fun e => if e = D.length then !c else F e) e = F e := fun e he => if_neg (by omega)
    have hG2 : (fun e => if e = D.length then !c else F e) D.length = !c := if_pos rfl
    have hsum : sB (cF7 (D ++ [((a, cur, k, q, 0, []) : El7)]) (fun e => if e = D.length then !c else F e)) (D.length + 1) = sB (cF7 D F) D.length + (1 + nl7 k + aC7 q + (if c = true then 2 else 4 + nl7 k)) := by
      show sB _ D.length + cF7 _ _ D.length = _
      rw [sB_e (f := cF7 (D ++ [((a, cur, k, q, 0, []) : El7)]) (fun e => if e = D.length then !c else F e)) (g := cF7 D F) D.length (fun e he => cF_p hp hG he)]
      congr 1
      unfold cF7 eC7
      rw [dEl_app, hG2]
      cases c <;> rfl
    have f4 : ∀ e, e < (D ++ [((a, cur, k, q, 0, []) : El7)]).length → dAb (D ++ [((a, cur, k, q, 0, []) : El7)]) e < ((D ++ [((a, cur, k, q, 0, []) : El7)]).length : Int) ∧ (0 ≤ dAb (D ++ [((a, cur, k, q, 0, []) : El7)]) e → (fun e => if e = D.length then !c else F e) (dAb (D ++ [((a, cur, k, q, 0, []) : El7)]) e).toNat = true) := by
      intro e he
      rw [hlen] at he ⊢
      by_cases w : e = D.length
      · rw [w, hab, hcu]
        refine ⟨by omega, fun _ => ?_⟩
        rw [show ((o : Int)).toNat = o from Int.toNat_natCast o, hG o hol]; exact hFo
      · have q1 : dAb (D ++ [((a, cur, k, q, 0, []) : El7)]) e = dAb D e := (hp.2 e (by omega)).2.1
        rw [q1]
        obtain ⟨g1, g2⟩ := h4 e (by omega)
        refine ⟨by omega, fun h0 => ?_⟩
        rw [hG _ (by omega)]; exact g2 h0
    have f5 : ∀ e, e < (D ++ [((a, cur, k, q, 0, []) : El7)]).length → ∃ b, sNm ch ((dEl (D ++ [((a, cur, k, q, 0, []) : El7)]) e).1 + 1) = some ((dEl (D ++ [((a, cur, k, q, 0, []) : El7)]) e).2.2.1, b) := by
      intro e he
      rw [hlen] at he
      by_cases w : e = D.length
      · rw [w, dEl_app]; exact hk
      · rw [dEl_al (by omega)]; exact h5 e (by omega)
    have f3 : ∀ x, x ∈ o :: r → (fun e => if e = D.length then !c else F e) x = true := fun x hx => by
      rw [hG x (LKO_m (o :: r) _ ⟨hcu, hol, by assumption⟩ x hx)]; exact h3 x hx
    cases c with
    | true =>
      refine ⟨fun e => if e = D.length then !true else F e, o :: r, h1, i1, f3, f4, f5, ?_, fun w => absurd w hd⟩
      rw [hlen, hsum, i2, if_pos rfl]
      rw [if_pos rfl] at hb
      omega
    | false =>
      refine ⟨fun e => if e = D.length then !false else F e, D.length :: o :: r, by rw [List.length_cons, h1]; rfl, ⟨rfl, by rw [hlen]; omega, by rw [hab]; exact i1⟩, fun x hx => ?_, f4, f5, ?_, fun w => absurd w (Nat.succ_ne_zero _)⟩
      · rcases List.mem_cons.mp hx with w | w
        · rw [w]; exact hG2
        · exact f3 x w
      · rw [hlen, hsum, if_neg (by decide)]
        rw [if_neg (by decide)] at hb
        show _ ≤ b + (3 + nl7 (dEl (D ++ [((a, cur, k, q, 0, []) : El7)]) D.length).2.2.1 + dbt (D ++ [((a, cur, k, q, 0, []) : El7)]) (o :: r))
        rw [i2, dEl_app]
        show _ ≤ b + (3 + nl7 k + dbt D (o :: r))
        omega
theorem DLI_end {cur : Int} {depth a b : Nat} {w : El7} (hn : ∀ i, n ≤ i → ch i = -1) (h : DLI ch n D cur depth a) (hd : ¬ depth = 0) (hw : D[cur.toNat]? = some w) (he : sEd ch n w.1 a = some b) : DLI ch n D w.2.1 (depth - 1) b := by
  obtain ⟨F, O, h1, h2, h3, h4, h5, h6, _⟩ := h
  cases O with
  | nil => exact absurd h1.symm hd
  | cons o r =>
    obtain ⟨hcu, hol, hlk⟩ := h2
    have eo : cur.toNat = o := by rw [hcu]; exact Int.toNat_natCast o
    have ew : dEl D o = w := by rw [eo] at hw; unfold dEl; rw [hw]; rfl
    obtain ⟨z, hz⟩ := h5 o hol
    rw [ew] at hz
    obtain ⟨l1, l2⟩ := sEd_len he hz
    have hab : dAb D o = w.2.1 := by unfold dAb; rw [ew]
    rw [hab] at hlk
    refine ⟨F, r, by rw [List.length_cons] at h1; omega, hlk, fun x hx => h3 x (List.mem_cons_of_mem _ hx), h4, h5, ?_, fun _ => ?_⟩
    · have e2 : dbt D (o :: r) = 3 + nl7 (dEl D o).2.2.1 + dbt D r := rfl
      rw [e2, ew] at h6
      omega
    · by_cases q : b ≤ n
      · exact q
      · have := hn (b - 1) (by omega)
        rw [this] at l2; exact absurd l2 (by decide)
theorem DLI_st {cur c2 : Int} {depth d2 a b : Nat} (hn : ∀ i, n ≤ i → ch i = -1) (hd : ¬ depth = 0) (hI : DLI ch n D cur depth a) (h : sSt ch n D cur depth a = some (D2, c2, d2, b)) : DLI ch n D2 c2 d2 b := by
  have hlt := sSt_lt h
  have rf : PRE7 D D := ⟨Nat.le_refl _, fun _ _ => ⟨rfl, rfl, rfl, rfl⟩⟩
  unfold sSt at h
  split at h
  · split at h
    · cases hc : sCom ch n a with
      | none => rw [hc] at h; cases h
      | some e => rw [hc] at h; cases h; exact DLI_s hI rf rfl (by omega) hd
    · split at h
      · cases hw : D[cur.toNat]? with
        | none => rw [hw] at h; cases h
        | some w =>
          rw [hw] at h
          have h : (match sEd ch n w.1 a with | none => none | some b => some (D, w.2.1, depth - 1, b)) = some (D2, c2, d2, b) := h
          cases hc : sEd ch n w.1 a with
          | none => rw [hc] at h; cases h
          | some e => rw [hc] at h; cases h; exact DLI_end hn hI hd hw hc
      · cases hc : sOp ch n D.length depth a with
        | none => rw [hc] at h; cases h
        | some w =>
          obtain ⟨k, q, c, e⟩ := w
          rw [hc] at h; cases h
          obtain ⟨l1, l2, _⟩ := sOp_len hc
          exact DLI_new hI hd l1 l2
  · cases hc : sCh ch a with
    | none => rw [hc] at h; cases h
    | some r =>
      obtain ⟨x, e⟩ := r
      rw [hc] at h
      cases hw : D[cur.toNat]? with
      | none => rw [hw] at h; cases h
      | some w =>
        rw [hw] at h
        have h : (match sTx w.2.2.2.2.1 w.2.2.2.2.2 x with | none => none | some (ts, te) => some (D.set cur.toNat (w.1, w.2.1, w.2.2.1, w.2.2.2.1, ts, te), cur, depth, e + 1)) = some (D2, c2, d2, b) := h
        cases ht : sTx w.2.2.2.2.1 w.2.2.2.2.2 x with
        | none => rw [ht] at h; cases h
        | some t =>
          obtain ⟨ts, te⟩ := t
          rw [ht] at h
          cases h
          exact DLI_s hI (PRE_set hw ⟨rfl, rfl, rfl, rfl⟩) (by rw [List.length_set]) (by omega) hd
theorem doF_len (hn : ∀ i, n ≤ i → ch i = -1) : ∀ f D cur depth a r, DLI ch n D cur depth a → doF ch n f D cur depth a = some r → ∃ F : Nat → Bool, (∀ e, e < r.1.length → 0 ≤ dAb r.1 e → F (dAb r.1 e).toNat = true) ∧ sB (cF7 r.1 F) r.1.length ≤ n := by
  have fin : ∀ D cur a, DLI ch n D cur 0 a → ∃ F : Nat → Bool, (∀ e, e < D.length → 0 ≤ dAb D e → F (dAb D e).toNat = true) ∧ sB (cF7 D F) D.length ≤ n := by
    intro D cur a h
    obtain ⟨F, O, h1, _, _, h4, _, h6, h7⟩ := h
    have hO : O = [] := List.eq_nil_of_length_eq_zero h1
    rw [hO] at h6
    have h6 : sB (cF7 D F) D.length ≤ a + 0 := h6
    have := h7 rfl
    exact ⟨F, fun e he => (h4 e he).2, by omega⟩
  intro f
  induction f with
  | zero =>
    intro D cur depth a r hI h
    have h : (if depth = 0 then some (D, a) else none) = some r := h
    split at h
    · rename_i q
      cases h
      rw [q] at hI
      exact fin D cur a hI
    · cases h
  | succ f ih =>
    intro D cur depth a r hI h
    have h : (if depth = 0 then some (D, a) else match sSt ch n D cur depth a with | none => none | some (D2, c2, d2, b) => doF ch n f D2 c2 d2 b) = some r := h
    split at h
    · rename_i q
      cases h
      rw [q] at hI
      exact fin D cur a hI
    · rename_i q
      cases hc : sSt ch n D cur depth a with
      | none => rw [hc] at h; cases h
      | some w =>
        obtain ⟨D2, c2, d2, b⟩ := w
        rw [hc] at h
        exact ih _ _ _ _ _ (DLI_st hn q hI hc) h
/-- the elements of a document take no more than its text has -/
theorem sDoc_len (hn : ∀ i, n ≤ i → ch i = -1) {D : List El7} (h : sDoc ch n = some D) : ∃ F : Nat → Bool, (∀ e, e < D.length → 0 ≤ dAb D e → F (dAb D e).toNat = true) ∧ sB (cF7 D F) D.length ≤ n := by
  unfold sDoc at h
  cases h1 : sBet ch n 0 with
  | none => rw [h1] at h; cases h
  | some a =>
    rw [h1] at h
    dsimp only at h
    cases h2 : sOp ch n 0 0 a with
    | none => rw [h2] at h; cases h
    | some w =>
      obtain ⟨k, q, c, b⟩ := w
      rw [h2] at h
      dsimp only at h
      cases h3 : sDo ch n [(a, -1, k, q, 0, [])] (if c = true then -1 else 0) (if c = true then 0 else 1) b with
      | none => rw [h3] at h; cases h
      | some w2 =>
        obtain ⟨D2, e⟩ := w2
        rw [h3] at h
        dsimp only at h
        cases h4 : sBet ch n e with
        | none => rw [h4] at h; cases h
        | some e2 =>
          rw [h4] at h
          dsimp only at h
          split at h
          · cases h
            refine doF_len hn _ _ _ _ _ _ ?_ h3
            obtain ⟨l1, l2, l3⟩ := sOp_len h2
            have hbn : b ≤ n := by
              by_cases w : b ≤ n
              · exact w
              · have := hn (b - 1) (by omega)
                rw [this] at l3; exact absurd l3 (by decide)
            have e0 : ∀ x, x < ([((a, -1, k, q, 0, []) : El7)]).length → x = 0 := fun x hx => by
              have hx : x < 1 := hx
              omega
            have d0 : dEl [((a, -1, k, q, 0, []) : El7)] 0 = (a, -1, k, q, 0, []) := rfl
            have n5 : ∀ x, x < ([((a, -1, k, q, 0, []) : El7)]).length → ∃ b, sNm ch ((dEl [((a, -1, k, q, 0, []) : El7)] x).1 + 1) = some ((dEl [((a, -1, k, q, 0, []) : El7)] x).2.2.1, b) := fun x hx => by
              rw [e0 x hx, d0]; exact l2
            have ab : ∀ x, x < ([((a, -1, k, q, 0, []) : El7)]).length → dAb [((a, -1, k, q, 0, []) : El7)] x = -1 := fun x hx => by rw [e0 x hx]; rfl
            cases c with
            | true =>
              rw [if_pos rfl] at l1
              refine ⟨fun _ => false, [], rfl, trivial, (fun o ho => by cases ho), fun x hx => ?_, n5, ?_, fun _ => hbn⟩
              · rw [ab x hx]; exact ⟨by omega, fun w => absurd w (by decide)⟩
              · show 0 + (1 + nl7 k + aC7 q + 2) ≤ b + 0
                omega
            | false =>
              rw [if_neg (by decide)] at l1
              refine ⟨fun _ => true, [0], rfl, ⟨rfl, Nat.zero_lt_one, trivial⟩, fun o ho => rfl, fun x hx => ?_, n5, ?_, fun w => absurd w (by decide)⟩
              · rw [ab x hx]; exact ⟨by omega, fun w => absurd w (by decide)⟩
              · show 0 + (1 + nl7 k + aC7 q + (4 + nl7 k)) ≤ b + (3 + nl7 k + 0)
                omega
          · cases h
end DL9s
end
section
section AC9
variable {D : List El7} {q : At7} {k : Int64} {e : Nat} {F : Nat → Bool}
/-- what one attribute takes -/
def aC1 (q : At7) (k : Int64) : Nat := match gA q k with
  | none => 0
  | some v => nl7 k + 4 + v.length
def aCs (q : At7) : List Int64 → Nat
  | [] => 0
  | k :: r => aC1 q k + aCs q r
theorem gA_cons {y : Int64 × List Int} {r : At7} : gA (y :: r) k = if y.1 = k then some y.2 else gA r k := by
  unfold gA
  rw [List.find?_cons]
  by_cases h : y.1 = k
  · rw [if_pos h, show (y.1 == k) = true from beq_iff_eq.mpr h]
  · rw [if_neg h, show (y.1 == k) = false from beq_eq_false_iff_ne.mpr h]
theorem aC1_c {y : Int64 × List Int} {r : At7} : aC1 (y :: r) k = if y.1 = k then nl7 k + 4 + y.2.length else aC1 r k := by
  unfold aC1
  rw [gA_cons]
  by_cases h : y.1 = k
  · rw [if_pos h, if_pos h]
  · rw [if_neg h, if_neg h]
theorem aCs_c {y : Int64 × List Int} {r : At7} : ∀ ks : List Int64, ks.Nodup → aCs (y :: r) ks ≤ (if y.1 ∈ ks then nl7 y.1 + 4 + y.2.length else 0) + aCs r ks
  | [], _ => Nat.zero_le _
  | k :: ks, h => by
    have hn := List.nodup_cons.mp h
    have ih := aCs_c (y := y) (r := r) ks hn.2
    show aC1 (y :: r) k + aCs (y :: r) ks ≤ (if y.1 ∈ k :: ks then nl7 y.1 + 4 + y.2.length else 0) + (aC1 r k + aCs r ks)
    rw [aC1_c]
    by_cases w : y.1 = k
    · rw [if_pos w, if_pos (by rw [w]; exact List.mem_cons_self ..)]
      rw [if_neg (by rw [w]; exact hn.1)] at ih
      rw [w]; omega
    · rw [if_neg w]
      by_cases u : y.1 ∈ ks
      · rw [if_pos u] at ih; rw [if_pos (List.mem_cons_of_mem _ u)]; omega
      · rw [if_neg u] at ih
        rw [if_neg (fun p => by
          rcases List.mem_cons.mp p with a | a
          · exact w a
          · exact u a)]
        omega
theorem aCs_0 : ∀ ks : List Int64, aCs [] ks = 0
  | [] => rfl
  | k :: ks => by show aC1 [] k + aCs [] ks = 0; rw [aCs_0 ks]; rfl
theorem aCs_le {ks : List Int64} (h : ks.Nodup) : ∀ q : At7, aCs q ks ≤ aC7 q
  | [] => by rw [aCs_0]; exact Nat.zero_le _
  | y :: r => by
    have := aCs_le h r
    have := aCs_c (y := y) (r := r) ks h
    show aCs (y :: r) ks ≤ nl7 y.1 + 4 + y.2.length + aC7 r
    split at this <;> omega
theorem aC1_s {v : List Int} (h : gA q k = some v) : aC1 q k = nl7 k + 4 + v.length := by unfold aC1; rw [h]
theorem nv_len (h : ¬ nv7 q k = 0) : nl7 k + 5 ≤ aC1 q k := by
  unfold nv7 at h
  by_cases w : aI q k = 1
  · cases hg : gA q k with
    | none => rw [aI_n hg] at w; exact absurd w (by decide)
    | some v =>
      rw [aI_s hg] at w
      by_cases u : 1 ≤ v.length ∧ v.length ≤ 8 ∧ allL v = true
      · rw [aC1_s hg]; have := u.1; omega
      · rw [if_neg u] at w; exact absurd w (by decide)
  · rw [if_neg w] at h; exact absurd rfl h
theorem lv_len (h : 0 ≤ lv7 q k) : nl7 k + 5 ≤ aC1 q k := by
  cases g : gA q k with
  | none => unfold lv7 at h; rw [g] at h; exact absurd (show (0 : Int) ≤ -1 from h) (by decide)
  | some v =>
    cases v with
    | nil => unfold lv7 at h; rw [g] at h; exact absurd (show (0 : Int) ≤ -1 from h) (by decide)
    | cons c r => rw [aC1_s g, List.length_cons]; omega
theorem cv_len (h : 0 ≤ cv7 q k) : nl7 k + 6 ≤ aC1 q k := by
  cases g : gA q k with
  | none => unfold cv7 at h; rw [g] at h; exact absurd (show (0 : Int) ≤ -1 from h) (by decide)
  | some v =>
    cases v with
    | nil => unfold cv7 at h; rw [g] at h; exact absurd (show (0 : Int) ≤ -1 from h) (by decide)
    | cons c r =>
      cases r with
      | nil => unfold cv7 at h; rw [g] at h; exact absurd (show (0 : Int) ≤ -1 from h) (by decide)
      | cons d t => rw [aC1_s g, List.length_cons, List.length_cons]; omega
/-- the share of an element, and the names in it -/
def bs7 (D : List El7) (e : Nat) : Nat := if dKd D e = 3 then (if aH (dAt D e) 26980 = 1 then 25 else 18) else if (dKd D e = 4 ∨ dKd D e = 5 ∨ dKd D e = 6) ∧ 0 < dCn D e then 11 else 0
/-- the names of an element at a place -/
def oN9 (D : List El7) (e : Nat) (n m : Int) (k : Int64) : List Int64 := if (dKd D e = n ∨ dKd D e = m) ∧ aH (dAt D e) k = 1 then [nv7 (dAt D e) k] else []
def ocE (D : List El7) (e : Nat) : List Int64 := oN9 D e 3 3 28259031083541619 ++ (oN9 D e 3 3 28817527407604345 ++ (oN9 D e 4 5 7497062 ++ oN9 D e 8 8 1650811246))
def ocL (D : List El7) : Nat → List Int64
  | 0 => []
  | e + 1 => ocL D e ++ ocE D e
theorem oN_l {n m : Int} : (oN9 D e n m k).length = if (dKd D e = n ∨ dKd D e = m) ∧ aH (dAt D e) k = 1 then 1 else 0 := by
  unfold oN9
  split <;> rfl
theorem oN_m {n m : Int} (h : dKd D e = n ∨ dKd D e = m) (ha : aH (dAt D e) k = 1) : nv7 (dAt D e) k ∈ oN9 D e n m k := by
  unfold oN9; rw [if_pos ⟨h, ha⟩]; exact List.mem_singleton.mpr rfl
theorem ocL_l : ∀ m, (ocL D m).length = sB (fun e => (ocE D e).length) m
  | 0 => rfl
  | m + 1 => by
    show (ocL D m ++ ocE D m).length = sB (fun e => (ocE D e).length) m + (ocE D m).length
    rw [List.length_append, ocL_l m]
theorem ocL_m {v : Int64} (h : v ∈ ocE D e) : ∀ m, e < m → v ∈ ocL D m
  | 0, hm => by omega
  | m + 1, hm => by
    show v ∈ ocL D m ++ ocE D m
    by_cases w : e = m
    · rw [← w]; exact List.mem_append.mpr (Or.inr h)
    · exact List.mem_append.mpr (Or.inl (ocL_m h m (by omega)))
/-- a kind's name -/
theorem kd_key {k : Int} : (kd7 k = 3 → k = 1650811246) ∧ (kd7 k = 4 → k = 6386279) ∧ (kd7 k = 5 → k = 7562612) ∧ (kd7 k = 6 → k = 1818850164) ∧ (kd7 k = 8 → k = 7497062) := by
  unfold kd7
  refine ⟨fun h => ?_, fun h => ?_, fun h => ?_, fun h => ?_, fun h => ?_⟩ <;> · repeat (split at h <;> first | omega | skip)
theorem co_e (hd : PBd D) (he : e < D.length) (hF : 0 < dCn D e → F e = true) : bs7 D e + 12 * (ocE D e).length ≤ cF7 D F e := by
  have hG := hd.2.1 e he
  have hz := fun k => aH_z1 (q := dAt D e) (k := k)
  obtain ⟨k3, k4, k5, k6, k8⟩ := kd_key (k := (dEl D e).2.2.1.toInt)
  have hl : (ocE D e).length = (oN9 D e 3 3 28259031083541619).length + ((oN9 D e 3 3 28817527407604345).length + ((oN9 D e 4 5 7497062).length + (oN9 D e 8 8 1650811246).length)) := by
    unfold ocE; rw [List.length_append, List.length_append, List.length_append]
  rw [hl, oN_l, oN_l, oN_l, oN_l]
  unfold cF7 eC7 bs7
  by_cases h3 : dKd D e = 3
  · have hN := hG.2.2.1.2.1.resolve_left (fun p => p h3)
    obtain ⟨b1, b2, b3⟩ := hN
    have nk : nl7 (dEl D e).2.2.1 = 4 := by unfold nl7; rw [k3 h3]; decide
    have hA := aCs_le (ks := [26980, 427020088179, 123563833388660, 7017298113369039732, 120282512125796, 28259031083541619, 28817527407604345]) (by decide) (dAt D e)
    have hA : aC1 (dAt D e) 26980 + (aC1 (dAt D e) 427020088179 + (aC1 (dAt D e) 123563833388660 + (aC1 (dAt D e) 7017298113369039732 + (aC1 (dAt D e) 120282512125796 + (aC1 (dAt D e) 28259031083541619 + (aC1 (dAt D e) 28817527407604345 + 0)))))) ≤ aC7 (dEl D e).2.2.2.1 := hA
    have n1 : nl7 26980 = 2 := by decide
    have n2 : nl7 427020088179 = 5 := by decide
    have n3 : nl7 123563833388660 = 6 := by decide
    have n4 : nl7 7017298113369039732 = 8 := by decide
    have n5 : nl7 120282512125796 = 6 := by decide
    have n6 : nl7 28259031083541619 = 7 := by decide
    have n7 : nl7 28817527407604345 = 7 := by decide
    have c1 : aH (dAt D e) 26980 = 1 → 7 ≤ aC1 (dAt D e) 26980 := fun h => by have := nv_len (nm_ok hG.2.1 h (by decide)).1; omega
    have c2 : aH (dAt D e) 427020088179 = 1 → 11 ≤ aC1 (dAt D e) 427020088179 := fun h => by have := cv_len (cv_r hd he h); omega
    have c3 : aH (dAt D e) 123563833388660 = 1 → 11 ≤ aC1 (dAt D e) 123563833388660 := fun h => by have := nv_len (nm_ok hG.2.1 h (by decide)).1; omega
    have c4 : nv7 (dAt D e) 7017298113369039732 = 7955827 → 11 ≤ aC1 (dAt D e) 7017298113369039732 := fun h => by have := nv_len (q := dAt D e) (k := 7017298113369039732) (by rw [h]; decide); omega
    have c5 : aH (dAt D e) 120282512125796 = 1 → 11 ≤ aC1 (dAt D e) 120282512125796 := fun h => by have := lv_len (lv_r hd he h (by decide)); omega
    have c6 : aH (dAt D e) 28259031083541619 = 1 → 12 ≤ aC1 (dAt D e) 28259031083541619 := fun h => by have := nv_len (nm_ok hG.2.1 h (by decide)).1; omega
    have c7 : aH (dAt D e) 28817527407604345 = 1 → 12 ≤ aC1 (dAt D e) 28817527407604345 := fun h => by have := nv_len (nm_ok hG.2.1 h (by decide)).1; omega
    have hend : 2 ≤ (if F e = true then 4 + nl7 (dEl D e).2.2.1 else 2) := by split <;> omega
    rw [if_pos h3, if_neg (show ¬ ((dKd D e = 4 ∨ dKd D e = 5) ∧ aH (dAt D e) 7497062 = 1) by omega), if_neg (show ¬ ((dKd D e = 8 ∨ dKd D e = 8) ∧ aH (dAt D e) 1650811246 = 1) by omega), nk]
    rw [nk] at hend
    have z1 := hz 26980
    have z6 := hz 28259031083541619
    have z7 := hz 28817527407604345
    have z2 := hz 427020088179
    have z3 := hz 123563833388660
    have z5 := hz 120282512125796
    have key : 11 ≤ aC1 (dAt D e) 427020088179 + aC1 (dAt D e) 123563833388660 + aC1 (dAt D e) 7017298113369039732 + aC1 (dAt D e) 120282512125796 := by
      rcases b3 with w | w | w | w
      · have := c4 w; omega
      · have := c2 w; omega
      · have := c3 w; omega
      · have := c5 (b2.resolve_left (by omega)); omega
    by_cases i1 : aH (dAt D e) 26980 = 1
    · have := c1 i1
      rw [if_pos i1]
      split <;> split <;> (first | omega | (have := c6 (by omega); first | omega | (have := c7 (by omega); omega)) | (have := c7 (by omega); omega))
    · rw [if_neg i1]
      split <;> split <;> (first | omega | (have := c6 (by omega); first | omega | (have := c7 (by omega); omega)) | (have := c7 (by omega); omega))
  · rw [if_neg h3, if_neg (show ¬ ((dKd D e = 3 ∨ dKd D e = 3) ∧ aH (dAt D e) 28259031083541619 = 1) by omega), if_neg (show ¬ ((dKd D e = 3 ∨ dKd D e = 3) ∧ aH (dAt D e) 28817527407604345 = 1) by omega)]
    by_cases h45 : dKd D e = 4 ∨ dKd D e = 5
    · have nk : nl7 (dEl D e).2.2.1 = 3 := by
        unfold nl7
        rcases h45 with w | w
        · rw [k4 w]; decide
        · rw [k5 w]; decide
      have hC : aH (dAt D e) 508440638821 + aH (dAt D e) 7497062 + (dCn D e : Int) = 1 := by
        have hC := hG.2.2.2.2
        unfold CNT at hC
        omega
      have z1 := hz 508440638821
      have z2 := hz 7497062
      rw [if_neg (show ¬ ((dKd D e = 8 ∨ dKd D e = 8) ∧ aH (dAt D e) 1650811246 = 1) by omega), nk]
      by_cases hr : aH (dAt D e) 7497062 = 1
      · have hA := aCs_le (ks := [7497062]) (by decide) (dAt D e)
        have hA : aC1 (dAt D e) 7497062 + 0 ≤ aC7 (dEl D e).2.2.2.1 := hA
        have n1 : nl7 7497062 = 3 := by decide
        have := nv_len (nm_ok hG.2.1 hr (by decide)).1
        rw [if_neg (show ¬ ((dKd D e = 4 ∨ dKd D e = 5 ∨ dKd D e = 6) ∧ 0 < dCn D e) by omega), if_pos ⟨h45, hr⟩]
        split <;> omega
      · rw [if_neg (show ¬ ((dKd D e = 4 ∨ dKd D e = 5) ∧ aH (dAt D e) 7497062 = 1) by omega)]
        by_cases hc : 0 < dCn D e
        · rw [if_pos ⟨by omega, hc⟩, if_pos (hF hc)]; omega
        · rw [if_neg (fun p => hc p.2)]; omega
    · rw [if_neg (show ¬ ((dKd D e = 4 ∨ dKd D e = 5) ∧ aH (dAt D e) 7497062 = 1) by omega)]
      by_cases h8 : dKd D e = 8
      · have nk : nl7 (dEl D e).2.2.1 = 3 := by unfold nl7; rw [k8 h8]; decide
        have hA := aCs_le (ks := [1650811246]) (by decide) (dAt D e)
        have hA : aC1 (dAt D e) 1650811246 + 0 ≤ aC7 (dEl D e).2.2.2.1 := hA
        have n1 : nl7 1650811246 = 4 := by decide
        rw [if_neg (show ¬ ((dKd D e = 4 ∨ dKd D e = 5 ∨ dKd D e = 6) ∧ 0 < dCn D e) by omega), nk]
        by_cases hb : aH (dAt D e) 1650811246 = 1
        · have := nv_len (nm_ok hG.2.1 hb (by decide)).1
          rw [if_pos ⟨Or.inl h8, hb⟩]
          split <;> omega
        · rw [if_neg (fun p => hb p.2)]; omega
      · rw [if_neg (show ¬ ((dKd D e = 8 ∨ dKd D e = 8) ∧ aH (dAt D e) 1650811246 = 1) by omega)]
        by_cases h6 : (dKd D e = 4 ∨ dKd D e = 5 ∨ dKd D e = 6) ∧ 0 < dCn D e
        · have nk : nl7 (dEl D e).2.2.1 = 4 := by unfold nl7; rw [k6 (show dKd D e = 6 by omega)]; decide
          rw [if_pos h6, if_pos (hF h6.2), nk]; omega
        · rw [if_neg h6]; omega
theorem sB_add {f g h : Nat → Nat} {c : Nat} : ∀ m, (∀ e, e < m → f e + c * g e ≤ h e) → sB f m + c * sB g m ≤ sB h m
  | 0, _ => by show 0 + c * 0 ≤ 0; omega
  | m + 1, hh => by
    have ih := sB_add m (fun e he => hh e (by omega))
    have := hh m (by omega)
    show sB f m + f m + c * (sB g m + g m) ≤ sB h m + h m
    rw [Nat.mul_add]; omega
/-- all shares and all names: no more than the text -/
theorem co_all {n : Nat} (hd : PBd D) (hF : ∀ e, e < D.length → 0 ≤ dAb D e → F (dAb D e).toNat = true) (hn : sB (cF7 D F) D.length ≤ n) : sB (bs7 D) D.length + 12 * (ocL D D.length).length ≤ n := by
  rw [ocL_l]
  refine Nat.le_trans (sB_add D.length (fun e he => co_e hd he (fun hc => ?_))) hn
  have hl : 0 < (kc9 D e).length := by rw [kc_l]; exact hc
  obtain ⟨j, j1, j2, j3⟩ := kc_m (List.getElem_mem (l := kc9 D e) hl)
  have := hF j j1 (by omega)
  rw [j2, Int.toNat_natCast] at this
  exact this
end AC9
end
section
section SC9s
variable {D : List El7} {ws rs : Nat → Int32} {wg rg : Nat → Nat → Int32} {wl lg : Nat → Nat → Int64} {b a c x : Nat}
theorem kdL_in {q : Nat → Bool} : ∀ (n j k : Nat), j ≤ k → k < j + n → q k = true → nI k ∈ kdL q n j
  | 0, _, _, _, _, _ => by omega
  | n + 1, j, k, h1, h2, hq => by
    show nI k ∈ (if q j = true then nI j :: kdL q n (j + 1) else kdL q n (j + 1))
    by_cases w : j = k
    · rw [w, if_pos hq]; exact List.mem_cons_self ..
    · have ih := kdL_in n (j + 1) k (by omega) (by omega) hq
      split
      · exact List.mem_cons_of_mem _ ih
      · exact ih
theorem nb_q (hc : PBc D ws wg wl) (hr : PBr D rs rg lg) (hd : PBd D) : (ws 12).toNatClampNeg = (rs 41).toNatClampNeg := by
  have := (nb_e hc hr hd).1
  show (ws 12).toInt.toNat = (rs 41).toInt.toNat; omega
theorem liL_q {q : Nat} (h : a ∈ liL wg q) : ∃ z, z ∈ LQ wg q ∧ z.toNatClampNeg = a := by
  unfold liL at h
  obtain ⟨i, h1, h2⟩ := List.mem_map.mp h
  exact ⟨_, List.mem_map.mpr ⟨i, h1, rfl⟩, h2⟩
theorem hd_k (hc : PBc D ws wg wl) (hr : PBr D rs rg lg) (hd : PBd D) (hb : b < (ws 12).toNatClampNeg) (h : HD9 wg b a) : a < D.length ∧ (dKd D a = 4 ∨ dKd D a = 5) := by
  rw [nb_q hc hr hd] at hb
  rcases h with h | h
  · obtain ⟨z, z1, z2⟩ := liL_q h
    obtain ⟨k, k1, k2, k3, k4⟩ := (ar_l hc hr hd hb).2.2 z z1
    have : a = k := by omega
    rw [this]; exact ⟨k1, Or.inl k3⟩
  · obtain ⟨z, z1, z2⟩ := liL_q h
    obtain ⟨s1, s2⟩ := se_l hc hr hd hb
    rw [s1] at z1
    obtain ⟨k, k1, k2, k3, k4⟩ := s2 z z1
    have : a = k := by omega
    rw [this]; exact ⟨k1, Or.inr k3⟩
/-- what an arg or a set holds -/
theorem ct_c (hc : PBc D ws wg wl) (hd : PBd D) (ha : a < D.length) (hk : dKd D a = 4 ∨ dKd D a = 5) : (ctE wg a = a ∧ dCn D a = 0 ∧ (((wg 25 a).toInt = 7) ∨ ((wg 25 a).toInt = 8 ∧ wl 2 a = nv7 (dAt D a) 7497062 ∧ aH (dAt D a) 7497062 = 1))) ∨ (∃ m, ctE wg a = m ∧ m < D.length ∧ 0 < m ∧ dAb D m = (a : Int) ∧ 0 < dCn D a ∧ (dKd D m = 3 ∨ dKd D m = 6 ∨ dKd D m = 7 ∨ dKd D m = 8 ∨ dKd D m = 9) ∧ ∀ j, j < D.length → dAb D j = (a : Int) → j = m) := by
  have h80 := hd.2.2.2.2.2.1
  have hG := hd.2.1 a ha
  have hcn : aH (dAt D a) 508440638821 + aH (dAt D a) 7497062 + (dCn D a : Int) = 1 := by
    have hC := hG.2.2.2.2
    unfold CNT at hC
    omega
  have z1 := aH_z1 (q := dAt D a) (k := 508440638821)
  have z2 := aH_z1 (q := dAt D a) (k := 7497062)
  have s5 := (hc.2.2.2.1 a ha).2.2.2.2.1 hk
  by_cases w : dCn D a = 0
  · have h16 := fi_no hc.2.1 rfl (fun j hj => (hc.2.2.1 j hj).2) ha w
    rcases s5 with q | ⟨_, q, p⟩
    · omega
    · refine Or.inl ⟨by show (wg 26 a).toInt.toNat = a; omega, w, ?_⟩
      rcases p with ⟨_, p2, _⟩ | ⟨p1, p2, p3⟩
      · exact Or.inl p2
      · exact Or.inr ⟨p2, p3, by omega⟩
  · have hl : (kc9 D a).length = 1 := by rw [kc_l]; omega
    obtain ⟨u, hu⟩ := List.length_eq_one_iff.mp hl
    obtain ⟨m, m1, m2, m3⟩ := kc_m (show u ∈ kc9 D a by rw [hu]; exact List.mem_singleton.mpr rfl)
    have em : u.toNatClampNeg = m := by rw [m3]; exact nI_n (by omega)
    have tm := nI_toInt (n := m) (by omega)
    have h16 : wg 16 a = u := by
      have hk9 := ki_b hc hd ha
      rw [hu] at hk9
      have e : ki9 wg 80 (wg 16 a) = if (wg 16 a).toInt < 0 then [] else wg 16 a :: ki9 wg 79 (wg 17 (wg 16 a).toNatClampNeg) := rfl
      rw [e] at hk9
      by_cases q : (wg 16 a).toInt < 0
      · rw [if_pos q] at hk9; exact absurd hk9 (by simp)
      · rw [if_neg q] at hk9; exact (List.cons.inj hk9).1
    have ect : ctE wg a = m := by
      rcases s5 with ⟨_, q, _⟩ | ⟨q, _⟩
      · show (wg 26 a).toNatClampNeg = m
        rw [q, h16]; exact em
      · rw [h16, m3] at q; omega
    have hi : dIn D m = dKd D a := by unfold dIn; rw [if_neg (by omega), m2]; rfl
    have hS := (hd.2.1 m m1).1
    unfold STN at hS
    rw [hi] at hS
    have hm0 : 0 < m := by
      rcases Nat.eq_zero_or_pos m with q | q
      · rw [q, hd.1.1] at m2; omega
      · exact q
    refine Or.inr ⟨m, ect, m1, hm0, m2, by omega, by omega, fun j j1 j2 => ?_⟩
    have hj : nI j ∈ kc9 D a := by
      refine kdL_in D.length 0 j (Nat.zero_le _) (by omega) (decide_eq_true j2)
    rw [hu] at hj
    have := congrArg Int32.toInt (List.mem_singleton.mp hj)
    rw [m3, tm, nI_toInt (by omega)] at this
    omega
theorem k_25 (hc : PBc D ws wg wl) (hx : x < D.length) (h4 : ¬ dKd D x = 4) (h5 : ¬ dKd D x = 5) (h1 : 1 ≤ dKd D x) : (wg 25 x).toInt = wkF (dKd D x) := by
  rw [(hc.2.2.2.1 x hx).2.2.2.2.2.1 h4 h5, KW_j (hc.2.2.1 x hx).1 h1]
theorem kd_pos (hd : PBd D) (hx : x < D.length) : 1 ≤ dKd D x := by
  have hS := (hd.2.1 x hx).1
  unfold STN at hS
  omega
/-- an element that names a bean within: a bean there -/
theorem i27 (hc : PBc D ws wg wl) (hr : PBr D rs rg lg) (hd : PBd D) (hx : x < D.length) (h : 0 ≤ (wg 27 x).toInt) (hin : ¬ dAb D x = 0) : dKd D x = 3 ∧ wl 4 (wg 27 x).toInt.toNat = 0 ∧ (wg 27 x).toInt.toNat < (ws 12).toNatClampNeg := by
  have hk : dKd D x = 3 := Classical.byContradiction (fun q => by have := hc.2.2.2.2.2.1.2.2.1 x hx q; omega)
  obtain ⟨i1, i2, i3, i4, _⟩ := in_b hc hr hd hx hk hin
  have e : (rg 43 x).toNatClampNeg = (wg 27 x).toInt.toNat := by rw [i1]; rfl
  rw [e] at i4
  refine ⟨hk, i4, ?_⟩
  rw [nb_q hc hr hd]
  show _ < (rs 41).toInt.toNat; omega
theorem it_m (hc : PBc D ws wg wl) (hd : PBd D) (hx : c < D.length) (h6 : dKd D c = 6) (hz : x ∈ itC wg c) : x < D.length ∧ dAb D x = (c : Int) ∧ (dKd D x = 3 ∨ dKd D x = 7 ∨ dKd D x = 8 ∨ dKd D x = 9) := by
  have h80 := hd.2.2.2.2.2.1
  have hcn : dCn D c ≤ 6 := by
    have hC := (hd.2.1 c hx).2.2.2.2
    unfold CNT at hC
    omega
  rw [it_c hc hd hx hcn] at hz
  obtain ⟨u, u1, u2⟩ := List.mem_map.mp hz
  obtain ⟨m, m1, m2, m3⟩ := kc_m u1
  have hm : x = m := by rw [← u2, m3]; exact nI_n (by omega)
  rw [hm]
  have hi : dIn D m = 6 := by unfold dIn; rw [if_neg (by omega), m2]; exact h6
  have hS := (hd.2.1 m m1).1
  unfold STN at hS
  rw [hi] at hS
  exact ⟨m1, m2, by omega⟩
/-- a list that is held -/
theorem ct_6 (hc : PBc D ws wg wl) (hd : PBd D) (ha : a < D.length) (hk : dKd D a = 4 ∨ dKd D a = 5) (h6 : (wg 25 (ctE wg a)).toInt = 6) : ctE wg a < D.length ∧ 0 < ctE wg a ∧ dKd D (ctE wg a) = 6 ∧ dAb D (ctE wg a) = (a : Int) ∧ 0 < dCn D a ∧ ∀ j, j < D.length → dAb D j = (a : Int) → j = ctE wg a := by
  rcases ct_c hc hd ha hk with ⟨q1, _, q3⟩ | ⟨m, q1, q2, q3, q4, q5, q6, q7⟩
  · rw [q1] at h6; omega
  · rw [q1] at h6 ⊢
    have := k_25 hc q2 (by omega) (by omega) (by omega)
    rw [h6] at this
    refine ⟨q2, q3, ?_, q4, q5, q7⟩
    rcases q6 with p | p | p | p | p
    · rw [p] at this; exact absurd this (by decide)
    · exact p
    · rw [p] at this; exact absurd this (by decide)
    · rw [p] at this; exact absurd this (by decide)
    · rw [p] at this; exact absurd this (by decide)
theorem IN_of (hc : PBc D ws wg wl) (hr : PBr D rs rg lg) (hd : PBd D) : IN9 wg wl (ws 12).toNatClampNeg := by
  intro b hb a hA
  obtain ⟨a1, a2⟩ := hd_k hc hr hd hb hA
  have ha0 : 0 < a := by
    rcases Nat.eq_zero_or_pos a with q | q
    · rw [q, root_k hd.1 hd.2.1 (by omega)] at a2; omega
    · exact q
  refine ⟨fun _ h27 => ?_, fun h6 e he _ _ h27 => ?_⟩
  · rcases ct_c hc hd a1 a2 with ⟨q1, _, _⟩ | ⟨m, q1, q2, q3, q4, _⟩
    · rw [q1] at h27
      have := hc.2.2.2.2.2.1.2.2.1 a a1 (by omega)
      omega
    · rw [q1] at h27 ⊢
      exact (i27 hc hr hd q2 h27 (by omega)).2
  · obtain ⟨c1, c2, c3, c4, _⟩ := ct_6 hc hd a1 a2 h6
    obtain ⟨e1, e2, _⟩ := it_m hc hd c1 c3 he
    exact (i27 hc hr hd e1 h27 (by omega)).2
end SC9s
end
section
section CT8
variable {D : List El7} {ws rs : Nat → Int32} {wg rg : Nat → Nat → Int32} {wl lg : Nat → Nat → Int64} {b a c x t : Nat}
theorem el_t (hc : PBc D ws wg wl) (hr : PBr D rs rg lg) (hd : PBd D) (ht : t < (ws 12).toNatClampNeg) : 0 < elD D t ∧ elD D t < D.length ∧ dKd D (elD D t) = 3 ∧ (wg 27 (elD D t)).toInt = (t : Int) ∧ BH9 (dAt D (elD D t)) wg wl t ∧ (rg 42 t).toInt = (elD D t : Int) := by
  rw [nb_q hc hr hd] at ht
  obtain ⟨y, y0, y1, y2, y3, y4, y5, y6, y7, y8⟩ := bn_y hc hr hd ht
  have e : elD D t = y := by unfold elD; rw [y0]; rfl
  rw [e]
  exact ⟨y1, y2, y3, y7, y8, y4⟩
abbrev ou9 (D : List El7) (t : Nat) : Nat := (dAb D (elD D t)).toNat
abbrev hl9D (D : List El7) (c : Nat) : Nat := (dAb D c).toNat
/-- a bean without an id stands in an arg, a set or a list -/
theorem ou_t (hc : PBc D ws wg wl) (hr : PBr D rs rg lg) (hd : PBd D) (ht : t < (ws 12).toNatClampNeg) (h4 : wl 4 t = 0) : 0 < ou9 D t ∧ ou9 D t < D.length ∧ (dKd D (ou9 D t) = 4 ∨ dKd D (ou9 D t) = 5 ∨ dKd D (ou9 D t) = 6) ∧ 0 < dCn D (ou9 D t) ∧ dAb D (elD D t) = (ou9 D t : Int) := by
  obtain ⟨e1, e2, e3, e4, e5, e6⟩ := el_t hc hr hd ht
  have hi : ¬ aH (dAt D (elD D t)) 26980 = 1 := fun q => (nm_ok (hd.2.1 _ e2).2.1 q (by decide)).1 (by rw [← e5.1]; exact h4)
  have h0 : ¬ dAb D (elD D t) = 0 := fun q => hi ((id_root hd.1 hd.2.1 e2 e3).mp q)
  obtain ⟨a1, a2⟩ := hd.1.2 _ e1 e2
  have ha : dAb D (elD D t) = (ou9 D t : Int) := by unfold ou9; omega
  have hlt : ou9 D t < D.length := by unfold ou9; omega
  have hpos : 0 < ou9 D t := by unfold ou9; omega
  have hin : dIn D (elD D t) = dKd D (ou9 D t) := by unfold dIn; rw [if_neg (by omega)]
  have hS := (hd.2.1 _ e2).1
  unfold STN at hS
  rw [hin] at hS
  have hS2 := (hd.2.1 _ hlt).1
  unfold STN at hS2
  have hb := (hd.1.2 _ hpos hlt).1
  refine ⟨hpos, hlt, by omega, ?_, ha⟩
  have hm : nI (elD D t) ∈ kc9 D (ou9 D t) := kdL_in D.length 0 _ (Nat.zero_le _) (by omega) (decide_eq_true ha)
  rw [← kc_l]
  exact List.length_pos_of_mem hm
theorem bs_h (h : dKd D x = 4 ∨ dKd D x = 5 ∨ dKd D x = 6) (hc : 0 < dCn D x) : 11 ≤ bs7 D x := by
  unfold bs7
  rw [if_neg (by omega), if_pos ⟨h, hc⟩]
  exact Nat.le_refl _
/-- the factory of a bean: a name of the text -/
theorem fc_n (hc : PBc D ws wg wl) (hr : PBr D rs rg lg) (hd : PBd D) (hb : b < (ws 12).toNatClampNeg) (h : ¬ wl 7 b = 0) : wl 7 b ∈ ocL D D.length := by
  have hb2 := hb
  rw [nb_q hc hr hd] at hb2
  obtain ⟨c1, c2, c3, c4⟩ := ch_e hc hr hd hb2
  have hM := hc.2.2.2.2.2.2.1 b hb
  rw [c1] at hM
  have m7 : wl 7 b = match fA9 D wg 28817527407604345 (CH_b rs rg lg b) with | none => 0 | some c => nv7 (dAt D (elW wg c)) 28817527407604345 := (show wl 7 b = (mgF D wg (CH_b rs rg lg b) MB0).2.1 by rw [← hM]; rfl).trans (mgt_7 _)
  rcases tl_c hc hr hd hb2 28817527407604345 with ⟨t1, t2⟩ | ⟨c, z, t1, t2, t3, t4, t5, t6, t7, t8⟩
  · rw [t2] at m7; exact absurd m7 h
  · rw [t1] at m7
    have m7 : wl 7 b = nv7 (dAt D (elW wg c)) 28817527407604345 := m7
    rw [t5] at m7
    rw [m7]
    refine ocL_m (e := z) ?_ D.length t3
    unfold ocE
    exact List.mem_append.mpr (Or.inr (List.mem_append.mpr (Or.inl (oN_m (Or.inl t4) t8))))
theorem rf_n (hd : PBd D) (hx : x < D.length) (h : dKd D x = 4 ∨ dKd D x = 5) (ha : aH (dAt D x) 7497062 = 1) : nv7 (dAt D x) 7497062 ∈ ocL D D.length := by
  refine ocL_m (e := x) ?_ D.length hx
  unfold ocE
  exact List.mem_append.mpr (Or.inr (List.mem_append.mpr (Or.inr (List.mem_append.mpr (Or.inl (oN_m h ha))))))
theorem bn_n (hd : PBd D) (hx : x < D.length) (h : dKd D x = 8) : nv7 (dAt D x) 1650811246 ∈ ocL D D.length := by
  refine ocL_m (e := x) ?_ D.length hx
  unfold ocE
  have ha : aH (dAt D x) 1650811246 = 1 := (hd.2.1 x hx).2.2.1.2.2.2.1.resolve_left (fun p => p h)
  exact List.mem_append.mpr (Or.inr (List.mem_append.mpr (Or.inr (List.mem_append.mpr (Or.inr (oN_m (Or.inl h) ha))))))
theorem nmo_n (hc : PBc D ws wg wl) (hr : PBr D rs rg lg) (hd : PBd D) (hb : b < (ws 12).toNatClampNeg) {v : Int64} (h : NM9 wg wl b v) : v ∈ ocL D D.length := by
  rcases h with ⟨h1, h2⟩ | ⟨h1, h2⟩ | ⟨a, hA, h⟩
  · obtain ⟨e1, e2, e3, e4, e5, e6⟩ := el_t hc hr hd hb
    have h6 := e5.2.2.1
    rw [h2, h6]
    refine ocL_m (e := elD D b) ?_ D.length e2
    unfold ocE
    refine List.mem_append.mpr (Or.inl (oN_m (Or.inl e3) ?_))
    rcases aH_z1 (q := dAt D (elD D b)) (k := 28259031083541619) with w | w
    · rw [h6, nv_0 w] at h1; exact absurd rfl h1
    · exact w
  · rw [h2]; exact fc_n hc hr hd hb h1
  · obtain ⟨a1, a2⟩ := hd_k hc hr hd hb hA
    have ha0 : 0 < a := by
      rcases Nat.eq_zero_or_pos a with q | q
      · rw [q, root_k hd.1 hd.2.1 (by omega)] at a2; omega
      · exact q
    rcases h with ⟨h8, h27, hv⟩ | ⟨h6, e, he, n7, n9, h27, hv⟩
    · rw [hv]
      rcases ct_c hc hd a1 a2 with ⟨q1, _, q3⟩ | ⟨m, q1, q2, q3, q4, _, q6, _⟩
      · rw [q1] at h8 ⊢
        rcases q3 with p | ⟨p1, p2, p3⟩
        · rcases h8 with u | u <;> omega
        · rw [p2]; exact rf_n hd a1 a2 p3
      · rw [q1] at h8 h27 ⊢
        have k25 := k_25 hc q2 (by omega) (by omega) (by omega)
        rcases q6 with p | p | p | p | p
        · have := (in_b hc hr hd q2 p (by omega))
          omega
        · rw [p] at k25
          have : wkF 6 = 6 := by decide
          rcases h8 with u | u <;> omega
        · rw [p] at k25
          have : wkF 7 = 7 := by decide
          rcases h8 with u | u <;> omega
        · rw [(hc.2.2.2.1 m q2).2.2.1 (Or.inr p)]; exact bn_n hd q2 p
        · rw [p] at k25
          have : wkF 9 = 9 := by decide
          rcases h8 with u | u <;> omega
    · rw [hv]
      obtain ⟨c1, c2, c3, c4, _⟩ := ct_6 hc hd a1 a2 h6
      obtain ⟨e1, e2, e3⟩ := it_m hc hd c1 c3 he
      have k25 := k_25 hc e1 (by omega) (by omega) (by omega)
      rcases e3 with p | p | p | p
      · have := (in_b hc hr hd e1 p (by omega))
        omega
      · rw [p] at k25
        have : wkF 7 = 7 := by decide
        omega
      · rw [(hc.2.2.2.1 e e1).2.2.1 (Or.inr p)]; exact bn_n hd e1 p
      · rw [p] at k25
        have : wkF 9 = 9 := by decide
        omega
/-- the bean within an element -/
theorem el_27 (hc : PBc D ws wg wl) (hr : PBr D rs rg lg) (hd : PBd D) (hx : x < D.length) (h : 0 ≤ (wg 27 x).toInt) (hin : ¬ dAb D x = 0) : elD D (wg 27 x).toInt.toNat = x := by
  have hk := (i27 hc hr hd hx h hin).1
  obtain ⟨b, hb⟩ := List.mem_iff_getElem?.mp ((bsN_m D.length x).mpr ⟨hx, hk⟩)
  obtain ⟨_, _, d3⟩ := hc.2.2.2.2.2.1.2.1 b x hb
  have e : (wg 27 x).toInt.toNat = b := by omega
  rw [e]
  unfold elD
  rw [hb]; rfl
theorem CS_of (hc : PBc D ws wg wl) (hr : PBr D rs rg lg) (hd : PBd D) : CS9 ws wg wl (ws 12).toNatClampNeg D.length (bs7 D) (ocL D D.length) (elD D) (ou9 D) (hl9D D) := by
  have h80 := hd.2.2.2.2.2.1
  refine ⟨h80, fun t ht => ?_, fun t u ht hu he => ?_, fun b hb v hv => nmo_n hc hr hd hb hv, fun t ht h4 => ?_, fun b hb a hA h8 h27 u hu h4 hou => ?_, fun b hb a hA h6 => ?_, fun b a b2 a2 hb hb2 hA hA2 h6 h62 hh => ?_⟩
  · obtain ⟨e1, e2, e3, e4, e5, e6⟩ := el_t hc hr hd ht
    refine ⟨e1, e2, fun h4 => ?_, ?_⟩
    · unfold bs7
      have : aH (dAt D (elD D t)) 26980 = 1 := by
        rcases aH_z1 (q := dAt D (elD D t)) (k := 26980) with w | w
        · rw [e5.1, nv_0 w] at h4; exact absurd rfl h4
        · exact w
      rw [if_pos e3, if_pos this]; exact Nat.le_refl _
    · unfold bs7
      rw [if_pos e3]
      split <;> omega
  · obtain ⟨_, _, _, e4, _⟩ := el_t hc hr hd ht
    obtain ⟨_, _, _, u4, _⟩ := el_t hc hr hd hu
    rw [he] at e4; omega
  · obtain ⟨o1, o2, o3, o4, o5⟩ := ou_t hc hr hd ht h4
    refine ⟨o1, o2, bs_h o3 o4, fun u hu he => ?_⟩
    obtain ⟨_, _, u3, _⟩ := el_t hc hr hd hu
    rw [← he] at u3; omega
  · obtain ⟨a1, a2⟩ := hd_k hc hr hd hb hA
    rcases ct_c hc hd a1 a2 with ⟨q1, _, _⟩ | ⟨m, q1, q2, q3, q4, q5, q6, q7⟩
    · rw [q1] at h27
      have := hc.2.2.2.2.2.1.2.2.1 a a1 (by omega)
      omega
    · rw [q1] at h27 hou ⊢
      have ha0 : 0 < a := by
        rcases Nat.eq_zero_or_pos a with q | q
        · rw [q, root_k hd.1 hd.2.1 (by omega)] at a2; omega
        · exact q
      have hm := el_27 hc hr hd q2 h27 (by omega)
      have e2 : ou9 D (wg 27 m).toInt.toNat = a := by unfold ou9; rw [hm, q4]; exact Int.toNat_natCast a
      rw [e2] at hou
      obtain ⟨o1, o2, o3, o4, o5⟩ := ou_t hc hr hd hu h4
      rw [hou] at o5
      obtain ⟨u1, u2, u3, u4, _⟩ := el_t hc hr hd hu
      have := q7 _ u2 o5
      rw [this] at u4; omega
  · obtain ⟨a1, a2⟩ := hd_k hc hr hd hb hA
    obtain ⟨c1, c2, c3, c4, c5, c6⟩ := ct_6 hc hd a1 a2 h6
    have ha0 : 0 < a := by
      rcases Nat.eq_zero_or_pos a with q | q
      · rw [q, root_k hd.1 hd.2.1 (by omega)] at a2; omega
      · exact q
    have hh : hl9D D (ctE wg a) = a := by unfold hl9D; rw [c4]; exact Int.toNat_natCast a
    rw [hh]
    refine ⟨fun e he n7 n9 h27 => ?_, ha0, a1, bs_h (by omega) c5, fun u hu he => ?_, fun u hu h4 he => ?_⟩
    · obtain ⟨e1, e2, e3⟩ := it_m hc hd c1 c3 he
      have hm := el_27 hc hr hd e1 h27 (by omega)
      unfold ou9
      rw [hm, e2]; exact Int.toNat_natCast _
    · obtain ⟨_, _, u3, _⟩ := el_t hc hr hd hu
      rw [← he] at u3; omega
    · obtain ⟨o1, o2, o3, o4, o5⟩ := ou_t hc hr hd hu h4
      rw [← he] at o5
      obtain ⟨u1, u2, u3, u4, _⟩ := el_t hc hr hd hu
      have := c6 _ u2 o5
      rw [this] at u3; omega
  · obtain ⟨a1, a3⟩ := hd_k hc hr hd hb hA
    obtain ⟨d1, d3⟩ := hd_k hc hr hd hb2 hA2
    obtain ⟨c1, c2, c3, c4, c5, c6⟩ := ct_6 hc hd a1 a3 h6
    obtain ⟨f1, f2, f3, f4, f5, f6⟩ := ct_6 hc hd d1 d3 h62
    have h1 : hl9D D (ctE wg a) = a := by unfold hl9D; rw [c4]; exact Int.toNat_natCast a
    have h2 : hl9D D (ctE wg a2) = a2 := by unfold hl9D; rw [f4]; exact Int.toNat_natCast a2
    rw [h1, h2] at hh
    rw [hh]
theorem SB_of (hc : PBc D ws wg wl) (hr : PBr D rs rg lg) (hd : PBd D) : SB9 ws wg wl := by
  intro b hb
  have hb2 := hb
  rw [nb_q hc hr hd] at hb2
  obtain ⟨_, _, _, _, _, _, s7, _, s9, s31, _⟩ := BNs_b hc hr hd hb2
  refine ⟨?_, fun h7 => ?_⟩
  · by_cases q : mTel rs rg lg (nI b) 427020088179 = -1
    · rw [s9.1 q]; omega
    · rcases s9.2 q with ⟨w, _⟩ | ⟨w1, w2⟩ <;> omega
  · have hm := (s7.mpr h7).2
    rw [← s31]
    unfold ltR
    rcases tl_c hc hr hd hb2 120282512125796 with ⟨t1, t2⟩ | ⟨c, y, t1, t2, t3, t4, t5, t6, t7, t8⟩
    · exact absurd t1 hm
    · have h0 := lv_r hd t3 t8 (by decide)
      obtain ⟨w1, w2, w3⟩ := lv_w (hd.2.2.2.1 y t3) h0
      rw [if_neg t7, t6, (hr.2.1 y t3).1.1, w32_l w1 h0 w2 (by decide) (by decide)]
      omega
theorem fst_at {q : Nat → Bool} : ∀ (n j : Nat), (∀ k, j ≤ k → k < j + n → q k = false) ∨ ∃ i, j ≤ i ∧ i < j + n ∧ fstB q n j = nI i ∧ q i = true
  | 0, j => Or.inl (fun k h1 h2 => by omega)
  | n + 1, j => by
    have e : fstB q (n + 1) j = if q j = true then nI j else fstB q n (j + 1) := rfl
    rw [e]
    cases w : q j with
    | true => exact Or.inr ⟨j, Nat.le_refl _, by omega, if_pos rfl, w⟩
    | false =>
      rw [if_neg (by decide)]
      rcases fst_at (q := q) n (j + 1) with p | ⟨i, i1, i2, i3, i4⟩
      · refine Or.inl (fun k h1 h2 => ?_)
        by_cases u : k = j
        · rw [u]; exact w
        · exact p k (by omega) (by omega)
      · exact Or.inr ⟨i, by omega, by omega, i3, i4⟩
/-- an id calls its own bean -/
theorem id_own (hc : PBc D ws wg wl) (hr : PBr D rs rg lg) (hd : PBd D) (hb : b < (ws 12).toNatClampNeg) (h : ¬ wl 4 b = 0) : caN ws wg wl (wl 4 b) = (b : Int) := by
  obtain ⟨e1, e2, e3, e4, e5, e6⟩ := el_t hc hr hd hb
  have h80 : b ≤ 1200 := by
    have := (nb_e hc hr hd).2.2
    have : (ws 12).toNatClampNeg = (ws 12).toInt.toNat := rfl
    have := (nb_e hc hr hd).1
    omega
  have hw : cWid ws wl (wl 4 b) = nI b := by
    unfold cWid
    rw [if_neg h]
    rcases fst_at (q := qCr wl (wl 4 b)) (ws 12).toNatClampNeg 0 with q | ⟨j, j1, j2, j3, j4⟩
    · have q9 := q b (Nat.zero_le _) (by omega)
      rw [show qCr wl (wl 4 b) b = true from decide_eq_true rfl] at q9; cases q9
    · rw [j3]
      have hj4 : wl 4 j = wl 4 b := of_decide_eq_true j4
      obtain ⟨f1, f2, f3, f4, f5, f6⟩ := el_t hc hr hd (t := j) (by omega)
      have nj : nmD D (elD D j) = wl 4 j := by unfold nmD; rw [if_neg (by omega), if_pos f3]; exact f5.1.symm
      have nbq : nmD D (elD D b) = wl 4 b := by unfold nmD; rw [if_neg (by omega), if_pos e3]; exact e5.1.symm
      rcases Nat.lt_trichotomy (elD D j) (elD D b) with w | w | w
      · exact absurd (by rw [nj, nbq, hj4]) ((hd.2.2.1 _ e2).1 (by rw [nbq]; exact h) _ w)
      · rw [w] at f4
        have : j = b := by omega
        rw [this]
      · exact absurd (by rw [nj, nbq, hj4]) ((hd.2.2.1 _ f2).1 (by rw [nj, hj4]; exact h) _ w)
  have e : caF ws wg wl 21 (wl 4 b) = if wl 4 b = 0 then -1 else if cWid ws wl (wl 4 b) = -1 then caF ws wg wl 20 (alN ws wg wl (wl 4 b)) else cWid ws wl (wl 4 b) := rfl
  unfold caN
  rw [e, if_neg h, hw, if_neg (nI_m h80), nI_toInt (by omega)]
theorem SV_of (hc : PBc D ws wg wl) (hr : PBr D rs rg lg) (hd : PBd D) : SV ws wg wl := by
  refine ⟨fun c hcl h6 => ?_, fun b hb => ⟨?_, id_own hc hr hd hb⟩⟩
  · have hl : c < D.length := by
      have : (ws 4).toNatClampNeg = (ws 4).toInt.toNat := rfl
      have := hc.1
      omega
    have k6 : dKd D c = 6 := by
      have hp := kd_pos hd hl
      by_cases w : dKd D c = 4 ∨ dKd D c = 5
      · rcases ct_c hc hd hl w with ⟨_, q2, q3⟩ | ⟨m, q1, q2, q3, q4, q5, _⟩
        · omega
        · rcases (hc.2.2.2.1 c hl).2.2.2.2.1 w with ⟨_, _, p⟩ | ⟨p, _⟩
          · have hk := KW_j (hc.2.2.1 c hl).1 hp
            rw [p] at h6
            rcases w with w | w
            · rw [w] at hk; have : wkF 4 = 3 := by decide
              omega
            · rw [w] at hk; have : wkF 5 = 4 := by decide
              omega
          · have hm : nI m ∈ kc9 D c := kdL_in D.length 0 m (Nat.zero_le _) (by omega) (decide_eq_true q4)
            have hk9 := ki_b hc hd hl
            have e : ki9 wg 80 (wg 16 c) = if (wg 16 c).toInt < 0 then [] else wg 16 c :: ki9 wg 79 (wg 17 (wg 16 c).toNatClampNeg) := rfl
            rw [e, if_pos p] at hk9
            rw [← hk9] at hm; cases hm
      · have k25 := k_25 hc hl (by omega) (by omega) hp
        rw [h6] at k25
        unfold wkF at k25
        have hS := (hd.2.1 c hl).1
        unfold STN at hS
        repeat (split at k25 <;> first | omega | skip)
    have hc0 : 0 < c := by
      rcases Nat.eq_zero_or_pos c with q | q
      · rw [q, root_k hd.1 hd.2.1 (by omega)] at k6; omega
      · exact q
    exact (LS_c hc hr hd hl k6 hc0).2.2.1.symm
  · rw [nb_q hc hr hd] at hb
    obtain ⟨a1, a2, _⟩ := BNa_b hc hr hd hb
    have : (wg 41 (3 * b)).toNatClampNeg = (wg 41 (3 * b)).toInt.toNat := rfl
    omega
end CT8
end
section
section DQ9
variable {D : List El7} {ws rs : Nat → Int32} {wg rg : Nat → Nat → Int32} {wl lg : Nat → Nat → Int64} {F : Nat → Bool} {n : Nat}
/-- the text is long enough for its elements -/
def TLN (D : List El7) : Prop := sB (bs7 D) D.length + 12 * (ocL D D.length).length ≤ 1200
theorem ws_iv (hc : PBc D ws wg wl) (hr : PBr D rs rg lg) (hd : PBd D) : iv 0 80 (ws 12) := by
  obtain ⟨h1, h2⟩ := nb_e hc hr hd
  have h3 := h2.1
  have h4 := h2.2
  exact ⟨by omega, by omega⟩
theorem get_e (hc : PBc D ws wg wl) (hr : PBr D rs rg lg) (hd : PBd D) (hT : TLN D) (v : Int64) (S : S9) : oGet wg (oMK ws wg wl 40) (caN ws wg wl v) S = oGet wg (oMK ws wg wl 81) (caN ws wg wl v) S :=
  DEP_g (ws_iv hc hr hd) rfl (IN_of hc hr hd) (fun L hL hx => CH_40 (CS_of hc hr hd) (IN_of hc hr hd) hT L hL hx) v S
theorem zGt_e (hc : PBc D ws wg wl) (hr : PBr D rs rg lg) (hd : PBd D) (hT : TLN D) (v : Int64) (S : S9) : zGt ws wg wl 40 v S = zGt ws wg wl 81 v S := by
  unfold zGt; rw [get_e hc hr hd hT]
theorem rfL_q (hc : PBc D ws wg wl) (hr : PBr D rs rg lg) (hd : PBd D) (hT : TLN D) : ∀ (k b : Nat) (S : S9), b + k ≤ (ws 12).toNatClampNeg → rfL ws wg wl 40 k b S = rfL ws wg wl 81 k b S
  | 0, _, _, _ => rfl
  | k + 1, b, S, h => by
    have ih := fun S => rfL_q hc hr hd hT k (b + 1) S (by omega)
    show (if ¬ wl 4 b = 0 ∧ wg 34 b = 0 ∧ wg 35 b = 0 ∧ wg 36 b = 0 then bd9 (oGet wg (oMK ws wg wl 40) (b : Int) S) (fun _ S => rfL ws wg wl 40 k (b + 1) S) else rfL ws wg wl 40 k (b + 1) S) = (if ¬ wl 4 b = 0 ∧ wg 34 b = 0 ∧ wg 35 b = 0 ∧ wg 36 b = 0 then bd9 (oGet wg (oMK ws wg wl 81) (b : Int) S) (fun _ S => rfL ws wg wl 81 k (b + 1) S) else rfL ws wg wl 81 k (b + 1) S)
    by_cases q : ¬ wl 4 b = 0 ∧ wg 34 b = 0 ∧ wg 35 b = 0 ∧ wg 36 b = 0
    · rw [if_pos q, if_pos q, ← id_own hc hr hd (by omega) q.1, get_e hc hr hd hT]
      congr 1
      funext a S2
      exact ih S2
    · rw [if_neg q, if_neg q]; exact ih S
theorem zRf_e (hc : PBc D ws wg wl) (hr : PBr D rs rg lg) (hd : PBd D) (hT : TLN D) (S : S9) : zRf ws wg wl 40 S = zRf ws wg wl 81 S := by
  unfold zRf; rw [rfL_q hc hr hd hT _ 0 _ (by omega)]
end DQ9
end
section
section PT9
variable {ch : Nat → Int} {D : List El7} {sg sg2 sm : Nat → Int32} {gm gm2 gn wg wg2 : Nat → Nat → Int32} {lg lg2 ln : Nat → Nat → Int64} {ws ws2 : Nat → Int32} {wl wl2 : Nat → Nat → Int64}
/-- the class's rows that the document is in -/
def UG9 (k : Nat) : Prop := k = 11 ∨ k = 14 ∨ k = 15 ∨ k = 16 ∨ k = 17 ∨ k = 18 ∨ k = 21 ∨ k = 22 ∨ k = 23 ∨ k = 24 ∨ k = 25 ∨ k = 26 ∨ k = 27 ∨ k = 28 ∨ k = 29 ∨ k = 30 ∨ k = 31 ∨ k = 32 ∨ k = 33 ∨ k = 34 ∨ k = 35 ∨ k = 36 ∨ k = 41 ∨ k = 56 ∨ k = 57
theorem PBc_e (h : PBc D ws wg wl) (s4 : ws2 4 = ws 4) (s12 : ws2 12 = ws 12) (hg : ∀ k, UG9 k → wg2 k = wg k) (hl : ∀ k, k = 1 ∨ k = 2 ∨ k = 3 ∨ k = 4 ∨ k = 5 ∨ k = 6 ∨ k = 7 → wl2 k = wl k) : PBc D ws2 wg2 wl2 := by
  obtain ⟨h1, h2, h3, h4, h5, h6, h7, h8, h9⟩ := h
  have g := fun k (q : UG9 k) => hg k q
  refine ⟨by rw [s4]; exact h1, ?_, fun e he => by rw [hg 14 (by unfold UG9; decide), hg 15 (by unfold UG9; decide)]; exact h3 e he, fun e he => SE_e (h4 e he) (hg 11 (by unfold UG9; decide)) (hg 14 (by unfold UG9; decide)) (hg 16 (by unfold UG9; decide)) (hg 21 (by unfold UG9; decide)) (hg 22 (by unfold UG9; decide)) (hg 23 (by unfold UG9; decide)) (hg 24 (by unfold UG9; decide)) (hg 25 (by unfold UG9; decide)) (hg 26 (by unfold UG9; decide)) (hg 56 (by unfold UG9; decide)) (hl 2 (by decide)) (hl 3 (by decide)), BHt_e h5 (hg 34 (by unfold UG9; decide)) (hg 35 (by unfold UG9; decide)) (hg 36 (by unfold UG9; decide)) (hg 29 (by unfold UG9; decide)) (hl 4 (by decide)) (hl 5 (by decide)) (hl 6 (by decide)), BC_e h6 s12 (hg 27 (by unfold UG9; decide)) (hl 1 (by decide)) (hl 4 (by decide)) (hl 5 (by decide)), fun c hc => ?_, fun b hb => by rw [hg 28 (by unfold UG9; decide)]; exact h8 b hb, fun q hq => by rw [hg 41 (by unfold UG9; decide)]; exact h9 q hq⟩
  · unfold LKS; rw [hg 15 (by unfold UG9; decide), hg 16 (by unfold UG9; decide), hg 17 (by unfold UG9; decide), hg 18 (by unfold UG9; decide)]; exact h2
  · rw [s12] at hc
    rw [MB_e (gm := wg) (lg := wl) (hg 41 (by unfold UG9; decide)) (hg 57 (by unfold UG9; decide)) (hl 7 (by decide)) (hg 30 (by unfold UG9; decide)) (hg 31 (by unfold UG9; decide)) (hg 32 (by unfold UG9; decide)) (hg 33 (by unfold UG9; decide)), h7 c hc, cnk_e (sg := ws) (lg := wl) s12 (hl 4 (by decide)) (hl 5 (by decide)), mgF_e (gm := wg) (hg 14 (by unfold UG9; decide)) (hg 16 (by unfold UG9; decide)) (hg 17 (by unfold UG9; decide)) (hg 22 (by unfold UG9; decide)) (hg 29 (by unfold UG9; decide))]
theorem st_g (k : Nat) (h : UG9 k) : st9 gm k = gm k := by
  unfold UG9 at h
  unfold st9
  rw [if_neg]
  intro q
  have : k ∈ dyn9 := List.contains_iff_mem.mp q
  unfold dyn9 at this
  simp only [List.mem_cons, List.not_mem_nil, or_false] at this
  omega
theorem PBc_of (hC : CLD D sg gm lg) (h28 : ∀ b, b < 80 → (gm 28 b).toInt = (b : Int)) (h41 : ∀ q, q < 240 → 0 ≤ (gm 41 q).toInt) : PBc D (ss9 sg) (st9 gm) lg := by
  obtain ⟨⟨a1, a2, a3⟩, b1, b2, b3, b4⟩ := hC
  have e : (sg 4).toNatClampNeg = D.length := by show (sg 4).toInt.toNat = _; omega
  rw [e] at a2
  exact PBc_e (ws := sg) (wg := gm) (wl := lg) ⟨a1, a2, fun x hx => ⟨(a3 x hx).1, (a3 x hx).2.2⟩, b1, b2, b3, b4, h28, h41⟩ rfl rfl (fun k hk => st_g k hk) (fun _ _ => rfl)
/-- the reference's -/
theorem PBr_of (hR : RFD ch D sm gn ln) (h80 : D.length ≤ 80) (hA : ACY sm gn ln) (hW : WRD7 (ln 0) (ln 1)) (h44 : ∀ b, b < 80 → iv 0 26 (gn 44 b) ∧ iv 0 26 (gn 46 b)) : PBr D (rs9 sm) (rt9 gn) ln := by
  obtain ⟨⟨a1, a2, a3, a4⟩, b⟩ := hR
  have hd : DK sm gn ln (rs9 sm) (rt9 gn) ln := DK_r rfl rfl
  refine ⟨a2.1, fun x hx => ?_, fun k hk => a3 k hk, a4, fun c hc => MM_k (b c hc) hd rfl rfl rfl rfl, ?_, hW, h44⟩
  · have hw := a2.2 x _ (dEl_g hx)
    obtain ⟨_, _, _, w4, w5, _, _, _, w9⟩ := hw
    refine ⟨?_, ⟨_, w4⟩, w5, w9⟩
    obtain ⟨r1, r2, r3, r4, r5, r6, r7, r8⟩ := RL_of a2 a1 h80 hx
    exact ⟨r1, r2, r3, r4, r5, r6, r7, r8⟩
  · intro b h0 h1
    rw [mPar_k hd]
    exact hA b h0 h1
theorem PBd_of {n : Nat} (hp : PC7 ch) (hx : XX7 ch n) (hs : ACQ ch n) (h0 : 0 < (dD ch n).length) : PBd (dD ch n) := by
  obtain ⟨s1, s2, s3⟩ := hs
  obtain ⟨x1, x2⟩ := hx _ s1
  exact ⟨RT_of x1 h0, s2, s3, fun x hx => sDoc_pv hp s1 _ (List.mem_of_getElem? (dEl_g hx)), sDoc_pt hp s1, x2, h0⟩
theorem TLN_of {n : Nat} (hn : ∀ i, n ≤ i → ch i = -1) (h12 : n ≤ 1200) (hs : sDoc ch n = some D) (hd : PBd D) : TLN D := by
  obtain ⟨F, f1, f2⟩ := sDoc_len hn hs
  exact Nat.le_trans (co_all hd f1 f2) h12
theorem sSt_ge {n : Nat} {D D2 : List El7} {cur c2 : Int} {depth d2 a b : Nat} (h : sSt ch n D cur depth a = some (D2, c2, d2, b)) : D.length ≤ D2.length := by
  unfold sSt at h
  split at h
  · split at h
    · cases hc : sCom ch n a with
      | none => rw [hc] at h; cases h
      | some e => rw [hc] at h; cases h; exact Nat.le_refl _
    · split at h
      · cases hw : D[cur.toNat]? with
        | none => rw [hw] at h; cases h
        | some w =>
          rw [hw] at h
          have h : (match sEd ch n w.1 a with | none => none | some b => some (D, w.2.1, depth - 1, b)) = some (D2, c2, d2, b) := h
          cases hc : sEd ch n w.1 a with
          | none => rw [hc] at h; cases h
          | some e => rw [hc] at h; cases h; exact Nat.le_refl _
      · cases hc : sOp ch n D.length depth a with
        | none => rw [hc] at h; cases h
        | some w => obtain ⟨k, q, c, e⟩ := w; rw [hc] at h; cases h; rw [List.length_append]; omega
  · cases hc : sCh ch a with
    | none => rw [hc] at h; cases h
    | some r =>
      obtain ⟨x, e⟩ := r
      rw [hc] at h
      cases hw : D[cur.toNat]? with
      | none => rw [hw] at h; cases h
      | some w =>
        rw [hw] at h
        have h : (match sTx w.2.2.2.2.1 w.2.2.2.2.2 x with | none => none | some (ts, te) => some (D.set cur.toNat (w.1, w.2.1, w.2.2.1, w.2.2.2.1, ts, te), cur, depth, e + 1)) = some (D2, c2, d2, b) := h
        cases ht : sTx w.2.2.2.2.1 w.2.2.2.2.2 x with
        | none => rw [ht] at h; cases h
        | some t => obtain ⟨ts, te⟩ := t; rw [ht] at h; cases h; rw [List.length_set]; exact Nat.le_refl _
theorem doF_ge {n : Nat} : ∀ f D cur depth a r, doF ch n f D cur depth a = some r → D.length ≤ r.1.length := by
  intro f
  induction f with
  | zero =>
    intro D cur depth a r h
    have h : (if depth = 0 then some (D, a) else none) = some r := h
    split at h
    · cases h; exact Nat.le_refl _
    · cases h
  | succ f ih =>
    intro D cur depth a r h
    have h : (if depth = 0 then some (D, a) else match sSt ch n D cur depth a with | none => none | some (D2, c2, d2, b) => doF ch n f D2 c2 d2 b) = some r := h
    split at h
    · cases h; exact Nat.le_refl _
    · cases hc : sSt ch n D cur depth a with
      | none => rw [hc] at h; cases h
      | some w =>
        obtain ⟨D2, c2, d2, b⟩ := w
        rw [hc] at h
        exact Nat.le_trans (sSt_ge hc) (ih _ _ _ _ _ h)
theorem sDoc_0 {n : Nat} (h : sDoc ch n = some D) : 0 < D.length := by
  unfold sDoc at h
  cases h1 : sBet ch n 0 with
  | none => rw [h1] at h; cases h
  | some a =>
    rw [h1] at h
    dsimp only at h
    cases h2 : sOp ch n 0 0 a with
    | none => rw [h2] at h; cases h
    | some w =>
      obtain ⟨k, q, c, b⟩ := w
      rw [h2] at h
      dsimp only at h
      cases h3 : sDo ch n [(a, -1, k, q, 0, [])] (if c = true then -1 else 0) (if c = true then 0 else 1) b with
      | none => rw [h3] at h; cases h
      | some w2 =>
        obtain ⟨D2, e⟩ := w2
        rw [h3] at h
        dsimp only at h
        cases h4 : sBet ch n e with
        | none => rw [h4] at h; cases h
        | some e2 =>
          rw [h4] at h
          dsimp only at h
          split at h
          · cases h
            have := doF_ge _ _ _ _ _ _ h3
            exact this
          · cases h
end PT9
end
section
set_option maxHeartbeats 4000000 in
set_option maxRecDepth 100000 in
theorem d_describe9 (l : Launch) (dC : Nat → ClassId) (dI : Nat → Nat → Nat) (ad : Nat → Nat → Nat) (cid : Nat → ClassId) (a2 : Nat → Nat) (lx : List Nat) (sg : Nat → Int32) (gm : Nat → Nat → Int32) (lg : Nat → Nat → Int64) (x : Int32) (a : Int32) (b : Int32) (f : Int32) (hI : CI sg gm) (hvx : iv 0 63 x) (hva : iv (-1) 25 a) (hvb : iv 0 1 b) (hvf : iv 0 7 f) : CMt dC dI ad cid a2 lx l yX8_describe wm_X8_describe ({ frames := 0, cells := 1, slots := 6, locals := 0 }) [eV (ad 8) x, .int a, .int b, .int f] sg gm lg (fun v u => v = none ∧ ∃ (sg2 : Nat → Int32) (gm2 : Nat → Nat → Int32) (lg2 : Nat → Nat → Int64), u = (sg2, gm2, lg2) ∧ CI sg2 gm2 ∧ KS [] sg sg2 ∧ KS [8, 9, 10] gm gm2 ∧ KS [] lg lg2 ∧ (gm2 8 = upd (gm 8) x.toNatClampNeg a) ∧ (gm2 9 = upd (gm 9) x.toNatClampNeg b) ∧ (gm2 10 = upd (gm 10) x.toNatClampNeg f)) (fun _ _ => False) := by
  intro sz
  refine vx_ofW (cc := cX8_describe) (maxL := 4) (ret := none) (by decide) rfl ?_
  intro p e s m args below meth c s₁ B hml hxt hv
  obtain ⟨rfl, hsz, hP, hK, hD0, hG⟩ := hv
  have hx := B.exec
  have hb := B.bytes
  have hr := B.returns
  have hts := atoms_spec (ws := wm_X8_describe) B.pre
  have htb := fun (w : Cond) (h : w ∈ tb) => hts w (List.mem_cons_of_mem _ h)
  have hown : s.vm.findClass RX8 = some m.cls := findClass_of_methodNamed B.named
  have hlocks := B.notSynchronized
  subst hsz
  have hD := hD0.self (sz := s.heap.size)
  generalize hAe : va_A (cW ad cid a2 lx sg gm lg) s.heap.size = A at hD hG ⊢
  have hA : ∀ q : Nat, s.heap.size ≤ q → A q := fun q h => by rw [← hAe]; exact Or.inr h
  have hS : va_S A s.heap s.heap [] := va_S.rf
  have hl := lv_entry ([eV (ad 8) x, .int a, .int b, .int f]) (n := 4) (by rw [show (lg_sl ([eV (ad 8) x, .int a, .int b, .int f])).length = 4 from by simp [lg_sl, eV_cat, cat_i, cat_l]]; exact Nat.le_of_ble_eq_true rfl)
  rw [lg_entry_eq]
  generalize (lg_sl ([eV (ad 8) x, .int a, .int b, .int f]) ++ List.replicate (4 - (lg_sl ([eV (ad 8) x, .int a, .int b, .int f])).length) Slot.unset).toArray = ls at hl ⊢
  have hl : lv_has ls 4 [(0, eV (ad 8) x), (1, .int a), (2, .int b), (3, .int f)] := by simp [lv_args, eV_cat, cat_i, cat_l] at hl; exact hl
  refine ec_aload_n hx hb dX8_describe_0 rfl (lv_at hl 0 rfl) ?_
  refine lv_iload_n hx hb dX8_describe_1 rfl (lv_at hl 1 rfl) ?_
  refine cr_putg (t := 8) (j := 4) (C := RX8) (T := TX8) (N := 7) (ty0 := tyX8) (k := 8) (y := a) hx hb htb inX8 tyX8_ok nmX8 hown hK hP hD hS hvx (by decide) (by decide) (by decide) (by decide) rfl rfl (by decide) (htb _ kw_200) rfl (by show Value.int a = Value.int (va_up gm 8 (upd (gm 8) x.toNatClampNeg a) 8 x.toNatClampNeg); rw [va_up_self, upd_at]) rfl rfl dX8_describe_2 (fun gm_1 H locs egm_1 hP hD hS => ?_)
  have hI_gm_1 := CI_st hI egm_1 hva (by decide)
  refine ec_aload_n hx hb dX8_describe_5 rfl (lv_at hl 0 rfl) ?_
  refine lv_iload_n hx hb dX8_describe_6 rfl (lv_at hl 2 rfl) ?_
  refine cr_putg (t := 8) (j := 5) (C := RX8) (T := TX8) (N := 7) (ty0 := tyX8) (k := 9) (y := b) hx hb htb inX8 tyX8_ok nmX8 hown hK hP hD hS hvx (by decide) (by decide) (by decide) (by decide) rfl rfl (by decide) (htb _ kw_202) rfl (by show Value.int b = Value.int (va_up gm_1 9 (upd (gm_1 9) x.toNatClampNeg b) 9 x.toNatClampNeg); rw [va_up_self, upd_at]) (iv_nb hvb) (iv_fb hvb) dX8_describe_7 (fun gm_2 H locs egm_2 hP hD hS => ?_)
  have hI_gm_2 := CI_st hI_gm_1 egm_2 hvb (by decide)
  refine ec_aload_n hx hb dX8_describe_10 rfl (lv_at hl 0 rfl) ?_
  refine lv_iload_n hx hb dX8_describe_11 rfl (lv_at hl 3 rfl) ?_
  refine cr_putg (t := 8) (j := 6) (C := RX8) (T := TX8) (N := 7) (ty0 := tyX8) (k := 10) (y := f) hx hb htb inX8 tyX8_ok nmX8 hown hK hP hD hS hvx (by decide) (by decide) (by decide) (by decide) rfl rfl (by decide) (htb _ kw_203) rfl (by show Value.int f = Value.int (va_up gm_2 10 (upd (gm_2 10) x.toNatClampNeg f) 10 x.toNatClampNeg); rw [va_up_self, upd_at]) rfl rfl dX8_describe_12 (fun gm_3 H locs egm_3 hP hD hS => ?_)
  have hI_gm_3 := CI_st hI_gm_2 egm_3 hvf (by decide)
  exact W.nb (fun hN => W.widen (k := 1) (n := 6) (by decide) (by decide) (vx_ret (W.vret hx hb hr (fun t ht hW => ⟨⟨none, (sg, gm_3, lg), rfl, ⟨rfl, sg, gm_3, lg, rfl, hI_gm_3, KS_rf, (KS_up (KS_up (KS_up KS_rf egm_1 (by decide)) egm_2 (by decide)) egm_3 (by decide)), KS_rf, ((show gm_3 8 = upd (gm 8) (x : Int32).toNatClampNeg a from ((up_ne egm_3 (by decide)).trans ((up_ne egm_2 (by decide)).trans ((up_at egm_1).trans (by rw [show gm 8 = gm 8 from rfl])))))), ((show gm_3 9 = upd (gm 9) (x : Int32).toNatClampNeg b from ((up_ne egm_3 (by decide)).trans ((up_at egm_2).trans (by rw [show gm_1 9 = gm 9 from ((up_ne egm_1 (by decide)).trans rfl)]))))), ((show gm_3 10 = upd (gm 10) (x : Int32).toNatClampNeg f from ((up_at egm_3).trans (by rw [show gm_2 10 = gm 10 from ((up_ne egm_2 (by decide)).trans ((up_ne egm_1 (by decide)).trans rfl))]))))⟩, by rw [ht]; exact hP, va_K.moved hW.alike hK, hD⟩, hS.F ht, by rw [ht]; exact hN⟩) hS.2.2 dX8_describe_15)))

set_option maxHeartbeats 4000000 in
set_option maxRecDepth 100000 in
theorem d_setTypes9 (l : Launch) (dC : Nat → ClassId) (dI : Nat → Nat → Nat) (ad : Nat → Nat → Nat) (cid : Nat → ClassId) (a2 : Nat → Nat) (lx : List Nat) (sg : Nat → Int32) (gm : Nat → Nat → Int32) (lg : Nat → Nat → Int64) (x : Int32) (a : Int32) (b : Int32) (f : Int32) (g : Int32) (hI : CI sg gm) (hvx : iv 0 63 x) (hva : iv 0 3 a) : CMt dC dI ad cid a2 lx l yX8_setTypes wm_X8_setTypes ({ frames := 0, cells := 1, slots := 6, locals := 0 }) [eV (ad 8) x, .int a, .int b, .int f, .int g] sg gm lg (fun v u => v = none ∧ ∃ (sg2 : Nat → Int32) (gm2 : Nat → Nat → Int32) (lg2 : Nat → Nat → Int64), u = (sg2, gm2, lg2) ∧ CI sg2 gm2 ∧ KS [] sg sg2 ∧ KS [7, 54] gm gm2 ∧ KS [] lg lg2 ∧ (gm2 7 = upd (gm 7) x.toNatClampNeg a) ∧ (gm2 54 = upd (upd (upd (gm 54) (3 * x.toNatClampNeg) b) (3 * x.toNatClampNeg + 1) f) (3 * x.toNatClampNeg + 2) g)) (fun _ _ => False) := by
  intro sz
  refine vx_ofW (cc := cX8_setTypes) (maxL := 5) (ret := none) (by decide) rfl ?_
  intro p e s m args below meth c s₁ B hml hxt hv
  obtain ⟨rfl, hsz, hP, hK, hD0, hG⟩ := hv
  have hx := B.exec
  have hb := B.bytes
  have hr := B.returns
  have hts := atoms_spec (ws := wm_X8_setTypes) B.pre
  have htb := fun (w : Cond) (h : w ∈ tb) => hts w (List.mem_cons_of_mem _ h)
  have hown : s.vm.findClass RX8 = some m.cls := findClass_of_methodNamed B.named
  have hlocks := B.notSynchronized
  subst hsz
  have hD := hD0.self (sz := s.heap.size)
  generalize hAe : va_A (cW ad cid a2 lx sg gm lg) s.heap.size = A at hD hG ⊢
  have hA : ∀ q : Nat, s.heap.size ≤ q → A q := fun q h => by rw [← hAe]; exact Or.inr h
  have hS : va_S A s.heap s.heap [] := va_S.rf
  have hl := lv_entry ([eV (ad 8) x, .int a, .int b, .int f, .int g]) (n := 5) (by rw [show (lg_sl ([eV (ad 8) x, .int a, .int b, .int f, .int g])).length = 5 from by simp [lg_sl, eV_cat, cat_i, cat_l]]; exact Nat.le_of_ble_eq_true rfl)
  rw [lg_entry_eq]
  generalize (lg_sl ([eV (ad 8) x, .int a, .int b, .int f, .int g]) ++ List.replicate (5 - (lg_sl ([eV (ad 8) x, .int a, .int b, .int f, .int g])).length) Slot.unset).toArray = ls at hl ⊢
  have hl : lv_has ls 5 [(0, eV (ad 8) x), (1, .int a), (2, .int b), (3, .int f), (4, .int g)] := by simp [lv_args, eV_cat, cat_i, cat_l] at hl; exact hl
  refine ec_aload_n hx hb dX8_setTypes_0 rfl (lv_at hl 0 rfl) ?_
  refine lv_iload_n hx hb dX8_setTypes_1 rfl (lv_at hl 1 rfl) ?_
  refine cr_putg (t := 8) (j := 3) (C := RX8) (T := TX8) (N := 7) (ty0 := tyX8) (k := 7) (y := a) hx hb htb inX8 tyX8_ok nmX8 hown hK hP hD hS hvx (by decide) (by decide) (by decide) (by decide) rfl rfl (by decide) (htb _ kw_198) rfl (by show Value.int a = Value.int (va_up gm 7 (upd (gm 7) x.toNatClampNeg a) 7 x.toNatClampNeg); rw [va_up_self, upd_at]) rfl rfl dX8_setTypes_2 (fun gm_1 H locs egm_1 hP hD hS => ?_)
  have hI_gm_1 := CI_st hI egm_1 hva (by decide)
  refine ec_aload_n hx hb dX8_setTypes_5 rfl (lv_at hl 0 rfl) ?_
  refine cr_get (t := 8) (j := 2) (C := RX8) (T := TX8) (N := 7) (v := eV (ad 27) x) hx hb htb inX8 hown hK hP hvx (by decide) (by decide) (by decide) rfl (by decide) (htb _ kw_196) (cV_c rfl (hvx).1 (by rw [show cMu 8 2 = 1 from rfl, Nat.one_mul]; rfl)) dX8_setTypes_6 ?_
  refine lv_iconst (v := 0) hx hb dX8_setTypes_9 (by decide) ?_
  refine lv_iload_n hx hb dX8_setTypes_10 rfl (lv_at hl 2 rfl) ?_
  refine cr_iast (t := 27) (k := 54) (n9 := (3 * x.toNatClampNeg + (0 : Int32).toNatClampNeg)) (z := b) hx hb hK hP hD hS hvx (by decide) (by decide) (by decide) rfl rfl rfl (show vp_in 0 (cLen 27) from (show vp_in 0 3 from (iv_in (iv_k (by decide) : iv 0 0 0) (by decide)))) (Or.inr (vin_lt (show vp_in 0 (cLen 27) from (show vp_in 0 3 from (iv_in (iv_k (by decide) : iv 0 0 0) (by decide)))))) rfl dX8_setTypes_11 (fun gm_2 H locs egm_2 hP hD hS => ?_)
  have hI_gm_2 := CI_st hI_gm_1 egm_2 (iv_all b) (by decide)
  refine ec_aload_n hx hb dX8_setTypes_12 rfl (lv_at hl 0 rfl) ?_
  refine cr_get (t := 8) (j := 2) (C := RX8) (T := TX8) (N := 7) (v := eV (ad 27) x) hx hb htb inX8 hown hK hP hvx (by decide) (by decide) (by decide) rfl (by decide) (htb _ kw_196) (cV_c rfl (hvx).1 (by rw [show cMu 8 2 = 1 from rfl, Nat.one_mul]; rfl)) dX8_setTypes_13 ?_
  refine lv_iconst (v := 1) hx hb dX8_setTypes_16 (by decide) ?_
  refine lv_iload_n hx hb dX8_setTypes_17 rfl (lv_at hl 3 rfl) ?_
  refine cr_iast (t := 27) (k := 54) (n9 := (3 * x.toNatClampNeg + (1 : Int32).toNatClampNeg)) (z := f) hx hb hK hP hD hS hvx (by decide) (by decide) (by decide) rfl rfl rfl (show vp_in 1 (cLen 27) from (show vp_in 1 3 from (iv_in (iv_k (by decide) : iv 1 1 1) (by decide)))) (Or.inr (vin_lt (show vp_in 1 (cLen 27) from (show vp_in 1 3 from (iv_in (iv_k (by decide) : iv 1 1 1) (by decide)))))) rfl dX8_setTypes_18 (fun gm_3 H locs egm_3 hP hD hS => ?_)
  have hI_gm_3 := CI_st hI_gm_2 egm_3 (iv_all f) (by decide)
  refine ec_aload_n hx hb dX8_setTypes_19 rfl (lv_at hl 0 rfl) ?_
  refine cr_get (t := 8) (j := 2) (C := RX8) (T := TX8) (N := 7) (v := eV (ad 27) x) hx hb htb inX8 hown hK hP hvx (by decide) (by decide) (by decide) rfl (by decide) (htb _ kw_196) (cV_c rfl (hvx).1 (by rw [show cMu 8 2 = 1 from rfl, Nat.one_mul]; rfl)) dX8_setTypes_20 ?_
  refine lv_iconst (v := 2) hx hb dX8_setTypes_23 (by decide) ?_
  refine lv_iload hx hb dX8_setTypes_24 (lv_at hl 4 rfl) ?_
  refine cr_iast (t := 27) (k := 54) (n9 := (3 * x.toNatClampNeg + (2 : Int32).toNatClampNeg)) (z := g) hx hb hK hP hD hS hvx (by decide) (by decide) (by decide) rfl rfl rfl (show vp_in 2 (cLen 27) from (show vp_in 2 3 from (iv_in (iv_k (by decide) : iv 2 2 2) (by decide)))) (Or.inr (vin_lt (show vp_in 2 (cLen 27) from (show vp_in 2 3 from (iv_in (iv_k (by decide) : iv 2 2 2) (by decide)))))) rfl dX8_setTypes_26 (fun gm_4 H locs egm_4 hP hD hS => ?_)
  have hI_gm_4 := CI_st hI_gm_3 egm_4 (iv_all g) (by decide)
  exact W.nb (fun hN => W.widen (k := 1) (n := 6) (by decide) (by decide) (vx_ret (W.vret hx hb hr (fun t ht hW => ⟨⟨none, (sg, gm_4, lg), rfl, ⟨rfl, sg, gm_4, lg, rfl, hI_gm_4, KS_rf, (KS_up (KS_up (KS_up (KS_up KS_rf egm_1 (by decide)) egm_2 (by decide)) egm_3 (by decide)) egm_4 (by decide)), KS_rf, ((show gm_4 7 = upd (gm 7) (x : Int32).toNatClampNeg a from ((up_ne egm_4 (by decide)).trans ((up_ne egm_3 (by decide)).trans ((up_ne egm_2 (by decide)).trans ((up_at egm_1).trans (by rw [show gm 7 = gm 7 from rfl]))))))), (((up_at egm_4).trans (by rw [up_at egm_3, up_at egm_2, show gm_1 54 = gm 54 from ((up_ne egm_1 (by decide)).trans rfl)]; rfl)))⟩, by rw [ht]; exact hP, va_K.moved hW.alike hK, hD⟩, hS.F ht, by rw [ht]; exact hN⟩) hS.2.2 dX8_setTypes_27)))
end
section
theorem cl_z : (0 : Int32).toNatClampNeg = 0 := by decide
theorem nx_s {g : Nat → Int32} {A i n : Nat} {b : Int32} (h : ∀ k, k < i → ¬ g (A + k) = b) (hz : ¬ g (A + i) = b) (hn : n = i + 1) : ∀ k, k < n → ¬ g (A + k) = b := by
  intro k hk
  by_cases e9 : k = i
  · rw [e9]; exact hz
  · exact h k (by omega)
/-- a block of letters without setters, all else as it was -/
def BLK (g0 g : Nat → Int32) (X n : Nat) : Prop := (∀ k, k < n → g (26 * X + k) = -1) ∧ ∀ j, (j < 26 * X ∨ 26 * X + 26 ≤ j) → g j = g0 j
theorem BLK_0 {g0 g : Nat → Int32} {X n : Nat} (e : g = g0) (hn : n = 0) : BLK g0 g X n := by
  subst e hn
  exact ⟨fun k hk => absurd hk (Nat.not_lt_zero k), fun _ _ => rfl⟩
theorem BLK_s {g0 g g2 : Nat → Int32} {X i n : Nat} (h : BLK g0 g X i) (e : g2 = upd g (26 * X + i) (-1)) (hi : i < 26) (hn : n = i + 1) : BLK g0 g2 X n := by
  subst e hn
  refine ⟨fun k hk => ?_, fun j hj => ?_⟩
  · by_cases e9 : k = i
    · rw [e9, upd_at]
    · rw [upd_ne (by omega)]; exact h.1 k (by omega)
  · rw [upd_ne (by omega)]; exact h.2 j hj
def DECB (P : Prop) (r : Int32) (c : Nat) (g g2 : Nat → Int32) : Prop := (r.toInt = 1 ∧ P ∧ BLK g g2 c 26) ∨ (r.toInt = 0 ∧ ¬ P ∧ g2 = g)
section DC9
variable {P : Prop} {r r2 : Int32} {gm gm2 : Nat → Nat → Int32} {c o k n : Nat} {nm st re na a b d : Int32}
/-- a signature is written -/
def SIG9 (gm gm2 : Nat → Nat → Int32) (q : Nat) (nm st re n a b c : Int32) : Prop := gm2 8 = upd (gm 8) q nm ∧ gm2 9 = upd (gm 9) q st ∧ gm2 10 = upd (gm 10) q re ∧ gm2 7 = upd (gm 7) q n ∧ gm2 54 = upd (upd (upd (gm 54) (3 * q) a) (3 * q + 1) b) (3 * q + 2) c
def SGE (gm gm2 : Nat → Nat → Int32) : Prop := gm2 8 = gm 8 ∧ gm2 9 = gm 9 ∧ gm2 10 = gm 10 ∧ gm2 7 = gm 7 ∧ gm2 54 = gm 54
/-- a signature more, or an answer no -/
def ADC (P : Prop) (r : Int32) (c o k : Nat) (gm gm2 : Nat → Nat → Int32) (nm st re n a b d : Int32) : Prop := (r.toInt = 1 ∧ P ∧ (gm k c).toInt < 4 ∧ (∃ z : Int32, z.toInt = (gm k c).toInt + 1 ∧ gm2 k = upd (gm k) c z) ∧ SIG9 gm gm2 (8 * c + o + (gm k c).toNatClampNeg) nm st re n a b d) ∨ (r.toInt = 0 ∧ (¬ P ∨ 4 ≤ (gm k c).toInt) ∧ gm2 k = gm k ∧ SGE gm gm2)
theorem ADC_0 (h : ADC True r c o k gm gm2 nm st re na a b d) (h0 : r.toInt = 0) : 4 ≤ (gm k c).toInt ∧ gm2 k = gm k ∧ SGE gm gm2 := by
  rcases h with h | h
  · have := h.1; omega
  · exact ⟨h.2.1.resolve_left (fun q => q trivial), h.2.2⟩
theorem ADC_1 (h : ADC True r c o k gm gm2 nm st re na a b d) (h0 : r.toInt = 1) (hP : P) (h2 : r2.toInt = 1) : ADC P r2 c o k gm gm2 nm st re na a b d := by
  rcases h with h | h
  · exact Or.inl ⟨h2, hP, h.2.2⟩
  · have := h.1; omega
/-- a setter more, or an answer no -/
def ADS9 (P : Prop) (r : Int32) (c n : Nat) (k : Int32) (g3 g32 g55 g552 : Nat → Int32) : Prop := (r.toInt = 1 ∧ P ∧ (g3 c).toInt < 8 ∧ g55 (26 * c + n) = -1 ∧ (∃ z : Int32, z.toInt = (g3 c).toInt + 1 ∧ g32 = upd g3 c z) ∧ g552 = upd g55 (26 * c + n) k) ∨ (r.toInt = 0 ∧ (¬ P ∨ 8 ≤ (g3 c).toInt ∨ ¬ g55 (26 * c + n) = -1) ∧ g32 = g3 ∧ g552 = g55)
variable {g3 g32 g55 g552 : Nat → Int32} {v : Int32}
theorem ADS9_0 (h : ADS9 True r c n v g3 g32 g55 g552) (h0 : r.toInt = 0) : (8 ≤ (g3 c).toInt ∨ ¬ g55 (26 * c + n) = -1) ∧ g32 = g3 ∧ g552 = g55 := by
  rcases h with h | h
  · have := h.1; omega
  · exact ⟨h.2.1.resolve_left (fun q => q trivial), h.2.2⟩
theorem ADS9_1 (h : ADS9 True r c n v g3 g32 g55 g552) (h0 : r.toInt = 1) (hP : P) (h2 : r2.toInt = 1) : ADS9 P r2 c n v g3 g32 g55 g552 := by
  rcases h with h | h
  · exact Or.inl ⟨h2, hP, h.2.2⟩
  · have := h.1; omega
def DEP9 (P : Prop) (r : Int32) (c : Nat) (v : Int32) (g g2 : Nat → Int32) : Prop := (r.toInt = 1 ∧ P ∧ g2 = upd g c v) ∨ (r.toInt = 0 ∧ ¬ P ∧ g2 = g)
end DC9
/-- the reference: a constructor, a factory, a setter more, or an answer no -/
def RAC (P : Prop) (r : Int32) (c : Nat) (gm gm2 : Nat → Nat → Int32) (n a b d : Int32) : Prop := (r.toInt = 1 ∧ P ∧ (gm 7 c).toInt < 4 ∧ (∃ z : Int32, z.toInt = (gm 7 c).toInt + 1 ∧ gm2 7 = upd (gm 7) c z) ∧ gm2 8 = upd (gm 8) (4 * c + (gm 7 c).toNatClampNeg) n ∧ gm2 9 = upd (upd (upd (gm 9) (3 * (4 * c + (gm 7 c).toNatClampNeg)) a) (3 * (4 * c + (gm 7 c).toNatClampNeg) + 1) b) (3 * (4 * c + (gm 7 c).toNatClampNeg) + 2) d) ∨ (r.toInt = 0 ∧ (¬ P ∨ 4 ≤ (gm 7 c).toInt) ∧ gm2 7 = gm 7 ∧ gm2 8 = gm 8 ∧ gm2 9 = gm 9)
def RAF (P : Prop) (r : Int32) (c : Nat) (gm gm2 : Nat → Nat → Int32) (nm st re n a b d : Int32) : Prop := (r.toInt = 1 ∧ P ∧ (gm 13 c).toInt < 4 ∧ (∃ z : Int32, z.toInt = (gm 13 c).toInt + 1 ∧ gm2 13 = upd (gm 13) c z) ∧ gm2 14 = upd (gm 14) (4 * c + (gm 13 c).toNatClampNeg) nm ∧ gm2 18 = upd (gm 18) (4 * c + (gm 13 c).toNatClampNeg) st ∧ gm2 15 = upd (gm 15) (4 * c + (gm 13 c).toNatClampNeg) re ∧ gm2 16 = upd (gm 16) (4 * c + (gm 13 c).toNatClampNeg) n ∧ gm2 17 = upd (upd (upd (gm 17) (3 * (4 * c + (gm 13 c).toNatClampNeg)) a) (3 * (4 * c + (gm 13 c).toNatClampNeg) + 1) b) (3 * (4 * c + (gm 13 c).toNatClampNeg) + 2) d) ∨ (r.toInt = 0 ∧ (¬ P ∨ 4 ≤ (gm 13 c).toInt) ∧ gm2 13 = gm 13 ∧ gm2 14 = gm 14 ∧ gm2 18 = gm 18 ∧ gm2 15 = gm 15 ∧ gm2 16 = gm 16 ∧ gm2 17 = gm 17)
def RAS (P : Prop) (r : Int32) (c : Nat) (n k : Int32) (gm gm2 : Nat → Nat → Int32) : Prop := (r.toInt = 1 ∧ P ∧ (gm 10 c).toInt < 8 ∧ (∀ i, i < (gm 10 c).toNatClampNeg → ¬ gm 11 (8 * c + i) = n) ∧ (∃ z : Int32, z.toInt = (gm 10 c).toInt + 1 ∧ gm2 10 = upd (gm 10) c z) ∧ gm2 11 = upd (gm 11) (8 * c + (gm 10 c).toNatClampNeg) n ∧ gm2 12 = upd (gm 12) (8 * c + (gm 10 c).toNatClampNeg) k) ∨ (r.toInt = 0 ∧ (¬ P ∨ 8 ≤ (gm 10 c).toInt ∨ ∃ i, i < (gm 10 c).toNatClampNeg ∧ gm 11 (8 * c + i) = n) ∧ gm2 10 = gm 10 ∧ gm2 11 = gm 11 ∧ gm2 12 = gm 12)
end
section
set_option maxHeartbeats 4000000 in
set_option maxRecDepth 100000 in
theorem d_addConstructor9 (l : Launch) (dC : Nat → ClassId) (dI : Nat → Nat → Nat) (ad : Nat → Nat → Nat) (cid : Nat → ClassId) (a2 : Nat → Nat) (lx : List Nat) (sg : Nat → Int32) (gm : Nat → Nat → Int32) (lg : Nat → Nat → Int64) (x : Int32) (n : Int32) (a : Int32) (b : Int32) (f : Int32) (hI : CI sg gm) (hvx : iv 0 7 x) (hvn : iv 0 3 n) : CMt dC dI ad cid a2 lx l yX2_addConstructor wm_X2_addConstructor ({ frames := 1, cells := 1, slots := 6, locals := 24 }) [eV (ad 7) x, .int n, .int a, .int b, .int f] sg gm lg (fun v u => ∃ r : Int32, v = some (.int r) ∧ ∃ (sg2 : Nat → Int32) (gm2 : Nat → Nat → Int32) (lg2 : Nat → Nat → Int64), u = (sg2, gm2, lg2) ∧ CI sg2 gm2 ∧ KS [] sg sg2 ∧ KS [0, 7, 8, 9, 10, 54] gm gm2 ∧ KS [] lg lg2 ∧ (iv 0 1 r) ∧ (ADC True r x.toNatClampNeg 0 0 gm gm2 (-1) 0 (gm 2 x.toNatClampNeg) n a b f)) (fun _ _ => False) := by
  intro sz
  refine vx_ofW (cc := cX2_addConstructor) (maxL := 5) (ret := (some .boolean)) (by decide) rfl ?_
  intro p e s m args below meth c s₁ B hml hxt hv
  obtain ⟨rfl, hsz, hP, hK, hD0, hG⟩ := hv
  have hx := B.exec
  have hb := B.bytes
  have hr := B.returns
  have hts := atoms_spec (ws := wm_X2_addConstructor) B.pre
  have htb := fun (w : Cond) (h : w ∈ tb) => hts w (List.mem_cons_of_mem _ h)
  have hown : s.vm.findClass RX2 = some m.cls := findClass_of_methodNamed B.named
  have hlocks := B.notSynchronized
  subst hsz
  have hD := hD0.self (sz := s.heap.size)
  generalize hAe : va_A (cW ad cid a2 lx sg gm lg) s.heap.size = A at hD hG ⊢
  have hA : ∀ q : Nat, s.heap.size ≤ q → A q := fun q h => by rw [← hAe]; exact Or.inr h
  have hS : va_S A s.heap s.heap [] := va_S.rf
  have hl := lv_entry ([eV (ad 7) x, .int n, .int a, .int b, .int f]) (n := 5) (by rw [show (lg_sl ([eV (ad 7) x, .int n, .int a, .int b, .int f])).length = 5 from by simp [lg_sl, eV_cat, cat_i, cat_l]]; exact Nat.le_of_ble_eq_true rfl)
  rw [lg_entry_eq]
  generalize (lg_sl ([eV (ad 7) x, .int n, .int a, .int b, .int f]) ++ List.replicate (5 - (lg_sl ([eV (ad 7) x, .int n, .int a, .int b, .int f])).length) Slot.unset).toArray = ls at hl ⊢
  have hl : lv_has ls 5 [(0, eV (ad 7) x), (1, .int n), (2, .int a), (3, .int b), (4, .int f)] := by simp [lv_args, eV_cat, cat_i, cat_l] at hl; exact hl
  refine ec_aload_n hx hb dX2_addConstructor_0 rfl (lv_at hl 0 rfl) ?_
  refine cr_get (t := 7) (j := 2) (C := RX2) (T := TX2) (N := 8) (v := .int (gm 0 x.toNatClampNeg)) hx hb htb inX2 hown hK hP hvx (by decide) (by decide) (by decide) rfl (by decide) (htb _ kw_210) rfl dX2_addConstructor_1 ?_
  obtain ⟨z_1, ez_1⟩ : ∃ z : Int32, z = (gm 0 x.toNatClampNeg) := ⟨_, rfl⟩
  refine W.eq (g2 := F0 m 4 ls [.int z_1]) (by rw [ez_1]) ?_
  have hz_1 : iv 0 4 z_1 := iv_of ez_1 (CI_a hI 0 hvx (by decide))
  refine lv_iconst (v := 4) hx hb dX2_addConstructor_4 (by decide) ?_
  refine lv_icmp_lt (tgt := 10) hx hb dX2_addConstructor_5 (by decide) (fun c_2 => ?_) (fun c_2 => ?_)
  · have h_3 : iv 0 3 z_1 := iv_ltL c_2 hz_1 (iv_k (by decide) : iv 4 4 4) (by decide)
    refine ec_aload_n hx hb dX2_addConstructor_10 rfl (lv_at hl 0 rfl) ?_
    refine cr_get (t := 7) (j := 0) (C := RX2) (T := TX2) (N := 8) (v := eV (ad 28) x) hx hb htb inX2 hown hK hP hvx (by decide) (by decide) (by decide) rfl (by decide) (htb _ kw_206) (cV_c rfl (hvx).1 (by rw [show cMu 7 0 = 1 from rfl, Nat.one_mul]; rfl)) dX2_addConstructor_11 ?_
    refine ec_aload_n hx hb dX2_addConstructor_14 rfl (lv_at hl 0 rfl) ?_
    refine cr_get (t := 7) (j := 2) (C := RX2) (T := TX2) (N := 8) (v := .int (gm 0 x.toNatClampNeg)) hx hb htb inX2 hown hK hP hvx (by decide) (by decide) (by decide) rfl (by decide) (htb _ kw_210) rfl dX2_addConstructor_15 ?_
    refine W.eq (g2 := F0 m 18 ls [.int z_1, eV (ad 28) x]) (by rw [show (gm 0 x.toNatClampNeg) = z_1 from ez_1.symm]) ?_
    obtain ⟨q_4, hq_4, nq_4, tq_4⟩ := ix_mk (8 * x.toNatClampNeg + 0 + (z_1 : Int32).toNatClampNeg) 63 (by have q1 := iv_cl hvx (by decide); have q2 := (hvx).2; have q3 := iv_cl h_3 (by decide); have q4 := (h_3).2; omega) (by decide)
    refine cr_aald (t := 28) (C := RX8) (v := eV (ad 8) q_4) hx hb hK hP hvx (by decide) (by decide) (by decide) (by decide) (by decide) rfl (show vp_in z_1 (cLen 28) from (show vp_in z_1 4 from (iv_in h_3 (by decide)))) (cAr_c (by decide) hq_4.1 nq_4) dX2_addConstructor_18 ?_
    refine lv_iconst (v := (-1)) hx hb dX2_addConstructor_19 (by decide) ?_
    refine lv_iconst (v := 0) hx hb dX2_addConstructor_20 (by decide) ?_
    refine ec_aload_n hx hb dX2_addConstructor_21 rfl (lv_at hl 0 rfl) ?_
    refine cr_get (t := 7) (j := 4) (C := RX2) (T := TX2) (N := 8) (v := .int (gm 2 x.toNatClampNeg)) hx hb htb inX2 hown hK hP hvx (by decide) (by decide) (by decide) rfl (by decide) (htb _ kw_214) rfl dX2_addConstructor_22 ?_
    obtain ⟨z_5, ez_5⟩ : ∃ z : Int32, z = (gm 2 x.toNatClampNeg) := ⟨_, rfl⟩
    refine W.eq (g2 := F0 m 25 ls [.int z_5, .int 0, .int (-1), eV (ad 8) q_4]) (by rw [ez_5]) ?_
    have hz_5 : iv 0 7 z_5 := iv_of ez_5 (CI_a hI 2 hvx (by decide))
    refine cm_callV (t := 8) (C := RX8) (T := TX8) (N := 7) (rest := []) (as := [.int (-1), .int 0, .int z_5]) ⟨hx, hb, hml, hown, htb⟩ (d_describe9 l dC dI ad cid a2 lx sg gm lg q_4 (-1) 0 z_5 hI hq_4 (iv_w (iv_k (by decide) : iv (-1) (-1) (-1)) (by decide)) (iv_w (iv_k (by decide) : iv 0 0 0) (by decide)) hz_5) (cwV 3 htb (gd_V kw_447 kw_448 kw_449 kw_148 kw_1390) rfl rfl rfl (by decide +kernel) ⟨Nat.le_of_ble_eq_true rfl, Nat.le_of_ble_eq_true rfl⟩) hq_4 (by decide) (by decide) rfl rfl hl.1 rfl (Nat.le_trans cs_n (by decide)) dX2_addConstructor_25 ⟨Nat.le_of_ble_eq_true rfl, Nat.le_of_ble_eq_true rfl⟩ hK hP hD hS hA hG (fun E ce q9 u_7 H locs hw hP hD hS hce hcv hcl => ?_) (fun v9 u_7 H locs hw hP hD hS => ?_)
    · exact hw.elim
    obtain ⟨rfl, sgv_8, gmv_8, lgv_8, rfl, hIv_8, ksv_8, kgv_8, klv_8, f8_r_6, f9_r_6, f10_r_6⟩ := hw
    obtain rfl := KS_nil ksv_8
    obtain rfl := KS_nil klv_8
    have hP : va_P (dC, dI) vwCl (cW ad cid a2 lx sg gmv_8 lg) H := hP
    have hD : va_D A (cW ad cid a2 lx sg gmv_8 lg) := hD
    refine W.eq (g2 := F0 m 28 ls []) rfl ?_
    refine ec_aload_n hx hb dX2_addConstructor_28 rfl (lv_at hl 0 rfl) ?_
    refine cr_get (t := 7) (j := 0) (C := RX2) (T := TX2) (N := 8) (v := eV (ad 28) x) hx hb htb inX2 hown hK hP hvx (by decide) (by decide) (by decide) rfl (by decide) (htb _ kw_206) (cV_c rfl (hvx).1 (by rw [show cMu 7 0 = 1 from rfl, Nat.one_mul]; rfl)) dX2_addConstructor_29 ?_
    refine ec_aload_n hx hb dX2_addConstructor_32 rfl (lv_at hl 0 rfl) ?_
    refine cr_get (t := 7) (j := 2) (C := RX2) (T := TX2) (N := 8) (v := .int (gmv_8 0 x.toNatClampNeg)) hx hb htb inX2 hown hK hP hvx (by decide) (by decide) (by decide) rfl (by decide) (htb _ kw_210) rfl dX2_addConstructor_33 ?_
    refine W.eq (g2 := F0 m 36 ls [.int z_1, eV (ad 28) x]) (by rw [show (gmv_8 0 x.toNatClampNeg) = z_1 from (Eq.trans (congrFun (kgv_8 0 (by decide)) _) ez_1.symm)]) ?_
    refine cr_aald (t := 28) (C := RX8) (v := eV (ad 8) q_4) hx hb hK hP hvx (by decide) (by decide) (by decide) (by decide) (by decide) rfl (show vp_in z_1 (cLen 28) from (show vp_in z_1 4 from (iv_in h_3 (by decide)))) (cAr_c (by decide) hq_4.1 nq_4) dX2_addConstructor_36 ?_
    refine lv_iload_n hx hb dX2_addConstructor_37 rfl (lv_at hl 1 rfl) ?_
    refine lv_iload_n hx hb dX2_addConstructor_38 rfl (lv_at hl 2 rfl) ?_
    refine lv_iload_n hx hb dX2_addConstructor_39 rfl (lv_at hl 3 rfl) ?_
    refine lv_iload hx hb dX2_addConstructor_40 (lv_at hl 4 rfl) ?_
    refine cm_callV (t := 8) (C := RX8) (T := TX8) (N := 7) (rest := []) (as := [.int n, .int a, .int b, .int f]) ⟨hx, hb, hml, hown, htb⟩ (d_setTypes9 l dC dI ad cid a2 lx sg gmv_8 lg q_4 n a b f hIv_8 hq_4 hvn) (cwV 4 htb (gd_V kw_450 kw_451 kw_452 kw_148 kw_1391) rfl rfl rfl (by decide +kernel) ⟨Nat.le_of_ble_eq_true rfl, Nat.le_of_ble_eq_true rfl⟩) hq_4 (by decide) (by decide) rfl rfl hl.1 rfl (Nat.le_trans cs_n (by decide)) dX2_addConstructor_42 ⟨Nat.le_of_ble_eq_true rfl, Nat.le_of_ble_eq_true rfl⟩ hK hP hD hS hA hG (fun E ce q9 u_10 H locs hw hP hD hS hce hcv hcl => ?_) (fun v9 u_10 H locs hw hP hD hS => ?_)
    · exact hw.elim
    obtain ⟨rfl, sgv_11, gmv_11, lgv_11, rfl, hIv_11, ksv_11, kgv_11, klv_11, f7_r_9, f54_r_9⟩ := hw
    obtain rfl := KS_nil ksv_11
    obtain rfl := KS_nil klv_11
    have hP : va_P (dC, dI) vwCl (cW ad cid a2 lx sg gmv_11 lg) H := hP
    have hD : va_D A (cW ad cid a2 lx sg gmv_11 lg) := hD
    refine W.eq (g2 := F0 m 45 ls []) rfl ?_
    refine ec_aload_n hx hb dX2_addConstructor_45 rfl (lv_at hl 0 rfl) ?_
    refine lv_dup hx hb dX2_addConstructor_46 (eV_cat _ _) ?_
    refine cr_get (t := 7) (j := 2) (C := RX2) (T := TX2) (N := 8) (v := .int (gmv_11 0 x.toNatClampNeg)) hx hb htb inX2 hown hK hP hvx (by decide) (by decide) (by decide) rfl (by decide) (htb _ kw_210) rfl dX2_addConstructor_47 ?_
    refine W.eq (g2 := F0 m 50 ls [.int z_1, eV (ad 7) x]) (by rw [show (gmv_11 0 x.toNatClampNeg) = z_1 from (Eq.trans (congrFun (Eq.trans (kgv_11 0 (by decide)) (kgv_8 0 (by decide))) _) ez_1.symm)]) ?_
    refine lv_iconst (v := 1) hx hb dX2_addConstructor_50 (by decide) ?_
    refine lv_iadd hx hb dX2_addConstructor_51 ?_
    refine lv_topi (fun z_12 ez_12 => ?_)
    have hz_12 : iv 1 4 z_12 := iv_of ez_12 (iv_add h_3 (iv_k (by decide) : iv 1 1 1) (by decide))
    have tz_12 : z_12.toInt = (z_1 : Int32).toInt + 1 := by rw [ez_12]; exact iv_addE h_3 (iv_k (by decide) : iv 1 1 1) (by decide)
    refine cr_putg (t := 7) (j := 2) (C := RX2) (T := TX2) (N := 8) (ty0 := tyX2) (k := 0) (y := z_12) hx hb htb inX2 tyX2_ok nmX2 hown hK hP hD hS hvx (by decide) (by decide) (by decide) (by decide) rfl rfl (by decide) (htb _ kw_210) rfl (by show Value.int z_12 = Value.int (va_up gmv_11 0 (upd (gmv_11 0) x.toNatClampNeg z_12) 0 x.toNatClampNeg); rw [va_up_self, upd_at]) rfl rfl dX2_addConstructor_52 (fun gm_13 H locs egm_13 hP hD hS => ?_)
    have hI_gm_13 := CI_st hIv_11 egm_13 hz_12 (by decide)
    refine lv_iconst (v := 1) hx hb dX2_addConstructor_55 (by decide) ?_
    exact W.nb (fun hN => W.widen (k := 1) (n := 6) (by decide) (by decide) (vx_ret (W.zret (v := 1) hx hb hr (iv_nb (iv_w (iv_k (by decide) : iv 1 1 1) (by decide))) (fun t ht hW => ⟨⟨some (.int 1), (sg, gm_13, lg), rfl, ⟨1, rfl, sg, gm_13, lg, rfl, hI_gm_13, KS_rf, (KS_up (KS_tr (L := [0, 7, 8, 9, 10, 54]) (KS_tr (L := [0, 7, 8, 9, 10, 54]) KS_rf kgv_8 (by decide)) kgv_11 (by decide)) egm_13 (by decide)), KS_rf, (iv_w (iv_k (by decide) : iv 1 1 1) (by decide)), (Or.inl ⟨rfl, trivial, (by rw [← ez_1]; have := i32_0; have := i32_1; have := i32_2; have := i32_m1; have := (hvx).1; have := (hvx).2; have := (hvn).1; have := (hvn).2; have := (h_3).1; have := (h_3).2; have := (hq_4).1; have := (hq_4).2; have := (hz_5).1; have := (hz_5).2; have := (hz_12).1; have := (hz_12).2; omega), ⟨_, (by rw [← ez_1]; have := i32_0; have := i32_1; have := i32_2; have := i32_m1; have := (hvx).1; have := (hvx).2; have := (hvn).1; have := (hvn).2; have := (h_3).1; have := (h_3).2; have := (hq_4).1; have := (hq_4).2; have := (hz_5).1; have := (hz_5).2; have := (hz_12).1; have := (hz_12).2; omega), (show gm_13 0 = upd (gm 0) (x : Int32).toNatClampNeg z_12 from ((up_at egm_13).trans (by rw [show gmv_11 0 = gm 0 from ((kgv_11 0 (by decide)).trans ((kgv_8 0 (by decide)).trans rfl))])))⟩, (by rw [← ez_5, ← ez_1, ← nq_4]; exact ⟨((show gm_13 8 = gmv_8 8 from ((up_ne egm_13 (by decide)).trans ((kgv_11 8 (by decide)).trans rfl))).trans f8_r_6), ((show gm_13 9 = gmv_8 9 from ((up_ne egm_13 (by decide)).trans ((kgv_11 9 (by decide)).trans rfl))).trans f9_r_6), ((show gm_13 10 = gmv_8 10 from ((up_ne egm_13 (by decide)).trans ((kgv_11 10 (by decide)).trans rfl))).trans f10_r_6), ((show gm_13 7 = gmv_11 7 from ((up_ne egm_13 (by decide)).trans rfl)).trans (f7_r_9.trans (by rw [show gmv_8 7 = gm 7 from ((kgv_8 7 (by decide)).trans rfl)]))), ((show gm_13 54 = gmv_11 54 from ((up_ne egm_13 (by decide)).trans rfl)).trans (f54_r_9.trans (by rw [show gmv_8 54 = gm 54 from ((kgv_8 54 (by decide)).trans rfl)])))⟩)⟩)⟩, by rw [ht]; exact hP, va_K.moved hW.alike hK, hD⟩, hS.F ht, by rw [ht]; exact hN⟩) hS.2.2 dX2_addConstructor_56)))
  · have h_14 : iv 4 4 z_1 := iv_leR (i32_ge c_2) (iv_k (by decide) : iv 4 4 4) hz_1 (by decide)
    refine lv_iconst (v := 0) hx hb dX2_addConstructor_8 (by decide) ?_
    exact W.nb (fun hN => W.widen (k := 1) (n := 6) (by decide) (by decide) (vx_ret (W.zret (v := 0) hx hb hr (iv_nb (iv_w (iv_k (by decide) : iv 0 0 0) (by decide))) (fun t ht hW => ⟨⟨some (.int 0), (sg, gm, lg), rfl, ⟨0, rfl, sg, gm, lg, rfl, hI, KS_rf, KS_rf, KS_rf, (iv_w (iv_k (by decide) : iv 0 0 0) (by decide)), (Or.inr ⟨rfl, Or.inr (by rw [← ez_1]; have := i32_0; have := i32_1; have := i32_2; have := i32_m1; have := (hvx).1; have := (hvx).2; have := (hvn).1; have := (hvn).2; have := (h_14).1; have := (h_14).2; omega), (show gm 0 = gm 0 from rfl), ⟨(show gm 8 = gm 8 from rfl), (show gm 9 = gm 9 from rfl), (show gm 10 = gm 10 from rfl), (show gm 7 = gm 7 from rfl), (show gm 54 = gm 54 from rfl)⟩⟩)⟩, by rw [ht]; exact hP, va_K.moved hW.alike hK, hD⟩, hS.F ht, by rw [ht]; exact hN⟩) hS.2.2 dX2_addConstructor_9)))

set_option maxHeartbeats 4000000 in
set_option maxRecDepth 100000 in
theorem d_addFactory9 (l : Launch) (dC : Nat → ClassId) (dI : Nat → Nat → Nat) (ad : Nat → Nat → Nat) (cid : Nat → ClassId) (a2 : Nat → Nat) (lx : List Nat) (sg : Nat → Int32) (gm : Nat → Nat → Int32) (lg : Nat → Nat → Int64) (x : Int32) (nm : Int32) (z : Int32) (re : Int32) (n : Int32) (a : Int32) (b : Int32) (f : Int32) (hI : CI sg gm) (hvx : iv 0 7 x) (hvnm : iv 0 25 nm) (hvz : iv 0 1 z) (hvre : iv 0 7 re) (hvn : iv 0 3 n) : CMt dC dI ad cid a2 lx l yX2_addFactory wm_X2_addFactory ({ frames := 1, cells := 1, slots := 6, locals := 24 }) [eV (ad 7) x, .int nm, .int z, .int re, .int n, .int a, .int b, .int f] sg gm lg (fun v u => ∃ r : Int32, v = some (.int r) ∧ ∃ (sg2 : Nat → Int32) (gm2 : Nat → Nat → Int32) (lg2 : Nat → Nat → Int64), u = (sg2, gm2, lg2) ∧ CI sg2 gm2 ∧ KS [] sg sg2 ∧ KS [1, 7, 8, 9, 10, 54] gm gm2 ∧ KS [] lg lg2 ∧ (iv 0 1 r) ∧ (ADC True r x.toNatClampNeg 4 1 gm gm2 nm z re n a b f)) (fun _ _ => False) := by
  intro sz
  refine vx_ofW (cc := cX2_addFactory) (maxL := 8) (ret := (some .boolean)) (by decide) rfl ?_
  intro p e s m args below meth c s₁ B hml hxt hv
  obtain ⟨rfl, hsz, hP, hK, hD0, hG⟩ := hv
  have hx := B.exec
  have hb := B.bytes
  have hr := B.returns
  have hts := atoms_spec (ws := wm_X2_addFactory) B.pre
  have htb := fun (w : Cond) (h : w ∈ tb) => hts w (List.mem_cons_of_mem _ h)
  have hown : s.vm.findClass RX2 = some m.cls := findClass_of_methodNamed B.named
  have hlocks := B.notSynchronized
  subst hsz
  have hD := hD0.self (sz := s.heap.size)
  generalize hAe : va_A (cW ad cid a2 lx sg gm lg) s.heap.size = A at hD hG ⊢
  have hA : ∀ q : Nat, s.heap.size ≤ q → A q := fun q h => by rw [← hAe]; exact Or.inr h
  have hS : va_S A s.heap s.heap [] := va_S.rf
  have hl := lv_entry ([eV (ad 7) x, .int nm, .int z, .int re, .int n, .int a, .int b, .int f]) (n := 8) (by rw [show (lg_sl ([eV (ad 7) x, .int nm, .int z, .int re, .int n, .int a, .int b, .int f])).length = 8 from by simp [lg_sl, eV_cat, cat_i, cat_l]]; exact Nat.le_of_ble_eq_true rfl)
  rw [lg_entry_eq]
  generalize (lg_sl ([eV (ad 7) x, .int nm, .int z, .int re, .int n, .int a, .int b, .int f]) ++ List.replicate (8 - (lg_sl ([eV (ad 7) x, .int nm, .int z, .int re, .int n, .int a, .int b, .int f])).length) Slot.unset).toArray = ls at hl ⊢
  have hl : lv_has ls 8 [(0, eV (ad 7) x), (1, .int nm), (2, .int z), (3, .int re), (4, .int n), (5, .int a), (6, .int b), (7, .int f)] := by simp [lv_args, eV_cat, cat_i, cat_l] at hl; exact hl
  refine ec_aload_n hx hb dX2_addFactory_0 rfl (lv_at hl 0 rfl) ?_
  refine cr_get (t := 7) (j := 3) (C := RX2) (T := TX2) (N := 8) (v := .int (gm 1 x.toNatClampNeg)) hx hb htb inX2 hown hK hP hvx (by decide) (by decide) (by decide) rfl (by decide) (htb _ kw_212) rfl dX2_addFactory_1 ?_
  obtain ⟨z_1, ez_1⟩ : ∃ z : Int32, z = (gm 1 x.toNatClampNeg) := ⟨_, rfl⟩
  refine W.eq (g2 := F0 m 4 ls [.int z_1]) (by rw [ez_1]) ?_
  have hz_1 : iv 0 4 z_1 := iv_of ez_1 (CI_a hI 1 hvx (by decide))
  refine lv_iconst (v := 4) hx hb dX2_addFactory_4 (by decide) ?_
  refine lv_icmp_lt (tgt := 10) hx hb dX2_addFactory_5 (by decide) (fun c_2 => ?_) (fun c_2 => ?_)
  · have h_3 : iv 0 3 z_1 := iv_ltL c_2 hz_1 (iv_k (by decide) : iv 4 4 4) (by decide)
    refine ec_aload_n hx hb dX2_addFactory_10 rfl (lv_at hl 0 rfl) ?_
    refine cr_get (t := 7) (j := 1) (C := RX2) (T := TX2) (N := 8) (v := eV (ad 29) x) hx hb htb inX2 hown hK hP hvx (by decide) (by decide) (by decide) rfl (by decide) (htb _ kw_208) (cV_c rfl (hvx).1 (by rw [show cMu 7 1 = 1 from rfl, Nat.one_mul]; rfl)) dX2_addFactory_11 ?_
    refine ec_aload_n hx hb dX2_addFactory_14 rfl (lv_at hl 0 rfl) ?_
    refine cr_get (t := 7) (j := 3) (C := RX2) (T := TX2) (N := 8) (v := .int (gm 1 x.toNatClampNeg)) hx hb htb inX2 hown hK hP hvx (by decide) (by decide) (by decide) rfl (by decide) (htb _ kw_212) rfl dX2_addFactory_15 ?_
    refine W.eq (g2 := F0 m 18 ls [.int z_1, eV (ad 29) x]) (by rw [show (gm 1 x.toNatClampNeg) = z_1 from ez_1.symm]) ?_
    obtain ⟨q_4, hq_4, nq_4, tq_4⟩ := ix_mk (8 * x.toNatClampNeg + 4 + (z_1 : Int32).toNatClampNeg) 63 (by have q1 := iv_cl hvx (by decide); have q2 := (hvx).2; have q3 := iv_cl h_3 (by decide); have q4 := (h_3).2; omega) (by decide)
    refine cr_aald (t := 29) (C := RX8) (v := eV (ad 8) q_4) hx hb hK hP hvx (by decide) (by decide) (by decide) (by decide) (by decide) rfl (show vp_in z_1 (cLen 29) from (show vp_in z_1 4 from (iv_in h_3 (by decide)))) (cAr_c (by decide) hq_4.1 nq_4) dX2_addFactory_18 ?_
    refine lv_iload_n hx hb dX2_addFactory_19 rfl (lv_at hl 1 rfl) ?_
    refine lv_iload_n hx hb dX2_addFactory_20 rfl (lv_at hl 2 rfl) ?_
    refine lv_iload_n hx hb dX2_addFactory_21 rfl (lv_at hl 3 rfl) ?_
    refine cm_callV (t := 8) (C := RX8) (T := TX8) (N := 7) (rest := []) (as := [.int nm, .int z, .int re]) ⟨hx, hb, hml, hown, htb⟩ (d_describe9 l dC dI ad cid a2 lx sg gm lg q_4 nm z re hI hq_4 (iv_w hvnm (by decide)) hvz hvre) (cwV 3 htb (gd_V kw_447 kw_448 kw_449 kw_148 kw_1390) rfl rfl rfl (by decide +kernel) ⟨Nat.le_of_ble_eq_true rfl, Nat.le_of_ble_eq_true rfl⟩) hq_4 (by decide) (by decide) rfl rfl hl.1 rfl (Nat.le_trans cs_n (by decide)) dX2_addFactory_22 ⟨Nat.le_of_ble_eq_true rfl, Nat.le_of_ble_eq_true rfl⟩ hK hP hD hS hA hG (fun E ce q9 u_6 H locs hw hP hD hS hce hcv hcl => ?_) (fun v9 u_6 H locs hw hP hD hS => ?_)
    · exact hw.elim
    obtain ⟨rfl, sgv_7, gmv_7, lgv_7, rfl, hIv_7, ksv_7, kgv_7, klv_7, f8_r_5, f9_r_5, f10_r_5⟩ := hw
    obtain rfl := KS_nil ksv_7
    obtain rfl := KS_nil klv_7
    have hP : va_P (dC, dI) vwCl (cW ad cid a2 lx sg gmv_7 lg) H := hP
    have hD : va_D A (cW ad cid a2 lx sg gmv_7 lg) := hD
    refine W.eq (g2 := F0 m 25 ls []) rfl ?_
    refine ec_aload_n hx hb dX2_addFactory_25 rfl (lv_at hl 0 rfl) ?_
    refine cr_get (t := 7) (j := 1) (C := RX2) (T := TX2) (N := 8) (v := eV (ad 29) x) hx hb htb inX2 hown hK hP hvx (by decide) (by decide) (by decide) rfl (by decide) (htb _ kw_208) (cV_c rfl (hvx).1 (by rw [show cMu 7 1 = 1 from rfl, Nat.one_mul]; rfl)) dX2_addFactory_26 ?_
    refine ec_aload_n hx hb dX2_addFactory_29 rfl (lv_at hl 0 rfl) ?_
    refine cr_get (t := 7) (j := 3) (C := RX2) (T := TX2) (N := 8) (v := .int (gmv_7 1 x.toNatClampNeg)) hx hb htb inX2 hown hK hP hvx (by decide) (by decide) (by decide) rfl (by decide) (htb _ kw_212) rfl dX2_addFactory_30 ?_
    refine W.eq (g2 := F0 m 33 ls [.int z_1, eV (ad 29) x]) (by rw [show (gmv_7 1 x.toNatClampNeg) = z_1 from (Eq.trans (congrFun (kgv_7 1 (by decide)) _) ez_1.symm)]) ?_
    refine cr_aald (t := 29) (C := RX8) (v := eV (ad 8) q_4) hx hb hK hP hvx (by decide) (by decide) (by decide) (by decide) (by decide) rfl (show vp_in z_1 (cLen 29) from (show vp_in z_1 4 from (iv_in h_3 (by decide)))) (cAr_c (by decide) hq_4.1 nq_4) dX2_addFactory_33 ?_
    refine lv_iload hx hb dX2_addFactory_34 (lv_at hl 4 rfl) ?_
    refine lv_iload hx hb dX2_addFactory_36 (lv_at hl 5 rfl) ?_
    refine lv_iload hx hb dX2_addFactory_38 (lv_at hl 6 rfl) ?_
    refine lv_iload hx hb dX2_addFactory_40 (lv_at hl 7 rfl) ?_
    refine cm_callV (t := 8) (C := RX8) (T := TX8) (N := 7) (rest := []) (as := [.int n, .int a, .int b, .int f]) ⟨hx, hb, hml, hown, htb⟩ (d_setTypes9 l dC dI ad cid a2 lx sg gmv_7 lg q_4 n a b f hIv_7 hq_4 hvn) (cwV 4 htb (gd_V kw_450 kw_451 kw_452 kw_148 kw_1391) rfl rfl rfl (by decide +kernel) ⟨Nat.le_of_ble_eq_true rfl, Nat.le_of_ble_eq_true rfl⟩) hq_4 (by decide) (by decide) rfl rfl hl.1 rfl (Nat.le_trans cs_n (by decide)) dX2_addFactory_42 ⟨Nat.le_of_ble_eq_true rfl, Nat.le_of_ble_eq_true rfl⟩ hK hP hD hS hA hG (fun E ce q9 u_9 H locs hw hP hD hS hce hcv hcl => ?_) (fun v9 u_9 H locs hw hP hD hS => ?_)
    · exact hw.elim
    obtain ⟨rfl, sgv_10, gmv_10, lgv_10, rfl, hIv_10, ksv_10, kgv_10, klv_10, f7_r_8, f54_r_8⟩ := hw
    obtain rfl := KS_nil ksv_10
    obtain rfl := KS_nil klv_10
    have hP : va_P (dC, dI) vwCl (cW ad cid a2 lx sg gmv_10 lg) H := hP
    have hD : va_D A (cW ad cid a2 lx sg gmv_10 lg) := hD
    refine W.eq (g2 := F0 m 45 ls []) rfl ?_
    refine ec_aload_n hx hb dX2_addFactory_45 rfl (lv_at hl 0 rfl) ?_
    refine lv_dup hx hb dX2_addFactory_46 (eV_cat _ _) ?_
    refine cr_get (t := 7) (j := 3) (C := RX2) (T := TX2) (N := 8) (v := .int (gmv_10 1 x.toNatClampNeg)) hx hb htb inX2 hown hK hP hvx (by decide) (by decide) (by decide) rfl (by decide) (htb _ kw_212) rfl dX2_addFactory_47 ?_
    refine W.eq (g2 := F0 m 50 ls [.int z_1, eV (ad 7) x]) (by rw [show (gmv_10 1 x.toNatClampNeg) = z_1 from (Eq.trans (congrFun (Eq.trans (kgv_10 1 (by decide)) (kgv_7 1 (by decide))) _) ez_1.symm)]) ?_
    refine lv_iconst (v := 1) hx hb dX2_addFactory_50 (by decide) ?_
    refine lv_iadd hx hb dX2_addFactory_51 ?_
    refine lv_topi (fun z_11 ez_11 => ?_)
    have hz_11 : iv 1 4 z_11 := iv_of ez_11 (iv_add h_3 (iv_k (by decide) : iv 1 1 1) (by decide))
    have tz_11 : z_11.toInt = (z_1 : Int32).toInt + 1 := by rw [ez_11]; exact iv_addE h_3 (iv_k (by decide) : iv 1 1 1) (by decide)
    refine cr_putg (t := 7) (j := 3) (C := RX2) (T := TX2) (N := 8) (ty0 := tyX2) (k := 1) (y := z_11) hx hb htb inX2 tyX2_ok nmX2 hown hK hP hD hS hvx (by decide) (by decide) (by decide) (by decide) rfl rfl (by decide) (htb _ kw_212) rfl (by show Value.int z_11 = Value.int (va_up gmv_10 1 (upd (gmv_10 1) x.toNatClampNeg z_11) 1 x.toNatClampNeg); rw [va_up_self, upd_at]) rfl rfl dX2_addFactory_52 (fun gm_12 H locs egm_12 hP hD hS => ?_)
    have hI_gm_12 := CI_st hIv_10 egm_12 hz_11 (by decide)
    refine lv_iconst (v := 1) hx hb dX2_addFactory_55 (by decide) ?_
    exact W.nb (fun hN => W.widen (k := 1) (n := 6) (by decide) (by decide) (vx_ret (W.zret (v := 1) hx hb hr (iv_nb (iv_w (iv_k (by decide) : iv 1 1 1) (by decide))) (fun t ht hW => ⟨⟨some (.int 1), (sg, gm_12, lg), rfl, ⟨1, rfl, sg, gm_12, lg, rfl, hI_gm_12, KS_rf, (KS_up (KS_tr (L := [1, 7, 8, 9, 10, 54]) (KS_tr (L := [1, 7, 8, 9, 10, 54]) KS_rf kgv_7 (by decide)) kgv_10 (by decide)) egm_12 (by decide)), KS_rf, (iv_w (iv_k (by decide) : iv 1 1 1) (by decide)), (Or.inl ⟨rfl, trivial, (by rw [← ez_1]; have := i32_0; have := i32_1; have := i32_2; have := i32_m1; have := (hvx).1; have := (hvx).2; have := (hvnm).1; have := (hvnm).2; have := (hvz).1; have := (hvz).2; have := (hvre).1; have := (hvre).2; have := (hvn).1; have := (hvn).2; have := (h_3).1; have := (h_3).2; have := (hq_4).1; have := (hq_4).2; have := (hz_11).1; have := (hz_11).2; omega), ⟨_, (by rw [← ez_1]; have := i32_0; have := i32_1; have := i32_2; have := i32_m1; have := (hvx).1; have := (hvx).2; have := (hvnm).1; have := (hvnm).2; have := (hvz).1; have := (hvz).2; have := (hvre).1; have := (hvre).2; have := (hvn).1; have := (hvn).2; have := (h_3).1; have := (h_3).2; have := (hq_4).1; have := (hq_4).2; have := (hz_11).1; have := (hz_11).2; omega), (show gm_12 1 = upd (gm 1) (x : Int32).toNatClampNeg z_11 from ((up_at egm_12).trans (by rw [show gmv_10 1 = gm 1 from ((kgv_10 1 (by decide)).trans ((kgv_7 1 (by decide)).trans rfl))])))⟩, (by rw [← ez_1, ← nq_4]; exact ⟨((show gm_12 8 = gmv_7 8 from ((up_ne egm_12 (by decide)).trans ((kgv_10 8 (by decide)).trans rfl))).trans f8_r_5), ((show gm_12 9 = gmv_7 9 from ((up_ne egm_12 (by decide)).trans ((kgv_10 9 (by decide)).trans rfl))).trans f9_r_5), ((show gm_12 10 = gmv_7 10 from ((up_ne egm_12 (by decide)).trans ((kgv_10 10 (by decide)).trans rfl))).trans f10_r_5), ((show gm_12 7 = gmv_10 7 from ((up_ne egm_12 (by decide)).trans rfl)).trans (f7_r_8.trans (by rw [show gmv_7 7 = gm 7 from ((kgv_7 7 (by decide)).trans rfl)]))), ((show gm_12 54 = gmv_10 54 from ((up_ne egm_12 (by decide)).trans rfl)).trans (f54_r_8.trans (by rw [show gmv_7 54 = gm 54 from ((kgv_7 54 (by decide)).trans rfl)])))⟩)⟩)⟩, by rw [ht]; exact hP, va_K.moved hW.alike hK, hD⟩, hS.F ht, by rw [ht]; exact hN⟩) hS.2.2 dX2_addFactory_56)))
  · have h_13 : iv 4 4 z_1 := iv_leR (i32_ge c_2) (iv_k (by decide) : iv 4 4 4) hz_1 (by decide)
    refine lv_iconst (v := 0) hx hb dX2_addFactory_8 (by decide) ?_
    exact W.nb (fun hN => W.widen (k := 1) (n := 6) (by decide) (by decide) (vx_ret (W.zret (v := 0) hx hb hr (iv_nb (iv_w (iv_k (by decide) : iv 0 0 0) (by decide))) (fun t ht hW => ⟨⟨some (.int 0), (sg, gm, lg), rfl, ⟨0, rfl, sg, gm, lg, rfl, hI, KS_rf, KS_rf, KS_rf, (iv_w (iv_k (by decide) : iv 0 0 0) (by decide)), (Or.inr ⟨rfl, Or.inr (by rw [← ez_1]; have := i32_0; have := i32_1; have := i32_2; have := i32_m1; have := (hvx).1; have := (hvx).2; have := (hvnm).1; have := (hvnm).2; have := (hvz).1; have := (hvz).2; have := (hvre).1; have := (hvre).2; have := (hvn).1; have := (hvn).2; have := (h_13).1; have := (h_13).2; omega), (show gm 1 = gm 1 from rfl), ⟨(show gm 8 = gm 8 from rfl), (show gm 9 = gm 9 from rfl), (show gm 10 = gm 10 from rfl), (show gm 7 = gm 7 from rfl), (show gm 54 = gm 54 from rfl)⟩⟩)⟩, by rw [ht]; exact hP, va_K.moved hW.alike hK, hD⟩, hS.F ht, by rw [ht]; exact hN⟩) hS.2.2 dX2_addFactory_9)))

set_option maxHeartbeats 4000000 in
set_option maxRecDepth 100000 in
theorem d_addSetter9 (l : Launch) (dC : Nat → ClassId) (dI : Nat → Nat → Nat) (ad : Nat → Nat → Nat) (cid : Nat → ClassId) (a2 : Nat → Nat) (lx : List Nat) (sg : Nat → Int32) (gm : Nat → Nat → Int32) (lg : Nat → Nat → Int64) (x : Int32) (nm : Int32) (k : Int32) (hI : CI sg gm) (hvx : iv 0 7 x) (hvnm : iv 0 25 nm) (hvk : iv 0 15 k) : CMt dC dI ad cid a2 lx l yX2_addSetter wm_X2_addSetter ({ frames := 0, cells := 1, slots := 6, locals := 0 }) [eV (ad 7) x, .int nm, .int k] sg gm lg (fun v u => ∃ r : Int32, v = some (.int r) ∧ ∃ (sg2 : Nat → Int32) (gm2 : Nat → Nat → Int32) (lg2 : Nat → Nat → Int64), u = (sg2, gm2, lg2) ∧ CI sg2 gm2 ∧ KS [] sg sg2 ∧ KS [3, 55] gm gm2 ∧ KS [] lg lg2 ∧ (iv 0 1 r) ∧ (ADS9 True r x.toNatClampNeg nm.toNatClampNeg k (gm 3) (gm2 3) (gm 55) (gm2 55))) (fun _ _ => False) := by
  intro sz
  refine vx_ofW (cc := cX2_addSetter) (maxL := 3) (ret := (some .boolean)) (by decide) rfl ?_
  intro p e s m args below meth c s₁ B hml hxt hv
  obtain ⟨rfl, hsz, hP, hK, hD0, hG⟩ := hv
  have hx := B.exec
  have hb := B.bytes
  have hr := B.returns
  have hts := atoms_spec (ws := wm_X2_addSetter) B.pre
  have htb := fun (w : Cond) (h : w ∈ tb) => hts w (List.mem_cons_of_mem _ h)
  have hown : s.vm.findClass RX2 = some m.cls := findClass_of_methodNamed B.named
  have hlocks := B.notSynchronized
  subst hsz
  have hD := hD0.self (sz := s.heap.size)
  generalize hAe : va_A (cW ad cid a2 lx sg gm lg) s.heap.size = A at hD hG ⊢
  have hA : ∀ q : Nat, s.heap.size ≤ q → A q := fun q h => by rw [← hAe]; exact Or.inr h
  have hS : va_S A s.heap s.heap [] := va_S.rf
  have hl := lv_entry ([eV (ad 7) x, .int nm, .int k]) (n := 3) (by rw [show (lg_sl ([eV (ad 7) x, .int nm, .int k])).length = 3 from by simp [lg_sl, eV_cat, cat_i, cat_l]]; exact Nat.le_of_ble_eq_true rfl)
  rw [lg_entry_eq]
  generalize (lg_sl ([eV (ad 7) x, .int nm, .int k]) ++ List.replicate (3 - (lg_sl ([eV (ad 7) x, .int nm, .int k])).length) Slot.unset).toArray = ls at hl ⊢
  have hl : lv_has ls 3 [(0, eV (ad 7) x), (1, .int nm), (2, .int k)] := by simp [lv_args, eV_cat, cat_i, cat_l] at hl; exact hl
  have hj19 : ∀ (_ : iv 0 7 x) (_ : iv 0 25 nm) (_ : iv 0 15 k) (_ : 8 ≤ (gm 3 x.toNatClampNeg).toInt ∨ ¬ gm 55 (26 * x.toNatClampNeg + nm.toNatClampNeg) = -1) (H : Heap) (locs : List Loc) (ls : Array Slot), va_P (dC, dI) vwCl (cW ad cid a2 lx sg gm lg) H → va_D A (cW ad cid a2 lx sg gm lg) → va_S A s.heap H locs → lv_has ls 3 [(0, eV (ad 7) x), (1, .int nm), (2, .int k)] → W p l e (headSpec wm_X2_addSetter ({ frames := 0, cells := 1, slots := 6, locals := 0 })).room s m ([eV (ad 7) x, .int nm, .int k] : List Value).toArray below meth c H locs 0 0 (vx_MQ below (cQx dC dI ad cid a2 lx (fun v u => ∃ r : Int32, v = some (.int r) ∧ ∃ (sg2 : Nat → Int32) (gm2 : Nat → Nat → Int32) (lg2 : Nat → Nat → Int64), u = (sg2, gm2, lg2) ∧ CI sg2 gm2 ∧ KS [] sg sg2 ∧ KS [3, 55] gm gm2 ∧ KS [] lg lg2 ∧ (iv 0 1 r) ∧ (ADS9 True r x.toNatClampNeg nm.toNatClampNeg k (gm 3) (gm2 3) (gm 55) (gm2 55))) A) (cX dC dI ad cid a2 lx (fun _ _ => False) A) ([eV (ad 7) x, .int nm, .int k] : List Value).toArray s 1 6 A) (F0 m 19 ls []) := by
    intro  hsx0_19 hsx1_19 hsx2_19 hno H locs ls hP hD hS hl
    refine lv_iconst (v := 0) hx hb dX2_addSetter_19 (by decide) ?_
    exact W.nb (fun hN => W.widen (k := 1) (n := 6) (by decide) (by decide) (vx_ret (W.zret (v := 0) hx hb hr (iv_nb (iv_w (iv_k (by decide) : iv 0 0 0) (by decide))) (fun t ht hW => ⟨⟨some (.int 0), (sg, gm, lg), rfl, ⟨0, rfl, sg, gm, lg, rfl, hI, KS_rf, KS_rf, KS_rf, (iv_w (iv_k (by decide) : iv 0 0 0) (by decide)), (Or.inr ⟨rfl, Or.inr hno, (show gm 3 = gm 3 from rfl), (show gm 55 = gm 55 from rfl)⟩)⟩, by rw [ht]; exact hP, va_K.moved hW.alike hK, hD⟩, hS.F ht, by rw [ht]; exact hN⟩) hS.2.2 dX2_addSetter_20)))
  refine ec_aload_n hx hb dX2_addSetter_0 rfl (lv_at hl 0 rfl) ?_
  refine cr_get (t := 7) (j := 6) (C := RX2) (T := TX2) (N := 8) (v := .int (gm 3 x.toNatClampNeg)) hx hb htb inX2 hown hK hP hvx (by decide) (by decide) (by decide) rfl (by decide) (htb _ kw_216) rfl dX2_addSetter_1 ?_
  obtain ⟨z_1, ez_1⟩ : ∃ z : Int32, z = (gm 3 x.toNatClampNeg) := ⟨_, rfl⟩
  refine W.eq (g2 := F0 m 4 ls [.int z_1]) (by rw [ez_1]) ?_
  have hz_1 : iv 0 8 z_1 := iv_of ez_1 (CI_a hI 3 hvx (by decide))
  refine lv_bipush (v := 8) hx hb dX2_addSetter_4 (by decide) ?_
  refine lv_icmp_ge (tgt := 19) hx hb dX2_addSetter_6 (by decide) (fun c_2 => ?_) (fun c_2 => ?_)
  · have h_3 : iv 8 8 z_1 := iv_leR c_2 (iv_k (by decide) : iv 8 8 8) hz_1 (by decide)
    exact hj19 hvx hvnm hvk (Or.inl (by { rw [← ez_1]; have := i32_0; have := i32_1; have := i32_2; have := i32_m1; have := (hvx).1; have := (hvx).2; have := (hvnm).1; have := (hvnm).2; have := (hvk).1; have := (hvk).2; have := (h_3).1; have := (h_3).2; omega })) _ _ _ hP hD hS (lv_sub hl [0, 1, 2] rfl)
  · have h_4 : iv 0 7 z_1 := iv_ltL (i32_lt c_2) hz_1 (iv_k (by decide) : iv 8 8 8) (by decide)
    refine ec_aload_n hx hb dX2_addSetter_9 rfl (lv_at hl 0 rfl) ?_
    refine cr_get (t := 7) (j := 5) (C := RX2) (T := TX2) (N := 8) (v := eV (ad 30) x) hx hb htb inX2 hown hK hP hvx (by decide) (by decide) (by decide) rfl (by decide) (htb _ kw_215) (cV_c rfl (hvx).1 (by rw [show cMu 7 5 = 1 from rfl, Nat.one_mul]; rfl)) dX2_addSetter_10 ?_
    refine lv_iload_n hx hb dX2_addSetter_13 rfl (lv_at hl 1 rfl) ?_
    refine cr_iald (t := 30) (z := (gm 55 (26 * x.toNatClampNeg + (nm : Int32).toNatClampNeg))) hx hb hK hP hvx (by decide) (by decide) (by decide) rfl rfl (show vp_in nm (cLen 30) from (show vp_in nm 26 from (iv_in hvnm (by decide)))) (cAi_w rfl (by decide) rfl (vin_lt (show vp_in nm (cLen 30) from (show vp_in nm 26 from (iv_in hvnm (by decide)))))) dX2_addSetter_14 ?_
    obtain ⟨z_5, ez_5⟩ : ∃ z : Int32, z = (gm 55 (26 * x.toNatClampNeg + (nm : Int32).toNatClampNeg)) := ⟨_, rfl⟩
    refine W.eq (g2 := F0 m 15 ls [.int z_5]) (by rw [ez_5]) ?_
    have hz_5 : iv (-1) 15 z_5 := iv_of ez_5 (CI_n hI 55 (show _ < crLen 55 from vin_w (show vp_in nm (cLen 30) from (show vp_in nm 26 from (iv_in hvnm (by decide)))) (hvx) (by decide)))
    refine lv_iconst (v := (-1)) hx hb dX2_addSetter_15 (by decide) ?_
    refine lv_icmp_eq (tgt := 21) hx hb dX2_addSetter_16 (by decide) (fun c_6 => ?_) (fun c_6 => ?_)
    · have h_7 : iv (-1) (-1) z_5 := iv_eq c_6 hz_5 (iv_k (by decide) : iv (-1) (-1) (-1)) (by decide)
      refine ec_aload_n hx hb dX2_addSetter_21 rfl (lv_at hl 0 rfl) ?_
      refine cr_get (t := 7) (j := 5) (C := RX2) (T := TX2) (N := 8) (v := eV (ad 30) x) hx hb htb inX2 hown hK hP hvx (by decide) (by decide) (by decide) rfl (by decide) (htb _ kw_215) (cV_c rfl (hvx).1 (by rw [show cMu 7 5 = 1 from rfl, Nat.one_mul]; rfl)) dX2_addSetter_22 ?_
      refine lv_iload_n hx hb dX2_addSetter_25 rfl (lv_at hl 1 rfl) ?_
      refine lv_iload_n hx hb dX2_addSetter_26 rfl (lv_at hl 2 rfl) ?_
      refine cr_iast (t := 30) (k := 55) (n9 := (26 * x.toNatClampNeg + (nm : Int32).toNatClampNeg)) (z := k) hx hb hK hP hD hS hvx (by decide) (by decide) (by decide) rfl rfl rfl (show vp_in nm (cLen 30) from (show vp_in nm 26 from (iv_in hvnm (by decide)))) (Or.inr (vin_lt (show vp_in nm (cLen 30) from (show vp_in nm 26 from (iv_in hvnm (by decide)))))) rfl dX2_addSetter_27 (fun gm_8 H locs egm_8 hP hD hS => ?_)
      have hI_gm_8 := CI_st hI egm_8 hvk (by decide)
      refine ec_aload_n hx hb dX2_addSetter_28 rfl (lv_at hl 0 rfl) ?_
      refine lv_dup hx hb dX2_addSetter_29 (eV_cat _ _) ?_
      refine cr_get (t := 7) (j := 6) (C := RX2) (T := TX2) (N := 8) (v := .int (gm_8 3 x.toNatClampNeg)) hx hb htb inX2 hown hK hP hvx (by decide) (by decide) (by decide) rfl (by decide) (htb _ kw_216) rfl dX2_addSetter_30 ?_
      refine W.eq (g2 := F0 m 33 ls [.int z_1, eV (ad 7) x]) (by rw [show (gm_8 3 x.toNatClampNeg) = z_1 from (Eq.trans (congrFun (up_ne egm_8 (by decide)) _) ez_1.symm)]) ?_
      refine lv_iconst (v := 1) hx hb dX2_addSetter_33 (by decide) ?_
      refine lv_iadd hx hb dX2_addSetter_34 ?_
      refine lv_topi (fun z_9 ez_9 => ?_)
      have hz_9 : iv 1 8 z_9 := iv_of ez_9 (iv_add h_4 (iv_k (by decide) : iv 1 1 1) (by decide))
      have tz_9 : z_9.toInt = (z_1 : Int32).toInt + 1 := by rw [ez_9]; exact iv_addE h_4 (iv_k (by decide) : iv 1 1 1) (by decide)
      refine cr_putg (t := 7) (j := 6) (C := RX2) (T := TX2) (N := 8) (ty0 := tyX2) (k := 3) (y := z_9) hx hb htb inX2 tyX2_ok nmX2 hown hK hP hD hS hvx (by decide) (by decide) (by decide) (by decide) rfl rfl (by decide) (htb _ kw_216) rfl (by show Value.int z_9 = Value.int (va_up gm_8 3 (upd (gm_8 3) x.toNatClampNeg z_9) 3 x.toNatClampNeg); rw [va_up_self, upd_at]) rfl rfl dX2_addSetter_35 (fun gm_10 H locs egm_10 hP hD hS => ?_)
      have hI_gm_10 := CI_st hI_gm_8 egm_10 hz_9 (by decide)
      refine lv_iconst (v := 1) hx hb dX2_addSetter_38 (by decide) ?_
      exact W.nb (fun hN => W.widen (k := 1) (n := 6) (by decide) (by decide) (vx_ret (W.zret (v := 1) hx hb hr (iv_nb (iv_w (iv_k (by decide) : iv 1 1 1) (by decide))) (fun t ht hW => ⟨⟨some (.int 1), (sg, gm_10, lg), rfl, ⟨1, rfl, sg, gm_10, lg, rfl, hI_gm_10, KS_rf, (KS_up (KS_up KS_rf egm_8 (by decide)) egm_10 (by decide)), KS_rf, (iv_w (iv_k (by decide) : iv 1 1 1) (by decide)), (Or.inl ⟨rfl, trivial, (by { rw [← ez_1]; have := i32_0; have := i32_1; have := i32_2; have := i32_m1; have := (hvx).1; have := (hvx).2; have := (hvnm).1; have := (hvnm).2; have := (hvk).1; have := (hvk).2; have := (h_4).1; have := (h_4).2; have := (h_7).1; have := (h_7).2; have := (hz_9).1; have := (hz_9).2; omega }), (by rw [← ez_5]; exact c_6), ⟨_, (by { rw [← ez_1]; have := i32_0; have := i32_1; have := i32_2; have := i32_m1; have := (hvx).1; have := (hvx).2; have := (hvnm).1; have := (hvnm).2; have := (hvk).1; have := (hvk).2; have := (h_4).1; have := (h_4).2; have := (h_7).1; have := (h_7).2; have := (hz_9).1; have := (hz_9).2; omega }), (show gm_10 3 = upd (gm 3) (x : Int32).toNatClampNeg z_9 from ((up_at egm_10).trans (by rw [show gm_8 3 = gm 3 from ((up_ne egm_8 (by decide)).trans rfl)])))⟩, (show gm_10 55 = upd (gm 55) (26 * x.toNatClampNeg + nm.toNatClampNeg) k from (up_ne egm_10 (by decide)).trans (up_at egm_8))⟩)⟩, by rw [ht]; exact hP, va_K.moved hW.alike hK, hD⟩, hS.F ht, by rw [ht]; exact hN⟩) hS.2.2 dX2_addSetter_39)))
    · have h_11 : iv 0 15 z_5 := iv_neL c_6 hz_5 (by decide)
      exact hj19 hvx hvnm hvk (Or.inr (by rw [← ez_5]; exact c_6)) _ _ _ hP hD hS (lv_sub hl [0, 1, 2] rfl)

set_option maxHeartbeats 4000000 in
set_option maxRecDepth 100000 in
theorem d_beginDc9 (l : Launch) (dC : Nat → ClassId) (dI : Nat → Nat → Nat) (ad : Nat → Nat → Nat) (cid : Nat → ClassId) (a2 : Nat → Nat) (lx : List Nat) (sg : Nat → Int32) (gm : Nat → Nat → Int32) (lg : Nat → Nat → Int64) (x : Int32) (a : Int32) (hI : CI sg gm) (hvx : iv 0 7 x) (hva : iv (-1) 7 a) : CMt dC dI ad cid a2 lx l yX2_begin wm_X2_begin ({ frames := 0, cells := 1, slots := 6, locals := 0 }) [eV (ad 7) x, eV (ad 7) a] sg gm lg (fun v u => v = none ∧ ∃ (sg2 : Nat → Int32) (gm2 : Nat → Nat → Int32) (lg2 : Nat → Nat → Int64), u = (sg2, gm2, lg2) ∧ CI sg2 gm2 ∧ KS [] sg sg2 ∧ KS [0, 1, 3, 4, 55] gm gm2 ∧ KS [] lg lg2 ∧ (gm2 0 = upd (gm 0) x.toNatClampNeg 0) ∧ (gm2 1 = upd (gm 1) x.toNatClampNeg 0) ∧ (gm2 3 = upd (gm 3) x.toNatClampNeg 0) ∧ (BLK (gm 55) (gm2 55) x.toNatClampNeg 26) ∧ (gm2 4 = upd (gm 4) x.toNatClampNeg a)) (fun _ _ => False) := by
  intro sz
  refine vx_ofW (cc := cX2_begin) (maxL := 3) (ret := none) (by decide) rfl ?_
  intro p e s m args below meth c s₁ B hml hxt hv
  obtain ⟨rfl, hsz, hP, hK, hD0, hG⟩ := hv
  have hx := B.exec
  have hb := B.bytes
  have hr := B.returns
  have hts := atoms_spec (ws := wm_X2_begin) B.pre
  have htb := fun (w : Cond) (h : w ∈ tb) => hts w (List.mem_cons_of_mem _ h)
  have hown : s.vm.findClass RX2 = some m.cls := findClass_of_methodNamed B.named
  have hlocks := B.notSynchronized
  subst hsz
  have hD := hD0.self (sz := s.heap.size)
  generalize hAe : va_A (cW ad cid a2 lx sg gm lg) s.heap.size = A at hD hG ⊢
  have hA : ∀ q : Nat, s.heap.size ≤ q → A q := fun q h => by rw [← hAe]; exact Or.inr h
  have hS : va_S A s.heap s.heap [] := va_S.rf
  have hl := lv_entry ([eV (ad 7) x, eV (ad 7) a]) (n := 3) (by rw [show (lg_sl ([eV (ad 7) x, eV (ad 7) a])).length = 2 from by simp [lg_sl, eV_cat, cat_i, cat_l]]; exact Nat.le_of_ble_eq_true rfl)
  rw [lg_entry_eq]
  generalize (lg_sl ([eV (ad 7) x, eV (ad 7) a]) ++ List.replicate (3 - (lg_sl ([eV (ad 7) x, eV (ad 7) a])).length) Slot.unset).toArray = ls at hl ⊢
  have hl : lv_has ls 3 [(0, eV (ad 7) x), (1, eV (ad 7) a)] := by simp [lv_args, eV_cat, cat_i, cat_l] at hl; exact hl
  have hj22 : ∀ (n : Nat) (gm_j22 : Nat → Nat → Int32) (x2_22 : Int32) (_ : (26 - x2_22.toInt).toNat = n) (_ : iv 0 26 x2_22) (_ : iv 0 7 x) (_ : iv (-1) 7 a) (_ : KS [0, 1, 3, 4, 55] gm gm_j22) (_ : CI sg gm_j22) (_ : gm_j22 0 = upd (gm 0) x.toNatClampNeg 0) (_ : gm_j22 1 = upd (gm 1) x.toNatClampNeg 0) (_ : gm_j22 3 = upd (gm 3) x.toNatClampNeg 0) (_ : BLK (gm 55) (gm_j22 55) x.toNatClampNeg x2_22.toNatClampNeg) (_ : gm_j22 4 = upd (gm 4) x.toNatClampNeg a) (H : Heap) (locs : List Loc) (ls : Array Slot), va_P (dC, dI) vwCl (cW ad cid a2 lx sg gm_j22 lg) H → va_D A (cW ad cid a2 lx sg gm_j22 lg) → va_S A s.heap H locs → lv_has ls 3 [(2, .int x2_22), (0, eV (ad 7) x), (1, eV (ad 7) a)] → W p l e (headSpec wm_X2_begin ({ frames := 0, cells := 1, slots := 6, locals := 0 })).room s m ([eV (ad 7) x, eV (ad 7) a] : List Value).toArray below meth c H locs 0 0 (vx_MQ below (cQx dC dI ad cid a2 lx (fun v u => v = none ∧ ∃ (sg2 : Nat → Int32) (gm2 : Nat → Nat → Int32) (lg2 : Nat → Nat → Int64), u = (sg2, gm2, lg2) ∧ CI sg2 gm2 ∧ KS [] sg sg2 ∧ KS [0, 1, 3, 4, 55] gm gm2 ∧ KS [] lg lg2 ∧ (gm2 0 = upd (gm 0) x.toNatClampNeg 0) ∧ (gm2 1 = upd (gm 1) x.toNatClampNeg 0) ∧ (gm2 3 = upd (gm 3) x.toNatClampNeg 0) ∧ (BLK (gm 55) (gm2 55) x.toNatClampNeg 26) ∧ (gm2 4 = upd (gm 4) x.toNatClampNeg a)) A) (cX dC dI ad cid a2 lx (fun _ _ => False) A) ([eV (ad 7) x, eV (ad 7) a] : List Value).toArray s 1 6 A) (F0 m 22 ls []) := by
    intro n
    induction n using Nat.strongRecOn with
    | ind n ih22 =>
      intro gm_j22 x2_22 hn22 hx2_22 hsx0_22 hsx1_22 hkg_j22 hI_j22 h0 h1 h3 hB h4 H locs ls hP hD hS hl
      refine lv_iload_n hx hb dX2_begin_22 rfl (lv_at hl 0 rfl) ?_
      refine lv_bipush (v := 26) hx hb dX2_begin_23 (by decide) ?_
      refine lv_icmp_ge (tgt := 41) hx hb dX2_begin_25 (by decide) (fun c_1 => ?_) (fun c_1 => ?_)
      · have h_2 : iv 26 26 x2_22 := iv_leR c_1 (iv_k (by decide) : iv 26 26 26) hx2_22 (by decide)
        exact W.nb (fun hN => W.widen (k := 1) (n := 6) (by decide) (by decide) (vx_ret (W.vret hx hb hr (fun t ht hW => ⟨⟨none, (sg, gm_j22, lg), rfl, ⟨rfl, sg, gm_j22, lg, rfl, hI_j22, KS_rf, (KS_tr (L := [0, 1, 3, 4, 55]) KS_rf hkg_j22 (by decide)), KS_rf, ((show gm_j22 0 = gm_j22 0 from rfl).trans h0), ((show gm_j22 1 = gm_j22 1 from rfl).trans h1), ((show gm_j22 3 = gm_j22 3 from rfl).trans h3), ((by { have k1 : x2_22.toNatClampNeg = x2_22.toInt.toNat := rfl; have e9 : x2_22.toNatClampNeg = 26 := (by { have := i32_0; have := i32_1; have := i32_2; have := i32_m1; have := (hsx0_22).1; have := (hsx0_22).2; have := (hsx1_22).1; have := (hsx1_22).2; have := (h_2).1; have := (h_2).2; omega }); rw [← e9]; exact hB })), ((show gm_j22 4 = gm_j22 4 from rfl).trans h4)⟩, by rw [ht]; exact hP, va_K.moved hW.alike hK, hD⟩, hS.F ht, by rw [ht]; exact hN⟩) hS.2.2 dX2_begin_41)))
      · have h_3 : iv 0 25 x2_22 := iv_ltL (i32_lt c_1) hx2_22 (iv_k (by decide) : iv 26 26 26) (by decide)
        refine ec_aload_n hx hb dX2_begin_28 rfl (lv_at hl 1 rfl) ?_
        refine cr_get (t := 7) (j := 5) (C := RX2) (T := TX2) (N := 8) (v := eV (ad 30) x) hx hb htb inX2 hown hK hP hsx0_22 (by decide) (by decide) (by decide) rfl (by decide) (htb _ kw_215) (cV_c rfl (hsx0_22).1 (by rw [show cMu 7 5 = 1 from rfl, Nat.one_mul]; rfl)) dX2_begin_29 ?_
        refine lv_iload_n hx hb dX2_begin_32 rfl (lv_at hl 0 rfl) ?_
        refine lv_iconst (v := (-1)) hx hb dX2_begin_33 (by decide) ?_
        refine cr_iast (t := 30) (k := 55) (n9 := (26 * x.toNatClampNeg + (x2_22 : Int32).toNatClampNeg)) (z := (-1)) hx hb hK hP hD hS hsx0_22 (by decide) (by decide) (by decide) rfl rfl rfl (show vp_in x2_22 (cLen 30) from (show vp_in x2_22 26 from (iv_in h_3 (by decide)))) (Or.inr (vin_lt (show vp_in x2_22 (cLen 30) from (show vp_in x2_22 26 from (iv_in h_3 (by decide)))))) rfl dX2_begin_34 (fun gm_4 H locs egm_4 hP hD hS => ?_)
        have hI_gm_4 := CI_st hI_j22 egm_4 (iv_k (by decide) : iv (-1) (-1) (-1)) (by decide)
        obtain ⟨z_5, ez_5⟩ : ∃ z : Int32, z = x2_22 + 1 := ⟨_, rfl⟩
        have hz_5 : iv 1 26 z_5 := iv_of ez_5 (iv_add h_3 (iv_k (by decide) : iv 1 1 1) (by decide))
        have tz_5 : z_5.toInt = x2_22.toInt + 1 := by rw [ez_5]; exact iv_addE h_3 (iv_k (by decide) : iv 1 1 1) (by decide)
        refine lv_iinc (v := z_5) (lv' := [(2, .int z_5), (0, eV (ad 7) x), (1, eV (ad 7) a)]) hx hb dX2_begin_35 hl (k := 0) rfl ez_5.symm (by decide) (by simp [List.filter, eV_cat, cat_i, cat_l]) (fun ls hl => ?_)
        refine lv_goto (tgt := 22) hx hb dX2_begin_38 (by decide) ?_
        exact ih22 _ (by rw [← hn22]; exact (iv_meas tz_5 h_3 (by decide))) gm_4 z_5 rfl (iv_w hz_5 (by decide)) hsx0_22 hsx1_22 (KS_up (KS_tr (L := [0, 1, 3, 4, 55]) KS_rf hkg_j22 (by decide)) egm_4 (by decide)) hI_gm_4 ((show gm_4 0 = gm_j22 0 from ((up_ne egm_4 (by decide)).trans rfl)).trans h0) ((show gm_4 1 = gm_j22 1 from ((up_ne egm_4 (by decide)).trans rfl)).trans h1) ((show gm_4 3 = gm_j22 3 from ((up_ne egm_4 (by decide)).trans rfl)).trans h3) (BLK_s hB (up_at egm_4) (by { have k1 : x2_22.toNatClampNeg = x2_22.toInt.toNat := rfl; have := i32_0; have := i32_1; have := i32_2; have := i32_m1; have := (hsx0_22).1; have := (hsx0_22).2; have := (hsx1_22).1; have := (hsx1_22).2; have := (h_3).1; have := (h_3).2; have := (hz_5).1; have := (hz_5).2; omega }) (by { have k1 : x2_22.toNatClampNeg = x2_22.toInt.toNat := rfl; have k2 : z_5.toNatClampNeg = z_5.toInt.toNat := rfl; have := i32_0; have := i32_1; have := i32_2; have := i32_m1; have := (hsx0_22).1; have := (hsx0_22).2; have := (hsx1_22).1; have := (hsx1_22).2; have := (h_3).1; have := (h_3).2; have := (hz_5).1; have := (hz_5).2; omega })) ((show gm_4 4 = gm_j22 4 from ((up_ne egm_4 (by decide)).trans rfl)).trans h4) _ _ _ hP hD hS (lv_sub hl [0, 1, 2] rfl)
  refine ec_aload_n hx hb dX2_begin_0 rfl (lv_at hl 0 rfl) ?_
  refine ec_aload_n hx hb dX2_begin_1 rfl (lv_at hl 1 rfl) ?_
  refine cr_putg (t := 7) (j := 7) (C := RX2) (T := TX2) (N := 8) (ty0 := tyX2) (k := 4) (y := a) hx hb htb inX2 tyX2_ok nmX2 hown hK hP hD hS hvx (by decide) (by decide) (by decide) (by decide) rfl rfl (by decide) (htb _ kw_217) rfl (by show eV (ad 7) a = eV (ad 7) (va_up gm 4 (upd (gm 4) x.toNatClampNeg a) 4 x.toNatClampNeg); rw [va_up_self, upd_at]) (ev_n _) (ev_f _) dX2_begin_2 (fun gm_6 H locs egm_6 hP hD hS => ?_)
  have hI_gm_6 := CI_st hI egm_6 hva (by decide)
  refine ec_aload_n hx hb dX2_begin_5 rfl (lv_at hl 0 rfl) ?_
  refine lv_iconst (v := 0) hx hb dX2_begin_6 (by decide) ?_
  refine cr_putg (t := 7) (j := 2) (C := RX2) (T := TX2) (N := 8) (ty0 := tyX2) (k := 0) (y := 0) hx hb htb inX2 tyX2_ok nmX2 hown hK hP hD hS hvx (by decide) (by decide) (by decide) (by decide) rfl rfl (by decide) (htb _ kw_210) rfl (by show Value.int 0 = Value.int (va_up gm_6 0 (upd (gm_6 0) x.toNatClampNeg 0) 0 x.toNatClampNeg); rw [va_up_self, upd_at]) rfl rfl dX2_begin_7 (fun gm_7 H locs egm_7 hP hD hS => ?_)
  have hI_gm_7 := CI_st hI_gm_6 egm_7 (iv_k (by decide) : iv 0 0 0) (by decide)
  refine ec_aload_n hx hb dX2_begin_10 rfl (lv_at hl 0 rfl) ?_
  refine lv_iconst (v := 0) hx hb dX2_begin_11 (by decide) ?_
  refine cr_putg (t := 7) (j := 3) (C := RX2) (T := TX2) (N := 8) (ty0 := tyX2) (k := 1) (y := 0) hx hb htb inX2 tyX2_ok nmX2 hown hK hP hD hS hvx (by decide) (by decide) (by decide) (by decide) rfl rfl (by decide) (htb _ kw_212) rfl (by show Value.int 0 = Value.int (va_up gm_7 1 (upd (gm_7 1) x.toNatClampNeg 0) 1 x.toNatClampNeg); rw [va_up_self, upd_at]) rfl rfl dX2_begin_12 (fun gm_8 H locs egm_8 hP hD hS => ?_)
  have hI_gm_8 := CI_st hI_gm_7 egm_8 (iv_k (by decide) : iv 0 0 0) (by decide)
  refine ec_aload_n hx hb dX2_begin_15 rfl (lv_at hl 0 rfl) ?_
  refine lv_iconst (v := 0) hx hb dX2_begin_16 (by decide) ?_
  refine cr_putg (t := 7) (j := 6) (C := RX2) (T := TX2) (N := 8) (ty0 := tyX2) (k := 3) (y := 0) hx hb htb inX2 tyX2_ok nmX2 hown hK hP hD hS hvx (by decide) (by decide) (by decide) (by decide) rfl rfl (by decide) (htb _ kw_216) rfl (by show Value.int 0 = Value.int (va_up gm_8 3 (upd (gm_8 3) x.toNatClampNeg 0) 3 x.toNatClampNeg); rw [va_up_self, upd_at]) rfl rfl dX2_begin_17 (fun gm_9 H locs egm_9 hP hD hS => ?_)
  have hI_gm_9 := CI_st hI_gm_8 egm_9 (iv_k (by decide) : iv 0 0 0) (by decide)
  refine lv_iconst (v := 0) hx hb dX2_begin_20 (by decide) ?_
  refine lv_istore_n (i := 2) (lv' := [(2, .int 0), (0, eV (ad 7) x), (1, eV (ad 7) a)]) hx hb dX2_begin_21 rfl hl (by decide) (by simp [List.filter, eV_cat, cat_i, cat_l]) (fun ls hl => ?_)
  exact hj22 _ gm_9 0 rfl (iv_w (iv_k (by decide) : iv 0 0 0) (by decide)) hvx hva (KS_up (KS_up (KS_up (KS_up KS_rf egm_6 (by decide)) egm_7 (by decide)) egm_8 (by decide)) egm_9 (by decide)) hI_gm_9 ((show gm_9 0 = upd (gm 0) (x : Int32).toNatClampNeg 0 from ((up_ne egm_9 (by decide)).trans ((up_ne egm_8 (by decide)).trans ((up_at egm_7).trans (by rw [show gm_6 0 = gm 0 from ((up_ne egm_6 (by decide)).trans rfl)])))))) ((show gm_9 1 = upd (gm 1) (x : Int32).toNatClampNeg 0 from ((up_ne egm_9 (by decide)).trans ((up_at egm_8).trans (by rw [show gm_7 1 = gm 1 from ((up_ne egm_7 (by decide)).trans ((up_ne egm_6 (by decide)).trans rfl))]))))) ((show gm_9 3 = upd (gm 3) (x : Int32).toNatClampNeg 0 from ((up_at egm_9).trans (by rw [show gm_8 3 = gm 3 from ((up_ne egm_8 (by decide)).trans ((up_ne egm_7 (by decide)).trans ((up_ne egm_6 (by decide)).trans rfl)))])))) (BLK_0 (show gm_9 55 = gm 55 from ((up_ne egm_9 (by decide)).trans ((up_ne egm_8 (by decide)).trans ((up_ne egm_7 (by decide)).trans ((up_ne egm_6 (by decide)).trans rfl))))) (by decide)) ((show gm_9 4 = upd (gm 4) (x : Int32).toNatClampNeg a from ((up_ne egm_9 (by decide)).trans ((up_ne egm_8 (by decide)).trans ((up_ne egm_7 (by decide)).trans ((up_at egm_6).trans (by rw [show gm 4 = gm 4 from rfl]))))))) _ _ _ hP hD hS (lv_sub hl [0, 1, 2] rfl)
end
section
set_option maxHeartbeats 4000000 in
set_option maxRecDepth 100000 in
theorem d_declare9 (l : Launch) (dC : Nat → ClassId) (dI : Nat → Nat → Nat) (ad : Nat → Nat → Nat) (cid : Nat → ClassId) (a2 : Nat → Nat) (lx : List Nat) (sg : Nat → Int32) (gm : Nat → Nat → Int32) (lg : Nat → Nat → Int64) (x : Int32) (ca : Int32) (pa : Int32) (hI : CI sg gm) (hvx : iv 0 0 x) : CMt dC dI ad cid a2 lx l yX12_declare wm_X12_declare ({ frames := 1, cells := 1, slots := 6, locals := 22 }) [eV (ad 0) x, .int ca, .int pa] sg gm lg (fun v u => ∃ r : Int32, v = some (.int r) ∧ ∃ (sg2 : Nat → Int32) (gm2 : Nat → Nat → Int32) (lg2 : Nat → Nat → Int64), u = (sg2, gm2, lg2) ∧ CI sg2 gm2 ∧ KS [] sg sg2 ∧ KS [0, 1, 3, 4, 55] gm gm2 ∧ KS [] lg lg2 ∧ (iv 0 1 r) ∧ (r.toInt = 1 ∧ (0 ≤ ca.toInt ∧ ca.toInt ≤ 7 ∧ -1 ≤ pa.toInt ∧ pa.toInt < ca.toInt) ∨ r.toInt = 0 ∧ ¬ (0 ≤ ca.toInt ∧ ca.toInt ≤ 7 ∧ -1 ≤ pa.toInt ∧ pa.toInt < ca.toInt)) ∧ (DEC9 (0 ≤ ca.toInt ∧ ca.toInt ≤ 7 ∧ -1 ≤ pa.toInt ∧ pa.toInt < ca.toInt) r ca.toNatClampNeg (gm 0) (gm2 0)) ∧ (DEC9 (0 ≤ ca.toInt ∧ ca.toInt ≤ 7 ∧ -1 ≤ pa.toInt ∧ pa.toInt < ca.toInt) r ca.toNatClampNeg (gm 1) (gm2 1)) ∧ (DEC9 (0 ≤ ca.toInt ∧ ca.toInt ≤ 7 ∧ -1 ≤ pa.toInt ∧ pa.toInt < ca.toInt) r ca.toNatClampNeg (gm 3) (gm2 3)) ∧ (DECB (0 ≤ ca.toInt ∧ ca.toInt ≤ 7 ∧ -1 ≤ pa.toInt ∧ pa.toInt < ca.toInt) r ca.toNatClampNeg (gm 55) (gm2 55)) ∧ (DEP9 (0 ≤ ca.toInt ∧ ca.toInt ≤ 7 ∧ -1 ≤ pa.toInt ∧ pa.toInt < ca.toInt) r ca.toNatClampNeg pa (gm 4) (gm2 4))) (fun _ _ => False) := by
  intro sz
  refine vx_ofW (cc := cX12_declare) (maxL := 3) (ret := (some .boolean)) (by decide) rfl ?_
  intro p e s m args below meth c s₁ B hml hxt hv
  obtain ⟨rfl, hsz, hP, hK, hD0, hG⟩ := hv
  have hx := B.exec
  have hb := B.bytes
  have hr := B.returns
  have hts := atoms_spec (ws := wm_X12_declare) B.pre
  have htb := fun (w : Cond) (h : w ∈ tb) => hts w (List.mem_cons_of_mem _ h)
  have hown : s.vm.findClass RX12 = some m.cls := findClass_of_methodNamed B.named
  have hlocks := B.notSynchronized
  subst hsz
  have hD := hD0.self (sz := s.heap.size)
  generalize hAe : va_A (cW ad cid a2 lx sg gm lg) s.heap.size = A at hD hG ⊢
  have hA : ∀ q : Nat, s.heap.size ≤ q → A q := fun q h => by rw [← hAe]; exact Or.inr h
  have hS : va_S A s.heap s.heap [] := va_S.rf
  have hl := lv_entry ([eV (ad 0) x, .int ca, .int pa]) (n := 3) (by rw [show (lg_sl ([eV (ad 0) x, .int ca, .int pa])).length = 3 from by simp [lg_sl, eV_cat, cat_i, cat_l]]; exact Nat.le_of_ble_eq_true rfl)
  rw [lg_entry_eq]
  generalize (lg_sl ([eV (ad 0) x, .int ca, .int pa]) ++ List.replicate (3 - (lg_sl ([eV (ad 0) x, .int ca, .int pa])).length) Slot.unset).toArray = ls at hl ⊢
  have hl : lv_has ls 3 [(0, eV (ad 0) x), (1, .int ca), (2, .int pa)] := by simp [lv_args, eV_cat, cat_i, cat_l] at hl; exact hl
  have hj17 : ∀ (_ : iv 0 0 x) (_ : ¬ (0 ≤ ca.toInt ∧ ca.toInt ≤ 7 ∧ -1 ≤ pa.toInt ∧ pa.toInt < ca.toInt)) (H : Heap) (locs : List Loc) (ls : Array Slot), va_P (dC, dI) vwCl (cW ad cid a2 lx sg gm lg) H → va_D A (cW ad cid a2 lx sg gm lg) → va_S A s.heap H locs → lv_has ls 3 [(0, eV (ad 0) x), (1, .int ca), (2, .int pa)] → W p l e (headSpec wm_X12_declare ({ frames := 1, cells := 1, slots := 6, locals := 22 })).room s m ([eV (ad 0) x, .int ca, .int pa] : List Value).toArray below meth c H locs 0 0 (vx_MQ below (cQx dC dI ad cid a2 lx (fun v u => ∃ r : Int32, v = some (.int r) ∧ ∃ (sg2 : Nat → Int32) (gm2 : Nat → Nat → Int32) (lg2 : Nat → Nat → Int64), u = (sg2, gm2, lg2) ∧ CI sg2 gm2 ∧ KS [] sg sg2 ∧ KS [0, 1, 3, 4, 55] gm gm2 ∧ KS [] lg lg2 ∧ (iv 0 1 r) ∧ (r.toInt = 1 ∧ (0 ≤ ca.toInt ∧ ca.toInt ≤ 7 ∧ -1 ≤ pa.toInt ∧ pa.toInt < ca.toInt) ∨ r.toInt = 0 ∧ ¬ (0 ≤ ca.toInt ∧ ca.toInt ≤ 7 ∧ -1 ≤ pa.toInt ∧ pa.toInt < ca.toInt)) ∧ (DEC9 (0 ≤ ca.toInt ∧ ca.toInt ≤ 7 ∧ -1 ≤ pa.toInt ∧ pa.toInt < ca.toInt) r ca.toNatClampNeg (gm 0) (gm2 0)) ∧ (DEC9 (0 ≤ ca.toInt ∧ ca.toInt ≤ 7 ∧ -1 ≤ pa.toInt ∧ pa.toInt < ca.toInt) r ca.toNatClampNeg (gm 1) (gm2 1)) ∧ (DEC9 (0 ≤ ca.toInt ∧ ca.toInt ≤ 7 ∧ -1 ≤ pa.toInt ∧ pa.toInt < ca.toInt) r ca.toNatClampNeg (gm 3) (gm2 3)) ∧ (DECB (0 ≤ ca.toInt ∧ ca.toInt ≤ 7 ∧ -1 ≤ pa.toInt ∧ pa.toInt < ca.toInt) r ca.toNatClampNeg (gm 55) (gm2 55)) ∧ (DEP9 (0 ≤ ca.toInt ∧ ca.toInt ≤ 7 ∧ -1 ≤ pa.toInt ∧ pa.toInt < ca.toInt) r ca.toNatClampNeg pa (gm 4) (gm2 4))) A) (cX dC dI ad cid a2 lx (fun _ _ => False) A) ([eV (ad 0) x, .int ca, .int pa] : List Value).toArray s 1 6 A) (F0 m 17 ls []) := by
    intro  hsx0_17 hno H locs ls hP hD hS hl
    refine lv_iconst (v := 0) hx hb dX12_declare_17 (by decide) ?_
    exact W.nb (fun hN => W.widen (k := 1) (n := 6) (by decide) (by decide) (vx_ret (W.zret (v := 0) hx hb hr (iv_nb (iv_w (iv_k (by decide) : iv 0 0 0) (by decide))) (fun t ht hW => ⟨⟨some (.int 0), (sg, gm, lg), rfl, ⟨0, rfl, sg, gm, lg, rfl, hI, KS_rf, KS_rf, KS_rf, (iv_w (iv_k (by decide) : iv 0 0 0) (by decide)), (Or.inr ⟨rfl, hno⟩), (Or.inr ⟨rfl, hno, (show gm 0 = gm 0 from rfl)⟩), (Or.inr ⟨rfl, hno, (show gm 1 = gm 1 from rfl)⟩), (Or.inr ⟨rfl, hno, (show gm 3 = gm 3 from rfl)⟩), (Or.inr ⟨rfl, hno, (show gm 55 = gm 55 from rfl)⟩), (Or.inr ⟨rfl, hno, (show gm 4 = gm 4 from rfl)⟩)⟩, by rw [ht]; exact hP, va_K.moved hW.alike hK, hD⟩, hS.F ht, by rw [ht]; exact hN⟩) hS.2.2 dX12_declare_18)))
  have hj40 : ∀ (y0_40 : Int32) (_ : iv 0 0 x) (_ : iv 0 7 ca) (_ : iv (-1) 7 pa) (_ : iv (-1) 7 y0_40) (_ : iv 0 7 ca) (_ : 0 ≤ ca.toInt ∧ ca.toInt ≤ 7 ∧ -1 ≤ pa.toInt ∧ pa.toInt < ca.toInt) (_ : y0_40.toInt = pa.toInt) (H : Heap) (locs : List Loc) (ls : Array Slot), va_P (dC, dI) vwCl (cW ad cid a2 lx sg gm lg) H → va_D A (cW ad cid a2 lx sg gm lg) → va_S A s.heap H locs → lv_has ls 3 [(0, eV (ad 0) x), (1, .int ca), (2, .int pa)] → W p l e (headSpec wm_X12_declare ({ frames := 1, cells := 1, slots := 6, locals := 22 })).room s m ([eV (ad 0) x, .int ca, .int pa] : List Value).toArray below meth c H locs 0 0 (vx_MQ below (cQx dC dI ad cid a2 lx (fun v u => ∃ r : Int32, v = some (.int r) ∧ ∃ (sg2 : Nat → Int32) (gm2 : Nat → Nat → Int32) (lg2 : Nat → Nat → Int64), u = (sg2, gm2, lg2) ∧ CI sg2 gm2 ∧ KS [] sg sg2 ∧ KS [0, 1, 3, 4, 55] gm gm2 ∧ KS [] lg lg2 ∧ (iv 0 1 r) ∧ (r.toInt = 1 ∧ (0 ≤ ca.toInt ∧ ca.toInt ≤ 7 ∧ -1 ≤ pa.toInt ∧ pa.toInt < ca.toInt) ∨ r.toInt = 0 ∧ ¬ (0 ≤ ca.toInt ∧ ca.toInt ≤ 7 ∧ -1 ≤ pa.toInt ∧ pa.toInt < ca.toInt)) ∧ (DEC9 (0 ≤ ca.toInt ∧ ca.toInt ≤ 7 ∧ -1 ≤ pa.toInt ∧ pa.toInt < ca.toInt) r ca.toNatClampNeg (gm 0) (gm2 0)) ∧ (DEC9 (0 ≤ ca.toInt ∧ ca.toInt ≤ 7 ∧ -1 ≤ pa.toInt ∧ pa.toInt < ca.toInt) r ca.toNatClampNeg (gm 1) (gm2 1)) ∧ (DEC9 (0 ≤ ca.toInt ∧ ca.toInt ≤ 7 ∧ -1 ≤ pa.toInt ∧ pa.toInt < ca.toInt) r ca.toNatClampNeg (gm 3) (gm2 3)) ∧ (DECB (0 ≤ ca.toInt ∧ ca.toInt ≤ 7 ∧ -1 ≤ pa.toInt ∧ pa.toInt < ca.toInt) r ca.toNatClampNeg (gm 55) (gm2 55)) ∧ (DEP9 (0 ≤ ca.toInt ∧ ca.toInt ≤ 7 ∧ -1 ≤ pa.toInt ∧ pa.toInt < ca.toInt) r ca.toNatClampNeg pa (gm 4) (gm2 4))) A) (cX dC dI ad cid a2 lx (fun _ _ => False) A) ([eV (ad 0) x, .int ca, .int pa] : List Value).toArray s 1 6 A) (F0 m 40 ls [eV (ad 7) y0_40, eV (ad 7) ca]) := by
    intro y0_40 hsx0_40 hsx1_40 hsx2_40 hy0_40 hsy1_40 hyes hpa H locs ls hP hD hS hl
    refine cm_callV (t := 7) (C := RX2) (T := TX2) (N := 8) (rest := []) (as := [eV (ad 7) y0_40]) ⟨hx, hb, hml, hown, htb⟩ (d_beginDc9 l dC dI ad cid a2 lx sg gm lg ca y0_40 hI hsy1_40 hy0_40) (cwV 1 htb (gd_V kw_434 kw_435 kw_436 kw_147 kw_1385) rfl rfl rfl (by decide +kernel) ⟨Nat.le_of_ble_eq_true rfl, Nat.le_of_ble_eq_true rfl⟩) hsy1_40 (by decide) (by decide) rfl rfl hl.1 rfl (Nat.le_trans cs_n (by decide)) dX12_declare_40 ⟨Nat.le_of_ble_eq_true rfl, Nat.le_of_ble_eq_true rfl⟩ hK hP hD hS hA hG (fun E ce q9 u_2 H locs hw hP hD hS hce hcv hcl => ?_) (fun v9 u_2 H locs hw hP hD hS => ?_)
    · exact hw.elim
    obtain ⟨rfl, sgv_3, gmv_3, lgv_3, rfl, hIv_3, ksv_3, kgv_3, klv_3, f0_r_1, f1_r_1, f3_r_1, fB_r_1, f4_r_1⟩ := hw
    obtain rfl := KS_nil ksv_3
    obtain rfl := KS_nil klv_3
    have hP : va_P (dC, dI) vwCl (cW ad cid a2 lx sg gmv_3 lg) H := hP
    have hD : va_D A (cW ad cid a2 lx sg gmv_3 lg) := hD
    refine W.eq (g2 := F0 m 43 ls []) rfl ?_
    refine lv_iconst (v := 1) hx hb dX12_declare_43 (by decide) ?_
    exact W.nb (fun hN => W.widen (k := 1) (n := 6) (by decide) (by decide) (vx_ret (W.zret (v := 1) hx hb hr (iv_nb (iv_w (iv_k (by decide) : iv 1 1 1) (by decide))) (fun t ht hW => ⟨⟨some (.int 1), (sg, gmv_3, lg), rfl, ⟨1, rfl, sg, gmv_3, lg, rfl, hIv_3, KS_rf, (KS_tr (L := [0, 1, 3, 4, 55]) KS_rf kgv_3 (by decide)), KS_rf, (iv_w (iv_k (by decide) : iv 1 1 1) (by decide)), (Or.inl ⟨rfl, hyes⟩), (Or.inl ⟨rfl, hyes, f0_r_1⟩), (Or.inl ⟨rfl, hyes, f1_r_1⟩), (Or.inl ⟨rfl, hyes, f3_r_1⟩), (Or.inl ⟨rfl, hyes, fB_r_1⟩), (Or.inl ⟨rfl, hyes, (by rw [show pa = y0_40 from Int32.toInt_inj.mp hpa.symm]; exact f4_r_1)⟩)⟩, by rw [ht]; exact hP, va_K.moved hW.alike hK, hD⟩, hS.F ht, by rw [ht]; exact hN⟩) hS.2.2 dX12_declare_44)))
  refine lv_iload_n hx hb dX12_declare_0 rfl (lv_at hl 1 rfl) ?_
  refine cm_callS (rest := []) (as := [.int ca]) ⟨hx, hb, hml, hown, htb⟩ (d_isClass2 l dC dI ad cid a2 lx sg gm lg ca hI) (va_cwS 1 htb (gd_S kw_432 kw_433 kw_146 kw_1384) rfl rfl rfl (by decide +kernel) ⟨Nat.le_of_ble_eq_true rfl, Nat.le_of_ble_eq_true rfl⟩)  rfl hl.1 rfl (Nat.le_trans cs_n (by decide)) dX12_declare_1 ⟨Nat.le_of_ble_eq_true rfl, Nat.le_of_ble_eq_true rfl⟩ hK hP hD hS hA hG (fun E ce q9 u_5 H locs hw hP hD hS hce hcv hcl => ?_) (fun v9 u_5 H locs hw hP hD hS => ?_)
  · exact hw.elim
  obtain ⟨r_4, rfl, rfl, hr_4, fl_r_4⟩ := hw
  have hP : va_P (dC, dI) vwCl (cW ad cid a2 lx sg gm lg) H := hP
  have hD : va_D A (cW ad cid a2 lx sg gm lg) := hD
  refine W.eq (g2 := F0 m 4 ls [.int r_4]) rfl ?_
  refine lv_if_eq (tgt := 17) hx hb dX12_declare_4 (by decide) (fun c_7 => ?_) (fun c_7 => ?_)
  · have h_8 : iv 0 0 r_4 := iv_eq c_7 hr_4 (iv_k (by decide) : iv 0 0 0) (by decide)
    exact hj17 hvx (fun q9 => by { have := fl_r_4; have := i32_0; have := i32_1; have := i32_2; have := i32_m1; have := (hvx).1; have := (hvx).2; have := (h_8).1; have := (h_8).2; omega }) _ _ _ hP hD hS (lv_sub hl [0, 1, 2] rfl)
  · have h_9 : iv 1 1 r_4 := iv_neL c_7 hr_4 (by decide)
    refine lv_iload_n hx hb dX12_declare_7 rfl (lv_at hl 2 rfl) ?_
    refine lv_iconst (v := (-1)) hx hb dX12_declare_8 (by decide) ?_
    refine lv_icmp_lt (tgt := 17) hx hb dX12_declare_9 (by decide) (fun c_10 => ?_) (fun c_10 => ?_)
    · have h_11 : iv (-2147483648) (-2) pa := iv_ltL c_10 (iv_all pa) (iv_k (by decide) : iv (-1) (-1) (-1)) (by decide)
      exact hj17 hvx (fun q9 => by { have := fl_r_4; have := i32_0; have := i32_1; have := i32_2; have := i32_m1; have := (hvx).1; have := (hvx).2; have := (h_9).1; have := (h_9).2; have := (h_11).1; have := (h_11).2; omega }) _ _ _ hP hD hS (lv_sub hl [0, 1, 2] rfl)
    · have h_12 : iv (-1) 2147483647 pa := iv_leR (i32_ge c_10) (iv_k (by decide) : iv (-1) (-1) (-1)) (iv_all pa) (by decide)
      refine lv_iload_n hx hb dX12_declare_12 rfl (lv_at hl 2 rfl) ?_
      refine lv_iload_n hx hb dX12_declare_13 rfl (lv_at hl 1 rfl) ?_
      refine lv_icmp_lt (tgt := 19) hx hb dX12_declare_14 (by decide) (fun c_13 => ?_) (fun c_13 => ?_)
      · have d_14 : (pa : Int32).toInt < (ca : Int32).toInt := Int32.lt_iff_toInt_lt.mp c_13
        have h_15 : iv (-1) 2147483646 pa := iv_ltL c_13 h_12 (iv_all ca) (by decide)
        have h_16 : iv 0 2147483647 ca := iv_ltR c_13 h_12 (iv_all ca) (by decide)
        have h_17 : iv 0 7 ca := ⟨by have := fl_r_4; have := i32_0; have := i32_1; have := i32_2; have := i32_m1; have := (hvx).1; have := (hvx).2; have := (h_9).1; have := (h_9).2; have := (h_15).1; have := (h_15).2; have := (h_16).1; have := (h_16).2; omega, by have := fl_r_4; have := i32_0; have := i32_1; have := i32_2; have := i32_m1; have := (hvx).1; have := (hvx).2; have := (h_9).1; have := (h_9).2; have := (h_15).1; have := (h_15).2; have := (h_16).1; have := (h_16).2; omega⟩
        refine ec_aload_n hx hb dX12_declare_19 rfl (lv_at hl 0 rfl) ?_
        refine cr_get (t := 0) (j := 0) (C := RX12) (T := TX12) (N := 12) (v := eV (ad 12) 0) hx hb htb inX12 hown hK hP hvx (by decide) (by decide) (by decide) rfl (by decide) (htb _ kw_417) (cV_c rfl (by decide) (by rw [show cMu 0 0 = 0 from rfl, Nat.zero_mul]; rfl)) dX12_declare_20 ?_
        refine lv_iload_n hx hb dX12_declare_23 rfl (lv_at hl 1 rfl) ?_
        refine cr_aald (t := 12) (C := RX2) (v := eV (ad 7) ca) hx hb hK hP (iv_k (by decide) : iv 0 0 0) (by decide) (by decide) (by decide) (by decide) (by decide) rfl (show vp_in ca (cLen 12) from (show vp_in ca 8 from (iv_in h_17 (by decide)))) (cAr_c (by decide) (h_17).1 (by rw [show cAm 12 = 0 from rfl, Nat.zero_mul, show cAo 12 = 0 from rfl]; omega)) dX12_declare_24 ?_
        refine lv_iload_n hx hb dX12_declare_25 rfl (lv_at hl 2 rfl) ?_
        refine lv_iconst (v := (-1)) hx hb dX12_declare_26 (by decide) ?_
        refine lv_icmp_ne (tgt := 34) hx hb dX12_declare_27 (by decide) (fun c_18 => ?_) (fun c_18 => ?_)
        · have h_19 : iv 0 2147483646 pa := iv_neL c_18 h_15 (by decide)
          have h_20 : iv 0 7 pa := ⟨by have := i32_0; have := i32_1; have := i32_2; have := i32_m1; have := (hvx).1; have := (hvx).2; have := (h_9).1; have := (h_9).2; have := (h_19).1; have := (h_19).2; have := (h_17).1; have := (h_17).2; omega, by have := i32_0; have := i32_1; have := i32_2; have := i32_m1; have := (hvx).1; have := (hvx).2; have := (h_9).1; have := (h_9).2; have := (h_19).1; have := (h_19).2; have := (h_17).1; have := (h_17).2; omega⟩
          refine ec_aload_n hx hb dX12_declare_34 rfl (lv_at hl 0 rfl) ?_
          refine cr_get (t := 0) (j := 0) (C := RX12) (T := TX12) (N := 12) (v := eV (ad 12) 0) hx hb htb inX12 hown hK hP hvx (by decide) (by decide) (by decide) rfl (by decide) (htb _ kw_417) (cV_c rfl (by decide) (by rw [show cMu 0 0 = 0 from rfl, Nat.zero_mul]; rfl)) dX12_declare_35 ?_
          refine lv_iload_n hx hb dX12_declare_38 rfl (lv_at hl 2 rfl) ?_
          refine cr_aald (t := 12) (C := RX2) (v := eV (ad 7) pa) hx hb hK hP (iv_k (by decide) : iv 0 0 0) (by decide) (by decide) (by decide) (by decide) (by decide) rfl (show vp_in pa (cLen 12) from (show vp_in pa 8 from (iv_in h_20 (by decide)))) (cAr_c (by decide) (h_20).1 (by rw [show cAm 12 = 0 from rfl, Nat.zero_mul, show cAo 12 = 0 from rfl]; omega)) dX12_declare_39 ?_
          exact hj40 pa hvx h_17 (iv_w h_20 (by decide)) (iv_w h_20 (by decide)) h_17 (⟨by have := i32_0; have := i32_1; have := i32_2; have := i32_m1; have := (hvx).1; have := (hvx).2; have := (h_9).1; have := (h_9).2; have := (h_20).1; have := (h_20).2; have := (h_17).1; have := (h_17).2; omega, by have := i32_0; have := i32_1; have := i32_2; have := i32_m1; have := (hvx).1; have := (hvx).2; have := (h_9).1; have := (h_9).2; have := (h_20).1; have := (h_20).2; have := (h_17).1; have := (h_17).2; omega, by have := i32_0; have := i32_1; have := i32_2; have := i32_m1; have := (hvx).1; have := (hvx).2; have := (h_9).1; have := (h_9).2; have := (h_20).1; have := (h_20).2; have := (h_17).1; have := (h_17).2; omega, by have := i32_0; have := i32_1; have := i32_2; have := i32_m1; have := (hvx).1; have := (hvx).2; have := (h_9).1; have := (h_9).2; have := (h_20).1; have := (h_20).2; have := (h_17).1; have := (h_17).2; omega⟩) (by have := i32_0; have := i32_1; have := i32_2; have := i32_m1; have := (hvx).1; have := (hvx).2; have := (h_9).1; have := (h_9).2; have := (h_20).1; have := (h_20).2; have := (h_17).1; have := (h_17).2; omega) _ _ _ hP hD hS (lv_sub hl [0, 1, 2] rfl)
        · have h_21 : iv (-1) (-1) pa := iv_eq c_18 h_15 (iv_k (by decide) : iv (-1) (-1) (-1)) (by decide)
          refine ec_null (a := ad 7) hx hb dX12_declare_30 ?_
          refine lv_goto (tgt := 40) hx hb dX12_declare_31 (by decide) ?_
          exact hj40 (-1) hvx h_17 (iv_w h_21 (by decide)) (iv_w (iv_k (by decide) : iv (-1) (-1) (-1)) (by decide)) h_17 (⟨by have := i32_0; have := i32_1; have := i32_2; have := i32_m1; have := (hvx).1; have := (hvx).2; have := (h_9).1; have := (h_9).2; have := (h_21).1; have := (h_21).2; have := (h_17).1; have := (h_17).2; omega, by have := i32_0; have := i32_1; have := i32_2; have := i32_m1; have := (hvx).1; have := (hvx).2; have := (h_9).1; have := (h_9).2; have := (h_21).1; have := (h_21).2; have := (h_17).1; have := (h_17).2; omega, by have := i32_0; have := i32_1; have := i32_2; have := i32_m1; have := (hvx).1; have := (hvx).2; have := (h_9).1; have := (h_9).2; have := (h_21).1; have := (h_21).2; have := (h_17).1; have := (h_17).2; omega, by have := i32_0; have := i32_1; have := i32_2; have := i32_m1; have := (hvx).1; have := (hvx).2; have := (h_9).1; have := (h_9).2; have := (h_21).1; have := (h_21).2; have := (h_17).1; have := (h_17).2; omega⟩) (by have := i32_0; have := i32_1; have := i32_2; have := i32_m1; have := (hvx).1; have := (hvx).2; have := (h_9).1; have := (h_9).2; have := (h_21).1; have := (h_21).2; have := (h_17).1; have := (h_17).2; omega) _ _ _ hP hD hS (lv_sub hl [0, 1, 2] rfl)
      · have d_22 : (ca : Int32).toInt ≤ (pa : Int32).toInt := Int32.le_iff_toInt_le.mp (i32_ge c_13)
        exact hj17 hvx (fun q9 => by { have := fl_r_4; have := i32_0; have := i32_1; have := i32_2; have := i32_m1; have := (hvx).1; have := (hvx).2; have := (h_9).1; have := (h_9).2; have := (h_12).1; have := (h_12).2; omega }) _ _ _ hP hD hS (lv_sub hl [0, 1, 2] rfl)

set_option maxHeartbeats 4000000 in
set_option maxRecDepth 100000 in
theorem d_constructor9 (l : Launch) (dC : Nat → ClassId) (dI : Nat → Nat → Nat) (ad : Nat → Nat → Nat) (cid : Nat → ClassId) (a2 : Nat → Nat) (lx : List Nat) (sg : Nat → Int32) (gm : Nat → Nat → Int32) (lg : Nat → Nat → Int64) (x : Int32) (ca : Int32) (na : Int32) (ta : Int32) (ub : Int32) (uc : Int32) (hI : CI sg gm) (hvx : iv 0 0 x) : CMt dC dI ad cid a2 lx l yX12_constructor wm_X12_constructor ({ frames := 2, cells := 1, slots := 6, locals := 48 }) [eV (ad 0) x, .int ca, .int na, .int ta, .int ub, .int uc] sg gm lg (fun v u => ∃ r : Int32, v = some (.int r) ∧ ∃ (sg2 : Nat → Int32) (gm2 : Nat → Nat → Int32) (lg2 : Nat → Nat → Int64), u = (sg2, gm2, lg2) ∧ CI sg2 gm2 ∧ KS [] sg sg2 ∧ KS [0, 7, 8, 9, 10, 54] gm gm2 ∧ KS [] lg lg2 ∧ (iv 0 1 r) ∧ (ADC (0 ≤ ca.toInt ∧ ca.toInt ≤ 7 ∧ 0 ≤ na.toInt ∧ na.toInt ≤ 3 ∧ (1 ≤ na.toInt → (0 ≤ ta.toInt ∧ ta.toInt ≤ 4 ∨ 8 ≤ ta.toInt ∧ ta.toInt ≤ 15)) ∧ (2 ≤ na.toInt → (0 ≤ ub.toInt ∧ ub.toInt ≤ 4 ∨ 8 ≤ ub.toInt ∧ ub.toInt ≤ 15)) ∧ (3 ≤ na.toInt → (0 ≤ uc.toInt ∧ uc.toInt ≤ 4 ∨ 8 ≤ uc.toInt ∧ uc.toInt ≤ 15))) r ca.toNatClampNeg 0 0 gm gm2 (-1) 0 (gm 2 ca.toNatClampNeg) na ta ub uc)) (fun _ _ => False) := by
  intro sz
  refine vx_ofW (cc := cX12_constructor) (maxL := 6) (ret := (some .boolean)) (by decide) rfl ?_
  intro p e s m args below meth c s₁ B hml hxt hv
  obtain ⟨rfl, hsz, hP, hK, hD0, hG⟩ := hv
  have hx := B.exec
  have hb := B.bytes
  have hr := B.returns
  have hts := atoms_spec (ws := wm_X12_constructor) B.pre
  have htb := fun (w : Cond) (h : w ∈ tb) => hts w (List.mem_cons_of_mem _ h)
  have hown : s.vm.findClass RX12 = some m.cls := findClass_of_methodNamed B.named
  have hlocks := B.notSynchronized
  subst hsz
  have hD := hD0.self (sz := s.heap.size)
  generalize hAe : va_A (cW ad cid a2 lx sg gm lg) s.heap.size = A at hD hG ⊢
  have hA : ∀ q : Nat, s.heap.size ≤ q → A q := fun q h => by rw [← hAe]; exact Or.inr h
  have hS : va_S A s.heap s.heap [] := va_S.rf
  have hl := lv_entry ([eV (ad 0) x, .int ca, .int na, .int ta, .int ub, .int uc]) (n := 6) (by rw [show (lg_sl ([eV (ad 0) x, .int ca, .int na, .int ta, .int ub, .int uc])).length = 6 from by simp [lg_sl, eV_cat, cat_i, cat_l]]; exact Nat.le_of_ble_eq_true rfl)
  rw [lg_entry_eq]
  generalize (lg_sl ([eV (ad 0) x, .int ca, .int na, .int ta, .int ub, .int uc]) ++ List.replicate (6 - (lg_sl ([eV (ad 0) x, .int ca, .int na, .int ta, .int ub, .int uc])).length) Slot.unset).toArray = ls at hl ⊢
  have hl : lv_has ls 6 [(0, eV (ad 0) x), (1, .int ca), (2, .int na), (3, .int ta), (4, .int ub), (5, .int uc)] := by simp [lv_args, eV_cat, cat_i, cat_l] at hl; exact hl
  have hj42 : ∀ (gm_j42 : Nat → Nat → Int32) (y0_42 : Int32) (_ : iv 0 0 x) (_ : iv 0 1 y0_42) (_ : KS [0, 7, 8, 9, 10, 54] gm gm_j42) (_ : CI sg gm_j42) (_ : ADC (0 ≤ ca.toInt ∧ ca.toInt ≤ 7 ∧ 0 ≤ na.toInt ∧ na.toInt ≤ 3 ∧ (1 ≤ na.toInt → (0 ≤ ta.toInt ∧ ta.toInt ≤ 4 ∨ 8 ≤ ta.toInt ∧ ta.toInt ≤ 15)) ∧ (2 ≤ na.toInt → (0 ≤ ub.toInt ∧ ub.toInt ≤ 4 ∨ 8 ≤ ub.toInt ∧ ub.toInt ≤ 15)) ∧ (3 ≤ na.toInt → (0 ≤ uc.toInt ∧ uc.toInt ≤ 4 ∨ 8 ≤ uc.toInt ∧ uc.toInt ≤ 15))) y0_42 ca.toNatClampNeg 0 0 gm gm_j42 (-1) 0 (gm 2 ca.toNatClampNeg) na ta ub uc) (H : Heap) (locs : List Loc) (ls : Array Slot), va_P (dC, dI) vwCl (cW ad cid a2 lx sg gm_j42 lg) H → va_D A (cW ad cid a2 lx sg gm_j42 lg) → va_S A s.heap H locs → lv_has ls 6 [(0, eV (ad 0) x), (1, .int ca), (2, .int na), (3, .int ta), (4, .int ub), (5, .int uc)] → W p l e (headSpec wm_X12_constructor ({ frames := 2, cells := 1, slots := 6, locals := 48 })).room s m ([eV (ad 0) x, .int ca, .int na, .int ta, .int ub, .int uc] : List Value).toArray below meth c H locs 0 0 (vx_MQ below (cQx dC dI ad cid a2 lx (fun v u => ∃ r : Int32, v = some (.int r) ∧ ∃ (sg2 : Nat → Int32) (gm2 : Nat → Nat → Int32) (lg2 : Nat → Nat → Int64), u = (sg2, gm2, lg2) ∧ CI sg2 gm2 ∧ KS [] sg sg2 ∧ KS [0, 7, 8, 9, 10, 54] gm gm2 ∧ KS [] lg lg2 ∧ (iv 0 1 r) ∧ (ADC (0 ≤ ca.toInt ∧ ca.toInt ≤ 7 ∧ 0 ≤ na.toInt ∧ na.toInt ≤ 3 ∧ (1 ≤ na.toInt → (0 ≤ ta.toInt ∧ ta.toInt ≤ 4 ∨ 8 ≤ ta.toInt ∧ ta.toInt ≤ 15)) ∧ (2 ≤ na.toInt → (0 ≤ ub.toInt ∧ ub.toInt ≤ 4 ∨ 8 ≤ ub.toInt ∧ ub.toInt ≤ 15)) ∧ (3 ≤ na.toInt → (0 ≤ uc.toInt ∧ uc.toInt ≤ 4 ∨ 8 ≤ uc.toInt ∧ uc.toInt ≤ 15))) r ca.toNatClampNeg 0 0 gm gm2 (-1) 0 (gm 2 ca.toNatClampNeg) na ta ub uc)) A) (cX dC dI ad cid a2 lx (fun _ _ => False) A) ([eV (ad 0) x, .int ca, .int na, .int ta, .int ub, .int uc] : List Value).toArray s 1 6 A) (F0 m 42 ls [.int y0_42]) := by
    intro gm_j42 y0_42 hsx0_42 hy0_42 hkg_j42 hI_j42 hA H locs ls hP hD hS hl
    exact W.nb (fun hN => W.widen (k := 1) (n := 6) (by decide) (by decide) (vx_ret (W.zret (v := y0_42) hx hb hr (iv_nb hy0_42) (fun t ht hW => ⟨⟨some (.int y0_42), (sg, gm_j42, lg), rfl, ⟨y0_42, rfl, sg, gm_j42, lg, rfl, hI_j42, KS_rf, (KS_tr (L := [0, 7, 8, 9, 10, 54]) KS_rf hkg_j42 (by decide)), KS_rf, hy0_42, (hA)⟩, by rw [ht]; exact hP, va_K.moved hW.alike hK, hD⟩, hS.F ht, by rw [ht]; exact hN⟩) hS.2.2 dX12_constructor_42)))
  have hj41 : ∀ (gm_j41 : Nat → Nat → Int32) (_ : iv 0 0 x) (_ : KS [0, 7, 8, 9, 10, 54] gm gm_j41) (_ : CI sg gm_j41) (_ : (¬ (0 ≤ ca.toInt ∧ ca.toInt ≤ 7 ∧ 0 ≤ na.toInt ∧ na.toInt ≤ 3 ∧ (1 ≤ na.toInt → (0 ≤ ta.toInt ∧ ta.toInt ≤ 4 ∨ 8 ≤ ta.toInt ∧ ta.toInt ≤ 15)) ∧ (2 ≤ na.toInt → (0 ≤ ub.toInt ∧ ub.toInt ≤ 4 ∨ 8 ≤ ub.toInt ∧ ub.toInt ≤ 15)) ∧ (3 ≤ na.toInt → (0 ≤ uc.toInt ∧ uc.toInt ≤ 4 ∨ 8 ≤ uc.toInt ∧ uc.toInt ≤ 15))) ∨ 4 ≤ (gm 0 ca.toNatClampNeg).toInt) ∧ gm_j41 0 = gm 0 ∧ SGE gm gm_j41) (H : Heap) (locs : List Loc) (ls : Array Slot), va_P (dC, dI) vwCl (cW ad cid a2 lx sg gm_j41 lg) H → va_D A (cW ad cid a2 lx sg gm_j41 lg) → va_S A s.heap H locs → lv_has ls 6 [(0, eV (ad 0) x), (1, .int ca), (2, .int na), (3, .int ta), (4, .int ub), (5, .int uc)] → W p l e (headSpec wm_X12_constructor ({ frames := 2, cells := 1, slots := 6, locals := 48 })).room s m ([eV (ad 0) x, .int ca, .int na, .int ta, .int ub, .int uc] : List Value).toArray below meth c H locs 0 0 (vx_MQ below (cQx dC dI ad cid a2 lx (fun v u => ∃ r : Int32, v = some (.int r) ∧ ∃ (sg2 : Nat → Int32) (gm2 : Nat → Nat → Int32) (lg2 : Nat → Nat → Int64), u = (sg2, gm2, lg2) ∧ CI sg2 gm2 ∧ KS [] sg sg2 ∧ KS [0, 7, 8, 9, 10, 54] gm gm2 ∧ KS [] lg lg2 ∧ (iv 0 1 r) ∧ (ADC (0 ≤ ca.toInt ∧ ca.toInt ≤ 7 ∧ 0 ≤ na.toInt ∧ na.toInt ≤ 3 ∧ (1 ≤ na.toInt → (0 ≤ ta.toInt ∧ ta.toInt ≤ 4 ∨ 8 ≤ ta.toInt ∧ ta.toInt ≤ 15)) ∧ (2 ≤ na.toInt → (0 ≤ ub.toInt ∧ ub.toInt ≤ 4 ∨ 8 ≤ ub.toInt ∧ ub.toInt ≤ 15)) ∧ (3 ≤ na.toInt → (0 ≤ uc.toInt ∧ uc.toInt ≤ 4 ∨ 8 ≤ uc.toInt ∧ uc.toInt ≤ 15))) r ca.toNatClampNeg 0 0 gm gm2 (-1) 0 (gm 2 ca.toNatClampNeg) na ta ub uc)) A) (cX dC dI ad cid a2 lx (fun _ _ => False) A) ([eV (ad 0) x, .int ca, .int na, .int ta, .int ub, .int uc] : List Value).toArray s 1 6 A) (F0 m 41 ls []) := by
    intro gm_j41 hsx0_41 hkg_j41 hI_j41 hno H locs ls hP hD hS hl
    refine lv_iconst (v := 0) hx hb dX12_constructor_41 (by decide) ?_
    exact hj42 gm_j41 0 hsx0_41 (iv_w (iv_k (by decide) : iv 0 0 0) (by decide)) (KS_tr (L := [0, 7, 8, 9, 10, 54]) KS_rf hkg_j41 (by decide)) hI_j41 (Or.inr ⟨rfl, hno.1, hno.2⟩) _ _ _ hP hD hS (lv_sub hl [0, 1, 2, 3, 4, 5] rfl)
  refine lv_iload_n hx hb dX12_constructor_0 rfl (lv_at hl 1 rfl) ?_
  refine cm_callS (rest := []) (as := [.int ca]) ⟨hx, hb, hml, hown, htb⟩ (d_isClass2 l dC dI ad cid a2 lx sg gm lg ca hI) (va_cwS 1 htb (gd_S kw_432 kw_433 kw_146 kw_1384) rfl rfl rfl (by decide +kernel) ⟨Nat.le_of_ble_eq_true rfl, Nat.le_of_ble_eq_true rfl⟩)  rfl hl.1 rfl (Nat.le_trans cs_n (by decide)) dX12_constructor_1 ⟨Nat.le_of_ble_eq_true rfl, Nat.le_of_ble_eq_true rfl⟩ hK hP hD hS hA hG (fun E ce q9 u_2 H locs hw hP hD hS hce hcv hcl => ?_) (fun v9 u_2 H locs hw hP hD hS => ?_)
  · exact hw.elim
  obtain ⟨r_1, rfl, rfl, hr_1, fl_r_1⟩ := hw
  have hP : va_P (dC, dI) vwCl (cW ad cid a2 lx sg gm lg) H := hP
  have hD : va_D A (cW ad cid a2 lx sg gm lg) := hD
  refine W.eq (g2 := F0 m 4 ls [.int r_1]) rfl ?_
  refine lv_if_eq (tgt := 41) hx hb dX12_constructor_4 (by decide) (fun c_4 => ?_) (fun c_4 => ?_)
  · have h_5 : iv 0 0 r_1 := iv_eq c_4 hr_1 (iv_k (by decide) : iv 0 0 0) (by decide)
    exact hj41 gm hvx KS_rf hI (⟨Or.inl (fun q9 => by { have := i32_0; have := i32_1; have := i32_2; have := i32_m1; have := (hvx).1; have := (hvx).2; have := (h_5).1; have := (h_5).2; omega }), (show gm 0 = gm 0 from rfl), ⟨(show gm 8 = gm 8 from rfl), (show gm 9 = gm 9 from rfl), (show gm 10 = gm 10 from rfl), (show gm 7 = gm 7 from rfl), (show gm 54 = gm 54 from rfl)⟩⟩) _ _ _ hP hD hS (lv_sub hl [0, 1, 2, 3, 4, 5] rfl)
  · have h_6 : iv 1 1 r_1 := iv_neL c_4 hr_1 (by decide)
    refine lv_iload_n hx hb dX12_constructor_7 rfl (lv_at hl 2 rfl) ?_
    refine lv_iload_n hx hb dX12_constructor_8 rfl (lv_at hl 3 rfl) ?_
    refine lv_iload hx hb dX12_constructor_9 (lv_at hl 4 rfl) ?_
    refine lv_iload hx hb dX12_constructor_11 (lv_at hl 5 rfl) ?_
    refine cm_callS (rest := []) (as := [.int na, .int ta, .int ub, .int uc]) ⟨hx, hb, hml, hown, htb⟩ (d_areTypes2 l dC dI ad cid a2 lx sg gm lg na ta ub uc hI) (va_cwS 4 htb (gd_S kw_440 kw_441 kw_146 kw_1387) rfl rfl rfl (by decide +kernel) ⟨Nat.le_of_ble_eq_true rfl, Nat.le_of_ble_eq_true rfl⟩)  rfl hl.1 rfl (Nat.le_trans cs_n (by decide)) dX12_constructor_13 ⟨Nat.le_of_ble_eq_true rfl, Nat.le_of_ble_eq_true rfl⟩ hK hP hD hS hA hG (fun E ce q9 u_8 H locs hw hP hD hS hce hcv hcl => ?_) (fun v9 u_8 H locs hw hP hD hS => ?_)
    · exact hw.elim
    obtain ⟨r_7, rfl, rfl, hr_7, fl_r_7⟩ := hw
    have hP : va_P (dC, dI) vwCl (cW ad cid a2 lx sg gm lg) H := hP
    have hD : va_D A (cW ad cid a2 lx sg gm lg) := hD
    refine W.eq (g2 := F0 m 16 ls [.int r_7]) rfl ?_
    refine lv_if_eq (tgt := 41) hx hb dX12_constructor_16 (by decide) (fun c_10 => ?_) (fun c_10 => ?_)
    · have h_11 : iv 0 0 r_7 := iv_eq c_10 hr_7 (iv_k (by decide) : iv 0 0 0) (by decide)
      exact hj41 gm hvx KS_rf hI (⟨Or.inl (fun q9 => by { have := i32_0; have := i32_1; have := i32_2; have := i32_m1; have := (hvx).1; have := (hvx).2; have := (h_6).1; have := (h_6).2; have := (h_11).1; have := (h_11).2; omega }), (show gm 0 = gm 0 from rfl), ⟨(show gm 8 = gm 8 from rfl), (show gm 9 = gm 9 from rfl), (show gm 10 = gm 10 from rfl), (show gm 7 = gm 7 from rfl), (show gm 54 = gm 54 from rfl)⟩⟩) _ _ _ hP hD hS (lv_sub hl [0, 1, 2, 3, 4, 5] rfl)
    · have h_12 : iv 1 1 r_7 := iv_neL c_10 hr_7 (by decide)
      have h_13 : iv 0 7 ca := ⟨by have := fl_r_1; have := i32_0; have := i32_1; have := i32_2; have := i32_m1; have := (hvx).1; have := (hvx).2; have := (h_6).1; have := (h_6).2; have := (h_12).1; have := (h_12).2; omega, by have := fl_r_1; have := i32_0; have := i32_1; have := i32_2; have := i32_m1; have := (hvx).1; have := (hvx).2; have := (h_6).1; have := (h_6).2; have := (h_12).1; have := (h_12).2; omega⟩
      have h_14 : iv 0 3 na := ⟨by have := fl_r_7; have := i32_0; have := i32_1; have := i32_2; have := i32_m1; have := (hvx).1; have := (hvx).2; have := (h_6).1; have := (h_6).2; have := (h_12).1; have := (h_12).2; have := (h_13).1; have := (h_13).2; omega, by have := fl_r_7; have := i32_0; have := i32_1; have := i32_2; have := i32_m1; have := (hvx).1; have := (hvx).2; have := (h_6).1; have := (h_6).2; have := (h_12).1; have := (h_12).2; have := (h_13).1; have := (h_13).2; omega⟩
      refine ec_aload_n hx hb dX12_constructor_19 rfl (lv_at hl 0 rfl) ?_
      refine cr_get (t := 0) (j := 0) (C := RX12) (T := TX12) (N := 12) (v := eV (ad 12) 0) hx hb htb inX12 hown hK hP hvx (by decide) (by decide) (by decide) rfl (by decide) (htb _ kw_417) (cV_c rfl (by decide) (by rw [show cMu 0 0 = 0 from rfl, Nat.zero_mul]; rfl)) dX12_constructor_20 ?_
      refine lv_iload_n hx hb dX12_constructor_23 rfl (lv_at hl 1 rfl) ?_
      refine cr_aald (t := 12) (C := RX2) (v := eV (ad 7) ca) hx hb hK hP (iv_k (by decide) : iv 0 0 0) (by decide) (by decide) (by decide) (by decide) (by decide) rfl (show vp_in ca (cLen 12) from (show vp_in ca 8 from (iv_in h_13 (by decide)))) (cAr_c (by decide) (h_13).1 (by rw [show cAm 12 = 0 from rfl, Nat.zero_mul, show cAo 12 = 0 from rfl]; omega)) dX12_constructor_24 ?_
      refine lv_iload_n hx hb dX12_constructor_25 rfl (lv_at hl 2 rfl) ?_
      refine lv_iload_n hx hb dX12_constructor_26 rfl (lv_at hl 3 rfl) ?_
      refine lv_iload hx hb dX12_constructor_27 (lv_at hl 4 rfl) ?_
      refine lv_iload hx hb dX12_constructor_29 (lv_at hl 5 rfl) ?_
      refine cm_callV (t := 7) (C := RX2) (T := TX2) (N := 8) (rest := []) (as := [.int na, .int ta, .int ub, .int uc]) ⟨hx, hb, hml, hown, htb⟩ (d_addConstructor9 l dC dI ad cid a2 lx sg gm lg ca na ta ub uc hI h_13 h_14) (cwV 4 htb (gd_V kw_444 kw_445 kw_446 kw_147 kw_1389) rfl rfl rfl (by decide +kernel) ⟨Nat.le_of_ble_eq_true rfl, Nat.le_of_ble_eq_true rfl⟩) h_13 (by decide) (by decide) rfl rfl hl.1 rfl (Nat.le_trans cs_n (by decide)) dX12_constructor_31 ⟨Nat.le_of_ble_eq_true rfl, Nat.le_of_ble_eq_true rfl⟩ hK hP hD hS hA hG (fun E ce q9 u_16 H locs hw hP hD hS hce hcv hcl => ?_) (fun v9 u_16 H locs hw hP hD hS => ?_)
      · exact hw.elim
      obtain ⟨r_15, rfl, sgv_17, gmv_17, lgv_17, rfl, hIv_17, ksv_17, kgv_17, klv_17, hr_15, fA_r_15⟩ := hw
      obtain rfl := KS_nil ksv_17
      obtain rfl := KS_nil klv_17
      have hP : va_P (dC, dI) vwCl (cW ad cid a2 lx sg gmv_17 lg) H := hP
      have hD : va_D A (cW ad cid a2 lx sg gmv_17 lg) := hD
      refine W.eq (g2 := F0 m 34 ls [.int r_15]) rfl ?_
      refine lv_if_eq (tgt := 41) hx hb dX12_constructor_34 (by decide) (fun c_18 => ?_) (fun c_18 => ?_)
      · have h_19 : iv 0 0 r_15 := iv_eq c_18 hr_15 (iv_k (by decide) : iv 0 0 0) (by decide)
        exact hj41 gmv_17 hvx (KS_tr (L := [0, 7, 8, 9, 10, 54]) KS_rf kgv_17 (by decide)) hIv_17 (⟨Or.inr (ADC_0 fA_r_15 (by have := i32_0; have := i32_1; have := i32_2; have := i32_m1; have := (hvx).1; have := (hvx).2; have := (h_6).1; have := (h_6).2; have := (h_12).1; have := (h_12).2; have := (h_13).1; have := (h_13).2; have := (h_14).1; have := (h_14).2; have := (h_19).1; have := (h_19).2; omega)).1, (ADC_0 fA_r_15 (by have := i32_0; have := i32_1; have := i32_2; have := i32_m1; have := (hvx).1; have := (hvx).2; have := (h_6).1; have := (h_6).2; have := (h_12).1; have := (h_12).2; have := (h_13).1; have := (h_13).2; have := (h_14).1; have := (h_14).2; have := (h_19).1; have := (h_19).2; omega)).2⟩) _ _ _ hP hD hS (lv_sub hl [0, 1, 2, 3, 4, 5] rfl)
      · have h_20 : iv 1 1 r_15 := iv_neL c_18 hr_15 (by decide)
        refine lv_iconst (v := 1) hx hb dX12_constructor_37 (by decide) ?_
        refine lv_goto (tgt := 42) hx hb dX12_constructor_38 (by decide) ?_
        exact hj42 gmv_17 1 hvx (iv_w (iv_k (by decide) : iv 1 1 1) (by decide)) (KS_tr (L := [0, 7, 8, 9, 10, 54]) KS_rf kgv_17 (by decide)) hIv_17 (ADC_1 fA_r_15 (by have := i32_0; have := i32_1; have := i32_2; have := i32_m1; have := (hvx).1; have := (hvx).2; have := (h_6).1; have := (h_6).2; have := (h_12).1; have := (h_12).2; have := (h_13).1; have := (h_13).2; have := (h_14).1; have := (h_14).2; have := (h_20).1; have := (h_20).2; omega) (by have := i32_0; have := i32_1; have := i32_2; have := i32_m1; have := (hvx).1; have := (hvx).2; have := (h_6).1; have := (h_6).2; have := (h_12).1; have := (h_12).2; have := (h_13).1; have := (h_13).2; have := (h_14).1; have := (h_14).2; have := (h_20).1; have := (h_20).2; omega) rfl) _ _ _ hP hD hS (lv_sub hl [0, 1, 2, 3, 4, 5] rfl)

set_option maxHeartbeats 4000000 in
set_option maxRecDepth 100000 in
theorem d_factory9 (l : Launch) (dC : Nat → ClassId) (dI : Nat → Nat → Nat) (ad : Nat → Nat → Nat) (cid : Nat → ClassId) (a2 : Nat → Nat) (lx : List Nat) (sg : Nat → Int32) (gm : Nat → Nat → Int32) (lg : Nat → Nat → Int64) (x : Int32) (ca : Int32) (nm : Int32) (zs : Int32) (re : Int32) (na : Int32) (ta : Int32) (ub : Int32) (uc : Int32) (hI : CI sg gm) (hvx : iv 0 0 x) (hvzs : iv 0 1 zs) : CMt dC dI ad cid a2 lx l yX12_factory wm_X12_factory ({ frames := 2, cells := 1, slots := 6, locals := 51 }) [eV (ad 0) x, .int ca, .int nm, .int zs, .int re, .int na, .int ta, .int ub, .int uc] sg gm lg (fun v u => ∃ r : Int32, v = some (.int r) ∧ ∃ (sg2 : Nat → Int32) (gm2 : Nat → Nat → Int32) (lg2 : Nat → Nat → Int64), u = (sg2, gm2, lg2) ∧ CI sg2 gm2 ∧ KS [] sg sg2 ∧ KS [1, 7, 8, 9, 10, 54] gm gm2 ∧ KS [] lg lg2 ∧ (iv 0 1 r) ∧ (ADC (0 ≤ ca.toInt ∧ ca.toInt ≤ 7 ∧ 0 ≤ nm.toInt ∧ nm.toInt ≤ 25 ∧ 0 ≤ re.toInt ∧ re.toInt ≤ 7 ∧ 0 ≤ na.toInt ∧ na.toInt ≤ 3 ∧ (1 ≤ na.toInt → (0 ≤ ta.toInt ∧ ta.toInt ≤ 4 ∨ 8 ≤ ta.toInt ∧ ta.toInt ≤ 15)) ∧ (2 ≤ na.toInt → (0 ≤ ub.toInt ∧ ub.toInt ≤ 4 ∨ 8 ≤ ub.toInt ∧ ub.toInt ≤ 15)) ∧ (3 ≤ na.toInt → (0 ≤ uc.toInt ∧ uc.toInt ≤ 4 ∨ 8 ≤ uc.toInt ∧ uc.toInt ≤ 15))) r ca.toNatClampNeg 4 1 gm gm2 nm zs re na ta ub uc)) (fun _ _ => False) := by
  intro sz
  refine vx_ofW (cc := cX12_factory) (maxL := 9) (ret := (some .boolean)) (by decide) rfl ?_
  intro p e s m args below meth c s₁ B hml hxt hv
  obtain ⟨rfl, hsz, hP, hK, hD0, hG⟩ := hv
  have hx := B.exec
  have hb := B.bytes
  have hr := B.returns
  have hts := atoms_spec (ws := wm_X12_factory) B.pre
  have htb := fun (w : Cond) (h : w ∈ tb) => hts w (List.mem_cons_of_mem _ h)
  have hown : s.vm.findClass RX12 = some m.cls := findClass_of_methodNamed B.named
  have hlocks := B.notSynchronized
  subst hsz
  have hD := hD0.self (sz := s.heap.size)
  generalize hAe : va_A (cW ad cid a2 lx sg gm lg) s.heap.size = A at hD hG ⊢
  have hA : ∀ q : Nat, s.heap.size ≤ q → A q := fun q h => by rw [← hAe]; exact Or.inr h
  have hS : va_S A s.heap s.heap [] := va_S.rf
  have hl := lv_entry ([eV (ad 0) x, .int ca, .int nm, .int zs, .int re, .int na, .int ta, .int ub, .int uc]) (n := 9) (by rw [show (lg_sl ([eV (ad 0) x, .int ca, .int nm, .int zs, .int re, .int na, .int ta, .int ub, .int uc])).length = 9 from by simp [lg_sl, eV_cat, cat_i, cat_l]]; exact Nat.le_of_ble_eq_true rfl)
  rw [lg_entry_eq]
  generalize (lg_sl ([eV (ad 0) x, .int ca, .int nm, .int zs, .int re, .int na, .int ta, .int ub, .int uc]) ++ List.replicate (9 - (lg_sl ([eV (ad 0) x, .int ca, .int nm, .int zs, .int re, .int na, .int ta, .int ub, .int uc])).length) Slot.unset).toArray = ls at hl ⊢
  have hl : lv_has ls 9 [(0, eV (ad 0) x), (1, .int ca), (2, .int nm), (3, .int zs), (4, .int re), (5, .int na), (6, .int ta), (7, .int ub), (8, .int uc)] := by simp [lv_args, eV_cat, cat_i, cat_l] at hl; exact hl
  have hj65 : ∀ (gm_j65 : Nat → Nat → Int32) (y0_65 : Int32) (_ : iv 0 0 x) (_ : iv 0 1 zs) (_ : iv 0 1 y0_65) (_ : KS [1, 7, 8, 9, 10, 54] gm gm_j65) (_ : CI sg gm_j65) (_ : ADC (0 ≤ ca.toInt ∧ ca.toInt ≤ 7 ∧ 0 ≤ nm.toInt ∧ nm.toInt ≤ 25 ∧ 0 ≤ re.toInt ∧ re.toInt ≤ 7 ∧ 0 ≤ na.toInt ∧ na.toInt ≤ 3 ∧ (1 ≤ na.toInt → (0 ≤ ta.toInt ∧ ta.toInt ≤ 4 ∨ 8 ≤ ta.toInt ∧ ta.toInt ≤ 15)) ∧ (2 ≤ na.toInt → (0 ≤ ub.toInt ∧ ub.toInt ≤ 4 ∨ 8 ≤ ub.toInt ∧ ub.toInt ≤ 15)) ∧ (3 ≤ na.toInt → (0 ≤ uc.toInt ∧ uc.toInt ≤ 4 ∨ 8 ≤ uc.toInt ∧ uc.toInt ≤ 15))) y0_65 ca.toNatClampNeg 4 1 gm gm_j65 nm zs re na ta ub uc) (H : Heap) (locs : List Loc) (ls : Array Slot), va_P (dC, dI) vwCl (cW ad cid a2 lx sg gm_j65 lg) H → va_D A (cW ad cid a2 lx sg gm_j65 lg) → va_S A s.heap H locs → lv_has ls 9 [(0, eV (ad 0) x), (1, .int ca), (2, .int nm), (3, .int zs), (4, .int re), (5, .int na), (6, .int ta), (7, .int ub), (8, .int uc)] → W p l e (headSpec wm_X12_factory ({ frames := 2, cells := 1, slots := 6, locals := 51 })).room s m ([eV (ad 0) x, .int ca, .int nm, .int zs, .int re, .int na, .int ta, .int ub, .int uc] : List Value).toArray below meth c H locs 0 0 (vx_MQ below (cQx dC dI ad cid a2 lx (fun v u => ∃ r : Int32, v = some (.int r) ∧ ∃ (sg2 : Nat → Int32) (gm2 : Nat → Nat → Int32) (lg2 : Nat → Nat → Int64), u = (sg2, gm2, lg2) ∧ CI sg2 gm2 ∧ KS [] sg sg2 ∧ KS [1, 7, 8, 9, 10, 54] gm gm2 ∧ KS [] lg lg2 ∧ (iv 0 1 r) ∧ (ADC (0 ≤ ca.toInt ∧ ca.toInt ≤ 7 ∧ 0 ≤ nm.toInt ∧ nm.toInt ≤ 25 ∧ 0 ≤ re.toInt ∧ re.toInt ≤ 7 ∧ 0 ≤ na.toInt ∧ na.toInt ≤ 3 ∧ (1 ≤ na.toInt → (0 ≤ ta.toInt ∧ ta.toInt ≤ 4 ∨ 8 ≤ ta.toInt ∧ ta.toInt ≤ 15)) ∧ (2 ≤ na.toInt → (0 ≤ ub.toInt ∧ ub.toInt ≤ 4 ∨ 8 ≤ ub.toInt ∧ ub.toInt ≤ 15)) ∧ (3 ≤ na.toInt → (0 ≤ uc.toInt ∧ uc.toInt ≤ 4 ∨ 8 ≤ uc.toInt ∧ uc.toInt ≤ 15))) r ca.toNatClampNeg 4 1 gm gm2 nm zs re na ta ub uc)) A) (cX dC dI ad cid a2 lx (fun _ _ => False) A) ([eV (ad 0) x, .int ca, .int nm, .int zs, .int re, .int na, .int ta, .int ub, .int uc] : List Value).toArray s 1 6 A) (F0 m 65 ls [.int y0_65]) := by
    intro gm_j65 y0_65 hsx0_65 hsx3_65 hy0_65 hkg_j65 hI_j65 hA H locs ls hP hD hS hl
    exact W.nb (fun hN => W.widen (k := 1) (n := 6) (by decide) (by decide) (vx_ret (W.zret (v := y0_65) hx hb hr (iv_nb hy0_65) (fun t ht hW => ⟨⟨some (.int y0_65), (sg, gm_j65, lg), rfl, ⟨y0_65, rfl, sg, gm_j65, lg, rfl, hI_j65, KS_rf, (KS_tr (L := [1, 7, 8, 9, 10, 54]) KS_rf hkg_j65 (by decide)), KS_rf, hy0_65, (hA)⟩, by rw [ht]; exact hP, va_K.moved hW.alike hK, hD⟩, hS.F ht, by rw [ht]; exact hN⟩) hS.2.2 dX12_factory_65)))
  have hj64 : ∀ (gm_j64 : Nat → Nat → Int32) (_ : iv 0 0 x) (_ : iv 0 1 zs) (_ : KS [1, 7, 8, 9, 10, 54] gm gm_j64) (_ : CI sg gm_j64) (_ : (¬ (0 ≤ ca.toInt ∧ ca.toInt ≤ 7 ∧ 0 ≤ nm.toInt ∧ nm.toInt ≤ 25 ∧ 0 ≤ re.toInt ∧ re.toInt ≤ 7 ∧ 0 ≤ na.toInt ∧ na.toInt ≤ 3 ∧ (1 ≤ na.toInt → (0 ≤ ta.toInt ∧ ta.toInt ≤ 4 ∨ 8 ≤ ta.toInt ∧ ta.toInt ≤ 15)) ∧ (2 ≤ na.toInt → (0 ≤ ub.toInt ∧ ub.toInt ≤ 4 ∨ 8 ≤ ub.toInt ∧ ub.toInt ≤ 15)) ∧ (3 ≤ na.toInt → (0 ≤ uc.toInt ∧ uc.toInt ≤ 4 ∨ 8 ≤ uc.toInt ∧ uc.toInt ≤ 15))) ∨ 4 ≤ (gm 1 ca.toNatClampNeg).toInt) ∧ gm_j64 1 = gm 1 ∧ SGE gm gm_j64) (H : Heap) (locs : List Loc) (ls : Array Slot), va_P (dC, dI) vwCl (cW ad cid a2 lx sg gm_j64 lg) H → va_D A (cW ad cid a2 lx sg gm_j64 lg) → va_S A s.heap H locs → lv_has ls 9 [(0, eV (ad 0) x), (1, .int ca), (2, .int nm), (3, .int zs), (4, .int re), (5, .int na), (6, .int ta), (7, .int ub), (8, .int uc)] → W p l e (headSpec wm_X12_factory ({ frames := 2, cells := 1, slots := 6, locals := 51 })).room s m ([eV (ad 0) x, .int ca, .int nm, .int zs, .int re, .int na, .int ta, .int ub, .int uc] : List Value).toArray below meth c H locs 0 0 (vx_MQ below (cQx dC dI ad cid a2 lx (fun v u => ∃ r : Int32, v = some (.int r) ∧ ∃ (sg2 : Nat → Int32) (gm2 : Nat → Nat → Int32) (lg2 : Nat → Nat → Int64), u = (sg2, gm2, lg2) ∧ CI sg2 gm2 ∧ KS [] sg sg2 ∧ KS [1, 7, 8, 9, 10, 54] gm gm2 ∧ KS [] lg lg2 ∧ (iv 0 1 r) ∧ (ADC (0 ≤ ca.toInt ∧ ca.toInt ≤ 7 ∧ 0 ≤ nm.toInt ∧ nm.toInt ≤ 25 ∧ 0 ≤ re.toInt ∧ re.toInt ≤ 7 ∧ 0 ≤ na.toInt ∧ na.toInt ≤ 3 ∧ (1 ≤ na.toInt → (0 ≤ ta.toInt ∧ ta.toInt ≤ 4 ∨ 8 ≤ ta.toInt ∧ ta.toInt ≤ 15)) ∧ (2 ≤ na.toInt → (0 ≤ ub.toInt ∧ ub.toInt ≤ 4 ∨ 8 ≤ ub.toInt ∧ ub.toInt ≤ 15)) ∧ (3 ≤ na.toInt → (0 ≤ uc.toInt ∧ uc.toInt ≤ 4 ∨ 8 ≤ uc.toInt ∧ uc.toInt ≤ 15))) r ca.toNatClampNeg 4 1 gm gm2 nm zs re na ta ub uc)) A) (cX dC dI ad cid a2 lx (fun _ _ => False) A) ([eV (ad 0) x, .int ca, .int nm, .int zs, .int re, .int na, .int ta, .int ub, .int uc] : List Value).toArray s 1 6 A) (F0 m 64 ls []) := by
    intro gm_j64 hsx0_64 hsx3_64 hkg_j64 hI_j64 hno H locs ls hP hD hS hl
    refine lv_iconst (v := 0) hx hb dX12_factory_64 (by decide) ?_
    exact hj65 gm_j64 0 hsx0_64 hsx3_64 (iv_w (iv_k (by decide) : iv 0 0 0) (by decide)) (KS_tr (L := [1, 7, 8, 9, 10, 54]) KS_rf hkg_j64 (by decide)) hI_j64 (Or.inr ⟨rfl, hno.1, hno.2⟩) _ _ _ hP hD hS (lv_sub hl [0, 1, 2, 3, 4, 5, 6, 7, 8] rfl)
  refine lv_iload_n hx hb dX12_factory_0 rfl (lv_at hl 1 rfl) ?_
  refine cm_callS (rest := []) (as := [.int ca]) ⟨hx, hb, hml, hown, htb⟩ (d_isClass2 l dC dI ad cid a2 lx sg gm lg ca hI) (va_cwS 1 htb (gd_S kw_432 kw_433 kw_146 kw_1384) rfl rfl rfl (by decide +kernel) ⟨Nat.le_of_ble_eq_true rfl, Nat.le_of_ble_eq_true rfl⟩)  rfl hl.1 rfl (Nat.le_trans cs_n (by decide)) dX12_factory_1 ⟨Nat.le_of_ble_eq_true rfl, Nat.le_of_ble_eq_true rfl⟩ hK hP hD hS hA hG (fun E ce q9 u_2 H locs hw hP hD hS hce hcv hcl => ?_) (fun v9 u_2 H locs hw hP hD hS => ?_)
  · exact hw.elim
  obtain ⟨r_1, rfl, rfl, hr_1, fl_r_1⟩ := hw
  have hP : va_P (dC, dI) vwCl (cW ad cid a2 lx sg gm lg) H := hP
  have hD : va_D A (cW ad cid a2 lx sg gm lg) := hD
  refine W.eq (g2 := F0 m 4 ls [.int r_1]) rfl ?_
  refine lv_if_eq (tgt := 64) hx hb dX12_factory_4 (by decide) (fun c_4 => ?_) (fun c_4 => ?_)
  · have h_5 : iv 0 0 r_1 := iv_eq c_4 hr_1 (iv_k (by decide) : iv 0 0 0) (by decide)
    exact hj64 gm hvx hvzs KS_rf hI (⟨Or.inl (fun q9 => by { have := i32_0; have := i32_1; have := i32_2; have := i32_m1; have := (hvx).1; have := (hvx).2; have := (hvzs).1; have := (hvzs).2; have := (h_5).1; have := (h_5).2; omega }), (show gm 1 = gm 1 from rfl), ⟨(show gm 8 = gm 8 from rfl), (show gm 9 = gm 9 from rfl), (show gm 10 = gm 10 from rfl), (show gm 7 = gm 7 from rfl), (show gm 54 = gm 54 from rfl)⟩⟩) _ _ _ hP hD hS (lv_sub hl [0, 1, 2, 3, 4, 5, 6, 7, 8] rfl)
  · have h_6 : iv 1 1 r_1 := iv_neL c_4 hr_1 (by decide)
    refine lv_iload_n hx hb dX12_factory_7 rfl (lv_at hl 2 rfl) ?_
    refine cm_callS (rest := []) (as := [.int nm]) ⟨hx, hb, hml, hown, htb⟩ (d_isLetter2 l dC dI ad cid a2 lx sg gm lg nm hI) (va_cwS 1 htb (gd_S kw_456 kw_457 kw_146 kw_1393) rfl rfl rfl (by decide +kernel) ⟨Nat.le_of_ble_eq_true rfl, Nat.le_of_ble_eq_true rfl⟩)  rfl hl.1 rfl (Nat.le_trans cs_n (by decide)) dX12_factory_8 ⟨Nat.le_of_ble_eq_true rfl, Nat.le_of_ble_eq_true rfl⟩ hK hP hD hS hA hG (fun E ce q9 u_8 H locs hw hP hD hS hce hcv hcl => ?_) (fun v9 u_8 H locs hw hP hD hS => ?_)
    · exact hw.elim
    obtain ⟨r_7, rfl, rfl, hr_7, fl_r_7⟩ := hw
    have hP : va_P (dC, dI) vwCl (cW ad cid a2 lx sg gm lg) H := hP
    have hD : va_D A (cW ad cid a2 lx sg gm lg) := hD
    refine W.eq (g2 := F0 m 11 ls [.int r_7]) rfl ?_
    refine lv_if_eq (tgt := 64) hx hb dX12_factory_11 (by decide) (fun c_10 => ?_) (fun c_10 => ?_)
    · have h_11 : iv 0 0 r_7 := iv_eq c_10 hr_7 (iv_k (by decide) : iv 0 0 0) (by decide)
      exact hj64 gm hvx hvzs KS_rf hI (⟨Or.inl (fun q9 => by { have := i32_0; have := i32_1; have := i32_2; have := i32_m1; have := (hvx).1; have := (hvx).2; have := (hvzs).1; have := (hvzs).2; have := (h_6).1; have := (h_6).2; have := (h_11).1; have := (h_11).2; omega }), (show gm 1 = gm 1 from rfl), ⟨(show gm 8 = gm 8 from rfl), (show gm 9 = gm 9 from rfl), (show gm 10 = gm 10 from rfl), (show gm 7 = gm 7 from rfl), (show gm 54 = gm 54 from rfl)⟩⟩) _ _ _ hP hD hS (lv_sub hl [0, 1, 2, 3, 4, 5, 6, 7, 8] rfl)
    · have h_12 : iv 1 1 r_7 := iv_neL c_10 hr_7 (by decide)
      refine lv_iload hx hb dX12_factory_14 (lv_at hl 4 rfl) ?_
      refine cm_callS (rest := []) (as := [.int re]) ⟨hx, hb, hml, hown, htb⟩ (d_isClass2 l dC dI ad cid a2 lx sg gm lg re hI) (va_cwS 1 htb (gd_S kw_432 kw_433 kw_146 kw_1384) rfl rfl rfl (by decide +kernel) ⟨Nat.le_of_ble_eq_true rfl, Nat.le_of_ble_eq_true rfl⟩)  rfl hl.1 rfl (Nat.le_trans cs_n (by decide)) dX12_factory_16 ⟨Nat.le_of_ble_eq_true rfl, Nat.le_of_ble_eq_true rfl⟩ hK hP hD hS hA hG (fun E ce q9 u_14 H locs hw hP hD hS hce hcv hcl => ?_) (fun v9 u_14 H locs hw hP hD hS => ?_)
      · exact hw.elim
      obtain ⟨r_13, rfl, rfl, hr_13, fl_r_13⟩ := hw
      have hP : va_P (dC, dI) vwCl (cW ad cid a2 lx sg gm lg) H := hP
      have hD : va_D A (cW ad cid a2 lx sg gm lg) := hD
      refine W.eq (g2 := F0 m 19 ls [.int r_13]) rfl ?_
      refine lv_if_eq (tgt := 64) hx hb dX12_factory_19 (by decide) (fun c_16 => ?_) (fun c_16 => ?_)
      · have h_17 : iv 0 0 r_13 := iv_eq c_16 hr_13 (iv_k (by decide) : iv 0 0 0) (by decide)
        exact hj64 gm hvx hvzs KS_rf hI (⟨Or.inl (fun q9 => by { have := i32_0; have := i32_1; have := i32_2; have := i32_m1; have := (hvx).1; have := (hvx).2; have := (hvzs).1; have := (hvzs).2; have := (h_6).1; have := (h_6).2; have := (h_12).1; have := (h_12).2; have := (h_17).1; have := (h_17).2; omega }), (show gm 1 = gm 1 from rfl), ⟨(show gm 8 = gm 8 from rfl), (show gm 9 = gm 9 from rfl), (show gm 10 = gm 10 from rfl), (show gm 7 = gm 7 from rfl), (show gm 54 = gm 54 from rfl)⟩⟩) _ _ _ hP hD hS (lv_sub hl [0, 1, 2, 3, 4, 5, 6, 7, 8] rfl)
      · have h_18 : iv 1 1 r_13 := iv_neL c_16 hr_13 (by decide)
        refine lv_iload hx hb dX12_factory_22 (lv_at hl 5 rfl) ?_
        refine lv_iload hx hb dX12_factory_24 (lv_at hl 6 rfl) ?_
        refine lv_iload hx hb dX12_factory_26 (lv_at hl 7 rfl) ?_
        refine lv_iload hx hb dX12_factory_28 (lv_at hl 8 rfl) ?_
        refine cm_callS (rest := []) (as := [.int na, .int ta, .int ub, .int uc]) ⟨hx, hb, hml, hown, htb⟩ (d_areTypes2 l dC dI ad cid a2 lx sg gm lg na ta ub uc hI) (va_cwS 4 htb (gd_S kw_440 kw_441 kw_146 kw_1387) rfl rfl rfl (by decide +kernel) ⟨Nat.le_of_ble_eq_true rfl, Nat.le_of_ble_eq_true rfl⟩)  rfl hl.1 rfl (Nat.le_trans cs_n (by decide)) dX12_factory_30 ⟨Nat.le_of_ble_eq_true rfl, Nat.le_of_ble_eq_true rfl⟩ hK hP hD hS hA hG (fun E ce q9 u_20 H locs hw hP hD hS hce hcv hcl => ?_) (fun v9 u_20 H locs hw hP hD hS => ?_)
        · exact hw.elim
        obtain ⟨r_19, rfl, rfl, hr_19, fl_r_19⟩ := hw
        have hP : va_P (dC, dI) vwCl (cW ad cid a2 lx sg gm lg) H := hP
        have hD : va_D A (cW ad cid a2 lx sg gm lg) := hD
        refine W.eq (g2 := F0 m 33 ls [.int r_19]) rfl ?_
        refine lv_if_eq (tgt := 64) hx hb dX12_factory_33 (by decide) (fun c_22 => ?_) (fun c_22 => ?_)
        · have h_23 : iv 0 0 r_19 := iv_eq c_22 hr_19 (iv_k (by decide) : iv 0 0 0) (by decide)
          exact hj64 gm hvx hvzs KS_rf hI (⟨Or.inl (fun q9 => by { have := i32_0; have := i32_1; have := i32_2; have := i32_m1; have := (hvx).1; have := (hvx).2; have := (hvzs).1; have := (hvzs).2; have := (h_6).1; have := (h_6).2; have := (h_12).1; have := (h_12).2; have := (h_18).1; have := (h_18).2; have := (h_23).1; have := (h_23).2; omega }), (show gm 1 = gm 1 from rfl), ⟨(show gm 8 = gm 8 from rfl), (show gm 9 = gm 9 from rfl), (show gm 10 = gm 10 from rfl), (show gm 7 = gm 7 from rfl), (show gm 54 = gm 54 from rfl)⟩⟩) _ _ _ hP hD hS (lv_sub hl [0, 1, 2, 3, 4, 5, 6, 7, 8] rfl)
        · have h_24 : iv 1 1 r_19 := iv_neL c_22 hr_19 (by decide)
          have h_25 : iv 0 7 ca := ⟨by have := fl_r_1; have := i32_0; have := i32_1; have := i32_2; have := i32_m1; have := (hvx).1; have := (hvx).2; have := (hvzs).1; have := (hvzs).2; have := (h_6).1; have := (h_6).2; have := (h_12).1; have := (h_12).2; have := (h_18).1; have := (h_18).2; have := (h_24).1; have := (h_24).2; omega, by have := fl_r_1; have := i32_0; have := i32_1; have := i32_2; have := i32_m1; have := (hvx).1; have := (hvx).2; have := (hvzs).1; have := (hvzs).2; have := (h_6).1; have := (h_6).2; have := (h_12).1; have := (h_12).2; have := (h_18).1; have := (h_18).2; have := (h_24).1; have := (h_24).2; omega⟩
          have h_26 : iv 0 25 nm := ⟨by have := fl_r_7; have := i32_0; have := i32_1; have := i32_2; have := i32_m1; have := (hvx).1; have := (hvx).2; have := (hvzs).1; have := (hvzs).2; have := (h_6).1; have := (h_6).2; have := (h_12).1; have := (h_12).2; have := (h_18).1; have := (h_18).2; have := (h_24).1; have := (h_24).2; have := (h_25).1; have := (h_25).2; omega, by have := fl_r_7; have := i32_0; have := i32_1; have := i32_2; have := i32_m1; have := (hvx).1; have := (hvx).2; have := (hvzs).1; have := (hvzs).2; have := (h_6).1; have := (h_6).2; have := (h_12).1; have := (h_12).2; have := (h_18).1; have := (h_18).2; have := (h_24).1; have := (h_24).2; have := (h_25).1; have := (h_25).2; omega⟩
          have h_27 : iv 0 7 re := ⟨by have := fl_r_13; have := i32_0; have := i32_1; have := i32_2; have := i32_m1; have := (hvx).1; have := (hvx).2; have := (hvzs).1; have := (hvzs).2; have := (h_6).1; have := (h_6).2; have := (h_12).1; have := (h_12).2; have := (h_18).1; have := (h_18).2; have := (h_24).1; have := (h_24).2; have := (h_25).1; have := (h_25).2; have := (h_26).1; have := (h_26).2; omega, by have := fl_r_13; have := i32_0; have := i32_1; have := i32_2; have := i32_m1; have := (hvx).1; have := (hvx).2; have := (hvzs).1; have := (hvzs).2; have := (h_6).1; have := (h_6).2; have := (h_12).1; have := (h_12).2; have := (h_18).1; have := (h_18).2; have := (h_24).1; have := (h_24).2; have := (h_25).1; have := (h_25).2; have := (h_26).1; have := (h_26).2; omega⟩
          have h_28 : iv 0 3 na := ⟨by have := fl_r_19; have := i32_0; have := i32_1; have := i32_2; have := i32_m1; have := (hvx).1; have := (hvx).2; have := (hvzs).1; have := (hvzs).2; have := (h_6).1; have := (h_6).2; have := (h_12).1; have := (h_12).2; have := (h_18).1; have := (h_18).2; have := (h_24).1; have := (h_24).2; have := (h_25).1; have := (h_25).2; have := (h_26).1; have := (h_26).2; have := (h_27).1; have := (h_27).2; omega, by have := fl_r_19; have := i32_0; have := i32_1; have := i32_2; have := i32_m1; have := (hvx).1; have := (hvx).2; have := (hvzs).1; have := (hvzs).2; have := (h_6).1; have := (h_6).2; have := (h_12).1; have := (h_12).2; have := (h_18).1; have := (h_18).2; have := (h_24).1; have := (h_24).2; have := (h_25).1; have := (h_25).2; have := (h_26).1; have := (h_26).2; have := (h_27).1; have := (h_27).2; omega⟩
          refine ec_aload_n hx hb dX12_factory_36 rfl (lv_at hl 0 rfl) ?_
          refine cr_get (t := 0) (j := 0) (C := RX12) (T := TX12) (N := 12) (v := eV (ad 12) 0) hx hb htb inX12 hown hK hP hvx (by decide) (by decide) (by decide) rfl (by decide) (htb _ kw_417) (cV_c rfl (by decide) (by rw [show cMu 0 0 = 0 from rfl, Nat.zero_mul]; rfl)) dX12_factory_37 ?_
          refine lv_iload_n hx hb dX12_factory_40 rfl (lv_at hl 1 rfl) ?_
          refine cr_aald (t := 12) (C := RX2) (v := eV (ad 7) ca) hx hb hK hP (iv_k (by decide) : iv 0 0 0) (by decide) (by decide) (by decide) (by decide) (by decide) rfl (show vp_in ca (cLen 12) from (show vp_in ca 8 from (iv_in h_25 (by decide)))) (cAr_c (by decide) (h_25).1 (by rw [show cAm 12 = 0 from rfl, Nat.zero_mul, show cAo 12 = 0 from rfl]; omega)) dX12_factory_41 ?_
          refine lv_iload_n hx hb dX12_factory_42 rfl (lv_at hl 2 rfl) ?_
          refine lv_iload_n hx hb dX12_factory_43 rfl (lv_at hl 3 rfl) ?_
          refine lv_iload hx hb dX12_factory_44 (lv_at hl 4 rfl) ?_
          refine lv_iload hx hb dX12_factory_46 (lv_at hl 5 rfl) ?_
          refine lv_iload hx hb dX12_factory_48 (lv_at hl 6 rfl) ?_
          refine lv_iload hx hb dX12_factory_50 (lv_at hl 7 rfl) ?_
          refine lv_iload hx hb dX12_factory_52 (lv_at hl 8 rfl) ?_
          refine cm_callV (t := 7) (C := RX2) (T := TX2) (N := 8) (rest := []) (as := [.int nm, .int zs, .int re, .int na, .int ta, .int ub, .int uc]) ⟨hx, hb, hml, hown, htb⟩ (d_addFactory9 l dC dI ad cid a2 lx sg gm lg ca nm zs re na ta ub uc hI h_25 h_26 hvzs h_27 h_28) (cwV 7 htb (gd_V kw_464 kw_465 kw_466 kw_147 kw_1396) rfl rfl rfl (by decide +kernel) ⟨Nat.le_of_ble_eq_true rfl, Nat.le_of_ble_eq_true rfl⟩) h_25 (by decide) (by decide) rfl rfl hl.1 rfl (Nat.le_trans cs_n (by decide)) dX12_factory_54 ⟨Nat.le_of_ble_eq_true rfl, Nat.le_of_ble_eq_true rfl⟩ hK hP hD hS hA hG (fun E ce q9 u_30 H locs hw hP hD hS hce hcv hcl => ?_) (fun v9 u_30 H locs hw hP hD hS => ?_)
          · exact hw.elim
          obtain ⟨r_29, rfl, sgv_31, gmv_31, lgv_31, rfl, hIv_31, ksv_31, kgv_31, klv_31, hr_29, fA_r_29⟩ := hw
          obtain rfl := KS_nil ksv_31
          obtain rfl := KS_nil klv_31
          have hP : va_P (dC, dI) vwCl (cW ad cid a2 lx sg gmv_31 lg) H := hP
          have hD : va_D A (cW ad cid a2 lx sg gmv_31 lg) := hD
          refine W.eq (g2 := F0 m 57 ls [.int r_29]) rfl ?_
          refine lv_if_eq (tgt := 64) hx hb dX12_factory_57 (by decide) (fun c_32 => ?_) (fun c_32 => ?_)
          · have h_33 : iv 0 0 r_29 := iv_eq c_32 hr_29 (iv_k (by decide) : iv 0 0 0) (by decide)
            exact hj64 gmv_31 hvx hvzs (KS_tr (L := [1, 7, 8, 9, 10, 54]) KS_rf kgv_31 (by decide)) hIv_31 (⟨Or.inr (ADC_0 fA_r_29 (by have := i32_0; have := i32_1; have := i32_2; have := i32_m1; have := (hvx).1; have := (hvx).2; have := (hvzs).1; have := (hvzs).2; have := (h_6).1; have := (h_6).2; have := (h_12).1; have := (h_12).2; have := (h_18).1; have := (h_18).2; have := (h_24).1; have := (h_24).2; have := (h_25).1; have := (h_25).2; have := (h_26).1; have := (h_26).2; have := (h_27).1; have := (h_27).2; have := (h_28).1; have := (h_28).2; have := (h_33).1; have := (h_33).2; omega)).1, (ADC_0 fA_r_29 (by have := i32_0; have := i32_1; have := i32_2; have := i32_m1; have := (hvx).1; have := (hvx).2; have := (hvzs).1; have := (hvzs).2; have := (h_6).1; have := (h_6).2; have := (h_12).1; have := (h_12).2; have := (h_18).1; have := (h_18).2; have := (h_24).1; have := (h_24).2; have := (h_25).1; have := (h_25).2; have := (h_26).1; have := (h_26).2; have := (h_27).1; have := (h_27).2; have := (h_28).1; have := (h_28).2; have := (h_33).1; have := (h_33).2; omega)).2⟩) _ _ _ hP hD hS (lv_sub hl [0, 1, 2, 3, 4, 5, 6, 7, 8] rfl)
          · have h_34 : iv 1 1 r_29 := iv_neL c_32 hr_29 (by decide)
            refine lv_iconst (v := 1) hx hb dX12_factory_60 (by decide) ?_
            refine lv_goto (tgt := 65) hx hb dX12_factory_61 (by decide) ?_
            exact hj65 gmv_31 1 hvx hvzs (iv_w (iv_k (by decide) : iv 1 1 1) (by decide)) (KS_tr (L := [1, 7, 8, 9, 10, 54]) KS_rf kgv_31 (by decide)) hIv_31 (ADC_1 fA_r_29 (by have := i32_0; have := i32_1; have := i32_2; have := i32_m1; have := (hvx).1; have := (hvx).2; have := (hvzs).1; have := (hvzs).2; have := (h_6).1; have := (h_6).2; have := (h_12).1; have := (h_12).2; have := (h_18).1; have := (h_18).2; have := (h_24).1; have := (h_24).2; have := (h_25).1; have := (h_25).2; have := (h_26).1; have := (h_26).2; have := (h_27).1; have := (h_27).2; have := (h_28).1; have := (h_28).2; have := (h_34).1; have := (h_34).2; omega) (by have := i32_0; have := i32_1; have := i32_2; have := i32_m1; have := (hvx).1; have := (hvx).2; have := (hvzs).1; have := (hvzs).2; have := (h_6).1; have := (h_6).2; have := (h_12).1; have := (h_12).2; have := (h_18).1; have := (h_18).2; have := (h_24).1; have := (h_24).2; have := (h_25).1; have := (h_25).2; have := (h_26).1; have := (h_26).2; have := (h_27).1; have := (h_27).2; have := (h_28).1; have := (h_28).2; have := (h_34).1; have := (h_34).2; omega) rfl) _ _ _ hP hD hS (lv_sub hl [0, 1, 2, 3, 4, 5, 6, 7, 8] rfl)

set_option maxHeartbeats 4000000 in
set_option maxRecDepth 100000 in
theorem d_setter9 (l : Launch) (dC : Nat → ClassId) (dI : Nat → Nat → Nat) (ad : Nat → Nat → Nat) (cid : Nat → ClassId) (a2 : Nat → Nat) (lx : List Nat) (sg : Nat → Int32) (gm : Nat → Nat → Int32) (lg : Nat → Nat → Int64) (x : Int32) (ca : Int32) (nm : Int32) (ty : Int32) (hI : CI sg gm) (hvx : iv 0 0 x) : CMt dC dI ad cid a2 lx l yX12_setter wm_X12_setter ({ frames := 1, cells := 1, slots := 6, locals := 22 }) [eV (ad 0) x, .int ca, .int nm, .int ty] sg gm lg (fun v u => ∃ r : Int32, v = some (.int r) ∧ ∃ (sg2 : Nat → Int32) (gm2 : Nat → Nat → Int32) (lg2 : Nat → Nat → Int64), u = (sg2, gm2, lg2) ∧ CI sg2 gm2 ∧ KS [] sg sg2 ∧ KS [3, 55] gm gm2 ∧ KS [] lg lg2 ∧ (iv 0 1 r) ∧ (ADS9 (0 ≤ ca.toInt ∧ ca.toInt ≤ 7 ∧ 0 ≤ nm.toInt ∧ nm.toInt ≤ 25 ∧ (0 ≤ ty.toInt ∧ ty.toInt ≤ 4 ∨ 8 ≤ ty.toInt ∧ ty.toInt ≤ 15)) r ca.toNatClampNeg nm.toNatClampNeg ty (gm 3) (gm2 3) (gm 55) (gm2 55))) (fun _ _ => False) := by
  intro sz
  refine vx_ofW (cc := cX12_setter) (maxL := 4) (ret := (some .boolean)) (by decide) rfl ?_
  intro p e s m args below meth c s₁ B hml hxt hv
  obtain ⟨rfl, hsz, hP, hK, hD0, hG⟩ := hv
  have hx := B.exec
  have hb := B.bytes
  have hr := B.returns
  have hts := atoms_spec (ws := wm_X12_setter) B.pre
  have htb := fun (w : Cond) (h : w ∈ tb) => hts w (List.mem_cons_of_mem _ h)
  have hown : s.vm.findClass RX12 = some m.cls := findClass_of_methodNamed B.named
  have hlocks := B.notSynchronized
  subst hsz
  have hD := hD0.self (sz := s.heap.size)
  generalize hAe : va_A (cW ad cid a2 lx sg gm lg) s.heap.size = A at hD hG ⊢
  have hA : ∀ q : Nat, s.heap.size ≤ q → A q := fun q h => by rw [← hAe]; exact Or.inr h
  have hS : va_S A s.heap s.heap [] := va_S.rf
  have hl := lv_entry ([eV (ad 0) x, .int ca, .int nm, .int ty]) (n := 4) (by rw [show (lg_sl ([eV (ad 0) x, .int ca, .int nm, .int ty])).length = 4 from by simp [lg_sl, eV_cat, cat_i, cat_l]]; exact Nat.le_of_ble_eq_true rfl)
  rw [lg_entry_eq]
  generalize (lg_sl ([eV (ad 0) x, .int ca, .int nm, .int ty]) ++ List.replicate (4 - (lg_sl ([eV (ad 0) x, .int ca, .int nm, .int ty])).length) Slot.unset).toArray = ls at hl ⊢
  have hl : lv_has ls 4 [(0, eV (ad 0) x), (1, .int ca), (2, .int nm), (3, .int ty)] := by simp [lv_args, eV_cat, cat_i, cat_l] at hl; exact hl
  have hj40 : ∀ (gm_j40 : Nat → Nat → Int32) (y0_40 : Int32) (_ : iv 0 0 x) (_ : iv 0 1 y0_40) (_ : KS [3, 55] gm gm_j40) (_ : CI sg gm_j40) (_ : ADS9 (0 ≤ ca.toInt ∧ ca.toInt ≤ 7 ∧ 0 ≤ nm.toInt ∧ nm.toInt ≤ 25 ∧ (0 ≤ ty.toInt ∧ ty.toInt ≤ 4 ∨ 8 ≤ ty.toInt ∧ ty.toInt ≤ 15)) y0_40 ca.toNatClampNeg nm.toNatClampNeg ty (gm 3) (gm_j40 3) (gm 55) (gm_j40 55)) (H : Heap) (locs : List Loc) (ls : Array Slot), va_P (dC, dI) vwCl (cW ad cid a2 lx sg gm_j40 lg) H → va_D A (cW ad cid a2 lx sg gm_j40 lg) → va_S A s.heap H locs → lv_has ls 4 [(0, eV (ad 0) x), (1, .int ca), (2, .int nm), (3, .int ty)] → W p l e (headSpec wm_X12_setter ({ frames := 1, cells := 1, slots := 6, locals := 22 })).room s m ([eV (ad 0) x, .int ca, .int nm, .int ty] : List Value).toArray below meth c H locs 0 0 (vx_MQ below (cQx dC dI ad cid a2 lx (fun v u => ∃ r : Int32, v = some (.int r) ∧ ∃ (sg2 : Nat → Int32) (gm2 : Nat → Nat → Int32) (lg2 : Nat → Nat → Int64), u = (sg2, gm2, lg2) ∧ CI sg2 gm2 ∧ KS [] sg sg2 ∧ KS [3, 55] gm gm2 ∧ KS [] lg lg2 ∧ (iv 0 1 r) ∧ (ADS9 (0 ≤ ca.toInt ∧ ca.toInt ≤ 7 ∧ 0 ≤ nm.toInt ∧ nm.toInt ≤ 25 ∧ (0 ≤ ty.toInt ∧ ty.toInt ≤ 4 ∨ 8 ≤ ty.toInt ∧ ty.toInt ≤ 15)) r ca.toNatClampNeg nm.toNatClampNeg ty (gm 3) (gm2 3) (gm 55) (gm2 55))) A) (cX dC dI ad cid a2 lx (fun _ _ => False) A) ([eV (ad 0) x, .int ca, .int nm, .int ty] : List Value).toArray s 1 6 A) (F0 m 40 ls [.int y0_40]) := by
    intro gm_j40 y0_40 hsx0_40 hy0_40 hkg_j40 hI_j40 hS9 H locs ls hP hD hS hl
    exact W.nb (fun hN => W.widen (k := 1) (n := 6) (by decide) (by decide) (vx_ret (W.zret (v := y0_40) hx hb hr (iv_nb hy0_40) (fun t ht hW => ⟨⟨some (.int y0_40), (sg, gm_j40, lg), rfl, ⟨y0_40, rfl, sg, gm_j40, lg, rfl, hI_j40, KS_rf, (KS_tr (L := [3, 55]) KS_rf hkg_j40 (by decide)), KS_rf, hy0_40, (hS9)⟩, by rw [ht]; exact hP, va_K.moved hW.alike hK, hD⟩, hS.F ht, by rw [ht]; exact hN⟩) hS.2.2 dX12_setter_40)))
  have hj39 : ∀ (gm_j39 : Nat → Nat → Int32) (_ : iv 0 0 x) (_ : KS [3, 55] gm gm_j39) (_ : CI sg gm_j39) (_ : (¬ (0 ≤ ca.toInt ∧ ca.toInt ≤ 7 ∧ 0 ≤ nm.toInt ∧ nm.toInt ≤ 25 ∧ (0 ≤ ty.toInt ∧ ty.toInt ≤ 4 ∨ 8 ≤ ty.toInt ∧ ty.toInt ≤ 15)) ∨ 8 ≤ (gm 3 ca.toNatClampNeg).toInt ∨ ¬ gm 55 (26 * ca.toNatClampNeg + nm.toNatClampNeg) = -1) ∧ gm_j39 3 = gm 3 ∧ gm_j39 55 = gm 55) (H : Heap) (locs : List Loc) (ls : Array Slot), va_P (dC, dI) vwCl (cW ad cid a2 lx sg gm_j39 lg) H → va_D A (cW ad cid a2 lx sg gm_j39 lg) → va_S A s.heap H locs → lv_has ls 4 [(0, eV (ad 0) x), (1, .int ca), (2, .int nm), (3, .int ty)] → W p l e (headSpec wm_X12_setter ({ frames := 1, cells := 1, slots := 6, locals := 22 })).room s m ([eV (ad 0) x, .int ca, .int nm, .int ty] : List Value).toArray below meth c H locs 0 0 (vx_MQ below (cQx dC dI ad cid a2 lx (fun v u => ∃ r : Int32, v = some (.int r) ∧ ∃ (sg2 : Nat → Int32) (gm2 : Nat → Nat → Int32) (lg2 : Nat → Nat → Int64), u = (sg2, gm2, lg2) ∧ CI sg2 gm2 ∧ KS [] sg sg2 ∧ KS [3, 55] gm gm2 ∧ KS [] lg lg2 ∧ (iv 0 1 r) ∧ (ADS9 (0 ≤ ca.toInt ∧ ca.toInt ≤ 7 ∧ 0 ≤ nm.toInt ∧ nm.toInt ≤ 25 ∧ (0 ≤ ty.toInt ∧ ty.toInt ≤ 4 ∨ 8 ≤ ty.toInt ∧ ty.toInt ≤ 15)) r ca.toNatClampNeg nm.toNatClampNeg ty (gm 3) (gm2 3) (gm 55) (gm2 55))) A) (cX dC dI ad cid a2 lx (fun _ _ => False) A) ([eV (ad 0) x, .int ca, .int nm, .int ty] : List Value).toArray s 1 6 A) (F0 m 39 ls []) := by
    intro gm_j39 hsx0_39 hkg_j39 hI_j39 hno H locs ls hP hD hS hl
    refine lv_iconst (v := 0) hx hb dX12_setter_39 (by decide) ?_
    exact hj40 gm_j39 0 hsx0_39 (iv_w (iv_k (by decide) : iv 0 0 0) (by decide)) (KS_tr (L := [3, 55]) KS_rf hkg_j39 (by decide)) hI_j39 (Or.inr ⟨rfl, hno.1, hno.2⟩) _ _ _ hP hD hS (lv_sub hl [0, 1, 2, 3] rfl)
  refine lv_iload_n hx hb dX12_setter_0 rfl (lv_at hl 1 rfl) ?_
  refine cm_callS (rest := []) (as := [.int ca]) ⟨hx, hb, hml, hown, htb⟩ (d_isClass2 l dC dI ad cid a2 lx sg gm lg ca hI) (va_cwS 1 htb (gd_S kw_432 kw_433 kw_146 kw_1384) rfl rfl rfl (by decide +kernel) ⟨Nat.le_of_ble_eq_true rfl, Nat.le_of_ble_eq_true rfl⟩)  rfl hl.1 rfl (Nat.le_trans cs_n (by decide)) dX12_setter_1 ⟨Nat.le_of_ble_eq_true rfl, Nat.le_of_ble_eq_true rfl⟩ hK hP hD hS hA hG (fun E ce q9 u_2 H locs hw hP hD hS hce hcv hcl => ?_) (fun v9 u_2 H locs hw hP hD hS => ?_)
  · exact hw.elim
  obtain ⟨r_1, rfl, rfl, hr_1, fl_r_1⟩ := hw
  have hP : va_P (dC, dI) vwCl (cW ad cid a2 lx sg gm lg) H := hP
  have hD : va_D A (cW ad cid a2 lx sg gm lg) := hD
  refine W.eq (g2 := F0 m 4 ls [.int r_1]) rfl ?_
  refine lv_if_eq (tgt := 39) hx hb dX12_setter_4 (by decide) (fun c_4 => ?_) (fun c_4 => ?_)
  · have h_5 : iv 0 0 r_1 := iv_eq c_4 hr_1 (iv_k (by decide) : iv 0 0 0) (by decide)
    exact hj39 gm hvx KS_rf hI (⟨Or.inl (fun q9 => by { have := i32_0; have := i32_1; have := i32_2; have := i32_m1; have := (hvx).1; have := (hvx).2; have := (h_5).1; have := (h_5).2; omega }), (show gm 3 = gm 3 from rfl), (show gm 55 = gm 55 from rfl)⟩) _ _ _ hP hD hS (lv_sub hl [0, 1, 2, 3] rfl)
  · have h_6 : iv 1 1 r_1 := iv_neL c_4 hr_1 (by decide)
    refine lv_iload_n hx hb dX12_setter_7 rfl (lv_at hl 2 rfl) ?_
    refine cm_callS (rest := []) (as := [.int nm]) ⟨hx, hb, hml, hown, htb⟩ (d_isLetter2 l dC dI ad cid a2 lx sg gm lg nm hI) (va_cwS 1 htb (gd_S kw_456 kw_457 kw_146 kw_1393) rfl rfl rfl (by decide +kernel) ⟨Nat.le_of_ble_eq_true rfl, Nat.le_of_ble_eq_true rfl⟩)  rfl hl.1 rfl (Nat.le_trans cs_n (by decide)) dX12_setter_8 ⟨Nat.le_of_ble_eq_true rfl, Nat.le_of_ble_eq_true rfl⟩ hK hP hD hS hA hG (fun E ce q9 u_8 H locs hw hP hD hS hce hcv hcl => ?_) (fun v9 u_8 H locs hw hP hD hS => ?_)
    · exact hw.elim
    obtain ⟨r_7, rfl, rfl, hr_7, fl_r_7⟩ := hw
    have hP : va_P (dC, dI) vwCl (cW ad cid a2 lx sg gm lg) H := hP
    have hD : va_D A (cW ad cid a2 lx sg gm lg) := hD
    refine W.eq (g2 := F0 m 11 ls [.int r_7]) rfl ?_
    refine lv_if_eq (tgt := 39) hx hb dX12_setter_11 (by decide) (fun c_10 => ?_) (fun c_10 => ?_)
    · have h_11 : iv 0 0 r_7 := iv_eq c_10 hr_7 (iv_k (by decide) : iv 0 0 0) (by decide)
      exact hj39 gm hvx KS_rf hI (⟨Or.inl (fun q9 => by { have := i32_0; have := i32_1; have := i32_2; have := i32_m1; have := (hvx).1; have := (hvx).2; have := (h_6).1; have := (h_6).2; have := (h_11).1; have := (h_11).2; omega }), (show gm 3 = gm 3 from rfl), (show gm 55 = gm 55 from rfl)⟩) _ _ _ hP hD hS (lv_sub hl [0, 1, 2, 3] rfl)
    · have h_12 : iv 1 1 r_7 := iv_neL c_10 hr_7 (by decide)
      refine lv_iload_n hx hb dX12_setter_14 rfl (lv_at hl 3 rfl) ?_
      refine cm_callS (rest := []) (as := [.int ty]) ⟨hx, hb, hml, hown, htb⟩ (d_isType2 l dC dI ad cid a2 lx sg gm lg ty hI) (va_cwS 1 htb (gd_S kw_442 kw_443 kw_146 kw_1388) rfl rfl rfl (by decide +kernel) ⟨Nat.le_of_ble_eq_true rfl, Nat.le_of_ble_eq_true rfl⟩)  rfl hl.1 rfl (Nat.le_trans cs_n (by decide)) dX12_setter_15 ⟨Nat.le_of_ble_eq_true rfl, Nat.le_of_ble_eq_true rfl⟩ hK hP hD hS hA hG (fun E ce q9 u_14 H locs hw hP hD hS hce hcv hcl => ?_) (fun v9 u_14 H locs hw hP hD hS => ?_)
      · exact hw.elim
      obtain ⟨r_13, rfl, rfl, hr_13, fl_r_13⟩ := hw
      have hP : va_P (dC, dI) vwCl (cW ad cid a2 lx sg gm lg) H := hP
      have hD : va_D A (cW ad cid a2 lx sg gm lg) := hD
      refine W.eq (g2 := F0 m 18 ls [.int r_13]) rfl ?_
      refine lv_if_eq (tgt := 39) hx hb dX12_setter_18 (by decide) (fun c_16 => ?_) (fun c_16 => ?_)
      · have h_17 : iv 0 0 r_13 := iv_eq c_16 hr_13 (iv_k (by decide) : iv 0 0 0) (by decide)
        exact hj39 gm hvx KS_rf hI (⟨Or.inl (fun q9 => by { have := i32_0; have := i32_1; have := i32_2; have := i32_m1; have := (hvx).1; have := (hvx).2; have := (h_6).1; have := (h_6).2; have := (h_12).1; have := (h_12).2; have := (h_17).1; have := (h_17).2; omega }), (show gm 3 = gm 3 from rfl), (show gm 55 = gm 55 from rfl)⟩) _ _ _ hP hD hS (lv_sub hl [0, 1, 2, 3] rfl)
      · have h_18 : iv 1 1 r_13 := iv_neL c_16 hr_13 (by decide)
        have h_19 : iv 0 7 ca := ⟨by have := fl_r_1; have := i32_0; have := i32_1; have := i32_2; have := i32_m1; have := (hvx).1; have := (hvx).2; have := (h_6).1; have := (h_6).2; have := (h_12).1; have := (h_12).2; have := (h_18).1; have := (h_18).2; omega, by have := fl_r_1; have := i32_0; have := i32_1; have := i32_2; have := i32_m1; have := (hvx).1; have := (hvx).2; have := (h_6).1; have := (h_6).2; have := (h_12).1; have := (h_12).2; have := (h_18).1; have := (h_18).2; omega⟩
        have h_20 : iv 0 25 nm := ⟨by have := fl_r_7; have := i32_0; have := i32_1; have := i32_2; have := i32_m1; have := (hvx).1; have := (hvx).2; have := (h_6).1; have := (h_6).2; have := (h_12).1; have := (h_12).2; have := (h_18).1; have := (h_18).2; have := (h_19).1; have := (h_19).2; omega, by have := fl_r_7; have := i32_0; have := i32_1; have := i32_2; have := i32_m1; have := (hvx).1; have := (hvx).2; have := (h_6).1; have := (h_6).2; have := (h_12).1; have := (h_12).2; have := (h_18).1; have := (h_18).2; have := (h_19).1; have := (h_19).2; omega⟩
        have hty9 : iv 0 15 ty := ⟨by have := fl_r_13; have := i32_0; have := i32_1; have := i32_2; have := i32_m1; have := (hvx).1; have := (hvx).2; have := (h_6).1; have := (h_6).2; have := (h_12).1; have := (h_12).2; have := (h_18).1; have := (h_18).2; have := (h_19).1; have := (h_19).2; have := (h_20).1; have := (h_20).2; omega, by have := fl_r_13; have := i32_0; have := i32_1; have := i32_2; have := i32_m1; have := (hvx).1; have := (hvx).2; have := (h_6).1; have := (h_6).2; have := (h_12).1; have := (h_12).2; have := (h_18).1; have := (h_18).2; have := (h_19).1; have := (h_19).2; have := (h_20).1; have := (h_20).2; omega⟩
        refine ec_aload_n hx hb dX12_setter_21 rfl (lv_at hl 0 rfl) ?_
        refine cr_get (t := 0) (j := 0) (C := RX12) (T := TX12) (N := 12) (v := eV (ad 12) 0) hx hb htb inX12 hown hK hP hvx (by decide) (by decide) (by decide) rfl (by decide) (htb _ kw_417) (cV_c rfl (by decide) (by rw [show cMu 0 0 = 0 from rfl, Nat.zero_mul]; rfl)) dX12_setter_22 ?_
        refine lv_iload_n hx hb dX12_setter_25 rfl (lv_at hl 1 rfl) ?_
        refine cr_aald (t := 12) (C := RX2) (v := eV (ad 7) ca) hx hb hK hP (iv_k (by decide) : iv 0 0 0) (by decide) (by decide) (by decide) (by decide) (by decide) rfl (show vp_in ca (cLen 12) from (show vp_in ca 8 from (iv_in h_19 (by decide)))) (cAr_c (by decide) (h_19).1 (by rw [show cAm 12 = 0 from rfl, Nat.zero_mul, show cAo 12 = 0 from rfl]; omega)) dX12_setter_26 ?_
        refine lv_iload_n hx hb dX12_setter_27 rfl (lv_at hl 2 rfl) ?_
        refine lv_iload_n hx hb dX12_setter_28 rfl (lv_at hl 3 rfl) ?_
        refine cm_callV (t := 7) (C := RX2) (T := TX2) (N := 8) (rest := []) (as := [.int nm, .int ty]) ⟨hx, hb, hml, hown, htb⟩ (d_addSetter9 l dC dI ad cid a2 lx sg gm lg ca nm ty hI h_19 h_20 hty9) (cwV 2 htb (gd_V kw_458 kw_459 kw_460 kw_147 kw_1394) rfl rfl rfl (by decide +kernel) ⟨Nat.le_of_ble_eq_true rfl, Nat.le_of_ble_eq_true rfl⟩) h_19 (by decide) (by decide) rfl rfl hl.1 rfl (Nat.le_trans cs_n (by decide)) dX12_setter_29 ⟨Nat.le_of_ble_eq_true rfl, Nat.le_of_ble_eq_true rfl⟩ hK hP hD hS hA hG (fun E ce q9 u_22 H locs hw hP hD hS hce hcv hcl => ?_) (fun v9 u_22 H locs hw hP hD hS => ?_)
        · exact hw.elim
        obtain ⟨r_21, rfl, sgv_23, gmv_23, lgv_23, rfl, hIv_23, ksv_23, kgv_23, klv_23, hr_21, fS_r_21⟩ := hw
        obtain rfl := KS_nil ksv_23
        obtain rfl := KS_nil klv_23
        have hP : va_P (dC, dI) vwCl (cW ad cid a2 lx sg gmv_23 lg) H := hP
        have hD : va_D A (cW ad cid a2 lx sg gmv_23 lg) := hD
        refine W.eq (g2 := F0 m 32 ls [.int r_21]) rfl ?_
        refine lv_if_eq (tgt := 39) hx hb dX12_setter_32 (by decide) (fun c_24 => ?_) (fun c_24 => ?_)
        · have h_25 : iv 0 0 r_21 := iv_eq c_24 hr_21 (iv_k (by decide) : iv 0 0 0) (by decide)
          exact hj39 gmv_23 hvx (KS_tr (L := [3, 55]) KS_rf kgv_23 (by decide)) hIv_23 (⟨Or.inr (ADS9_0 fS_r_21 (by have := i32_0; have := i32_1; have := i32_2; have := i32_m1; have := (hvx).1; have := (hvx).2; have := (h_6).1; have := (h_6).2; have := (h_12).1; have := (h_12).2; have := (h_18).1; have := (h_18).2; have := (h_19).1; have := (h_19).2; have := (h_20).1; have := (h_20).2; have := (hty9).1; have := (hty9).2; have := (h_25).1; have := (h_25).2; omega)).1, (ADS9_0 fS_r_21 (by have := i32_0; have := i32_1; have := i32_2; have := i32_m1; have := (hvx).1; have := (hvx).2; have := (h_6).1; have := (h_6).2; have := (h_12).1; have := (h_12).2; have := (h_18).1; have := (h_18).2; have := (h_19).1; have := (h_19).2; have := (h_20).1; have := (h_20).2; have := (hty9).1; have := (hty9).2; have := (h_25).1; have := (h_25).2; omega)).2⟩) _ _ _ hP hD hS (lv_sub hl [0, 1, 2, 3] rfl)
        · have h_26 : iv 1 1 r_21 := iv_neL c_24 hr_21 (by decide)
          refine lv_iconst (v := 1) hx hb dX12_setter_35 (by decide) ?_
          refine lv_goto (tgt := 40) hx hb dX12_setter_36 (by decide) ?_
          exact hj40 gmv_23 1 hvx (iv_w (iv_k (by decide) : iv 1 1 1) (by decide)) (KS_tr (L := [3, 55]) KS_rf kgv_23 (by decide)) hIv_23 (ADS9_1 fS_r_21 (by have := i32_0; have := i32_1; have := i32_2; have := i32_m1; have := (hvx).1; have := (hvx).2; have := (h_6).1; have := (h_6).2; have := (h_12).1; have := (h_12).2; have := (h_18).1; have := (h_18).2; have := (h_19).1; have := (h_19).2; have := (h_20).1; have := (h_20).2; have := (hty9).1; have := (hty9).2; have := (h_26).1; have := (h_26).2; omega) (by have := i32_0; have := i32_1; have := i32_2; have := i32_m1; have := (hvx).1; have := (hvx).2; have := (h_6).1; have := (h_6).2; have := (h_12).1; have := (h_12).2; have := (h_18).1; have := (h_18).2; have := (h_19).1; have := (h_19).2; have := (h_20).1; have := (h_20).2; have := (hty9).1; have := (hty9).2; have := (h_26).1; have := (h_26).2; omega) rfl) _ _ _ hP hD hS (lv_sub hl [0, 1, 2, 3] rfl)
end
section
set_option maxHeartbeats 4000000 in
set_option maxRecDepth 100000 in
theorem a_declare9 (l : Launch) (dC : Nat → ClassId) (dI : Nat → Nat → Nat) (h0 : Nat) (ad : Nat → Nat) (cid : Nat → ClassId) (sg : Nat → Int32) (gm : Nat → Nat → Int32) (lg : Nat → Nat → Int64) (a : Int32) (b : Int32) (hI : MI sg gm) (hPR : PR gm) : MMi l dC dI yX13_declare wm_X13_declare ({ frames := 1, cells := 0, slots := 0, locals := 20 }) h0 ad cid [.int a, .int b] sg gm lg (fun r v => ∃ (sg2 : Nat → Int32) (gm2 : Nat → Nat → Int32) (lg2 : Nat → Nat → Int64), v = (sg2, gm2, lg2) ∧ MI sg2 gm2 ∧ KS [5] sg sg2 ∧ KS [6, 7, 10, 13] gm gm2 ∧ KS [] lg lg2 ∧ (iv 0 1 r) ∧ (r.toInt = 1 ∧ (0 ≤ a.toInt ∧ a.toInt ≤ 7 ∧ -1 ≤ b.toInt ∧ b.toInt < a.toInt) ∨ r.toInt = 0 ∧ ¬ (0 ≤ a.toInt ∧ a.toInt ≤ 7 ∧ -1 ≤ b.toInt ∧ b.toInt < a.toInt)) ∧ (PR gm2) ∧ (DEC9 (0 ≤ a.toInt ∧ a.toInt ≤ 7 ∧ -1 ≤ b.toInt ∧ b.toInt < a.toInt) r a.toNatClampNeg (gm 7) (gm2 7)) ∧ (DEC9 (0 ≤ a.toInt ∧ a.toInt ≤ 7 ∧ -1 ≤ b.toInt ∧ b.toInt < a.toInt) r a.toNatClampNeg (gm 13) (gm2 13)) ∧ (DEC9 (0 ≤ a.toInt ∧ a.toInt ≤ 7 ∧ -1 ≤ b.toInt ∧ b.toInt < a.toInt) r a.toNatClampNeg (gm 10) (gm2 10)) ∧ (DEP9 (0 ≤ a.toInt ∧ a.toInt ≤ 7 ∧ -1 ≤ b.toInt ∧ b.toInt < a.toInt) r a.toNatClampNeg b (gm 6) (gm2 6))) := by
  intro sz
  refine Met.ofW (cc := cX13_declare) (maxL := 3) (ret := (some .boolean)) (by decide) rfl ?_
  intro p e s m args below meth c s₁ B hml hv
  obtain ⟨rfl, hsz, hP, hK, hD0⟩ := hv
  have hx := B.exec
  have hb := B.bytes
  have hr := B.returns
  have hts := atoms_spec (ws := wm_X13_declare) B.pre
  have htb := fun (w : Cond) (h : w ∈ tb) => hts w (List.mem_cons_of_mem _ h)
  have hown : s.vm.findClass RX13 = some m.cls := findClass_of_methodNamed B.named
  have hlocks := B.notSynchronized
  subst hsz
  have hD := hD0.self (sz := s.heap.size)
  generalize hAe : va_A (mW h0 ad cid sg gm lg) s.heap.size = A at hD ⊢
  have hA : ∀ q : Nat, s.heap.size ≤ q → A q := fun q h => by rw [← hAe]; exact Or.inr h
  have hS : va_S A s.heap s.heap [] := va_S.rf
  have hl := lv_entry ([.ref h0, .int a, .int b]) (n := 3) (Nat.le_of_ble_eq_true rfl)
  rw [lg_entry_eq]
  generalize (lg_sl ([.ref h0, .int a, .int b]) ++ List.replicate (3 - (lg_sl ([.ref h0, .int a, .int b])).length) Slot.unset).toArray = ls at hl ⊢
  have hl : lv_has ls 3 [(0, .ref h0), (1, .int a), (2, .int b)] := hl
  have hj22 : ∀ (sg_j22 : Nat → Int32) (_ : KS [5] sg sg_j22) (_ : MI sg_j22 gm) (_ : ¬ (0 ≤ a.toInt ∧ a.toInt ≤ 7 ∧ -1 ≤ b.toInt ∧ b.toInt < a.toInt)) (H : Heap) (locs : List Loc) (ls : Array Slot), va_P (dC, dI) vwCl (mW h0 ad cid sg_j22 gm lg) H → va_D A (mW h0 ad cid sg_j22 gm lg) → va_S A s.heap H locs → lv_has ls 3 [(0, .ref h0), (1, .int a), (2, .int b)] → W p l e (headSpec wm_X13_declare ({ frames := 1, cells := 0, slots := 0, locals := 20 })).room s m ([.ref h0, .int a, .int b] : List Value).toArray below meth c H locs 0 0 (MQ below (va_Qi (fun r v => ∃ (sg2 : Nat → Int32) (gm2 : Nat → Nat → Int32) (lg2 : Nat → Nat → Int64), v = (sg2, gm2, lg2) ∧ MI sg2 gm2 ∧ KS [5] sg sg2 ∧ KS [6, 7, 10, 13] gm gm2 ∧ KS [] lg lg2 ∧ (iv 0 1 r) ∧ (r.toInt = 1 ∧ (0 ≤ a.toInt ∧ a.toInt ≤ 7 ∧ -1 ≤ b.toInt ∧ b.toInt < a.toInt) ∨ r.toInt = 0 ∧ ¬ (0 ≤ a.toInt ∧ a.toInt ≤ 7 ∧ -1 ≤ b.toInt ∧ b.toInt < a.toInt)) ∧ (PR gm2) ∧ (DEC9 (0 ≤ a.toInt ∧ a.toInt ≤ 7 ∧ -1 ≤ b.toInt ∧ b.toInt < a.toInt) r a.toNatClampNeg (gm 7) (gm2 7)) ∧ (DEC9 (0 ≤ a.toInt ∧ a.toInt ≤ 7 ∧ -1 ≤ b.toInt ∧ b.toInt < a.toInt) r a.toNatClampNeg (gm 13) (gm2 13)) ∧ (DEC9 (0 ≤ a.toInt ∧ a.toInt ≤ 7 ∧ -1 ≤ b.toInt ∧ b.toInt < a.toInt) r a.toNatClampNeg (gm 10) (gm2 10)) ∧ (DEP9 (0 ≤ a.toInt ∧ a.toInt ≤ 7 ∧ -1 ≤ b.toInt ∧ b.toInt < a.toInt) r a.toNatClampNeg b (gm 6) (gm2 6))) (MB dC dI h0 ad cid A) A) ([.ref h0, .int a, .int b] : List Value).toArray s 0 0 A) (F0 m 22 ls []) := by
    intro sg_j22 hks_j22 hI_j22 hno H locs ls hP hD hS hl
    refine lv_iconst (v := 0) hx hb dX13_declare_22 (by decide) ?_
    exact W.zret (v := 0) hx hb hr (iv_nb (iv_w (iv_k (by decide) : iv 0 0 0) (by decide))) (fun t ht hW => ⟨⟨0, (sg_j22, gm, lg), rfl, ⟨sg_j22, gm, lg, rfl, hI_j22, (KS_tr (L := [5]) KS_rf hks_j22 (by decide)), KS_rf, KS_rf, (iv_w (iv_k (by decide) : iv 0 0 0) (by decide)), (Or.inr ⟨rfl, hno⟩), (hPR), (Or.inr ⟨rfl, hno, (show gm 7 = gm 7 from rfl)⟩), (Or.inr ⟨rfl, hno, (show gm 13 = gm 13 from rfl)⟩), (Or.inr ⟨rfl, hno, (show gm 10 = gm 10 from rfl)⟩), (Or.inr ⟨rfl, hno, (show gm 6 = gm 6 from rfl)⟩)⟩, by rw [ht]; exact hP, va_K.moved hW.alike hK, hD⟩, hS.F ht⟩) hS.2.2 dX13_declare_23
  refine lv_aload_n hx hb dX13_declare_0 rfl (lv_at hl 0 rfl) ?_
  refine lv_iconst (v := 0) hx hb dX13_declare_1 (by decide) ?_
  refine ma_put (x := 0) hx hb htb inX13 hown hK hP hD hS 5 (by decide) (by decide) (htb _ kw_1032) rfl rfl rfl dX13_declare_2 (fun sg_1 H locs esg_1 hP hD hS => ?_)
  have hI_sg_1 := MI_put hI esg_1 (iv_k (by decide) : iv 0 0 0) (by decide)
  refine lv_iload_n hx hb dX13_declare_5 rfl (lv_at hl 1 rfl) ?_
  have hPc := hP.sub (ws' := []) [] rfl
  have hDc := hD.sub (ws' := []) [] (by decide) rfl
  have hKc := hK.sub (tys' := []) [] rfl
  have hFc := va_free (wc := []) hD hS hA [] rfl
  refine va_calli (va_runS (As := [.int a]) (rest := []) ⟨hx, hb, hml, hown, htb⟩ (c_X13_isClass l dC dI H.size a) (va_cwS 1 htb (gd_S kw_1108 kw_1109 kw_160 kw_1567) rfl rfl rfl (by decide +kernel) ⟨Nat.le_of_ble_eq_true rfl, Nat.le_of_ble_eq_true rfl⟩) ⟨fun a U g mk q => by obtain ⟨q0, q1, qP, qK, qD⟩ := q; exact ⟨q0, q1, qP, va_K.moved (u := U) (U := U.calling g mk a) (Vm.Alike.refl U.vm) qK, qD⟩, fun U hU hW => ⟨rfl, by rw [hU], by rw [hU]; exact hPc, va_K.moved hW.alike hKc, hDc.weaken (fun _ _ _ _ => trivial)⟩⟩ rfl rfl hl.1 rfl (lv_room (Nat.le_of_ble_eq_true rfl)) dX13_declare_6 ⟨Nat.zero_le _, Nat.zero_le _⟩) hS (fun q _ h => hFc q h) hFc (fun r_2 u9 t H1 locs ht hvm hw hB hz1 hk1 hS => ?_)
  have hP := ms_kept hP hz1 hk1
  generalize H1 = H at hP hS ⊢
  have fr_2 : r_2 = zCls a := hw
  have hr_2 : iv 0 1 r_2 := iv_of fr_2 (zCls_iv a)
  refine lv_if_eq (tgt := 22) hx hb dX13_declare_9 (by decide) (fun c_3 => ?_) (fun c_3 => ?_)
  · have h_4 : iv 0 0 r_2 := iv_eq c_3 hr_2 (iv_k (by decide) : iv 0 0 0) (by decide)
    exact hj22 sg_1 (KS_up KS_rf esg_1 (by decide)) hI_sg_1 ((fun q9 => by { have q1 := zCls_f (a := a) (by rw [← fr_2]; exact c_3); omega })) _ _ _ hP hD hS (lv_sub hl [0, 1, 2] rfl)
  · have h_5 : iv 0 7 a := zCls_t (by rw [← fr_2]; exact c_3)
    have h_6 : iv 1 1 r_2 := iv_neL c_3 hr_2 (by decide)
    refine lv_iload_n hx hb dX13_declare_12 rfl (lv_at hl 2 rfl) ?_
    refine lv_iconst (v := (-1)) hx hb dX13_declare_13 (by decide) ?_
    refine lv_icmp_lt (tgt := 22) hx hb dX13_declare_14 (by decide) (fun c_7 => ?_) (fun c_7 => ?_)
    · have h_8 : iv (-2147483648) (-2) b := iv_ltL c_7 (iv_all b) (iv_k (by decide) : iv (-1) (-1) (-1)) (by decide)
      exact hj22 sg_1 (KS_up KS_rf esg_1 (by decide)) hI_sg_1 ((fun q9 => by { have := i32_0; have := i32_1; have := i32_2; have := i32_m1; have := (h_6).1; have := (h_6).2; have := (h_5).1; have := (h_5).2; have := (h_8).1; have := (h_8).2; omega })) _ _ _ hP hD hS (lv_sub hl [0, 1, 2] rfl)
    · have h_9 : iv (-1) 2147483647 b := iv_leR (i32_ge c_7) (iv_k (by decide) : iv (-1) (-1) (-1)) (iv_all b) (by decide)
      refine lv_iload_n hx hb dX13_declare_17 rfl (lv_at hl 2 rfl) ?_
      refine lv_iload_n hx hb dX13_declare_18 rfl (lv_at hl 1 rfl) ?_
      refine lv_icmp_lt (tgt := 24) hx hb dX13_declare_19 (by decide) (fun c_10 => ?_) (fun c_10 => ?_)
      · have d_11 : (b : Int32).toInt < (a : Int32).toInt := Int32.lt_iff_toInt_lt.mp c_10
        have h_12 : iv (-1) 6 b := iv_ltL c_10 h_9 h_5 (by decide)
        refine lv_aload_n hx hb dX13_declare_24 rfl (lv_at hl 0 rfl) ?_
        refine mr_get (v := .ref (ad 6)) hx hb htb inX13 hown hK hP 6 (by decide) (htb _ kw_1033) rfl dX13_declare_25 ?_
        refine lv_iload_n hx hb dX13_declare_28 rfl (lv_at hl 1 rfl) ?_
        refine lv_iload_n hx hb dX13_declare_29 rfl (lv_at hl 2 rfl) ?_
        refine ma_iast (x := b) hx hb hK hP hD hS 5 (k := 6) rfl rfl rfl (show vp_in a 8 from (iv_in h_5 (by decide))) dX13_declare_30 (fun gm_13 H locs egm_13 hP hD hS => ?_)
        have hI_gm_13 := MI_st hI_sg_1 egm_13 h_12 (by decide)
        refine lv_aload_n hx hb dX13_declare_31 rfl (lv_at hl 0 rfl) ?_
        refine mr_get (v := .ref (ad 7)) hx hb htb inX13 hown hK hP 7 (by decide) (htb _ kw_1034) rfl dX13_declare_32 ?_
        refine lv_iload_n hx hb dX13_declare_35 rfl (lv_at hl 1 rfl) ?_
        refine lv_iconst (v := 0) hx hb dX13_declare_36 (by decide) ?_
        refine ma_iast (x := 0) hx hb hK hP hD hS 6 (k := 7) rfl rfl rfl (show vp_in a 8 from (iv_in h_5 (by decide))) dX13_declare_37 (fun gm_14 H locs egm_14 hP hD hS => ?_)
        have hI_gm_14 := MI_st hI_gm_13 egm_14 (iv_k (by decide) : iv 0 0 0) (by decide)
        refine lv_aload_n hx hb dX13_declare_38 rfl (lv_at hl 0 rfl) ?_
        refine mr_get (v := .ref (ad 10)) hx hb htb inX13 hown hK hP 10 (by decide) (htb _ kw_1037) rfl dX13_declare_39 ?_
        refine lv_iload_n hx hb dX13_declare_42 rfl (lv_at hl 1 rfl) ?_
        refine lv_iconst (v := 0) hx hb dX13_declare_43 (by decide) ?_
        refine ma_iast (x := 0) hx hb hK hP hD hS 9 (k := 10) rfl rfl rfl (show vp_in a 8 from (iv_in h_5 (by decide))) dX13_declare_44 (fun gm_15 H locs egm_15 hP hD hS => ?_)
        have hI_gm_15 := MI_st hI_gm_14 egm_15 (iv_k (by decide) : iv 0 0 0) (by decide)
        refine lv_aload_n hx hb dX13_declare_45 rfl (lv_at hl 0 rfl) ?_
        refine mr_get (v := .ref (ad 13)) hx hb htb inX13 hown hK hP 13 (by decide) (htb _ kw_1040) rfl dX13_declare_46 ?_
        refine lv_iload_n hx hb dX13_declare_49 rfl (lv_at hl 1 rfl) ?_
        refine lv_iconst (v := 0) hx hb dX13_declare_50 (by decide) ?_
        refine ma_iast (x := 0) hx hb hK hP hD hS 12 (k := 13) rfl rfl rfl (show vp_in a 8 from (iv_in h_5 (by decide))) dX13_declare_51 (fun gm_16 H locs egm_16 hP hD hS => ?_)
        have hI_gm_16 := MI_st hI_gm_15 egm_16 (iv_k (by decide) : iv 0 0 0) (by decide)
        refine lv_iconst (v := 1) hx hb dX13_declare_52 (by decide) ?_
        exact W.zret (v := 1) hx hb hr (iv_nb (iv_w (iv_k (by decide) : iv 1 1 1) (by decide))) (fun t ht hW => ⟨⟨1, (sg_1, gm_16, lg), rfl, ⟨sg_1, gm_16, lg, rfl, hI_gm_16, (KS_up KS_rf esg_1 (by decide)), (KS_up (KS_up (KS_up (KS_up KS_rf egm_13 (by decide)) egm_14 (by decide)) egm_15 (by decide)) egm_16 (by decide)), KS_rf, (iv_w (iv_k (by decide) : iv 1 1 1) (by decide)), (Or.inl ⟨rfl, by have := i32_0; have := i32_1; have := i32_2; have := i32_m1; have := (h_6).1; have := (h_6).2; have := (h_5).1; have := (h_5).2; have := (h_12).1; have := (h_12).2; omega, by have := i32_0; have := i32_1; have := i32_2; have := i32_m1; have := (h_6).1; have := (h_6).2; have := (h_5).1; have := (h_5).2; have := (h_12).1; have := (h_12).2; omega, by have := i32_0; have := i32_1; have := i32_2; have := i32_m1; have := (h_6).1; have := (h_6).2; have := (h_5).1; have := (h_5).2; have := (h_12).1; have := (h_12).2; omega, by have := i32_0; have := i32_1; have := i32_2; have := i32_m1; have := (h_6).1; have := (h_6).2; have := (h_5).1; have := (h_5).2; have := (h_12).1; have := (h_12).2; omega⟩), (PR_u hPR (by have := i32_0; have := i32_1; have := i32_2; have := i32_m1; have := (h_6).1; have := (h_6).2; have := (h_5).1; have := (h_5).2; have := (h_12).1; have := (h_12).2; omega) (show gm_16 6 = upd (gm 6) (a : Int32).toNatClampNeg b from ((up_ne egm_16 (by decide)).trans ((up_ne egm_15 (by decide)).trans ((up_ne egm_14 (by decide)).trans ((up_at egm_13).trans (by rw [show gm 6 = gm 6 from rfl])))))) (by have := i32_0; have := i32_1; have := i32_2; have := i32_m1; have := (h_6).1; have := (h_6).2; have := (h_5).1; have := (h_5).2; have := (h_12).1; have := (h_12).2; omega)), (Or.inl ⟨rfl, ⟨by have := i32_0; have := i32_1; have := i32_2; have := i32_m1; have := (h_6).1; have := (h_6).2; have := (h_5).1; have := (h_5).2; have := (h_12).1; have := (h_12).2; omega, by have := i32_0; have := i32_1; have := i32_2; have := i32_m1; have := (h_6).1; have := (h_6).2; have := (h_5).1; have := (h_5).2; have := (h_12).1; have := (h_12).2; omega, by have := i32_0; have := i32_1; have := i32_2; have := i32_m1; have := (h_6).1; have := (h_6).2; have := (h_5).1; have := (h_5).2; have := (h_12).1; have := (h_12).2; omega, by have := i32_0; have := i32_1; have := i32_2; have := i32_m1; have := (h_6).1; have := (h_6).2; have := (h_5).1; have := (h_5).2; have := (h_12).1; have := (h_12).2; omega⟩, (show gm_16 7 = upd (gm 7) (a : Int32).toNatClampNeg 0 from ((up_ne egm_16 (by decide)).trans ((up_ne egm_15 (by decide)).trans ((up_at egm_14).trans (by rw [show gm_13 7 = gm 7 from ((up_ne egm_13 (by decide)).trans rfl)])))))⟩), (Or.inl ⟨rfl, ⟨by have := i32_0; have := i32_1; have := i32_2; have := i32_m1; have := (h_6).1; have := (h_6).2; have := (h_5).1; have := (h_5).2; have := (h_12).1; have := (h_12).2; omega, by have := i32_0; have := i32_1; have := i32_2; have := i32_m1; have := (h_6).1; have := (h_6).2; have := (h_5).1; have := (h_5).2; have := (h_12).1; have := (h_12).2; omega, by have := i32_0; have := i32_1; have := i32_2; have := i32_m1; have := (h_6).1; have := (h_6).2; have := (h_5).1; have := (h_5).2; have := (h_12).1; have := (h_12).2; omega, by have := i32_0; have := i32_1; have := i32_2; have := i32_m1; have := (h_6).1; have := (h_6).2; have := (h_5).1; have := (h_5).2; have := (h_12).1; have := (h_12).2; omega⟩, (show gm_16 13 = upd (gm 13) (a : Int32).toNatClampNeg 0 from ((up_at egm_16).trans (by rw [show gm_15 13 = gm 13 from ((up_ne egm_15 (by decide)).trans ((up_ne egm_14 (by decide)).trans ((up_ne egm_13 (by decide)).trans rfl)))])))⟩), (Or.inl ⟨rfl, ⟨by have := i32_0; have := i32_1; have := i32_2; have := i32_m1; have := (h_6).1; have := (h_6).2; have := (h_5).1; have := (h_5).2; have := (h_12).1; have := (h_12).2; omega, by have := i32_0; have := i32_1; have := i32_2; have := i32_m1; have := (h_6).1; have := (h_6).2; have := (h_5).1; have := (h_5).2; have := (h_12).1; have := (h_12).2; omega, by have := i32_0; have := i32_1; have := i32_2; have := i32_m1; have := (h_6).1; have := (h_6).2; have := (h_5).1; have := (h_5).2; have := (h_12).1; have := (h_12).2; omega, by have := i32_0; have := i32_1; have := i32_2; have := i32_m1; have := (h_6).1; have := (h_6).2; have := (h_5).1; have := (h_5).2; have := (h_12).1; have := (h_12).2; omega⟩, (show gm_16 10 = upd (gm 10) (a : Int32).toNatClampNeg 0 from ((up_ne egm_16 (by decide)).trans ((up_at egm_15).trans (by rw [show gm_14 10 = gm 10 from ((up_ne egm_14 (by decide)).trans ((up_ne egm_13 (by decide)).trans rfl))]))))⟩), (Or.inl ⟨rfl, ⟨by have := i32_0; have := i32_1; have := i32_2; have := i32_m1; have := (h_6).1; have := (h_6).2; have := (h_5).1; have := (h_5).2; have := (h_12).1; have := (h_12).2; omega, by have := i32_0; have := i32_1; have := i32_2; have := i32_m1; have := (h_6).1; have := (h_6).2; have := (h_5).1; have := (h_5).2; have := (h_12).1; have := (h_12).2; omega, by have := i32_0; have := i32_1; have := i32_2; have := i32_m1; have := (h_6).1; have := (h_6).2; have := (h_5).1; have := (h_5).2; have := (h_12).1; have := (h_12).2; omega, by have := i32_0; have := i32_1; have := i32_2; have := i32_m1; have := (h_6).1; have := (h_6).2; have := (h_5).1; have := (h_5).2; have := (h_12).1; have := (h_12).2; omega⟩, (show gm_16 6 = upd (gm 6) (a : Int32).toNatClampNeg b from ((up_ne egm_16 (by decide)).trans ((up_ne egm_15 (by decide)).trans ((up_ne egm_14 (by decide)).trans ((up_at egm_13).trans (by rw [show gm 6 = gm 6 from rfl]))))))⟩)⟩, by rw [ht]; exact hP, va_K.moved hW.alike hK, hD⟩, hS.F ht⟩) hS.2.2 dX13_declare_53
      · have d_17 : (a : Int32).toInt ≤ (b : Int32).toInt := Int32.le_iff_toInt_le.mp (i32_ge c_10)
        have h_18 : iv 0 2147483647 b := iv_leR (i32_ge c_10) h_5 h_9 (by decide)
        exact hj22 sg_1 (KS_up KS_rf esg_1 (by decide)) hI_sg_1 ((fun q9 => by { have := i32_0; have := i32_1; have := i32_2; have := i32_m1; have := (h_6).1; have := (h_6).2; have := (h_5).1; have := (h_5).2; have := (h_18).1; have := (h_18).2; omega })) _ _ _ hP hD hS (lv_sub hl [0, 1, 2] rfl)
end
section
set_option maxHeartbeats 4000000 in
set_option maxRecDepth 100000 in
theorem a_constructor9 (l : Launch) (dC : Nat → ClassId) (dI : Nat → Nat → Nat) (h0 : Nat) (ad : Nat → Nat) (cid : Nat → ClassId) (sg : Nat → Int32) (gm : Nat → Nat → Int32) (lg : Nat → Nat → Int64) (a : Int32) (b : Int32) (f : Int32) (g : Int32) (k : Int32) (hI : MI sg gm) : MMi l dC dI yX13_constructor wm_X13_constructor ({ frames := 2, cells := 0, slots := 0, locals := 43 }) h0 ad cid [.int a, .int b, .int f, .int g, .int k] sg gm lg (fun r v => ∃ (sg2 : Nat → Int32) (gm2 : Nat → Nat → Int32) (lg2 : Nat → Nat → Int64), v = (sg2, gm2, lg2) ∧ MI sg2 gm2 ∧ KS [5] sg sg2 ∧ KS [7, 8, 9] gm gm2 ∧ KS [] lg lg2 ∧ (iv 0 1 r) ∧ (RAC (0 ≤ a.toInt ∧ a.toInt ≤ 7 ∧ 0 ≤ b.toInt ∧ b.toInt ≤ 3 ∧ (1 ≤ b.toInt → (0 ≤ f.toInt ∧ f.toInt ≤ 4 ∨ 8 ≤ f.toInt ∧ f.toInt ≤ 15)) ∧ (2 ≤ b.toInt → (0 ≤ g.toInt ∧ g.toInt ≤ 4 ∨ 8 ≤ g.toInt ∧ g.toInt ≤ 15)) ∧ (3 ≤ b.toInt → (0 ≤ k.toInt ∧ k.toInt ≤ 4 ∨ 8 ≤ k.toInt ∧ k.toInt ≤ 15))) r a.toNatClampNeg gm gm2 b f g k)) := by
  intro sz
  refine Met.ofW (cc := cX13_constructor) (maxL := 7) (ret := (some .boolean)) (by decide) rfl ?_
  intro p e s m args below meth c s₁ B hml hv
  obtain ⟨rfl, hsz, hP, hK, hD0⟩ := hv
  have hx := B.exec
  have hb := B.bytes
  have hr := B.returns
  have hts := atoms_spec (ws := wm_X13_constructor) B.pre
  have htb := fun (w : Cond) (h : w ∈ tb) => hts w (List.mem_cons_of_mem _ h)
  have hown : s.vm.findClass RX13 = some m.cls := findClass_of_methodNamed B.named
  have hlocks := B.notSynchronized
  subst hsz
  have hD := hD0.self (sz := s.heap.size)
  generalize hAe : va_A (mW h0 ad cid sg gm lg) s.heap.size = A at hD ⊢
  have hA : ∀ q : Nat, s.heap.size ≤ q → A q := fun q h => by rw [← hAe]; exact Or.inr h
  have hS : va_S A s.heap s.heap [] := va_S.rf
  have hl := lv_entry ([.ref h0, .int a, .int b, .int f, .int g, .int k]) (n := 7) (Nat.le_of_ble_eq_true rfl)
  rw [lg_entry_eq]
  generalize (lg_sl ([.ref h0, .int a, .int b, .int f, .int g, .int k]) ++ List.replicate (7 - (lg_sl ([.ref h0, .int a, .int b, .int f, .int g, .int k])).length) Slot.unset).toArray = ls at hl ⊢
  have hl : lv_has ls 7 [(0, .ref h0), (1, .int a), (2, .int b), (3, .int f), (4, .int g), (5, .int k)] := hl
  have hj34 : ∀ (sg_j34 : Nat → Int32) (_ : KS [5] sg sg_j34) (_ : MI sg_j34 gm) (_ : ¬ (0 ≤ a.toInt ∧ a.toInt ≤ 7 ∧ 0 ≤ b.toInt ∧ b.toInt ≤ 3 ∧ (1 ≤ b.toInt → (0 ≤ f.toInt ∧ f.toInt ≤ 4 ∨ 8 ≤ f.toInt ∧ f.toInt ≤ 15)) ∧ (2 ≤ b.toInt → (0 ≤ g.toInt ∧ g.toInt ≤ 4 ∨ 8 ≤ g.toInt ∧ g.toInt ≤ 15)) ∧ (3 ≤ b.toInt → (0 ≤ k.toInt ∧ k.toInt ≤ 4 ∨ 8 ≤ k.toInt ∧ k.toInt ≤ 15))) ∨ 4 ≤ (gm 7 a.toNatClampNeg).toInt) (H : Heap) (locs : List Loc) (ls : Array Slot), va_P (dC, dI) vwCl (mW h0 ad cid sg_j34 gm lg) H → va_D A (mW h0 ad cid sg_j34 gm lg) → va_S A s.heap H locs → lv_has ls 7 [(0, .ref h0), (1, .int a), (2, .int b), (3, .int f), (4, .int g), (5, .int k)] → W p l e (headSpec wm_X13_constructor ({ frames := 2, cells := 0, slots := 0, locals := 43 })).room s m ([.ref h0, .int a, .int b, .int f, .int g, .int k] : List Value).toArray below meth c H locs 0 0 (MQ below (va_Qi (fun r v => ∃ (sg2 : Nat → Int32) (gm2 : Nat → Nat → Int32) (lg2 : Nat → Nat → Int64), v = (sg2, gm2, lg2) ∧ MI sg2 gm2 ∧ KS [5] sg sg2 ∧ KS [7, 8, 9] gm gm2 ∧ KS [] lg lg2 ∧ (iv 0 1 r) ∧ (RAC (0 ≤ a.toInt ∧ a.toInt ≤ 7 ∧ 0 ≤ b.toInt ∧ b.toInt ≤ 3 ∧ (1 ≤ b.toInt → (0 ≤ f.toInt ∧ f.toInt ≤ 4 ∨ 8 ≤ f.toInt ∧ f.toInt ≤ 15)) ∧ (2 ≤ b.toInt → (0 ≤ g.toInt ∧ g.toInt ≤ 4 ∨ 8 ≤ g.toInt ∧ g.toInt ≤ 15)) ∧ (3 ≤ b.toInt → (0 ≤ k.toInt ∧ k.toInt ≤ 4 ∨ 8 ≤ k.toInt ∧ k.toInt ≤ 15))) r a.toNatClampNeg gm gm2 b f g k)) (MB dC dI h0 ad cid A) A) ([.ref h0, .int a, .int b, .int f, .int g, .int k] : List Value).toArray s 0 0 A) (F0 m 34 ls []) := by
    intro sg_j34 hks_j34 hI_j34 hno H locs ls hP hD hS hl
    refine lv_iconst (v := 0) hx hb dX13_constructor_34 (by decide) ?_
    exact W.zret (v := 0) hx hb hr (iv_nb (iv_w (iv_k (by decide) : iv 0 0 0) (by decide))) (fun t ht hW => ⟨⟨0, (sg_j34, gm, lg), rfl, ⟨sg_j34, gm, lg, rfl, hI_j34, (KS_tr (L := [5]) KS_rf hks_j34 (by decide)), KS_rf, KS_rf, (iv_w (iv_k (by decide) : iv 0 0 0) (by decide)), (Or.inr ⟨rfl, hno, (show gm 7 = gm 7 from rfl), (show gm 8 = gm 8 from rfl), (show gm 9 = gm 9 from rfl)⟩)⟩, by rw [ht]; exact hP, va_K.moved hW.alike hK, hD⟩, hS.F ht⟩) hS.2.2 dX13_constructor_35
  refine lv_aload_n hx hb dX13_constructor_0 rfl (lv_at hl 0 rfl) ?_
  refine lv_iconst (v := 0) hx hb dX13_constructor_1 (by decide) ?_
  refine ma_put (x := 0) hx hb htb inX13 hown hK hP hD hS 5 (by decide) (by decide) (htb _ kw_1032) rfl rfl rfl dX13_constructor_2 (fun sg_1 H locs esg_1 hP hD hS => ?_)
  have hI_sg_1 := MI_put hI esg_1 (iv_k (by decide) : iv 0 0 0) (by decide)
  refine lv_iload_n hx hb dX13_constructor_5 rfl (lv_at hl 1 rfl) ?_
  have hPc := hP.sub (ws' := []) [] rfl
  have hDc := hD.sub (ws' := []) [] (by decide) rfl
  have hKc := hK.sub (tys' := []) [] rfl
  have hFc := va_free (wc := []) hD hS hA [] rfl
  refine va_calli (va_runS (As := [.int a]) (rest := []) ⟨hx, hb, hml, hown, htb⟩ (c_X13_isClass l dC dI H.size a) (va_cwS 1 htb (gd_S kw_1108 kw_1109 kw_160 kw_1567) rfl rfl rfl (by decide +kernel) ⟨Nat.le_of_ble_eq_true rfl, Nat.le_of_ble_eq_true rfl⟩) ⟨fun a U g mk q => by obtain ⟨q0, q1, qP, qK, qD⟩ := q; exact ⟨q0, q1, qP, va_K.moved (u := U) (U := U.calling g mk a) (Vm.Alike.refl U.vm) qK, qD⟩, fun U hU hW => ⟨rfl, by rw [hU], by rw [hU]; exact hPc, va_K.moved hW.alike hKc, hDc.weaken (fun _ _ _ _ => trivial)⟩⟩ rfl rfl hl.1 rfl (lv_room (Nat.le_of_ble_eq_true rfl)) dX13_constructor_6 ⟨Nat.zero_le _, Nat.zero_le _⟩) hS (fun q _ h => hFc q h) hFc (fun r_2 u9 t H1 locs ht hvm hw hB hz1 hk1 hS => ?_)
  have hP := ms_kept hP hz1 hk1
  generalize H1 = H at hP hS ⊢
  have fr_2 : r_2 = zCls a := hw
  have hr_2 : iv 0 1 r_2 := iv_of fr_2 (zCls_iv a)
  refine lv_if_eq (tgt := 34) hx hb dX13_constructor_9 (by decide) (fun c_3 => ?_) (fun c_3 => ?_)
  · have h_4 : iv 0 0 r_2 := iv_eq c_3 hr_2 (iv_k (by decide) : iv 0 0 0) (by decide)
    exact hj34 sg_1 (KS_up KS_rf esg_1 (by decide)) hI_sg_1 (Or.inl (fun q8 => by { have q2 := zCls_g (a := a); rw [← fr_2] at q2; have w2 : r_2 = 1 ↔ r_2.toInt = 1 := ⟨fun q => by rw [q]; rfl, fun q => Int32.toInt_inj.mp q⟩; have v2 : r_2 = 0 ↔ r_2.toInt = 0 := ⟨fun q => by rw [q]; rfl, fun q => Int32.toInt_inj.mp q⟩; rw [w2, v2] at q2; have := i32_0; have := i32_1; have := i32_2; have := i32_m1; have := (h_4).1; have := (h_4).2; omega })) _ _ _ hP hD hS (lv_sub hl [0, 1, 2, 3, 4, 5] rfl)
  · have h_5 : iv 0 7 a := zCls_t (by rw [← fr_2]; exact c_3)
    have h_6 : iv 1 1 r_2 := iv_neL c_3 hr_2 (by decide)
    refine lv_iload_n hx hb dX13_constructor_12 rfl (lv_at hl 2 rfl) ?_
    refine lv_iload_n hx hb dX13_constructor_13 rfl (lv_at hl 3 rfl) ?_
    refine lv_iload hx hb dX13_constructor_14 (lv_at hl 4 rfl) ?_
    refine lv_iload hx hb dX13_constructor_16 (lv_at hl 5 rfl) ?_
    have hPc := hP.sub (ws' := []) [] rfl
    have hDc := hD.sub (ws' := []) [] (by decide) rfl
    have hKc := hK.sub (tys' := []) [] rfl
    have hFc := va_free (wc := []) hD hS hA [] rfl
    refine va_calli (va_runS (As := [.int b, .int f, .int g, .int k]) (rest := []) ⟨hx, hb, hml, hown, htb⟩ (c_X13_areTypes l dC dI H.size b f g k) (va_cwS 4 htb (gd_S kw_1113 kw_1114 kw_160 kw_1569) rfl rfl rfl (by decide +kernel) ⟨Nat.le_of_ble_eq_true rfl, Nat.le_of_ble_eq_true rfl⟩) ⟨fun a U g mk q => by obtain ⟨q0, q1, qP, qK, qD⟩ := q; exact ⟨q0, q1, qP, va_K.moved (u := U) (U := U.calling g mk a) (Vm.Alike.refl U.vm) qK, qD⟩, fun U hU hW => ⟨rfl, by rw [hU], by rw [hU]; exact hPc, va_K.moved hW.alike hKc, hDc.weaken (fun _ _ _ _ => trivial)⟩⟩ rfl rfl hl.1 rfl (lv_room (Nat.le_of_ble_eq_true rfl)) dX13_constructor_18 ⟨Nat.zero_le _, Nat.zero_le _⟩) hS (fun q _ h => hFc q h) hFc (fun r_7 u9 t H1 locs ht hvm hw hB hz1 hk1 hS => ?_)
    have hP := ms_kept hP hz1 hk1
    generalize H1 = H at hP hS ⊢
    have fr_7 : r_7 = zTys b f g k := hw
    have hr_7 : iv 0 1 r_7 := iv_of fr_7 (zTys_iv b f g k)
    refine lv_if_eq (tgt := 34) hx hb dX13_constructor_21 (by decide) (fun c_8 => ?_) (fun c_8 => ?_)
    · have h_9 : iv 0 0 r_7 := iv_eq c_8 hr_7 (iv_k (by decide) : iv 0 0 0) (by decide)
      exact hj34 sg_1 (KS_up KS_rf esg_1 (by decide)) hI_sg_1 (Or.inl (fun q8 => by { have q2 := zCls_g (a := a); rw [← fr_2] at q2; have q7 := zTys_f (n := b) (a := f) (b := g) (c := k); rw [← fr_7] at q7; have w2 : r_2 = 1 ↔ r_2.toInt = 1 := ⟨fun q => by rw [q]; rfl, fun q => Int32.toInt_inj.mp q⟩; have v2 : r_2 = 0 ↔ r_2.toInt = 0 := ⟨fun q => by rw [q]; rfl, fun q => Int32.toInt_inj.mp q⟩; rw [w2, v2] at q2; have w7 : r_7 = 1 ↔ r_7.toInt = 1 := ⟨fun q => by rw [q]; rfl, fun q => Int32.toInt_inj.mp q⟩; have v7 : r_7 = 0 ↔ r_7.toInt = 0 := ⟨fun q => by rw [q]; rfl, fun q => Int32.toInt_inj.mp q⟩; rw [w7, v7] at q7; have := i32_0; have := i32_1; have := i32_2; have := i32_m1; have := (h_6).1; have := (h_6).2; have := (h_5).1; have := (h_5).2; have := (h_9).1; have := (h_9).2; omega })) _ _ _ hP hD hS (lv_sub hl [0, 1, 2, 3, 4, 5] rfl)
    · have h_10 : iv 0 3 b := zTys_t (by rw [← fr_7]; exact c_8)
      have h_11 : iv 1 1 r_7 := iv_neL c_8 hr_7 (by decide)
      refine lv_aload_n hx hb dX13_constructor_24 rfl (lv_at hl 0 rfl) ?_
      refine mr_get (v := .ref (ad 7)) hx hb htb inX13 hown hK hP 7 (by decide) (htb _ kw_1034) rfl dX13_constructor_25 ?_
      refine lv_iload_n hx hb dX13_constructor_28 rfl (lv_at hl 1 rfl) ?_
      refine mr_iald hx hb hK hP 6 (k := 7) rfl rfl rfl (show vp_in a 8 from (iv_in h_5 (by decide))) dX13_constructor_29 ?_
      refine lv_topi (fun z_12 ez_12 => ?_)
      have hz_12 : iv 0 4 z_12 := iv_of ez_12 (MI_a hI_sg_1 7 h_5 (by decide))
      refine lv_iconst (v := 4) hx hb dX13_constructor_30 (by decide) ?_
      refine lv_icmp_ne (tgt := 36) hx hb dX13_constructor_31 (by decide) (fun c_13 => ?_) (fun c_13 => ?_)
      · have h_14 : iv 0 3 z_12 := iv_neH c_13 hz_12 (by decide)
        refine lv_iconst (v := 4) hx hb dX13_constructor_36 (by decide) ?_
        refine lv_iload_n hx hb dX13_constructor_37 rfl (lv_at hl 1 rfl) ?_
        refine lv_imul hx hb dX13_constructor_38 ?_
        refine lv_topi (fun z_15 ez_15 => ?_)
        have hz_15 : iv 0 28 z_15 := iv_of ez_15 (iv_mul (iv_k (by decide) : iv 4 4 4) h_5 (by decide))
        have tz_15 : z_15.toInt = 4 * (a : Int32).toInt := by rw [ez_15]; exact iv_mulE (iv_k (by decide) : iv 4 4 4) h_5 (by decide)
        refine lv_aload_n hx hb dX13_constructor_39 rfl (lv_at hl 0 rfl) ?_
        refine mr_get (v := .ref (ad 7)) hx hb htb inX13 hown hK hP 7 (by decide) (htb _ kw_1034) rfl dX13_constructor_40 ?_
        refine lv_iload_n hx hb dX13_constructor_43 rfl (lv_at hl 1 rfl) ?_
        refine mr_iald hx hb hK hP 6 (k := 7) rfl rfl rfl (show vp_in a 8 from (iv_in h_5 (by decide))) dX13_constructor_44 ?_
        refine lv_topi (fun z_16 ez_16 => ?_)
        obtain rfl : z_12 = z_16 := ez_12.trans ez_16.symm
        refine lv_iadd hx hb dX13_constructor_45 ?_
        refine lv_topi (fun z_17 ez_17 => ?_)
        have hz_17 : iv 0 31 z_17 := iv_of ez_17 (iv_add hz_15 h_14 (by decide))
        have tz_17 : z_17.toInt = (z_15 : Int32).toInt + (z_12 : Int32).toInt := by rw [ez_17]; exact iv_addE hz_15 h_14 (by decide)
        refine lv_istore (lv' := [(6, .int z_17), (0, .ref h0), (1, .int a), (2, .int b), (3, .int f), (4, .int g), (5, .int k)]) hx hb dX13_constructor_46 hl (by decide) rfl (fun ls hl => ?_)
        refine lv_aload_n hx hb dX13_constructor_48 rfl (lv_at hl 1 rfl) ?_
        refine mr_get (v := .ref (ad 8)) hx hb htb inX13 hown hK hP 8 (by decide) (htb _ kw_1035) rfl dX13_constructor_49 ?_
        refine lv_iload hx hb dX13_constructor_52 (lv_at hl 0 rfl) ?_
        refine lv_iload_n hx hb dX13_constructor_54 rfl (lv_at hl 3 rfl) ?_
        refine ma_iast (x := b) hx hb hK hP hD hS 7 (k := 8) rfl rfl rfl (show vp_in z_17 32 from (iv_in hz_17 (by decide))) dX13_constructor_55 (fun gm_18 H locs egm_18 hP hD hS => ?_)
        have hI_gm_18 := MI_st hI_sg_1 egm_18 h_10 (by decide)
        refine lv_aload_n hx hb dX13_constructor_56 rfl (lv_at hl 1 rfl) ?_
        refine mr_get (v := .ref (ad 9)) hx hb htb inX13 hown hK hP 9 (by decide) (htb _ kw_1036) rfl dX13_constructor_57 ?_
        refine lv_iconst (v := 3) hx hb dX13_constructor_60 (by decide) ?_
        refine lv_iload hx hb dX13_constructor_61 (lv_at hl 0 rfl) ?_
        refine lv_imul hx hb dX13_constructor_63 ?_
        refine lv_topi (fun z_19 ez_19 => ?_)
        have hz_19 : iv 0 93 z_19 := iv_of ez_19 (iv_mul (iv_k (by decide) : iv 3 3 3) hz_17 (by decide))
        have tz_19 : z_19.toInt = 3 * (z_17 : Int32).toInt := by rw [ez_19]; exact iv_mulE (iv_k (by decide) : iv 3 3 3) hz_17 (by decide)
        refine lv_iload_n hx hb dX13_constructor_64 rfl (lv_at hl 4 rfl) ?_
        refine ma_iast (x := f) hx hb hK hP hD hS 8 (k := 9) rfl rfl rfl (show vp_in z_19 96 from (iv_in hz_19 (by decide))) dX13_constructor_65 (fun gm_20 H locs egm_20 hP hD hS => ?_)
        have hI_gm_20 := MI_st hI_gm_18 egm_20 (iv_all f) (by decide)
        refine lv_aload_n hx hb dX13_constructor_66 rfl (lv_at hl 1 rfl) ?_
        refine mr_get (v := .ref (ad 9)) hx hb htb inX13 hown hK hP 9 (by decide) (htb _ kw_1036) rfl dX13_constructor_67 ?_
        refine lv_iconst (v := 3) hx hb dX13_constructor_70 (by decide) ?_
        refine lv_iload hx hb dX13_constructor_71 (lv_at hl 0 rfl) ?_
        refine lv_imul hx hb dX13_constructor_73 ?_
        refine lv_topi (fun z_21 ez_21 => ?_)
        obtain rfl : z_19 = z_21 := ez_19.trans ez_21.symm
        refine lv_iconst (v := 1) hx hb dX13_constructor_74 (by decide) ?_
        refine lv_iadd hx hb dX13_constructor_75 ?_
        refine lv_topi (fun z_22 ez_22 => ?_)
        have hz_22 : iv 1 94 z_22 := iv_of ez_22 (iv_add hz_19 (iv_k (by decide) : iv 1 1 1) (by decide))
        have tz_22 : z_22.toInt = (z_19 : Int32).toInt + 1 := by rw [ez_22]; exact iv_addE hz_19 (iv_k (by decide) : iv 1 1 1) (by decide)
        refine lv_iload hx hb dX13_constructor_76 (lv_at hl 5 rfl) ?_
        refine ma_iast (x := g) hx hb hK hP hD hS 8 (k := 9) rfl rfl rfl (show vp_in z_22 96 from (iv_in hz_22 (by decide))) dX13_constructor_78 (fun gm_23 H locs egm_23 hP hD hS => ?_)
        have hI_gm_23 := MI_st hI_gm_20 egm_23 (iv_all g) (by decide)
        refine lv_aload_n hx hb dX13_constructor_79 rfl (lv_at hl 1 rfl) ?_
        refine mr_get (v := .ref (ad 9)) hx hb htb inX13 hown hK hP 9 (by decide) (htb _ kw_1036) rfl dX13_constructor_80 ?_
        refine lv_iconst (v := 3) hx hb dX13_constructor_83 (by decide) ?_
        refine lv_iload hx hb dX13_constructor_84 (lv_at hl 0 rfl) ?_
        refine lv_imul hx hb dX13_constructor_86 ?_
        refine lv_topi (fun z_24 ez_24 => ?_)
        obtain rfl : z_19 = z_24 := ez_19.trans ez_24.symm
        refine lv_iconst (v := 2) hx hb dX13_constructor_87 (by decide) ?_
        refine lv_iadd hx hb dX13_constructor_88 ?_
        refine lv_topi (fun z_25 ez_25 => ?_)
        have hz_25 : iv 2 95 z_25 := iv_of ez_25 (iv_add hz_19 (iv_k (by decide) : iv 2 2 2) (by decide))
        have tz_25 : z_25.toInt = (z_19 : Int32).toInt + 2 := by rw [ez_25]; exact iv_addE hz_19 (iv_k (by decide) : iv 2 2 2) (by decide)
        refine lv_iload hx hb dX13_constructor_89 (lv_at hl 6 rfl) ?_
        refine ma_iast (x := k) hx hb hK hP hD hS 8 (k := 9) rfl rfl rfl (show vp_in z_25 96 from (iv_in hz_25 (by decide))) dX13_constructor_91 (fun gm_26 H locs egm_26 hP hD hS => ?_)
        have hI_gm_26 := MI_st hI_gm_23 egm_26 (iv_all k) (by decide)
        refine lv_aload_n hx hb dX13_constructor_92 rfl (lv_at hl 1 rfl) ?_
        refine mr_get (v := .ref (ad 7)) hx hb htb inX13 hown hK hP 7 (by decide) (htb _ kw_1034) rfl dX13_constructor_93 ?_
        refine lv_iload_n hx hb dX13_constructor_96 rfl (lv_at hl 2 rfl) ?_
        refine lv_dup2_11 hx hb dX13_constructor_97 rfl rfl ?_
        refine mr_iald hx hb hK hP 6 (k := 7) rfl rfl rfl (show vp_in a 8 from (iv_in h_5 (by decide))) dX13_constructor_98 ?_
        refine lv_topi (fun z_27 ez_27 => ?_)
        obtain rfl : z_12 = z_27 := ez_12.trans (ez_27.trans (congrFun (Eq.trans (Eq.trans (Eq.trans (up_ne egm_26 (by decide)) (up_ne egm_23 (by decide))) (up_ne egm_20 (by decide))) (up_ne egm_18 (by decide))) _)).symm
        refine lv_iconst (v := 1) hx hb dX13_constructor_99 (by decide) ?_
        refine lv_iadd hx hb dX13_constructor_100 ?_
        refine lv_topi (fun z_28 ez_28 => ?_)
        have hz_28 : iv 1 4 z_28 := iv_of ez_28 (iv_add h_14 (iv_k (by decide) : iv 1 1 1) (by decide))
        have tz_28 : z_28.toInt = (z_12 : Int32).toInt + 1 := by rw [ez_28]; exact iv_addE h_14 (iv_k (by decide) : iv 1 1 1) (by decide)
        refine ma_iast (x := z_28) hx hb hK hP hD hS 6 (k := 7) rfl rfl rfl (show vp_in a 8 from (iv_in h_5 (by decide))) dX13_constructor_101 (fun gm_29 H locs egm_29 hP hD hS => ?_)
        have hI_gm_29 := MI_st hI_gm_26 egm_29 hz_28 (by decide)
        refine lv_iconst (v := 1) hx hb dX13_constructor_102 (by decide) ?_
        exact W.zret (v := 1) hx hb hr (iv_nb (iv_w (iv_k (by decide) : iv 1 1 1) (by decide))) (fun t ht hW => ⟨⟨1, (sg_1, gm_29, lg), rfl, ⟨sg_1, gm_29, lg, rfl, hI_gm_29, (KS_up KS_rf esg_1 (by decide)), (KS_up (KS_up (KS_up (KS_up (KS_up KS_rf egm_18 (by decide)) egm_20 (by decide)) egm_23 (by decide)) egm_26 (by decide)) egm_29 (by decide)), KS_rf, (iv_w (iv_k (by decide) : iv 1 1 1) (by decide)), (Or.inl ⟨rfl, by { have q2 := zCls_g (a := a); rw [← fr_2] at q2; have q7 := zTys_f (n := b) (a := f) (b := g) (c := k); rw [← fr_7] at q7; have w2 : r_2 = 1 ↔ r_2.toInt = 1 := ⟨fun q => by rw [q]; rfl, fun q => Int32.toInt_inj.mp q⟩; have v2 : r_2 = 0 ↔ r_2.toInt = 0 := ⟨fun q => by rw [q]; rfl, fun q => Int32.toInt_inj.mp q⟩; rw [w2, v2] at q2; have w7 : r_7 = 1 ↔ r_7.toInt = 1 := ⟨fun q => by rw [q]; rfl, fun q => Int32.toInt_inj.mp q⟩; have v7 : r_7 = 0 ↔ r_7.toInt = 0 := ⟨fun q => by rw [q]; rfl, fun q => Int32.toInt_inj.mp q⟩; rw [w7, v7] at q7; have := i32_0; have := i32_1; have := i32_2; have := i32_m1; have := (h_6).1; have := (h_6).2; have := (h_5).1; have := (h_5).2; have := (h_11).1; have := (h_11).2; have := (h_10).1; have := (h_10).2; have := (h_14).1; have := (h_14).2; have := (hz_15).1; have := (hz_15).2; have := (hz_17).1; have := (hz_17).2; have := (hz_19).1; have := (hz_19).2; have := (hz_22).1; have := (hz_22).2; have := (hz_25).1; have := (hz_25).2; have := (hz_28).1; have := (hz_28).2; omega }, (by { rw [← ez_12]; have := i32_0; have := i32_1; have := i32_2; have := i32_m1; have := (h_6).1; have := (h_6).2; have := (h_5).1; have := (h_5).2; have := (h_11).1; have := (h_11).2; have := (h_10).1; have := (h_10).2; have := (h_14).1; have := (h_14).2; have := (hz_15).1; have := (hz_15).2; have := (hz_17).1; have := (hz_17).2; have := (hz_19).1; have := (hz_19).2; have := (hz_22).1; have := (hz_22).2; have := (hz_25).1; have := (hz_25).2; have := (hz_28).1; have := (hz_28).2; omega }), ⟨_, (by { rw [← ez_12]; have := i32_0; have := i32_1; have := i32_2; have := i32_m1; have := (h_6).1; have := (h_6).2; have := (h_5).1; have := (h_5).2; have := (h_11).1; have := (h_11).2; have := (h_10).1; have := (h_10).2; have := (h_14).1; have := (h_14).2; have := (hz_15).1; have := (hz_15).2; have := (hz_17).1; have := (hz_17).2; have := (hz_19).1; have := (hz_19).2; have := (hz_22).1; have := (hz_22).2; have := (hz_25).1; have := (hz_25).2; have := (hz_28).1; have := (hz_28).2; omega }), (show gm_29 7 = upd (gm 7) (a : Int32).toNatClampNeg z_28 from ((up_at egm_29).trans (by rw [show gm_26 7 = gm 7 from ((up_ne egm_26 (by decide)).trans ((up_ne egm_23 (by decide)).trans ((up_ne egm_20 (by decide)).trans ((up_ne egm_18 (by decide)).trans rfl))))])))⟩, (by rw [← ez_12, show 4 * a.toNatClampNeg + z_12.toNatClampNeg = z_17.toNatClampNeg from (by { have k0 : a.toNatClampNeg = a.toInt.toNat := rfl; have k1 : z_12.toNatClampNeg = z_12.toInt.toNat := rfl; have k2 : z_17.toNatClampNeg = z_17.toInt.toNat := rfl; have := i32_0; have := i32_1; have := i32_2; have := i32_m1; have := (h_6).1; have := (h_6).2; have := (h_5).1; have := (h_5).2; have := (h_11).1; have := (h_11).2; have := (h_10).1; have := (h_10).2; have := (h_14).1; have := (h_14).2; have := (hz_15).1; have := (hz_15).2; have := (hz_17).1; have := (hz_17).2; have := (hz_19).1; have := (hz_19).2; have := (hz_22).1; have := (hz_22).2; have := (hz_25).1; have := (hz_25).2; have := (hz_28).1; have := (hz_28).2; omega })]; exact (show gm_29 8 = upd (gm 8) (z_17 : Int32).toNatClampNeg b from ((up_ne egm_29 (by decide)).trans ((up_ne egm_26 (by decide)).trans ((up_ne egm_23 (by decide)).trans ((up_ne egm_20 (by decide)).trans ((up_at egm_18).trans (by rw [show gm 8 = gm 8 from rfl])))))))), (by rw [← ez_12, show 3 * (4 * a.toNatClampNeg + z_12.toNatClampNeg) + 2 = z_25.toNatClampNeg from (by { have k0 : a.toNatClampNeg = a.toInt.toNat := rfl; have k1 : z_12.toNatClampNeg = z_12.toInt.toNat := rfl; have k2 : z_25.toNatClampNeg = z_25.toInt.toNat := rfl; have := i32_0; have := i32_1; have := i32_2; have := i32_m1; have := (h_6).1; have := (h_6).2; have := (h_5).1; have := (h_5).2; have := (h_11).1; have := (h_11).2; have := (h_10).1; have := (h_10).2; have := (h_14).1; have := (h_14).2; have := (hz_15).1; have := (hz_15).2; have := (hz_17).1; have := (hz_17).2; have := (hz_19).1; have := (hz_19).2; have := (hz_22).1; have := (hz_22).2; have := (hz_25).1; have := (hz_25).2; have := (hz_28).1; have := (hz_28).2; omega }), show 3 * (4 * a.toNatClampNeg + z_12.toNatClampNeg) + 1 = z_22.toNatClampNeg from (by { have k0 : a.toNatClampNeg = a.toInt.toNat := rfl; have k1 : z_12.toNatClampNeg = z_12.toInt.toNat := rfl; have k2 : z_22.toNatClampNeg = z_22.toInt.toNat := rfl; have := i32_0; have := i32_1; have := i32_2; have := i32_m1; have := (h_6).1; have := (h_6).2; have := (h_5).1; have := (h_5).2; have := (h_11).1; have := (h_11).2; have := (h_10).1; have := (h_10).2; have := (h_14).1; have := (h_14).2; have := (hz_15).1; have := (hz_15).2; have := (hz_17).1; have := (hz_17).2; have := (hz_19).1; have := (hz_19).2; have := (hz_22).1; have := (hz_22).2; have := (hz_25).1; have := (hz_25).2; have := (hz_28).1; have := (hz_28).2; omega }), show 3 * (4 * a.toNatClampNeg + z_12.toNatClampNeg) = z_19.toNatClampNeg from (by { have k0 : a.toNatClampNeg = a.toInt.toNat := rfl; have k1 : z_12.toNatClampNeg = z_12.toInt.toNat := rfl; have k2 : z_19.toNatClampNeg = z_19.toInt.toNat := rfl; have := i32_0; have := i32_1; have := i32_2; have := i32_m1; have := (h_6).1; have := (h_6).2; have := (h_5).1; have := (h_5).2; have := (h_11).1; have := (h_11).2; have := (h_10).1; have := (h_10).2; have := (h_14).1; have := (h_14).2; have := (hz_15).1; have := (hz_15).2; have := (hz_17).1; have := (hz_17).2; have := (hz_19).1; have := (hz_19).2; have := (hz_22).1; have := (hz_22).2; have := (hz_25).1; have := (hz_25).2; have := (hz_28).1; have := (hz_28).2; omega })]; exact (show gm_29 9 = upd (upd (upd (gm 9) (z_19 : Int32).toNatClampNeg f) (z_22 : Int32).toNatClampNeg g) (z_25 : Int32).toNatClampNeg k from ((up_ne egm_29 (by decide)).trans ((up_at egm_26).trans (by rw [show gm_23 9 = upd (upd (gm 9) (z_19 : Int32).toNatClampNeg f) (z_22 : Int32).toNatClampNeg g from ((up_at egm_23).trans (by rw [show gm_20 9 = upd (gm 9) (z_19 : Int32).toNatClampNeg f from ((up_at egm_20).trans (by rw [show gm_18 9 = gm 9 from ((up_ne egm_18 (by decide)).trans rfl)]))]))])))))⟩)⟩, by rw [ht]; exact hP, va_K.moved hW.alike hK, hD⟩, hS.F ht⟩) hS.2.2 dX13_constructor_103
      · have h_30 : iv 4 4 z_12 := iv_eq c_13 hz_12 (iv_k (by decide) : iv 4 4 4) (by decide)
        exact hj34 sg_1 (KS_up KS_rf esg_1 (by decide)) hI_sg_1 (Or.inr (by { rw [← ez_12]; have := i32_0; have := i32_1; have := i32_2; have := i32_m1; have := (h_6).1; have := (h_6).2; have := (h_5).1; have := (h_5).2; have := (h_11).1; have := (h_11).2; have := (h_10).1; have := (h_10).2; have := (h_30).1; have := (h_30).2; omega })) _ _ _ hP hD hS (lv_sub hl [0, 1, 2, 3, 4, 5] rfl)

set_option maxHeartbeats 4000000 in
set_option maxRecDepth 100000 in
theorem a_factory9 (l : Launch) (dC : Nat → ClassId) (dI : Nat → Nat → Nat) (h0 : Nat) (ad : Nat → Nat) (cid : Nat → ClassId) (sg : Nat → Int32) (gm : Nat → Nat → Int32) (lg : Nat → Nat → Int64) (a : Int32) (b : Int32) (z : Int32) (f : Int32) (g : Int32) (k : Int32) (n1 : Int32) (n2 : Int32) (hI : MI sg gm) (hvz : iv 0 1 z) : MMi l dC dI yX13_factory wm_X13_factory ({ frames := 2, cells := 0, slots := 0, locals := 43 }) h0 ad cid [.int a, .int b, .int z, .int f, .int g, .int k, .int n1, .int n2] sg gm lg (fun r v => ∃ (sg2 : Nat → Int32) (gm2 : Nat → Nat → Int32) (lg2 : Nat → Nat → Int64), v = (sg2, gm2, lg2) ∧ MI sg2 gm2 ∧ KS [5] sg sg2 ∧ KS [13, 14, 15, 16, 17, 18] gm gm2 ∧ KS [] lg lg2 ∧ (iv 0 1 r) ∧ (RAF (0 ≤ a.toInt ∧ a.toInt ≤ 7 ∧ 0 ≤ b.toInt ∧ b.toInt ≤ 25 ∧ 0 ≤ f.toInt ∧ f.toInt ≤ 7 ∧ 0 ≤ g.toInt ∧ g.toInt ≤ 3 ∧ (1 ≤ g.toInt → (0 ≤ k.toInt ∧ k.toInt ≤ 4 ∨ 8 ≤ k.toInt ∧ k.toInt ≤ 15)) ∧ (2 ≤ g.toInt → (0 ≤ n1.toInt ∧ n1.toInt ≤ 4 ∨ 8 ≤ n1.toInt ∧ n1.toInt ≤ 15)) ∧ (3 ≤ g.toInt → (0 ≤ n2.toInt ∧ n2.toInt ≤ 4 ∨ 8 ≤ n2.toInt ∧ n2.toInt ≤ 15))) r a.toNatClampNeg gm gm2 b z f g k n1 n2)) := by
  intro sz
  refine Met.ofW (cc := cX13_factory) (maxL := 10) (ret := (some .boolean)) (by decide) rfl ?_
  intro p e s m args below meth c s₁ B hml hv
  obtain ⟨rfl, hsz, hP, hK, hD0⟩ := hv
  have hx := B.exec
  have hb := B.bytes
  have hr := B.returns
  have hts := atoms_spec (ws := wm_X13_factory) B.pre
  have htb := fun (w : Cond) (h : w ∈ tb) => hts w (List.mem_cons_of_mem _ h)
  have hown : s.vm.findClass RX13 = some m.cls := findClass_of_methodNamed B.named
  have hlocks := B.notSynchronized
  subst hsz
  have hD := hD0.self (sz := s.heap.size)
  generalize hAe : va_A (mW h0 ad cid sg gm lg) s.heap.size = A at hD ⊢
  have hA : ∀ q : Nat, s.heap.size ≤ q → A q := fun q h => by rw [← hAe]; exact Or.inr h
  have hS : va_S A s.heap s.heap [] := va_S.rf
  have hl := lv_entry ([.ref h0, .int a, .int b, .int z, .int f, .int g, .int k, .int n1, .int n2]) (n := 10) (Nat.le_of_ble_eq_true rfl)
  rw [lg_entry_eq]
  generalize (lg_sl ([.ref h0, .int a, .int b, .int z, .int f, .int g, .int k, .int n1, .int n2]) ++ List.replicate (10 - (lg_sl ([.ref h0, .int a, .int b, .int z, .int f, .int g, .int k, .int n1, .int n2])).length) Slot.unset).toArray = ls at hl ⊢
  have hl : lv_has ls 10 [(0, .ref h0), (1, .int a), (2, .int b), (3, .int z), (4, .int f), (5, .int g), (6, .int k), (7, .int n1), (8, .int n2)] := hl
  have hj51 : ∀ (sg_j51 : Nat → Int32) (_ : iv 0 1 z) (_ : KS [5] sg sg_j51) (_ : MI sg_j51 gm) (_ : ¬ (0 ≤ a.toInt ∧ a.toInt ≤ 7 ∧ 0 ≤ b.toInt ∧ b.toInt ≤ 25 ∧ 0 ≤ f.toInt ∧ f.toInt ≤ 7 ∧ 0 ≤ g.toInt ∧ g.toInt ≤ 3 ∧ (1 ≤ g.toInt → (0 ≤ k.toInt ∧ k.toInt ≤ 4 ∨ 8 ≤ k.toInt ∧ k.toInt ≤ 15)) ∧ (2 ≤ g.toInt → (0 ≤ n1.toInt ∧ n1.toInt ≤ 4 ∨ 8 ≤ n1.toInt ∧ n1.toInt ≤ 15)) ∧ (3 ≤ g.toInt → (0 ≤ n2.toInt ∧ n2.toInt ≤ 4 ∨ 8 ≤ n2.toInt ∧ n2.toInt ≤ 15))) ∨ 4 ≤ (gm 13 a.toNatClampNeg).toInt) (H : Heap) (locs : List Loc) (ls : Array Slot), va_P (dC, dI) vwCl (mW h0 ad cid sg_j51 gm lg) H → va_D A (mW h0 ad cid sg_j51 gm lg) → va_S A s.heap H locs → lv_has ls 10 [(0, .ref h0), (1, .int a), (2, .int b), (3, .int z), (4, .int f), (5, .int g), (6, .int k), (7, .int n1), (8, .int n2)] → W p l e (headSpec wm_X13_factory ({ frames := 2, cells := 0, slots := 0, locals := 43 })).room s m ([.ref h0, .int a, .int b, .int z, .int f, .int g, .int k, .int n1, .int n2] : List Value).toArray below meth c H locs 0 0 (MQ below (va_Qi (fun r v => ∃ (sg2 : Nat → Int32) (gm2 : Nat → Nat → Int32) (lg2 : Nat → Nat → Int64), v = (sg2, gm2, lg2) ∧ MI sg2 gm2 ∧ KS [5] sg sg2 ∧ KS [13, 14, 15, 16, 17, 18] gm gm2 ∧ KS [] lg lg2 ∧ (iv 0 1 r) ∧ (RAF (0 ≤ a.toInt ∧ a.toInt ≤ 7 ∧ 0 ≤ b.toInt ∧ b.toInt ≤ 25 ∧ 0 ≤ f.toInt ∧ f.toInt ≤ 7 ∧ 0 ≤ g.toInt ∧ g.toInt ≤ 3 ∧ (1 ≤ g.toInt → (0 ≤ k.toInt ∧ k.toInt ≤ 4 ∨ 8 ≤ k.toInt ∧ k.toInt ≤ 15)) ∧ (2 ≤ g.toInt → (0 ≤ n1.toInt ∧ n1.toInt ≤ 4 ∨ 8 ≤ n1.toInt ∧ n1.toInt ≤ 15)) ∧ (3 ≤ g.toInt → (0 ≤ n2.toInt ∧ n2.toInt ≤ 4 ∨ 8 ≤ n2.toInt ∧ n2.toInt ≤ 15))) r a.toNatClampNeg gm gm2 b z f g k n1 n2)) (MB dC dI h0 ad cid A) A) ([.ref h0, .int a, .int b, .int z, .int f, .int g, .int k, .int n1, .int n2] : List Value).toArray s 0 0 A) (F0 m 51 ls []) := by
    intro sg_j51 hsx3_51 hks_j51 hI_j51 hno H locs ls hP hD hS hl
    refine lv_iconst (v := 0) hx hb dX13_factory_51 (by decide) ?_
    exact W.zret (v := 0) hx hb hr (iv_nb (iv_w (iv_k (by decide) : iv 0 0 0) (by decide))) (fun t ht hW => ⟨⟨0, (sg_j51, gm, lg), rfl, ⟨sg_j51, gm, lg, rfl, hI_j51, (KS_tr (L := [5]) KS_rf hks_j51 (by decide)), KS_rf, KS_rf, (iv_w (iv_k (by decide) : iv 0 0 0) (by decide)), (Or.inr ⟨rfl, hno, (show gm 13 = gm 13 from rfl), (show gm 14 = gm 14 from rfl), (show gm 18 = gm 18 from rfl), (show gm 15 = gm 15 from rfl), (show gm 16 = gm 16 from rfl), (show gm 17 = gm 17 from rfl)⟩)⟩, by rw [ht]; exact hP, va_K.moved hW.alike hK, hD⟩, hS.F ht⟩) hS.2.2 dX13_factory_52
  refine lv_aload_n hx hb dX13_factory_0 rfl (lv_at hl 0 rfl) ?_
  refine lv_iconst (v := 0) hx hb dX13_factory_1 (by decide) ?_
  refine ma_put (x := 0) hx hb htb inX13 hown hK hP hD hS 5 (by decide) (by decide) (htb _ kw_1032) rfl rfl rfl dX13_factory_2 (fun sg_1 H locs esg_1 hP hD hS => ?_)
  have hI_sg_1 := MI_put hI esg_1 (iv_k (by decide) : iv 0 0 0) (by decide)
  refine lv_iload_n hx hb dX13_factory_5 rfl (lv_at hl 1 rfl) ?_
  have hPc := hP.sub (ws' := []) [] rfl
  have hDc := hD.sub (ws' := []) [] (by decide) rfl
  have hKc := hK.sub (tys' := []) [] rfl
  have hFc := va_free (wc := []) hD hS hA [] rfl
  refine va_calli (va_runS (As := [.int a]) (rest := []) ⟨hx, hb, hml, hown, htb⟩ (c_X13_isClass l dC dI H.size a) (va_cwS 1 htb (gd_S kw_1108 kw_1109 kw_160 kw_1567) rfl rfl rfl (by decide +kernel) ⟨Nat.le_of_ble_eq_true rfl, Nat.le_of_ble_eq_true rfl⟩) ⟨fun a U g mk q => by obtain ⟨q0, q1, qP, qK, qD⟩ := q; exact ⟨q0, q1, qP, va_K.moved (u := U) (U := U.calling g mk a) (Vm.Alike.refl U.vm) qK, qD⟩, fun U hU hW => ⟨rfl, by rw [hU], by rw [hU]; exact hPc, va_K.moved hW.alike hKc, hDc.weaken (fun _ _ _ _ => trivial)⟩⟩ rfl rfl hl.1 rfl (lv_room (Nat.le_of_ble_eq_true rfl)) dX13_factory_6 ⟨Nat.zero_le _, Nat.zero_le _⟩) hS (fun q _ h => hFc q h) hFc (fun r_2 u9 t H1 locs ht hvm hw hB hz1 hk1 hS => ?_)
  have hP := ms_kept hP hz1 hk1
  generalize H1 = H at hP hS ⊢
  have fr_2 : r_2 = zCls a := hw
  have hr_2 : iv 0 1 r_2 := iv_of fr_2 (zCls_iv a)
  refine lv_if_eq (tgt := 51) hx hb dX13_factory_9 (by decide) (fun c_3 => ?_) (fun c_3 => ?_)
  · have h_4 : iv 0 0 r_2 := iv_eq c_3 hr_2 (iv_k (by decide) : iv 0 0 0) (by decide)
    exact hj51 sg_1 hvz (KS_up KS_rf esg_1 (by decide)) hI_sg_1 (Or.inl (fun q8 => by { have q2 := zCls_g (a := a); rw [← fr_2] at q2; have w2 : r_2 = 1 ↔ r_2.toInt = 1 := ⟨fun q => by rw [q]; rfl, fun q => Int32.toInt_inj.mp q⟩; have v2 : r_2 = 0 ↔ r_2.toInt = 0 := ⟨fun q => by rw [q]; rfl, fun q => Int32.toInt_inj.mp q⟩; rw [w2, v2] at q2; have := i32_0; have := i32_1; have := i32_2; have := i32_m1; have := (hvz).1; have := (hvz).2; have := (h_4).1; have := (h_4).2; omega })) _ _ _ hP hD hS (lv_sub hl [0, 1, 2, 3, 4, 5, 6, 7, 8] rfl)
  · have h_5 : iv 0 7 a := zCls_t (by rw [← fr_2]; exact c_3)
    have h_6 : iv 1 1 r_2 := iv_neL c_3 hr_2 (by decide)
    refine lv_iload_n hx hb dX13_factory_12 rfl (lv_at hl 2 rfl) ?_
    have hPc := hP.sub (ws' := []) [] rfl
    have hDc := hD.sub (ws' := []) [] (by decide) rfl
    have hKc := hK.sub (tys' := []) [] rfl
    have hFc := va_free (wc := []) hD hS hA [] rfl
    refine va_calli (va_runS (As := [.int b]) (rest := []) ⟨hx, hb, hml, hown, htb⟩ (c_X13_isLetter l dC dI H.size b) (va_cwS 1 htb (gd_S kw_1120 kw_1121 kw_160 kw_1572) rfl rfl rfl (by decide +kernel) ⟨Nat.le_of_ble_eq_true rfl, Nat.le_of_ble_eq_true rfl⟩) ⟨fun a U g mk q => by obtain ⟨q0, q1, qP, qK, qD⟩ := q; exact ⟨q0, q1, qP, va_K.moved (u := U) (U := U.calling g mk a) (Vm.Alike.refl U.vm) qK, qD⟩, fun U hU hW => ⟨rfl, by rw [hU], by rw [hU]; exact hPc, va_K.moved hW.alike hKc, hDc.weaken (fun _ _ _ _ => trivial)⟩⟩ rfl rfl hl.1 rfl (lv_room (Nat.le_of_ble_eq_true rfl)) dX13_factory_13 ⟨Nat.zero_le _, Nat.zero_le _⟩) hS (fun q _ h => hFc q h) hFc (fun r_7 u9 t H1 locs ht hvm hw hB hz1 hk1 hS => ?_)
    have hP := ms_kept hP hz1 hk1
    generalize H1 = H at hP hS ⊢
    have fr_7 : r_7 = zLet b := hw
    have hr_7 : iv 0 1 r_7 := iv_of fr_7 (zLet_iv b)
    refine lv_if_eq (tgt := 51) hx hb dX13_factory_16 (by decide) (fun c_8 => ?_) (fun c_8 => ?_)
    · have h_9 : iv 0 0 r_7 := iv_eq c_8 hr_7 (iv_k (by decide) : iv 0 0 0) (by decide)
      exact hj51 sg_1 hvz (KS_up KS_rf esg_1 (by decide)) hI_sg_1 (Or.inl (fun q8 => by { have q2 := zCls_g (a := a); rw [← fr_2] at q2; have q7 := zLet_f (a := b); rw [← fr_7] at q7; have w2 : r_2 = 1 ↔ r_2.toInt = 1 := ⟨fun q => by rw [q]; rfl, fun q => Int32.toInt_inj.mp q⟩; have v2 : r_2 = 0 ↔ r_2.toInt = 0 := ⟨fun q => by rw [q]; rfl, fun q => Int32.toInt_inj.mp q⟩; rw [w2, v2] at q2; have w7 : r_7 = 1 ↔ r_7.toInt = 1 := ⟨fun q => by rw [q]; rfl, fun q => Int32.toInt_inj.mp q⟩; have v7 : r_7 = 0 ↔ r_7.toInt = 0 := ⟨fun q => by rw [q]; rfl, fun q => Int32.toInt_inj.mp q⟩; rw [w7, v7] at q7; have := i32_0; have := i32_1; have := i32_2; have := i32_m1; have := (hvz).1; have := (hvz).2; have := (h_6).1; have := (h_6).2; have := (h_5).1; have := (h_5).2; have := (h_9).1; have := (h_9).2; omega })) _ _ _ hP hD hS (lv_sub hl [0, 1, 2, 3, 4, 5, 6, 7, 8] rfl)
    · have h_10 : iv 0 25 b := zLet_t (by rw [← fr_7]; exact c_8)
      have h_11 : iv 1 1 r_7 := iv_neL c_8 hr_7 (by decide)
      refine lv_iload hx hb dX13_factory_19 (lv_at hl 4 rfl) ?_
      have hPc := hP.sub (ws' := []) [] rfl
      have hDc := hD.sub (ws' := []) [] (by decide) rfl
      have hKc := hK.sub (tys' := []) [] rfl
      have hFc := va_free (wc := []) hD hS hA [] rfl
      refine va_calli (va_runS (As := [.int f]) (rest := []) ⟨hx, hb, hml, hown, htb⟩ (c_X13_isClass l dC dI H.size f) (va_cwS 1 htb (gd_S kw_1108 kw_1109 kw_160 kw_1567) rfl rfl rfl (by decide +kernel) ⟨Nat.le_of_ble_eq_true rfl, Nat.le_of_ble_eq_true rfl⟩) ⟨fun a U g mk q => by obtain ⟨q0, q1, qP, qK, qD⟩ := q; exact ⟨q0, q1, qP, va_K.moved (u := U) (U := U.calling g mk a) (Vm.Alike.refl U.vm) qK, qD⟩, fun U hU hW => ⟨rfl, by rw [hU], by rw [hU]; exact hPc, va_K.moved hW.alike hKc, hDc.weaken (fun _ _ _ _ => trivial)⟩⟩ rfl rfl hl.1 rfl (lv_room (Nat.le_of_ble_eq_true rfl)) dX13_factory_21 ⟨Nat.zero_le _, Nat.zero_le _⟩) hS (fun q _ h => hFc q h) hFc (fun r_12 u9 t H1 locs ht hvm hw hB hz1 hk1 hS => ?_)
      have hP := ms_kept hP hz1 hk1
      generalize H1 = H at hP hS ⊢
      have fr_12 : r_12 = zCls f := hw
      have hr_12 : iv 0 1 r_12 := iv_of fr_12 (zCls_iv f)
      refine lv_if_eq (tgt := 51) hx hb dX13_factory_24 (by decide) (fun c_13 => ?_) (fun c_13 => ?_)
      · have h_14 : iv 0 0 r_12 := iv_eq c_13 hr_12 (iv_k (by decide) : iv 0 0 0) (by decide)
        exact hj51 sg_1 hvz (KS_up KS_rf esg_1 (by decide)) hI_sg_1 (Or.inl (fun q8 => by { have q2 := zCls_g (a := a); rw [← fr_2] at q2; have q7 := zLet_f (a := b); rw [← fr_7] at q7; have q12 := zCls_g (a := f); rw [← fr_12] at q12; have w12 : r_12 = 1 ↔ r_12.toInt = 1 := ⟨fun q => by rw [q]; rfl, fun q => Int32.toInt_inj.mp q⟩; have v12 : r_12 = 0 ↔ r_12.toInt = 0 := ⟨fun q => by rw [q]; rfl, fun q => Int32.toInt_inj.mp q⟩; rw [w12, v12] at q12; have w2 : r_2 = 1 ↔ r_2.toInt = 1 := ⟨fun q => by rw [q]; rfl, fun q => Int32.toInt_inj.mp q⟩; have v2 : r_2 = 0 ↔ r_2.toInt = 0 := ⟨fun q => by rw [q]; rfl, fun q => Int32.toInt_inj.mp q⟩; rw [w2, v2] at q2; have w7 : r_7 = 1 ↔ r_7.toInt = 1 := ⟨fun q => by rw [q]; rfl, fun q => Int32.toInt_inj.mp q⟩; have v7 : r_7 = 0 ↔ r_7.toInt = 0 := ⟨fun q => by rw [q]; rfl, fun q => Int32.toInt_inj.mp q⟩; rw [w7, v7] at q7; have := i32_0; have := i32_1; have := i32_2; have := i32_m1; have := (hvz).1; have := (hvz).2; have := (h_6).1; have := (h_6).2; have := (h_5).1; have := (h_5).2; have := (h_11).1; have := (h_11).2; have := (h_10).1; have := (h_10).2; have := (h_14).1; have := (h_14).2; omega })) _ _ _ hP hD hS (lv_sub hl [0, 1, 2, 3, 4, 5, 6, 7, 8] rfl)
      · have h_15 : iv 0 7 f := zCls_t (by rw [← fr_12]; exact c_13)
        have h_16 : iv 1 1 r_12 := iv_neL c_13 hr_12 (by decide)
        refine lv_iload hx hb dX13_factory_27 (lv_at hl 5 rfl) ?_
        refine lv_iload hx hb dX13_factory_29 (lv_at hl 6 rfl) ?_
        refine lv_iload hx hb dX13_factory_31 (lv_at hl 7 rfl) ?_
        refine lv_iload hx hb dX13_factory_33 (lv_at hl 8 rfl) ?_
        have hPc := hP.sub (ws' := []) [] rfl
        have hDc := hD.sub (ws' := []) [] (by decide) rfl
        have hKc := hK.sub (tys' := []) [] rfl
        have hFc := va_free (wc := []) hD hS hA [] rfl
        refine va_calli (va_runS (As := [.int g, .int k, .int n1, .int n2]) (rest := []) ⟨hx, hb, hml, hown, htb⟩ (c_X13_areTypes l dC dI H.size g k n1 n2) (va_cwS 4 htb (gd_S kw_1113 kw_1114 kw_160 kw_1569) rfl rfl rfl (by decide +kernel) ⟨Nat.le_of_ble_eq_true rfl, Nat.le_of_ble_eq_true rfl⟩) ⟨fun a U g mk q => by obtain ⟨q0, q1, qP, qK, qD⟩ := q; exact ⟨q0, q1, qP, va_K.moved (u := U) (U := U.calling g mk a) (Vm.Alike.refl U.vm) qK, qD⟩, fun U hU hW => ⟨rfl, by rw [hU], by rw [hU]; exact hPc, va_K.moved hW.alike hKc, hDc.weaken (fun _ _ _ _ => trivial)⟩⟩ rfl rfl hl.1 rfl (lv_room (Nat.le_of_ble_eq_true rfl)) dX13_factory_35 ⟨Nat.zero_le _, Nat.zero_le _⟩) hS (fun q _ h => hFc q h) hFc (fun r_17 u9 t H1 locs ht hvm hw hB hz1 hk1 hS => ?_)
        have hP := ms_kept hP hz1 hk1
        generalize H1 = H at hP hS ⊢
        have fr_17 : r_17 = zTys g k n1 n2 := hw
        have hr_17 : iv 0 1 r_17 := iv_of fr_17 (zTys_iv g k n1 n2)
        refine lv_if_eq (tgt := 51) hx hb dX13_factory_38 (by decide) (fun c_18 => ?_) (fun c_18 => ?_)
        · have h_19 : iv 0 0 r_17 := iv_eq c_18 hr_17 (iv_k (by decide) : iv 0 0 0) (by decide)
          exact hj51 sg_1 hvz (KS_up KS_rf esg_1 (by decide)) hI_sg_1 (Or.inl (fun q8 => by { have q2 := zCls_g (a := a); rw [← fr_2] at q2; have q7 := zLet_f (a := b); rw [← fr_7] at q7; have q12 := zCls_g (a := f); rw [← fr_12] at q12; have q17 := zTys_f (n := g) (a := k) (b := n1) (c := n2); rw [← fr_17] at q17; have w12 : r_12 = 1 ↔ r_12.toInt = 1 := ⟨fun q => by rw [q]; rfl, fun q => Int32.toInt_inj.mp q⟩; have v12 : r_12 = 0 ↔ r_12.toInt = 0 := ⟨fun q => by rw [q]; rfl, fun q => Int32.toInt_inj.mp q⟩; rw [w12, v12] at q12; have w17 : r_17 = 1 ↔ r_17.toInt = 1 := ⟨fun q => by rw [q]; rfl, fun q => Int32.toInt_inj.mp q⟩; have v17 : r_17 = 0 ↔ r_17.toInt = 0 := ⟨fun q => by rw [q]; rfl, fun q => Int32.toInt_inj.mp q⟩; rw [w17, v17] at q17; have w2 : r_2 = 1 ↔ r_2.toInt = 1 := ⟨fun q => by rw [q]; rfl, fun q => Int32.toInt_inj.mp q⟩; have v2 : r_2 = 0 ↔ r_2.toInt = 0 := ⟨fun q => by rw [q]; rfl, fun q => Int32.toInt_inj.mp q⟩; rw [w2, v2] at q2; have w7 : r_7 = 1 ↔ r_7.toInt = 1 := ⟨fun q => by rw [q]; rfl, fun q => Int32.toInt_inj.mp q⟩; have v7 : r_7 = 0 ↔ r_7.toInt = 0 := ⟨fun q => by rw [q]; rfl, fun q => Int32.toInt_inj.mp q⟩; rw [w7, v7] at q7; have := i32_0; have := i32_1; have := i32_2; have := i32_m1; have := (hvz).1; have := (hvz).2; have := (h_6).1; have := (h_6).2; have := (h_5).1; have := (h_5).2; have := (h_11).1; have := (h_11).2; have := (h_10).1; have := (h_10).2; have := (h_16).1; have := (h_16).2; have := (h_15).1; have := (h_15).2; have := (h_19).1; have := (h_19).2; omega })) _ _ _ hP hD hS (lv_sub hl [0, 1, 2, 3, 4, 5, 6, 7, 8] rfl)
        · have h_20 : iv 0 3 g := zTys_t (by rw [← fr_17]; exact c_18)
          have h_21 : iv 1 1 r_17 := iv_neL c_18 hr_17 (by decide)
          refine lv_aload_n hx hb dX13_factory_41 rfl (lv_at hl 0 rfl) ?_
          refine mr_get (v := .ref (ad 13)) hx hb htb inX13 hown hK hP 13 (by decide) (htb _ kw_1040) rfl dX13_factory_42 ?_
          refine lv_iload_n hx hb dX13_factory_45 rfl (lv_at hl 1 rfl) ?_
          refine mr_iald hx hb hK hP 12 (k := 13) rfl rfl rfl (show vp_in a 8 from (iv_in h_5 (by decide))) dX13_factory_46 ?_
          refine lv_topi (fun z_22 ez_22 => ?_)
          have hz_22 : iv 0 4 z_22 := iv_of ez_22 (MI_a hI_sg_1 13 h_5 (by decide))
          refine lv_iconst (v := 4) hx hb dX13_factory_47 (by decide) ?_
          refine lv_icmp_ne (tgt := 53) hx hb dX13_factory_48 (by decide) (fun c_23 => ?_) (fun c_23 => ?_)
          · have h_24 : iv 0 3 z_22 := iv_neH c_23 hz_22 (by decide)
            refine lv_iconst (v := 4) hx hb dX13_factory_53 (by decide) ?_
            refine lv_iload_n hx hb dX13_factory_54 rfl (lv_at hl 1 rfl) ?_
            refine lv_imul hx hb dX13_factory_55 ?_
            refine lv_topi (fun z_25 ez_25 => ?_)
            have hz_25 : iv 0 28 z_25 := iv_of ez_25 (iv_mul (iv_k (by decide) : iv 4 4 4) h_5 (by decide))
            have tz_25 : z_25.toInt = 4 * (a : Int32).toInt := by rw [ez_25]; exact iv_mulE (iv_k (by decide) : iv 4 4 4) h_5 (by decide)
            refine lv_aload_n hx hb dX13_factory_56 rfl (lv_at hl 0 rfl) ?_
            refine mr_get (v := .ref (ad 13)) hx hb htb inX13 hown hK hP 13 (by decide) (htb _ kw_1040) rfl dX13_factory_57 ?_
            refine lv_iload_n hx hb dX13_factory_60 rfl (lv_at hl 1 rfl) ?_
            refine mr_iald hx hb hK hP 12 (k := 13) rfl rfl rfl (show vp_in a 8 from (iv_in h_5 (by decide))) dX13_factory_61 ?_
            refine lv_topi (fun z_26 ez_26 => ?_)
            obtain rfl : z_22 = z_26 := ez_22.trans ez_26.symm
            refine lv_iadd hx hb dX13_factory_62 ?_
            refine lv_topi (fun z_27 ez_27 => ?_)
            have hz_27 : iv 0 31 z_27 := iv_of ez_27 (iv_add hz_25 h_24 (by decide))
            have tz_27 : z_27.toInt = (z_25 : Int32).toInt + (z_22 : Int32).toInt := by rw [ez_27]; exact iv_addE hz_25 h_24 (by decide)
            refine lv_istore (lv' := [(9, .int z_27), (0, .ref h0), (1, .int a), (2, .int b), (3, .int z), (4, .int f), (5, .int g), (6, .int k), (7, .int n1), (8, .int n2)]) hx hb dX13_factory_63 hl (by decide) rfl (fun ls hl => ?_)
            refine lv_aload_n hx hb dX13_factory_65 rfl (lv_at hl 1 rfl) ?_
            refine mr_get (v := .ref (ad 14)) hx hb htb inX13 hown hK hP 14 (by decide) (htb _ kw_1041) rfl dX13_factory_66 ?_
            refine lv_iload hx hb dX13_factory_69 (lv_at hl 0 rfl) ?_
            refine lv_iload_n hx hb dX13_factory_71 rfl (lv_at hl 3 rfl) ?_
            refine ma_iast (x := b) hx hb hK hP hD hS 13 (k := 14) rfl rfl rfl (show vp_in z_27 32 from (iv_in hz_27 (by decide))) dX13_factory_72 (fun gm_28 H locs egm_28 hP hD hS => ?_)
            have hI_gm_28 := MI_st hI_sg_1 egm_28 h_10 (by decide)
            refine lv_aload_n hx hb dX13_factory_73 rfl (lv_at hl 1 rfl) ?_
            refine mr_get (v := .ref (ad 18)) hx hb htb inX13 hown hK hP 18 (by decide) (htb _ kw_1045) rfl dX13_factory_74 ?_
            refine lv_iload hx hb dX13_factory_77 (lv_at hl 0 rfl) ?_
            refine lv_iload_n hx hb dX13_factory_79 rfl (lv_at hl 4 rfl) ?_
            refine ma_zast (x := z) hx hb hK hP hD hS 17 (k := 18) rfl rfl rfl (show vp_in z_27 32 from (iv_in hz_27 (by decide))) dX13_factory_80 (fun gm_29 H locs egm_29 hP hD hS => ?_)
            have hI_gm_29 := MI_st hI_gm_28 egm_29 (iv_of (iv_vb hvz) hvz) (by decide)
            refine lv_aload_n hx hb dX13_factory_81 rfl (lv_at hl 1 rfl) ?_
            refine mr_get (v := .ref (ad 15)) hx hb htb inX13 hown hK hP 15 (by decide) (htb _ kw_1042) rfl dX13_factory_82 ?_
            refine lv_iload hx hb dX13_factory_85 (lv_at hl 0 rfl) ?_
            refine lv_iload hx hb dX13_factory_87 (lv_at hl 5 rfl) ?_
            refine ma_iast (x := f) hx hb hK hP hD hS 14 (k := 15) rfl rfl rfl (show vp_in z_27 32 from (iv_in hz_27 (by decide))) dX13_factory_89 (fun gm_30 H locs egm_30 hP hD hS => ?_)
            have hI_gm_30 := MI_st hI_gm_29 egm_30 h_15 (by decide)
            refine lv_aload_n hx hb dX13_factory_90 rfl (lv_at hl 1 rfl) ?_
            refine mr_get (v := .ref (ad 16)) hx hb htb inX13 hown hK hP 16 (by decide) (htb _ kw_1043) rfl dX13_factory_91 ?_
            refine lv_iload hx hb dX13_factory_94 (lv_at hl 0 rfl) ?_
            refine lv_iload hx hb dX13_factory_96 (lv_at hl 6 rfl) ?_
            refine ma_iast (x := g) hx hb hK hP hD hS 15 (k := 16) rfl rfl rfl (show vp_in z_27 32 from (iv_in hz_27 (by decide))) dX13_factory_98 (fun gm_31 H locs egm_31 hP hD hS => ?_)
            have hI_gm_31 := MI_st hI_gm_30 egm_31 h_20 (by decide)
            refine lv_aload_n hx hb dX13_factory_99 rfl (lv_at hl 1 rfl) ?_
            refine mr_get (v := .ref (ad 17)) hx hb htb inX13 hown hK hP 17 (by decide) (htb _ kw_1044) rfl dX13_factory_100 ?_
            refine lv_iconst (v := 3) hx hb dX13_factory_103 (by decide) ?_
            refine lv_iload hx hb dX13_factory_104 (lv_at hl 0 rfl) ?_
            refine lv_imul hx hb dX13_factory_106 ?_
            refine lv_topi (fun z_32 ez_32 => ?_)
            have hz_32 : iv 0 93 z_32 := iv_of ez_32 (iv_mul (iv_k (by decide) : iv 3 3 3) hz_27 (by decide))
            have tz_32 : z_32.toInt = 3 * (z_27 : Int32).toInt := by rw [ez_32]; exact iv_mulE (iv_k (by decide) : iv 3 3 3) hz_27 (by decide)
            refine lv_iload hx hb dX13_factory_107 (lv_at hl 7 rfl) ?_
            refine ma_iast (x := k) hx hb hK hP hD hS 16 (k := 17) rfl rfl rfl (show vp_in z_32 96 from (iv_in hz_32 (by decide))) dX13_factory_109 (fun gm_33 H locs egm_33 hP hD hS => ?_)
            have hI_gm_33 := MI_st hI_gm_31 egm_33 (iv_all k) (by decide)
            refine lv_aload_n hx hb dX13_factory_110 rfl (lv_at hl 1 rfl) ?_
            refine mr_get (v := .ref (ad 17)) hx hb htb inX13 hown hK hP 17 (by decide) (htb _ kw_1044) rfl dX13_factory_111 ?_
            refine lv_iconst (v := 3) hx hb dX13_factory_114 (by decide) ?_
            refine lv_iload hx hb dX13_factory_115 (lv_at hl 0 rfl) ?_
            refine lv_imul hx hb dX13_factory_117 ?_
            refine lv_topi (fun z_34 ez_34 => ?_)
            obtain rfl : z_32 = z_34 := ez_32.trans ez_34.symm
            refine lv_iconst (v := 1) hx hb dX13_factory_118 (by decide) ?_
            refine lv_iadd hx hb dX13_factory_119 ?_
            refine lv_topi (fun z_35 ez_35 => ?_)
            have hz_35 : iv 1 94 z_35 := iv_of ez_35 (iv_add hz_32 (iv_k (by decide) : iv 1 1 1) (by decide))
            have tz_35 : z_35.toInt = (z_32 : Int32).toInt + 1 := by rw [ez_35]; exact iv_addE hz_32 (iv_k (by decide) : iv 1 1 1) (by decide)
            refine lv_iload hx hb dX13_factory_120 (lv_at hl 8 rfl) ?_
            refine ma_iast (x := n1) hx hb hK hP hD hS 16 (k := 17) rfl rfl rfl (show vp_in z_35 96 from (iv_in hz_35 (by decide))) dX13_factory_122 (fun gm_36 H locs egm_36 hP hD hS => ?_)
            have hI_gm_36 := MI_st hI_gm_33 egm_36 (iv_all n1) (by decide)
            refine lv_aload_n hx hb dX13_factory_123 rfl (lv_at hl 1 rfl) ?_
            refine mr_get (v := .ref (ad 17)) hx hb htb inX13 hown hK hP 17 (by decide) (htb _ kw_1044) rfl dX13_factory_124 ?_
            refine lv_iconst (v := 3) hx hb dX13_factory_127 (by decide) ?_
            refine lv_iload hx hb dX13_factory_128 (lv_at hl 0 rfl) ?_
            refine lv_imul hx hb dX13_factory_130 ?_
            refine lv_topi (fun z_37 ez_37 => ?_)
            obtain rfl : z_32 = z_37 := ez_32.trans ez_37.symm
            refine lv_iconst (v := 2) hx hb dX13_factory_131 (by decide) ?_
            refine lv_iadd hx hb dX13_factory_132 ?_
            refine lv_topi (fun z_38 ez_38 => ?_)
            have hz_38 : iv 2 95 z_38 := iv_of ez_38 (iv_add hz_32 (iv_k (by decide) : iv 2 2 2) (by decide))
            have tz_38 : z_38.toInt = (z_32 : Int32).toInt + 2 := by rw [ez_38]; exact iv_addE hz_32 (iv_k (by decide) : iv 2 2 2) (by decide)
            refine lv_iload hx hb dX13_factory_133 (lv_at hl 9 rfl) ?_
            refine ma_iast (x := n2) hx hb hK hP hD hS 16 (k := 17) rfl rfl rfl (show vp_in z_38 96 from (iv_in hz_38 (by decide))) dX13_factory_135 (fun gm_39 H locs egm_39 hP hD hS => ?_)
            have hI_gm_39 := MI_st hI_gm_36 egm_39 (iv_all n2) (by decide)
            refine lv_aload_n hx hb dX13_factory_136 rfl (lv_at hl 1 rfl) ?_
            refine mr_get (v := .ref (ad 13)) hx hb htb inX13 hown hK hP 13 (by decide) (htb _ kw_1040) rfl dX13_factory_137 ?_
            refine lv_iload_n hx hb dX13_factory_140 rfl (lv_at hl 2 rfl) ?_
            refine lv_dup2_11 hx hb dX13_factory_141 rfl rfl ?_
            refine mr_iald hx hb hK hP 12 (k := 13) rfl rfl rfl (show vp_in a 8 from (iv_in h_5 (by decide))) dX13_factory_142 ?_
            refine lv_topi (fun z_40 ez_40 => ?_)
            obtain rfl : z_22 = z_40 := ez_22.trans (ez_40.trans (congrFun (Eq.trans (Eq.trans (Eq.trans (Eq.trans (Eq.trans (Eq.trans (up_ne egm_39 (by decide)) (up_ne egm_36 (by decide))) (up_ne egm_33 (by decide))) (up_ne egm_31 (by decide))) (up_ne egm_30 (by decide))) (up_ne egm_29 (by decide))) (up_ne egm_28 (by decide))) _)).symm
            refine lv_iconst (v := 1) hx hb dX13_factory_143 (by decide) ?_
            refine lv_iadd hx hb dX13_factory_144 ?_
            refine lv_topi (fun z_41 ez_41 => ?_)
            have hz_41 : iv 1 4 z_41 := iv_of ez_41 (iv_add h_24 (iv_k (by decide) : iv 1 1 1) (by decide))
            have tz_41 : z_41.toInt = (z_22 : Int32).toInt + 1 := by rw [ez_41]; exact iv_addE h_24 (iv_k (by decide) : iv 1 1 1) (by decide)
            refine ma_iast (x := z_41) hx hb hK hP hD hS 12 (k := 13) rfl rfl rfl (show vp_in a 8 from (iv_in h_5 (by decide))) dX13_factory_145 (fun gm_42 H locs egm_42 hP hD hS => ?_)
            have hI_gm_42 := MI_st hI_gm_39 egm_42 hz_41 (by decide)
            refine lv_iconst (v := 1) hx hb dX13_factory_146 (by decide) ?_
            exact W.zret (v := 1) hx hb hr (iv_nb (iv_w (iv_k (by decide) : iv 1 1 1) (by decide))) (fun t ht hW => ⟨⟨1, (sg_1, gm_42, lg), rfl, ⟨sg_1, gm_42, lg, rfl, hI_gm_42, (KS_up KS_rf esg_1 (by decide)), (KS_up (KS_up (KS_up (KS_up (KS_up (KS_up (KS_up (KS_up KS_rf egm_28 (by decide)) egm_29 (by decide)) egm_30 (by decide)) egm_31 (by decide)) egm_33 (by decide)) egm_36 (by decide)) egm_39 (by decide)) egm_42 (by decide)), KS_rf, (iv_w (iv_k (by decide) : iv 1 1 1) (by decide)), (Or.inl ⟨rfl, by { have q2 := zCls_g (a := a); rw [← fr_2] at q2; have q7 := zLet_f (a := b); rw [← fr_7] at q7; have q12 := zCls_g (a := f); rw [← fr_12] at q12; have q17 := zTys_f (n := g) (a := k) (b := n1) (c := n2); rw [← fr_17] at q17; have w12 : r_12 = 1 ↔ r_12.toInt = 1 := ⟨fun q => by rw [q]; rfl, fun q => Int32.toInt_inj.mp q⟩; have v12 : r_12 = 0 ↔ r_12.toInt = 0 := ⟨fun q => by rw [q]; rfl, fun q => Int32.toInt_inj.mp q⟩; rw [w12, v12] at q12; have w17 : r_17 = 1 ↔ r_17.toInt = 1 := ⟨fun q => by rw [q]; rfl, fun q => Int32.toInt_inj.mp q⟩; have v17 : r_17 = 0 ↔ r_17.toInt = 0 := ⟨fun q => by rw [q]; rfl, fun q => Int32.toInt_inj.mp q⟩; rw [w17, v17] at q17; have w2 : r_2 = 1 ↔ r_2.toInt = 1 := ⟨fun q => by rw [q]; rfl, fun q => Int32.toInt_inj.mp q⟩; have v2 : r_2 = 0 ↔ r_2.toInt = 0 := ⟨fun q => by rw [q]; rfl, fun q => Int32.toInt_inj.mp q⟩; rw [w2, v2] at q2; have w7 : r_7 = 1 ↔ r_7.toInt = 1 := ⟨fun q => by rw [q]; rfl, fun q => Int32.toInt_inj.mp q⟩; have v7 : r_7 = 0 ↔ r_7.toInt = 0 := ⟨fun q => by rw [q]; rfl, fun q => Int32.toInt_inj.mp q⟩; rw [w7, v7] at q7; have := i32_0; have := i32_1; have := i32_2; have := i32_m1; have := (hvz).1; have := (hvz).2; have := (h_6).1; have := (h_6).2; have := (h_5).1; have := (h_5).2; have := (h_11).1; have := (h_11).2; have := (h_10).1; have := (h_10).2; have := (h_16).1; have := (h_16).2; have := (h_15).1; have := (h_15).2; have := (h_21).1; have := (h_21).2; have := (h_20).1; have := (h_20).2; have := (h_24).1; have := (h_24).2; have := (hz_25).1; have := (hz_25).2; have := (hz_27).1; have := (hz_27).2; have := (hz_32).1; have := (hz_32).2; have := (hz_35).1; have := (hz_35).2; have := (hz_38).1; have := (hz_38).2; have := (hz_41).1; have := (hz_41).2; omega }, (by { rw [← ez_22]; have := i32_0; have := i32_1; have := i32_2; have := i32_m1; have := (hvz).1; have := (hvz).2; have := (h_6).1; have := (h_6).2; have := (h_5).1; have := (h_5).2; have := (h_11).1; have := (h_11).2; have := (h_10).1; have := (h_10).2; have := (h_16).1; have := (h_16).2; have := (h_15).1; have := (h_15).2; have := (h_21).1; have := (h_21).2; have := (h_20).1; have := (h_20).2; have := (h_24).1; have := (h_24).2; have := (hz_25).1; have := (hz_25).2; have := (hz_27).1; have := (hz_27).2; have := (hz_32).1; have := (hz_32).2; have := (hz_35).1; have := (hz_35).2; have := (hz_38).1; have := (hz_38).2; have := (hz_41).1; have := (hz_41).2; omega }), ⟨_, (by { rw [← ez_22]; have := i32_0; have := i32_1; have := i32_2; have := i32_m1; have := (hvz).1; have := (hvz).2; have := (h_6).1; have := (h_6).2; have := (h_5).1; have := (h_5).2; have := (h_11).1; have := (h_11).2; have := (h_10).1; have := (h_10).2; have := (h_16).1; have := (h_16).2; have := (h_15).1; have := (h_15).2; have := (h_21).1; have := (h_21).2; have := (h_20).1; have := (h_20).2; have := (h_24).1; have := (h_24).2; have := (hz_25).1; have := (hz_25).2; have := (hz_27).1; have := (hz_27).2; have := (hz_32).1; have := (hz_32).2; have := (hz_35).1; have := (hz_35).2; have := (hz_38).1; have := (hz_38).2; have := (hz_41).1; have := (hz_41).2; omega }), (show gm_42 13 = upd (gm 13) (a : Int32).toNatClampNeg z_41 from ((up_at egm_42).trans (by rw [show gm_39 13 = gm 13 from ((up_ne egm_39 (by decide)).trans ((up_ne egm_36 (by decide)).trans ((up_ne egm_33 (by decide)).trans ((up_ne egm_31 (by decide)).trans ((up_ne egm_30 (by decide)).trans ((up_ne egm_29 (by decide)).trans ((up_ne egm_28 (by decide)).trans rfl)))))))])))⟩, (by rw [← ez_22, show 4 * a.toNatClampNeg + z_22.toNatClampNeg = z_27.toNatClampNeg from (by { have k0 : a.toNatClampNeg = a.toInt.toNat := rfl; have k1 : z_22.toNatClampNeg = z_22.toInt.toNat := rfl; have k2 : z_27.toNatClampNeg = z_27.toInt.toNat := rfl; have := i32_0; have := i32_1; have := i32_2; have := i32_m1; have := (hvz).1; have := (hvz).2; have := (h_6).1; have := (h_6).2; have := (h_5).1; have := (h_5).2; have := (h_11).1; have := (h_11).2; have := (h_10).1; have := (h_10).2; have := (h_16).1; have := (h_16).2; have := (h_15).1; have := (h_15).2; have := (h_21).1; have := (h_21).2; have := (h_20).1; have := (h_20).2; have := (h_24).1; have := (h_24).2; have := (hz_25).1; have := (hz_25).2; have := (hz_27).1; have := (hz_27).2; have := (hz_32).1; have := (hz_32).2; have := (hz_35).1; have := (hz_35).2; have := (hz_38).1; have := (hz_38).2; have := (hz_41).1; have := (hz_41).2; omega })]; exact (show gm_42 14 = upd (gm 14) (z_27 : Int32).toNatClampNeg b from ((up_ne egm_42 (by decide)).trans ((up_ne egm_39 (by decide)).trans ((up_ne egm_36 (by decide)).trans ((up_ne egm_33 (by decide)).trans ((up_ne egm_31 (by decide)).trans ((up_ne egm_30 (by decide)).trans ((up_ne egm_29 (by decide)).trans ((up_at egm_28).trans (by rw [show gm 14 = gm 14 from rfl]))))))))))), (by rw [← ez_22, show 4 * a.toNatClampNeg + z_22.toNatClampNeg = z_27.toNatClampNeg from (by { have k0 : a.toNatClampNeg = a.toInt.toNat := rfl; have k1 : z_22.toNatClampNeg = z_22.toInt.toNat := rfl; have k2 : z_27.toNatClampNeg = z_27.toInt.toNat := rfl; have := i32_0; have := i32_1; have := i32_2; have := i32_m1; have := (hvz).1; have := (hvz).2; have := (h_6).1; have := (h_6).2; have := (h_5).1; have := (h_5).2; have := (h_11).1; have := (h_11).2; have := (h_10).1; have := (h_10).2; have := (h_16).1; have := (h_16).2; have := (h_15).1; have := (h_15).2; have := (h_21).1; have := (h_21).2; have := (h_20).1; have := (h_20).2; have := (h_24).1; have := (h_24).2; have := (hz_25).1; have := (hz_25).2; have := (hz_27).1; have := (hz_27).2; have := (hz_32).1; have := (hz_32).2; have := (hz_35).1; have := (hz_35).2; have := (hz_38).1; have := (hz_38).2; have := (hz_41).1; have := (hz_41).2; omega })]; exact ((show gm_42 18 = upd (gm 18) (z_27 : Int32).toNatClampNeg (vp_nar .boolean z) from ((up_ne egm_42 (by decide)).trans ((up_ne egm_39 (by decide)).trans ((up_ne egm_36 (by decide)).trans ((up_ne egm_33 (by decide)).trans ((up_ne egm_31 (by decide)).trans ((up_ne egm_30 (by decide)).trans ((up_at egm_29).trans (by rw [show gm_28 18 = gm 18 from ((up_ne egm_28 (by decide)).trans rfl)]))))))))).trans (by rw [iv_vb hvz]))), (by rw [← ez_22, show 4 * a.toNatClampNeg + z_22.toNatClampNeg = z_27.toNatClampNeg from (by { have k0 : a.toNatClampNeg = a.toInt.toNat := rfl; have k1 : z_22.toNatClampNeg = z_22.toInt.toNat := rfl; have k2 : z_27.toNatClampNeg = z_27.toInt.toNat := rfl; have := i32_0; have := i32_1; have := i32_2; have := i32_m1; have := (hvz).1; have := (hvz).2; have := (h_6).1; have := (h_6).2; have := (h_5).1; have := (h_5).2; have := (h_11).1; have := (h_11).2; have := (h_10).1; have := (h_10).2; have := (h_16).1; have := (h_16).2; have := (h_15).1; have := (h_15).2; have := (h_21).1; have := (h_21).2; have := (h_20).1; have := (h_20).2; have := (h_24).1; have := (h_24).2; have := (hz_25).1; have := (hz_25).2; have := (hz_27).1; have := (hz_27).2; have := (hz_32).1; have := (hz_32).2; have := (hz_35).1; have := (hz_35).2; have := (hz_38).1; have := (hz_38).2; have := (hz_41).1; have := (hz_41).2; omega })]; exact (show gm_42 15 = upd (gm 15) (z_27 : Int32).toNatClampNeg f from ((up_ne egm_42 (by decide)).trans ((up_ne egm_39 (by decide)).trans ((up_ne egm_36 (by decide)).trans ((up_ne egm_33 (by decide)).trans ((up_ne egm_31 (by decide)).trans ((up_at egm_30).trans (by rw [show gm_29 15 = gm 15 from ((up_ne egm_29 (by decide)).trans ((up_ne egm_28 (by decide)).trans rfl))]))))))))), (by rw [← ez_22, show 4 * a.toNatClampNeg + z_22.toNatClampNeg = z_27.toNatClampNeg from (by { have k0 : a.toNatClampNeg = a.toInt.toNat := rfl; have k1 : z_22.toNatClampNeg = z_22.toInt.toNat := rfl; have k2 : z_27.toNatClampNeg = z_27.toInt.toNat := rfl; have := i32_0; have := i32_1; have := i32_2; have := i32_m1; have := (hvz).1; have := (hvz).2; have := (h_6).1; have := (h_6).2; have := (h_5).1; have := (h_5).2; have := (h_11).1; have := (h_11).2; have := (h_10).1; have := (h_10).2; have := (h_16).1; have := (h_16).2; have := (h_15).1; have := (h_15).2; have := (h_21).1; have := (h_21).2; have := (h_20).1; have := (h_20).2; have := (h_24).1; have := (h_24).2; have := (hz_25).1; have := (hz_25).2; have := (hz_27).1; have := (hz_27).2; have := (hz_32).1; have := (hz_32).2; have := (hz_35).1; have := (hz_35).2; have := (hz_38).1; have := (hz_38).2; have := (hz_41).1; have := (hz_41).2; omega })]; exact (show gm_42 16 = upd (gm 16) (z_27 : Int32).toNatClampNeg g from ((up_ne egm_42 (by decide)).trans ((up_ne egm_39 (by decide)).trans ((up_ne egm_36 (by decide)).trans ((up_ne egm_33 (by decide)).trans ((up_at egm_31).trans (by rw [show gm_30 16 = gm 16 from ((up_ne egm_30 (by decide)).trans ((up_ne egm_29 (by decide)).trans ((up_ne egm_28 (by decide)).trans rfl)))])))))))), (by rw [← ez_22, show 3 * (4 * a.toNatClampNeg + z_22.toNatClampNeg) + 2 = z_38.toNatClampNeg from (by { have k0 : a.toNatClampNeg = a.toInt.toNat := rfl; have k1 : z_22.toNatClampNeg = z_22.toInt.toNat := rfl; have k2 : z_38.toNatClampNeg = z_38.toInt.toNat := rfl; have := i32_0; have := i32_1; have := i32_2; have := i32_m1; have := (hvz).1; have := (hvz).2; have := (h_6).1; have := (h_6).2; have := (h_5).1; have := (h_5).2; have := (h_11).1; have := (h_11).2; have := (h_10).1; have := (h_10).2; have := (h_16).1; have := (h_16).2; have := (h_15).1; have := (h_15).2; have := (h_21).1; have := (h_21).2; have := (h_20).1; have := (h_20).2; have := (h_24).1; have := (h_24).2; have := (hz_25).1; have := (hz_25).2; have := (hz_27).1; have := (hz_27).2; have := (hz_32).1; have := (hz_32).2; have := (hz_35).1; have := (hz_35).2; have := (hz_38).1; have := (hz_38).2; have := (hz_41).1; have := (hz_41).2; omega }), show 3 * (4 * a.toNatClampNeg + z_22.toNatClampNeg) + 1 = z_35.toNatClampNeg from (by { have k0 : a.toNatClampNeg = a.toInt.toNat := rfl; have k1 : z_22.toNatClampNeg = z_22.toInt.toNat := rfl; have k2 : z_35.toNatClampNeg = z_35.toInt.toNat := rfl; have := i32_0; have := i32_1; have := i32_2; have := i32_m1; have := (hvz).1; have := (hvz).2; have := (h_6).1; have := (h_6).2; have := (h_5).1; have := (h_5).2; have := (h_11).1; have := (h_11).2; have := (h_10).1; have := (h_10).2; have := (h_16).1; have := (h_16).2; have := (h_15).1; have := (h_15).2; have := (h_21).1; have := (h_21).2; have := (h_20).1; have := (h_20).2; have := (h_24).1; have := (h_24).2; have := (hz_25).1; have := (hz_25).2; have := (hz_27).1; have := (hz_27).2; have := (hz_32).1; have := (hz_32).2; have := (hz_35).1; have := (hz_35).2; have := (hz_38).1; have := (hz_38).2; have := (hz_41).1; have := (hz_41).2; omega }), show 3 * (4 * a.toNatClampNeg + z_22.toNatClampNeg) = z_32.toNatClampNeg from (by { have k0 : a.toNatClampNeg = a.toInt.toNat := rfl; have k1 : z_22.toNatClampNeg = z_22.toInt.toNat := rfl; have k2 : z_32.toNatClampNeg = z_32.toInt.toNat := rfl; have := i32_0; have := i32_1; have := i32_2; have := i32_m1; have := (hvz).1; have := (hvz).2; have := (h_6).1; have := (h_6).2; have := (h_5).1; have := (h_5).2; have := (h_11).1; have := (h_11).2; have := (h_10).1; have := (h_10).2; have := (h_16).1; have := (h_16).2; have := (h_15).1; have := (h_15).2; have := (h_21).1; have := (h_21).2; have := (h_20).1; have := (h_20).2; have := (h_24).1; have := (h_24).2; have := (hz_25).1; have := (hz_25).2; have := (hz_27).1; have := (hz_27).2; have := (hz_32).1; have := (hz_32).2; have := (hz_35).1; have := (hz_35).2; have := (hz_38).1; have := (hz_38).2; have := (hz_41).1; have := (hz_41).2; omega })]; exact (show gm_42 17 = upd (upd (upd (gm 17) (z_32 : Int32).toNatClampNeg k) (z_35 : Int32).toNatClampNeg n1) (z_38 : Int32).toNatClampNeg n2 from ((up_ne egm_42 (by decide)).trans ((up_at egm_39).trans (by rw [show gm_36 17 = upd (upd (gm 17) (z_32 : Int32).toNatClampNeg k) (z_35 : Int32).toNatClampNeg n1 from ((up_at egm_36).trans (by rw [show gm_33 17 = upd (gm 17) (z_32 : Int32).toNatClampNeg k from ((up_at egm_33).trans (by rw [show gm_31 17 = gm 17 from ((up_ne egm_31 (by decide)).trans ((up_ne egm_30 (by decide)).trans ((up_ne egm_29 (by decide)).trans ((up_ne egm_28 (by decide)).trans rfl))))]))]))])))))⟩)⟩, by rw [ht]; exact hP, va_K.moved hW.alike hK, hD⟩, hS.F ht⟩) hS.2.2 dX13_factory_147
          · have h_43 : iv 4 4 z_22 := iv_eq c_23 hz_22 (iv_k (by decide) : iv 4 4 4) (by decide)
            exact hj51 sg_1 hvz (KS_up KS_rf esg_1 (by decide)) hI_sg_1 (Or.inr (by { rw [← ez_22]; have := i32_0; have := i32_1; have := i32_2; have := i32_m1; have := (hvz).1; have := (hvz).2; have := (h_6).1; have := (h_6).2; have := (h_5).1; have := (h_5).2; have := (h_11).1; have := (h_11).2; have := (h_10).1; have := (h_10).2; have := (h_16).1; have := (h_16).2; have := (h_15).1; have := (h_15).2; have := (h_21).1; have := (h_21).2; have := (h_20).1; have := (h_20).2; have := (h_43).1; have := (h_43).2; omega })) _ _ _ hP hD hS (lv_sub hl [0, 1, 2, 3, 4, 5, 6, 7, 8] rfl)
end
section
set_option maxHeartbeats 4000000 in
set_option maxRecDepth 100000 in
theorem a_setter9 (l : Launch) (dC : Nat → ClassId) (dI : Nat → Nat → Nat) (h0 : Nat) (ad : Nat → Nat) (cid : Nat → ClassId) (sg : Nat → Int32) (gm : Nat → Nat → Int32) (lg : Nat → Nat → Int64) (a : Int32) (b : Int32) (f : Int32) (hI : MI sg gm) : MMi l dC dI yX13_setter wm_X13_setter ({ frames := 1, cells := 0, slots := 0, locals := 20 }) h0 ad cid [.int a, .int b, .int f] sg gm lg (fun r v => ∃ (sg2 : Nat → Int32) (gm2 : Nat → Nat → Int32) (lg2 : Nat → Nat → Int64), v = (sg2, gm2, lg2) ∧ MI sg2 gm2 ∧ KS [5] sg sg2 ∧ KS [10, 11, 12] gm gm2 ∧ KS [] lg lg2 ∧ (iv 0 1 r) ∧ (RAS (0 ≤ a.toInt ∧ a.toInt ≤ 7 ∧ 0 ≤ b.toInt ∧ b.toInt ≤ 25 ∧ (0 ≤ f.toInt ∧ f.toInt ≤ 4 ∨ 8 ≤ f.toInt ∧ f.toInt ≤ 15)) r a.toNatClampNeg b f gm gm2)) := by
  intro sz
  refine Met.ofW (cc := cX13_setter) (maxL := 5) (ret := (some .boolean)) (by decide) rfl ?_
  intro p e s m args below meth c s₁ B hml hv
  obtain ⟨rfl, hsz, hP, hK, hD0⟩ := hv
  have hx := B.exec
  have hb := B.bytes
  have hr := B.returns
  have hts := atoms_spec (ws := wm_X13_setter) B.pre
  have htb := fun (w : Cond) (h : w ∈ tb) => hts w (List.mem_cons_of_mem _ h)
  have hown : s.vm.findClass RX13 = some m.cls := findClass_of_methodNamed B.named
  have hlocks := B.notSynchronized
  subst hsz
  have hD := hD0.self (sz := s.heap.size)
  generalize hAe : va_A (mW h0 ad cid sg gm lg) s.heap.size = A at hD ⊢
  have hA : ∀ q : Nat, s.heap.size ≤ q → A q := fun q h => by rw [← hAe]; exact Or.inr h
  have hS : va_S A s.heap s.heap [] := va_S.rf
  have hl := lv_entry ([.ref h0, .int a, .int b, .int f]) (n := 5) (Nat.le_of_ble_eq_true rfl)
  rw [lg_entry_eq]
  generalize (lg_sl ([.ref h0, .int a, .int b, .int f]) ++ List.replicate (5 - (lg_sl ([.ref h0, .int a, .int b, .int f])).length) Slot.unset).toArray = ls at hl ⊢
  have hl : lv_has ls 5 [(0, .ref h0), (1, .int a), (2, .int b), (3, .int f)] := hl
  have hj37 : ∀ (sg_j37 : Nat → Int32) (_ : KS [5] sg sg_j37) (_ : MI sg_j37 gm) (_ : ¬ (0 ≤ a.toInt ∧ a.toInt ≤ 7 ∧ 0 ≤ b.toInt ∧ b.toInt ≤ 25 ∧ (0 ≤ f.toInt ∧ f.toInt ≤ 4 ∨ 8 ≤ f.toInt ∧ f.toInt ≤ 15)) ∨ 8 ≤ (gm 10 a.toNatClampNeg).toInt) (H : Heap) (locs : List Loc) (ls : Array Slot), va_P (dC, dI) vwCl (mW h0 ad cid sg_j37 gm lg) H → va_D A (mW h0 ad cid sg_j37 gm lg) → va_S A s.heap H locs → lv_has ls 5 [(0, .ref h0), (1, .int a), (2, .int b), (3, .int f)] → W p l e (headSpec wm_X13_setter ({ frames := 1, cells := 0, slots := 0, locals := 20 })).room s m ([.ref h0, .int a, .int b, .int f] : List Value).toArray below meth c H locs 0 0 (MQ below (va_Qi (fun r v => ∃ (sg2 : Nat → Int32) (gm2 : Nat → Nat → Int32) (lg2 : Nat → Nat → Int64), v = (sg2, gm2, lg2) ∧ MI sg2 gm2 ∧ KS [5] sg sg2 ∧ KS [10, 11, 12] gm gm2 ∧ KS [] lg lg2 ∧ (iv 0 1 r) ∧ (RAS (0 ≤ a.toInt ∧ a.toInt ≤ 7 ∧ 0 ≤ b.toInt ∧ b.toInt ≤ 25 ∧ (0 ≤ f.toInt ∧ f.toInt ≤ 4 ∨ 8 ≤ f.toInt ∧ f.toInt ≤ 15)) r a.toNatClampNeg b f gm gm2)) (MB dC dI h0 ad cid A) A) ([.ref h0, .int a, .int b, .int f] : List Value).toArray s 0 0 A) (F0 m 37 ls []) := by
    intro sg_j37 hks_j37 hI_j37 hno H locs ls hP hD hS hl
    refine lv_iconst (v := 0) hx hb dX13_setter_37 (by decide) ?_
    exact W.zret (v := 0) hx hb hr (iv_nb (iv_w (iv_k (by decide) : iv 0 0 0) (by decide))) (fun t ht hW => ⟨⟨0, (sg_j37, gm, lg), rfl, ⟨sg_j37, gm, lg, rfl, hI_j37, (KS_tr (L := [5]) KS_rf hks_j37 (by decide)), KS_rf, KS_rf, (iv_w (iv_k (by decide) : iv 0 0 0) (by decide)), (Or.inr ⟨rfl, hno.elim Or.inl (fun q => Or.inr (Or.inl q)), rfl, rfl, rfl⟩)⟩, by rw [ht]; exact hP, va_K.moved hW.alike hK, hD⟩, hS.F ht⟩) hS.2.2 dX13_setter_38
  have hj42 : ∀ (n : Nat) (sg_j42 : Nat → Int32) (x4_42 : Int32) (_ : (7 - x4_42.toInt).toNat = n) (_ : iv 0 7 x4_42) (_ : iv 0 7 a) (_ : iv 0 25 b) (_ : iv 0 15 f) (_ : KS [5] sg sg_j42) (_ : MI sg_j42 gm) (_ : (gm 10 a.toNatClampNeg).toInt ≤ 7) (_ : (0 ≤ f.toInt ∧ f.toInt ≤ 4 ∨ 8 ≤ f.toInt ∧ f.toInt ≤ 15)) (_ : ∀ k, k < x4_42.toNatClampNeg → ¬ gm 11 (8 * a.toNatClampNeg + k) = b) (H : Heap) (locs : List Loc) (ls : Array Slot), va_P (dC, dI) vwCl (mW h0 ad cid sg_j42 gm lg) H → va_D A (mW h0 ad cid sg_j42 gm lg) → va_S A s.heap H locs → lv_has ls 5 [(4, .int x4_42), (0, .ref h0), (1, .int a), (2, .int b), (3, .int f)] → W p l e (headSpec wm_X13_setter ({ frames := 1, cells := 0, slots := 0, locals := 20 })).room s m ([.ref h0, .int a, .int b, .int f] : List Value).toArray below meth c H locs 0 0 (MQ below (va_Qi (fun r v => ∃ (sg2 : Nat → Int32) (gm2 : Nat → Nat → Int32) (lg2 : Nat → Nat → Int64), v = (sg2, gm2, lg2) ∧ MI sg2 gm2 ∧ KS [5] sg sg2 ∧ KS [10, 11, 12] gm gm2 ∧ KS [] lg lg2 ∧ (iv 0 1 r) ∧ (RAS (0 ≤ a.toInt ∧ a.toInt ≤ 7 ∧ 0 ≤ b.toInt ∧ b.toInt ≤ 25 ∧ (0 ≤ f.toInt ∧ f.toInt ≤ 4 ∨ 8 ≤ f.toInt ∧ f.toInt ≤ 15)) r a.toNatClampNeg b f gm gm2)) (MB dC dI h0 ad cid A) A) ([.ref h0, .int a, .int b, .int f] : List Value).toArray s 0 0 A) (F0 m 42 ls []) := by
    intro n
    induction n using Nat.strongRecOn with
    | ind n ih42 =>
      intro sg_j42 x4_42 hn42 hx4_42 hsx1_42 hsx2_42 hsx3_42 hks_j42 hI_j42 h8 hT hN H locs ls hP hD hS hl
      refine lv_iload hx hb dX13_setter_42 (lv_at hl 0 rfl) ?_
      refine lv_aload_n hx hb dX13_setter_44 rfl (lv_at hl 1 rfl) ?_
      refine mr_get (v := .ref (ad 10)) hx hb htb inX13 hown hK hP 10 (by decide) (htb _ kw_1037) rfl dX13_setter_45 ?_
      refine lv_iload_n hx hb dX13_setter_48 rfl (lv_at hl 2 rfl) ?_
      refine mr_iald hx hb hK hP 9 (k := 10) rfl rfl rfl (show vp_in a 8 from (iv_in hsx1_42 (by decide))) dX13_setter_49 ?_
      refine lv_topi (fun z_1 ez_1 => ?_)
      have hz_1 : iv 0 8 z_1 := iv_of ez_1 (MI_a hI_j42 10 hsx1_42 (by decide))
      have h_2 : iv 0 7 z_1 := ⟨(hz_1).1, by rw [ez_1]; exact h8⟩
      refine lv_icmp_ge (tgt := 77) hx hb dX13_setter_50 (by decide) (fun c_3 => ?_) (fun c_3 => ?_)
      · have d_4 : (z_1 : Int32).toInt ≤ (x4_42 : Int32).toInt := Int32.le_iff_toInt_le.mp c_3
        refine lv_aload_n hx hb dX13_setter_77 rfl (lv_at hl 1 rfl) ?_
        refine mr_get (v := .ref (ad 11)) hx hb htb inX13 hown hK hP 11 (by decide) (htb _ kw_1038) rfl dX13_setter_78 ?_
        refine lv_bipush (v := 8) hx hb dX13_setter_81 (by decide) ?_
        refine lv_iload_n hx hb dX13_setter_83 rfl (lv_at hl 2 rfl) ?_
        refine lv_imul hx hb dX13_setter_84 ?_
        refine lv_topi (fun z_5 ez_5 => ?_)
        have hz_5 : iv 0 56 z_5 := iv_of ez_5 (iv_mul (iv_k (by decide) : iv 8 8 8) hsx1_42 (by decide))
        have tz_5 : z_5.toInt = 8 * (a : Int32).toInt := by rw [ez_5]; exact iv_mulE (iv_k (by decide) : iv 8 8 8) hsx1_42 (by decide)
        refine lv_aload_n hx hb dX13_setter_85 rfl (lv_at hl 1 rfl) ?_
        refine mr_get (v := .ref (ad 10)) hx hb htb inX13 hown hK hP 10 (by decide) (htb _ kw_1037) rfl dX13_setter_86 ?_
        refine lv_iload_n hx hb dX13_setter_89 rfl (lv_at hl 2 rfl) ?_
        refine mr_iald hx hb hK hP 9 (k := 10) rfl rfl rfl (show vp_in a 8 from (iv_in hsx1_42 (by decide))) dX13_setter_90 ?_
        refine lv_topi (fun z_6 ez_6 => ?_)
        obtain rfl : z_1 = z_6 := ez_1.trans ez_6.symm
        refine lv_iadd hx hb dX13_setter_91 ?_
        refine lv_topi (fun z_7 ez_7 => ?_)
        have hz_7 : iv 0 63 z_7 := iv_of ez_7 (iv_add hz_5 h_2 (by decide))
        have tz_7 : z_7.toInt = (z_5 : Int32).toInt + (z_1 : Int32).toInt := by rw [ez_7]; exact iv_addE hz_5 h_2 (by decide)
        refine lv_iload_n hx hb dX13_setter_92 rfl (lv_at hl 3 rfl) ?_
        refine ma_iast (x := b) hx hb hK hP hD hS 10 (k := 11) rfl rfl rfl (show vp_in z_7 64 from (iv_in hz_7 (by decide))) dX13_setter_93 (fun gm_8 H locs egm_8 hP hD hS => ?_)
        have hI_gm_8 := MI_st hI_j42 egm_8 hsx2_42 (by decide)
        refine lv_aload_n hx hb dX13_setter_94 rfl (lv_at hl 1 rfl) ?_
        refine mr_get (v := .ref (ad 12)) hx hb htb inX13 hown hK hP 12 (by decide) (htb _ kw_1039) rfl dX13_setter_95 ?_
        refine lv_bipush (v := 8) hx hb dX13_setter_98 (by decide) ?_
        refine lv_iload_n hx hb dX13_setter_100 rfl (lv_at hl 2 rfl) ?_
        refine lv_imul hx hb dX13_setter_101 ?_
        refine lv_topi (fun z_9 ez_9 => ?_)
        obtain rfl : z_5 = z_9 := ez_5.trans ez_9.symm
        refine lv_aload_n hx hb dX13_setter_102 rfl (lv_at hl 1 rfl) ?_
        refine mr_get (v := .ref (ad 10)) hx hb htb inX13 hown hK hP 10 (by decide) (htb _ kw_1037) rfl dX13_setter_103 ?_
        refine lv_iload_n hx hb dX13_setter_106 rfl (lv_at hl 2 rfl) ?_
        refine mr_iald hx hb hK hP 9 (k := 10) rfl rfl rfl (show vp_in a 8 from (iv_in hsx1_42 (by decide))) dX13_setter_107 ?_
        refine lv_topi (fun z_10 ez_10 => ?_)
        obtain rfl : z_1 = z_10 := ez_1.trans (ez_10.trans (congrFun (up_ne egm_8 (by decide)) _)).symm
        refine lv_iadd hx hb dX13_setter_108 ?_
        refine lv_topi (fun z_11 ez_11 => ?_)
        obtain rfl : z_7 = z_11 := ez_7.trans ez_11.symm
        refine lv_iload_n hx hb dX13_setter_109 rfl (lv_at hl 4 rfl) ?_
        refine ma_iast (x := f) hx hb hK hP hD hS 11 (k := 12) rfl rfl rfl (show vp_in z_7 64 from (iv_in hz_7 (by decide))) dX13_setter_110 (fun gm_12 H locs egm_12 hP hD hS => ?_)
        have hI_gm_12 := MI_st hI_gm_8 egm_12 hsx3_42 (by decide)
        refine lv_aload_n hx hb dX13_setter_111 rfl (lv_at hl 1 rfl) ?_
        refine mr_get (v := .ref (ad 10)) hx hb htb inX13 hown hK hP 10 (by decide) (htb _ kw_1037) rfl dX13_setter_112 ?_
        refine lv_iload_n hx hb dX13_setter_115 rfl (lv_at hl 2 rfl) ?_
        refine lv_dup2_11 hx hb dX13_setter_116 rfl rfl ?_
        refine mr_iald hx hb hK hP 9 (k := 10) rfl rfl rfl (show vp_in a 8 from (iv_in hsx1_42 (by decide))) dX13_setter_117 ?_
        refine lv_topi (fun z_13 ez_13 => ?_)
        obtain rfl : z_1 = z_13 := ez_1.trans (ez_13.trans (congrFun (Eq.trans (up_ne egm_12 (by decide)) (up_ne egm_8 (by decide))) _)).symm
        refine lv_iconst (v := 1) hx hb dX13_setter_118 (by decide) ?_
        refine lv_iadd hx hb dX13_setter_119 ?_
        refine lv_topi (fun z_14 ez_14 => ?_)
        have hz_14 : iv 1 8 z_14 := iv_of ez_14 (iv_add h_2 (iv_k (by decide) : iv 1 1 1) (by decide))
        have tz_14 : z_14.toInt = (z_1 : Int32).toInt + 1 := by rw [ez_14]; exact iv_addE h_2 (iv_k (by decide) : iv 1 1 1) (by decide)
        refine ma_iast (x := z_14) hx hb hK hP hD hS 9 (k := 10) rfl rfl rfl (show vp_in a 8 from (iv_in hsx1_42 (by decide))) dX13_setter_120 (fun gm_15 H locs egm_15 hP hD hS => ?_)
        have hI_gm_15 := MI_st hI_gm_12 egm_15 hz_14 (by decide)
        refine lv_iconst (v := 1) hx hb dX13_setter_121 (by decide) ?_
        exact W.zret (v := 1) hx hb hr (iv_nb (iv_w (iv_k (by decide) : iv 1 1 1) (by decide))) (fun t ht hW => ⟨⟨1, (sg_j42, gm_15, lg), rfl, ⟨sg_j42, gm_15, lg, rfl, hI_gm_15, (KS_tr (L := [5]) KS_rf hks_j42 (by decide)), (KS_up (KS_up (KS_up KS_rf egm_8 (by decide)) egm_12 (by decide)) egm_15 (by decide)), KS_rf, (iv_w (iv_k (by decide) : iv 1 1 1) (by decide)), (Or.inl ⟨rfl, by have := i32_0; have := i32_1; have := i32_2; have := i32_m1; have := (hx4_42).1; have := (hx4_42).2; have := (hsx1_42).1; have := (hsx1_42).2; have := (hsx2_42).1; have := (hsx2_42).2; have := (hsx3_42).1; have := (hsx3_42).2; have := (h_2).1; have := (h_2).2; have := (hz_5).1; have := (hz_5).2; have := (hz_7).1; have := (hz_7).2; have := (hz_14).1; have := (hz_14).2; omega, (by { rw [← ez_1]; have := i32_0; have := i32_1; have := i32_2; have := i32_m1; have := (hx4_42).1; have := (hx4_42).2; have := (hsx1_42).1; have := (hsx1_42).2; have := (hsx2_42).1; have := (hsx2_42).2; have := (hsx3_42).1; have := (hsx3_42).2; have := (h_2).1; have := (h_2).2; have := (hz_5).1; have := (hz_5).2; have := (hz_7).1; have := (hz_7).2; have := (hz_14).1; have := (hz_14).2; omega }), (fun k hk => hN k (by { rw [← ez_1] at hk; have k0 : x4_42.toNatClampNeg = x4_42.toInt.toNat := rfl; have k1 : z_1.toNatClampNeg = z_1.toInt.toNat := rfl; have := i32_0; have := i32_1; have := i32_2; have := i32_m1; have := (hx4_42).1; have := (hx4_42).2; have := (hsx1_42).1; have := (hsx1_42).2; have := (hsx2_42).1; have := (hsx2_42).2; have := (hsx3_42).1; have := (hsx3_42).2; have := (h_2).1; have := (h_2).2; have := (hz_5).1; have := (hz_5).2; have := (hz_7).1; have := (hz_7).2; have := (hz_14).1; have := (hz_14).2; omega })), ⟨_, (by { rw [← ez_1]; have := i32_0; have := i32_1; have := i32_2; have := i32_m1; have := (hx4_42).1; have := (hx4_42).2; have := (hsx1_42).1; have := (hsx1_42).2; have := (hsx2_42).1; have := (hsx2_42).2; have := (hsx3_42).1; have := (hsx3_42).2; have := (h_2).1; have := (h_2).2; have := (hz_5).1; have := (hz_5).2; have := (hz_7).1; have := (hz_7).2; have := (hz_14).1; have := (hz_14).2; omega }), (show gm_15 10 = upd (gm 10) (a : Int32).toNatClampNeg z_14 from ((up_at egm_15).trans (by rw [show gm_12 10 = gm 10 from ((up_ne egm_12 (by decide)).trans ((up_ne egm_8 (by decide)).trans rfl))])))⟩, (by rw [← ez_1, show 8 * a.toNatClampNeg + z_1.toNatClampNeg = z_7.toNatClampNeg from (by { have k0 : a.toNatClampNeg = a.toInt.toNat := rfl; have k1 : z_1.toNatClampNeg = z_1.toInt.toNat := rfl; have k2 : z_7.toNatClampNeg = z_7.toInt.toNat := rfl; have := i32_0; have := i32_1; have := i32_2; have := i32_m1; have := (hx4_42).1; have := (hx4_42).2; have := (hsx1_42).1; have := (hsx1_42).2; have := (hsx2_42).1; have := (hsx2_42).2; have := (hsx3_42).1; have := (hsx3_42).2; have := (h_2).1; have := (h_2).2; have := (hz_5).1; have := (hz_5).2; have := (hz_7).1; have := (hz_7).2; have := (hz_14).1; have := (hz_14).2; omega })]; exact (show gm_15 11 = upd (gm 11) (z_7 : Int32).toNatClampNeg b from ((up_ne egm_15 (by decide)).trans ((up_ne egm_12 (by decide)).trans ((up_at egm_8).trans (by rw [show gm 11 = gm 11 from rfl])))))), (by rw [← ez_1, show 8 * a.toNatClampNeg + z_1.toNatClampNeg = z_7.toNatClampNeg from (by { have k0 : a.toNatClampNeg = a.toInt.toNat := rfl; have k1 : z_1.toNatClampNeg = z_1.toInt.toNat := rfl; have k2 : z_7.toNatClampNeg = z_7.toInt.toNat := rfl; have := i32_0; have := i32_1; have := i32_2; have := i32_m1; have := (hx4_42).1; have := (hx4_42).2; have := (hsx1_42).1; have := (hsx1_42).2; have := (hsx2_42).1; have := (hsx2_42).2; have := (hsx3_42).1; have := (hsx3_42).2; have := (h_2).1; have := (h_2).2; have := (hz_5).1; have := (hz_5).2; have := (hz_7).1; have := (hz_7).2; have := (hz_14).1; have := (hz_14).2; omega })]; exact (show gm_15 12 = upd (gm 12) (z_7 : Int32).toNatClampNeg f from ((up_ne egm_15 (by decide)).trans ((up_at egm_12).trans (by rw [show gm_8 12 = gm 12 from ((up_ne egm_8 (by decide)).trans rfl)])))))⟩)⟩, by rw [ht]; exact hP, va_K.moved hW.alike hK, hD⟩, hS.F ht⟩) hS.2.2 dX13_setter_122
      · have d_16 : (x4_42 : Int32).toInt < (z_1 : Int32).toInt := Int32.lt_iff_toInt_lt.mp (i32_lt c_3)
        have h_17 : iv 0 6 x4_42 := iv_ltL (i32_lt c_3) hx4_42 h_2 (by decide)
        have h_18 : iv 1 7 z_1 := iv_ltR (i32_lt c_3) hx4_42 h_2 (by decide)
        refine lv_aload_n hx hb dX13_setter_53 rfl (lv_at hl 1 rfl) ?_
        refine mr_get (v := .ref (ad 11)) hx hb htb inX13 hown hK hP 11 (by decide) (htb _ kw_1038) rfl dX13_setter_54 ?_
        refine lv_bipush (v := 8) hx hb dX13_setter_57 (by decide) ?_
        refine lv_iload_n hx hb dX13_setter_59 rfl (lv_at hl 2 rfl) ?_
        refine lv_imul hx hb dX13_setter_60 ?_
        refine lv_topi (fun z_19 ez_19 => ?_)
        have hz_19 : iv 0 56 z_19 := iv_of ez_19 (iv_mul (iv_k (by decide) : iv 8 8 8) hsx1_42 (by decide))
        have tz_19 : z_19.toInt = 8 * (a : Int32).toInt := by rw [ez_19]; exact iv_mulE (iv_k (by decide) : iv 8 8 8) hsx1_42 (by decide)
        refine lv_iload hx hb dX13_setter_61 (lv_at hl 0 rfl) ?_
        refine lv_iadd hx hb dX13_setter_63 ?_
        refine lv_topi (fun z_20 ez_20 => ?_)
        have hz_20 : iv 0 62 z_20 := iv_of ez_20 (iv_add hz_19 h_17 (by decide))
        have tz_20 : z_20.toInt = (z_19 : Int32).toInt + (x4_42 : Int32).toInt := by rw [ez_20]; exact iv_addE hz_19 h_17 (by decide)
        refine mr_iald hx hb hK hP 10 (k := 11) rfl rfl rfl (show vp_in z_20 64 from (iv_in hz_20 (by decide))) dX13_setter_64 ?_
        refine lv_topi (fun z_21 ez_21 => ?_)
        have hz_21 : iv 0 25 z_21 := iv_of ez_21 (MI_a hI_j42 11 hz_20 (by decide))
        refine lv_iload_n hx hb dX13_setter_65 rfl (lv_at hl 3 rfl) ?_
        refine lv_icmp_ne (tgt := 71) hx hb dX13_setter_66 (by decide) (fun c_22 => ?_) (fun c_22 => ?_)
        · obtain ⟨z_23, ez_23⟩ : ∃ z : Int32, z = x4_42 + 1 := ⟨_, rfl⟩
          have hz_23 : iv 1 7 z_23 := iv_of ez_23 (iv_add h_17 (iv_k (by decide) : iv 1 1 1) (by decide))
          have tz_23 : z_23.toInt = x4_42.toInt + 1 := by rw [ez_23]; exact iv_addE h_17 (iv_k (by decide) : iv 1 1 1) (by decide)
          refine lv_iinc (v := z_23) (lv' := [(4, .int z_23), (0, .ref h0), (1, .int a), (2, .int b), (3, .int f)]) hx hb dX13_setter_71 hl (k := 0) rfl ez_23.symm (by decide) rfl (fun ls hl => ?_)
          refine lv_goto (tgt := 42) hx hb dX13_setter_74 (by decide) ?_
          exact ih42 _ (by rw [← hn42]; exact (iv_meas tz_23 h_17 (by decide))) sg_j42 z_23 rfl (iv_w hz_23 (by decide)) hsx1_42 hsx2_42 hsx3_42 (KS_tr (L := [5]) KS_rf hks_j42 (by decide)) hI_j42 (h8) (hT) ((nx_s hN (by rw [show 8 * a.toNatClampNeg + x4_42.toNatClampNeg = z_20.toNatClampNeg from (by { have k0 : a.toNatClampNeg = a.toInt.toNat := rfl; have k1 : x4_42.toNatClampNeg = x4_42.toInt.toNat := rfl; have k2 : z_20.toNatClampNeg = z_20.toInt.toNat := rfl; have := i32_0; have := i32_1; have := i32_2; have := i32_m1; have := (h_17).1; have := (h_17).2; have := (hsx1_42).1; have := (hsx1_42).2; have := (hsx2_42).1; have := (hsx2_42).2; have := (hsx3_42).1; have := (hsx3_42).2; have := (h_18).1; have := (h_18).2; have := (hz_19).1; have := (hz_19).2; have := (hz_20).1; have := (hz_20).2; have := (hz_21).1; have := (hz_21).2; have := (hz_23).1; have := (hz_23).2; omega }), ← ez_21]; exact c_22) (by { have k0 : x4_42.toNatClampNeg = x4_42.toInt.toNat := rfl; have k1 : z_23.toNatClampNeg = z_23.toInt.toNat := rfl; have := i32_0; have := i32_1; have := i32_2; have := i32_m1; have := (h_17).1; have := (h_17).2; have := (hsx1_42).1; have := (hsx1_42).2; have := (hsx2_42).1; have := (hsx2_42).2; have := (hsx3_42).1; have := (hsx3_42).2; have := (h_18).1; have := (h_18).2; have := (hz_19).1; have := (hz_19).2; have := (hz_20).1; have := (hz_20).2; have := (hz_21).1; have := (hz_21).2; have := (hz_23).1; have := (hz_23).2; omega }))) _ _ _ hP hD hS (lv_sub hl [0, 1, 2, 3, 4] rfl)
        · have d_24 : (z_21 : Int32).toInt = (b : Int32).toInt := congrArg Int32.toInt c_22
          refine lv_iconst (v := 0) hx hb dX13_setter_69 (by decide) ?_
          exact W.zret (v := 0) hx hb hr (iv_nb (iv_w (iv_k (by decide) : iv 0 0 0) (by decide))) (fun t ht hW => ⟨⟨0, (sg_j42, gm, lg), rfl, ⟨sg_j42, gm, lg, rfl, hI_j42, (KS_tr (L := [5]) KS_rf hks_j42 (by decide)), KS_rf, KS_rf, (iv_w (iv_k (by decide) : iv 0 0 0) (by decide)), (Or.inr ⟨rfl, Or.inr (Or.inr ⟨x4_42.toNatClampNeg, (by { rw [← ez_1]; have k0 : x4_42.toNatClampNeg = x4_42.toInt.toNat := rfl; have k1 : z_1.toNatClampNeg = z_1.toInt.toNat := rfl; have := i32_0; have := i32_1; have := i32_2; have := i32_m1; have := (h_17).1; have := (h_17).2; have := (hsx1_42).1; have := (hsx1_42).2; have := (hsx2_42).1; have := (hsx2_42).2; have := (hsx3_42).1; have := (hsx3_42).2; have := (h_18).1; have := (h_18).2; have := (hz_19).1; have := (hz_19).2; have := (hz_20).1; have := (hz_20).2; have := (hz_21).1; have := (hz_21).2; omega }), (by rw [show 8 * a.toNatClampNeg + x4_42.toNatClampNeg = z_20.toNatClampNeg from (by { have k0 : a.toNatClampNeg = a.toInt.toNat := rfl; have k1 : x4_42.toNatClampNeg = x4_42.toInt.toNat := rfl; have k2 : z_20.toNatClampNeg = z_20.toInt.toNat := rfl; have := i32_0; have := i32_1; have := i32_2; have := i32_m1; have := (h_17).1; have := (h_17).2; have := (hsx1_42).1; have := (hsx1_42).2; have := (hsx2_42).1; have := (hsx2_42).2; have := (hsx3_42).1; have := (hsx3_42).2; have := (h_18).1; have := (h_18).2; have := (hz_19).1; have := (hz_19).2; have := (hz_20).1; have := (hz_20).2; have := (hz_21).1; have := (hz_21).2; omega }), ← ez_21]; exact c_22)⟩), rfl, rfl, rfl⟩)⟩, by rw [ht]; exact hP, va_K.moved hW.alike hK, hD⟩, hS.F ht⟩) hS.2.2 dX13_setter_70
  refine lv_aload_n hx hb dX13_setter_0 rfl (lv_at hl 0 rfl) ?_
  refine lv_iconst (v := 0) hx hb dX13_setter_1 (by decide) ?_
  refine ma_put (x := 0) hx hb htb inX13 hown hK hP hD hS 5 (by decide) (by decide) (htb _ kw_1032) rfl rfl rfl dX13_setter_2 (fun sg_25 H locs esg_25 hP hD hS => ?_)
  have hI_sg_25 := MI_put hI esg_25 (iv_k (by decide) : iv 0 0 0) (by decide)
  refine lv_iload_n hx hb dX13_setter_5 rfl (lv_at hl 1 rfl) ?_
  have hPc := hP.sub (ws' := []) [] rfl
  have hDc := hD.sub (ws' := []) [] (by decide) rfl
  have hKc := hK.sub (tys' := []) [] rfl
  have hFc := va_free (wc := []) hD hS hA [] rfl
  refine va_calli (va_runS (As := [.int a]) (rest := []) ⟨hx, hb, hml, hown, htb⟩ (c_X13_isClass l dC dI H.size a) (va_cwS 1 htb (gd_S kw_1108 kw_1109 kw_160 kw_1567) rfl rfl rfl (by decide +kernel) ⟨Nat.le_of_ble_eq_true rfl, Nat.le_of_ble_eq_true rfl⟩) ⟨fun a U g mk q => by obtain ⟨q0, q1, qP, qK, qD⟩ := q; exact ⟨q0, q1, qP, va_K.moved (u := U) (U := U.calling g mk a) (Vm.Alike.refl U.vm) qK, qD⟩, fun U hU hW => ⟨rfl, by rw [hU], by rw [hU]; exact hPc, va_K.moved hW.alike hKc, hDc.weaken (fun _ _ _ _ => trivial)⟩⟩ rfl rfl hl.1 rfl (lv_room (Nat.le_of_ble_eq_true rfl)) dX13_setter_6 ⟨Nat.zero_le _, Nat.zero_le _⟩) hS (fun q _ h => hFc q h) hFc (fun r_26 u9 t H1 locs ht hvm hw hB hz1 hk1 hS => ?_)
  have hP := ms_kept hP hz1 hk1
  generalize H1 = H at hP hS ⊢
  have fr_26 : r_26 = zCls a := hw
  have hr_26 : iv 0 1 r_26 := iv_of fr_26 (zCls_iv a)
  refine lv_if_eq (tgt := 37) hx hb dX13_setter_9 (by decide) (fun c_27 => ?_) (fun c_27 => ?_)
  · have h_28 : iv 0 0 r_26 := iv_eq c_27 hr_26 (iv_k (by decide) : iv 0 0 0) (by decide)
    exact hj37 sg_25 (KS_up KS_rf esg_25 (by decide)) hI_sg_25 (Or.inl (fun q8 => by { have q26 := zCls_g (a := a); rw [← fr_26] at q26; have w26 : r_26 = 1 ↔ r_26.toInt = 1 := ⟨fun q => by rw [q]; rfl, fun q => Int32.toInt_inj.mp q⟩; have v26 : r_26 = 0 ↔ r_26.toInt = 0 := ⟨fun q => by rw [q]; rfl, fun q => Int32.toInt_inj.mp q⟩; rw [w26, v26] at q26; have := i32_0; have := i32_1; have := i32_2; have := i32_m1; have := (h_28).1; have := (h_28).2; omega })) _ _ _ hP hD hS (lv_sub hl [0, 1, 2, 3] rfl)
  · have h_29 : iv 0 7 a := zCls_t (by rw [← fr_26]; exact c_27)
    have h_30 : iv 1 1 r_26 := iv_neL c_27 hr_26 (by decide)
    refine lv_iload_n hx hb dX13_setter_12 rfl (lv_at hl 2 rfl) ?_
    have hPc := hP.sub (ws' := []) [] rfl
    have hDc := hD.sub (ws' := []) [] (by decide) rfl
    have hKc := hK.sub (tys' := []) [] rfl
    have hFc := va_free (wc := []) hD hS hA [] rfl
    refine va_calli (va_runS (As := [.int b]) (rest := []) ⟨hx, hb, hml, hown, htb⟩ (c_X13_isLetter l dC dI H.size b) (va_cwS 1 htb (gd_S kw_1120 kw_1121 kw_160 kw_1572) rfl rfl rfl (by decide +kernel) ⟨Nat.le_of_ble_eq_true rfl, Nat.le_of_ble_eq_true rfl⟩) ⟨fun a U g mk q => by obtain ⟨q0, q1, qP, qK, qD⟩ := q; exact ⟨q0, q1, qP, va_K.moved (u := U) (U := U.calling g mk a) (Vm.Alike.refl U.vm) qK, qD⟩, fun U hU hW => ⟨rfl, by rw [hU], by rw [hU]; exact hPc, va_K.moved hW.alike hKc, hDc.weaken (fun _ _ _ _ => trivial)⟩⟩ rfl rfl hl.1 rfl (lv_room (Nat.le_of_ble_eq_true rfl)) dX13_setter_13 ⟨Nat.zero_le _, Nat.zero_le _⟩) hS (fun q _ h => hFc q h) hFc (fun r_31 u9 t H1 locs ht hvm hw hB hz1 hk1 hS => ?_)
    have hP := ms_kept hP hz1 hk1
    generalize H1 = H at hP hS ⊢
    have fr_31 : r_31 = zLet b := hw
    have hr_31 : iv 0 1 r_31 := iv_of fr_31 (zLet_iv b)
    refine lv_if_eq (tgt := 37) hx hb dX13_setter_16 (by decide) (fun c_32 => ?_) (fun c_32 => ?_)
    · have h_33 : iv 0 0 r_31 := iv_eq c_32 hr_31 (iv_k (by decide) : iv 0 0 0) (by decide)
      exact hj37 sg_25 (KS_up KS_rf esg_25 (by decide)) hI_sg_25 (Or.inl (fun q8 => by { have q26 := zCls_g (a := a); rw [← fr_26] at q26; have q31 := zLet_f (a := b); rw [← fr_31] at q31; have w26 : r_26 = 1 ↔ r_26.toInt = 1 := ⟨fun q => by rw [q]; rfl, fun q => Int32.toInt_inj.mp q⟩; have v26 : r_26 = 0 ↔ r_26.toInt = 0 := ⟨fun q => by rw [q]; rfl, fun q => Int32.toInt_inj.mp q⟩; rw [w26, v26] at q26; have w31 : r_31 = 1 ↔ r_31.toInt = 1 := ⟨fun q => by rw [q]; rfl, fun q => Int32.toInt_inj.mp q⟩; have v31 : r_31 = 0 ↔ r_31.toInt = 0 := ⟨fun q => by rw [q]; rfl, fun q => Int32.toInt_inj.mp q⟩; rw [w31, v31] at q31; have := i32_0; have := i32_1; have := i32_2; have := i32_m1; have := (h_30).1; have := (h_30).2; have := (h_29).1; have := (h_29).2; have := (h_33).1; have := (h_33).2; omega })) _ _ _ hP hD hS (lv_sub hl [0, 1, 2, 3] rfl)
    · have h_34 : iv 0 25 b := zLet_t (by rw [← fr_31]; exact c_32)
      have h_35 : iv 1 1 r_31 := iv_neL c_32 hr_31 (by decide)
      refine lv_iload_n hx hb dX13_setter_19 rfl (lv_at hl 3 rfl) ?_
      have hPc := hP.sub (ws' := []) [] rfl
      have hDc := hD.sub (ws' := []) [] (by decide) rfl
      have hKc := hK.sub (tys' := []) [] rfl
      have hFc := va_free (wc := []) hD hS hA [] rfl
      refine va_calli (va_runS (As := [.int f]) (rest := []) ⟨hx, hb, hml, hown, htb⟩ (c_X13_isType l dC dI H.size f) (va_cwS 1 htb (gd_S kw_1115 kw_1116 kw_160 kw_1570) rfl rfl rfl (by decide +kernel) ⟨Nat.le_of_ble_eq_true rfl, Nat.le_of_ble_eq_true rfl⟩) ⟨fun a U g mk q => by obtain ⟨q0, q1, qP, qK, qD⟩ := q; exact ⟨q0, q1, qP, va_K.moved (u := U) (U := U.calling g mk a) (Vm.Alike.refl U.vm) qK, qD⟩, fun U hU hW => ⟨rfl, by rw [hU], by rw [hU]; exact hPc, va_K.moved hW.alike hKc, hDc.weaken (fun _ _ _ _ => trivial)⟩⟩ rfl rfl hl.1 rfl (lv_room (Nat.le_of_ble_eq_true rfl)) dX13_setter_20 ⟨Nat.zero_le _, Nat.zero_le _⟩) hS (fun q _ h => hFc q h) hFc (fun r_36 u9 t H1 locs ht hvm hw hB hz1 hk1 hS => ?_)
      have hP := ms_kept hP hz1 hk1
      generalize H1 = H at hP hS ⊢
      have fr_36 : r_36 = zTyp f := hw
      have hr_36 : iv 0 1 r_36 := iv_of fr_36 (zTyp_iv f)
      refine lv_if_eq (tgt := 37) hx hb dX13_setter_23 (by decide) (fun c_37 => ?_) (fun c_37 => ?_)
      · have h_38 : iv 0 0 r_36 := iv_eq c_37 hr_36 (iv_k (by decide) : iv 0 0 0) (by decide)
        exact hj37 sg_25 (KS_up KS_rf esg_25 (by decide)) hI_sg_25 (Or.inl (fun q8 => by { have q26 := zCls_g (a := a); rw [← fr_26] at q26; have q31 := zLet_f (a := b); rw [← fr_31] at q31; have q36 := zTyp_f (a := f); rw [← fr_36] at q36; have w26 : r_26 = 1 ↔ r_26.toInt = 1 := ⟨fun q => by rw [q]; rfl, fun q => Int32.toInt_inj.mp q⟩; have v26 : r_26 = 0 ↔ r_26.toInt = 0 := ⟨fun q => by rw [q]; rfl, fun q => Int32.toInt_inj.mp q⟩; rw [w26, v26] at q26; have w31 : r_31 = 1 ↔ r_31.toInt = 1 := ⟨fun q => by rw [q]; rfl, fun q => Int32.toInt_inj.mp q⟩; have v31 : r_31 = 0 ↔ r_31.toInt = 0 := ⟨fun q => by rw [q]; rfl, fun q => Int32.toInt_inj.mp q⟩; rw [w31, v31] at q31; have w36 : r_36 = 1 ↔ r_36.toInt = 1 := ⟨fun q => by rw [q]; rfl, fun q => Int32.toInt_inj.mp q⟩; have v36 : r_36 = 0 ↔ r_36.toInt = 0 := ⟨fun q => by rw [q]; rfl, fun q => Int32.toInt_inj.mp q⟩; rw [w36, v36] at q36; have := i32_0; have := i32_1; have := i32_2; have := i32_m1; have := (h_30).1; have := (h_30).2; have := (h_29).1; have := (h_29).2; have := (h_35).1; have := (h_35).2; have := (h_34).1; have := (h_34).2; have := (h_38).1; have := (h_38).2; omega })) _ _ _ hP hD hS (lv_sub hl [0, 1, 2, 3] rfl)
      · have h_39 : iv 0 15 f := zTyp_t (by rw [← fr_36]; exact c_37)
        have h_40 : iv 1 1 r_36 := iv_neL c_37 hr_36 (by decide)
        refine lv_aload_n hx hb dX13_setter_26 rfl (lv_at hl 0 rfl) ?_
        refine mr_get (v := .ref (ad 10)) hx hb htb inX13 hown hK hP 10 (by decide) (htb _ kw_1037) rfl dX13_setter_27 ?_
        refine lv_iload_n hx hb dX13_setter_30 rfl (lv_at hl 1 rfl) ?_
        refine mr_iald hx hb hK hP 9 (k := 10) rfl rfl rfl (show vp_in a 8 from (iv_in h_29 (by decide))) dX13_setter_31 ?_
        refine lv_topi (fun z_41 ez_41 => ?_)
        have hz_41 : iv 0 8 z_41 := iv_of ez_41 (MI_a hI_sg_25 10 h_29 (by decide))
        refine lv_bipush (v := 8) hx hb dX13_setter_32 (by decide) ?_
        refine lv_icmp_ne (tgt := 39) hx hb dX13_setter_34 (by decide) (fun c_42 => ?_) (fun c_42 => ?_)
        · have h_43 : iv 0 7 z_41 := iv_neH c_42 hz_41 (by decide)
          refine lv_iconst (v := 0) hx hb dX13_setter_39 (by decide) ?_
          refine lv_istore (lv' := [(4, .int 0), (0, .ref h0), (1, .int a), (2, .int b), (3, .int f)]) hx hb dX13_setter_40 hl (by decide) rfl (fun ls hl => ?_)
          exact hj42 _ sg_25 0 rfl (iv_w (iv_k (by decide) : iv 0 0 0) (by decide)) h_29 h_34 h_39 (KS_up KS_rf esg_25 (by decide)) hI_sg_25 (by rw [← ez_41]; exact (h_43).2) (by { have q26 := zCls_g (a := a); rw [← fr_26] at q26; have q31 := zLet_f (a := b); rw [← fr_31] at q31; have q36 := zTyp_f (a := f); rw [← fr_36] at q36; have w26 : r_26 = 1 ↔ r_26.toInt = 1 := ⟨fun q => by rw [q]; rfl, fun q => Int32.toInt_inj.mp q⟩; have v26 : r_26 = 0 ↔ r_26.toInt = 0 := ⟨fun q => by rw [q]; rfl, fun q => Int32.toInt_inj.mp q⟩; rw [w26, v26] at q26; have w31 : r_31 = 1 ↔ r_31.toInt = 1 := ⟨fun q => by rw [q]; rfl, fun q => Int32.toInt_inj.mp q⟩; have v31 : r_31 = 0 ↔ r_31.toInt = 0 := ⟨fun q => by rw [q]; rfl, fun q => Int32.toInt_inj.mp q⟩; rw [w31, v31] at q31; have w36 : r_36 = 1 ↔ r_36.toInt = 1 := ⟨fun q => by rw [q]; rfl, fun q => Int32.toInt_inj.mp q⟩; have v36 : r_36 = 0 ↔ r_36.toInt = 0 := ⟨fun q => by rw [q]; rfl, fun q => Int32.toInt_inj.mp q⟩; rw [w36, v36] at q36; have := i32_0; have := i32_1; have := i32_2; have := i32_m1; have := (h_30).1; have := (h_30).2; have := (h_29).1; have := (h_29).2; have := (h_35).1; have := (h_35).2; have := (h_34).1; have := (h_34).2; have := (h_40).1; have := (h_40).2; have := (h_39).1; have := (h_39).2; have := (h_43).1; have := (h_43).2; omega }) ((fun k hk => absurd hk (by { rw [cl_z]; omega }))) _ _ _ hP hD hS (lv_sub hl [0, 1, 2, 3, 4] rfl)
        · have h_44 : iv 8 8 z_41 := iv_eq c_42 hz_41 (iv_k (by decide) : iv 8 8 8) (by decide)
          exact hj37 sg_25 (KS_up KS_rf esg_25 (by decide)) hI_sg_25 (Or.inr (by { rw [← ez_41]; have := i32_0; have := i32_1; have := i32_2; have := i32_m1; have := (h_30).1; have := (h_30).2; have := (h_29).1; have := (h_29).2; have := (h_35).1; have := (h_35).2; have := (h_34).1; have := (h_34).2; have := (h_40).1; have := (h_40).2; have := (h_39).1; have := (h_39).2; have := (h_44).1; have := (h_44).2; omega })) _ _ _ hP hD hS (lv_sub hl [0, 1, 2, 3] rfl)
end
section
section CX9
variable {gm gm2 gn gn2 : Nat → Nat → Int32} {P : Prop} {r r2 : Int32} {c : Nat} {f : Nat → Int32} {a b d n nm st re : Int32}
theorem u3_at {q p : Nat} (hp : p < 3) : upd (upd (upd f (3 * q) a) (3 * q + 1) b) (3 * q + 2) d (3 * q + p) = if p = 0 then a else if p = 1 then b else d := by
  by_cases h0 : p = 0
  · rw [if_pos h0, h0, upd_ne (by omega), upd_ne (by omega), Nat.add_zero, upd_at]
  · rw [if_neg h0]
    by_cases h1 : p = 1
    · rw [if_pos h1, h1, upd_ne (by omega), upd_at]
    · rw [if_neg h1, show p = 2 by omega, upd_at]
theorem u3_ne {q s p : Nat} (hp : p < 3) (hq : ¬ s = q) : upd (upd (upd f (3 * q) a) (3 * q + 1) b) (3 * q + 2) d (3 * s + p) = f (3 * s + p) := by
  rw [upd_ne (by omega), upd_ne (by omega), upd_ne (by omega)]
/-- the declared classes of both sides, and what stays as it was made -/
def FXD (gm : Nat → Nat → Int32) : Prop := ∀ c, c < 8 → (gm 2 c).toInt = (c : Int) ∧ ∀ i, i < 4 → (gm 6 (8 * c + i)).toInt = (i : Int) ∧ (gm 5 (8 * c + 4 + i)).toInt = (c : Int) ∧ (gm 6 (8 * c + 4 + i)).toInt = (i : Int)
def RNG (gm : Nat → Nat → Int32) : Prop := (∀ c, c < 8 → (0 ≤ (gm 0 c).toInt ∧ (gm 0 c).toInt ≤ 4) ∧ (0 ≤ (gm 1 c).toInt ∧ (gm 1 c).toInt ≤ 4) ∧ 0 ≤ (gm 3 c).toInt ∧ (gm 3 c).toInt ≤ 8) ∧ ∀ s, s < 64 → (gm 7 s).toInt ≤ 3
def ST2 (gm : Nat → Nat → Int32) : Prop := ∀ c n, c < 8 → n < 26 → (gm 55 (26 * c + n)).toInt = -1 ∨ ty9 (gm 55 (26 * c + n)).toInt
def SNM (gm gn : Nat → Nat → Int32) : Prop := ∀ c, c < 8 → (gn 10 c).toInt = (gm 3 c).toInt ∧ ∀ k, k < (gn 10 c).toNatClampNeg → 0 ≤ (gn 11 (8 * c + k)).toInt ∧ (gn 11 (8 * c + k)).toInt ≤ 25 ∧ ty9 (gn 12 (8 * c + k)).toInt
def CLX (gm gn : Nat → Nat → Int32) : Prop := CLS9 gm gn ∧ FXD gm ∧ RNG gm ∧ STY9 gm ∧ ST2 gm ∧ SNM gm gn
/-- nothing of it changed -/
theorem CLX_e (h : CLX gm gn) (hg : ∀ k, k = 0 ∨ k = 1 ∨ k = 2 ∨ k = 3 ∨ k = 4 ∨ k = 5 ∨ k = 6 ∨ k = 7 ∨ k = 8 ∨ k = 9 ∨ k = 10 ∨ k = 54 ∨ k = 55 → gm2 k = gm k) (hn : ∀ k, k = 6 ∨ k = 7 ∨ k = 8 ∨ k = 9 ∨ k = 10 ∨ k = 11 ∨ k = 12 ∨ k = 13 ∨ k = 14 ∨ k = 15 ∨ k = 16 ∨ k = 17 ∨ k = 18 → gn2 k = gn k) : CLX gm2 gn2 := by
  unfold CLX CLS9 CL9 FXD RNG STY9 ST2 SNM at *
  rw [hg 0 (by decide), hg 1 (by decide), hg 2 (by decide), hg 3 (by decide), hg 4 (by decide), hg 5 (by decide), hg 6 (by decide), hg 7 (by decide), hg 8 (by decide), hg 9 (by decide), hg 10 (by decide), hg 54 (by decide), hg 55 (by decide), hn 6 (by decide), hn 7 (by decide), hn 8 (by decide), hn 9 (by decide), hn 10 (by decide), hn 11 (by decide), hn 12 (by decide), hn 13 (by decide), hn 14 (by decide), hn 15 (by decide), hn 16 (by decide), hn 17 (by decide), hn 18 (by decide)]
  exact h
/-- declared anew -/
theorem CLX_d {v : Int32} (h : CLX gm gn) (hc : c < 8) (e0 : gm2 0 = upd (gm 0) c 0) (e1 : gm2 1 = upd (gm 1) c 0) (e3 : gm2 3 = upd (gm 3) c 0) (e4 : gm2 4 = upd (gm 4) c v) (eB : BLK (gm 55) (gm2 55) c 26) (hg : ∀ k, k = 2 ∨ k = 5 ∨ k = 6 ∨ k = 7 ∨ k = 8 ∨ k = 9 ∨ k = 10 ∨ k = 54 → gm2 k = gm k) (r7 : gn2 7 = upd (gn 7) c 0) (r13 : gn2 13 = upd (gn 13) c 0) (r10 : gn2 10 = upd (gn 10) c 0) (r6 : gn2 6 = upd (gn 6) c v) (hn : ∀ k, k = 8 ∨ k = 9 ∨ k = 11 ∨ k = 12 ∨ k = 14 ∨ k = 15 ∨ k = 16 ∨ k = 17 ∨ k = 18 → gn2 k = gn k) : CLX gm2 gn2 := by
  obtain ⟨h1, h2, ⟨h3, h3b⟩, h4, h5, h6⟩ := h
  have z0 : (0 : Int32).toInt = 0 := by decide
  have z1 : (0 : Int32).toNatClampNeg = 0 := by decide
  have o55 : ∀ c', c' < 8 → ¬ c' = c → ∀ m, m < 26 → gm2 55 (26 * c' + m) = gm 55 (26 * c' + m) := fun c' _ hcc m hm => eB.2 _ (by omega)
  have n55 : ∀ m, m < 26 → (gm2 55 (26 * c + m)).toInt = -1 := fun m hm => by rw [eB.1 m hm]; decide
  refine ⟨fun c' hc' => ?_, ?_, ⟨fun c' hc' => ?_, ?_⟩, ?_, fun c' m hc' hm => ?_, fun c' hc' => ?_⟩
  · by_cases w : c' = c
    · rw [w]
      unfold CL9
      rw [e0, e1, e4, r7, r13, r10, r6, upd_at, upd_at, upd_at, upd_at, upd_at, upd_at, upd_at, hg 2 (by decide), z0, z1]
      exact ⟨(h2 c hc).1, rfl, rfl, rfl, fun i hi => absurd hi (Nat.not_lt_zero _), fun i hi => absurd hi (Nat.not_lt_zero _), fun i hi => absurd hi (Nat.not_lt_zero _), fun m hm _ => n55 m hm⟩
    · obtain ⟨a1, a2, a3, a4, a5, a6, a7, a8⟩ := h1 c' hc'
      unfold CL9
      rw [e0, e1, e4, r7, r13, r10, r6, upd_ne w, upd_ne w, upd_ne w, upd_ne w, upd_ne w, upd_ne w, upd_ne w, hg 2 (by decide), hg 5 (by decide), hg 6 (by decide), hg 7 (by decide), hg 8 (by decide), hg 9 (by decide), hg 10 (by decide), hg 54 (by decide), hn 8 (by decide), hn 9 (by decide), hn 11 (by decide), hn 12 (by decide), hn 14 (by decide), hn 15 (by decide), hn 16 (by decide), hn 17 (by decide), hn 18 (by decide)]
      refine ⟨a1, a2, a3, a4, a5, a6, fun k hk => ?_, fun m hm hk => ?_⟩
      · have := (h6 c' hc').2 k hk
        have e : (gn 11 (8 * c' + k)).toNatClampNeg = (gn 11 (8 * c' + k)).toInt.toNat := rfl
        rw [o55 c' hc' w _ (by omega)]; exact a7 k hk
      · rw [o55 c' hc' w _ hm]; exact a8 m hm hk
  · unfold FXD; rw [hg 2 (by decide), hg 5 (by decide), hg 6 (by decide)]; exact h2
  · rw [e0, e1, e3]
    by_cases w : c' = c
    · rw [w, upd_at, upd_at, upd_at, z0]; omega
    · rw [upd_ne w, upd_ne w, upd_ne w]; exact h3 c' hc'
  · rw [hg 7 (by decide)]; exact h3b
  · unfold STY9; rw [hg 7 (by decide), hg 54 (by decide)]; exact h4
  · by_cases w : c' = c
    · rw [w]; exact Or.inl (n55 m hm)
    · rw [o55 c' hc' w m hm]; exact h5 c' m hc' hm
  · rw [r10, e3, hn 11 (by decide), hn 12 (by decide)]
    by_cases w : c' = c
    · rw [w, upd_at, upd_at, z1]; exact ⟨rfl, fun k hk => absurd hk (Nat.not_lt_zero _)⟩
    · rw [upd_ne w, upd_ne w]; exact h6 c' hc'
/-- types that are told are types -/
def TYS (n a b d : Int32) : Prop := 0 ≤ n.toInt ∧ n.toInt ≤ 3 ∧ (1 ≤ n.toInt → ty9 a.toInt) ∧ (2 ≤ n.toInt → ty9 b.toInt) ∧ (3 ≤ n.toInt → ty9 d.toInt)
theorem sty_s {q : Nat} (h : STY9 gm) (hq : q < 64) (hT : TYS n a b d) (e7 : gm2 7 = upd (gm 7) q n) (e54 : gm2 54 = upd (upd (upd (gm 54) (3 * q) a) (3 * q + 1) b) (3 * q + 2) d) (h3b : ∀ s, s < 64 → (gm 7 s).toInt ≤ 3) : STY9 gm2 ∧ ∀ s, s < 64 → (gm2 7 s).toInt ≤ 3 := by
  obtain ⟨t0, t1, t2, t3, t4⟩ := hT
  have kn : n.toNatClampNeg = n.toInt.toNat := rfl
  refine ⟨fun s p hs hp => ?_, fun s hs => ?_⟩
  · rw [e7] at hp
    by_cases w : s = q
    · rw [w, upd_at] at hp
      rw [w, e54, u3_at (by omega)]
      by_cases p0 : p = 0
      · rw [if_pos p0]; exact t2 (by omega)
      · rw [if_neg p0]
        by_cases p1 : p = 1
        · rw [if_pos p1]; exact t3 (by omega)
        · rw [if_neg p1]; exact t4 (by omega)
    · rw [upd_ne w] at hp
      have h3 := h3b s hs
      have ks : (gm 7 s).toNatClampNeg = (gm 7 s).toInt.toNat := rfl
      rw [e54, u3_ne (by omega) w]
      exact h s p hs hp
  · rw [e7]
    by_cases w : s = q
    · rw [w, upd_at]; exact t1
    · rw [upd_ne w]; exact h3b s hs
/-- a constructor more -/
theorem CLX_c {z z2 : Int32} (h : CLX gm gn) (hc : c < 8) (hT : TYS n a b d) (hlt : (gm 0 c).toInt < 4) (hz : z.toInt = (gm 0 c).toInt + 1) (e0 : gm2 0 = upd (gm 0) c z) (hS : SIG9 gm gm2 (8 * c + 0 + (gm 0 c).toNatClampNeg) (-1) 0 (gm 2 c) n a b d) (hg : ∀ k, k = 1 ∨ k = 2 ∨ k = 3 ∨ k = 4 ∨ k = 5 ∨ k = 6 ∨ k = 55 → gm2 k = gm k) (hz2 : z2.toInt = (gn 7 c).toInt + 1) (r7 : gn2 7 = upd (gn 7) c z2) (r8 : gn2 8 = upd (gn 8) (4 * c + (gn 7 c).toNatClampNeg) n) (r9 : gn2 9 = upd (upd (upd (gn 9) (3 * (4 * c + (gn 7 c).toNatClampNeg)) a) (3 * (4 * c + (gn 7 c).toNatClampNeg) + 1) b) (3 * (4 * c + (gn 7 c).toNatClampNeg) + 2) d) (hn : ∀ k, k = 6 ∨ k = 10 ∨ k = 11 ∨ k = 12 ∨ k = 13 ∨ k = 14 ∨ k = 15 ∨ k = 16 ∨ k = 17 ∨ k = 18 → gn2 k = gn k) : CLX gm2 gn2 := by
  obtain ⟨h1, h2, ⟨h3, h3b⟩, h4, h5, h6⟩ := h
  obtain ⟨e8, e9, e10, e7, e54⟩ := hS
  have m1 : ((-1 : Int32)).toInt = -1 := by decide
  have z0 : ((0 : Int32)).toInt = 0 := by decide
  have k7 := (h1 c hc).2.2.1
  have kc := h3 c hc
  have em : (gn 7 c).toNatClampNeg = (gm 0 c).toNatClampNeg := by show (gn 7 c).toInt.toNat = (gm 0 c).toInt.toNat; omega
  have ek : (gm 0 c).toNatClampNeg = (gm 0 c).toInt.toNat := rfl
  rw [em] at r8 r9
  obtain ⟨y1, y2⟩ := sty_s h4 (q := 8 * c + 0 + (gm 0 c).toNatClampNeg) (by omega) hT e7 e54 h3b
  have hq : 8 * c + 0 + (gm 0 c).toNatClampNeg = 8 * c + (gm 0 c).toNatClampNeg := by omega
  rw [hq] at e8 e9 e10 e7 e54
  refine ⟨fun c' hc' => ?_, ?_, ⟨fun c' hc' => ?_, y2⟩, y1, ?_, ?_⟩
  · obtain ⟨a1, a2, a3, a4, a5, a6, a7, a8⟩ := h1 c' hc'
    have kc' := h3 c' hc'
    have ek' : (gm 0 c').toNatClampNeg = (gm 0 c').toInt.toNat := rfl
    have ek1 : (gm 1 c').toNatClampNeg = (gm 1 c').toInt.toNat := rfl
    unfold CL9
    rw [hg 1 (by decide), hg 2 (by decide), hg 4 (by decide), hg 5 (by decide), hg 6 (by decide), hg 55 (by decide), hn 6 (by decide), hn 10 (by decide), hn 11 (by decide), hn 12 (by decide), hn 13 (by decide), hn 14 (by decide), hn 15 (by decide), hn 16 (by decide), hn 17 (by decide), hn 18 (by decide)]
    have fac : ∀ i, i < (gm 1 c').toNatClampNeg → ¬ 8 * c' + 4 + i = 8 * c + (gm 0 c).toNatClampNeg := fun i hi => by omega
    have old : ∀ i, i < (gm 0 c').toNatClampNeg → ¬ (8 * c' + i = 8 * c + (gm 0 c).toNatClampNeg) → (gn2 8 (4 * c' + i)).toInt = (gm2 7 (8 * c' + i)).toInt ∧ (∀ p, p < (gm2 7 (8 * c' + i)).toNatClampNeg → (gn2 9 (3 * (4 * c' + i) + p)).toInt = (gm2 54 (3 * (8 * c' + i) + p)).toInt) ∧ (gm2 8 (8 * c' + i)).toInt = -1 ∧ (gm2 9 (8 * c' + i)).toInt = 0 ∧ (gm2 10 (8 * c' + i)).toInt = (c' : Int) ∧ (gm 6 (8 * c' + i)).toInt = (i : Int) := by
      intro i hi hne
      have hne2 : ¬ 4 * c' + i = 4 * c + (gm 0 c).toNatClampNeg := by omega
      obtain ⟨b1, b2, b3, b4, b5, b6⟩ := a5 i hi
      have h7 := h3b (8 * c' + i) (by omega)
      have k7' : (gm 7 (8 * c' + i)).toNatClampNeg = (gm 7 (8 * c' + i)).toInt.toNat := rfl
      rw [e7, e8, e9, e10, r8, upd_ne hne, upd_ne hne, upd_ne hne, upd_ne hne, upd_ne hne2]
      refine ⟨b1, fun p hp => ?_, b3, b4, b5, b6⟩
      rw [r9, e54, u3_ne (by omega) hne2, u3_ne (by omega) hne]; exact b2 p hp
    refine ⟨a1, a2, ?_, a4, ?_, fun i hi => ?_, a7, a8⟩
    · rw [e0, r7]
      by_cases w : c' = c
      · rw [w, upd_at, upd_at]; omega
      · rw [upd_ne w, upd_ne w]; exact a3
    · rw [e0]
      by_cases w : c' = c
      · rw [w, upd_at]
        intro i hi
        have kz : z.toNatClampNeg = z.toInt.toNat := rfl
        by_cases u : i = (gm 0 c).toNatClampNeg
        · rw [u, e7, e8, e9, e10, r8, upd_at, upd_at, upd_at, upd_at, upd_at]
          have hnn : n.toNatClampNeg = n.toInt.toNat := rfl
          have := hT.2.1
          refine ⟨rfl, fun p hp => ?_, m1, z0, (h2 c hc).1, ?_⟩
          · rw [r9, e54, u3_at (by omega), u3_at (by omega)]
          · exact ((h2 c hc).2 _ (by omega)).1
        · rw [w] at old
          exact old i (by omega) (by omega)
      · rw [upd_ne w]
        exact fun i hi => old i hi (by omega)
    · have hf := fac i hi
      obtain ⟨b1, b2, b3, b4, b5, b6, b7, b8⟩ := a6 i hi
      have h7 := h3b (8 * c' + 4 + i) (by omega)
      have k7' : (gm 7 (8 * c' + 4 + i)).toNatClampNeg = (gm 7 (8 * c' + 4 + i)).toInt.toNat := rfl
      rw [e7, e8, e9, e10, upd_ne hf, upd_ne hf, upd_ne hf, upd_ne hf]
      refine ⟨b1, b2, b3, b4, fun p hp => ?_, b6, b7, b8⟩
      rw [e54, u3_ne (by omega) hf]; exact b5 p hp
  · unfold FXD; rw [hg 2 (by decide), hg 5 (by decide), hg 6 (by decide)]; exact h2
  · rw [e0, hg 1 (by decide), hg 3 (by decide)]
    by_cases w : c' = c
    · rw [w, upd_at]; exact ⟨by omega, kc.2⟩
    · rw [upd_ne w]; exact h3 c' hc'
  · unfold ST2; rw [hg 55 (by decide)]; exact h5
  · unfold SNM; rw [hg 3 (by decide), hn 10 (by decide), hn 11 (by decide), hn 12 (by decide)]; exact h6
/-- a factory more -/
theorem CLX_f {z z2 : Int32} (h : CLX gm gn) (hc : c < 8) (hT : TYS n a b d) (hnm : 0 ≤ nm.toInt) (hlt : (gm 1 c).toInt < 4) (hz : z.toInt = (gm 1 c).toInt + 1) (e1 : gm2 1 = upd (gm 1) c z) (hS : SIG9 gm gm2 (8 * c + 4 + (gm 1 c).toNatClampNeg) nm st re n a b d) (hg : ∀ k, k = 0 ∨ k = 2 ∨ k = 3 ∨ k = 4 ∨ k = 5 ∨ k = 6 ∨ k = 55 → gm2 k = gm k) (hz2 : z2.toInt = (gn 13 c).toInt + 1) (r13 : gn2 13 = upd (gn 13) c z2) (r14 : gn2 14 = upd (gn 14) (4 * c + (gn 13 c).toNatClampNeg) nm) (r18 : gn2 18 = upd (gn 18) (4 * c + (gn 13 c).toNatClampNeg) st) (r15 : gn2 15 = upd (gn 15) (4 * c + (gn 13 c).toNatClampNeg) re) (r16 : gn2 16 = upd (gn 16) (4 * c + (gn 13 c).toNatClampNeg) n) (r17 : gn2 17 = upd (upd (upd (gn 17) (3 * (4 * c + (gn 13 c).toNatClampNeg)) a) (3 * (4 * c + (gn 13 c).toNatClampNeg) + 1) b) (3 * (4 * c + (gn 13 c).toNatClampNeg) + 2) d) (hn : ∀ k, k = 6 ∨ k = 7 ∨ k = 8 ∨ k = 9 ∨ k = 10 ∨ k = 11 ∨ k = 12 → gn2 k = gn k) : CLX gm2 gn2 := by
  obtain ⟨h1, h2, ⟨h3, h3b⟩, h4, h5, h6⟩ := h
  obtain ⟨e8, e9, e10, e7, e54⟩ := hS
  have k13 := (h1 c hc).2.2.2.1
  have kc := h3 c hc
  have em : (gn 13 c).toNatClampNeg = (gm 1 c).toNatClampNeg := by show (gn 13 c).toInt.toNat = (gm 1 c).toInt.toNat; omega
  have ek : (gm 1 c).toNatClampNeg = (gm 1 c).toInt.toNat := rfl
  rw [em] at r14 r15 r16 r17 r18
  obtain ⟨y1, y2⟩ := sty_s h4 (q := 8 * c + 4 + (gm 1 c).toNatClampNeg) (by omega) hT e7 e54 h3b
  refine ⟨fun c' hc' => ?_, ?_, ⟨fun c' hc' => ?_, y2⟩, y1, ?_, ?_⟩
  · obtain ⟨a1, a2, a3, a4, a5, a6, a7, a8⟩ := h1 c' hc'
    have kc' := h3 c' hc'
    have ek' : (gm 0 c').toNatClampNeg = (gm 0 c').toInt.toNat := rfl
    have ek1 : (gm 1 c').toNatClampNeg = (gm 1 c').toInt.toNat := rfl
    unfold CL9
    rw [hg 0 (by decide), hg 2 (by decide), hg 4 (by decide), hg 5 (by decide), hg 6 (by decide), hg 55 (by decide), hn 6 (by decide), hn 7 (by decide), hn 8 (by decide), hn 9 (by decide), hn 10 (by decide), hn 11 (by decide), hn 12 (by decide)]
    have con : ∀ i, i < (gm 0 c').toNatClampNeg → ¬ 8 * c' + i = 8 * c + 4 + (gm 1 c).toNatClampNeg := fun i hi => by omega
    have old : ∀ i, i < (gm 1 c').toNatClampNeg → ¬ (8 * c' + 4 + i = 8 * c + 4 + (gm 1 c).toNatClampNeg) → (gn2 14 (4 * c' + i)).toInt = (gm2 8 (8 * c' + 4 + i)).toInt ∧ (gn2 18 (4 * c' + i)).toInt = (gm2 9 (8 * c' + 4 + i)).toInt ∧ (gn2 15 (4 * c' + i)).toInt = (gm2 10 (8 * c' + 4 + i)).toInt ∧ (gn2 16 (4 * c' + i)).toInt = (gm2 7 (8 * c' + 4 + i)).toInt ∧ (∀ p, p < (gm2 7 (8 * c' + 4 + i)).toNatClampNeg → (gn2 17 (3 * (4 * c' + i) + p)).toInt = (gm2 54 (3 * (8 * c' + 4 + i) + p)).toInt) ∧ (gm 5 (8 * c' + 4 + i)).toInt = (c' : Int) ∧ (gm 6 (8 * c' + 4 + i)).toInt = (i : Int) ∧ 0 ≤ (gm2 8 (8 * c' + 4 + i)).toInt := by
      intro i hi hne
      have hne2 : ¬ 4 * c' + i = 4 * c + (gm 1 c).toNatClampNeg := by omega
      obtain ⟨b1, b2, b3, b4, b5, b6, b7, b8⟩ := a6 i hi
      have h7 := h3b (8 * c' + 4 + i) (by omega)
      have k7' : (gm 7 (8 * c' + 4 + i)).toNatClampNeg = (gm 7 (8 * c' + 4 + i)).toInt.toNat := rfl
      rw [e7, e8, e9, e10, r14, r15, r16, r18, upd_ne hne, upd_ne hne, upd_ne hne, upd_ne hne, upd_ne hne2, upd_ne hne2, upd_ne hne2, upd_ne hne2]
      refine ⟨b1, b2, b3, b4, fun p hp => ?_, b6, b7, b8⟩
      rw [r17, e54, u3_ne (by omega) hne2, u3_ne (by omega) hne]; exact b5 p hp
    refine ⟨a1, a2, a3, ?_, fun i hi => ?_, ?_, a7, a8⟩
    · rw [e1, r13]
      by_cases w : c' = c
      · rw [w, upd_at, upd_at]; omega
      · rw [upd_ne w, upd_ne w]; exact a4
    · have hf := con i hi
      obtain ⟨b1, b2, b3, b4, b5, b6⟩ := a5 i hi
      have h7 := h3b (8 * c' + i) (by omega)
      have k7' : (gm 7 (8 * c' + i)).toNatClampNeg = (gm 7 (8 * c' + i)).toInt.toNat := rfl
      rw [e7, e8, e9, e10, upd_ne hf, upd_ne hf, upd_ne hf, upd_ne hf]
      refine ⟨b1, fun p hp => ?_, b3, b4, b5, b6⟩
      rw [e54, u3_ne (by omega) hf]; exact b2 p hp
    · rw [e1]
      by_cases w : c' = c
      · rw [w, upd_at]
        intro i hi
        have kz : z.toNatClampNeg = z.toInt.toNat := rfl
        by_cases u : i = (gm 1 c).toNatClampNeg
        · rw [u, e7, e8, e9, e10, r14, r15, r16, r18, upd_at, upd_at, upd_at, upd_at, upd_at, upd_at, upd_at, upd_at]
          have hnn : n.toNatClampNeg = n.toInt.toNat := rfl
          have := hT.2.1
          have hf := (h2 c hc).2 (gm 1 c).toNatClampNeg (by omega)
          refine ⟨rfl, rfl, rfl, rfl, fun p hp => ?_, hf.2.1, hf.2.2, hnm⟩
          rw [r17, e54, u3_at (by omega), u3_at (by omega)]
        · rw [w] at old
          exact old i (by omega) (by omega)
      · rw [upd_ne w]
        exact fun i hi => old i hi (by omega)
  · unfold FXD; rw [hg 2 (by decide), hg 5 (by decide), hg 6 (by decide)]; exact h2
  · rw [e1, hg 0 (by decide), hg 3 (by decide)]
    by_cases w : c' = c
    · rw [w, upd_at]; exact ⟨kc.1, by omega, kc.2.2⟩
    · rw [upd_ne w]; exact h3 c' hc'
  · unfold ST2; rw [hg 55 (by decide)]; exact h5
  · unfold SNM; rw [hg 3 (by decide), hn 10 (by decide), hn 11 (by decide), hn 12 (by decide)]; exact h6
/-- a setter more -/
theorem CLX_s {z z2 v m : Int32} (h : CLX gm gn) (hc : c < 8) (hm : 0 ≤ m.toInt ∧ m.toInt ≤ 25) (hv : ty9 v.toInt) (hlt : (gm 3 c).toInt < 8) (hz : z.toInt = (gm 3 c).toInt + 1) (e3 : gm2 3 = upd (gm 3) c z) (e55 : gm2 55 = upd (gm 55) (26 * c + m.toNatClampNeg) v) (hg : ∀ k, k = 0 ∨ k = 1 ∨ k = 2 ∨ k = 4 ∨ k = 5 ∨ k = 6 ∨ k = 7 ∨ k = 8 ∨ k = 9 ∨ k = 10 ∨ k = 54 → gm2 k = gm k) (hno : ∀ i, i < (gn 10 c).toNatClampNeg → ¬ gn 11 (8 * c + i) = m) (hz2 : z2.toInt = (gn 10 c).toInt + 1) (r10 : gn2 10 = upd (gn 10) c z2) (r11 : gn2 11 = upd (gn 11) (8 * c + (gn 10 c).toNatClampNeg) m) (r12 : gn2 12 = upd (gn 12) (8 * c + (gn 10 c).toNatClampNeg) v) (hn : ∀ k, k = 6 ∨ k = 7 ∨ k = 8 ∨ k = 9 ∨ k = 13 ∨ k = 14 ∨ k = 15 ∨ k = 16 ∨ k = 17 ∨ k = 18 → gn2 k = gn k) : CLX gm2 gn2 := by
  obtain ⟨h1, h2, ⟨h3, h3b⟩, h4, h5, h6⟩ := h
  have km : m.toNatClampNeg = m.toInt.toNat := rfl
  have kc := h3 c hc
  have k10 := (h6 c hc).1
  have e10 : (gn 10 c).toNatClampNeg = (gn 10 c).toInt.toNat := rfl
  have kz : z2.toNatClampNeg = z2.toInt.toNat := rfl
  have old : ∀ c', c' < 8 → ∀ k, k < (gn 10 c').toNatClampNeg → gn2 11 (8 * c' + k) = gn 11 (8 * c' + k) ∧ gn2 12 (8 * c' + k) = gn 12 (8 * c' + k) ∧ ¬ 26 * c' + (gn 11 (8 * c' + k)).toNatClampNeg = 26 * c + m.toNatClampNeg := by
    intro c' hc' k hk
    have kc' := h3 c' hc'
    have k10' := (h6 c' hc').1
    have e10' : (gn 10 c').toNatClampNeg = (gn 10 c').toInt.toNat := rfl
    have hne : ¬ 8 * c' + k = 8 * c + (gn 10 c).toNatClampNeg := by
      intro q
      have : c' = c := by omega
      rw [this] at hk q; omega
    have hr := (h6 c' hc').2 k hk
    have e11 : (gn 11 (8 * c' + k)).toNatClampNeg = (gn 11 (8 * c' + k)).toInt.toNat := rfl
    rw [r11, r12, upd_ne hne, upd_ne hne]
    refine ⟨rfl, rfl, fun q => ?_⟩
    have hcc : c' = c := by omega
    rw [hcc] at hk hr e11 q
    exact hno k hk (Int32.toInt_inj.mp (by omega))
  refine ⟨fun c' hc' => ?_, ?_, ⟨fun c' hc' => ?_, ?_⟩, ?_, fun c' j hc' hj => ?_, fun c' hc' => ?_⟩
  · obtain ⟨a1, a2, a3, a4, a5, a6, a7, a8⟩ := h1 c' hc'
    unfold CL9
    rw [hg 0 (by decide), hg 1 (by decide), hg 2 (by decide), hg 4 (by decide), hg 5 (by decide), hg 6 (by decide), hg 7 (by decide), hg 8 (by decide), hg 9 (by decide), hg 10 (by decide), hg 54 (by decide), hn 6 (by decide), hn 7 (by decide), hn 8 (by decide), hn 9 (by decide), hn 13 (by decide), hn 14 (by decide), hn 15 (by decide), hn 16 (by decide), hn 17 (by decide), hn 18 (by decide)]
    refine ⟨a1, a2, a3, a4, a5, a6, ?_, ?_⟩
    · rw [r10]
      by_cases w : c' = c
      · rw [w, upd_at]
        rw [w] at a7
        intro k hk
        by_cases u : k = (gn 10 c).toNatClampNeg
        · rw [u, r11, r12, upd_at, upd_at, e55, upd_at]
        · obtain ⟨o1, o2, o3⟩ := old c hc k (by omega)
          rw [o1, o2, e55, upd_ne o3]; exact a7 k (by omega)
      · rw [upd_ne w]
        intro k hk
        obtain ⟨o1, o2, o3⟩ := old c' hc' k hk
        rw [o1, o2, e55, upd_ne o3]; exact a7 k hk
    · rw [r10]
      by_cases w : c' = c
      · rw [w, upd_at]
        rw [w] at a8
        intro j hj hk
        have hjm : ¬ 26 * c + j = 26 * c + m.toNatClampNeg := fun q => by
          refine hk (gn 10 c).toNatClampNeg (by omega) ?_
          rw [r11, upd_at]; omega
        rw [e55, upd_ne hjm]
        refine a8 j hj (fun k hk2 => ?_)
        have := hk k (by omega)
        rw [(old c hc k hk2).1] at this; exact this
      · rw [upd_ne w]
        intro j hj hk
        rw [e55, upd_ne (by omega)]
        refine a8 j hj (fun k hk2 => ?_)
        have := hk k hk2
        rw [(old c' hc' k hk2).1] at this; exact this
  · unfold FXD; rw [hg 2 (by decide), hg 5 (by decide), hg 6 (by decide)]; exact h2
  · rw [e3, hg 0 (by decide), hg 1 (by decide)]
    by_cases w : c' = c
    · rw [w, upd_at]; exact ⟨kc.1, kc.2.1, by omega⟩
    · rw [upd_ne w]; exact h3 c' hc'
  · rw [hg 7 (by decide)]; exact h3b
  · unfold STY9; rw [hg 7 (by decide), hg 54 (by decide)]; exact h4
  · rw [e55]
    by_cases w : 26 * c' + j = 26 * c + m.toNatClampNeg
    · rw [w, upd_at]; exact Or.inr hv
    · rw [upd_ne w]; exact h5 c' j hc' hj
  · rw [r10, e3]
    by_cases w : c' = c
    · rw [w, upd_at, upd_at]
      refine ⟨by omega, fun k hk => ?_⟩
      by_cases u : k = (gn 10 c).toNatClampNeg
      · rw [u, r11, r12, upd_at, upd_at]; exact ⟨hm.1, hm.2, hv⟩
      · obtain ⟨o1, o2, _⟩ := old c hc k (by omega)
        rw [o1, o2]; exact (h6 c hc).2 k (by omega)
    · rw [upd_ne w, upd_ne w]
      refine ⟨(h6 c' hc').1, fun k hk => ?_⟩
      obtain ⟨o1, o2, _⟩ := old c' hc' k hk
      rw [o1, o2]; exact (h6 c' hc').2 k hk
/-- a letter that has a setter, on both sides -/
theorem CLX_has {m : Int32} (h : CLX gm gn) (hc : c < 8) (hm : 0 ≤ m.toInt ∧ m.toInt ≤ 25) : gm 55 (26 * c + m.toNatClampNeg) = -1 ↔ ∀ i, i < (gn 10 c).toNatClampNeg → ¬ gn 11 (8 * c + i) = m := by
  obtain ⟨h1, h2, _, h4, h5, h6⟩ := h
  obtain ⟨a1, a2, a3, a4, a5, a6, a7, a8⟩ := h1 c hc
  have km : m.toNatClampNeg = m.toInt.toNat := rfl
  constructor
  · intro q i hi e
    have h7 := a7 i hi
    have ht := ((h6 c hc).2 i hi).2.2
    rw [e, q] at h7
    have : (-1 : Int32).toInt = -1 := by decide
    rw [← h7] at ht
    rcases ht with w | w <;> omega
  · intro q
    refine Int32.toInt_inj.mp ((a8 m.toNatClampNeg (by omega) (fun k hk e => ?_)).trans (by decide))
    have hr := (h6 c hc).2 k hk
    have e11 : (gn 11 (8 * c + k)).toNatClampNeg = (gn 11 (8 * c + k)).toInt.toNat := rfl
    exact q k hk (Int32.toInt_inj.mp (by omega))
end CX9
end
section
section IV9
variable {ws rs : Nat → Int32} {wg rg : Nat → Nat → Int32} {wl lg : Nat → Nat → Int64} {S S2 : S9} {n : Nat}
/-- getting keeps what the rows are asked for -/
theorem zGt_inv (hB : BRG ws wg wl rs rg lg) (h0 : iv 0 80 (ws 12)) {v : Int64} {r : Option Int} (h : zGt ws wg wl n v S = (r, S2)) (hZ : WZ9 wg wl S) (hN : NB9 S) (hO : OB9 (ws 12).toNatClampNeg S) : WZ9 wg wl S2 ∧ NB9 S2 ∧ OB9 (ws 12).toNatClampNeg S2 := by
  rw [zGt_r h0] at h
  have z1 := WZ_gt (ws := ws) n (caN ws wg wl v) hZ
  have o1 := OB_gt hB h0 n (caN ws wg wl v) (caN_lt h0 v) hO
  cases q : gtR ws wg wl n (caN ws wg wl v) S with
  | mk o S1 =>
    rw [q] at h z1 o1
    cases o with
    | some x =>
      have h : (some x, S1) = (r, S2) := h
      have e : S1 = S2 := congrArg Prod.snd h
      rw [← e]
      exact ⟨z1, NB_k hN (KN_gt q), o1⟩
    | none =>
      have h : ((none : Option Int), zSt S1) = (r, S2) := h
      have e : zSt S1 = S2 := congrArg Prod.snd h
      rw [← e]
      exact ⟨WZ_st z1, NB_st, OB_e o1 rfl⟩
theorem rfL_inv (hB : BRG ws wg wl rs rg lg) (h0 : iv 0 80 (ws 12)) : ∀ (k b : Nat) (S : S9) (r : Option Int) (S2 : S9), b + k ≤ (ws 12).toNatClampNeg → WZ9 wg wl S → OB9 (ws 12).toNatClampNeg S → rfL ws wg wl n k b S = (r, S2) → WZ9 wg wl S2 ∧ OB9 (ws 12).toNatClampNeg S2 ∧ (∀ x, r = some x → KN9 S S2)
  | 0, b, S, r, S2, _, hZ, hO, h => by
    have h : (some (0 : Int), S) = (r, S2) := h
    have e : S = S2 := congrArg Prod.snd h
    rw [← e]
    exact ⟨hZ, hO, fun _ _ => KN_rf⟩
  | k + 1, b, S, r, S2, hb, hZ, hO, h => by
    have h : (if ¬ wl 4 b = 0 ∧ wg 34 b = 0 ∧ wg 35 b = 0 ∧ wg 36 b = 0 then bd9 (oGet wg (oMK ws wg wl n) (b : Int) S) (fun _ S => rfL ws wg wl n k (b + 1) S) else rfL ws wg wl n k (b + 1) S) = (r, S2) := h
    by_cases q : ¬ wl 4 b = 0 ∧ wg 34 b = 0 ∧ wg 35 b = 0 ∧ wg 36 b = 0
    · rw [if_pos q, gt_rf q] at h
      have z1 := WZ_gt (ws := ws) n (b : Int) hZ
      have o1 := OB_gt hB h0 n (b : Int) (by omega) hO
      cases w : gtR ws wg wl n (b : Int) S with
      | mk o S1 =>
        rw [w] at h z1 o1
        cases o with
        | some x =>
          have h : rfL ws wg wl n k (b + 1) S1 = (r, S2) := h
          obtain ⟨i1, i2, i3⟩ := rfL_inv hB h0 k (b + 1) S1 r S2 (by omega) z1 o1 h
          exact ⟨i1, i2, fun y hy => KN_tr (KN_gt w) (i3 y hy)⟩
        | none =>
          have h : ((none : Option Int), S1) = (r, S2) := h
          have e : S1 = S2 := congrArg Prod.snd h
          have e2 : none = r := congrArg Prod.fst h
          rw [← e]
          exact ⟨z1, o1, fun y hy => by rw [← e2] at hy; cases hy⟩
    · rw [if_neg q] at h
      exact rfL_inv hB h0 k (b + 1) S r S2 (by omega) hZ hO h
theorem zRf_inv (hB : BRG ws wg wl rs rg lg) (h0 : iv 0 80 (ws 12)) {r : Option Int} (h : zRf ws wg wl n S = (r, S2)) (hN : NB9 S) (hO : OB9 (ws 12).toNatClampNeg S) : WZ9 wg wl S2 ∧ NB9 S2 ∧ OB9 (ws 12).toNatClampNeg S2 := by
  have zz : WZ9 wg wl (zCe (zFo S)) := WZ_e (WZ_fo (S := S)) rfl rfl
  have nn : NB9 (zCe (zFo S)) := NB_fo hN
  unfold zRf at h
  cases q : rfL ws wg wl n (ws 12).toNatClampNeg 0 (zCe (zFo S)) with
  | mk o S1 =>
    rw [q] at h
    obtain ⟨i1, i2, i3⟩ := rfL_inv hB h0 (ws 12).toNatClampNeg 0 (zCe (zFo S)) o S1 (by omega) zz (OB_e hO rfl) q
    cases o with
    | some x =>
      have h : (some ((zO S1).length : Int), S1) = (r, S2) := h
      have e : S1 = S2 := congrArg Prod.snd h
      rw [← e]
      exact ⟨i1, NB_k nn (i3 x rfl), i2⟩
    | none =>
      have h : ((none : Option Int), zCl wg (zSt S1)) = (r, S2) := h
      have e : zCl wg (zSt S1) = S2 := congrArg Prod.snd h
      rw [← e]
      refine ⟨WZ_cl, NB_cl NB_st, OB_e i2 ?_⟩
      show zO (dsL wg (zF (zSt S1)).reverse (zSt S1)) = zO S1
      rw [(dsL_S _ _).2]; rfl
end IV9
end
section
/-- the same text typed, and only such as may be -/
def TXR (sg : Nat → Int32) (gm : Nat → Nat → Int32) (sm : Nat → Int32) (gn : Nat → Nat → Int32) : Prop := sg 0 = sm 20 ∧ ∀ i : Nat, (i : Int) < (sg 0).toInt → gm 43 i = gn 19 i ∧ 1 ≤ (gn 19 i).toInt ∧ (gn 19 i).toInt ≤ 126
theorem TXR_k {sg sg2 sm sm2 : Nat → Int32} {gm gm2 gn gn2 : Nat → Nat → Int32} (h : TXR sg gm sm gn) (e0 : sg2 0 = sg 0) (e43 : gm2 43 = gm 43) (e20 : sm2 20 = sm 20) (e19 : gn2 19 = gn 19) : TXR sg2 gm2 sm2 gn2 := by unfold TXR; rw [e0, e43, e20, e19]; exact h
theorem TXR_0 {sg sm : Nat → Int32} {gm gn : Nat → Nat → Int32} (e0 : (sg 0).toInt = 0) (e20 : (sm 20).toInt = 0) : TXR sg gm sm gn := ⟨Int32.toInt_inj.mp (e0.trans e20.symm), fun i hi => by omega⟩
theorem tyN_ex (p1 p2 p3 p4 p5 : Int32) : ∀ n j, j < tyN p1 p2 p3 p4 p5 n → ∃ k, k < n ∧ ¬ tyS p1 p2 p3 p4 p5 (nI k) = 0 ∧ tyN p1 p2 p3 p4 p5 k = j := by
  intro n
  induction n with
  | zero => intro j h; exact absurd h (Nat.not_lt_zero j)
  | succ n ih =>
    intro j h
    have h : j < tyN p1 p2 p3 p4 p5 n + (if tyS p1 p2 p3 p4 p5 (nI n) = 0 then 0 else 1) := h
    by_cases q : j < tyN p1 p2 p3 p4 p5 n
    · obtain ⟨k, a, b⟩ := ih j q; exact ⟨k, by omega, b⟩
    · by_cases z : tyS p1 p2 p3 p4 p5 (nI n) = 0
      · rw [if_pos z] at h; omega
      · rw [if_neg z] at h; exact ⟨n, by omega, z, by omega⟩
theorem TXR_t {p1 p2 p3 p4 p5 r r' : Int32} {sg sg2 sm sm2 : Nat → Int32} {gm gm2 gn gn2 : Nat → Nat → Int32} (h : TXR sg gm sm gn) (h0 : 0 ≤ (sg 0).toInt) (fT : TYR p1 p2 p3 p4 p5 r (sg 0) (sg2 0)) (gT : TYR p1 p2 p3 p4 p5 r' (sm 20) (sm2 20)) (fX : r.toInt = -1 ∨ TYX p1 p2 p3 p4 p5 (sg 0).toInt (gm2 43) (gm 43) 20) (fK : ∀ i : Nat, (i : Int) < (sg 0).toInt → gm2 43 i = gm 43 i) (gX : r'.toInt = -1 ∧ gn2 19 = gn 19 ∨ TYX p1 p2 p3 p4 p5 (sm 20).toInt (gn2 19) (gn 19) 20) : TXR sg2 gm2 sm2 gn2 := by
  obtain ⟨e1, e2⟩ := TYR_e h.1 fT gT
  subst e1
  refine ⟨e2, ?_⟩
  rcases fT with ⟨a1, a2, a3⟩ | ⟨a1, a2, a3, a4⟩
  · rw [a3]
    have g19 : ∀ i : Nat, (i : Int) < (sg 0).toInt → gn2 19 i = gn 19 i := fun i hi => by
      rcases gX with q | q
      · rw [q.2]
      · exact q.1 i (by rw [← h.1]; exact hi)
    intro i hi
    rw [fK i hi, g19 i hi]
    exact h.2 i hi
  · have hr : ¬ r.toInt = -1 := by omega
    have fX := fX.resolve_left hr
    have gX := gX.resolve_left (fun q => hr q.1)
    rw [← h.1] at gX
    intro i hi
    rw [a4, a1] at hi
    by_cases q : (i : Int) < (sg 0).toInt
    · rw [fX.1 i q, gX.1 i q]; exact h.2 i q
    · obtain ⟨k, k1, k2, k3⟩ := tyN_ex p1 p2 p3 p4 p5 20 (i - (sg 0).toInt.toNat) (by omega)
      have ei : i = (sg 0).toInt.toNat + tyN p1 p2 p3 p4 p5 k := by omega
      have b1 := fX.2 k k1 k2
      have b2 := gX.2 k k1 k2
      rw [← ei] at b1 b2
      rw [b1, b2]
      have b3 := a2 k k1
      have b4 : ¬ (tyS p1 p2 p3 p4 p5 (nI k)).toInt = 0 := fun w => k2 (Int32.toInt_inj.mp w)
      exact ⟨rfl, by omega, by omega⟩
/-- the text as both read it -/
def chT (sm : Nat → Int32) (gn : Nat → Nat → Int32) (i : Nat) : Int := if (i : Int) < (sm 20).toInt then (gn 19 i).toInt else -1
theorem chT_r {sm : Nat → Int32} {gn : Nat → Nat → Int32} (h0 : 0 ≤ (sm 20).toInt) : CHR (chT sm gn) (sm 20).toInt.toNat (sm 20) (gn 19) := ⟨by omega, fun _ => rfl⟩
theorem chT_c {sg sm : Nat → Int32} {gm gn : Nat → Nat → Int32} (h : TXR sg gm sm gn) (h0 : 0 ≤ (sm 20).toInt) : CHR (chT sm gn) (sm 20).toInt.toNat (sg 0) (gm 43) := by
  refine ⟨by rw [h.1]; omega, fun i => ?_⟩
  unfold chT
  rw [h.1]
  by_cases q : (i : Int) < (sm 20).toInt
  · rw [if_pos q, if_pos q, (h.2 i (by rw [h.1]; exact q)).1]
  · rw [if_neg q, if_neg q]
theorem chT_p {sg sm : Nat → Int32} {gm gn : Nat → Nat → Int32} (h : TXR sg gm sm gn) : PC7 (chT sm gn) := by
  intro i
  unfold chT
  by_cases q : (i : Int) < (sm 20).toInt
  · rw [if_pos q]; exact Or.inr (h.2 i (by rw [h.1]; exact q)).2
  · rw [if_neg q]; exact Or.inl rfl
theorem ACPQ {ch : Nat → Int} {n : Nat} (hx : XX7 ch n) (hp : PC7 ch) : ACP ch n ↔ ACQ ch n := by
  constructor
  · rintro ⟨a, b⟩; exact ⟨a, (AC_e (sDoc_pv hp a) (hx _ a).1 (hx _ a).2).mp b⟩
  · rintro ⟨a, b⟩; exact ⟨a, (AC_e (sDoc_pv hp a) (hx _ a).1 (hx _ a).2).mpr b⟩
/-- the text and the words that class and reference have in common -/
def REL7 (sg : Nat → Int32) (gm : Nat → Nat → Int32) (sm : Nat → Int32) (gn : Nat → Nat → Int32) (ln : Nat → Nat → Int64) : Prop := TXR sg gm sm gn ∧ ENT (gn 3) (gn 4) (ln 2) ∧ WRD7 (ln 0) (ln 1)
end
section
section RL9s
variable {D : List El7} {sg sg2 sm sm2 rs rs2 : Nat → Int32} {gm gm2 gn gn2 rg rg2 : Nat → Nat → Int32} {lg lg2 ln ln2 : Nat → Nat → Int64} {S S2 : S9}
theorem PBr_e (h : PBr D rs rg lg) (s24 : rs2 24 = rs 24) (s41 : rs2 41 = rs 41) (hg : ∀ k, 20 ≤ k → rg2 k = rg k) : PBr D rs2 rg2 lg := by
  obtain ⟨h1, h2, h3, h4, h5, h6, h7, h8⟩ := h
  have g26 := hg 26 (by omega)
  have g28 := hg 28 (by omega)
  have g29 := hg 29 (by omega)
  have g30 := hg 30 (by omega)
  have g31 := hg 31 (by omega)
  have g36 := hg 36 (by omega)
  have g37 := hg 37 (by omega)
  have g38 := hg 38 (by omega)
  have g39 := hg 39 (by omega)
  have hd : DK rs rg lg rs2 rg2 lg := ⟨⟨s24, g26, g28, g29, g30, g36, g37, g38, rfl⟩, s41, hg 42 (by omega), hg 43 (by omega)⟩
  refine ⟨by rw [s24]; exact h1, fun x hx => ?_, fun k hk => by rw [g26]; exact h3 k hk, ?_, fun c hc => MM_k (h5 c (by rw [s41] at hc; exact hc)) hd (hg 44 (by omega)) (hg 45 (by omega)) (hg 46 (by omega)) (hg 47 (by omega)), fun b h0 h1 => by rw [mPar_k hd]; exact h6 b h0 (by rw [s41] at h1; exact h1), h7, fun b hb => by rw [hg 44 (by omega), hg 46 (by omega)]; exact h8 b hb⟩
  · obtain ⟨a1, ⟨P, a2⟩, a3, a4⟩ := h2 x hx
    refine ⟨?_, ⟨P, ?_⟩, a3, ?_⟩
    · unfold RL7 mWord mIsW mHas mFind at *
      rw [g28, g29, g30, g31, g36, g37, g38]; exact a1
    · unfold ATR at *
      rw [g30, g36, g37, g38]; exact a2
    · unfold TXT7 at *
      rw [g39]; exact a4
  · unfold BN7 at *
    rw [s41, hg 42 (by omega), hg 43 (by omega)]; exact h4
theorem rt_g (hg : ∀ k, 20 ≤ k → gn2 k = gn k) : ∀ k, 20 ≤ k → rt9 gn2 k = rt9 gn k := fun k hk => by unfold rt9; rw [hg k hk]
/-- numbers of the beans -/
def N28 (gm : Nat → Nat → Int32) : Prop := ∀ b, b < 80 → (gm 28 b).toInt = (b : Int)
/-- nothing is made -/
def EMP (S : S9) : Prop := zO S = [] ∧ zE S = [] ∧ zF S = [] ∧ ∀ b, zS S b = 0
/-- no document on either side, or one that is alike -/
def DCR (sg : Nat → Int32) (gm : Nat → Nat → Int32) (lg : Nat → Nat → Int64) (sm : Nat → Int32) (gn : Nat → Nat → Int32) (ln : Nat → Nat → Int64) : Prop := ((sg 1).toInt = 0 ∧ (sm 40).toInt = 0) ∨ (¬ (sg 1).toInt = 0 ∧ ¬ (sm 40).toInt = 0 ∧ ∃ D, PBc D (ss9 sg) (st9 gm) lg ∧ PBr D (rs9 sm) (rt9 gn) ln ∧ PBd D ∧ TLN D)
/-- what is made, alike on both sides -/
def SSR (sg : Nat → Int32) (gm : Nat → Nat → Int32) (lg : Nat → Nat → Int64) (sm : Nat → Int32) (gn : Nat → Nat → Int32) (S : S9) : Prop := RC (st9 gm) lg S sg gm ∧ RR (st9 gm) lg S sm gn ∧ WF9 S ∧ WZ9 (st9 gm) lg S ∧ NB9 S ∧ ((sg 1).toInt = 0 → EMP S) ∧ (¬ (sg 1).toInt = 0 → OB9 (ss9 sg 12).toNatClampNeg S)
/-- what class and reference have in common -/
def REL (sg : Nat → Int32) (gm : Nat → Nat → Int32) (lg : Nat → Nat → Int64) (sm : Nat → Int32) (gn : Nat → Nat → Int32) (ln : Nat → Nat → Int64) : Prop := REL7 sg gm sm gn ln ∧ CLX gm gn ∧ N28 gm ∧ DCR sg gm lg sm gn ln ∧ ∃ S, SSR sg gm lg sm gn S
/-- rows of the class that stay: all of the document and of what is made -/
abbrev KG9 (gm gm2 : Nat → Nat → Int32) : Prop := ∀ k, (11 ≤ k ∧ k ≤ 53 ∧ ¬ k = 43) ∨ k = 56 ∨ k = 57 → gm2 k = gm k
abbrev KN20 (gn gn2 : Nat → Nat → Int32) : Prop := ∀ k, 20 ≤ k → gn2 k = gn k
theorem DCR_e (h : DCR sg gm lg sm gn ln) (hs : ∀ k, k = 1 ∨ k = 4 ∨ k = 12 → sg2 k = sg k) (hg : KG9 gm gm2) (hm : ∀ k, k = 24 ∨ k = 40 ∨ k = 41 → sm2 k = sm k) (hn : KN20 gn gn2) : DCR sg2 gm2 lg sm2 gn2 ln := by
  unfold DCR
  rw [hs 1 (by decide), hm 40 (by decide)]
  rcases h with h | ⟨h1, h2, D, h3, h4, h5, h6⟩
  · exact Or.inl h
  · refine Or.inr ⟨h1, h2, D, ?_, ?_, h5, h6⟩
    · refine PBc_e h3 (hs 4 (by decide)) (hs 12 (by decide)) (fun k hk => ?_) (fun _ _ => rfl)
      rw [st_g k hk, st_g k hk]
      unfold UG9 at hk
      exact hg k (by omega)
    · exact PBr_e h4 (hm 24 (by decide)) (hm 41 (by decide)) (rt_g hn)
theorem RC_w {wg wg2 : Nat → Nat → Int32} (h : RC wg lg S sg gm) (e : wg2 35 = wg 35) : RC wg2 lg S sg gm := by
  unfold RC RCb RCf at *; rw [e]; exact h
theorem RR_w {wg wg2 : Nat → Nat → Int32} (h : RR wg lg S sg gm) (e : wg2 35 = wg 35) : RR wg2 lg S sg gm := by
  unfold RR RRb RRf one9 at *; rw [e]; exact h
theorem WZ_w {wg wg2 : Nat → Nat → Int32} (h : WZ9 wg lg S) (e : wg2 35 = wg 35) : WZ9 wg2 lg S := by
  unfold WZ9 one9 at *; rw [e]; exact h
theorem RR_g (h : RR (st9 gm) lg S sm gn) (hm : ∀ k, k = 41 ∨ k = 48 ∨ k = 49 ∨ k = 50 → sm2 k = sm k) (hn : KN20 gn gn2) : RR (st9 gm) lg S sm2 gn2 := by
  unfold RR RRo RRe RRb RRf at *
  rw [hm 41 (by decide), hm 48 (by decide), hm 49 (by decide), hm 50 (by decide), hn 53 (by decide), hn 54 (by decide), hn 55 (by decide), hn 56 (by decide), hn 57 (by decide), hn 58 (by decide), hn 59 (by decide), hn 60 (by decide), hn 61 (by decide), hn 62 (by decide)]
  exact h
theorem SSR_e (h : SSR sg gm lg sm gn S) (hs : ∀ k, k = 1 ∨ k = 12 ∨ k = 13 ∨ k = 14 ∨ k = 15 → sg2 k = sg k) (hg : KG9 gm gm2) (hm : ∀ k, k = 41 ∨ k = 48 ∨ k = 49 ∨ k = 50 → sm2 k = sm k) (hn : KN20 gn gn2) : SSR sg2 gm2 lg sm2 gn2 S := by
  obtain ⟨h1, h2, h3, h4, h5, h6, h7⟩ := h
  have e35 : st9 gm2 35 = st9 gm 35 := by rw [st_g 35 (by unfold UG9; decide), st_g 35 (by unfold UG9; decide)]; exact hg 35 (by decide)
  refine ⟨RC_w (RC_k h1 (hs 12 (by decide)) (hs 13 (by decide)) (hs 14 (by decide)) (hs 15 (by decide)) (hg 37 (by decide)) (hg 38 (by decide)) (hg 39 (by decide)) (hg 48 (by decide)) (hg 49 (by decide)) (hg 50 (by decide)) (hg 51 (by decide))) e35, RR_w (RR_g h2 hm hn) e35, h3, WZ_w h4 e35, h5, ?_, ?_⟩
  · rw [hs 1 (by decide)]; exact h6
  · rw [hs 1 (by decide)]
    intro q
    have e : ss9 sg2 12 = ss9 sg 12 := hs 12 (by decide)
    rw [e]; exact h7 q
/-- a call that leaves document and making alone -/
theorem REL_e (h : REL sg gm lg sm gn ln) (hT : REL7 sg2 gm2 sm2 gn2 ln) (hX : CLX gm2 gn2) (hs : ∀ k, k = 1 ∨ k = 4 ∨ k = 12 ∨ k = 13 ∨ k = 14 ∨ k = 15 → sg2 k = sg k) (hg : KG9 gm gm2) (hm : ∀ k, k = 24 ∨ k = 40 ∨ k = 41 ∨ k = 48 ∨ k = 49 ∨ k = 50 → sm2 k = sm k) (hn : KN20 gn gn2) : REL sg2 gm2 lg sm2 gn2 ln := by
  obtain ⟨_, _, h3, h4, S, h5⟩ := h
  refine ⟨hT, hX, fun b hb => by rw [hg 28 (by decide)]; exact h3 b hb, DCR_e h4 (fun k hk => hs k (by omega)) hg (fun k hk => hm k (by omega)) hn, S, SSR_e h5 (fun k hk => hs k (by omega)) hg (fun k hk => hm k (by omega)) hn⟩
end RL9s
end
section
section RM8
variable {D : List El7} {sg sg2 sm sm2 : Nat → Int32} {gm gm2 gn gn2 : Nat → Nat → Int32} {lg ln : Nat → Nat → Int64} {S : S9}
/-- one outcome, on both sides -/
theorem OUTz {wg : Nat → Nat → Int32} {nb : Nat} {Z : Option Int × S9} {k t c2 x y : Int} (h2 : ¬ c2 = 0) (hinv : ∀ r S2, Z = (r, S2) → WZ9 wg lg S2 ∧ NB9 S2 ∧ OB9 nb S2) (hc : (k = c2 ∧ ∃ S2, Z = (none, S2) ∧ RC wg lg S2 sg2 gm2) ∨ (k = 0 ∧ ∃ S2, Z = (some x, S2) ∧ RC wg lg S2 sg2 gm2)) (hr : ∃ S2, RR wg lg S2 sm2 gn2 ∧ WF9 S2 ∧ ((t = 0 ∧ Z = (some y, S2)) ∨ (t = c2 ∧ Z = (none, S2)))) : (∃ S2, RC wg lg S2 sg2 gm2 ∧ RR wg lg S2 sm2 gn2 ∧ WF9 S2 ∧ WZ9 wg lg S2 ∧ NB9 S2 ∧ OB9 nb S2) ∧ t = k ∧ (k = 0 → x = y) := by
  obtain ⟨S3, r1, r2, r3⟩ := hr
  rcases hc with ⟨k1, S2, k2, k3⟩ | ⟨k1, S2, k2, k3⟩
  · rcases r3 with ⟨t1, t2⟩ | ⟨t1, t2⟩
    · rw [k2] at t2; cases t2
    · have e : S2 = S3 := congrArg Prod.snd (k2.symm.trans t2)
      rw [← e] at r1 r2
      exact ⟨⟨S2, k3, r1, r2, hinv _ _ k2⟩, t1.trans k1.symm, fun q => absurd (k1.symm.trans q) h2⟩
  · rcases r3 with ⟨t1, t2⟩ | ⟨t1, t2⟩
    · have e0 := k2.symm.trans t2
      have e : S2 = S3 := congrArg Prod.snd e0
      have ex : x = y := Option.some.inj (congrArg Prod.fst e0)
      rw [← e] at r1 r2
      exact ⟨⟨S2, k3, r1, r2, hinv _ _ k2⟩, t1.trans k1.symm, fun _ => ex⟩
    · rw [k2] at t2; cases t2
/-- the state that is made, anew -/
def NEW9 (sg sg2 : Nat → Int32) (gm gm2 : Nat → Nat → Int32) (lg : Nat → Nat → Int64) (sm2 : Nat → Int32) (gn2 : Nat → Nat → Int32) : Prop := ∃ S2, RC (st9 gm) lg S2 sg2 gm2 ∧ RR (st9 gm) lg S2 sm2 gn2 ∧ WF9 S2 ∧ WZ9 (st9 gm) lg S2 ∧ NB9 S2 ∧ ((sg 1).toInt = 0 → EMP S2) ∧ (¬ (sg 1).toInt = 0 → OB9 (ss9 sg 12).toNatClampNeg S2)
theorem REL_mk (h : REL sg gm lg sm gn ln) (k1 : KS [13, 14, 15, 16, 17, 18] sg sg2) (k2 : KS [37, 38, 39, 48, 49, 50, 51, 52, 53] gm gm2) (j1 : KS [5, 48, 49, 50, 51, 52, 63, 74] sm sm2) (j2 : KS [53, 54, 55, 56, 57, 58, 59, 60, 61, 62, 64, 65, 66, 67, 68, 69, 70, 71, 72, 73, 75] gn gn2) (hS : NEW9 sg sg2 gm gm2 lg sm2 gn2) : REL sg2 gm2 lg sm2 gn2 ln := by
  obtain ⟨⟨a1, a2, a3⟩, b, c, d, _⟩ := h
  have w1 : st9 gm2 = st9 gm := st9_ks k2 (by decide)
  have w2 : ss9 sg2 = ss9 sg := ss9_ks k1 (by decide) (by decide)
  have w3 : rt9 gn2 = rt9 gn := rt9_ks j2 (by decide)
  have w4 : rs9 sm2 = rs9 sm := rs9_ks j1 (by decide) (by decide)
  have s1 : sg2 1 = sg 1 := k1 1 (by decide)
  have m40 : sm2 40 = sm 40 := j1 40 (by decide)
  refine ⟨⟨TXR_k a1 (k1 0 (by decide)) (k2 43 (by decide)) (j1 20 (by decide)) (j2 19 (by decide)), ENT_k a2 (j2 3 (by decide)) (j2 4 (by decide)) rfl, a3⟩, CLX_e b (fun k hk => k2 k ?_) (fun k hk => j2 k ?_), fun x hx => by rw [k2 28 (by decide)]; exact c x hx, ?_, ?_⟩
  · rcases hk with q | q | q | q | q | q | q | q | q | q | q | q | q <;> rw [q] <;> decide
  · rcases hk with q | q | q | q | q | q | q | q | q | q | q | q | q <;> rw [q] <;> decide
  · unfold DCR; rw [w1, w2, w3, w4, s1, m40]; exact d
  · obtain ⟨S2, t1, t2, t3, t4, t5, t6, t7⟩ := hS
    refine ⟨S2, ?_⟩
    unfold SSR
    rw [w1, w2, s1]
    exact ⟨t1, t2, t3, t4, t5, t6, t7⟩
/-- what refresh, get have answered: 1 without a document, 2 if it fails -/
def HPC (sg : Nat → Int32) (gm : Nat → Nat → Int32) (lg : Nat → Nat → Int64) (S : S9) (Z : Option Int × S9) (sg2 : Nat → Int32) (gm2 : Nat → Nat → Int32) (k x : Int) : Prop := (k = 1 ∧ (sg 1).toInt = 0 ∧ RC (st9 gm) lg S sg2 gm2) ∨ (¬ (sg 1).toInt = 0 ∧ ((k = 2 ∧ ∃ S2, Z = (none, S2) ∧ RC (st9 gm) lg S2 sg2 gm2) ∨ (k = 0 ∧ ∃ S2, Z = (some x, S2) ∧ RC (st9 gm) lg S2 sg2 gm2)))
def HPR (sm : Nat → Int32) (wg : Nat → Nat → Int32) (lg : Nat → Nat → Int64) (S : S9) (Z : Option Int × S9) (sm2 : Nat → Int32) (gn2 : Nat → Nat → Int32) (y : Int) : Prop := ((sm 40).toInt = 0 ∧ (sm2 5).toInt = 1 ∧ RR wg lg S sm2 gn2) ∨ (¬ (sm 40).toInt = 0 ∧ ∃ S2, RR wg lg S2 sm2 gn2 ∧ WF9 S2 ∧ (((sm2 5).toInt = 0 ∧ Z = (some y, S2)) ∨ ((sm2 5).toInt = 2 ∧ Z = (none, S2))))
theorem OUT_1 {Z Z2 : Option Int × S9} {k x y : Int} (hD : DCR sg gm lg sm gn ln) (hS : SSR sg gm lg sm gn S) (hc : HPC sg gm lg S Z sg2 gm2 k x) (hr : HPR sm (st9 gm) lg S Z2 sm2 gn2 y) (hZ : ¬ (sg 1).toInt = 0 → Z = Z2 ∧ ∀ r S2, Z = (r, S2) → WZ9 (st9 gm) lg S2 ∧ NB9 S2 ∧ OB9 (ss9 sg 12).toNatClampNeg S2) : NEW9 sg sg2 gm gm2 lg sm2 gn2 ∧ (sm2 5).toInt = k ∧ (k = 0 → x = y) := by
  obtain ⟨_, _, s3, s4, s5, s6, s7⟩ := hS
  rcases hD with ⟨d1, d2⟩ | ⟨d1, d2, _⟩
  · rcases hc with ⟨c1, _, c3⟩ | ⟨c1, _⟩
    · rcases hr with ⟨_, r2, r3⟩ | ⟨r1, _⟩
      · exact ⟨⟨S, c3, r3, s3, s4, s5, s6, s7⟩, by omega, fun q => by omega⟩
      · exact absurd d2 r1
    · exact absurd d1 c1
  · obtain ⟨z1, z2⟩ := hZ d1
    rcases hc with ⟨_, c2, _⟩ | ⟨_, c2⟩
    · exact absurd c2 d1
    · rcases hr with ⟨r1, _⟩ | ⟨_, r2⟩
      · exact absurd r1 d2
      · rw [← z1] at r2
        obtain ⟨⟨S2, o1, o2, o3, o4, o5, o6⟩, q1, q2⟩ := OUTz (by decide) z2 c2 r2
        exact ⟨⟨S2, o1, o2, o3, o4, o5, fun q => absurd q d1, fun _ => o6⟩, q1, q2⟩
/-- what the contracts ask for -/
theorem REL_q (hD : DCR sg gm lg sm gn ln) : ((sg 1).toInt = 0 ∨ SV (ss9 sg) (st9 gm) lg) ∧ ((sm 40).toInt = 0 ∨ BRG (ss9 sg) (st9 gm) lg (rs9 sm) (rt9 gn) ln) ∧ ((sm 40).toInt = 0 ∨ SB9 (ss9 sg) (st9 gm) lg) := by
  rcases hD with ⟨d1, d2⟩ | ⟨_, _, D, hc, hr, hd, _⟩
  · exact ⟨Or.inl d1, Or.inl d2, Or.inl d2⟩
  · exact ⟨Or.inr (SV_of hc hr hd), Or.inr (BRG_of hc hr hd), Or.inr (SB_of hc hr hd)⟩
theorem R_ref {k x y : Int} (h : REL sg gm lg sm gn ln) (hS : SSR sg gm lg sm gn S) (hc : HPC sg gm lg S (zRf (ss9 sg) (st9 gm) lg 40 S) sg2 gm2 k x) (hr : HPR sm (st9 gm) lg S (zRf (ss9 sg) (st9 gm) lg 81 S) sm2 gn2 y) : NEW9 sg sg2 gm gm2 lg sm2 gn2 ∧ (sm2 5).toInt = k ∧ (k = 0 → x = y) := by
  refine OUT_1 h.2.2.2.1 hS hc hr (fun q => ?_)
  obtain ⟨_, _, D, h3, h4, h5, h6⟩ := h.2.2.2.1.resolve_left (fun w => q w.1)
  exact ⟨zRf_e h3 h4 h5 h6 S, fun r S2 e => zRf_inv (BRG_of h3 h4 h5) (ws_iv h3 h4 h5) e hS.2.2.2.2.1 (hS.2.2.2.2.2.2 q)⟩
theorem R_get {k x y : Int} {v : Int64} (h : REL sg gm lg sm gn ln) (hS : SSR sg gm lg sm gn S) (hc : HPC sg gm lg S (zGt (ss9 sg) (st9 gm) lg 40 v S) sg2 gm2 k x) (hr : HPR sm (st9 gm) lg S (zGt (ss9 sg) (st9 gm) lg 81 v S) sm2 gn2 y) : NEW9 sg sg2 gm gm2 lg sm2 gn2 ∧ (sm2 5).toInt = k ∧ (k = 0 → x = y) := by
  refine OUT_1 h.2.2.2.1 hS hc hr (fun q => ?_)
  obtain ⟨_, _, D, h3, h4, h5, h6⟩ := h.2.2.2.1.resolve_left (fun w => q w.1)
  exact ⟨zGt_e h3 h4 h5 h6 v S, fun r S2 e => zGt_inv (BRG_of h3 h4 h5) (ws_iv h3 h4 h5) e hS.2.2.2.1 hS.2.2.2.2.1 (hS.2.2.2.2.2.2 q)⟩
/-- what call has answered: 2 without a lookup, 3 if it fails -/
def HCC (sg : Nat → Int32) (gm : Nat → Nat → Int32) (lg : Nat → Nat → Int64) (S : S9) (o w : Int) (sg2 : Nat → Int32) (gm2 : Nat → Nat → Int32) (k x : Int) : Prop := (k = 1 ∧ (sg 1).toInt = 0 ∧ RC (st9 gm) lg S sg2 gm2) ∨ (¬ (sg 1).toInt = 0 ∧ ((k = 2 ∧ zLk (st9 gm) o w S < 0 ∧ RC (st9 gm) lg S sg2 gm2) ∨ (0 ≤ zLk (st9 gm) o w S ∧ ((k = 3 ∧ ∃ S2, zGt (ss9 sg) (st9 gm) lg 40 (lg 2 (zLk (st9 gm) o w S).toNat) S = (none, S2) ∧ RC (st9 gm) lg S2 sg2 gm2) ∨ (k = 0 ∧ ∃ S2, zGt (ss9 sg) (st9 gm) lg 40 (lg 2 (zLk (st9 gm) o w S).toNat) S = (some x, S2) ∧ RC (st9 gm) lg S2 sg2 gm2)))))
def HCR (sg : Nat → Int32) (sm : Nat → Int32) (wg : Nat → Nat → Int32) (lg : Nat → Nat → Int64) (S : S9) (o w : Int) (sm2 : Nat → Int32) (gn2 : Nat → Nat → Int32) (y : Int) : Prop := ((sm 40).toInt = 0 ∧ (sm2 5).toInt = 1 ∧ RR wg lg S sm2 gn2) ∨ (¬ (sm 40).toInt = 0 ∧ zLk wg o w S < 0 ∧ (sm2 5).toInt = 2 ∧ RR wg lg S sm2 gn2) ∨ (¬ (sm 40).toInt = 0 ∧ 0 ≤ zLk wg o w S ∧ ∃ S2, RR wg lg S2 sm2 gn2 ∧ WF9 S2 ∧ (((sm2 5).toInt = 0 ∧ zGt (ss9 sg) wg lg 81 (lg 2 (zLk wg o w S).toNat) S = (some y, S2)) ∨ ((sm2 5).toInt = 3 ∧ zGt (ss9 sg) wg lg 81 (lg 2 (zLk wg o w S).toNat) S = (none, S2))))
theorem R_call {k x y o w : Int} (h : REL sg gm lg sm gn ln) (hS : SSR sg gm lg sm gn S) (hc : HCC sg gm lg S o w sg2 gm2 k x) (hr : HCR sg sm (st9 gm) lg S o w sm2 gn2 y) : NEW9 sg sg2 gm gm2 lg sm2 gn2 ∧ (sm2 5).toInt = k ∧ (k = 0 → x = y) := by
  have hS0 := hS
  obtain ⟨_, _, s3, s4, s5, s6, s7⟩ := hS
  rcases h.2.2.2.1 with ⟨d1, d2⟩ | ⟨d1, d2, D, h3, h4, h5, h6⟩
  · rcases hc with ⟨c1, _, c3⟩ | ⟨c1, _⟩
    · rcases hr with ⟨_, r2, r3⟩ | ⟨r1, _⟩ | ⟨r1, _⟩
      · exact ⟨⟨S, c3, r3, s3, s4, s5, s6, s7⟩, by omega, fun q => by omega⟩
      · exact absurd d2 r1
      · exact absurd d2 r1
    · exact absurd d1 c1
  · rcases hc with ⟨_, c2, _⟩ | ⟨_, c2⟩
    · exact absurd c2 d1
    · rcases hr with ⟨r1, _⟩ | ⟨_, r2, r3, r4⟩ | ⟨_, r2, r3⟩
      · exact absurd r1 d2
      · rcases c2 with ⟨c1, c3, c4⟩ | ⟨c3, _⟩
        · exact ⟨⟨S, c4, r4, s3, s4, s5, s6, s7⟩, by omega, fun q => by omega⟩
        · omega
      · rcases c2 with ⟨c1, c3, c4⟩ | ⟨c3, c4⟩
        · omega
        · rw [← zGt_e h3 h4 h5 h6] at r3
          obtain ⟨⟨S2, o1, o2, o3, o4, o5, o6⟩, q1, q2⟩ := OUTz (by decide) (fun r S2 e => zGt_inv (BRG_of h3 h4 h5) (ws_iv h3 h4 h5) e s4 s5 (s7 d1)) c4 r3
          exact ⟨⟨S2, o1, o2, o3, o4, o5, fun q => absurd q d1, fun _ => o6⟩, q1, q2⟩
/-- all is closed -/
theorem R_close {r y : Int} (h : REL sg gm lg sm gn ln) (hS : SSR sg gm lg sm gn S) (hc : RC (st9 gm) lg (zCl (st9 gm) S) sg2 gm2 ∧ r = ((zE (zCl (st9 gm) S)).length : Int)) (hr : ((sm 40).toInt = 0 ∧ RR (st9 gm) lg S sm2 gn2 ∧ y = ((zE S).length : Int)) ∨ (¬ (sm 40).toInt = 0 ∧ RR (st9 gm) lg (zCl (st9 gm) S) sm2 gn2 ∧ y = ((zE (zCl (st9 gm) S)).length : Int))) : NEW9 sg sg2 gm gm2 lg sm2 gn2 ∧ r = y := by
  obtain ⟨_, _, s3, s4, s5, s6, s7⟩ := hS
  rcases h.2.2.2.1 with ⟨d1, d2⟩ | ⟨d1, d2, _⟩
  · rcases hr with ⟨_, r2, r3⟩ | ⟨r1, _⟩
    · obtain ⟨e1, e2, e3, e4⟩ := s6 d1
      have hz : zCl (st9 gm) S = S := by
        show zFo (dsL (st9 gm) (zF S).reverse S) = S
        rw [e3]
        show (zO S, zE S, (fun b => if zS S b = 2 then 0 else zS S b), zW S, ([] : List Nat)) = S
        have ef : (fun b => if zS S b = 2 then 0 else zS S b) = zS S := by
          funext b
          rw [e4 b, if_neg (by decide)]
        rw [ef, ← e3]; rfl
      rw [hz] at hc
      exact ⟨⟨S, hc.1, r2, s3, s4, s5, s6, s7⟩, by rw [hc.2, r3]⟩
    · exact absurd d2 r1
  · rcases hr with ⟨r1, _⟩ | ⟨_, r2, r3⟩
    · exact absurd r1 d2
    · refine ⟨⟨_, hc.1, r2, WF_cl s5, WZ_cl, NB_cl s5, fun q => absurd q d1, fun q => OB_e (s7 q) ?_⟩, by rw [hc.2, r3]⟩
      show zO (dsL (st9 gm) (zF S).reverse S) = zO S
      rw [(dsL_S _ _).2]
end RM8
end
