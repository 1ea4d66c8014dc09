/-- kinds of characters -/
abbrev isWc (x : Int) : Prop := x = 32 ∨ x = 10
abbrev isLc (x : Int) : Prop := 97 ≤ x ∧ x ≤ 122
abbrev isDc (x : Int) : Prop := 48 ≤ x ∧ x ≤ 57
/-- behind white -/
def skW (ch : Nat → Int) : Nat → Nat → Nat
  | 0, a => a
  | f + 1, a => if isWc (ch a) then skW ch f (a + 1) else a
def sWh (ch : Nat → Int) (n a : Nat) : Nat := skW ch (n - a) a
theorem sWh_s {ch : Nat → Int} {n a : Nat} (h : isWc (ch a)) (ha : a < n) : sWh ch n a = sWh ch n (a + 1) := by
  unfold sWh
  have e : n - a = (n - (a + 1)) + 1 := by omega
  rw [e]
  show (if isWc (ch a) then _ else _) = _
  rw [if_pos h]
theorem sWh_0 {ch : Nat → Int} {n a : Nat} (h : ¬ isWc (ch a)) : sWh ch n a = a := by
  unfold sWh
  cases n - a with
  | zero => rfl
  | succ k => show (if isWc (ch a) then _ else _) = _; rw [if_neg h]
theorem skW_le (ch : Nat → Int) : ∀ f a, a ≤ skW ch f a := by
  intro f
  induction f with
  | zero => intro a; exact Nat.le_refl _
  | succ f ih =>
    intro a
    show a ≤ (if isWc (ch a) then skW ch f (a + 1) else a)
    split
    · exact Nat.le_trans (Nat.le_succ a) (ih (a + 1))
    · exact Nat.le_refl _
theorem sWh_le (ch : Nat → Int) (n a : Nat) : a ≤ sWh ch n a := skW_le ch _ a
/-- behind a comment -/
def comF (ch : Nat → Int) : Nat → Nat → Option Nat
  | 0, _ => none
  | f + 1, a => if ch a = 45 ∧ ch (a + 1) = 45 then (if ch (a + 2) = 62 then some (a + 3) else none) else comF ch f (a + 1)
def sCom (ch : Nat → Int) (n a : Nat) : Option Nat := if ch a = 60 ∧ ch (a + 1) = 33 ∧ ch (a + 2) = 45 ∧ ch (a + 3) = 45 then comF ch (n - (a + 4)) (a + 4) else none
theorem comF_s {ch : Nat → Int} {n a : Nat} (ha : a < n) (h : ¬ (ch a = 45 ∧ ch (a + 1) = 45)) : comF ch (n - a) a = comF ch (n - (a + 1)) (a + 1) := by
  have e : n - a = (n - (a + 1)) + 1 := by omega
  rw [e]
  show (if ch a = 45 ∧ ch (a + 1) = 45 then _ else _) = _
  rw [if_neg h]
theorem comF_0 {ch : Nat → Int} {n a : Nat} (ha : a < n) (h : ch a = 45 ∧ ch (a + 1) = 45) : comF ch (n - a) a = if ch (a + 2) = 62 then some (a + 3) else none := by
  have e : n - a = (n - (a + 1)) + 1 := by omega
  rw [e]
  show (if ch a = 45 ∧ ch (a + 1) = 45 then _ else _) = _
  rw [if_pos h]
theorem comF_e {ch : Nat → Int} {n a : Nat} (ha : n ≤ a) : comF ch (n - a) a = none := by rw [Nat.sub_eq_zero_of_le ha]; rfl
theorem comF_lt {ch : Nat → Int} : ∀ f a b, comF ch f a = some b → a + 2 < b := by
  intro f
  induction f with
  | zero => intro a b h; cases h
  | succ f ih =>
    intro a b h
    have h : (if ch a = 45 ∧ ch (a + 1) = 45 then (if ch (a + 2) = 62 then some (a + 3) else none) else comF ch f (a + 1)) = some b := h
    split at h
    · split at h
      · cases h; omega
      · cases h
    · have := ih _ _ h; omega
theorem sCom_lt {ch : Nat → Int} {n a b : Nat} (h : sCom ch n a = some b) : a < b := by
  unfold sCom at h
  split at h
  · have := comF_lt _ _ _ h; omega
  · cases h
/-- white and comments -/
def betF (ch : Nat → Int) (n : Nat) : Nat → Nat → Option Nat
  | 0, a => some a
  | f + 1, a => if ch a = 60 ∧ ch (a + 1) = 33 then (match sCom ch n a with | none => none | some b => betF ch n f (sWh ch n b)) else some a
/-- enough fuel is enough -/
theorem betF_f {ch : Nat → Int} {n : Nat} (hn : ∀ i, n ≤ i → ch i = -1) : ∀ f g a, n - a ≤ f → n - a ≤ g → betF ch n f a = betF ch n g a := by
  intro f
  induction f with
  | zero =>
    intro g a hf hg
    cases g with
    | zero => rfl
    | succ g =>
      have h1 := hn a (by omega)
      show some a = (if ch a = 60 ∧ ch (a + 1) = 33 then _ else some a)
      rw [if_neg (by omega)]
  | succ f ih =>
    intro g a hf hg
    cases g with
    | zero =>
      have h1 := hn a (by omega)
      show (if ch a = 60 ∧ ch (a + 1) = 33 then _ else some a) = some a
      rw [if_neg (by omega)]
    | succ g =>
      show (if ch a = 60 ∧ ch (a + 1) = 33 then (match sCom ch n a with | none => none | some b => betF ch n f (sWh ch n b)) else some a) = (if ch a = 60 ∧ ch (a + 1) = 33 then (match sCom ch n a with | none => none | some b => betF ch n g (sWh ch n b)) else some a)
      split
      · cases hc : sCom ch n a with
        | none => rfl
        | some b =>
          have h1 := sCom_lt hc
          have h2 := sWh_le ch n b
          exact ih g _ (by omega) (by omega)
      · rfl
def sBet (ch : Nat → Int) (n a : Nat) : Option Nat := betF ch n n (sWh ch n a)
def sBe (ch : Nat → Int) (n a : Nat) : Option Nat := betF ch n n a
theorem sBe_0 {ch : Nat → Int} {n a : Nat} (hn : ∀ i, n ≤ i → ch i = -1) (h : ¬ (ch a = 60 ∧ ch (a + 1) = 33)) : sBe ch n a = some a := by
  unfold sBe
  cases n with
  | zero => rfl
  | succ n => show (if ch a = 60 ∧ ch (a + 1) = 33 then _ else some a) = some a; rw [if_neg h]
theorem sBe_x {ch : Nat → Int} {n a : Nat} (hn : ∀ i, n ≤ i → ch i = -1) (h : ch a = 60 ∧ ch (a + 1) = 33) (hc : sCom ch n a = none) : sBe ch n a = none := by
  unfold sBe
  cases hn9 : n with
  | zero => exact absurd (hn a (by omega)) (by omega)
  | succ k => rw [hn9] at hc; show (if ch a = 60 ∧ ch (a + 1) = 33 then (match sCom ch (k + 1) a with | none => none | some b => betF ch (k + 1) k (sWh ch (k + 1) b)) else some a) = none; rw [if_pos h, hc]
theorem sBe_s {ch : Nat → Int} {n a b : Nat} (hn : ∀ i, n ≤ i → ch i = -1) (h : ch a = 60 ∧ ch (a + 1) = 33) (hc : sCom ch n a = some b) : sBe ch n a = sBe ch n (sWh ch n b) := by
  have h0 := sCom_lt hc
  have h1 := sWh_le ch n b
  rw [show sBe ch n (sWh ch n b) = betF ch n (n - 1) (sWh ch n b) from betF_f hn n (n - 1) _ (by omega) (by omega)]
  unfold sBe
  cases hn9 : n with
  | zero => exact absurd (hn a (by omega)) (by omega)
  | succ k => rw [hn9] at hc; show (if ch a = 60 ∧ ch (a + 1) = 33 then (match sCom ch (k + 1) a with | none => none | some b => betF ch (k + 1) k (sWh ch (k + 1) b)) else some a) = _; rw [if_pos h, hc]; rfl
/-- a name -/
def nmF (ch : Nat → Int) : Nat → Int64 → Nat → Option (Int64 × Nat)
  | 0, v, a => if isLc (ch a) then none else some (v, a)
  | f + 1, v, a => if isLc (ch a) then nmF ch f (v <<< 8 ||| Int64.ofInt (ch a)) (a + 1) else some (v, a)
def sNm (ch : Nat → Int) (a : Nat) : Option (Int64 × Nat) := if isLc (ch a) then nmF ch 8 0 a else none
theorem nmF_le {ch : Nat → Int} : ∀ f v a r, nmF ch f v a = some r → a ≤ r.2 := by
  intro f
  induction f with
  | zero =>
    intro v a r h
    have h : (if isLc (ch a) then none else some (v, a)) = some r := h
    split at h
    · cases h
    · cases h; exact Nat.le_refl _
  | succ f ih =>
    intro v a r h
    have h : (if isLc (ch a) then nmF ch f (v <<< 8 ||| Int64.ofInt (ch a)) (a + 1) else some (v, a)) = some r := h
    split at h
    · have := ih _ _ _ h; omega
    · cases h; exact Nat.le_refl _
theorem nmF_s {ch : Nat → Int} {f a : Nat} {v : Int64} (h : isLc (ch a)) : nmF ch (f + 1) v a = nmF ch f (v <<< 8 ||| Int64.ofInt (ch a)) (a + 1) := by
  show (if isLc (ch a) then _ else _) = _; rw [if_pos h]
theorem nmF_0 {ch : Nat → Int} {f a : Nat} {v : Int64} (h : ¬ isLc (ch a)) : nmF ch f v a = some (v, a) := by
  cases f with
  | zero => show (if isLc (ch a) then _ else _) = _; rw [if_neg h]
  | succ f => show (if isLc (ch a) then _ else _) = _; rw [if_neg h]
theorem nmF_x {ch : Nat → Int} {a : Nat} {v : Int64} (h : isLc (ch a)) : nmF ch 0 v a = none := by
  show (if isLc (ch a) then _ else _) = _; rw [if_pos h]
theorem sNm_lt {ch : Nat → Int} {a : Nat} {r : Int64 × Nat} (h : sNm ch a = some r) : a < r.2 := by
  unfold sNm at h
  split at h
  · rename_i q; rw [nmF_s q] at h; have := nmF_le _ _ _ _ h; omega
  · cases h
/-- a number's entity -/
def nuF (ch : Nat → Int) : Nat → Int → Nat → Option (Int × Nat)
  | 0, v, a => if ch a = 59 ∧ 32 ≤ v ∧ v ≤ 126 then some (v, a) else none
  | f + 1, v, a => if isDc (ch a) then nuF ch f (10 * v + (ch a - 48)) (a + 1) else if ch a = 59 ∧ 32 ≤ v ∧ v ≤ 126 then some (v, a) else none
def sNu (ch : Nat → Int) (a : Nat) : Option (Int × Nat) := if isDc (ch a) then nuF ch 3 0 a else none
/-- an entity behind its & -/
def sEn (ch : Nat → Int) (a : Nat) : Option (Int × Nat) :=
  if ch a = 35 then sNu ch (a + 1)
  else if ch a = 108 ∧ ch (a + 1) = 116 ∧ ch (a + 2) = 59 then some (60, a + 2)
  else if ch a = 103 ∧ ch (a + 1) = 116 ∧ ch (a + 2) = 59 then some (62, a + 2)
  else if ch a = 97 ∧ ch (a + 1) = 109 ∧ ch (a + 2) = 112 ∧ ch (a + 3) = 59 then some (38, a + 3)
  else if ch a = 113 ∧ ch (a + 1) = 117 ∧ ch (a + 2) = 111 ∧ ch (a + 3) = 116 ∧ ch (a + 4) = 59 then some (34, a + 4)
  else if ch a = 97 ∧ ch (a + 1) = 112 ∧ ch (a + 2) = 111 ∧ ch (a + 3) = 115 ∧ ch (a + 4) = 59 then some (39, a + 4)
  else none
def sCh (ch : Nat → Int) (a : Nat) : Option (Int × Nat) := if ch a = -1 then none else if ch a = 38 then sEn ch (a + 1) else some (ch a, a)
theorem nuF_le {ch : Nat → Int} : ∀ f v a r, nuF ch f v a = some r → a ≤ r.2 ∧ 32 ≤ r.1 ∧ r.1 ≤ 126 := by
  intro f
  induction f with
  | zero =>
    intro v a r h
    have h : (if ch a = 59 ∧ 32 ≤ v ∧ v ≤ 126 then some (v, a) else none) = some r := h
    split at h
    · rename_i q; cases h; exact ⟨Nat.le_refl _, q.2⟩
    · cases h
  | succ f ih =>
    intro v a r h
    have h : (if isDc (ch a) then nuF ch f (10 * v + (ch a - 48)) (a + 1) else if ch a = 59 ∧ 32 ≤ v ∧ v ≤ 126 then some (v, a) else none) = some r := h
    split at h
    · have := ih _ _ _ h; omega
    · split at h
      · rename_i q; cases h; exact ⟨Nat.le_refl _, q.2⟩
      · cases h
theorem sEn_le {ch : Nat → Int} {a : Nat} {r : Int × Nat} (h : sEn ch a = some r) : a ≤ r.2 ∧ 32 ≤ r.1 ∧ r.1 ≤ 126 := by
  unfold sEn at h
  split at h
  · unfold sNu at h
    split at h
    · have := nuF_le _ _ _ _ h; omega
    · cases h
  · repeat' split at h
    all_goals cases h
    all_goals exact ⟨by show a ≤ a + _; omega, by dsimp only; omega, by dsimp only; omega⟩
theorem sCh_le {ch : Nat → Int} {a : Nat} {r : Int × Nat} (h : sCh ch a = some r) : a ≤ r.2 := by
  unfold sCh at h
  split at h
  · cases h
  · split at h
    · have := (sEn_le h).1; omega
    · cases h; exact Nat.le_refl _
/-- a value up to its quote -/
def vaF (ch : Nat → Int) : Nat → List Int → Nat → Option (List Int × Nat)
  | 0, _, _ => none
  | f + 1, v, a => if ch a = 34 then some (v, a + 1) else if ch a = 60 then none else match sCh ch a with
    | none => none
    | some (x, b) => if v.length = 24 then none else vaF ch f (v ++ [x]) (b + 1)
theorem sCh_e {ch : Nat → Int} {a : Nat} (h : ch a = -1) : sCh ch a = none := by unfold sCh; rw [if_pos h]
theorem vaF_f {ch : Nat → Int} {n : Nat} (hn : ∀ i, n ≤ i → ch i = -1) : ∀ f g v a, n - a ≤ f → n - a ≤ g → vaF ch f v a = vaF ch g v a := by
  intro f
  induction f with
  | zero =>
    intro g v a hf hg
    cases g with
    | zero => rfl
    | succ g =>
      have h1 := hn a (by omega)
      show none = (if ch a = 34 then some (v, a + 1) else if ch a = 60 then none else match sCh ch a with | none => none | some (x, b) => if v.length = 24 then none else vaF ch g (v ++ [x]) (b + 1))
      rw [if_neg (by omega), if_neg (by omega), sCh_e h1]
  | succ f ih =>
    intro g v a hf hg
    cases g with
    | zero =>
      have h1 := hn a (by omega)
      show (if ch a = 34 then some (v, a + 1) else if ch a = 60 then none else match sCh ch a with | none => none | some (x, b) => if v.length = 24 then none else vaF ch f (v ++ [x]) (b + 1)) = none
      rw [if_neg (by omega), if_neg (by omega), sCh_e h1]
    | succ g =>
      show (if ch a = 34 then some (v, a + 1) else if ch a = 60 then none else match sCh ch a with | none => none | some (x, b) => if v.length = 24 then none else vaF ch f (v ++ [x]) (b + 1)) = (if ch a = 34 then some (v, a + 1) else if ch a = 60 then none else match sCh ch a with | none => none | some (x, b) => if v.length = 24 then none else vaF ch g (v ++ [x]) (b + 1))
      split
      · rfl
      · split
        · rfl
        · cases hc : sCh ch a with
          | none => rfl
          | some r =>
            obtain ⟨x, b⟩ := r
            have h1 := sCh_le hc
            show (if v.length = 24 then none else vaF ch f (v ++ [x]) (b + 1)) = (if v.length = 24 then none else vaF ch g (v ++ [x]) (b + 1))
            split
            · rfl
            · exact ih g _ _ (by have h1 : a ≤ b := h1; omega) (by have h1 : a ≤ b := h1; omega)
def sVa (ch : Nat → Int) (n : Nat) (v : List Int) (a : Nat) : Option (List Int × Nat) := vaF ch (n + 1) v a
theorem sVa_q {ch : Nat → Int} {n a : Nat} {v : List Int} (h : ch a = 34) : sVa ch n v a = some (v, a + 1) := by
  show (if ch a = 34 then _ else _) = _; rw [if_pos h]
theorem sVa_l {ch : Nat → Int} {n a : Nat} {v : List Int} (h : ch a = 60) : sVa ch n v a = none := by
  show (if ch a = 34 then _ else if ch a = 60 then _ else _) = _; rw [if_neg (by omega), if_pos h]
theorem sVa_x {ch : Nat → Int} {n a : Nat} {v : List Int} (h : ¬ ch a = 34) (hc : sCh ch a = none) : sVa ch n v a = none := by
  show (if ch a = 34 then _ else if ch a = 60 then _ else match sCh ch a with | none => none | some (x, b) => if v.length = 24 then none else vaF ch n (v ++ [x]) (b + 1)) = none
  rw [if_neg h, hc]; split <;> rfl
theorem sVa_24 {ch : Nat → Int} {n a : Nat} {v : List Int} (h : ¬ ch a = 34) (h4 : v.length = 24) : sVa ch n v a = none := by
  show (if ch a = 34 then _ else if ch a = 60 then _ else match sCh ch a with | none => none | some (x, b) => if v.length = 24 then none else vaF ch n (v ++ [x]) (b + 1)) = none
  rw [if_neg h]
  split
  · rfl
  · cases sCh ch a with
    | none => rfl
    | some r => obtain ⟨x, b⟩ := r; simp [h4]
theorem sVa_s {ch : Nat → Int} {n a b : Nat} {v : List Int} {x : Int} (hn : ∀ i, n ≤ i → ch i = -1) (h : ¬ ch a = 34) (h6 : ¬ ch a = 60) (h4 : ¬ v.length = 24) (hc : sCh ch a = some (x, b)) : sVa ch n v a = sVa ch n (v ++ [x]) (b + 1) := by
  show (if ch a = 34 then _ else if ch a = 60 then _ else match sCh ch a with | none => none | some (x, b) => if v.length = 24 then none else vaF ch n (v ++ [x]) (b + 1)) = _
  rw [if_neg h, if_neg h6, hc]
  show (if v.length = 24 then none else vaF ch n (v ++ [x]) (b + 1)) = _
  rw [if_neg h4]
  exact vaF_f hn n (n + 1) _ _ (by omega) (by omega)
abbrev At7 := List (Int64 × List Int)
abbrev El7 := Nat × Int × Int64 × At7 × Nat × List Int
def hasK (at9 : At7) (k : Int64) : Bool := at9.any (fun x => x.1 == k)
/-- an attribute -/
def sAt (ch : Nat → Int) (n : Nat) (at9 : At7) (a : Nat) : Option (At7 × Nat) :=
  if 12 ≤ at9.length then none else match sNm ch a with
    | none => none
    | some (k, b) => if hasK at9 k = true then none else if ch b = 61 ∧ ch (b + 1) = 34 then (match sVa ch n [] (b + 2) with | none => none | some (v, e) => some (at9 ++ [(k, v)], e)) else none
theorem vaF_lt {ch : Nat → Int} : ∀ f v a r, vaF ch f v a = some r → a < r.2 := by
  intro f
  induction f with
  | zero => intro v a r h; cases h
  | succ f ih =>
    intro v a r h
    have h : (if ch a = 34 then some (v, a + 1) else if ch a = 60 then none else match sCh ch a with | none => none | some (x, b) => if v.length = 24 then none else vaF ch f (v ++ [x]) (b + 1)) = some r := h
    split at h
    · cases h; exact Nat.lt_succ_self a
    · split at h
      · cases h
      · cases hc : sCh ch a with
        | none => rw [hc] at h; cases h
        | some q =>
          obtain ⟨x, b⟩ := q
          rw [hc] at h
          have h1 : a ≤ b := sCh_le hc
          have h : (if v.length = 24 then none else vaF ch f (v ++ [x]) (b + 1)) = some r := h
          split at h
          · cases h
          · have := ih _ _ _ h; omega
theorem sAt_lt {ch : Nat → Int} {n a : Nat} {at9 : At7} {r : At7 × Nat} (h : sAt ch n at9 a = some r) : a < r.2 := by
  unfold sAt at h
  split at h
  · cases h
  · cases hc : sNm ch a with
    | none => rw [hc] at h; cases h
    | some q =>
      obtain ⟨k, b⟩ := q
      rw [hc] at h
      have h1 : a < b := sNm_lt hc
      have h : (if hasK at9 k = true then none else if ch b = 61 ∧ ch (b + 1) = 34 then (match sVa ch n [] (b + 2) with | none => none | some (v, e) => some (at9 ++ [(k, v)], e)) else none) = some r := h
      split at h
      · cases h
      · split at h
        · cases hv : sVa ch n [] (b + 2) with
          | none => rw [hv] at h; cases h
          | some w =>
            obtain ⟨v, e⟩ := w
            rw [hv] at h
            cases h
            have h2 : b + 2 < e := vaF_lt _ _ _ _ hv
            show a < e
            omega
        · cases h
theorem sAt_12 {ch : Nat → Int} {n a : Nat} {at9 : At7} (h : 12 ≤ at9.length) : sAt ch n at9 a = none := by unfold sAt; rw [if_pos h]
theorem sAt_n {ch : Nat → Int} {n a : Nat} {at9 : At7} (h : sNm ch a = none) : sAt ch n at9 a = none := by unfold sAt; rw [h]; split <;> rfl
theorem sAt_h {ch : Nat → Int} {n a b : Nat} {at9 : At7} {k : Int64} (h : sNm ch a = some (k, b)) (hk : hasK at9 k = true) : sAt ch n at9 a = none := by
  unfold sAt; rw [h]; split
  · rfl
  · show (if hasK at9 k = true then none else _) = none; rw [if_pos hk]
theorem sAt_q {ch : Nat → Int} {n a b : Nat} {at9 : At7} {k : Int64} (h : sNm ch a = some (k, b)) (hq : ¬ (ch b = 61 ∧ ch (b + 1) = 34)) : sAt ch n at9 a = none := by
  unfold sAt; rw [h]; split
  · rfl
  · show (if hasK at9 k = true then none else if ch b = 61 ∧ ch (b + 1) = 34 then _ else none) = none; rw [if_neg hq]; split <;> rfl
/-- attributes, each behind white -/
def atsF (ch : Nat → Int) (n : Nat) : Nat → At7 → Nat → Option (At7 × Nat)
  | 0, at9, a => some (at9, a)
  | f + 1, at9, a => if a < sWh ch n a ∧ isLc (ch (sWh ch n a)) then (match sAt ch n at9 (sWh ch n a) with | none => none | some (q, e) => atsF ch n f q e) else some (at9, sWh ch n a)
theorem sWh_e {ch : Nat → Int} {n a : Nat} (h : n ≤ a) : sWh ch n a = a := by unfold sWh; rw [Nat.sub_eq_zero_of_le h]; rfl
theorem atsF_f {ch : Nat → Int} {n : Nat} : ∀ f g at9 a, n - a ≤ f → n - a ≤ g → atsF ch n f at9 a = atsF ch n g at9 a := by
  intro f
  induction f with
  | zero =>
    intro g at9 a hf hg
    cases g with
    | zero => rfl
    | succ g =>
      have h1 := sWh_e (ch := ch) (show n ≤ a by omega)
      show some (at9, a) = (if a < sWh ch n a ∧ isLc (ch (sWh ch n a)) then _ else some (at9, sWh ch n a))
      rw [if_neg (by omega), h1]
  | succ f ih =>
    intro g at9 a hf hg
    cases g with
    | zero =>
      have h1 := sWh_e (ch := ch) (show n ≤ a by omega)
      show (if a < sWh ch n a ∧ isLc (ch (sWh ch n a)) then _ else some (at9, sWh ch n a)) = some (at9, a)
      rw [if_neg (by omega), h1]
    | succ g =>
      show (if a < sWh ch n a ∧ isLc (ch (sWh ch n a)) then (match sAt ch n at9 (sWh ch n a) with | none => none | some (q, e) => atsF ch n f q e) else some (at9, sWh ch n a)) = (if a < sWh ch n a ∧ isLc (ch (sWh ch n a)) then (match sAt ch n at9 (sWh ch n a) with | none => none | some (q, e) => atsF ch n g q e) else some (at9, sWh ch n a))
      split
      · cases hc : sAt ch n at9 (sWh ch n a) with
        | none => rfl
        | some w =>
          obtain ⟨q, e⟩ := w
          have h1 : sWh ch n a < e := sAt_lt hc
          exact ih g _ _ (by omega) (by omega)
      · rfl
def sAs (ch : Nat → Int) (n : Nat) (at9 : At7) (a : Nat) : Option (At7 × Nat) := atsF ch n n at9 a
theorem atsF_u {ch : Nat → Int} {n : Nat} (at9 : At7) (a : Nat) : sAs ch n at9 a = if a < sWh ch n a ∧ isLc (ch (sWh ch n a)) then (match sAt ch n at9 (sWh ch n a) with | none => none | some (q, e) => sAs ch n q e) else some (at9, sWh ch n a) := by
  rw [show sAs ch n at9 a = atsF ch n (n + 1) at9 a from atsF_f n (n + 1) _ _ (by omega) (by omega)]
  rfl
theorem sAs_0 {ch : Nat → Int} {n a : Nat} {at9 : At7} (h : ¬ (a < sWh ch n a ∧ isLc (ch (sWh ch n a)))) : sAs ch n at9 a = some (at9, sWh ch n a) := by rw [atsF_u, if_neg h]
theorem atsF_le {ch : Nat → Int} {n : Nat} : ∀ f at9 a r, atsF ch n f at9 a = some r → a ≤ r.2 := by
  intro f
  induction f with
  | zero => intro at9 a r h; cases h; exact Nat.le_refl _
  | succ f ih =>
    intro at9 a r h
    have h : (if a < sWh ch n a ∧ isLc (ch (sWh ch n a)) then (match sAt ch n at9 (sWh ch n a) with | none => none | some (q, e) => atsF ch n f q e) else some (at9, sWh ch n a)) = some r := h
    split at h
    · cases hc : sAt ch n at9 (sWh ch n a) with
      | none => rw [hc] at h; cases h
      | some w =>
        obtain ⟨q, e⟩ := w
        rw [hc] at h
        have h1 : sWh ch n a < e := sAt_lt hc
        have h2 := ih _ _ _ h
        omega
    · cases h; exact sWh_le _ _ _
/-- a begin of an element -/
def sOp (ch : Nat → Int) (n cnt depth a : Nat) : Option (Int64 × At7 × Bool × Nat) :=
  if ch a = 60 ∧ isLc (ch (a + 1)) ∧ depth < 6 ∧ cnt < 80 then (match sNm ch (a + 1) with
    | none => none
    | some (k, b) => match sAs ch n [] b with
      | none => none
      | some (q, e) => if ch e = 47 then (if ch (e + 1) = 62 then some (k, q, true, e + 2) else none) else if ch e = 62 then some (k, q, false, e + 1) else none) else none
theorem sOp_x {ch : Nat → Int} {n cnt depth a : Nat} (h : ¬ (ch a = 60 ∧ isLc (ch (a + 1)) ∧ depth < 6 ∧ cnt < 80)) : sOp ch n cnt depth a = none := by unfold sOp; rw [if_neg h]
theorem sOp_n {ch : Nat → Int} {n cnt depth a : Nat} (h : sNm ch (a + 1) = none) : sOp ch n cnt depth a = none := by unfold sOp; rw [h]; split <;> rfl
theorem sOp_a {ch : Nat → Int} {n cnt depth a b : Nat} {k : Int64} (h : sNm ch (a + 1) = some (k, b)) (ha : sAs ch n [] b = none) : sOp ch n cnt depth a = none := by
  unfold sOp; rw [h]; split
  · show (match sAs ch n [] b with | none => none | some (q, e) => _) = none; rw [ha]
  · rfl
theorem sOp_u {ch : Nat → Int} {n cnt depth a b e : Nat} {k : Int64} {q : At7} (h0 : ch a = 60 ∧ isLc (ch (a + 1)) ∧ depth < 6 ∧ cnt < 80) (h : sNm ch (a + 1) = some (k, b)) (ha : sAs ch n [] b = some (q, e)) : sOp ch n cnt depth a = if ch e = 47 then (if ch (e + 1) = 62 then some (k, q, true, e + 2) else none) else if ch e = 62 then some (k, q, false, e + 1) else none := by
  unfold sOp; rw [h, if_pos h0]
  show (match sAs ch n [] b with | none => none | some (q, e) => _) = _; rw [ha]
theorem sOp_lt {ch : Nat → Int} {n cnt depth a : Nat} {k : Int64} {q : At7} {c : Bool} {e : Nat} (h : sOp ch n cnt depth a = some (k, q, c, e)) : a < e := by
  by_cases h0 : ch a = 60 ∧ isLc (ch (a + 1)) ∧ depth < 6 ∧ cnt < 80
  · cases h1 : sNm ch (a + 1) with
    | none => rw [sOp_n h1] at h; cases h
    | some w =>
      obtain ⟨k1, b⟩ := w
      have h3 : a + 1 < b := sNm_lt h1
      cases h2 : sAs ch n [] b with
      | none => rw [sOp_a h1 h2] at h; cases h
      | some w2 =>
        obtain ⟨q1, e1⟩ := w2
        have h4 : b ≤ e1 := atsF_le _ _ _ _ h2
        rw [sOp_u h0 h1 h2] at h
        split at h
        · split at h
          · cases h; omega
          · cases h
        · split at h
          · cases h; omega
          · cases h
  · rw [sOp_x h0] at h; cases h
/-- the close of the element that begins at p -/
def clF (ch : Nat → Int) : Nat → Nat → Nat → Option Nat
  | 0, _, a => some a
  | f + 1, p, a => if isLc (ch p) then (if ch a = ch p then clF ch f (p + 1) (a + 1) else none) else some a
theorem clF_0 {ch : Nat → Int} {f p a : Nat} (h : ¬ isLc (ch p)) : clF ch f p a = some a := by
  cases f with
  | zero => rfl
  | succ f => show (if isLc (ch p) then _ else _) = _; rw [if_neg h]
theorem clF_s {ch : Nat → Int} {f p a : Nat} (h : isLc (ch p)) (hc : ch a = ch p) : clF ch (f + 1) p a = clF ch f (p + 1) (a + 1) := by
  show (if isLc (ch p) then (if ch a = ch p then _ else none) else _) = _; rw [if_pos h, if_pos hc]
theorem clF_x {ch : Nat → Int} {f p a : Nat} (h : isLc (ch p)) (hc : ¬ ch a = ch p) : clF ch (f + 1) p a = none := by
  show (if isLc (ch p) then (if ch a = ch p then _ else none) else _) = _; rw [if_pos h, if_neg hc]
theorem clF_le {ch : Nat → Int} : ∀ f p a b, clF ch f p a = some b → a ≤ b := by
  intro f
  induction f with
  | zero => intro p a b h; cases h; exact Nat.le_refl _
  | succ f ih =>
    intro p a b h
    have h : (if isLc (ch p) then (if ch a = ch p then clF ch f (p + 1) (a + 1) else none) else some a) = some b := h
    split at h
    · split at h
      · have := ih _ _ _ h; omega
      · cases h
    · cases h; exact Nat.le_refl _
def sEd (ch : Nat → Int) (n p a : Nat) : Option Nat := match clF ch 8 (p + 1) (a + 2) with
  | none => none
  | some b => if ch (sWh ch n b) = 62 then some (sWh ch n b + 1) else none
theorem sEd_x {ch : Nat → Int} {n p a : Nat} (h : clF ch 8 (p + 1) (a + 2) = none) : sEd ch n p a = none := by unfold sEd; rw [h]
theorem sEd_u {ch : Nat → Int} {n p a b : Nat} (h : clF ch 8 (p + 1) (a + 2) = some b) : sEd ch n p a = if ch (sWh ch n b) = 62 then some (sWh ch n b + 1) else none := by unfold sEd; rw [h]
theorem sEd_lt {ch : Nat → Int} {n p a e : Nat} (h : sEd ch n p a = some e) : a < e := by
  cases h1 : clF ch 8 (p + 1) (a + 2) with
  | none => rw [sEd_x h1] at h; cases h
  | some b =>
    have h2 := clF_le _ _ _ _ h1
    have h3 := sWh_le ch n b
    rw [sEd_u h1] at h
    split at h
    · cases h; omega
    · cases h
/-- a character of text -/
def sTx (ts : Nat) (te : List Int) (x : Int) : Option (Nat × List Int) := if isWc x then some (ts, if ts = 0 then te else te ++ [32]) else if 24 ≤ te.length then none else some (te.length + 1, te ++ [x])
/-- the same, by lengths -/
def sTn (ts te : Nat) (x : Int) : Option (Nat × Nat) := if isWc x then some (ts, if ts = 0 then te else te + 1) else if 24 ≤ te then none else some (te + 1, te + 1)
def tL (ts : Nat) (te : List Int) (x : Int) : List Int := if isWc x then (if ts = 0 then te else te ++ [32]) else te ++ [x]
theorem sTx_nn {ts : Nat} {te : List Int} {x : Int} (h : sTn ts te.length x = none) : sTx ts te x = none := by
  unfold sTn at h; unfold sTx
  by_cases q : isWc x
  · rw [if_pos q] at h; cases h
  · rw [if_neg q] at h ⊢
    by_cases q2 : 24 ≤ te.length
    · rw [if_pos q2]
    · rw [if_neg q2] at h; cases h
theorem sTx_ss {ts a b : Nat} {te : List Int} {x : Int} (h : sTn ts te.length x = some (a, b)) : sTx ts te x = some (a, tL ts te x) ∧ b = (tL ts te x).length := by
  unfold sTn at h; unfold sTx tL
  by_cases q : isWc x
  · rw [if_pos q] at h ⊢
    rw [if_pos q]
    have e1 : ts = a := congrArg Prod.fst (Option.some.inj h)
    have e2 : (if ts = 0 then te.length else te.length + 1) = b := congrArg Prod.snd (Option.some.inj h)
    subst e1
    refine ⟨rfl, ?_⟩
    rw [← e2]
    by_cases q2 : ts = 0
    · rw [if_pos q2, if_pos q2]
    · rw [if_neg q2, if_neg q2, List.length_append]; rfl
  · rw [if_neg q] at h ⊢
    rw [if_neg q]
    by_cases q2 : 24 ≤ te.length
    · rw [if_pos q2] at h; cases h
    · rw [if_neg q2] at h ⊢
      have e1 : te.length + 1 = a := congrArg Prod.fst (Option.some.inj h)
      have e2 : te.length + 1 = b := congrArg Prod.snd (Option.some.inj h)
      subst e1
      exact ⟨rfl, by rw [← e2, List.length_append]; rfl⟩
/-- a step within elements: the elements, the present one, the depth, the place -/
def sSt (ch : Nat → Int) (n : Nat) (D : List El7) (cur : Int) (depth a : Nat) : Option (List El7 × Int × Nat × Nat) :=
  if ch a = 60 then (if ch (a + 1) = 33 then (match sCom ch n a with | none => none | some b => some (D, cur, depth, b))
    else if ch (a + 1) = 47 then (match D[cur.toNat]? with | none => none | some w => match sEd ch n w.1 a with | none => none | some b => some (D, w.2.1, depth - 1, b))
    else match sOp ch n D.length depth a with | none => none | some (k, q, c, b) => some (D ++ [(a, cur, k, q, 0, [])], if c = true then cur else (D.length : Int), if c = true then depth else depth + 1, b))
  else match sCh ch a with
    | none => none
    | some (x, b) => match D[cur.toNat]? with
      | none => none
      | some w => match sTx w.2.2.2.2.1 w.2.2.2.2.2 x with
        | none => none
        | some (ts, te) => some (D.set cur.toNat (w.1, w.2.1, w.2.2.1, w.2.2.2.1, ts, te), cur, depth, b + 1)
theorem sSt_lt {ch : Nat → Int} {n : Nat} {D D2 : List El7} {cur c2 : Int} {depth d2 a b : Nat} (h : sSt ch n D cur depth a = some (D2, c2, d2, b)) : a < b := by
  unfold sSt at h
  split at h
  · split at h
    · cases hc : sCom ch n a with
      | none => rw [hc] at h; cases h
      | some e => rw [hc] at h; cases h; exact sCom_lt hc
    · split at h
      · cases hw : D[cur.toNat]? with
        | none => rw [hw] at h; cases h
        | some w =>
          rw [hw] at h
          have h : (match sEd ch n w.1 a with | none => none | some b => some (D, w.2.1, depth - 1, b)) = some (D2, c2, d2, b) := h
          cases hc : sEd ch n w.1 a with
          | none => rw [hc] at h; cases h
          | some e => rw [hc] at h; cases h; exact sEd_lt hc
      · cases hc : sOp ch n D.length depth a with
        | none => rw [hc] at h; cases h
        | some w => obtain ⟨k, q, c, e⟩ := w; rw [hc] at h; cases h; exact sOp_lt hc
  · cases hc : sCh ch a with
    | none => rw [hc] at h; cases h
    | some r =>
      obtain ⟨x, e⟩ := r
      rw [hc] at h
      have h1 : a ≤ e := sCh_le hc
      cases hw : D[cur.toNat]? with
      | none => rw [hw] at h; cases h
      | some w =>
        rw [hw] at h
        have h : (match sTx w.2.2.2.2.1 w.2.2.2.2.2 x with | none => none | some (ts, te) => some (D.set cur.toNat (w.1, w.2.1, w.2.2.1, w.2.2.2.1, ts, te), cur, depth, e + 1)) = some (D2, c2, d2, b) := h
        cases ht : sTx w.2.2.2.2.1 w.2.2.2.2.2 x with
        | none => rw [ht] at h; cases h
        | some t => obtain ⟨ts, te⟩ := t; rw [ht] at h; cases h; omega
def doF (ch : Nat → Int) (n : Nat) : Nat → List El7 → Int → Nat → Nat → Option (List El7 × Nat)
  | 0, D, _, depth, a => if depth = 0 then some (D, a) else none
  | f + 1, D, cur, depth, a => if depth = 0 then some (D, a) else match sSt ch n D cur depth a with | none => none | some (D2, c2, d2, b) => doF ch n f D2 c2 d2 b
theorem sSt_e {ch : Nat → Int} {n : Nat} {D : List El7} {cur : Int} {depth a : Nat} (h : ch a = -1) : sSt ch n D cur depth a = none := by
  unfold sSt; rw [if_neg (by omega), sCh_e h]
theorem doF_f {ch : Nat → Int} {n : Nat} (hn : ∀ i, n ≤ i → ch i = -1) : ∀ f g D cur depth a, n - a ≤ f → n - a ≤ g → doF ch n f D cur depth a = doF ch n g D cur depth a := by
  intro f
  induction f with
  | zero =>
    intro g D cur depth a hf hg
    cases g with
    | zero => rfl
    | succ g =>
      have h1 := hn a (by omega)
      show (if depth = 0 then some (D, a) else none) = (if depth = 0 then some (D, a) else match sSt ch n D cur depth a with | none => none | some (D2, c2, d2, b) => doF ch n g D2 c2 d2 b)
      rw [sSt_e h1]
  | succ f ih =>
    intro g D cur depth a hf hg
    cases g with
    | zero =>
      have h1 := hn a (by omega)
      show (if depth = 0 then some (D, a) else match sSt ch n D cur depth a with | none => none | some (D2, c2, d2, b) => doF ch n f D2 c2 d2 b) = (if depth = 0 then some (D, a) else none)
      rw [sSt_e h1]
    | succ g =>
      show (if depth = 0 then some (D, a) else match sSt ch n D cur depth a with | none => none | some (D2, c2, d2, b) => doF ch n f D2 c2 d2 b) = (if depth = 0 then some (D, a) else match sSt ch n D cur depth a with | none => none | some (D2, c2, d2, b) => doF ch n g D2 c2 d2 b)
      split
      · rfl
      · cases hc : sSt ch n D cur depth a with
        | none => rfl
        | some w =>
          obtain ⟨D2, c2, d2, b⟩ := w
          have h1 := sSt_lt hc
          exact ih g _ _ _ _ (by omega) (by omega)
def sDo (ch : Nat → Int) (n : Nat) (D : List El7) (cur : Int) (depth a : Nat) : Option (List El7 × Nat) := doF ch n n D cur depth a
theorem sDo_0 {ch : Nat → Int} {n : Nat} {D : List El7} {cur : Int} {a : Nat} : sDo ch n D cur 0 a = some (D, a) := by
  unfold sDo
  cases n <;> rfl
theorem sDo_u {ch : Nat → Int} {n : Nat} (hn : ∀ i, n ≤ i → ch i = -1) {D : List El7} {cur : Int} {depth a : Nat} (h : ¬ depth = 0) : sDo ch n D cur depth a = match sSt ch n D cur depth a with | none => none | some (D2, c2, d2, b) => sDo ch n D2 c2 d2 b := by
  rw [show sDo ch n D cur depth a = doF ch n (n + 1) D cur depth a from doF_f hn n (n + 1) _ _ _ _ (by omega) (by omega)]
  show (if depth = 0 then some (D, a) else _) = _
  rw [if_neg h]
  rfl
theorem sDo_x {ch : Nat → Int} {n : Nat} (hn : ∀ i, n ≤ i → ch i = -1) {D : List El7} {cur : Int} {depth a : Nat} (h : ¬ depth = 0) (hc : sSt ch n D cur depth a = none) : sDo ch n D cur depth a = none := by rw [sDo_u hn h, hc]
theorem sDo_s {ch : Nat → Int} {n : Nat} (hn : ∀ i, n ≤ i → ch i = -1) {D D2 : List El7} {cur c2 : Int} {depth d2 a b : Nat} (h : ¬ depth = 0) (hc : sSt ch n D cur depth a = some (D2, c2, d2, b)) : sDo ch n D cur depth a = sDo ch n D2 c2 d2 b := by rw [sDo_u hn h, hc]
/-- the whole document -/
def sDoc (ch : Nat → Int) (n : Nat) : Option (List El7) := match sBet ch n 0 with
  | none => none
  | some a => match sOp ch n 0 0 a with
    | none => none
    | some (k, q, c, b) => match sDo ch n [(a, -1, k, q, 0, [])] (if c = true then -1 else 0) (if c = true then 0 else 1) b with
      | none => none
      | some (D, e) => match sBet ch n e with
        | none => none
        | some e2 => if ch e2 = -1 then some D else none
/-- the text as characters -/
def CHR (ch : Nat → Int) (n : Nat) (s : Int32) (t : Nat → Int32) : Prop := (n : Int) = s.toInt ∧ ∀ i : Nat, ch i = if (i : Int) < s.toInt then (t i).toInt else -1
theorem CHR_k {ch : Nat → Int} {n : Nat} {s s2 : Int32} {t t2 : Nat → Int32} (h : CHR ch n s t) (e : s2 = s) (f : t2 = t) : CHR ch n s2 t2 := by rw [e, f]; exact h
theorem CHR_n {ch : Nat → Int} {n : Nat} {s : Int32} {t : Nat → Int32} (h : CHR ch n s t) : ∀ i, n ≤ i → ch i = -1 := fun i hi => by rw [h.2, if_neg (by have := h.1; omega)]
