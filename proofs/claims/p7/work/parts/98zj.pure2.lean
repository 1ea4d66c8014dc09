theorem lv7_b {q : At7} {k : Int64} (h : PA7 q) (hl : lv7 q k = -1) : ¬ (97 ≤ (aW q k).toInt ∧ (aW q k).toInt ≤ 122) := by
  have hm := i64_m1
  rcases gA_h (q := q) (k := k) with ⟨g1, g2⟩ | ⟨v, g1, g2⟩
  · intro w; rw [aW_n g1] at w; omega
  · rw [aW_s g1]
    have hp := gA_pv h g1
    by_cases h8 : v.length ≤ 8
    · rw [if_pos h8]
      rcases foL_len hp h8 with ⟨a, b⟩ | ⟨c, a, b, _⟩ | ⟨c, d, a, b, b1, _, b2, _⟩ | ⟨a, b⟩
      · omega
      · subst a
        have e : lv7 q k = if 97 ≤ c ∧ c ≤ 122 then c - 97 else -1 := by unfold lv7; rw [g1]
        rw [e] at hl
        by_cases hc : 97 ≤ c ∧ c ≤ 122
        · rw [if_pos hc] at hl; omega
        · rw [b]; exact hc
      · omega
      · omega
    · rw [if_neg h8]; omega
theorem dAt_pv {D : List El7} {x : Nat} (h : PD7 D) : PA7 (dAt D x) := by
  unfold dAt dEl
  cases hx : D[x]? with
  | none => exact PA7_0
  | some w => exact h w (List.mem_of_getElem? hx)
theorem aH_m {q : At7} {k : Int64} : (aH q k = 0 ∧ ∀ y, y ∈ q → ¬ y.1 = k) ∨ (aH q k = 1 ∧ ∃ y, y ∈ q ∧ y.1 = k) := by
  unfold aH
  cases h : hasK q k with
  | false =>
    unfold hasK at h
    rw [List.any_eq_false] at h
    exact Or.inl ⟨if_neg (by decide), fun y hy e => h y hy (beq_iff_eq.mpr e)⟩
  | true =>
    unfold hasK at h
    rw [List.any_eq_true] at h
    obtain ⟨y, hy, e⟩ := h
    exact Or.inr ⟨if_pos rfl, y, hy, beq_iff_eq.mp e⟩
theorem dAy_m {D : List El7} {x : Nat} {P : Int → Prop} : (∀ k, 0 ≤ k → k < (dAt D x).length → P (dAy D x k).toInt) ↔ ∀ y, y ∈ dAt D x → P y.1.toInt := by
  constructor
  · intro h y hy
    obtain ⟨i, hi, e⟩ := List.mem_iff_getElem.mp hy
    have := h i (Nat.zero_le _) hi
    unfold dAy at this
    rw [List.getElem?_eq_getElem hi, e] at this
    exact this
  · intro h k _ hk
    unfold dAy
    rw [List.getElem?_eq_getElem hk]
    exact h _ (List.getElem_mem hk)
theorem ATN_e {D : List El7} {x : Nat} : ATN D x ↔ (∀ y, y ∈ dAt D x → MAY (dKd D x) (dIn D x) y.1.toInt) ∧ ∀ k, aH (dAt D x) k = 0 ∨ RVL (dKd D x) (dAt D x) k := by
  constructor
  · intro h
    refine ⟨fun y hy => (h y hy).1, fun k => ?_⟩
    rcases aH_m (q := dAt D x) (k := k) with q | ⟨_, y, hy, e⟩
    · exact Or.inl q.1
    · rw [← e]; exact Or.inr (h y hy).2
  · intro h y hy
    refine ⟨h.1 y hy, ?_⟩
    rcases h.2 y.1 with q | q
    · rcases aH_m (q := dAt D x) (k := y.1) with w | w
      · exact absurd rfl (w.2 y hy)
      · rw [w.1] at q; exact absurd q (by decide)
    · exact q
theorem ahD_0 {D : List El7} {f : Int} {x : Nat} : ∀ n, ahD D f x n = 0 ↔ ∀ k, k < n → ¬ AQD D f x k := by
  intro n
  induction n with
  | zero => exact ⟨fun _ k hk => absurd hk (Nat.not_lt_zero k), fun _ => rfl⟩
  | succ n ih =>
    have e : ahD D f x (n + 1) = ahD D f x n + (if AQD D f x n then 1 else 0) := rfl
    rw [e]
    constructor
    · intro h k hk
      by_cases hq : AQD D f x n
      · rw [if_pos hq] at h; omega
      · rw [if_neg hq] at h
        by_cases he : k = n
        · rw [he]; exact hq
        · exact ih.mp (by omega) k (by omega)
    · intro h
      rw [if_neg (h n (by omega)), ih.mpr (fun k hk => h k (by omega))]
theorem FON_e {D : List El7} {x : Nat} (hP : PD7 D) (hl : 0 ≤ lv7 (dAt D x) 1851878757) : FON D x ↔ ahD D 1 x x = 0 := by
  rw [ahD_0]
  have hx := (lv7_a (q := dAt D x) (k := 1851878757) (dAt_pv hP)).resolve_right (fun w => by have := w.1; omega)
  constructor
  · intro h k hk hq
    obtain ⟨q1, q2, q3⟩ := hq
    have q3 := q3.resolve_left (by decide)
    refine h k hk q1 q2 ?_
    rcases lv7_a (q := dAt D k) (k := 1851878757) (dAt_pv hP) with w | w
    · omega
    · have := lv7_b (dAt_pv hP) w.1; omega
  · intro h k hk q1 q2 q3
    refine h k hk ⟨q1, q2, Or.inr ?_⟩
    rcases lv7_a (q := dAt D k) (k := 1851878757) (dAt_pv hP) with w | w
    · omega
    · omega

theorem rv_NAME {kd : Int} {q : At7} (h : PA7 q) : RVL kd q 1851878757 ↔ (kd = 2 ∧ aI q 1851878757 = 1) ∨ (¬ kd = 2 ∧ 0 ≤ lv7 q 1851878757) := by
  unfold RVL ty7
  simp only [show (1851878757 : Int64).toInt = 1851878757 from by decide, nv7_z h, nve_7955827 h, nve_28271 h, nve_7302757 h, nve_1835101817 h, nve_6909556 h, nve_500136506472 h, nve_1667785074 h, nve_1952807028 h, nve_7499639 h, Int.reduceEq, false_and, false_or, or_false, true_or, or_true, true_and, and_true, or_self] <;> (constructor <;> intro w <;> omega)

theorem rv_CLASS {kd : Int} {q : At7} (h : PA7 q) : RVL kd q 427020088179 ↔ 0 ≤ cv7 q 427020088179 := by
  unfold RVL ty7
  simp only [show (427020088179 : Int64).toInt = 427020088179 from by decide, nv7_z h, nve_7955827 h, nve_28271 h, nve_7302757 h, nve_1835101817 h, nve_6909556 h, nve_500136506472 h, nve_1667785074 h, nve_1952807028 h, nve_7499639 h, Int.reduceEq, false_and, false_or, or_false, true_or, or_true, true_and, and_true, or_self] <;> (constructor <;> intro w <;> omega)

theorem rv_AT {kd : Int} {q : At7} (h : PA7 q) : RVL kd q 24948 ↔ 0 ≤ pl7 q 24948 := by
  unfold RVL ty7
  simp only [show (24948 : Int64).toInt = 24948 from by decide, nv7_z h, nve_7955827 h, nve_28271 h, nve_7302757 h, nve_1835101817 h, nve_6909556 h, nve_500136506472 h, nve_1667785074 h, nve_1952807028 h, nve_7499639 h, Int.reduceEq, false_and, false_or, or_false, true_or, or_true, true_and, and_true, or_self] <;> (constructor <;> intro w <;> omega)

theorem rv_VALUE {kd : Int} {q : At7} (h : PA7 q) : RVL kd q 508440638821 ↔ True := by
  unfold RVL ty7
  simp only [show (508440638821 : Int64).toInt = 508440638821 from by decide, nv7_z h, nve_7955827 h, nve_28271 h, nve_7302757 h, nve_1835101817 h, nve_6909556 h, nve_500136506472 h, nve_1667785074 h, nve_1952807028 h, nve_7499639 h, Int.reduceEq, false_and, false_or, or_false, true_or, or_true, true_and, and_true, or_self] <;> (constructor <;> intro w <;> omega)

theorem rv_TYPE {kd : Int} {q : At7} (h : PA7 q) : RVL kd q 1954115685 ↔ 0 ≤ cv7 q 1954115685 ∨ (aW q 1954115685).toInt = 6909556 ∨ (aW q 1954115685).toInt = 500136506472 ∨ (aW q 1954115685).toInt = 1667785074 ∨ (aW q 1954115685).toInt = 1952807028 ∨ (aW q 1954115685).toInt = 7499639 := by
  unfold RVL ty7
  simp only [show (1954115685 : Int64).toInt = 1954115685 from by decide, nv7_z h, nve_7955827 h, nve_28271 h, nve_7302757 h, nve_1835101817 h, nve_6909556 h, nve_500136506472 h, nve_1667785074 h, nve_1952807028 h, nve_7499639 h, Int.reduceEq, false_and, false_or, or_false, true_or, or_true, true_and, and_true, or_self] <;> (constructor <;> intro w <;> omega)

theorem rv_ABSTRACT {kd : Int} {q : At7} (h : PA7 q) : RVL kd q 7017298113369039732 ↔ (aW q 7017298113369039732).toInt = 7955827 ∨ (aW q 7017298113369039732).toInt = 28271 := by
  unfold RVL ty7
  simp only [show (7017298113369039732 : Int64).toInt = 7017298113369039732 from by decide, nv7_z h, nve_7955827 h, nve_28271 h, nve_7302757 h, nve_1835101817 h, nve_6909556 h, nve_500136506472 h, nve_1667785074 h, nve_1952807028 h, nve_7499639 h, Int.reduceEq, false_and, false_or, or_false, true_or, or_true, true_and, and_true, or_self] <;> (constructor <;> intro w <;> omega)

theorem rv_LAZY {kd : Int} {q : At7} (h : PA7 q) : RVL kd q 1818327673 ↔ (aW q 1818327673).toInt = 7955827 ∨ (aW q 1818327673).toInt = 28271 := by
  unfold RVL ty7
  simp only [show (1818327673 : Int64).toInt = 1818327673 from by decide, nv7_z h, nve_7955827 h, nve_28271 h, nve_7302757 h, nve_1835101817 h, nve_6909556 h, nve_500136506472 h, nve_1667785074 h, nve_1952807028 h, nve_7499639 h, Int.reduceEq, false_and, false_or, or_false, true_or, or_true, true_and, and_true, or_self] <;> (constructor <;> intro w <;> omega)

theorem rv_SCOPE {kd : Int} {q : At7} (h : PA7 q) : RVL kd q 495589486693 ↔ (aW q 495589486693).toInt = 7302757 ∨ (aW q 495589486693).toInt = 1835101817 := by
  unfold RVL ty7
  simp only [show (495589486693 : Int64).toInt = 495589486693 from by decide, nv7_z h, nve_7955827 h, nve_28271 h, nve_7302757 h, nve_1835101817 h, nve_6909556 h, nve_500136506472 h, nve_1667785074 h, nve_1952807028 h, nve_7499639 h, Int.reduceEq, false_and, false_or, or_false, true_or, or_true, true_and, and_true, or_self] <;> (constructor <;> intro w <;> omega)

theorem rv_METHOD {kd : Int} {q : At7} (h : PA7 q) : RVL kd q 120282512125796 ↔ 0 ≤ lv7 q 120282512125796 := by
  unfold RVL ty7
  simp only [show (120282512125796 : Int64).toInt = 120282512125796 from by decide, nv7_z h, nve_7955827 h, nve_28271 h, nve_7302757 h, nve_1835101817 h, nve_6909556 h, nve_500136506472 h, nve_1667785074 h, nve_1952807028 h, nve_7499639 h, Int.reduceEq, false_and, false_or, or_false, true_or, or_true, true_and, and_true, or_self] <;> (constructor <;> intro w <;> omega)

theorem rv_INIT {kd : Int} {q : At7} (h : PA7 q) : RVL kd q 1768843636 ↔ 0 ≤ lv7 q 1768843636 := by
  unfold RVL ty7
  simp only [show (1768843636 : Int64).toInt = 1768843636 from by decide, nv7_z h, nve_7955827 h, nve_28271 h, nve_7302757 h, nve_1835101817 h, nve_6909556 h, nve_500136506472 h, nve_1667785074 h, nve_1952807028 h, nve_7499639 h, Int.reduceEq, false_and, false_or, or_false, true_or, or_true, true_and, and_true, or_self] <;> (constructor <;> intro w <;> omega)

theorem rv_DESTROY {kd : Int} {q : At7} (h : PA7 q) : RVL kd q 28259044220366713 ↔ 0 ≤ lv7 q 28259044220366713 := by
  unfold RVL ty7
  simp only [show (28259044220366713 : Int64).toInt = 28259044220366713 from by decide, nv7_z h, nve_7955827 h, nve_28271 h, nve_7302757 h, nve_1835101817 h, nve_6909556 h, nve_500136506472 h, nve_1667785074 h, nve_1952807028 h, nve_7499639 h, Int.reduceEq, false_and, false_or, or_false, true_or, or_true, true_and, and_true, or_self] <;> (constructor <;> intro w <;> omega)

theorem rv_ID {kd : Int} {q : At7} (h : PA7 q) : RVL kd q 26980 ↔ aI q 26980 = 1 := by
  unfold RVL ty7
  simp only [show (26980 : Int64).toInt = 26980 from by decide, nv7_z h, nve_7955827 h, nve_28271 h, nve_7302757 h, nve_1835101817 h, nve_6909556 h, nve_500136506472 h, nve_1667785074 h, nve_1952807028 h, nve_7499639 h, Int.reduceEq, false_and, false_or, or_false, true_or, or_true, true_and, and_true, or_self] <;> (constructor <;> intro w <;> omega)

theorem rv_PARENT {kd : Int} {q : At7} (h : PA7 q) : RVL kd q 123563833388660 ↔ aI q 123563833388660 = 1 := by
  unfold RVL ty7
  simp only [show (123563833388660 : Int64).toInt = 123563833388660 from by decide, nv7_z h, nve_7955827 h, nve_28271 h, nve_7302757 h, nve_1835101817 h, nve_6909556 h, nve_500136506472 h, nve_1667785074 h, nve_1952807028 h, nve_7499639 h, Int.reduceEq, false_and, false_or, or_false, true_or, or_true, true_and, and_true, or_self] <;> (constructor <;> intro w <;> omega)

theorem rv_FACTORY {kd : Int} {q : At7} (h : PA7 q) : RVL kd q 28817527407604345 ↔ aI q 28817527407604345 = 1 := by
  unfold RVL ty7
  simp only [show (28817527407604345 : Int64).toInt = 28817527407604345 from by decide, nv7_z h, nve_7955827 h, nve_28271 h, nve_7302757 h, nve_1835101817 h, nve_6909556 h, nve_500136506472 h, nve_1667785074 h, nve_1952807028 h, nve_7499639 h, Int.reduceEq, false_and, false_or, or_false, true_or, or_true, true_and, and_true, or_self] <;> (constructor <;> intro w <;> omega)

theorem rv_DEPENDS {kd : Int} {q : At7} (h : PA7 q) : RVL kd q 28259031083541619 ↔ aI q 28259031083541619 = 1 := by
  unfold RVL ty7
  simp only [show (28259031083541619 : Int64).toInt = 28259031083541619 from by decide, nv7_z h, nve_7955827 h, nve_28271 h, nve_7302757 h, nve_1835101817 h, nve_6909556 h, nve_500136506472 h, nve_1667785074 h, nve_1952807028 h, nve_7499639 h, Int.reduceEq, false_and, false_or, or_false, true_or, or_true, true_and, and_true, or_self] <;> (constructor <;> intro w <;> omega)

theorem rv_TO {kd : Int} {q : At7} (h : PA7 q) : RVL kd q 29807 ↔ aI q 29807 = 1 := by
  unfold RVL ty7
  simp only [show (29807 : Int64).toInt = 29807 from by decide, nv7_z h, nve_7955827 h, nve_28271 h, nve_7302757 h, nve_1835101817 h, nve_6909556 h, nve_500136506472 h, nve_1667785074 h, nve_1952807028 h, nve_7499639 h, Int.reduceEq, false_and, false_or, or_false, true_or, or_true, true_and, and_true, or_self] <;> (constructor <;> intro w <;> omega)

theorem rv_REF {kd : Int} {q : At7} (h : PA7 q) : RVL kd q 7497062 ↔ aI q 7497062 = 1 := by
  unfold RVL ty7
  simp only [show (7497062 : Int64).toInt = 7497062 from by decide, nv7_z h, nve_7955827 h, nve_28271 h, nve_7302757 h, nve_1835101817 h, nve_6909556 h, nve_500136506472 h, nve_1667785074 h, nve_1952807028 h, nve_7499639 h, Int.reduceEq, false_and, false_or, or_false, true_or, or_true, true_and, and_true, or_self] <;> (constructor <;> intro w <;> omega)

theorem rv_BEAN {kd : Int} {q : At7} (h : PA7 q) : RVL kd q 1650811246 ↔ aI q 1650811246 = 1 := by
  unfold RVL ty7
  simp only [show (1650811246 : Int64).toInt = 1650811246 from by decide, nv7_z h, nve_7955827 h, nve_28271 h, nve_7302757 h, nve_1835101817 h, nve_6909556 h, nve_500136506472 h, nve_1667785074 h, nve_1952807028 h, nve_7499639 h, Int.reduceEq, false_and, false_or, or_false, true_or, or_true, true_and, and_true, or_self] <;> (constructor <;> intro w <;> omega)

theorem GKR_2 {D : List El7} {x : Nat} (h : dKd D x = 2) : GKR D x ↔ (aI (dAt D x) 1851878757 = 1 ∧ aI (dAt D x) 29807 = 1 ∧ (dCn D x : Int) = 0) := by
  constructor
  · intro g
    unfold GKR at g
    rcases g with q | ⟨q, p⟩ | ⟨q, p⟩ | ⟨q, p⟩ | ⟨q, p⟩ | ⟨q, p⟩ | ⟨q, p⟩ | ⟨q, p⟩ | ⟨q, p⟩ <;> first | (clear p; exfalso; omega) | (exfalso; omega) | exact p
  · intro p
    exact Or.inr (Or.inl ⟨h, p⟩)

theorem GKR_3 {D : List El7} {x : Nat} (h : dKd D x = 3) : GKR D x ↔ (((aH (dAt D x) 26980 = 0 ∨ aI (dAt D x) 26980 = 1) ∧ (aH (dAt D x) 123563833388660 = 0 ∨ aI (dAt D x) 123563833388660 = 1) ∧ (aH (dAt D x) 28817527407604345 = 0 ∨ aI (dAt D x) 28817527407604345 = 1) ∧ (aH (dAt D x) 28259031083541619 = 0 ∨ aI (dAt D x) 28259031083541619 = 1)) ∧ ((aH (dAt D x) 120282512125796 = 0 ∨ (aI (dAt D x) 120282512125796 = 1 ∧ (aW (dAt D x) 120282512125796).toInt < 256)) ∧ (aH (dAt D x) 1768843636 = 0 ∨ (aI (dAt D x) 1768843636 = 1 ∧ (aW (dAt D x) 1768843636).toInt < 256)) ∧ (aH (dAt D x) 28259044220366713 = 0 ∨ (aI (dAt D x) 28259044220366713 = 1 ∧ (aW (dAt D x) 28259044220366713).toInt < 256))) ∧ ((aH (dAt D x) 427020088179 = 0 ∨ CLSV (aW (dAt D x) 427020088179).toInt) ∧ (aH (dAt D x) 7017298113369039732 = 0 ∨ (aW (dAt D x) 7017298113369039732).toInt = 7955827 ∨ (aW (dAt D x) 7017298113369039732).toInt = 28271) ∧ (aH (dAt D x) 1818327673 = 0 ∨ (aW (dAt D x) 1818327673).toInt = 7955827 ∨ (aW (dAt D x) 1818327673).toInt = 28271) ∧ (aH (dAt D x) 495589486693 = 0 ∨ (aW (dAt D x) 495589486693).toInt = 7302757 ∨ (aW (dAt D x) 495589486693).toInt = 1835101817)) ∧ ((dKd D (dAb D x).toNat = 1 ∧ aH (dAt D x) 26980 = 1) ∨ (¬ dKd D (dAb D x).toNat = 1 ∧ aH (dAt D x) 26980 = 0 ∧ aH (dAt D x) 7017298113369039732 = 0 ∧ aH (dAt D x) 1818327673 = 0)) ∧ ((aW (dAt D x) 7017298113369039732).toInt = 7955827 ∨ aH (dAt D x) 427020088179 = 1 ∨ aH (dAt D x) 123563833388660 = 1 ∨ aH (dAt D x) 28817527407604345 = 1) ∧ (aH (dAt D x) 28817527407604345 = 0 ∨ aH (dAt D x) 120282512125796 = 1)) := by
  constructor
  · intro g
    unfold GKR at g
    rcases g with q | ⟨q, p⟩ | ⟨q, p⟩ | ⟨q, p⟩ | ⟨q, p⟩ | ⟨q, p⟩ | ⟨q, p⟩ | ⟨q, p⟩ | ⟨q, p⟩ <;> first | (clear p; exfalso; omega) | (exfalso; omega) | exact p
  · intro p
    exact Or.inr (Or.inr (Or.inl ⟨h, p⟩))

theorem GKR_4 {D : List El7} {x : Nat} (h : dKd D x = 4) : GKR D x ↔ (((aH (dAt D x) 508440638821 + aH (dAt D x) 7497062 + (dCn D x : Int) = 1 ∧ (aH (dAt D x) 7497062 = 0 ∨ aI (dAt D x) 7497062 = 1)) ∧ (ahD D 0 x x : Int) < 4 ∧ (aH (dAt D x) 24948 = 0 ∨ (48 ≤ (aW (dAt D x) 24948).toInt ∧ (aW (dAt D x) 24948).toInt ≤ 50))) ∧ (aH (dAt D x) 1954115685 = 0 ∨ ((aW (dAt D x) 1954115685).toInt = 6909556 ∨ (aW (dAt D x) 1954115685).toInt = 500136506472 ∨ (aW (dAt D x) 1954115685).toInt = 1667785074 ∨ (aW (dAt D x) 1954115685).toInt = 1952807028 ∨ (aW (dAt D x) 1954115685).toInt = 7499639) ∨ (aH (dAt D x) 1954115685 = 1 ∧ CLSV (aW (dAt D x) 1954115685).toInt))) := by
  constructor
  · intro g
    unfold GKR at g
    rcases g with q | ⟨q, p⟩ | ⟨q, p⟩ | ⟨q, p⟩ | ⟨q, p⟩ | ⟨q, p⟩ | ⟨q, p⟩ | ⟨q, p⟩ | ⟨q, p⟩ <;> first | (clear p; exfalso; omega) | (exfalso; omega) | exact p
  · intro p
    exact Or.inr (Or.inr (Or.inr (Or.inl ⟨h, p⟩)))

theorem GKR_5 {D : List El7} {x : Nat} (h : dKd D x = 5) : GKR D x ↔ ((aH (dAt D x) 508440638821 + aH (dAt D x) 7497062 + (dCn D x : Int) = 1 ∧ (aH (dAt D x) 7497062 = 0 ∨ aI (dAt D x) 7497062 = 1)) ∧ (aI (dAt D x) 1851878757 = 1 ∧ (aW (dAt D x) 1851878757).toInt < 256) ∧ (ahD D 0 x x : Int) < 8 ∧ (ahD D 1 x x : Int) = 0) := by
  constructor
  · intro g
    unfold GKR at g
    rcases g with q | ⟨q, p⟩ | ⟨q, p⟩ | ⟨q, p⟩ | ⟨q, p⟩ | ⟨q, p⟩ | ⟨q, p⟩ | ⟨q, p⟩ | ⟨q, p⟩ <;> first | (clear p; exfalso; omega) | (exfalso; omega) | exact p
  · intro p
    exact Or.inr (Or.inr (Or.inr (Or.inr (Or.inl ⟨h, p⟩))))

theorem GKR_6 {D : List El7} {x : Nat} (h : dKd D x = 6) : GKR D x ↔ ((dCn D x : Int) ≤ 6) := by
  constructor
  · intro g
    unfold GKR at g
    rcases g with q | ⟨q, p⟩ | ⟨q, p⟩ | ⟨q, p⟩ | ⟨q, p⟩ | ⟨q, p⟩ | ⟨q, p⟩ | ⟨q, p⟩ | ⟨q, p⟩ <;> first | (clear p; exfalso; omega) | (exfalso; omega) | exact p
  · intro p
    exact Or.inr (Or.inr (Or.inr (Or.inr (Or.inr (Or.inl ⟨h, p⟩)))))

theorem GKR_7 {D : List El7} {x : Nat} (h : (dKd D x = 7 ∨ dKd D x = 9)) : GKR D x ↔ ((dCn D x : Int) = 0) := by
  constructor
  · intro g
    unfold GKR at g
    rcases g with q | ⟨q, p⟩ | ⟨q, p⟩ | ⟨q, p⟩ | ⟨q, p⟩ | ⟨q, p⟩ | ⟨q, p⟩ | ⟨q, p⟩ | ⟨q, p⟩ <;> first | (clear p; exfalso; omega) | (exfalso; omega) | exact p
  · intro p
    exact Or.inr (Or.inr (Or.inr (Or.inr (Or.inr (Or.inr (Or.inl ⟨h, p⟩))))))

theorem GKR_8 {D : List El7} {x : Nat} (h : dKd D x = 8) : GKR D x ↔ (aI (dAt D x) 1650811246 = 1 ∧ (dCn D x : Int) = 0) := by
  constructor
  · intro g
    unfold GKR at g
    rcases g with q | ⟨q, p⟩ | ⟨q, p⟩ | ⟨q, p⟩ | ⟨q, p⟩ | ⟨q, p⟩ | ⟨q, p⟩ | ⟨q, p⟩ | ⟨q, p⟩ <;> first | (clear p; exfalso; omega) | (exfalso; omega) | exact p
  · intro p
    exact Or.inr (Or.inr (Or.inr (Or.inr (Or.inr (Or.inr (Or.inr (Or.inl ⟨h, p⟩)))))))

theorem GKR_10 {D : List El7} {x : Nat} (h : dKd D x = 10) : GKR D x ↔ ((aI (dAt D x) 1851878757 = 1 ∧ (aW (dAt D x) 1851878757).toInt < 256) ∧ aI (dAt D x) 1650811246 = 1 ∧ (dCn D x : Int) = 0 ∧ (ahD D 0 x x : Int) < 2 ∧ (ahD D 1 x x : Int) = 0) := by
  constructor
  · intro g
    unfold GKR at g
    rcases g with q | ⟨q, p⟩ | ⟨q, p⟩ | ⟨q, p⟩ | ⟨q, p⟩ | ⟨q, p⟩ | ⟨q, p⟩ | ⟨q, p⟩ | ⟨q, p⟩ <;> first | (clear p; exfalso; omega) | (exfalso; omega) | exact p
  · intro p
    exact Or.inr (Or.inr (Or.inr (Or.inr (Or.inr (Or.inr (Or.inr (Or.inr (⟨h, p⟩))))))))

theorem kd7_r (k : Int) : 0 ≤ kd7 k ∧ kd7 k ≤ 10 := by unfold kd7; constructor <;> (repeat' split) <;> decide
theorem dIn_0 {D : List El7} {x : Nat} (hk : ∀ e, e < D.length → ¬ dKd D e = 0) (hx : x < D.length) (ha : dAb D x < (x : Int) ∧ -1 ≤ dAb D x) : (dIn D x = 0 ∧ dAb D x = -1) ∨ (¬ dIn D x = 0 ∧ 0 ≤ dAb D x ∧ dIn D x = dKd D (dAb D x).toNat) := by
  unfold dIn
  by_cases h : dAb D x = -1
  · rw [if_pos h]; exact Or.inl ⟨rfl, h⟩
  · rw [if_neg h]; exact Or.inr ⟨hk _ (by omega), by omega, rfl⟩
theorem aH_y {q : At7} {k : Int64} {y : Int64 × List Int} (hy : y ∈ q) (e : y.1.toInt = k.toInt) : aH q k = 1 := by
  rcases aH_m (q := q) (k := k) with w | w
  · exact absurd (Int64.toInt_inj.mp e) (w.2 y hy)
  · exact w.1
theorem aH_01 {q : At7} {k : Int64} : aH q k = 0 ∨ aH q k = 1 := (aH_m (q := q) (k := k)).imp (fun w => w.1) (fun w => w.1)
theorem c_w {q : At7} {k : Int64} (h : aH q k = 0 ∨ aI q k = 1) (w : aH q k = 1) : aI q k = 1 := by omega
theorem c_l {q : At7} {k : Int64} (hq : PA7 q) (h : aH q k = 0 ∨ (aI q k = 1 ∧ (aW q k).toInt < 256)) (w : aH q k = 1) : 0 ≤ lv7 q k := by
  have := lv7_a (k := k) hq; omega
theorem c_l2 {q : At7} {k : Int64} (hq : PA7 q) (h : aI q k = 1 ∧ (aW q k).toInt < 256) : 0 ≤ lv7 q k := by
  have := lv7_a (k := k) hq; omega
theorem l_c {q : At7} {k : Int64} (hq : PA7 q) (h : 0 ≤ lv7 q k) : aI q k = 1 ∧ (aW q k).toInt < 256 := by
  have := lv7_a (k := k) hq; omega
theorem c_c {q : At7} {k : Int64} (hq : PA7 q) (h : aH q k = 0 ∨ CLSV (aW q k).toInt) (w : aH q k = 1) : 0 ≤ cv7 q k := by
  rcases cv7_a (k := k) hq with v | v
  · exact v.1
  · exact absurd (h.resolve_left (by omega)) v.2
theorem cv_c {q : At7} {k : Int64} (hq : PA7 q) (h : 0 ≤ cv7 q k) : CLSV (aW q k).toInt := by
  rcases cv7_a (k := k) hq with v | v
  · exact v.2.2.2
  · have := v.1; omega
theorem c_p {q : At7} {k : Int64} (hq : PA7 q) (h : aH q k = 0 ∨ (48 ≤ (aW q k).toInt ∧ (aW q k).toInt ≤ 50)) (w : aH q k = 1) : 0 ≤ pl7 q k := by
  have := pl7_a (k := k) hq; omega
theorem p_c {q : At7} {k : Int64} (hq : PA7 q) (h : 0 ≤ pl7 q k) : 48 ≤ (aW q k).toInt ∧ (aW q k).toInt ≤ 50 := by
  have := pl7_a (k := k) hq; omega
theorem c_o {a : Int} {b : Prop} (h : a = 0 ∨ b) (w : a = 1) : b := h.resolve_left (by omega)

theorem ALW_1 {z : Int} : ALW 1 z ↔ False := by
  unfold ALW
  simp only [Int.reduceEq, false_and, false_or, or_false, true_and]

theorem MAY_1 {i z : Int} : MAY 1 i z ↔ False := by
  unfold MAY
  simp only [Int.reduceEq, false_and, false_or, or_false, true_and]

theorem INP_1 {a : Int} : INP7 1 a ↔ a = 0 := by
  unfold INP7
  simp only [Int.reduceEq, false_and, false_or, or_false, true_and, true_or, or_true, or_self]

theorem ALW_2 {z : Int} : ALW 2 z ↔ (z = 1851878757 ∨ z = 29807) := by
  unfold ALW
  simp only [Int.reduceEq, false_and, false_or, or_false, true_and]

theorem MAY_2 {i z : Int} : MAY 2 i z ↔ (z = 1851878757 ∨ z = 29807) := by
  unfold MAY
  simp only [Int.reduceEq, false_and, false_or, or_false, true_and]

theorem INP_2 {a : Int} : INP7 2 a ↔ a = 1 := by
  unfold INP7
  simp only [Int.reduceEq, false_and, false_or, or_false, true_and, true_or, or_true, or_self]

theorem ALW_3 {z : Int} : ALW 3 z ↔ (z = 26980 ∨ z = 427020088179 ∨ z = 123563833388660 ∨ z = 7017298113369039732 ∨ z = 495589486693 ∨ z = 1818327673 ∨ z = 28817527407604345 ∨ z = 120282512125796 ∨ z = 1768843636 ∨ z = 28259044220366713 ∨ z = 28259031083541619) := by
  unfold ALW
  simp only [Int.reduceEq, false_and, false_or, or_false, true_and]

theorem MAY_3 {i z : Int} : MAY 3 i z ↔ (((z = 26980 ∨ z = 7017298113369039732 ∨ z = 1818327673) ∧ i = 1) ∨ z = 427020088179 ∨ z = 123563833388660 ∨ z = 495589486693 ∨ z = 28817527407604345 ∨ z = 120282512125796 ∨ z = 1768843636 ∨ z = 28259044220366713 ∨ z = 28259031083541619) := by
  unfold MAY
  simp only [Int.reduceEq, false_and, false_or, or_false, true_and]

theorem INP_3 {a : Int} : INP7 3 a ↔ (a = 1 ∨ a = 4 ∨ a = 5 ∨ a = 6) := by
  unfold INP7
  simp only [Int.reduceEq, false_and, false_or, or_false, true_and, true_or, or_true, or_self]

theorem ALW_4 {z : Int} : ALW 4 z ↔ (z = 24948 ∨ z = 1954115685 ∨ z = 508440638821 ∨ z = 7497062) := by
  unfold ALW
  simp only [Int.reduceEq, false_and, false_or, or_false, true_and]

theorem MAY_4 {i z : Int} : MAY 4 i z ↔ (z = 24948 ∨ z = 1954115685 ∨ z = 508440638821 ∨ z = 7497062) := by
  unfold MAY
  simp only [Int.reduceEq, false_and, false_or, or_false, true_and]

theorem INP_4 {a : Int} : INP7 4 a ↔ a = 3 := by
  unfold INP7
  simp only [Int.reduceEq, false_and, false_or, or_false, true_and, true_or, or_true, or_self]

theorem ALW_5 {z : Int} : ALW 5 z ↔ (z = 1851878757 ∨ z = 508440638821 ∨ z = 7497062) := by
  unfold ALW
  simp only [Int.reduceEq, false_and, false_or, or_false, true_and]

theorem MAY_5 {i z : Int} : MAY 5 i z ↔ (z = 1851878757 ∨ z = 508440638821 ∨ z = 7497062) := by
  unfold MAY
  simp only [Int.reduceEq, false_and, false_or, or_false, true_and]

theorem INP_5 {a : Int} : INP7 5 a ↔ a = 3 := by
  unfold INP7
  simp only [Int.reduceEq, false_and, false_or, or_false, true_and, true_or, or_true, or_self]

theorem ALW_6 {z : Int} : ALW 6 z ↔ False := by
  unfold ALW
  simp only [Int.reduceEq, false_and, false_or, or_false, true_and]

theorem MAY_6 {i z : Int} : MAY 6 i z ↔ False := by
  unfold MAY
  simp only [Int.reduceEq, false_and, false_or, or_false, true_and]

theorem INP_6 {a : Int} : INP7 6 a ↔ (a = 4 ∨ a = 5) := by
  unfold INP7
  simp only [Int.reduceEq, false_and, false_or, or_false, true_and, true_or, or_true, or_self]

theorem ALW_7 {z : Int} : ALW 7 z ↔ False := by
  unfold ALW
  simp only [Int.reduceEq, false_and, false_or, or_false, true_and]

theorem MAY_7 {i z : Int} : MAY 7 i z ↔ False := by
  unfold MAY
  simp only [Int.reduceEq, false_and, false_or, or_false, true_and]

theorem INP_7 {a : Int} : INP7 7 a ↔ (a = 4 ∨ a = 5 ∨ a = 6) := by
  unfold INP7
  simp only [Int.reduceEq, false_and, false_or, or_false, true_and, true_or, or_true, or_self]

theorem ALW_8 {z : Int} : ALW 8 z ↔ (z = 1650811246) := by
  unfold ALW
  simp only [Int.reduceEq, false_and, false_or, or_false, true_and]

theorem MAY_8 {i z : Int} : MAY 8 i z ↔ (z = 1650811246) := by
  unfold MAY
  simp only [Int.reduceEq, false_and, false_or, or_false, true_and]

theorem INP_8 {a : Int} : INP7 8 a ↔ (a = 4 ∨ a = 5 ∨ a = 6) := by
  unfold INP7
  simp only [Int.reduceEq, false_and, false_or, or_false, true_and, true_or, or_true, or_self]

theorem ALW_9 {z : Int} : ALW 9 z ↔ False := by
  unfold ALW
  simp only [Int.reduceEq, false_and, false_or, or_false, true_and]

theorem MAY_9 {i z : Int} : MAY 9 i z ↔ False := by
  unfold MAY
  simp only [Int.reduceEq, false_and, false_or, or_false, true_and]

theorem INP_9 {a : Int} : INP7 9 a ↔ (a = 4 ∨ a = 5 ∨ a = 6) := by
  unfold INP7
  simp only [Int.reduceEq, false_and, false_or, or_false, true_and, true_or, or_true, or_self]

theorem ALW_10 {z : Int} : ALW 10 z ↔ (z = 1851878757 ∨ z = 1650811246) := by
  unfold ALW
  simp only [Int.reduceEq, false_and, false_or, or_false, true_and]

theorem MAY_10 {i z : Int} : MAY 10 i z ↔ (z = 1851878757 ∨ z = 1650811246) := by
  unfold MAY
  simp only [Int.reduceEq, false_and, false_or, or_false, true_and]

theorem INP_10 {a : Int} : INP7 10 a ↔ a = 3 := by
  unfold INP7
  simp only [Int.reduceEq, false_and, false_or, or_false, true_and, true_or, or_true, or_self]
theorem may3 {i kd z a b c : Int} (e : kd = i) (h : (kd = 1 ∧ a = 1) ∨ (¬ kd = 1 ∧ a = 0 ∧ b = 0 ∧ c = 0)) (a1 : z = 26980 → a = 1) (a2 : z = 7017298113369039732 → b = 1) (a3 : z = 1818327673 → c = 1) (w : z = 26980 ∨ z = 427020088179 ∨ z = 123563833388660 ∨ z = 7017298113369039732 ∨ z = 495589486693 ∨ z = 1818327673 ∨ z = 28817527407604345 ∨ z = 120282512125796 ∨ z = 1768843636 ∨ z = 28259044220366713 ∨ z = 28259031083541619) : ((z = 26980 ∨ z = 7017298113369039732 ∨ z = 1818327673) ∧ i = 1) ∨ z = 427020088179 ∨ z = 123563833388660 ∨ z = 495589486693 ∨ z = 28817527407604345 ∨ z = 120282512125796 ∨ z = 1768843636 ∨ z = 28259044220366713 ∨ z = 28259031083541619 := by
  rcases w with w | w | w | w | w | w | w | w | w | w | w
  · exact Or.inl ⟨Or.inl w, by have := a1 w; omega⟩
  · exact Or.inr (Or.inl w)
  · exact Or.inr (Or.inr (Or.inl w))
  · exact Or.inl ⟨Or.inr (Or.inl w), by have := a2 w; omega⟩
  · exact Or.inr (Or.inr (Or.inr (Or.inl w)))
  · exact Or.inl ⟨Or.inr (Or.inr w), by have := a3 w; omega⟩
  · exact Or.inr (Or.inr (Or.inr (Or.inr (Or.inl w))))
  · exact Or.inr (Or.inr (Or.inr (Or.inr (Or.inr (Or.inl w)))))
  · exact Or.inr (Or.inr (Or.inr (Or.inr (Or.inr (Or.inr (Or.inl w))))))
  · exact Or.inr (Or.inr (Or.inr (Or.inr (Or.inr (Or.inr (Or.inr (Or.inl w)))))))
  · exact Or.inr (Or.inr (Or.inr (Or.inr (Or.inr (Or.inr (Or.inr (Or.inr w)))))))
theorem nbe3 {D : List El7} {x : Nat} {kd : Int} (hq : PA7 (dAt D x)) (e : kd = dIn D x) (h : (kd = 1 ∧ aH (dAt D x) 26980 = 1) ∨ (¬ kd = 1 ∧ aH (dAt D x) 26980 = 0 ∧ aH (dAt D x) 7017298113369039732 = 0 ∧ aH (dAt D x) 1818327673 = 0)) (s : (aW (dAt D x) 7017298113369039732).toInt = 7955827 ∨ aH (dAt D x) 427020088179 = 1 ∨ aH (dAt D x) 123563833388660 = 1 ∨ aH (dAt D x) 28817527407604345 = 1) (f : aH (dAt D x) 28817527407604345 = 0 ∨ aH (dAt D x) 120282512125796 = 1) : NBE D x :=
  ⟨by omega, f, s.imp (nve_7955827 hq).mpr id⟩

theorem GF_1 {D : List El7} {x : Nat} (hP : PD7 D) (hx : x < D.length) (hk : ∀ e, e < D.length → ¬ dKd D e = 0) (ha : dAb D x < (x : Int) ∧ -1 ≤ dAb D x) (hkd : dKd D x = 1) (g : GOODR D x) : GOODC D x := by
  have hq := dAt_pv (x := x) hP
  have hin := dIn_0 hk hx ha
  have hab : ¬ dIn D x = 0 → dKd D (dAb D x).toNat = dIn D x := fun v => ((hin.resolve_left (fun w => v w.1)).2.2).symm
  obtain ⟨⟨⟨h1, h2⟩, h3⟩, h4⟩ := g
  have h3 := (dAy_m (P := fun z => ALW (dKd D x) z)).mp h3
  rw [hkd] at h3
  rw [hkd, INP_1] at h1
  refine ⟨Or.inl ⟨hkd, (hin.resolve_right (fun v => v.1 h1)).2⟩, ATN_e.mpr ⟨fun y hy => by have w := h3 y hy; rw [ALW_1] at w; rw [hkd, MAY_1]; exact w, ?_⟩, ⟨Or.inl (by clear h4; omega), Or.inl (by clear h4; omega), Or.inl (by clear h4; omega), Or.inl (by clear h4; omega), Or.inl (by clear h4; omega)⟩, (by clear h4; omega), Or.inl hkd⟩
  · intro k
    rcases aH_m (q := dAt D x) (k := k) with w | ⟨w, y, hy, e⟩
    · exact Or.inl w.1
    · right
      have w9 := h3 y hy
      rw [e, ALW_1] at w9
      exact absurd w9 id

theorem GF_2 {D : List El7} {x : Nat} (hP : PD7 D) (hx : x < D.length) (hk : ∀ e, e < D.length → ¬ dKd D e = 0) (ha : dAb D x < (x : Int) ∧ -1 ≤ dAb D x) (hkd : dKd D x = 2) (g : GOODR D x) : GOODC D x := by
  have hq := dAt_pv (x := x) hP
  have hin := dIn_0 hk hx ha
  have hab : ¬ dIn D x = 0 → dKd D (dAb D x).toNat = dIn D x := fun v => ((hin.resolve_left (fun w => v w.1)).2.2).symm
  obtain ⟨⟨⟨h1, h2⟩, h3⟩, h4⟩ := g
  have h3 := (dAy_m (P := fun z => ALW (dKd D x) z)).mp h3
  rw [hkd] at h3
  rw [hkd, INP_2] at h1
  have h4 := (GKR_2 hkd).mp h4
  refine ⟨Or.inr (Or.inl ⟨hkd, h1⟩), ATN_e.mpr ⟨fun y hy => by have w := h3 y hy; rw [ALW_2] at w; rw [hkd, MAY_2]; exact w, ?_⟩, ⟨Or.inr ⟨(aI_1 hq h4.1).2, (aI_1 hq h4.2.1).2⟩, Or.inl (by clear h4; omega), Or.inl (by clear h4; omega), Or.inl (by clear h4; omega), Or.inl (by clear h4; omega)⟩, (by clear h4; omega), Or.inr (Or.inr (Or.inr (Or.inr ⟨by omega, h4.2.2⟩)))⟩
  · intro k
    rcases aH_m (q := dAt D x) (k := k) with w | ⟨w, y, hy, e⟩
    · exact Or.inl w.1
    · right
      have w9 := h3 y hy
      rw [e, ALW_2] at w9
      rcases w9 with e9 | e9
      · obtain rfl : k = 1851878757 := Int64.toInt_inj.mp (e9.trans (by decide))
        rw [hkd]
        exact (rv_NAME hq).mpr (Or.inl ⟨rfl, h4.1⟩)
      · obtain rfl : k = 29807 := Int64.toInt_inj.mp (e9.trans (by decide))
        rw [hkd]
        exact (rv_TO hq).mpr (h4.2.1)

theorem GF_3 {D : List El7} {x : Nat} (hP : PD7 D) (hx : x < D.length) (hk : ∀ e, e < D.length → ¬ dKd D e = 0) (ha : dAb D x < (x : Int) ∧ -1 ≤ dAb D x) (hkd : dKd D x = 3) (g : GOODR D x) : GOODC D x := by
  have hq := dAt_pv (x := x) hP
  have hin := dIn_0 hk hx ha
  have hab : ¬ dIn D x = 0 → dKd D (dAb D x).toNat = dIn D x := fun v => ((hin.resolve_left (fun w => v w.1)).2.2).symm
  obtain ⟨⟨⟨h1, h2⟩, h3⟩, h4⟩ := g
  have h3 := (dAy_m (P := fun z => ALW (dKd D x) z)).mp h3
  rw [hkd] at h3
  rw [hkd, INP_3] at h1
  have hd0 : ¬ dIn D x = 0 := by omega
  have h4 := (GKR_3 hkd).mp h4
  have nbe : NBE D x := nbe3 hq (hab hd0) h4.2.2.2.1 h4.2.2.2.2.1 h4.2.2.2.2.2
  refine ⟨Or.inr (Or.inr (Or.inl ⟨hkd, h1⟩)), ATN_e.mpr ⟨fun y hy => by have w := h3 y hy; rw [ALW_3] at w; rw [hkd, MAY_3]; have a1 : y.1.toInt = 26980 → aH (dAt D x) 26980 = 1 := fun e => aH_y hy (e.trans (by decide)); have a2 : y.1.toInt = 7017298113369039732 → aH (dAt D x) 7017298113369039732 = 1 := fun e => aH_y hy (e.trans (by decide)); have a3 : y.1.toInt = 1818327673 → aH (dAt D x) 1818327673 = 1 := fun e => aH_y hy (e.trans (by decide)); exact may3 (hab hd0) h4.2.2.2.1 a1 a2 a3 w, ?_⟩, ⟨Or.inl (by clear h4; omega), Or.inr nbe, Or.inl (by clear h4; omega), Or.inl (by clear h4; omega), Or.inl (by clear h4; omega)⟩, (by clear h4; omega), Or.inr (Or.inl hkd)⟩
  · intro k
    rcases aH_m (q := dAt D x) (k := k) with w | ⟨w, y, hy, e⟩
    · exact Or.inl w.1
    · right
      have w9 := h3 y hy
      rw [e, ALW_3] at w9
      rcases w9 with e9 | e9 | e9 | e9 | e9 | e9 | e9 | e9 | e9 | e9 | e9
      · obtain rfl : k = 26980 := Int64.toInt_inj.mp (e9.trans (by decide))
        rw [hkd]
        exact (rv_ID hq).mpr (c_w h4.1.1 w)
      · obtain rfl : k = 427020088179 := Int64.toInt_inj.mp (e9.trans (by decide))
        rw [hkd]
        exact (rv_CLASS hq).mpr (c_c hq h4.2.2.1.1 w)
      · obtain rfl : k = 123563833388660 := Int64.toInt_inj.mp (e9.trans (by decide))
        rw [hkd]
        exact (rv_PARENT hq).mpr (c_w h4.1.2.1 w)
      · obtain rfl : k = 7017298113369039732 := Int64.toInt_inj.mp (e9.trans (by decide))
        rw [hkd]
        exact (rv_ABSTRACT hq).mpr (c_o h4.2.2.1.2.1 w)
      · obtain rfl : k = 495589486693 := Int64.toInt_inj.mp (e9.trans (by decide))
        rw [hkd]
        exact (rv_SCOPE hq).mpr (c_o h4.2.2.1.2.2.2 w)
      · obtain rfl : k = 1818327673 := Int64.toInt_inj.mp (e9.trans (by decide))
        rw [hkd]
        exact (rv_LAZY hq).mpr (c_o h4.2.2.1.2.2.1 w)
      · obtain rfl : k = 28817527407604345 := Int64.toInt_inj.mp (e9.trans (by decide))
        rw [hkd]
        exact (rv_FACTORY hq).mpr (c_w h4.1.2.2.1 w)
      · obtain rfl : k = 120282512125796 := Int64.toInt_inj.mp (e9.trans (by decide))
        rw [hkd]
        exact (rv_METHOD hq).mpr (c_l hq h4.2.1.1 w)
      · obtain rfl : k = 1768843636 := Int64.toInt_inj.mp (e9.trans (by decide))
        rw [hkd]
        exact (rv_INIT hq).mpr (c_l hq h4.2.1.2.1 w)
      · obtain rfl : k = 28259044220366713 := Int64.toInt_inj.mp (e9.trans (by decide))
        rw [hkd]
        exact (rv_DESTROY hq).mpr (c_l hq h4.2.1.2.2 w)
      · obtain rfl : k = 28259031083541619 := Int64.toInt_inj.mp (e9.trans (by decide))
        rw [hkd]
        exact (rv_DEPENDS hq).mpr (c_w h4.1.2.2.2 w)

theorem GF_4 {D : List El7} {x : Nat} (hP : PD7 D) (hx : x < D.length) (hk : ∀ e, e < D.length → ¬ dKd D e = 0) (ha : dAb D x < (x : Int) ∧ -1 ≤ dAb D x) (hkd : dKd D x = 4) (g : GOODR D x) : GOODC D x := by
  have hq := dAt_pv (x := x) hP
  have hin := dIn_0 hk hx ha
  have hab : ¬ dIn D x = 0 → dKd D (dAb D x).toNat = dIn D x := fun v => ((hin.resolve_left (fun w => v w.1)).2.2).symm
  obtain ⟨⟨⟨h1, h2⟩, h3⟩, h4⟩ := g
  have h3 := (dAy_m (P := fun z => ALW (dKd D x) z)).mp h3
  rw [hkd] at h3
  rw [hkd, INP_4] at h1
  have h4 := (GKR_4 hkd).mp h4
  refine ⟨Or.inr (Or.inr (Or.inr (Or.inl ⟨hkd, h1, (by have := h4.1.2.1; omega)⟩))), ATN_e.mpr ⟨fun y hy => by have w := h3 y hy; rw [ALW_4] at w; rw [hkd, MAY_4]; exact w, ?_⟩, ⟨Or.inl (by clear h4; omega), Or.inl (by clear h4; omega), Or.inl (by clear h4; omega), Or.inl (by clear h4; omega), Or.inl (by clear h4; omega)⟩, (by clear h4; omega), Or.inr (Or.inr (Or.inl ⟨Or.inl hkd, h4.1.1.1⟩))⟩
  · intro k
    rcases aH_m (q := dAt D x) (k := k) with w | ⟨w, y, hy, e⟩
    · exact Or.inl w.1
    · right
      have w9 := h3 y hy
      rw [e, ALW_4] at w9
      rcases w9 with e9 | e9 | e9 | e9
      · obtain rfl : k = 24948 := Int64.toInt_inj.mp (e9.trans (by decide))
        rw [hkd]
        exact (rv_AT hq).mpr (c_p hq h4.1.2.2 w)
      · obtain rfl : k = 1954115685 := Int64.toInt_inj.mp (e9.trans (by decide))
        rw [hkd]
        exact (rv_TYPE hq).mpr ((c_o h4.2 w).elim Or.inr (fun v => Or.inl (c_c hq (Or.inr v.2) w)))
      · obtain rfl : k = 508440638821 := Int64.toInt_inj.mp (e9.trans (by decide))
        rw [hkd]
        exact (rv_VALUE hq).mpr (trivial)
      · obtain rfl : k = 7497062 := Int64.toInt_inj.mp (e9.trans (by decide))
        rw [hkd]
        exact (rv_REF hq).mpr (c_w h4.1.1.2 w)

theorem GF_5 {D : List El7} {x : Nat} (hP : PD7 D) (hx : x < D.length) (hk : ∀ e, e < D.length → ¬ dKd D e = 0) (ha : dAb D x < (x : Int) ∧ -1 ≤ dAb D x) (hkd : dKd D x = 5) (g : GOODR D x) : GOODC D x := by
  have hq := dAt_pv (x := x) hP
  have hin := dIn_0 hk hx ha
  have hab : ¬ dIn D x = 0 → dKd D (dAb D x).toNat = dIn D x := fun v => ((hin.resolve_left (fun w => v w.1)).2.2).symm
  obtain ⟨⟨⟨h1, h2⟩, h3⟩, h4⟩ := g
  have h3 := (dAy_m (P := fun z => ALW (dKd D x) z)).mp h3
  rw [hkd] at h3
  rw [hkd, INP_5] at h1
  have h4 := (GKR_5 hkd).mp h4
  refine ⟨Or.inr (Or.inr (Or.inr (Or.inr (Or.inl ⟨hkd, h1, (by have := h4.2.2.1; omega), (FON_e hP (c_l2 hq h4.2.1)).mpr (by have := h4.2.2.2; omega)⟩)))), ATN_e.mpr ⟨fun y hy => by have w := h3 y hy; rw [ALW_5] at w; rw [hkd, MAY_5]; exact w, ?_⟩, ⟨Or.inl (by clear h4; omega), Or.inl (by clear h4; omega), Or.inr (aI_1 hq h4.2.1.1).2, Or.inl (by clear h4; omega), Or.inl (by clear h4; omega)⟩, (by clear h4; omega), Or.inr (Or.inr (Or.inl ⟨Or.inr hkd, h4.1.1⟩))⟩
  · intro k
    rcases aH_m (q := dAt D x) (k := k) with w | ⟨w, y, hy, e⟩
    · exact Or.inl w.1
    · right
      have w9 := h3 y hy
      rw [e, ALW_5] at w9
      rcases w9 with e9 | e9 | e9
      · obtain rfl : k = 1851878757 := Int64.toInt_inj.mp (e9.trans (by decide))
        rw [hkd]
        exact (rv_NAME hq).mpr (Or.inr ⟨by decide, c_l2 hq h4.2.1⟩)
      · obtain rfl : k = 508440638821 := Int64.toInt_inj.mp (e9.trans (by decide))
        rw [hkd]
        exact (rv_VALUE hq).mpr (trivial)
      · obtain rfl : k = 7497062 := Int64.toInt_inj.mp (e9.trans (by decide))
        rw [hkd]
        exact (rv_REF hq).mpr (c_w h4.1.2 w)

theorem GF_6 {D : List El7} {x : Nat} (hP : PD7 D) (hx : x < D.length) (hk : ∀ e, e < D.length → ¬ dKd D e = 0) (ha : dAb D x < (x : Int) ∧ -1 ≤ dAb D x) (hkd : dKd D x = 6) (g : GOODR D x) : GOODC D x := by
  have hq := dAt_pv (x := x) hP
  have hin := dIn_0 hk hx ha
  have hab : ¬ dIn D x = 0 → dKd D (dAb D x).toNat = dIn D x := fun v => ((hin.resolve_left (fun w => v w.1)).2.2).symm
  obtain ⟨⟨⟨h1, h2⟩, h3⟩, h4⟩ := g
  have h3 := (dAy_m (P := fun z => ALW (dKd D x) z)).mp h3
  rw [hkd] at h3
  rw [hkd, INP_6] at h1
  have h4 := (GKR_6 hkd).mp h4
  refine ⟨Or.inr (Or.inr (Or.inr (Or.inr (Or.inr (Or.inr (Or.inl ⟨hkd, h1⟩)))))), ATN_e.mpr ⟨fun y hy => by have w := h3 y hy; rw [ALW_6] at w; rw [hkd, MAY_6]; exact w, ?_⟩, ⟨Or.inl (by clear h4; omega), Or.inl (by clear h4; omega), Or.inl (by clear h4; omega), Or.inl (by clear h4; omega), Or.inl (by clear h4; omega)⟩, (by clear h4; omega), Or.inr (Or.inr (Or.inr (Or.inl ⟨hkd, h4⟩)))⟩
  · intro k
    rcases aH_m (q := dAt D x) (k := k) with w | ⟨w, y, hy, e⟩
    · exact Or.inl w.1
    · right
      have w9 := h3 y hy
      rw [e, ALW_6] at w9
      exact absurd w9 id

theorem GF_7 {D : List El7} {x : Nat} (hP : PD7 D) (hx : x < D.length) (hk : ∀ e, e < D.length → ¬ dKd D e = 0) (ha : dAb D x < (x : Int) ∧ -1 ≤ dAb D x) (hkd : dKd D x = 7) (g : GOODR D x) : GOODC D x := by
  have hq := dAt_pv (x := x) hP
  have hin := dIn_0 hk hx ha
  have hab : ¬ dIn D x = 0 → dKd D (dAb D x).toNat = dIn D x := fun v => ((hin.resolve_left (fun w => v w.1)).2.2).symm
  obtain ⟨⟨⟨h1, h2⟩, h3⟩, h4⟩ := g
  have h3 := (dAy_m (P := fun z => ALW (dKd D x) z)).mp h3
  rw [hkd] at h3
  rw [hkd, INP_7] at h1
  have h4 := (GKR_7 (Or.inl hkd)).mp h4
  refine ⟨Or.inr (Or.inr (Or.inr (Or.inr (Or.inr (Or.inr (Or.inr (⟨Or.inl hkd, h1⟩))))))), ATN_e.mpr ⟨fun y hy => by have w := h3 y hy; rw [ALW_7] at w; rw [hkd, MAY_7]; exact w, ?_⟩, ⟨Or.inl (by clear h4; omega), Or.inl (by clear h4; omega), Or.inl (by clear h4; omega), Or.inl (by clear h4; omega), Or.inl (by clear h4; omega)⟩, (by clear h4; omega), Or.inr (Or.inr (Or.inr (Or.inr ⟨by omega, h4⟩)))⟩
  · intro k
    rcases aH_m (q := dAt D x) (k := k) with w | ⟨w, y, hy, e⟩
    · exact Or.inl w.1
    · right
      have w9 := h3 y hy
      rw [e, ALW_7] at w9
      exact absurd w9 id

theorem GF_8 {D : List El7} {x : Nat} (hP : PD7 D) (hx : x < D.length) (hk : ∀ e, e < D.length → ¬ dKd D e = 0) (ha : dAb D x < (x : Int) ∧ -1 ≤ dAb D x) (hkd : dKd D x = 8) (g : GOODR D x) : GOODC D x := by
  have hq := dAt_pv (x := x) hP
  have hin := dIn_0 hk hx ha
  have hab : ¬ dIn D x = 0 → dKd D (dAb D x).toNat = dIn D x := fun v => ((hin.resolve_left (fun w => v w.1)).2.2).symm
  obtain ⟨⟨⟨h1, h2⟩, h3⟩, h4⟩ := g
  have h3 := (dAy_m (P := fun z => ALW (dKd D x) z)).mp h3
  rw [hkd] at h3
  rw [hkd, INP_8] at h1
  have h4 := (GKR_8 hkd).mp h4
  refine ⟨Or.inr (Or.inr (Or.inr (Or.inr (Or.inr (Or.inr (Or.inr (⟨Or.inr (Or.inl hkd), h1⟩))))))), ATN_e.mpr ⟨fun y hy => by have w := h3 y hy; rw [ALW_8] at w; rw [hkd, MAY_8]; exact w, ?_⟩, ⟨Or.inl (by clear h4; omega), Or.inl (by clear h4; omega), Or.inl (by clear h4; omega), Or.inr (aI_1 hq h4.1).2, Or.inl (by clear h4; omega)⟩, (by clear h4; omega), Or.inr (Or.inr (Or.inr (Or.inr ⟨by omega, h4.2⟩)))⟩
  · intro k
    rcases aH_m (q := dAt D x) (k := k) with w | ⟨w, y, hy, e⟩
    · exact Or.inl w.1
    · right
      have w9 := h3 y hy
      rw [e, ALW_8] at w9
      have e9 := w9
      · obtain rfl : k = 1650811246 := Int64.toInt_inj.mp (e9.trans (by decide))
        rw [hkd]
        exact (rv_BEAN hq).mpr (h4.1)

theorem GF_9 {D : List El7} {x : Nat} (hP : PD7 D) (hx : x < D.length) (hk : ∀ e, e < D.length → ¬ dKd D e = 0) (ha : dAb D x < (x : Int) ∧ -1 ≤ dAb D x) (hkd : dKd D x = 9) (g : GOODR D x) : GOODC D x := by
  have hq := dAt_pv (x := x) hP
  have hin := dIn_0 hk hx ha
  have hab : ¬ dIn D x = 0 → dKd D (dAb D x).toNat = dIn D x := fun v => ((hin.resolve_left (fun w => v w.1)).2.2).symm
  obtain ⟨⟨⟨h1, h2⟩, h3⟩, h4⟩ := g
  have h3 := (dAy_m (P := fun z => ALW (dKd D x) z)).mp h3
  rw [hkd] at h3
  rw [hkd, INP_9] at h1
  have h4 := (GKR_7 (Or.inr hkd)).mp h4
  refine ⟨Or.inr (Or.inr (Or.inr (Or.inr (Or.inr (Or.inr (Or.inr (⟨Or.inr (Or.inr hkd), h1⟩))))))), ATN_e.mpr ⟨fun y hy => by have w := h3 y hy; rw [ALW_9] at w; rw [hkd, MAY_9]; exact w, ?_⟩, ⟨Or.inl (by clear h4; omega), Or.inl (by clear h4; omega), Or.inl (by clear h4; omega), Or.inl (by clear h4; omega), Or.inl (by clear h4; omega)⟩, (by clear h4; omega), Or.inr (Or.inr (Or.inr (Or.inr ⟨by omega, h4⟩)))⟩
  · intro k
    rcases aH_m (q := dAt D x) (k := k) with w | ⟨w, y, hy, e⟩
    · exact Or.inl w.1
    · right
      have w9 := h3 y hy
      rw [e, ALW_9] at w9
      exact absurd w9 id

theorem GF_10 {D : List El7} {x : Nat} (hP : PD7 D) (hx : x < D.length) (hk : ∀ e, e < D.length → ¬ dKd D e = 0) (ha : dAb D x < (x : Int) ∧ -1 ≤ dAb D x) (hkd : dKd D x = 10) (g : GOODR D x) : GOODC D x := by
  have hq := dAt_pv (x := x) hP
  have hin := dIn_0 hk hx ha
  have hab : ¬ dIn D x = 0 → dKd D (dAb D x).toNat = dIn D x := fun v => ((hin.resolve_left (fun w => v w.1)).2.2).symm
  obtain ⟨⟨⟨h1, h2⟩, h3⟩, h4⟩ := g
  have h3 := (dAy_m (P := fun z => ALW (dKd D x) z)).mp h3
  rw [hkd] at h3
  rw [hkd, INP_10] at h1
  have h4 := (GKR_10 hkd).mp h4
  refine ⟨Or.inr (Or.inr (Or.inr (Or.inr (Or.inr (Or.inl ⟨hkd, h1, (by have := h4.2.2.2.1; omega), (FON_e hP (c_l2 hq h4.1)).mpr (by have := h4.2.2.2.2; omega)⟩))))), ATN_e.mpr ⟨fun y hy => by have w := h3 y hy; rw [ALW_10] at w; rw [hkd, MAY_10]; exact w, ?_⟩, ⟨Or.inl (by clear h4; omega), Or.inl (by clear h4; omega), Or.inl (by clear h4; omega), Or.inl (by clear h4; omega), Or.inr ⟨(aI_1 hq h4.1.1).2, (aI_1 hq h4.2.1).2⟩⟩, (by clear h4; omega), Or.inr (Or.inr (Or.inr (Or.inr ⟨by omega, h4.2.2.1⟩)))⟩
  · intro k
    rcases aH_m (q := dAt D x) (k := k) with w | ⟨w, y, hy, e⟩
    · exact Or.inl w.1
    · right
      have w9 := h3 y hy
      rw [e, ALW_10] at w9
      rcases w9 with e9 | e9
      · obtain rfl : k = 1851878757 := Int64.toInt_inj.mp (e9.trans (by decide))
        rw [hkd]
        exact (rv_NAME hq).mpr (Or.inr ⟨by decide, c_l2 hq h4.1⟩)
      · obtain rfl : k = 1650811246 := Int64.toInt_inj.mp (e9.trans (by decide))
        rw [hkd]
        exact (rv_BEAN hq).mpr (h4.2.1)

theorem STN_1 {D : List El7} {x : Nat} (h : dKd D x = 1) (g : STN D x) : dAb D x = -1 := by
  unfold STN at g
  rcases g with ⟨q, p⟩ | ⟨q, p⟩ | ⟨q, p⟩ | ⟨q, p⟩ | ⟨q, p⟩ | ⟨q, p⟩ | ⟨q, p⟩ | ⟨q, p⟩ <;> first | (clear p; exfalso; omega) | exact p
theorem STN_2 {D : List El7} {x : Nat} (h : dKd D x = 2) (g : STN D x) : dIn D x = 1 := by
  unfold STN at g
  rcases g with ⟨q, p⟩ | ⟨q, p⟩ | ⟨q, p⟩ | ⟨q, p⟩ | ⟨q, p⟩ | ⟨q, p⟩ | ⟨q, p⟩ | ⟨q, p⟩ <;> first | (clear p; exfalso; omega) | exact p
theorem CNT_2 {D : List El7} {x : Nat} (h : dKd D x = 2) (g : CNT D x) : (dCn D x : Int) = 0 := by unfold CNT at g; omega
theorem STN_3 {D : List El7} {x : Nat} (h : dKd D x = 3) (g : STN D x) : (dIn D x = 1 ∨ dIn D x = 4 ∨ dIn D x = 5 ∨ dIn D x = 6) := by
  unfold STN at g
  rcases g with ⟨q, p⟩ | ⟨q, p⟩ | ⟨q, p⟩ | ⟨q, p⟩ | ⟨q, p⟩ | ⟨q, p⟩ | ⟨q, p⟩ | ⟨q, p⟩ <;> first | (clear p; exfalso; omega) | exact p
theorem STN_4 {D : List El7} {x : Nat} (h : dKd D x = 4) (g : STN D x) : (dIn D x = 3 ∧ ahD D 0 x x < 4) := by
  unfold STN at g
  rcases g with ⟨q, p⟩ | ⟨q, p⟩ | ⟨q, p⟩ | ⟨q, p⟩ | ⟨q, p⟩ | ⟨q, p⟩ | ⟨q, p⟩ | ⟨q, p⟩ <;> first | (clear p; exfalso; omega) | exact p
theorem CNT_4 {D : List El7} {x : Nat} (h : dKd D x = 4) (g : CNT D x) : aH (dAt D x) 508440638821 + aH (dAt D x) 7497062 + (dCn D x : Int) = 1 := by unfold CNT at g; omega
theorem STN_5 {D : List El7} {x : Nat} (h : dKd D x = 5) (g : STN D x) : (dIn D x = 3 ∧ ahD D 0 x x < 8 ∧ FON D x) := by
  unfold STN at g
  rcases g with ⟨q, p⟩ | ⟨q, p⟩ | ⟨q, p⟩ | ⟨q, p⟩ | ⟨q, p⟩ | ⟨q, p⟩ | ⟨q, p⟩ | ⟨q, p⟩ <;> first | (clear p; exfalso; omega) | exact p
theorem CNT_5 {D : List El7} {x : Nat} (h : dKd D x = 5) (g : CNT D x) : aH (dAt D x) 508440638821 + aH (dAt D x) 7497062 + (dCn D x : Int) = 1 := by unfold CNT at g; omega
theorem STN_6 {D : List El7} {x : Nat} (h : dKd D x = 6) (g : STN D x) : (dIn D x = 4 ∨ dIn D x = 5) := by
  unfold STN at g
  rcases g with ⟨q, p⟩ | ⟨q, p⟩ | ⟨q, p⟩ | ⟨q, p⟩ | ⟨q, p⟩ | ⟨q, p⟩ | ⟨q, p⟩ | ⟨q, p⟩ <;> first | (clear p; exfalso; omega) | exact p
theorem CNT_6 {D : List El7} {x : Nat} (h : dKd D x = 6) (g : CNT D x) : (dCn D x : Int) ≤ 6 := by unfold CNT at g; omega
theorem STN_7 {D : List El7} {x : Nat} (h : dKd D x = 7) (g : STN D x) : (dIn D x = 4 ∨ dIn D x = 5 ∨ dIn D x = 6) := by
  unfold STN at g
  rcases g with ⟨q, p⟩ | ⟨q, p⟩ | ⟨q, p⟩ | ⟨q, p⟩ | ⟨q, p⟩ | ⟨q, p⟩ | ⟨q, p⟩ | ⟨q, p⟩ <;> first | (clear p; exfalso; omega) | exact p
theorem CNT_7 {D : List El7} {x : Nat} (h : dKd D x = 7) (g : CNT D x) : (dCn D x : Int) = 0 := by unfold CNT at g; omega
theorem STN_8 {D : List El7} {x : Nat} (h : dKd D x = 8) (g : STN D x) : (dIn D x = 4 ∨ dIn D x = 5 ∨ dIn D x = 6) := by
  unfold STN at g
  rcases g with ⟨q, p⟩ | ⟨q, p⟩ | ⟨q, p⟩ | ⟨q, p⟩ | ⟨q, p⟩ | ⟨q, p⟩ | ⟨q, p⟩ | ⟨q, p⟩ <;> first | (clear p; exfalso; omega) | exact p
theorem CNT_8 {D : List El7} {x : Nat} (h : dKd D x = 8) (g : CNT D x) : (dCn D x : Int) = 0 := by unfold CNT at g; omega
theorem STN_9 {D : List El7} {x : Nat} (h : dKd D x = 9) (g : STN D x) : (dIn D x = 4 ∨ dIn D x = 5 ∨ dIn D x = 6) := by
  unfold STN at g
  rcases g with ⟨q, p⟩ | ⟨q, p⟩ | ⟨q, p⟩ | ⟨q, p⟩ | ⟨q, p⟩ | ⟨q, p⟩ | ⟨q, p⟩ | ⟨q, p⟩ <;> first | (clear p; exfalso; omega) | exact p
theorem CNT_9 {D : List El7} {x : Nat} (h : dKd D x = 9) (g : CNT D x) : (dCn D x : Int) = 0 := by unfold CNT at g; omega
theorem STN_10 {D : List El7} {x : Nat} (h : dKd D x = 10) (g : STN D x) : (dIn D x = 3 ∧ ahD D 0 x x < 2 ∧ FON D x) := by
  unfold STN at g
  rcases g with ⟨q, p⟩ | ⟨q, p⟩ | ⟨q, p⟩ | ⟨q, p⟩ | ⟨q, p⟩ | ⟨q, p⟩ | ⟨q, p⟩ | ⟨q, p⟩ <;> first | (clear p; exfalso; omega) | exact p
theorem CNT_10 {D : List El7} {x : Nat} (h : dKd D x = 10) (g : CNT D x) : (dCn D x : Int) = 0 := by unfold CNT at g; omega
theorem alw3 {i z : Int} (h : ((z = 26980 ∨ z = 7017298113369039732 ∨ z = 1818327673) ∧ i = 1) ∨ z = 427020088179 ∨ z = 123563833388660 ∨ z = 495589486693 ∨ z = 28817527407604345 ∨ z = 120282512125796 ∨ z = 1768843636 ∨ z = 28259044220366713 ∨ z = 28259031083541619) : z = 26980 ∨ z = 427020088179 ∨ z = 123563833388660 ∨ z = 7017298113369039732 ∨ z = 495589486693 ∨ z = 1818327673 ∨ z = 28817527407604345 ∨ z = 120282512125796 ∨ z = 1768843636 ∨ z = 28259044220366713 ∨ z = 28259031083541619 := by omega
theorem may0 {q : At7} {i : Int} {k : Int64} (m : ∀ y, y ∈ q → MAY 3 i y.1.toInt) (hk : k.toInt = 26980 ∨ k.toInt = 7017298113369039732 ∨ k.toInt = 1818327673) (hi : ¬ i = 1) : aH q k = 0 := by
  rcases aH_m (q := q) (k := k) with w | ⟨_, y, hy, e⟩
  · exact w.1
  · have v := m y hy
    rw [MAY_3, e] at v
    omega
theorem plc3 {i kd a b c : Int} (e : kd = i) (h : ¬ i = 1 ∨ a = 1) (a1 : ¬ i = 1 → a = 0) (a2 : ¬ i = 1 → b = 0) (a3 : ¬ i = 1 → c = 0) : (kd = 1 ∧ a = 1) ∨ (¬ kd = 1 ∧ a = 0 ∧ b = 0 ∧ c = 0) := by
  by_cases hi : i = 1
  · exact Or.inl ⟨e.trans hi, h.resolve_left (fun v => v hi)⟩
  · exact Or.inr ⟨by rw [e]; exact hi, a1 hi, a2 hi, a3 hi⟩
theorem GB_1 {D : List El7} {x : Nat} (hP : PD7 D) (hx : x < D.length) (hk : ∀ e, e < D.length → ¬ dKd D e = 0) (ha : dAb D x < (x : Int) ∧ -1 ≤ dAb D x) (hkd : dKd D x = 1) (g : GOODC D x) : GOODR D x := by
  have hq := dAt_pv (x := x) hP
  have hin := dIn_0 hk hx ha
  have hab : ¬ dIn D x = 0 → dKd D (dAb D x).toNat = dIn D x := fun v => ((hin.resolve_left (fun w => v w.1)).2.2).symm
  obtain ⟨h1, h2, h3, h4, h5⟩ := g
  have h1 := STN_1 hkd h1
  obtain ⟨m, r⟩ := ATN_e.mp h2
  rw [hkd] at m r
  exact ⟨⟨⟨by rw [hkd, INP_1]; exact (hin.resolve_right (fun v => by have := v.2.1; omega)).1, by omega⟩, (dAy_m (P := fun z => ALW (dKd D x) z)).mpr (fun y hy => by have w := m y hy; rw [MAY_1] at w; show ALW (dKd D x) _; rw [hkd, ALW_1]; exact w)⟩, Or.inl hkd⟩

theorem GB_2 {D : List El7} {x : Nat} (hP : PD7 D) (hx : x < D.length) (hk : ∀ e, e < D.length → ¬ dKd D e = 0) (ha : dAb D x < (x : Int) ∧ -1 ≤ dAb D x) (hkd : dKd D x = 2) (g : GOODC D x) : GOODR D x := by
  have hq := dAt_pv (x := x) hP
  have hin := dIn_0 hk hx ha
  have hab : ¬ dIn D x = 0 → dKd D (dAb D x).toNat = dIn D x := fun v => ((hin.resolve_left (fun w => v w.1)).2.2).symm
  obtain ⟨h1, h2, h3, h4, h5⟩ := g
  have h1 := STN_2 hkd h1
  obtain ⟨m, r⟩ := ATN_e.mp h2
  rw [hkd] at m r
  have h3 := h3.1.resolve_left (fun v => v hkd)
  exact ⟨⟨⟨by rw [hkd, INP_2]; exact h1, by omega⟩, (dAy_m (P := fun z => ALW (dKd D x) z)).mpr (fun y hy => by have w := m y hy; rw [MAY_2] at w; show ALW (dKd D x) _; rw [hkd, ALW_2]; exact w)⟩, (GKR_2 hkd).mpr ⟨(((rv_NAME hq).mp ((r 1851878757).resolve_left (by rw [h3.1]; decide))).resolve_right (fun w => w.1 rfl)).2, ((rv_TO hq).mp ((r 29807).resolve_left (by rw [h3.2]; decide))), CNT_2 hkd h5⟩⟩

theorem GB_3 {D : List El7} {x : Nat} (hP : PD7 D) (hx : x < D.length) (hk : ∀ e, e < D.length → ¬ dKd D e = 0) (ha : dAb D x < (x : Int) ∧ -1 ≤ dAb D x) (hkd : dKd D x = 3) (g : GOODC D x) : GOODR D x := by
  have hq := dAt_pv (x := x) hP
  have hin := dIn_0 hk hx ha
  have hab : ¬ dIn D x = 0 → dKd D (dAb D x).toNat = dIn D x := fun v => ((hin.resolve_left (fun w => v w.1)).2.2).symm
  obtain ⟨h1, h2, h3, h4, h5⟩ := g
  have h1 := STN_3 hkd h1
  obtain ⟨m, r⟩ := ATN_e.mp h2
  rw [hkd] at m r
  have hd0 : ¬ dIn D x = 0 := by omega
  have h3 := h3.2.1.resolve_left (fun v => v hkd)
  exact ⟨⟨⟨by rw [hkd, INP_3]; exact h1, by omega⟩, (dAy_m (P := fun z => ALW (dKd D x) z)).mpr (fun y hy => by have w := m y hy; rw [MAY_3] at w; show ALW (dKd D x) _; rw [hkd, ALW_3]; exact alw3 w)⟩, (GKR_3 hkd).mpr ⟨⟨((r 26980).imp id (rv_ID hq).mp), ((r 123563833388660).imp id (rv_PARENT hq).mp), ((r 28817527407604345).imp id (rv_FACTORY hq).mp), ((r 28259031083541619).imp id (rv_DEPENDS hq).mp)⟩, ⟨(((r 120282512125796).imp id (rv_METHOD hq).mp).imp id (l_c hq)), (((r 1768843636).imp id (rv_INIT hq).mp).imp id (l_c hq)), (((r 28259044220366713).imp id (rv_DESTROY hq).mp).imp id (l_c hq))⟩, ⟨(((r 427020088179).imp id (rv_CLASS hq).mp).imp id (cv_c hq)), ((r 7017298113369039732).imp id (rv_ABSTRACT hq).mp), ((r 1818327673).imp id (rv_LAZY hq).mp), ((r 495589486693).imp id (rv_SCOPE hq).mp)⟩, plc3 (hab hd0) h3.1 (fun v => may0 (k := 26980) m (by decide) v) (fun v => may0 (k := 7017298113369039732) m (by decide) v) (fun v => may0 (k := 1818327673) m (by decide) v), h3.2.2.imp (nve_7955827 hq).mp id, h3.2.1⟩⟩

theorem GB_4 {D : List El7} {x : Nat} (hP : PD7 D) (hx : x < D.length) (hk : ∀ e, e < D.length → ¬ dKd D e = 0) (ha : dAb D x < (x : Int) ∧ -1 ≤ dAb D x) (hkd : dKd D x = 4) (g : GOODC D x) : GOODR D x := by
  have hq := dAt_pv (x := x) hP
  have hin := dIn_0 hk hx ha
  have hab : ¬ dIn D x = 0 → dKd D (dAb D x).toNat = dIn D x := fun v => ((hin.resolve_left (fun w => v w.1)).2.2).symm
  obtain ⟨h1, h2, h3, h4, h5⟩ := g
  have h1 := STN_4 hkd h1
  obtain ⟨m, r⟩ := ATN_e.mp h2
  rw [hkd] at m r
  exact ⟨⟨⟨by rw [hkd, INP_4]; exact h1.1, by omega⟩, (dAy_m (P := fun z => ALW (dKd D x) z)).mpr (fun y hy => by have w := m y hy; rw [MAY_4] at w; show ALW (dKd D x) _; rw [hkd, ALW_4]; exact w)⟩, (GKR_4 hkd).mpr ⟨⟨⟨CNT_4 hkd h5, ((r 7497062).imp id (rv_REF hq).mp)⟩, (by have := h1.2; omega), (((r 24948).imp id (rv_AT hq).mp).imp id (p_c hq))⟩, (((r 1954115685).imp id (rv_TYPE hq).mp).imp id (fun v => v.elim (fun v => Or.inr ⟨((cv7_a (k := 1954115685) hq).resolve_right (fun z => by have := z.1; omega)).2.2.1, cv_c hq v⟩) Or.inl))⟩⟩

theorem GB_5 {D : List El7} {x : Nat} (hP : PD7 D) (hx : x < D.length) (hk : ∀ e, e < D.length → ¬ dKd D e = 0) (ha : dAb D x < (x : Int) ∧ -1 ≤ dAb D x) (hkd : dKd D x = 5) (g : GOODC D x) : GOODR D x := by
  have hq := dAt_pv (x := x) hP
  have hin := dIn_0 hk hx ha
  have hab : ¬ dIn D x = 0 → dKd D (dAb D x).toNat = dIn D x := fun v => ((hin.resolve_left (fun w => v w.1)).2.2).symm
  obtain ⟨h1, h2, h3, h4, h5⟩ := g
  have h1 := STN_5 hkd h1
  obtain ⟨m, r⟩ := ATN_e.mp h2
  rw [hkd] at m r
  have h3 := h3.2.2.1.resolve_left (fun v => v hkd)
  exact ⟨⟨⟨by rw [hkd, INP_5]; exact h1.1, by omega⟩, (dAy_m (P := fun z => ALW (dKd D x) z)).mpr (fun y hy => by have w := m y hy; rw [MAY_5] at w; show ALW (dKd D x) _; rw [hkd, ALW_5]; exact w)⟩, (GKR_5 hkd).mpr ⟨⟨CNT_5 hkd h5, ((r 7497062).imp id (rv_REF hq).mp)⟩, l_c hq (((rv_NAME hq).mp ((r 1851878757).resolve_left (by rw [h3]; decide))).resolve_left (fun w => absurd w.1 (by decide))).2, (by have := h1.2.1; omega), (by have := (FON_e hP (((rv_NAME hq).mp ((r 1851878757).resolve_left (by rw [h3]; decide))).resolve_left (fun w => absurd w.1 (by decide))).2).mp h1.2.2; omega)⟩⟩

theorem GB_6 {D : List El7} {x : Nat} (hP : PD7 D) (hx : x < D.length) (hk : ∀ e, e < D.length → ¬ dKd D e = 0) (ha : dAb D x < (x : Int) ∧ -1 ≤ dAb D x) (hkd : dKd D x = 6) (g : GOODC D x) : GOODR D x := by
  have hq := dAt_pv (x := x) hP
  have hin := dIn_0 hk hx ha
  have hab : ¬ dIn D x = 0 → dKd D (dAb D x).toNat = dIn D x := fun v => ((hin.resolve_left (fun w => v w.1)).2.2).symm
  obtain ⟨h1, h2, h3, h4, h5⟩ := g
  have h1 := STN_6 hkd h1
  obtain ⟨m, r⟩ := ATN_e.mp h2
  rw [hkd] at m r
  exact ⟨⟨⟨by rw [hkd, INP_6]; exact h1, by omega⟩, (dAy_m (P := fun z => ALW (dKd D x) z)).mpr (fun y hy => by have w := m y hy; rw [MAY_6] at w; show ALW (dKd D x) _; rw [hkd, ALW_6]; exact w)⟩, (GKR_6 hkd).mpr (CNT_6 hkd h5)⟩

theorem GB_7 {D : List El7} {x : Nat} (hP : PD7 D) (hx : x < D.length) (hk : ∀ e, e < D.length → ¬ dKd D e = 0) (ha : dAb D x < (x : Int) ∧ -1 ≤ dAb D x) (hkd : dKd D x = 7) (g : GOODC D x) : GOODR D x := by
  have hq := dAt_pv (x := x) hP
  have hin := dIn_0 hk hx ha
  have hab : ¬ dIn D x = 0 → dKd D (dAb D x).toNat = dIn D x := fun v => ((hin.resolve_left (fun w => v w.1)).2.2).symm
  obtain ⟨h1, h2, h3, h4, h5⟩ := g
  have h1 := STN_7 hkd h1
  obtain ⟨m, r⟩ := ATN_e.mp h2
  rw [hkd] at m r
  exact ⟨⟨⟨by rw [hkd, INP_7]; exact h1, by omega⟩, (dAy_m (P := fun z => ALW (dKd D x) z)).mpr (fun y hy => by have w := m y hy; rw [MAY_7] at w; show ALW (dKd D x) _; rw [hkd, ALW_7]; exact w)⟩, (GKR_7 (Or.inl hkd)).mpr (CNT_7 hkd h5)⟩

theorem GB_8 {D : List El7} {x : Nat} (hP : PD7 D) (hx : x < D.length) (hk : ∀ e, e < D.length → ¬ dKd D e = 0) (ha : dAb D x < (x : Int) ∧ -1 ≤ dAb D x) (hkd : dKd D x = 8) (g : GOODC D x) : GOODR D x := by
  have hq := dAt_pv (x := x) hP
  have hin := dIn_0 hk hx ha
  have hab : ¬ dIn D x = 0 → dKd D (dAb D x).toNat = dIn D x := fun v => ((hin.resolve_left (fun w => v w.1)).2.2).symm
  obtain ⟨h1, h2, h3, h4, h5⟩ := g
  have h1 := STN_8 hkd h1
  obtain ⟨m, r⟩ := ATN_e.mp h2
  rw [hkd] at m r
  have h3 := h3.2.2.2.1.resolve_left (fun v => v hkd)
  exact ⟨⟨⟨by rw [hkd, INP_8]; exact h1, by omega⟩, (dAy_m (P := fun z => ALW (dKd D x) z)).mpr (fun y hy => by have w := m y hy; rw [MAY_8] at w; show ALW (dKd D x) _; rw [hkd, ALW_8]; exact w)⟩, (GKR_8 hkd).mpr ⟨((rv_BEAN hq).mp ((r 1650811246).resolve_left (by rw [h3]; decide))), CNT_8 hkd h5⟩⟩

theorem GB_9 {D : List El7} {x : Nat} (hP : PD7 D) (hx : x < D.length) (hk : ∀ e, e < D.length → ¬ dKd D e = 0) (ha : dAb D x < (x : Int) ∧ -1 ≤ dAb D x) (hkd : dKd D x = 9) (g : GOODC D x) : GOODR D x := by
  have hq := dAt_pv (x := x) hP
  have hin := dIn_0 hk hx ha
  have hab : ¬ dIn D x = 0 → dKd D (dAb D x).toNat = dIn D x := fun v => ((hin.resolve_left (fun w => v w.1)).2.2).symm
  obtain ⟨h1, h2, h3, h4, h5⟩ := g
  have h1 := STN_9 hkd h1
  obtain ⟨m, r⟩ := ATN_e.mp h2
  rw [hkd] at m r
  exact ⟨⟨⟨by rw [hkd, INP_9]; exact h1, by omega⟩, (dAy_m (P := fun z => ALW (dKd D x) z)).mpr (fun y hy => by have w := m y hy; rw [MAY_9] at w; show ALW (dKd D x) _; rw [hkd, ALW_9]; exact w)⟩, (GKR_7 (Or.inr hkd)).mpr (CNT_9 hkd h5)⟩

theorem GB_10 {D : List El7} {x : Nat} (hP : PD7 D) (hx : x < D.length) (hk : ∀ e, e < D.length → ¬ dKd D e = 0) (ha : dAb D x < (x : Int) ∧ -1 ≤ dAb D x) (hkd : dKd D x = 10) (g : GOODC D x) : GOODR D x := by
  have hq := dAt_pv (x := x) hP
  have hin := dIn_0 hk hx ha
  have hab : ¬ dIn D x = 0 → dKd D (dAb D x).toNat = dIn D x := fun v => ((hin.resolve_left (fun w => v w.1)).2.2).symm
  obtain ⟨h1, h2, h3, h4, h5⟩ := g
  have h1 := STN_10 hkd h1
  obtain ⟨m, r⟩ := ATN_e.mp h2
  rw [hkd] at m r
  have h3 := h3.2.2.2.2.resolve_left (fun v => v hkd)
  exact ⟨⟨⟨by rw [hkd, INP_10]; exact h1.1, by omega⟩, (dAy_m (P := fun z => ALW (dKd D x) z)).mpr (fun y hy => by have w := m y hy; rw [MAY_10] at w; show ALW (dKd D x) _; rw [hkd, ALW_10]; exact w)⟩, (GKR_10 hkd).mpr ⟨l_c hq (((rv_NAME hq).mp ((r 1851878757).resolve_left (by rw [h3.1]; decide))).resolve_left (fun w => absurd w.1 (by decide))).2, ((rv_BEAN hq).mp ((r 1650811246).resolve_left (by rw [h3.2]; decide))), CNT_10 hkd h5, (by have := h1.2.1; omega), (by have := (FON_e hP (((rv_NAME hq).mp ((r 1851878757).resolve_left (by rw [h3.1]; decide))).resolve_left (fun w => absurd w.1 (by decide))).2).mp h1.2.2; omega)⟩⟩

theorem GOOD_e {D : List El7} {x : Nat} (hP : PD7 D) (hx : x < D.length) (hk : ∀ e, e < D.length → ¬ dKd D e = 0) (ha : dAb D x < (x : Int) ∧ -1 ≤ dAb D x) : GOODR D x ↔ GOODC D x := by
  have h0 := hk x hx
  have h1 := kd7_r (dEl D x).2.2.1.toInt
  have h2 : dKd D x = kd7 (dEl D x).2.2.1.toInt := rfl
  rcases (show dKd D x = 1 ∨ dKd D x = 2 ∨ dKd D x = 3 ∨ dKd D x = 4 ∨ dKd D x = 5 ∨ dKd D x = 6 ∨ dKd D x = 7 ∨ dKd D x = 8 ∨ dKd D x = 9 ∨ dKd D x = 10 by omega) with e | e | e | e | e | e | e | e | e | e
  · exact ⟨GF_1 hP hx hk ha e, GB_1 hP hx hk ha e⟩
  · exact ⟨GF_2 hP hx hk ha e, GB_2 hP hx hk ha e⟩
  · exact ⟨GF_3 hP hx hk ha e, GB_3 hP hx hk ha e⟩
  · exact ⟨GF_4 hP hx hk ha e, GB_4 hP hx hk ha e⟩
  · exact ⟨GF_5 hP hx hk ha e, GB_5 hP hx hk ha e⟩
  · exact ⟨GF_6 hP hx hk ha e, GB_6 hP hx hk ha e⟩
  · exact ⟨GF_7 hP hx hk ha e, GB_7 hP hx hk ha e⟩
  · exact ⟨GF_8 hP hx hk ha e, GB_8 hP hx hk ha e⟩
  · exact ⟨GF_9 hP hx hk ha e, GB_9 hP hx hk ha e⟩
  · exact ⟨GF_10 hP hx hk ha e, GB_10 hP hx hk ha e⟩
/-- a good element is of some kind -/
theorem GOODR_k {D : List El7} {x : Nat} (g : GOODR D x) : ¬ dKd D x = 0 := by
  intro e
  have := g.1.1.1
  rw [e] at this
  unfold INP7 at this
  omega
theorem GOODC_k {D : List El7} {x : Nat} (g : GOODC D x) : ¬ dKd D x = 0 := by
  intro e
  have := g.2.2.2.2
  unfold CNT at this
  omega
theorem GOODS_e {D : List El7} (hP : PD7 D) (ha : ∀ x, x < D.length → dAb D x < (x : Int) ∧ -1 ≤ dAb D x) : (∀ x, x < D.length → GOODR D x) ↔ (∀ x, x < D.length → GOODC D x) := by
  constructor
  · intro h x hx; exact (GOOD_e hP hx (fun e he => GOODR_k (h e he)) (ha x hx)).mp (h x hx)
  · intro h x hx; exact (GOOD_e hP hx (fun e he => GOODC_k (h e he)) (ha x hx)).mpr (h x hx)
