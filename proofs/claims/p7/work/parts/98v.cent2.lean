def eSx (k : Nat) : Int := match k with | 0 => 60 | 1 => 62 | 2 => 34 | 3 => 38 | _ => 39
theorem sEn_l {ch : Nat → Int} {a k : Nat} (hk : k < 5) (h : sMat ch a k (sByt.getD k []).length) (h5 : ch (a + (sByt.getD k []).length) = 59) : sEn ch a = some (eSx k, a + (sByt.getD k []).length) := by
  unfold sEn
  rcases (show k = 0 ∨ k = 1 ∨ k = 2 ∨ k = 3 ∨ k = 4 by omega) with rfl | rfl | rfl | rfl | rfl
  ·
    have c0 : ch a = 108 := h 0 (by decide)
    have c1 : ch (a + 1) = 116 := h 1 (by decide)
    have c2 : ch (a + 2) = 59 := h5
    rw [if_neg (by omega), if_pos (by omega)]; rfl
  ·
    have c0 : ch a = 103 := h 0 (by decide)
    have c1 : ch (a + 1) = 116 := h 1 (by decide)
    have c2 : ch (a + 2) = 59 := h5
    rw [if_neg (by omega), if_neg (by omega), if_pos (by omega)]; rfl
  ·
    have c0 : ch a = 113 := h 0 (by decide)
    have c1 : ch (a + 1) = 117 := h 1 (by decide)
    have c2 : ch (a + 2) = 111 := h 2 (by decide)
    have c3 : ch (a + 3) = 116 := h 3 (by decide)
    have c4 : ch (a + 4) = 59 := h5
    rw [if_neg (by omega), if_neg (by omega), if_neg (by omega), if_neg (by omega), if_pos (by omega)]; rfl
  ·
    have c0 : ch a = 97 := h 0 (by decide)
    have c1 : ch (a + 1) = 109 := h 1 (by decide)
    have c2 : ch (a + 2) = 112 := h 2 (by decide)
    have c3 : ch (a + 3) = 59 := h5
    rw [if_neg (by omega), if_neg (by omega), if_neg (by omega), if_pos (by omega)]; rfl
  ·
    have c0 : ch a = 97 := h 0 (by decide)
    have c1 : ch (a + 1) = 112 := h 1 (by decide)
    have c2 : ch (a + 2) = 111 := h 2 (by decide)
    have c3 : ch (a + 3) = 115 := h 3 (by decide)
    have c4 : ch (a + 4) = 59 := h5
    rw [if_neg (by omega), if_neg (by omega), if_neg (by omega), if_neg (by omega), if_neg (by omega), if_pos (by omega)]; rfl
theorem sEn_m {ch : Nat → Int} {a k : Nat} (hk : k < 5) (h0 : ch a = sChr k 0) (h1 : k = 3 → ch (a + 1) = 109) (h2 : k = 4 → ¬ ch (a + 1) = 109) (h : ¬ (sMat ch a k (sByt.getD k []).length ∧ ch (a + (sByt.getD k []).length) = 59)) : sEn ch a = none := by
  unfold sEn
  rcases (show k = 0 ∨ k = 1 ∨ k = 2 ∨ k = 3 ∨ k = 4 by omega) with rfl | rfl | rfl | rfl | rfl
  · have c0 : ch a = 108 := h0
    rw [if_neg (by omega), if_neg (fun q => h ⟨fun i hi => by { have hi : i < 2 := hi; rcases (show i = 0 ∨ i = 1 by omega) with rfl | rfl; exact q.1; exact q.2.1 }, q.2.2⟩), if_neg (by omega), if_neg (by omega), if_neg (by omega), if_neg (by omega)]
  · have c0 : ch a = 103 := h0
    rw [if_neg (by omega), if_neg (by omega), if_neg (fun q => h ⟨fun i hi => by { have hi : i < 2 := hi; rcases (show i = 0 ∨ i = 1 by omega) with rfl | rfl; exact q.1; exact q.2.1 }, q.2.2⟩), if_neg (by omega), if_neg (by omega), if_neg (by omega)]
  · have c0 : ch a = 113 := h0
    rw [if_neg (by omega), if_neg (by omega), if_neg (by omega), if_neg (by omega), if_neg (fun q => h ⟨fun i hi => by { have hi : i < 4 := hi; rcases (show i = 0 ∨ i = 1 ∨ i = 2 ∨ i = 3 by omega) with rfl | rfl | rfl | rfl; exact q.1; exact q.2.1; exact q.2.2.1; exact q.2.2.2.1 }, q.2.2.2.2⟩), if_neg (by omega)]
  · have c0 : ch a = 97 := h0
    have c1 := h1 rfl
    rw [if_neg (by omega), if_neg (by omega), if_neg (by omega), if_neg (fun q => h ⟨fun i hi => by { have hi : i < 3 := hi; rcases (show i = 0 ∨ i = 1 ∨ i = 2 by omega) with rfl | rfl | rfl; exact q.1; exact q.2.1; exact q.2.2.1 }, q.2.2.2⟩), if_neg (by omega), if_neg (by omega)]
  · have c0 : ch a = 97 := h0
    have c1 := h2 rfl
    rw [if_neg (by omega), if_neg (by omega), if_neg (by omega), if_neg (by omega), if_neg (by omega), if_neg (fun q => h ⟨fun i hi => by { have hi : i < 4 := hi; rcases (show i = 0 ∨ i = 1 ∨ i = 2 ∨ i = 3 by omega) with rfl | rfl | rfl | rfl; exact q.1; exact q.2.1; exact q.2.2.1; exact q.2.2.2.1 }, q.2.2.2.2⟩)]
theorem sEn_q {ch : Nat → Int} {a : Nat} (h1 : ¬ ch a = 35) (h2 : ¬ ch a = 108) (h3 : ¬ ch a = 103) (h4 : ¬ ch a = 97) (h5 : ¬ ch a = 113) : sEn ch a = none := by
  unfold sEn
  rw [if_neg h1, if_neg (by omega), if_neg (by omega), if_neg (by omega), if_neg (by omega), if_neg (by omega)]
