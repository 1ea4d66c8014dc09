section
/-- an entry stands for another at the same place -/
def RW9 (x y : Nat × va_E) : Prop := x.1 = y.1 ∧ ∀ (D : va_G) (cl : List vw_C) (H : Heap), va_at D cl x H → va_at D cl y H
theorem RW9.rf {x y : Nat × va_E} (h : x = y) : RW9 x y := by subst h; exact ⟨rfl, fun _ _ _ h => h⟩
theorem RW9.q {a b n : Nat} {cA : ClassId} {f g : Nat → Option Nat} (hab : a = b) (h : ∀ j, j < n → f j = g j) : RW9 (a, .inl (cA, n, .inr (.inr (.inr (.inr f))))) (b, .inl (cA, n, .inr (.inr (.inr (.inr g))))) := by
  subst hab
  refine ⟨rfl, fun D cl H q => ?_⟩
  have q : H[a]? = some (vp_cell cA (n, .inr (.inr (.inr (.inr f))))) := q
  rw [arr_q h] at q
  exact q
theorem RW9.i {a b n : Nat} {cA : ClassId} {f g : Nat → Int32} (hab : a = b) (h : ∀ j, j < n → f j = g j) : RW9 (a, .inl (cA, n, .inl f)) (b, .inl (cA, n, .inl g)) := by
  subst hab
  refine ⟨rfl, fun D cl H q => ?_⟩
  have q : H[a]? = some (vp_cell cA (n, .inl f)) := q
  rw [arr_i h] at q
  exact q
def EqW : va_W → va_W → Prop
  | [], [] => True
  | x :: w, y :: v => RW9 x y ∧ EqW w v
  | _, _ => False
theorem EqW.app : ∀ {w v w2 v2 : va_W}, EqW w v → EqW w2 v2 → EqW (w ++ w2) (v ++ v2)
  | [], [], _, _, _, h => h
  | _ :: _, _ :: _, _, _, h1, h => ⟨h1.1, EqW.app h1.2 h⟩
  | [], _ :: _, _, _, h1, _ => h1.elim
  | _ :: _, [], _, _, h1, _ => h1.elim
theorem EqW.at : ∀ {w v : va_W} {k : Nat} {y : Nat × va_E}, EqW w v → v[k]? = some y → ∃ x, w[k]? = some x ∧ RW9 x y
  | [], [], k, y, _, h => by simp at h
  | x :: w, z :: v, 0, y, h1, h => ⟨x, rfl, by cases h; exact h1.1⟩
  | x :: w, z :: v, k + 1, y, h1, h => by
    obtain ⟨x9, q1, q2⟩ := EqW.at (k := k) (y := y) h1.2 (by simpa using h)
    exact ⟨x9, by simpa using q1, q2⟩
  | [], _ :: _, _, _, h1, _ => h1.elim
  | _ :: _, [], _, _, h1, _ => h1.elim
theorem EqW.P {w v : va_W} {D : va_G} {cl : List vw_C} {H : Heap} (h : EqW w v) (hP : va_P D cl w H) : va_P D cl v H := fun k y hk => by
  obtain ⟨x, q1, q2⟩ := h.at hk
  exact q2.2 D cl H (hP k x q1)
theorem EqW.D {w v : va_W} {A : Nat → Prop} (h : EqW w v) (hD : va_D A w) : va_D A v := by
  refine ⟨fun i j x y hi hj e9 => ?_, fun k y hk => ?_⟩
  · obtain ⟨x1, q1, q2⟩ := h.at hi
    obtain ⟨y1, r1, r2⟩ := h.at hj
    exact hD.1 i j x1 y1 q1 r1 (by rw [q2.1, r2.1, e9])
  · obtain ⟨x, q1, q2⟩ := h.at hk
    rw [← q2.1]
    exact hD.2 k x q1
def tlL (Lf : Nat → List (Nat × Nat)) : Nat → List (Nat × Nat)
  | 0 => []
  | n + 1 => Lf n ++ tlL Lf n
theorem EqW_tl {α : Type} {F : Nat → α → va_W} {adr : Nat → α} {Lf : Nat → List (Nat × Nat)} {g : Nat × Nat → Nat × va_E} : ∀ n, (∀ k, k < n → EqW (F k (adr k)) ((Lf k).map g)) → EqW (tl F adr n) ((tlL Lf n).map g)
  | 0, _ => trivial
  | n + 1, h => by
    show EqW (F n (adr n) ++ tl F adr n) ((Lf n ++ tlL Lf n).map g)
    rw [List.map_append]
    exact (h n (by omega)).app (EqW_tl n (fun k hk => h k (by omega)))
def beL (k : Nat) : List (Nat × Nat) := [(10, k), (11, 3 * k + 2), (11, 3 * k + 1), (11, 3 * k)]
def elL (k : Nat) : List (Nat × Nat) := [(31, k), (9, k)]
def sgL (c k : Nat) : List (Nat × Nat) := [(27, 8 * c + 4 + k), (8, 8 * c + 4 + k), (27, 8 * c + k), (8, 8 * c + k)]
def dcL (c : Nat) : List (Nat × Nat) := (30, c) :: (29, c) :: (28, c) :: (7, c) :: tlL (sgL c) 4
def wbL : List (Nat × Nat) := (13, 0) :: (12, 0) :: (0, 0) :: ([(26, 0), (25, 0), (24, 0), (23, 0), (22, 0), (6, 0)] ++ ([(21, 0), (5, 0)] ++ (((20, 0) :: (19, 0) :: (4, 0) :: tlL beL 80) ++ ([(3, 0)] ++ ([(2, 0)] ++ (((18, 0) :: (17, 0) :: (16, 0) :: (15, 0) :: (14, 0) :: (1, 0) :: tlL elL 80) ++ tlL dcL 8))))))
theorem wbL_perm : wbL.Perm cPL := List.isPerm_iff.mp (by decide +kernel)
/-- the signatures' addresses -/
def sgA (adr : Nat → DU) (i : Nat) : Nat × Nat := if i % 8 < 4 then (((adr (i / 8)).2.1 (i % 8)).1, ((adr (i / 8)).2.1 (i % 8)).2.1) else (((adr (i / 8)).2.1 (i % 8 - 4)).2.2.1, ((adr (i / 8)).2.1 (i % 8 - 4)).2.2.2)
theorem sgA_c {adr : Nat → DU} {c k : Nat} (hk : k < 4) : sgA adr (8 * c + k) = (((adr c).2.1 k).1, ((adr c).2.1 k).2.1) := by
  unfold sgA
  rw [show (8 * c + k) % 8 = k by omega, show (8 * c + k) / 8 = c by omega, if_pos hk]
theorem sgA_f {adr : Nat → DU} {c k : Nat} (hk : k < 4) : sgA adr (8 * c + 4 + k) = (((adr c).2.1 k).2.2.1, ((adr c).2.1 k).2.2.2) := by
  unfold sgA
  rw [show (8 * c + 4 + k) % 8 = 4 + k by omega, show (8 * c + 4 + k) / 8 = c by omega, if_neg (by omega), show 4 + k - 4 = k by omega]
def beA (b : Nat → Nat × Nat × Nat × Nat) (i : Nat) : Nat := if i % 3 = 0 then (b (i / 3)).2.1 else if i % 3 = 1 then (b (i / 3)).2.2.1 else (b (i / 3)).2.2.2
theorem beA_0 {b : Nat → Nat × Nat × Nat × Nat} {k : Nat} : beA b (3 * k) = (b k).2.1 := by
  unfold beA
  rw [show (3 * k) % 3 = 0 by omega, show (3 * k) / 3 = k by omega, if_pos rfl]
theorem beA_1 {b : Nat → Nat × Nat × Nat × Nat} {k : Nat} : beA b (3 * k + 1) = (b k).2.2.1 := by
  unfold beA
  rw [show (3 * k + 1) % 3 = 1 by omega, show (3 * k + 1) / 3 = k by omega, if_neg (by decide), if_pos rfl]
theorem beA_2 {b : Nat → Nat × Nat × Nat × Nat} {k : Nat} : beA b (3 * k + 2) = (b k).2.2.2 := by
  unfold beA
  rw [show (3 * k + 2) % 3 = 2 by omega, show (3 * k + 2) / 3 = k by omega, if_neg (by decide), if_neg (by decide)]
def wbA (ad0 : Nat → Nat → Nat) (h a12 a13 : Nat) (adr : Nat → DU) (up : PU) (rd st : Nat) (uw : WU) (rw9 r1 mk a b f x q : Nat) (t i : Nat) : Nat := match t with
  | 0 => h
  | 1 => up.1.1
  | 2 => rd
  | 3 => st
  | 4 => uw.1.1
  | 5 => rw9
  | 6 => mk
  | 7 => (adr i).1.1
  | 8 => (sgA adr i).1
  | 9 => (up.2.1 i).1
  | 10 => (uw.2.1 i).1
  | 11 => beA uw.2.1 i
  | 12 => a12
  | 13 => a13
  | 14 => up.1.2.1
  | 15 => up.1.2.2.1
  | 16 => up.1.2.2.2.1
  | 17 => up.1.2.2.2.2.1
  | 18 => up.1.2.2.2.2.2
  | 19 => uw.1.2.1
  | 20 => uw.1.2.2
  | 21 => r1
  | 22 => a
  | 23 => b
  | 24 => f
  | 25 => x
  | 26 => q
  | 27 => (sgA adr i).2
  | 28 => (adr i).1.2.1
  | 29 => (adr i).1.2.2.1
  | 30 => (adr i).1.2.2.2
  | 31 => (up.2.1 i).2
  | t + 32 => ad0 (t + 32) i
def sg00 (k : Nat) : Int32 := match k with
  | 3 => -1
  | 7 => -1
  | 11 => -1
  | 16 => -1
  | 18 => -1
  | _ => 0
def gm00 (k i : Nat) : Int32 := match k with
  | 2 => nI i
  | 4 => -1
  | 5 => nI (i / 8)
  | 6 => nI (i % 4)
  | 14 => -1
  | 15 => -1
  | 16 => -1
  | 17 => -1
  | 25 => -1
  | 26 => -1
  | 27 => -1
  | 28 => nI i
  | 29 => -1
  | 47 => -1
  | 51 => -1
  | 55 => -1
  | 57 => -1
  | _ => 0
def lg00 (k i : Nat) : Int64 := 0
section AS
variable {ad0 : Nat → Nat → Nat} {cid : Nat → ClassId} {a2 : Nat → Nat} {h a12 a13 : Nat} {f2 : Nat → Option Nat} {adr : Nat → DU} {up : PU} {rd st : Nat} {uw : WU} {rw9 r1 mk a b f x q : Nat}
theorem wb_eq (hf2 : ∀ j, j < 8 → f2 j = some (adr j).1.1) (hdc : ∀ j, j < 8 → dcP (adr j)) (hpa : paP up) (hwi : wiP uw) {ad : Nat → Nat → Nat} (had : ad = wbA ad0 h a12 a13 adr up rd st uw rw9 r1 mk a b f x q) :
    EqW (wbW ad0 cid h a12 a13 f2 adr up rd st uw rw9 r1 mk a b f x q) (wbL.map (fun x => (ad x.1 x.2, cE ad cid a2 sg00 gm00 lg00 x.1 x.2))) := by
  have r9 : ∀ i, ad 9 i = (up.2.1 i).1 := fun i => by rw [had]; rfl
  have r10 : ∀ i, ad 10 i = (uw.2.1 i).1 := fun i => by rw [had]; rfl
  have r7 : ∀ i, ad 7 i = (adr i).1.1 := fun i => by rw [had]; rfl
  have r8 : ∀ i, ad 8 i = (sgA adr i).1 := fun i => by rw [had]; rfl
  have r27 : ∀ i, ad 27 i = (sgA adr i).2 := fun i => by rw [had]; rfl
  have r11 : ∀ i, ad 11 i = beA uw.2.1 i := fun i => by rw [had]; rfl
  have z : ∀ j, (0 : Int32) = (if j < 3 then 0 else 0) := fun j => by split <;> rfl
  have ob : ∀ {a9 t i : Nat} {fs : List Value}, a9 = ad t i → t < 12 → fs = cFs ad a2 sg00 gm00 lg00 t i → RW9 (a9, .inr (cIx t, fs)) (ad t i, cE ad cid a2 sg00 gm00 lg00 t i) := fun h1 h2 h3 => RW9.rf (by rw [cE_o h2, h1, h3])
  have hal : ∀ i, EqW (alW ad0 (ad 11 i)) [(ad 11 i, cE ad cid a2 sg00 gm00 lg00 11 i)] := fun i => ⟨ob (t := 11) (i := i) rfl (by decide) (by rw [had]; rfl), trivial⟩
  have hbe : ∀ k, k < 80 → EqW (beF ad0 k (uw.2.1 k)) ((beL k).map (fun x => (ad x.1 x.2, cE ad cid a2 sg00 gm00 lg00 x.1 x.2))) := fun k hk => by
    refine ⟨ob (t := 10) (i := k) (r10 k).symm (by decide) ?_, ?_⟩
    · rw [show (uw.2.1 k).2.1 = ad 11 (3 * k) by rw [r11, beA_0], show (uw.2.1 k).2.2.1 = ad 11 (3 * k + 1) by rw [r11, beA_1], show (uw.2.1 k).2.2.2 = ad 11 (3 * k + 2) by rw [r11, beA_2]]
      rfl
    · rw [show (uw.2.1 k).2.1 = ad 11 (3 * k) by rw [r11, beA_0], show (uw.2.1 k).2.2.1 = ad 11 (3 * k + 1) by rw [r11, beA_1], show (uw.2.1 k).2.2.2 = ad 11 (3 * k + 2) by rw [r11, beA_2]]
      exact (hal _).app ((hal _).app ((hal _).app trivial))
  have hel : ∀ k, k < 80 → EqW (elF cid k (up.2.1 k)) ((elL k).map (fun x => (ad x.1 x.2, cE ad cid a2 sg00 gm00 lg00 x.1 x.2))) := fun k hk => by
    refine ⟨RW9.i (by rw [had]; rfl) (fun j hj => ?_), ob (t := 9) (i := k) (r9 k).symm (by decide) (by rw [show (up.2.1 k).2 = ad 31 (1 * k + 0) by (rw [Nat.one_mul, Nat.add_zero, had]; rfl)]; rfl), trivial⟩
    show (0 : Int32) = if j < 24 then 0 else 0
    split <;> rfl
  have hsg : ∀ c k i h9 a9, i < 64 → i / 8 = c → i % 4 = k → h9 = ad 8 i → a9 = ad 27 i → EqW (sgW cid (nI c) (nI k) h9 a9) [(ad 27 i, cE ad cid a2 sg00 gm00 lg00 27 i), (ad 8 i, cE ad cid a2 sg00 gm00 lg00 8 i)] := fun c k i h9 a9 hi e1 e2 e3 e4 => by
    subst e1 e2 e3 e4
    refine ⟨RW9.i rfl (fun j hj => ?_), ob (t := 8) (i := i) rfl (by decide) ?_, trivial⟩
    · show (0 : Int32) = if j < 3 then 0 else 0
      split <;> rfl
    · show [Value.int (nI (i / 8)), .int (nI (i % 4)), .ref (ad 27 i), .int 0, .int 0, .int 0, .int 0] = [Value.int (nI (i / 8)), .int (nI (i % 4)), .ref (ad 27 (1 * i + 0)), .int 0, .int 0, .int 0, .int 0]
      rw [Nat.one_mul, Nat.add_zero]
  have hdcE : ∀ c, c < 8 → EqW (dcF cid c (adr c)) ((dcL c).map (fun x => (ad x.1 x.2, cE ad cid a2 sg00 gm00 lg00 x.1 x.2))) := fun c hc => by
    obtain ⟨d1, d2, d3⟩ := hdc c hc
    refine ⟨RW9.i (by rw [had]; rfl) (fun j hj => ?_), RW9.q (by rw [had]; rfl) (fun j hj => ?_), RW9.q (by rw [had]; rfl) (fun j hj => ?_), ob (t := 7) (i := c) (r7 c).symm (by decide) ?_, ?_⟩
    · show (adr c).2.2.2 j = if j < 26 then -1 else 0
      rw [if_pos hj]; exact d3 j hj
    · show (adr c).2.2.1.2 j = some (ad 8 (8 * c + 4 + j))
      rw [d2 j hj, r8, sgA_f hj]
    · show (adr c).2.2.1.1 j = some (ad 8 (8 * c + 0 + j))
      rw [d1 j hj, r8, Nat.add_zero, sgA_c hj]
    · show [Value.ref (adr c).1.2.1, .ref (adr c).1.2.2.1, .int 0, .int 0, .int (nI c), .ref (adr c).1.2.2.2, .int 0, .null] = [Value.ref (ad 28 (1 * c + 0)), .ref (ad 29 (1 * c + 0)), .int 0, .int 0, .int (nI c), .ref (ad 30 (1 * c + 0)), .int 0, .null]
      rw [Nat.one_mul, Nat.add_zero, had]
      rfl
    · refine EqW_tl 4 (fun k hk => ?_)
      refine EqW.app (v := [(ad 27 (8 * c + 4 + k), cE ad cid a2 sg00 gm00 lg00 27 (8 * c + 4 + k)), (ad 8 (8 * c + 4 + k), cE ad cid a2 sg00 gm00 lg00 8 (8 * c + 4 + k))]) (hsg c k (8 * c + 4 + k) _ _ (by omega) (by omega) (by omega) (by rw [r8, sgA_f hk]) (by rw [r27, sgA_f hk])) (hsg c k (8 * c + k) _ _ (by omega) (by omega) (by omega) (by rw [r8, sgA_c hk]) (by rw [r27, sgA_c hk]))
  unfold wbL
  simp only [List.map_cons, List.map_append]
  refine ⟨RW9.i (by rw [had]; rfl) (fun j hj => rfl), RW9.q (by rw [had]; rfl) (fun j hj => ?_), ob (t := 0) (i := 0) (by rw [had]; rfl) (by decide) (by rw [had]; rfl), ?_⟩
  · show f2 j = some (ad 7 (0 * 0 + 0 + j))
    rw [hf2 j hj, r7, show 0 * 0 + 0 + j = j by omega]
  refine EqW.app ?_ (EqW.app ?_ (EqW.app ?_ (EqW.app ?_ (EqW.app ?_ (EqW.app ?_ (EqW_tl 8 hdcE))))))
  · exact ⟨RW9.i (by rw [had]; rfl) (fun j hj => rfl), RW9.i (by rw [had]; rfl) (fun j hj => rfl), RW9.q (by rw [had]; rfl) (fun j hj => rfl), RW9.i (by rw [had]; rfl) (fun j hj => rfl), RW9.i (by rw [had]; rfl) (fun j hj => rfl), ob (t := 6) (i := 0) (by rw [had]; rfl) (by decide) (by rw [had]; rfl), trivial⟩
  · exact ⟨RW9.i (by rw [had]; rfl) (fun j hj => rfl), ob (t := 5) (i := 0) (by rw [had]; rfl) (by decide) (by rw [had]; rfl), trivial⟩
  · refine ⟨RW9.q (by rw [had]; rfl) (fun j hj => rfl), RW9.q (by rw [had]; rfl) (fun j hj => ?_), ob (t := 4) (i := 0) (by rw [had]; rfl) (by decide) (by rw [had]; rfl), EqW_tl 80 hbe⟩
    show uw.2.2 j = some (ad 10 (0 * 0 + 0 + j))
    rw [hwi j hj, r10, show 0 * 0 + 0 + j = j by omega]
  · exact ⟨ob (t := 3) (i := 0) (by rw [had]; rfl) (by decide) (by rw [had]; rfl), trivial⟩
  · exact ⟨ob (t := 2) (i := 0) (by rw [had]; rfl) (by decide) (by rw [had]; rfl), trivial⟩
  · refine ⟨RW9.i (by rw [had]; rfl) (fun j hj => rfl), RW9.i (by rw [had]; rfl) (fun j hj => rfl), RW9.i (by rw [had]; rfl) (fun j hj => rfl), RW9.rf (by rw [had]; rfl), RW9.q (by rw [had]; rfl) (fun j hj => ?_), ob (t := 1) (i := 0) (by rw [had]; rfl) (by decide) (by rw [had]; rfl), EqW_tl 80 hel⟩
    show up.2.2 j = some (ad 9 (0 * 0 + 0 + j))
    rw [hpa j hj, r9, show 0 * 0 + 0 + j = j by omega]
end AS
/-- the cells that the constructor leaves, as the class's rows tell them -/
theorem wb_P {D : va_G} {cl : List vw_C} {H : Heap} {ad : Nat → Nat → Nat} {cid : Nat → ClassId} {a2 : Nat → Nat} {w : va_W} (h : EqW w (wbL.map (fun x => (ad x.1 x.2, cE ad cid a2 sg00 gm00 lg00 x.1 x.2)))) (hP : va_P D cl w H) : va_P D cl (cW ad cid a2 [] sg00 gm00 lg00) H := by
  have := vaP_p (wbL_perm.map _) (h.P hP)
  unfold cW
  rw [List.map_nil, List.append_nil]
  exact this
theorem wb_D {A : Nat → Prop} {ad : Nat → Nat → Nat} {cid : Nat → ClassId} {a2 : Nat → Nat} {w : va_W} (h : EqW w (wbL.map (fun x => (ad x.1 x.2, cE ad cid a2 sg00 gm00 lg00 x.1 x.2)))) (hD : va_D A w) : va_D A (cW ad cid a2 [] sg00 gm00 lg00) := by
  have := vaD_p (wbL_perm.map _) (h.D hD)
  unfold cW
  rw [List.map_nil, List.append_nil]
  exact this
theorem nI_t {n : Nat} (h : n < 100) : (nI n).toInt = n := by
  have key : ∀ n, n < 100 → (nI n).toInt = n := by decide
  exact key n h
theorem KI_0 : KI 0 [] sg00 gm00 lg00 := by
  have hm1 : (-1 : Int32).toInt = -1 := by decide
  have h0 : (0 : Int32).toInt = 0 := by decide
  refine ⟨⟨fun k => ?_, fun k i hi => ?_⟩, fun q hq => ⟨by show (0 : Int32).toInt ≤ (0 : Int32).toInt; omega, fun q9 => absurd h0 q9, fun j hj => ?_⟩, fun i hi => ?_, fun i hi => ?_, fun j _ => ?_, fun j _ => ?_, Or.inl h0⟩
  · by_cases h20 : k < 20
    · have key : ∀ k, k < 20 → csLo k ≤ (sg00 k).toInt ∧ (sg00 k).toInt ≤ csHi k := by decide
      exact key k h20
    · have e0 : sg00 k = 0 := by
        unfold sg00
        split <;> first | omega | rfl
      have e1 : csLo k ≤ 0 := by
        unfold csLo
        split <;> omega
      have e2 : 0 ≤ csHi k := by
        unfold csHi
        split <;> omega
      rw [e0]
      exact ⟨by rw [h0]; exact e1, by rw [h0]; exact e2⟩
  · by_cases n2 : k = 2
    · rw [n2] at hi ⊢
      have hi : i < 8 := hi
      show iv 0 7 (nI i)
      exact ⟨by rw [nI_t (by omega)]; omega, by rw [nI_t (by omega)]; omega⟩
    by_cases n5 : k = 5
    · rw [n5] at hi ⊢
      have hi : i < 64 := hi
      show iv 0 7 (nI (i / 8))
      exact ⟨by rw [nI_t (by omega)]; omega, by rw [nI_t (by omega)]; omega⟩
    by_cases n6 : k = 6
    · rw [n6] at hi ⊢
      have hi : i < 64 := hi
      show iv 0 3 (nI (i % 4))
      exact ⟨by rw [nI_t (by omega)]; omega, by rw [nI_t (by omega)]; omega⟩
    by_cases n28 : k = 28
    · rw [n28] at hi ⊢
      have hi : i < 80 := hi
      show iv 0 79 (nI i)
      exact ⟨by rw [nI_t (by omega)]; omega, by rw [nI_t (by omega)]; omega⟩
    by_cases h60 : k < 60
    · have key : ∀ k, k < 60 → (k = 2 ∨ k = 5 ∨ k = 6 ∨ k = 28) ∨ (caLo k ≤ (gm00 k 0).toInt ∧ (gm00 k 0).toInt ≤ caHi k) := by decide
      have e0 : gm00 k i = gm00 k 0 := by
        unfold gm00
        split <;> first | omega | rfl
      rw [e0]
      rcases key k h60 with q9 | q9
      · omega
      · exact q9
    · exfalso
      have : crLen k = 0 := by
        unfold crLen
        split <;> first | omega | rfl
      omega
  · have hj : j < (0 : Int32).toNatClampNeg := hj
    exact absurd hj (by rw [show (0 : Int32).toNatClampNeg = 0 from by decide]; omega)
  · have hi : i < (0 : Int32).toNatClampNeg := hi
    exact absurd hi (by rw [show (0 : Int32).toNatClampNeg = 0 from by decide]; omega)
  · have hi : i < (0 : Int32).toNatClampNeg := hi
    exact absurd hi (by rw [show (0 : Int32).toNatClampNeg = 0 from by decide]; omega)
  · show (0 : Int32).toInt ≤ _
    omega
  · show (0 : Int32).toInt ≤ _
    omega
theorem PHs_0 : PHs gm00 = 0 := by decide +kernel
end
section
theorem e9_Z : ∀ k, k < 34 → (lw_tbl)[([1095, 1170, 1111, 1105, 1107, 2361, 1109, 1162, 1164, 1524, 1217, 1225, 1227, 1223, 1265, 1268, 1219, 1221, 1334, 1336, 1260, 1121, 1152, 1158, 1160, 1180, 1187, 1189, 1191, 2362, 2363, 2364, 2365, 2366] : List Nat).getD k 0]? = some (Cond.laysStatic "WiredBeans$Word" (wNm.getD k "") "LWiredBeans$Word;") := by decide +kernel
theorem e9_X : ∀ k, k < 34 → (flatC (Jvm.Cond.and given_1 narrow_1))[([91, 124, 103, 94, 97, 175, 100, 118, 121, 172, 139, 151, 154, 148, 160, 163, 142, 145, 166, 169, 157, 106, 109, 112, 115, 127, 130, 133, 136, 178, 181, 184, 187, 190] : List Nat).getD k 0]? = some (Cond.exactly (.static "WiredBeans$Word" (wNm.getD k "") "LWiredBeans$Word;") "WiredBeans$Word") := by decide +kernel
theorem e9_O : ∀ k, k < 34 → (flatC (Jvm.Cond.and given_1 narrow_1))[([92, 125, 104, 95, 98, 176, 101, 119, 122, 173, 140, 152, 155, 149, 161, 164, 143, 146, 167, 170, 158, 107, 110, 113, 116, 128, 131, 134, 137, 179, 182, 185, 188, 191] : List Nat).getD k 0]? = some (Cond.eq (.field (.static "WiredBeans$Word" (wNm.getD k "") "LWiredBeans$Word;") "java/lang/Enum" "ordinal" "I") (.int (nI k))) := by decide +kernel
theorem e9_K : ∀ k, k < 34 → (flatC (Jvm.Cond.and given_1 narrow_1))[([93, 126, 105, 96, 99, 177, 102, 120, 123, 174, 141, 153, 156, 150, 162, 165, 144, 147, 168, 171, 159, 108, 111, 114, 117, 129, 132, 135, 138, 180, 183, 186, 189, 192] : List Nat).getD k 0]? = some (Cond.eq (.field (.static "WiredBeans$Word" (wNm.getD k "") "LWiredBeans$Word;") "WiredBeans$Word" "key" "J") (.long (wKy.getD k 0))) := by decide +kernel
theorem e9_A : ∀ k, k < 34 → (flatC (Jvm.Cond.and given_1 narrow_1))[([15, 16, 17, 18, 19, 20, 21, 22, 23, 24, 25, 26, 27, 28, 29, 30, 31, 32, 33, 34, 35, 36, 37, 38, 39, 40, 41, 42, 43, 44, 45, 46, 47, 48] : List Nat).getD k 0]? = some (Cond.eq (.elem (.static "WiredBeans$Word" "ALL" "[LWiredBeans$Word;") (.int (Int32.ofNat k))) (.static "WiredBeans$Word" (wNm.getD k "") "LWiredBeans$Word;")) := by decide +kernel
theorem e9_S : ∀ k, k < 34 → (flatC (Jvm.Cond.and given_1 narrow_1))[([57, 58, 59, 60, 61, 62, 63, 64, 65, 66, 67, 68, 69, 70, 71, 72, 73, 74, 75, 76, 77, 78, 79, 80, 81, 82, 83, 84, 85, 86, 87, 88, 89, 90] : List Nat).getD k 0]? = some (Cond.eq (.elem (.static "WiredBeans$1" "$SwitchMap$WiredBeans$Word" "[I") (.int (Int32.ofNat k))) (.int (wSw.getD k 0))) := by decide +kernel
theorem e9_E : ∀ k, k < 7 → (flatC (Jvm.Cond.and given_1 narrow_1))[([262, 268, 274, 282, 289, 297, 305] : List Nat).getD k 0]? = some (Cond.exactly (.string (sOwn.getD k "") (sEnt.getD k 0)) "java/lang/String") := by decide +kernel
theorem e9_C : ∀ k, k < 7 → (flatC (Jvm.Cond.and given_1 narrow_1))[([263, 269, 275, 283, 290, 298, 306] : List Nat).getD k 0]? = some (Cond.eq (.field (.string (sOwn.getD k "") (sEnt.getD k 0)) "java/lang/String" "coder" "B") (.int 0)) := by decide +kernel
theorem e9_R : ∀ k, k < 7 → (flatC (Jvm.Cond.and given_1 narrow_1))[([264, 270, 276, 284, 291, 299, 307] : List Nat).getD k 0]? = some (Cond.arrayOf (.field (.string (sOwn.getD k "") (sEnt.getD k 0)) "java/lang/String" "value" "[B") .byte) := by decide +kernel
theorem e9_L : ∀ k, k < 7 → (flatC (Jvm.Cond.and given_1 narrow_1))[([265, 271, 277, 285, 292, 300, 308] : List Nat).getD k 0]? = some (Cond.eq (.length (.field (.string (sOwn.getD k "") (sEnt.getD k 0)) "java/lang/String" "value" "[B")) (.int (Int32.ofNat ((sByt.getD k []).length)))) := by decide +kernel
theorem e9_B : ∀ k, k < 7 → ∀ j, j < (sByt.getD k []).length → (flatC (Jvm.Cond.and given_1 narrow_1))[(([[266, 267], [272, 273], [278, 279, 280, 281], [286, 287, 288], [293, 294, 295, 296], [301, 302, 303, 304], [309, 310, 311, 312, 313]] : List (List Nat)).getD k []).getD j 0]? = some (Cond.eq (.elem (.field (.string (sOwn.getD k "") (sEnt.getD k 0)) "java/lang/String" "value" "[B") (.int (Int32.ofNat j))) (.int ((sByt.getD k []).getD j 0))) := by decide +kernel
theorem e9_F : ∀ k, k < 7 → (lw_tbl)[([977, 1030, 1031, 1032, 1033, 1292, 1299] : List Nat).getD k 0]? = some (Cond.stringRef (sOwn.getD k "") (sEnt.getD k 0) (sTxt.getD k "")) := by decide +kernel
set_option maxHeartbeats 8000000 in
set_option maxRecDepth 100000 in
/-- what the class meets at the law's start -/
theorem d_env0 {s : State} {b : Nat} {A : Nat → Prop} (hts : ∀ w ∈ lw_tbl, w.before #[Value.ref b] s = true) (hgv : (Jvm.Cond.and given_1 narrow_1).before #[Value.ref b] s = true) (hAo : ∀ a : Nat, a < s.heap.size → ¬ A a) : ∃ ad : Nat → Nat → Nat, CE ad A s ∧ NE s := by
  have hg := flat_of_before _ hgv
  have hbt : ∀ {w : Cond} {i : Nat}, lw_tbl[i]? = some w → w.before #[Value.ref b] s = true := fun h => hts _ (List.mem_of_getElem? h)
  have hbg : ∀ {w : Cond} {i : Nat}, (flatC (Jvm.Cond.and given_1 narrow_1))[i]? = some w → w.before #[Value.ref b] s = true := fun h => hg _ (List.mem_of_getElem? h)
  have hG : GE A s := ⟨⟨va_AO.of (hts (Cond.arrayOver (.object "WiredBeans$DeclaredClass")) (List.mem_of_getElem? (i := 190) (by decide +kernel))), va_AO.of (hts (Cond.arrayOver (.object "WiredBeans$Signature")) (List.mem_of_getElem? (i := 197) (by decide +kernel))), va_AO.of (hts (Cond.arrayOver (.object "WiredBeans$Element")) (List.mem_of_getElem? (i := 268) (by decide +kernel))), va_AO.of (hts (Cond.arrayOver (.object "WiredBeans$Bean")) (List.mem_of_getElem? (i := 455) (by decide +kernel)))⟩, ⟨va_Nw.of rfl (hts (Cond.castable "java/lang/IllegalArgumentException" "java/lang/IllegalArgumentException") (List.mem_of_getElem? (i := 862) (by decide +kernel))), va_Nw.of rfl (hts (Cond.castable "java/lang/IllegalStateException" "java/lang/IllegalStateException") (List.mem_of_getElem? (i := 1450) (by decide +kernel))), va_Nw.of rfl (hts (Cond.declares ⟨"java/lang/RuntimeException", "<init>", "()V"⟩) (List.mem_of_getElem? (i := 863) (by decide +kernel))), va_Nw.of rfl (hts (Cond.declares ⟨"java/lang/Exception", "<init>", "()V"⟩) (List.mem_of_getElem? (i := 865) (by decide +kernel))), va_Nw.of rfl (hts (Cond.declares ⟨"java/lang/Throwable", "<init>", "()V"⟩) (List.mem_of_getElem? (i := 867) (by decide +kernel)))⟩, va_Zqof (hts (Cond.laysStatic "java/util/ArrayList" "DEFAULTCAPACITY_EMPTY_ELEMENTDATA" "[Ljava/lang/Object;") (List.mem_of_getElem? (i := 474) (by decide +kernel))) (hts (Cond.initialized "java/util/ArrayList") (List.mem_of_getElem? (i := 158) (by decide +kernel))) (hg (Cond.isRef (.static "java/util/ArrayList" "DEFAULTCAPACITY_EMPTY_ELEMENTDATA" "[Ljava/lang/Object;")) (List.mem_of_getElem? (i := 4) (by decide +kernel))) hAo, vx_Zqof (hts (Cond.laysStatic "java/lang/Throwable" "UNASSIGNED_STACK" "[Ljava/lang/StackTraceElement;") (List.mem_of_getElem? (i := 887) (by decide +kernel))) (hts (Cond.initialized "java/lang/Throwable") (List.mem_of_getElem? (i := 162) (by decide +kernel))) (hg (Cond.isRef (.static "java/lang/Throwable" "UNASSIGNED_STACK" "[Ljava/lang/StackTraceElement;")) (List.mem_of_getElem? (i := 8) (by decide +kernel))) hAo, vx_Zqof (hts (Cond.laysStatic "java/lang/Throwable" "SUPPRESSED_SENTINEL" "Ljava/util/List;") (List.mem_of_getElem? (i := 889) (by decide +kernel))) (hts (Cond.initialized "java/lang/Throwable") (List.mem_of_getElem? (i := 162) (by decide +kernel))) (hg (Cond.isRef (.static "java/lang/Throwable" "SUPPRESSED_SENTINEL" "Ljava/util/List;")) (List.mem_of_getElem? (i := 9) (by decide +kernel))) hAo⟩
  obtain ⟨aw, haw⟩ : ∃ aw : Nat → Nat, ∀ k, k < 34 → (Term.static "WiredBeans$Word" (wNm.getD k "") "LWiredBeans$Word;").eval #[Value.ref b] s none [] s = some (.ref (aw k)) ∧ va_O "WiredBeans$Word" (aw k) A s s.heap := by
    refine Classical.axiomOfChoice (r := fun k a => k < 34 → (Term.static "WiredBeans$Word" (wNm.getD k "") "LWiredBeans$Word;").eval #[Value.ref b] s none [] s = some (.ref a) ∧ va_O "WiredBeans$Word" a A s s.heap) (fun k => ?_)
    by_cases hk : k < 34
    · have hx := hbg (e9_X k hk)
      obtain ⟨a, c, cA, kA, q1, q2, q3, q4, q5, q6, -⟩ := Cond.exactly_spec (args := #[Value.ref b]) (first := s) (o := none) (s := s) (idx := []) hx
      exact ⟨a, fun _ => ⟨q1, va_Oof hx q1 hAo⟩⟩
    · exact ⟨0, fun h => absurd h hk⟩
  obtain ⟨al, hal, hTal⟩ := va_Tof (tm := .static "WiredBeans$Word" "ALL" "[LWiredBeans$Word;") (ty := .object "WiredBeans$Word") (N := 34) (f := fun j => .ref (aw j)) (A := A) (by decide) (hg (Cond.arrayOf (.static "WiredBeans$Word" "ALL" "[LWiredBeans$Word;") (.object "WiredBeans$Word")) (List.mem_of_getElem? (i := 12) (by decide +kernel))) (va_eqt (hg (Cond.eq (.length (.static "WiredBeans$Word" "ALL" "[LWiredBeans$Word;")) (.int (Int32.ofNat 34))) (List.mem_of_getElem? (i := 13) (by decide +kernel)))) (fun j hj => va_eqv (hbg (e9_A j hj)) (haw j hj).1) hAo
  obtain ⟨sw, hsw, hTsw⟩ := va_Tof (tm := .static "WiredBeans$1" "$SwitchMap$WiredBeans$Word" "[I") (ty := .int) (N := 34) (f := fun j => .int (wSw.getD j 0)) (A := A) (by decide) (hg (Cond.arrayOf (.static "WiredBeans$1" "$SwitchMap$WiredBeans$Word" "[I") .int) (List.mem_of_getElem? (i := 55) (by decide +kernel))) (va_eqt (hg (Cond.eq (.length (.static "WiredBeans$1" "$SwitchMap$WiredBeans$Word" "[I")) (.int (Int32.ofNat 34))) (List.mem_of_getElem? (i := 56) (by decide +kernel)))) (fun j hj => va_eqt (hbg (e9_S j hj))) hAo
  obtain ⟨d0, hd0, hTd0⟩ := va_Tof (tm := .static "java/util/ArrayList" "DEFAULTCAPACITY_EMPTY_ELEMENTDATA" "[Ljava/lang/Object;") (ty := .object "java/lang/Object") (N := 0) (f := fun _ => .null) (A := A) (by decide) (hg (Cond.arrayOf (.static "java/util/ArrayList" "DEFAULTCAPACITY_EMPTY_ELEMENTDATA" "[Ljava/lang/Object;") (.object "java/lang/Object")) (List.mem_of_getElem? (i := 5) (by decide +kernel))) (va_eqt (hg (Cond.eq (.length (.static "java/util/ArrayList" "DEFAULTCAPACITY_EMPTY_ELEMENTDATA" "[Ljava/lang/Object;")) (.int (Int32.ofNat 0))) (List.mem_of_getElem? (i := 7) (by decide +kernel)))) (fun j hj => absurd hj (Nat.not_lt_zero j)) hAo
  obtain ⟨mi, hmi⟩ := va_Mi.of (C := "[Ljava/lang/Object;") (hg (Cond.isRef (.mirror "[Ljava/lang/Object;")) (List.mem_of_getElem? (i := 261) (by decide +kernel)))
  obtain ⟨ak, hak⟩ : ∃ ak : Nat → Nat × Nat, ∀ k, k < 7 → (Term.string (sOwn.getD k "") (sEnt.getD k 0)).eval #[Value.ref b] s none [] s = some (.ref (ak k).1) ∧ va_O "java/lang/String" (ak k).1 A s s.heap ∧ va_OF "java/lang/String" "coder" "B" (.int 0) (ak k).1 A s s.heap ∧ va_OF "java/lang/String" "value" "[B" (.ref (ak k).2) (ak k).1 A s s.heap ∧ va_T .byte (ak k).2 ((sByt.getD k []).length) (fun j => .int ((sByt.getD k []).getD j 0)) A s s.heap := by
    refine Classical.axiomOfChoice (r := fun k (a : Nat × Nat) => k < 7 → (Term.string (sOwn.getD k "") (sEnt.getD k 0)).eval #[Value.ref b] s none [] s = some (.ref a.1) ∧ va_O "java/lang/String" a.1 A s s.heap ∧ va_OF "java/lang/String" "coder" "B" (.int 0) a.1 A s s.heap ∧ va_OF "java/lang/String" "value" "[B" (.ref a.2) a.1 A s s.heap ∧ va_T .byte a.2 ((sByt.getD k []).length) (fun j => .int ((sByt.getD k []).getD j 0)) A s s.heap) (fun k => ?_)
    by_cases hk : k < 7
    · have hx := hbg (e9_E k hk)
      obtain ⟨a, c, cA, kA, q1, q2, q3, q4, q5, q6, -⟩ := Cond.exactly_spec (args := #[Value.ref b]) (first := s) (o := none) (s := s) (idx := []) hx
      have hln : (sByt.getD k []).length < 2 ^ 31 := by
        have key : ∀ k, k < 7 → (sByt.getD k []).length < 2 ^ 31 := by decide
        exact key k hk
      obtain ⟨t, ht, hT⟩ := va_Tof (f := fun j => .int ((sByt.getD k []).getD j 0)) (A := A) hln (hbg (e9_R k hk)) (va_eqt (hbg (e9_L k hk))) (fun j hj => va_eqt (hbg (e9_B k hk j hj))) hAo
      exact ⟨(a, t), fun _ => ⟨q1, va_Oof hx q1 hAo, vk_OFof q1 (va_eqt (hbg (e9_C k hk))) hAo, vk_OFof q1 ht hAo, hT⟩⟩
    · exact ⟨(0, 0), fun h => absurd h hk⟩
  have hcz : va_Z "java/lang/String" "COMPACT_STRINGS" "Z" (.int 1) A s s.heap := va_Zof (hts (Cond.laysStatic "java/lang/String" "COMPACT_STRINGS" "Z") (List.mem_of_getElem? (i := 991) (by decide +kernel))) (hts (Cond.initialized "java/lang/String") (List.mem_of_getElem? (i := 168) (by decide +kernel))) (va_eqi (hg (Cond.eq (.static "java/lang/String" "COMPACT_STRINGS" "Z") (.int 1)) (List.mem_of_getElem? (i := 49) (by decide +kernel)))) hAo
  have hsi : va_Zq "jdk/internal/util/Preconditions" "SIOOBE_FORMATTER" "Ljava/util/function/BiFunction;" A s s.heap := va_Zqof (hts (Cond.laysStatic "jdk/internal/util/Preconditions" "SIOOBE_FORMATTER" "Ljava/util/function/BiFunction;") (List.mem_of_getElem? (i := 1007) (by decide +kernel))) (hts (Cond.initialized "jdk/internal/util/Preconditions") (List.mem_of_getElem? (i := 170) (by decide +kernel))) (hg (Cond.isRef (.static "jdk/internal/util/Preconditions" "SIOOBE_FORMATTER" "Ljava/util/function/BiFunction;")) (List.mem_of_getElem? (i := 50) (by decide +kernel))) hAo
  refine ⟨fun t i => match t with | 33 => aw i | 34 => d0 | 35 => al | 36 => sw | 37 => (ak i).1 | 38 => (ak i).2 | _ => mi, ⟨hG, ⟨va_Nw.of rfl (hts (Cond.castable "java/lang/UnsupportedOperationException" "java/lang/UnsupportedOperationException") (List.mem_of_getElem? (i := 1486) (by decide +kernel))), va_Nw.of rfl (hts (Cond.castable "java/lang/IndexOutOfBoundsException" "java/lang/IndexOutOfBoundsException") (List.mem_of_getElem? (i := 1649) (by decide +kernel))), ⟨va_Nw.of rfl (hts (Cond.castable "WiredBeans$Element" "java/lang/Object") (List.mem_of_getElem? (i := 2346) (by decide +kernel))), va_Nw.of rfl (hts (Cond.castable "WiredBeans$Element" "WiredBeans$Element") (List.mem_of_getElem? (i := 2338) (by decide +kernel)))⟩, ⟨va_AO.of (hts (Cond.arrayOver (.object "java/lang/Object")) (List.mem_of_getElem? (i := 1397) (by decide +kernel))), va_Dc.of (hts (Cond.declares ⟨"java/lang/Object", "getClass", "()Ljava/lang/Class;"⟩) (List.mem_of_getElem? (i := 2341) (by decide +kernel))), hmi⟩, va_Zref (hts (Cond.laysStatic "java/util/ArrayList" "DEFAULTCAPACITY_EMPTY_ELEMENTDATA" "[Ljava/lang/Object;") (List.mem_of_getElem? (i := 474) (by decide +kernel))) (hts (Cond.initialized "java/util/ArrayList") (List.mem_of_getElem? (i := 158) (by decide +kernel))) hd0 hAo, hTd0⟩, ⟨fun k hk => ⟨va_Zref (hbt (e9_Z k hk)) (hts (Cond.initialized "WiredBeans$Word") (List.mem_of_getElem? (i := 167) (by decide +kernel))) (haw k hk).1 hAo, (haw k hk).2, vk_OFof (haw k hk).1 (va_eqt (hbg (e9_O k hk))) hAo, vk_OFof (haw k hk).1 (va_eqtl (hbg (e9_K k hk))) hAo⟩, ⟨va_Zref (hts (Cond.laysStatic "WiredBeans$Word" "ALL" "[LWiredBeans$Word;") (List.mem_of_getElem? (i := 960) (by decide +kernel))) (hts (Cond.initialized "WiredBeans$Word") (List.mem_of_getElem? (i := 167) (by decide +kernel))) hal hAo, hTal⟩, ⟨va_Zref (hts (Cond.laysStatic "WiredBeans$1" "$SwitchMap$WiredBeans$Word" "[I") (List.mem_of_getElem? (i := 1087) (by decide +kernel))) (hts (Cond.initialized "WiredBeans$1") (List.mem_of_getElem? (i := 172) (by decide +kernel))) hsw hAo, hTsw⟩⟩, ⟨fun k hk => ⟨(hak k hk).2.1, (hak k hk).2.2.1, (hak k hk).2.2.2.1, (hak k hk).2.2.2.2, hcz, hsi⟩, fun k hk => vk_R.of (hbt (e9_F k hk)) (hak k hk).1⟩⟩, ?_⟩
  exact ⟨va_Nc.of (hg (Cond.not (.castable "java/lang/UnsupportedOperationException" "java/lang/IllegalStateException")) (List.mem_of_getElem? (i := 225) (by decide +kernel))), va_Nc.of (hg (Cond.not (.castable "java/lang/UnsupportedOperationException" "java/lang/IndexOutOfBoundsException")) (List.mem_of_getElem? (i := 260) (by decide +kernel))), va_Nc.of (hg (Cond.not (.castable "java/lang/IndexOutOfBoundsException" "java/lang/IllegalStateException")) (List.mem_of_getElem? (i := 226) (by decide +kernel)))⟩

theorem ar_p {s : State} {b : Nat} {ty : FieldType} (h : (Cond.arrayClass ty).before #[Value.ref b] s = true) (hp : ∀ C, ty ≠ .object C) : ∃ cA : ClassId, ArrOfT s cA ty ∧ va_RA s cA ty := by
  obtain ⟨c, k, comp, h1, h2, h3⟩ := Cond.arrayClass_spec h
  refine ⟨c, fun n z => ⟨fun k h => (by cases h), k, h2, comp, h3⟩, ?_⟩
  cases ty with
  | object C => exact absurd rfl (hp C)
  | _ => exact h1
theorem ar_o {s : State} {C : String} (h : va_AO C s) : ∃ cA : ClassId, ArrOfT s cA (.object C) ∧ va_RA s cA (.object C) := by
  obtain ⟨comp, c, k, h1, h2, h3, h4, h5⟩ := Cond.arrayOver_spec h
  exact ⟨c, fun n z => ⟨fun k h => (by cases h), k, h3, comp, h4⟩, k, comp, h3, h4, h1, h5⟩
theorem d_cid0 {s : State} {b : Nat} {A : Nat → Prop} {ad : Nat → Nat → Nat} (hts : ∀ w ∈ lw_tbl, w.before #[Value.ref b] s = true) (hG : CE ad A s) : ∃ cid : Nat → ClassId, ∀ t, t < 33 → ArrOfT s (cid t) (cTy t) ∧ va_RA s (cid t) (cTy t) := by
  obtain ⟨ci, hci⟩ := ar_p (ty := .int) (hts (Cond.arrayClass .int) (List.mem_of_getElem? (i := 231) (by decide +kernel))) (fun C q => by cases q)
  obtain ⟨cc, hcc⟩ := ar_p (ty := .char) (hts (Cond.arrayClass .char) (List.mem_of_getElem? (i := 386) (by decide +kernel))) (fun C q => by cases q)
  obtain ⟨cl, hcl⟩ := ar_p (ty := .long) (hts (Cond.arrayClass .long) (List.mem_of_getElem? (i := 412) (by decide +kernel))) (fun C q => by cases q)
  obtain ⟨c2, hc2⟩ := ar_o hG.1.1.1
  obtain ⟨c8, hc8⟩ := ar_o hG.1.1.2.1
  obtain ⟨c3, hc3⟩ := ar_o hG.1.1.2.2.1
  obtain ⟨c1, hc1⟩ := ar_o hG.1.1.2.2.2
  obtain ⟨cO, hcO⟩ := ar_o hG.2.1.2.2.2.1.1
  refine ⟨fun t => match cTy t with | .int => ci | .char => cc | .long => cl | .object C => (if C = RX2 then c2 else if C = RX8 then c8 else if C = RX3 then c3 else if C = RX1 then c1 else cO) | _ => ci, fun t ht => ?_⟩
  match t, ht with
  | 0, _ => exact hcO
  | 1, _ => exact hcO
  | 2, _ => exact hcO
  | 3, _ => exact hcO
  | 4, _ => exact hcO
  | 5, _ => exact hcO
  | 6, _ => exact hcO
  | 7, _ => exact hcO
  | 8, _ => exact hcO
  | 9, _ => exact hcO
  | 10, _ => exact hcO
  | 11, _ => exact hcO
  | 12, _ => exact hc2
  | 13, _ => exact hcc
  | 14, _ => exact hc3
  | 15, _ => exact hcl
  | 16, _ => exact hci
  | 17, _ => exact hci
  | 18, _ => exact hcc
  | 19, _ => exact hc1
  | 20, _ => exact hc1
  | 21, _ => exact hci
  | 22, _ => exact hci
  | 23, _ => exact hci
  | 24, _ => exact hc1
  | 25, _ => exact hci
  | 26, _ => exact hci
  | 27, _ => exact hci
  | 28, _ => exact hc8
  | 29, _ => exact hc8
  | 30, _ => exact hci
  | 31, _ => exact hcc
  | 32, _ => exact hcO
  | t + 33, h => exact absurd h (by omega)
end
section
theorem IN9_0 : IN9c sg00 gm00 := by
  refine ⟨fun k hk => ?_, fun k hk => ?_, fun c => rfl, fun j => rfl, fun c hc => ⟨?_, fun i hi => ⟨?_, ?_, ?_⟩⟩, fun b hb => ?_⟩
  · rcases hk with q | q | q | q | q <;> rw [q] <;> rfl
  · rcases hk with q | q | q | q <;> rw [q] <;> rfl
  · show (nI c).toInt = _; rw [nI_toInt (by omega)]
  · show (nI ((8 * c + i) % 4)).toInt = _; rw [nI_toInt (by omega)]; omega
  · show (nI ((8 * c + 4 + i) / 8)).toInt = _; rw [nI_toInt (by omega)]; omega
  · show (nI ((8 * c + 4 + i) % 4)).toInt = _; rw [nI_toInt (by omega)]; omega
  · show (nI b).toInt = _; rw [nI_toInt (by omega)]
theorem nw13 : ∀ j, j < 77 → defaultValue (tyX13 j) = vp_V nv13 j := by
  intro j hj
  match j, hj with
  | 0, _ => rfl
  | 1, _ => rfl
  | 2, _ => rfl
  | 3, _ => rfl
  | 4, _ => rfl
  | 5, _ => rfl
  | 6, _ => rfl
  | 7, _ => rfl
  | 8, _ => rfl
  | 9, _ => rfl
  | 10, _ => rfl
  | 11, _ => rfl
  | 12, _ => rfl
  | 13, _ => rfl
  | 14, _ => rfl
  | 15, _ => rfl
  | 16, _ => rfl
  | 17, _ => rfl
  | 18, _ => rfl
  | 19, _ => rfl
  | 20, _ => rfl
  | 21, _ => rfl
  | 22, _ => rfl
  | 23, _ => rfl
  | 24, _ => rfl
  | 25, _ => rfl
  | 26, _ => rfl
  | 27, _ => rfl
  | 28, _ => rfl
  | 29, _ => rfl
  | 30, _ => rfl
  | 31, _ => rfl
  | 32, _ => rfl
  | 33, _ => rfl
  | 34, _ => rfl
  | 35, _ => rfl
  | 36, _ => rfl
  | 37, _ => rfl
  | 38, _ => rfl
  | 39, _ => rfl
  | 40, _ => rfl
  | 41, _ => rfl
  | 42, _ => rfl
  | 43, _ => rfl
  | 44, _ => rfl
  | 45, _ => rfl
  | 46, _ => rfl
  | 47, _ => rfl
  | 48, _ => rfl
  | 49, _ => rfl
  | 50, _ => rfl
  | 51, _ => rfl
  | 52, _ => rfl
  | 53, _ => rfl
  | 54, _ => rfl
  | 55, _ => rfl
  | 56, _ => rfl
  | 57, _ => rfl
  | 58, _ => rfl
  | 59, _ => rfl
  | 60, _ => rfl
  | 61, _ => rfl
  | 62, _ => rfl
  | 63, _ => rfl
  | 64, _ => rfl
  | 65, _ => rfl
  | 66, _ => rfl
  | 67, _ => rfl
  | 68, _ => rfl
  | 69, _ => rfl
  | 70, _ => rfl
  | 71, _ => rfl
  | 72, _ => rfl
  | 73, _ => rfl
  | 74, _ => rfl
  | 75, _ => rfl
  | 76, _ => rfl
  | n + 77, h => exact absurd h (by omega)
set_option maxHeartbeats 8000000 in
set_option maxRecDepth 100000 in
/-- THE LAW, from its entry -/
theorem whole_start {p : Program} {e : Env} {s : State} {m : MethodId} {below : List Frame} {meth : Method} {c : Code} (l : Launch) (hl9 : l.stackTraces = false) {b L : Nat} {xs : Nat → Int32} (hL : L ≤ 4608) (C0 : lw_At p s m meth c b L xs) : W p l e room_1 s m #[Value.ref b] below meth c s.heap [] 0 0 (lw_Z below #[Value.ref b] s) (entryFrame m ([Value.ref b] : List Value).toArray 7) := by
  obtain ⟨hx, hb, hr, hml, hown, hts, hX, hbl, hlocks, hgv⟩ := id C0
  have hown : s.vm.findClass RL = some m.cls := hown
  have htb := fun (w : Cond) (h : w ∈ tb) => hts w (tb_in w h)
  obtain ⟨A, hAe⟩ : ∃ A : Nat → Prop, A = fun q => s.heap.size ≤ q := ⟨_, rfl⟩
  have hA : ∀ q : Nat, s.heap.size ≤ q → A q := fun q h => by rw [hAe]; exact h
  have hAi : ∀ q : Nat, A q → s.heap.size ≤ q := fun q h => by rw [hAe] at h; exact h
  have hAo : ∀ a : Nat, a < s.heap.size → ¬ A a := fun a h h2 => absurd (hAi a h2) (Nat.not_le.mpr h)
  have hbA : ¬ A b := hAo b hbl
  obtain ⟨c0, iS0, hKn0⟩ := u_known (C := RJx4a65c) (T := TJx4a65c) (N := 3) (n := 3) htb inJx4a65c (htb _ kw_335)
  obtain ⟨c1, iS1, hKn1⟩ := u_known (C := RX1) (T := TX1) (N := 19) (n := 19) htb inX1 (htb _ kw_330)
  obtain ⟨c2, iS2, hKn2⟩ := u_known (C := RX2) (T := TX2) (N := 8) (n := 8) htb inX2 (htb _ kw_183)
  obtain ⟨c3, iS3, hKn3⟩ := u_known (C := RX3) (T := TX3) (N := 21) (n := 21) htb inX3 (htb _ kw_224)
  obtain ⟨c4, iS4, hKn4⟩ := u_known (C := RX4) (T := TX4) (N := 2) (n := 2) htb inX4 (htb _ kw_392)
  obtain ⟨c5, iS5, hKn5⟩ := u_known (C := RX5) (T := TX5) (N := 13) (n := 13) htb inX5 (htb _ kw_399)
  obtain ⟨c6, iS6, hKn6⟩ := u_known (C := RX6) (T := TX6) (N := 8) (n := 8) htb inX6 (htb _ kw_219)
  obtain ⟨c7, iS7, hKn7⟩ := u_known (C := RX7) (T := TX7) (N := 6) (n := 6) htb inX7 (htb _ kw_308)
  obtain ⟨c8, iS8, hKn8⟩ := u_known (C := RX8) (T := TX8) (N := 7) (n := 7) htb inX8 (htb _ kw_188)
  obtain ⟨c9, iS9, hKn9⟩ := u_known (C := RX9) (T := TX9) (N := 1) (n := 1) htb inX9 (htb _ kw_319)
  obtain ⟨c10, iS10, hKn10⟩ := u_known (C := RX10) (T := TX10) (N := 4) (n := 4) htb inX10 (htb _ kw_325)
  obtain ⟨c11, iS11, hKn11⟩ := u_known (C := RX12) (T := TX12) (N := 12) (n := 12) htb inX12 (htb _ kw_177)
  obtain ⟨c12, iS12, hKn12⟩ := u_known (C := RX13) (T := TX13) (N := 77) (n := 77) htb inX13 (htb _ kw_997)
  obtain ⟨dC, dI, hKc⟩ : ∃ (dC : Nat → ClassId) (dI : Nat → Nat → Nat), ∀ (k : Nat) (q : vw_C), vwCl[k]? = some q → u_Kn s q.1 q.2.1 q.2.2 (dC k) (dI k) := by
    refine ⟨fun k => match k with | 0 => c0 | 1 => c1 | 2 => c2 | 3 => c3 | 4 => c4 | 5 => c5 | 6 => c6 | 7 => c7 | 8 => c8 | 9 => c9 | 10 => c10 | 11 => c11 | _ => c12, fun k => match k with | 0 => iS0 | 1 => iS1 | 2 => iS2 | 3 => iS3 | 4 => iS4 | 5 => iS5 | 6 => iS6 | 7 => iS7 | 8 => iS8 | 9 => iS9 | 10 => iS10 | 11 => iS11 | _ => iS12, ?_⟩
    intro k q hq
    match k, hq with
    | 0, hq => cases hq; exact hKn0
    | 1, hq => cases hq; exact hKn1
    | 2, hq => cases hq; exact hKn2
    | 3, hq => cases hq; exact hKn3
    | 4, hq => cases hq; exact hKn4
    | 5, hq => cases hq; exact hKn5
    | 6, hq => cases hq; exact hKn6
    | 7, hq => cases hq; exact hKn7
    | 8, hq => cases hq; exact hKn8
    | 9, hq => cases hq; exact hKn9
    | 10, hq => cases hq; exact hKn10
    | 11, hq => cases hq; exact hKn11
    | 12, hq => cases hq; exact hKn12
    | k + 13, hq => simp [vwCl] at hq
  have hS : va_S A s.heap s.heap [] := va_S.rf
  have hK0 : va_K (dC, dI) vwCl [] s := ⟨hKc, fun k q h => by simp at h⟩
  have hP : va_P (dC, dI) vwCl [] s.heap := fun k q h => by simp at h
  have hD : va_D A [] := ⟨fun i j p q h => by simp at h, fun k q h => by simp at h⟩
  obtain ⟨ad0, hG, hN9⟩ := d_env0 (A := A) hts hgv hAo
  obtain ⟨cid, hcid⟩ := d_cid0 (b := b) hts hG
  have hK : va_K (dC, dI) vwCl (cT cid) s := ⟨hKc, fun k q h => by
    have hk : k < 33 := by have := (List.getElem?_eq_some_iff.mp h).1; rw [cT_len] at this; exact this
    rw [cT_at hk] at h
    cases h
    exact hcid k hk⟩
  have hl := lv_entry ([.ref b]) (n := 7) (Nat.le_of_ble_eq_true rfl)
  rw [lg_entry_eq]
  generalize (lg_sl ([.ref b]) ++ List.replicate (7 - (lg_sl ([.ref b])).length) Slot.unset).toArray = ls at hl ⊢
  have hl : lv_has ls 7 [(0, .ref b)] := hl
  refine va_new (ci := 11) (fs := nvX12) (C := RX12) (T := TX12) (N := 12) hx hb htb inX12 tyX12 tyX12_ok hown (htb _ kw_176) (htb _ kw_177) (htb _ kw_146) hK hP hD hS hA rfl nwX12 (Nat.le_of_ble_eq_true rfl) (Nat.le_of_ble_eq_true rfl) dL_law_0 (fun q1 H hP hD hS => ?_)
  refine W.widen (k := 1) (n := 12) (Nat.le_of_ble_eq_true rfl) (Nat.le_of_ble_eq_true rfl) ?_
  refine lv_dup hx hb dL_law_3 rfl ?_
  refine nw_call (rest := [.ref q1]) (r := []) ⟨hx, hb, hml, hown, htb⟩ (n_X12 l dC dI ad0 cid q1) (cwI 0 htb (gd_c kw_1368) rfl rfl rfl (htb _ kw_146) (htb _ kw_178) (htb _ kw_179) rfl (by decide +kernel) ⟨Nat.le_of_ble_eq_true rfl, Nat.le_of_ble_eq_true rfl⟩) rfl hl.1 rfl (Nat.le_of_ble_eq_true rfl) dL_law_4 ⟨(Nat.le_of_ble_eq_true rfl), (Nat.le_of_ble_eq_true rfl)⟩ hK hP hD hS hA hG (fun w H locs hw hP7 hD7 hS => ?_)
  obtain ⟨a12, a13, f2, adr, up, rd, st, uw, rw9, r1, mk, a, b9, f, x, q, rfl, hf2, hdc, hpa, hwi⟩ := hw
  rw [List.append_nil] at hP7 hD7
  have hE := wb_eq (ad0 := ad0) (cid := cid) (a2 := fun _ => 0) hf2 hdc hpa hwi rfl (h := q1) (a12 := a12) (a13 := a13) (rd := rd) (st := st) (rw9 := rw9) (r1 := r1) (mk := mk) (a := a) (b := b9) (f := f) (x := x) (q := q)
  have hG : CE (wbA ad0 q1 a12 a13 adr up rd st uw rw9 r1 mk a b9 f x q) A s := hG
  have e01 : wbA ad0 q1 a12 a13 adr up rd st uw rw9 r1 mk a b9 f x q 0 0 = q1 := rfl
  generalize wbA ad0 q1 a12 a13 adr up rd st uw rw9 r1 mk a b9 f x q = ad at hE hG e01
  have hP := wb_P hE hP7
  have hD := wb_D hE hD7
  refine W.widen (k := 662) (n := 12993) (Nat.le_of_ble_eq_true rfl) (Nat.le_of_ble_eq_true rfl) ?_
  refine lv_astore_n (lv' := [(1, .ref q1), (0, .ref b)]) hx hb dL_law_7 rfl hl (by decide) rfl (fun ls hl => ?_)
  refine va_new (ci := 12) (fs := nv13) (C := RX13) (T := TX13) (N := 77) hx hb htb inX13 tyX13 tyX13_ok hown (htb _ kw_996) (htb _ kw_997) (htb _ kw_160) hK hP hD hS hA rfl nw13 (Nat.le_of_ble_eq_true rfl) (Nat.le_of_ble_eq_true rfl) dL_law_8 (fun q2 H hP hD hS => ?_)
  have hP := fr_P hP
  have hD := fr_D hD
  refine W.widen (k := 663) (n := 13070) (Nat.le_of_ble_eq_true rfl) (Nat.le_of_ble_eq_true rfl) ?_
  refine lv_dup hx hb dL_law_11 rfl ?_
  have hPc : va_P (dC, dI) vwCl [(q2, .inr (12, nv13))] H := va_Psl hP (List.sublist_append_left [_] _)
  have hDc : va_D A [(q2, (.inr (12, nv13) : va_E))] := va_Dsl hD (List.sublist_append_left [_] _)
  have hFc : ∀ q, va_A [(q2, (.inr (12, nv13) : va_E))] H.size q → A q := fun q h => by
    rcases h with ⟨k, e, h⟩ | h
    · exact hDc.2 k (q, e) h
    · exact hA q (Nat.le_trans hS.1 h)
  refine va_callv (va_runI (As := []) (rest := [.ref q2]) ⟨hx, hb, hml, hown, htb⟩ (d_mctor l dC dI q2 H.size) (cwI 0 htb (gd_c kw_1565) rfl rfl rfl (htb _ kw_160) (htb _ kw_998) (htb _ kw_999) rfl (by decide +kernel) ⟨Nat.le_of_ble_eq_true rfl, Nat.le_of_ble_eq_true rfl⟩) ⟨fun a U g mk q => by obtain ⟨q0, q1, qP, qK, qD⟩ := q; exact ⟨q0, q1, qP, va_K.moved (u := U) (U := U.calling g mk a) (Vm.Alike.refl U.vm) qK, qD⟩, fun U hU hW => ⟨rfl, by rw [hU], by rw [hU]; exact hPc, va_K.moved hW.alike hK0, hDc.weaken (fun _ _ _ _ => trivial)⟩⟩ rfl rfl hl.1 rfl (lv_room (Nat.le_of_ble_eq_true rfl)) dL_law_12 ⟨(Nat.le_of_ble_eq_true rfl), (Nat.le_of_ble_eq_true rfl)⟩) hS (fun q _ h => hFc q h) hFc (fun u t H1 locs ht hvm hRI hB hz1 hk1 hS => ?_)
  obtain ⟨hP1, hK1, hD1⟩ := hB
  rw [ht] at hP1
  have hK1 := va_K.moved hvm.symm hK1
  obtain ⟨adm, cidm, sm, gn, ln⟩ := u
  obtain ⟨hP, hD⟩ := lw_join (w := [(q2, .inr (12, nv13))]) hP hD hk1 hFc hP1 hD1
  have hP := vaP_p List.perm_append_comm hP
  have hD := vaD_p List.perm_append_comm hD
  have hK := hK.app hK1
  refine W.widen (k := 723) (n := 35018) (Nat.le_of_ble_eq_true rfl) (Nat.le_of_ble_eq_true rfl) ?_
  refine lv_astore_n (lv' := [(2, .ref q2), (1, .ref q1), (0, .ref b)]) hx hb dL_law_15 rfl hl (by decide) rfl (fun ls hl => ?_)
  refine lv_iconst (v := 1) hx hb dL_law_16 (by decide) ?_
  refine va_newa (D := (dC, dI)) (atype := .long) (ty := .long) (N' := 1) (a0 := (1, .inr (.inl (fun _ => 0)))) hx hb (htb _ kw_306) rfl hK hP hD hS hA (fun _ => rfl) (by decide) (by decide) (by decide) (Nat.le_of_ble_eq_true rfl) (Nat.le_of_ble_eq_true rfl) dL_law_17 (fun qo cO H hK hP hD hS => ?_)
  refine lv_astore_n (lv' := [(3, .ref qo), (2, .ref q2), (1, .ref q1), (0, .ref b)]) hx hb dL_law_19 rfl hl (by decide) rfl (fun ls hl => ?_)
  refine lv_iconst (v := 0) hx hb dL_law_20 (by decide) ?_
  refine lv_istore (lv' := [(4, .int 0), (3, .ref qo), (2, .ref q2), (1, .ref q1), (0, .ref b)]) hx hb dL_law_21 hl (by decide) rfl (fun ls hl => ?_)
  rw [List.append_assoc] at hP hD hK
  have e1 : eV (ad 0) 0 = .ref q1 := by rw [eV_ref (by decide), show (0 : Int32).toNatClampNeg = 0 from by decide, e01]
  have hl : lv_has ls 7 [(4, .int 0), (3, .ref qo), (2, .ref q2), (1, eV (ad 0) 0), (0, .ref b)] := by rw [e1]; exact hl
  refine W.widen (k := 10000 + 3 * 0 + PHs gm00) (n := 400000 + 18 * 0 + 4 * PHs gm00) (by rw [PHs_0]; decide) (by rw [PHs_0]; decide) ?_
  exact d_loop hl9 C0 hL hA hbA hG hN9 hK hAi 513 0 0 _ [] sg00 gm00 lg00 sm gn ln (fun _ => 0) _ _ _ rfl (by decide) (by decide) KI_0 hRI.1 (REL_0 ⟨TXR_0 (show (sg00 0).toInt = 0 from by decide) (by rw [show sm 20 = 0 from hRI.2.1]; decide), hRI.2.2.1, hRI.2.2.2.1⟩ IN9_0 hRI.2.2.2.2) hP hD hS hl
end
