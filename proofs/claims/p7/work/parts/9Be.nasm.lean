/-- an entry stands for another at the same place -/
def RW9 (x y : Nat × va_E) : Prop := x.1 = y.1 ∧ ∀ (D : va_G) (cl : List vw_C) (H : Heap), va_at D cl x H → va_at D cl y H
theorem RW9.rf {x y : Nat × va_E} (h : x = y) : RW9 x y := by subst h; exact ⟨rfl, fun _ _ _ h => h⟩
theorem RW9.q {a b n : Nat} {cA : ClassId} {f g : Nat → Option Nat} (hab : a = b) (h : ∀ j, j < n → f j = g j) : RW9 (a, .inl (cA, n, .inr (.inr (.inr (.inr f))))) (b, .inl (cA, n, .inr (.inr (.inr (.inr g))))) := by
  subst hab
  refine ⟨rfl, fun D cl H q => ?_⟩
  have q : H[a]? = some (vp_cell cA (n, .inr (.inr (.inr (.inr f))))) := q
  rw [arr_q h] at q
  exact q
theorem RW9.i {a b n : Nat} {cA : ClassId} {f g : Nat → Int32} (hab : a = b) (h : ∀ j, j < n → f j = g j) : RW9 (a, .inl (cA, n, .inl f)) (b, .inl (cA, n, .inl g)) := by
  subst hab
  refine ⟨rfl, fun D cl H q => ?_⟩
  have q : H[a]? = some (vp_cell cA (n, .inl f)) := q
  rw [arr_i h] at q
  exact q
def EqW : va_W → va_W → Prop
  | [], [] => True
  | x :: w, y :: v => RW9 x y ∧ EqW w v
  | _, _ => False
theorem EqW.app : ∀ {w v w2 v2 : va_W}, EqW w v → EqW w2 v2 → EqW (w ++ w2) (v ++ v2)
  | [], [], _, _, _, h => h
  | _ :: _, _ :: _, _, _, h1, h => ⟨h1.1, EqW.app h1.2 h⟩
  | [], _ :: _, _, _, h1, _ => h1.elim
  | _ :: _, [], _, _, h1, _ => h1.elim
theorem EqW.at : ∀ {w v : va_W} {k : Nat} {y : Nat × va_E}, EqW w v → v[k]? = some y → ∃ x, w[k]? = some x ∧ RW9 x y
  | [], [], k, y, _, h => by simp at h
  | x :: w, z :: v, 0, y, h1, h => ⟨x, rfl, by cases h; exact h1.1⟩
  | x :: w, z :: v, k + 1, y, h1, h => by
    obtain ⟨x9, q1, q2⟩ := EqW.at (k := k) (y := y) h1.2 (by simpa using h)
    exact ⟨x9, by simpa using q1, q2⟩
  | [], _ :: _, _, _, h1, _ => h1.elim
  | _ :: _, [], _, _, h1, _ => h1.elim
theorem EqW.P {w v : va_W} {D : va_G} {cl : List vw_C} {H : Heap} (h : EqW w v) (hP : va_P D cl w H) : va_P D cl v H := fun k y hk => by
  obtain ⟨x, q1, q2⟩ := h.at hk
  exact q2.2 D cl H (hP k x q1)
theorem EqW.D {w v : va_W} {A : Nat → Prop} (h : EqW w v) (hD : va_D A w) : va_D A v := by
  refine ⟨fun i j x y hi hj e9 => ?_, fun k y hk => ?_⟩
  · obtain ⟨x1, q1, q2⟩ := h.at hi
    obtain ⟨y1, r1, r2⟩ := h.at hj
    exact hD.1 i j x1 y1 q1 r1 (by rw [q2.1, r2.1, e9])
  · obtain ⟨x, q1, q2⟩ := h.at hk
    rw [← q2.1]
    exact hD.2 k x q1
def tlL (Lf : Nat → List (Nat × Nat)) : Nat → List (Nat × Nat)
  | 0 => []
  | n + 1 => Lf n ++ tlL Lf n
theorem EqW_tl {α : Type} {F : Nat → α → va_W} {adr : Nat → α} {Lf : Nat → List (Nat × Nat)} {g : Nat × Nat → Nat × va_E} : ∀ n, (∀ k, k < n → EqW (F k (adr k)) ((Lf k).map g)) → EqW (tl F adr n) ((tlL Lf n).map g)
  | 0, _ => trivial
  | n + 1, h => by
    show EqW (F n (adr n) ++ tl F adr n) ((Lf n ++ tlL Lf n).map g)
    rw [List.map_append]
    exact (h n (by omega)).app (EqW_tl n (fun k hk => h k (by omega)))
def beL (k : Nat) : List (Nat × Nat) := [(10, k), (11, 3 * k + 2), (11, 3 * k + 1), (11, 3 * k)]
def elL (k : Nat) : List (Nat × Nat) := [(31, k), (9, k)]
def sgL (c k : Nat) : List (Nat × Nat) := [(27, 8 * c + 4 + k), (8, 8 * c + 4 + k), (27, 8 * c + k), (8, 8 * c + k)]
def dcL (c : Nat) : List (Nat × Nat) := (30, c) :: (29, c) :: (28, c) :: (7, c) :: tlL (sgL c) 4
def wbL : List (Nat × Nat) := (13, 0) :: (12, 0) :: (0, 0) :: ([(26, 0), (25, 0), (24, 0), (23, 0), (22, 0), (6, 0)] ++ ([(21, 0), (5, 0)] ++ (((20, 0) :: (19, 0) :: (4, 0) :: tlL beL 80) ++ ([(3, 0)] ++ ([(2, 0)] ++ (((18, 0) :: (17, 0) :: (16, 0) :: (15, 0) :: (14, 0) :: (1, 0) :: tlL elL 80) ++ tlL dcL 8))))))
theorem wbL_perm : wbL.Perm cPL := List.isPerm_iff.mp (by decide +kernel)
/-- the signatures' addresses -/
def sgA (adr : Nat → DU) (i : Nat) : Nat × Nat := if i % 8 < 4 then (((adr (i / 8)).2.1 (i % 8)).1, ((adr (i / 8)).2.1 (i % 8)).2.1) else (((adr (i / 8)).2.1 (i % 8 - 4)).2.2.1, ((adr (i / 8)).2.1 (i % 8 - 4)).2.2.2)
theorem sgA_c {adr : Nat → DU} {c k : Nat} (hk : k < 4) : sgA adr (8 * c + k) = (((adr c).2.1 k).1, ((adr c).2.1 k).2.1) := by
  unfold sgA
  rw [show (8 * c + k) % 8 = k by omega, show (8 * c + k) / 8 = c by omega, if_pos hk]
theorem sgA_f {adr : Nat → DU} {c k : Nat} (hk : k < 4) : sgA adr (8 * c + 4 + k) = (((adr c).2.1 k).2.2.1, ((adr c).2.1 k).2.2.2) := by
  unfold sgA
  rw [show (8 * c + 4 + k) % 8 = 4 + k by omega, show (8 * c + 4 + k) / 8 = c by omega, if_neg (by omega), show 4 + k - 4 = k by omega]
def beA (b : Nat → Nat × Nat × Nat × Nat) (i : Nat) : Nat := if i % 3 = 0 then (b (i / 3)).2.1 else if i % 3 = 1 then (b (i / 3)).2.2.1 else (b (i / 3)).2.2.2
theorem beA_0 {b : Nat → Nat × Nat × Nat × Nat} {k : Nat} : beA b (3 * k) = (b k).2.1 := by
  unfold beA
  rw [show (3 * k) % 3 = 0 by omega, show (3 * k) / 3 = k by omega, if_pos rfl]
theorem beA_1 {b : Nat → Nat × Nat × Nat × Nat} {k : Nat} : beA b (3 * k + 1) = (b k).2.2.1 := by
  unfold beA
  rw [show (3 * k + 1) % 3 = 1 by omega, show (3 * k + 1) / 3 = k by omega, if_neg (by decide), if_pos rfl]
theorem beA_2 {b : Nat → Nat × Nat × Nat × Nat} {k : Nat} : beA b (3 * k + 2) = (b k).2.2.2 := by
  unfold beA
  rw [show (3 * k + 2) % 3 = 2 by omega, show (3 * k + 2) / 3 = k by omega, if_neg (by decide), if_neg (by decide)]
def wbA (ad0 : Nat → Nat → Nat) (h a12 a13 : Nat) (adr : Nat → DU) (up : PU) (rd st : Nat) (uw : WU) (rw9 r1 mk a b f x q : Nat) (t i : Nat) : Nat := match t with
  | 0 => h
  | 1 => up.1.1
  | 2 => rd
  | 3 => st
  | 4 => uw.1.1
  | 5 => rw9
  | 6 => mk
  | 7 => (adr i).1.1
  | 8 => (sgA adr i).1
  | 9 => (up.2.1 i).1
  | 10 => (uw.2.1 i).1
  | 11 => beA uw.2.1 i
  | 12 => a12
  | 13 => a13
  | 14 => up.1.2.1
  | 15 => up.1.2.2.1
  | 16 => up.1.2.2.2.1
  | 17 => up.1.2.2.2.2.1
  | 18 => up.1.2.2.2.2.2
  | 19 => uw.1.2.1
  | 20 => uw.1.2.2
  | 21 => r1
  | 22 => a
  | 23 => b
  | 24 => f
  | 25 => x
  | 26 => q
  | 27 => (sgA adr i).2
  | 28 => (adr i).1.2.1
  | 29 => (adr i).1.2.2.1
  | 30 => (adr i).1.2.2.2
  | 31 => (up.2.1 i).2
  | t + 32 => ad0 (t + 32) i
def sg00 (k : Nat) : Int32 := match k with
  | 3 => -1
  | 7 => -1
  | 11 => -1
  | 16 => -1
  | 18 => -1
  | _ => 0
def gm00 (k i : Nat) : Int32 := match k with
  | 2 => nI i
  | 4 => -1
  | 5 => nI (i / 8)
  | 6 => nI (i % 4)
  | 14 => -1
  | 15 => -1
  | 16 => -1
  | 17 => -1
  | 25 => -1
  | 26 => -1
  | 27 => -1
  | 28 => nI i
  | 29 => -1
  | 47 => -1
  | 51 => -1
  | 55 => -1
  | 57 => -1
  | _ => 0
def lg00 (k i : Nat) : Int64 := 0
section AS
variable {ad0 : Nat → Nat → Nat} {cid : Nat → ClassId} {a2 : Nat → Nat} {h a12 a13 : Nat} {f2 : Nat → Option Nat} {adr : Nat → DU} {up : PU} {rd st : Nat} {uw : WU} {rw9 r1 mk a b f x q : Nat}
theorem wb_eq (hf2 : ∀ j, j < 8 → f2 j = some (adr j).1.1) (hdc : ∀ j, j < 8 → dcP (adr j)) (hpa : paP up) (hwi : wiP uw) {ad : Nat → Nat → Nat} (had : ad = wbA ad0 h a12 a13 adr up rd st uw rw9 r1 mk a b f x q) :
    EqW (wbW ad0 cid h a12 a13 f2 adr up rd st uw rw9 r1 mk a b f x q) (wbL.map (fun x => (ad x.1 x.2, cE ad cid a2 sg00 gm00 lg00 x.1 x.2))) := by
  have r9 : ∀ i, ad 9 i = (up.2.1 i).1 := fun i => by rw [had]; rfl
  have r10 : ∀ i, ad 10 i = (uw.2.1 i).1 := fun i => by rw [had]; rfl
  have r7 : ∀ i, ad 7 i = (adr i).1.1 := fun i => by rw [had]; rfl
  have r8 : ∀ i, ad 8 i = (sgA adr i).1 := fun i => by rw [had]; rfl
  have r27 : ∀ i, ad 27 i = (sgA adr i).2 := fun i => by rw [had]; rfl
  have r11 : ∀ i, ad 11 i = beA uw.2.1 i := fun i => by rw [had]; rfl
  have z : ∀ j, (0 : Int32) = (if j < 3 then 0 else 0) := fun j => by split <;> rfl
  have ob : ∀ {a9 t i : Nat} {fs : List Value}, a9 = ad t i → t < 12 → fs = cFs ad a2 sg00 gm00 lg00 t i → RW9 (a9, .inr (cIx t, fs)) (ad t i, cE ad cid a2 sg00 gm00 lg00 t i) := fun h1 h2 h3 => RW9.rf (by rw [cE_o h2, h1, h3])
  have hal : ∀ i, EqW (alW ad0 (ad 11 i)) [(ad 11 i, cE ad cid a2 sg00 gm00 lg00 11 i)] := fun i => ⟨ob (t := 11) (i := i) rfl (by decide) (by rw [had]; rfl), trivial⟩
  have hbe : ∀ k, k < 80 → EqW (beF ad0 k (uw.2.1 k)) ((beL k).map (fun x => (ad x.1 x.2, cE ad cid a2 sg00 gm00 lg00 x.1 x.2))) := fun k hk => by
    refine ⟨ob (t := 10) (i := k) (r10 k).symm (by decide) ?_, ?_⟩
    · rw [show (uw.2.1 k).2.1 = ad 11 (3 * k) by rw [r11, beA_0], show (uw.2.1 k).2.2.1 = ad 11 (3 * k + 1) by rw [r11, beA_1], show (uw.2.1 k).2.2.2 = ad 11 (3 * k + 2) by rw [r11, beA_2]]
      rfl
    · rw [show (uw.2.1 k).2.1 = ad 11 (3 * k) by rw [r11, beA_0], show (uw.2.1 k).2.2.1 = ad 11 (3 * k + 1) by rw [r11, beA_1], show (uw.2.1 k).2.2.2 = ad 11 (3 * k + 2) by rw [r11, beA_2]]
      exact (hal _).app ((hal _).app ((hal _).app trivial))
  have hel : ∀ k, k < 80 → EqW (elF cid k (up.2.1 k)) ((elL k).map (fun x => (ad x.1 x.2, cE ad cid a2 sg00 gm00 lg00 x.1 x.2))) := fun k hk => by
    refine ⟨RW9.i (by rw [had]; rfl) (fun j hj => ?_), ob (t := 9) (i := k) (r9 k).symm (by decide) (by rw [show (up.2.1 k).2 = ad 31 (1 * k + 0) by (rw [Nat.one_mul, Nat.add_zero, had]; rfl)]; rfl), trivial⟩
    show (0 : Int32) = if j < 24 then 0 else 0
    split <;> rfl
  have hsg : ∀ c k i h9 a9, i < 64 → i / 8 = c → i % 4 = k → h9 = ad 8 i → a9 = ad 27 i → EqW (sgW cid (nI c) (nI k) h9 a9) [(ad 27 i, cE ad cid a2 sg00 gm00 lg00 27 i), (ad 8 i, cE ad cid a2 sg00 gm00 lg00 8 i)] := fun c k i h9 a9 hi e1 e2 e3 e4 => by
    subst e1 e2 e3 e4
    refine ⟨RW9.i rfl (fun j hj => ?_), ob (t := 8) (i := i) rfl (by decide) ?_, trivial⟩
    · show (0 : Int32) = if j < 3 then 0 else 0
      split <;> rfl
    · show [Value.int (nI (i / 8)), .int (nI (i % 4)), .ref (ad 27 i), .int 0, .int 0, .int 0, .int 0] = [Value.int (nI (i / 8)), .int (nI (i % 4)), .ref (ad 27 (1 * i + 0)), .int 0, .int 0, .int 0, .int 0]
      rw [Nat.one_mul, Nat.add_zero]
  have hdcE : ∀ c, c < 8 → EqW (dcF cid c (adr c)) ((dcL c).map (fun x => (ad x.1 x.2, cE ad cid a2 sg00 gm00 lg00 x.1 x.2))) := fun c hc => by
    obtain ⟨d1, d2, d3⟩ := hdc c hc
    refine ⟨RW9.i (by rw [had]; rfl) (fun j hj => ?_), RW9.q (by rw [had]; rfl) (fun j hj => ?_), RW9.q (by rw [had]; rfl) (fun j hj => ?_), ob (t := 7) (i := c) (r7 c).symm (by decide) ?_, ?_⟩
    · show (adr c).2.2.2 j = if j < 26 then -1 else 0
      rw [if_pos hj]; exact d3 j hj
    · show (adr c).2.2.1.2 j = some (ad 8 (8 * c + 4 + j))
      rw [d2 j hj, r8, sgA_f hj]
    · show (adr c).2.2.1.1 j = some (ad 8 (8 * c + 0 + j))
      rw [d1 j hj, r8, Nat.add_zero, sgA_c hj]
    · show [Value.ref (adr c).1.2.1, .ref (adr c).1.2.2.1, .int 0, .int 0, .int (nI c), .ref (adr c).1.2.2.2, .int 0, .null] = [Value.ref (ad 28 (1 * c + 0)), .ref (ad 29 (1 * c + 0)), .int 0, .int 0, .int (nI c), .ref (ad 30 (1 * c + 0)), .int 0, .null]
      rw [Nat.one_mul, Nat.add_zero, had]
      rfl
    · refine EqW_tl 4 (fun k hk => ?_)
      refine EqW.app (v := [(ad 27 (8 * c + 4 + k), cE ad cid a2 sg00 gm00 lg00 27 (8 * c + 4 + k)), (ad 8 (8 * c + 4 + k), cE ad cid a2 sg00 gm00 lg00 8 (8 * c + 4 + k))]) (hsg c k (8 * c + 4 + k) _ _ (by omega) (by omega) (by omega) (by rw [r8, sgA_f hk]) (by rw [r27, sgA_f hk])) (hsg c k (8 * c + k) _ _ (by omega) (by omega) (by omega) (by rw [r8, sgA_c hk]) (by rw [r27, sgA_c hk]))
  unfold wbL
  simp only [List.map_cons, List.map_append]
  refine ⟨RW9.i (by rw [had]; rfl) (fun j hj => rfl), RW9.q (by rw [had]; rfl) (fun j hj => ?_), ob (t := 0) (i := 0) (by rw [had]; rfl) (by decide) (by rw [had]; rfl), ?_⟩
  · show f2 j = some (ad 7 (0 * 0 + 0 + j))
    rw [hf2 j hj, r7, show 0 * 0 + 0 + j = j by omega]
  refine EqW.app ?_ (EqW.app ?_ (EqW.app ?_ (EqW.app ?_ (EqW.app ?_ (EqW.app ?_ (EqW_tl 8 hdcE))))))
  · exact ⟨RW9.i (by rw [had]; rfl) (fun j hj => rfl), RW9.i (by rw [had]; rfl) (fun j hj => rfl), RW9.q (by rw [had]; rfl) (fun j hj => rfl), RW9.i (by rw [had]; rfl) (fun j hj => rfl), RW9.i (by rw [had]; rfl) (fun j hj => rfl), ob (t := 6) (i := 0) (by rw [had]; rfl) (by decide) (by rw [had]; rfl), trivial⟩
  · exact ⟨RW9.i (by rw [had]; rfl) (fun j hj => rfl), ob (t := 5) (i := 0) (by rw [had]; rfl) (by decide) (by rw [had]; rfl), trivial⟩
  · refine ⟨RW9.q (by rw [had]; rfl) (fun j hj => rfl), RW9.q (by rw [had]; rfl) (fun j hj => ?_), ob (t := 4) (i := 0) (by rw [had]; rfl) (by decide) (by rw [had]; rfl), EqW_tl 80 hbe⟩
    show uw.2.2 j = some (ad 10 (0 * 0 + 0 + j))
    rw [hwi j hj, r10, show 0 * 0 + 0 + j = j by omega]
  · exact ⟨ob (t := 3) (i := 0) (by rw [had]; rfl) (by decide) (by rw [had]; rfl), trivial⟩
  · exact ⟨ob (t := 2) (i := 0) (by rw [had]; rfl) (by decide) (by rw [had]; rfl), trivial⟩
  · refine ⟨RW9.i (by rw [had]; rfl) (fun j hj => rfl), RW9.i (by rw [had]; rfl) (fun j hj => rfl), RW9.i (by rw [had]; rfl) (fun j hj => rfl), RW9.rf (by rw [had]; rfl), RW9.q (by rw [had]; rfl) (fun j hj => ?_), ob (t := 1) (i := 0) (by rw [had]; rfl) (by decide) (by rw [had]; rfl), EqW_tl 80 hel⟩
    show up.2.2 j = some (ad 9 (0 * 0 + 0 + j))
    rw [hpa j hj, r9, show 0 * 0 + 0 + j = j by omega]
end AS
/-- the cells that the constructor leaves, as the class's rows tell them -/
theorem wb_P {D : va_G} {cl : List vw_C} {H : Heap} {ad : Nat → Nat → Nat} {cid : Nat → ClassId} {a2 : Nat → Nat} {w : va_W} (h : EqW w (wbL.map (fun x => (ad x.1 x.2, cE ad cid a2 sg00 gm00 lg00 x.1 x.2)))) (hP : va_P D cl w H) : va_P D cl (cW ad cid a2 [] sg00 gm00 lg00) H := by
  have := vaP_p (wbL_perm.map _) (h.P hP)
  unfold cW
  rw [List.map_nil, List.append_nil]
  exact this
theorem wb_D {A : Nat → Prop} {ad : Nat → Nat → Nat} {cid : Nat → ClassId} {a2 : Nat → Nat} {w : va_W} (h : EqW w (wbL.map (fun x => (ad x.1 x.2, cE ad cid a2 sg00 gm00 lg00 x.1 x.2)))) (hD : va_D A w) : va_D A (cW ad cid a2 [] sg00 gm00 lg00) := by
  have := vaD_p (wbL_perm.map _) (h.D hD)
  unfold cW
  rw [List.map_nil, List.append_nil]
  exact this
theorem nI_t {n : Nat} (h : n < 100) : (nI n).toInt = n := by
  have key : ∀ n, n < 100 → (nI n).toInt = n := by decide
  exact key n h
theorem KI_0 : KI 0 [] sg00 gm00 lg00 := by
  have hm1 : (-1 : Int32).toInt = -1 := by decide
  have h0 : (0 : Int32).toInt = 0 := by decide
  refine ⟨⟨fun k => ?_, fun k i hi => ?_⟩, fun q hq => ⟨by show (0 : Int32).toInt ≤ (0 : Int32).toInt; omega, fun q9 => absurd h0 q9, fun j hj => ?_⟩, fun i hi => ?_, fun i hi => ?_, fun j _ => ?_, fun j _ => ?_, Or.inl h0⟩
  · by_cases h20 : k < 20
    · have key : ∀ k, k < 20 → csLo k ≤ (sg00 k).toInt ∧ (sg00 k).toInt ≤ csHi k := by decide
      exact key k h20
    · have e0 : sg00 k = 0 := by
        unfold sg00
        split <;> first | omega | rfl
      have e1 : csLo k ≤ 0 := by
        unfold csLo
        split <;> omega
      have e2 : 0 ≤ csHi k := by
        unfold csHi
        split <;> omega
      rw [e0]
      exact ⟨by rw [h0]; exact e1, by rw [h0]; exact e2⟩
  · by_cases n2 : k = 2
    · rw [n2] at hi ⊢
      have hi : i < 8 := hi
      show iv 0 7 (nI i)
      exact ⟨by rw [nI_t (by omega)]; omega, by rw [nI_t (by omega)]; omega⟩
    by_cases n5 : k = 5
    · rw [n5] at hi ⊢
      have hi : i < 64 := hi
      show iv 0 7 (nI (i / 8))
      exact ⟨by rw [nI_t (by omega)]; omega, by rw [nI_t (by omega)]; omega⟩
    by_cases n6 : k = 6
    · rw [n6] at hi ⊢
      have hi : i < 64 := hi
      show iv 0 3 (nI (i % 4))
      exact ⟨by rw [nI_t (by omega)]; omega, by rw [nI_t (by omega)]; omega⟩
    by_cases n28 : k = 28
    · rw [n28] at hi ⊢
      have hi : i < 80 := hi
      show iv 0 79 (nI i)
      exact ⟨by rw [nI_t (by omega)]; omega, by rw [nI_t (by omega)]; omega⟩
    by_cases h60 : k < 60
    · have key : ∀ k, k < 60 → (k = 2 ∨ k = 5 ∨ k = 6 ∨ k = 28) ∨ (caLo k ≤ (gm00 k 0).toInt ∧ (gm00 k 0).toInt ≤ caHi k) := by decide
      have e0 : gm00 k i = gm00 k 0 := by
        unfold gm00
        split <;> first | omega | rfl
      rw [e0]
      rcases key k h60 with q9 | q9
      · omega
      · exact q9
    · exfalso
      have : crLen k = 0 := by
        unfold crLen
        split <;> first | omega | rfl
      omega
  · have hj : j < (0 : Int32).toNatClampNeg := hj
    exact absurd hj (by rw [show (0 : Int32).toNatClampNeg = 0 from by decide]; omega)
  · have hi : i < (0 : Int32).toNatClampNeg := hi
    exact absurd hi (by rw [show (0 : Int32).toNatClampNeg = 0 from by decide]; omega)
  · have hi : i < (0 : Int32).toNatClampNeg := hi
    exact absurd hi (by rw [show (0 : Int32).toNatClampNeg = 0 from by decide]; omega)
  · show (0 : Int32).toInt ≤ _
    omega
  · show (0 : Int32).toInt ≤ _
    omega
theorem PHs_0 : PHs gm00 = 0 := by decide +kernel
