section
section ST9
variable {ws : Nat → Int32} {wg rg gm gm1 gm2 : Nat → Nat → Int32} {wl : Nat → Nat → Int64} {rs sg sg1 sg2 : Nat → Int32} {lg : Nat → Nat → Int64} {S S2 : S9} {b ix n p j c sl : Nat} {fo o : Int} {vs : List (List Int)} {acc ac2 : List Int} {ob ob2 : List Ob9} {R : Option Int × S9} {F : Nat → Fr9} {f : Fr9}
theorem tlI_S {V : List Int} : ∀ k i S, zS (tlI V k i S) = zS S ∧ zW (tlI V k i S) = zW S
  | 0, i, S => ⟨rfl, rfl⟩
  | k + 1, i, S => by
    show zS (tlI V k (i + 1) (zAdd S _)) = _ ∧ zW (tlI V k (i + 1) (zAdd S _)) = _
    have q := tlI_S (V := V) k (i + 1) (zAdd S (6, -1, (i : Int), (V[i]?).getD 0))
    rw [q.1, q.2, zAdd_S, zAdd_W]; exact ⟨rfl, rfl⟩
theorem tlV_S {wh ab sc t : Int} {V : List Int} : zS (tlV wg wl wh ab sc c V t S) = zS S ∧ zW (tlV wg wl wh ab sc c V t S) = zW S := by
  by_cases h : (wg 25 c).toInt = 6
  · rw [tlV_l h, (tlI_S _ _ _).1, (tlI_S _ _ _).2, zAdd_S, zAdd_W]; exact ⟨rfl, rfl⟩
  · rw [tlV_n h, zAdd_S, zAdd_W]; exact ⟨rfl, rfl⟩
theorem tlA_S {g : Nat → Int} {s : Nat} : ∀ k p S, zO (tlA wg wl b o vs g s k p S) = zO S ∧ zS (tlA wg wl b o vs g s k p S) = zS S ∧ zW (tlA wg wl b o vs g s k p S) = zW S
  | 0, p, S => ⟨rfl, rfl, rfl⟩
  | k + 1, p, S => by
    show zO (tlA wg wl b o vs g s k (p + 1) (tlV wg wl 3 o (p : Int) _ _ _ S)) = _ ∧ zS (tlA wg wl b o vs g s k (p + 1) (tlV wg wl 3 o (p : Int) _ _ _ S)) = _ ∧ zW (tlA wg wl b o vs g s k (p + 1) (tlV wg wl 3 o (p : Int) _ _ _ S)) = _
    have q := tlA_S (g := g) (s := s) k (p + 1) (tlV wg wl 3 o (p : Int) (ctE wg (((liL wg (3 * b))[(g p).toNat]?).getD 0)) ((vs[(g p).toNat]?).getD []) (wg 54 (3 * s + p)).toInt S)
    rw [q.1, q.2.1, q.2.2, tlV_O, tlV_S.1, tlV_S.2]; exact ⟨rfl, rfl, rfl⟩
theorem oB2_S {s : Nat} : zS (oB2 wg b s S) = zS S ∧ zW (oB2 wg b s S) = fu9 (zW S) b ((zO S).length : Int) := by
  unfold oB2
  by_cases h : (wg 8 s).toInt = -1
  · rw [if_pos h, zAdd_S, zAdd_W]; exact ⟨rfl, rfl⟩
  · rw [if_neg h, zAdd_S, zAdd_W]; exact ⟨rfl, rfl⟩
theorem oBr_w (h : oBr wg wl b fo vs S = (some o, S2)) : o = ((zO S).length : Int) ∧ (zO S2).length = (zO S).length + 1 ∧ zS S2 = zS S ∧ zW S2 = fu9 (zW S) b ((zO S).length : Int) := by
  cases hc : chS wg wl b fo (zO S) vs with
  | none => rw [oBr_n hc] at h; exact absurd h (by simp)
  | some q =>
    obtain ⟨s, g⟩ := q
    by_cases h6 : 60 ≤ (zO S).length
    · rw [oBr_6 hc h6] at h; exact absurd h (by simp)
    · rw [oBr_s hc h6] at h
      have e1 := Option.some.inj (congrArg Prod.fst h)
      have e2 : tlA wg wl b ((zO S).length : Int) vs g s (wg 7 s).toNatClampNeg 0 (oB2 wg b s S) = S2 := congrArg Prod.snd h
      rw [← e2, (tlA_S _ _ _).1, (tlA_S _ _ _).2.1, (tlA_S _ _ _).2.2, oB2_O, oB2_S.1, oB2_S.2]
      exact ⟨e1.symm, rfl, rfl, rfl⟩
theorem WF_br (hW : WF9 S) (h : oBr wg wl b fo vs S = (some o, S2)) : WF9 S2 := by
  obtain ⟨_, e1, e2, e3⟩ := oBr_w h
  intro t ht
  rw [e2, e3] at ht
  rw [e3, e1]
  by_cases q : t = b
  · subst q; rw [fu9_at]; omega
  · rw [fu9_ne q] at ht ⊢
    have := hW t ht; omega
theorem oSe_e {u : Int} {h : Nat} {V : List Int} (q : oSe wg wl o h V S = (some u, S2)) : zO S2 = zO S ∧ zS S2 = zS S ∧ zW S2 = zW S := by
  unfold oSe at q
  simp only [] at q
  by_cases h1 : sgF wg (wg 22 h).toNatClampNeg 8 (((zO S)[o.toNat]?).getD (0, 0)).1 = -1
  · rw [if_pos h1] at q; exact absurd q (by simp)
  · rw [if_neg h1] at q
    by_cases h2 : wCo wg wl (zO S) (ctE wg h) V (sgF wg (wg 22 h).toNatClampNeg 8 (((zO S)[o.toNat]?).getD (0, 0)).1) = -1
    · rw [if_pos h2] at q; exact absurd q (by simp)
    · rw [if_neg h2] at q
      have e := congrArg Prod.snd q
      simp only [] at e
      rw [← e, tlV_O, tlV_S.1, tlV_S.2]; exact ⟨rfl, rfl, rfl⟩
theorem WF_e (hW : WF9 S) (h0 : zO S2 = zO S) (h1 : zS S2 = zS S) (h2 : zW S2 = zW S) : WF9 S2 := by unfold WF9 at *; rw [h0, h1, h2]; exact hW
theorem oF1_w : zO (oF1 wg b o S) = zO S ∧ zS (oF1 wg b o S) = zS S ∧ zW (oF1 wg b o S) = zW S := by
  unfold oF1
  by_cases h : (wg 32 b).toInt = -1
  · rw [if_pos h]; exact ⟨rfl, rfl, rfl⟩
  · rw [if_neg h, zAdd_O, zAdd_S, zAdd_W]; exact ⟨rfl, rfl, rfl⟩
theorem oFi_O : zO (oFi wg wl b o S) = zO S := by
  unfold oFi oF2
  by_cases h : ¬ wl 4 b = 0 ∧ wg 35 b = 0
  · rw [if_pos h]; exact oF1_w.1
  · rw [if_neg h]; exact oF1_w.1
theorem WF_fi (hW : WF9 S) (hz : zS S b = 1) (ho : one9 wg wl b → ¬ zW S b = -1) : WF9 (oFi wg wl b o S) := by
  intro t ht
  rw [oFi_O]
  have e2 : zW (oFi wg wl b o S) = zW S := by
    unfold oFi oF2
    by_cases h : ¬ wl 4 b = 0 ∧ wg 35 b = 0
    · rw [if_pos h]; exact oF1_w.2.2
    · rw [if_neg h]; exact oF1_w.2.2
  rw [e2] at ht ⊢
  unfold oFi oF2 at ht
  by_cases h : ¬ wl 4 b = 0 ∧ wg 35 b = 0
  · rw [if_pos h] at ht
    by_cases q : t = b
    · subst q; exact hW t (Or.inr ⟨hz, ho h⟩)
    · refine hW t ?_
      have e : zS (zO (oF1 wg b o S), zE (oF1 wg b o S), fu9 (zS (oF1 wg b o S)) b 2, zW (oF1 wg b o S), zF (oF1 wg b o S) ++ [b]) t = zS S t := (fu9_ne q).trans (by rw [oF1_w.2.1])
      rw [e] at ht; exact ht
  · rw [if_neg h] at ht
    by_cases q : t = b
    · subst q
      have e : zS (zO (oF1 wg t o S), zE (oF1 wg t o S), fu9 (zS (oF1 wg t o S)) t 0, zW (oF1 wg t o S), zF (oF1 wg t o S)) t = 0 := fu9_at
      rw [e] at ht; omega
    · refine hW t ?_
      have e : zS (zO (oF1 wg b o S), zE (oF1 wg b o S), fu9 (zS (oF1 wg b o S)) b 0, zW (oF1 wg b o S), zF (oF1 wg b o S)) t = zS S t := (fu9_ne q).trans (by rw [oF1_w.2.1])
      rw [e] at ht; exact ht
/-- what a step tells -/
def OUT9 (ws : Nat → Int32) (wg : Nat → Nat → Int32) (wl : Nat → Nat → Int64) (rg : Nat → Nat → Int32) (R : Option Int × S9) (sg : Nat → Int32) (gm : Nat → Nat → Int32) : Prop :=
  ∃ S2, RR wg wl S2 sg gm ∧ WF9 S2 ∧ ((1 ≤ (sg 51).toInt ∧ R = (none, S2)) ∨ ((sg 51).toInt = 0 ∧ (((sg 63).toInt = 0 ∧ R = (some (sg 74).toInt, S2)) ∨ (1 ≤ (sg 63).toInt ∧ ∃ F2, IV9 ws wg wl rg R S2 sg gm F2))))
/-- the rows of the levels below are as they were, by rows -/
theorem KF_k (h4 : gm2 64 j = gm 64 j) (h5 : gm2 65 j = gm 65 j) (h6 : gm2 66 j = gm 66 j) (h7 : gm2 67 j = gm 67 j) (h8 : gm2 68 j = gm 68 j) (h9 : gm2 69 j = gm 69 j) (hv : SV4 gm gm2) : KF9 gm gm2 j := ⟨h4, h5, h6, h7, h8, h9, fun i _ _ => ⟨by rw [hv.1], by rw [hv.2.1]⟩, fun i _ _ => ⟨by rw [hv.2.2.1], by rw [hv.2.2.2]⟩⟩
theorem KF_s {t i : Nat} (h4 : gm2 64 j = gm 64 j) (h5 : gm2 65 j = gm 65 j) (h6 : gm2 66 j = gm 66 j) (h7 : gm2 67 j = gm 67 j) (h8 : gm2 68 j = gm 68 j) (h9 : gm2 69 j = gm 69 j) (hv : KPS gm gm2 sl) (hsl : sl = 5 * t + i) (hi : i ≤ 4) (hj : ¬ j = t) : KF9 gm gm2 j :=
  ⟨h4, h5, h6, h7, h8, h9, fun k h1 h2 => hv.1 k (by omega), fun k h1 h2 => hv.2 k (by omega)⟩
/-- depends -/
theorem oDe_0 (h : wl 6 b = 0) : oDe ws wg wl (oMK ws wg wl n) b S = (some (-1), S) := by unfold oDe; rw [if_pos h]
theorem oDe_g (hn : iv 0 80 (ws 12)) (h : ¬ wl 6 b = 0) : oDe ws wg wl (oMK ws wg wl n) b S = gtR ws wg wl n (caN ws wg wl (wl 6 b)) S := by unfold oDe; rw [if_neg h, gt_nm hn]
theorem oFa_g (hn : iv 0 80 (ws 12)) (h : ¬ wl 7 b = 0) : oFa ws wg wl (oMK ws wg wl n) b S = gtR ws wg wl n (caN ws wg wl (wl 7 b)) S := by unfold oFa; rw [if_neg h, gt_nm hn]
theorem fP0 (h : FM9 wg wl rg gm ob j f) (hp : (gm 65 j).toInt = (p : Int)) : f = (fB f, p, fI f, fF f, fO f, fV f, fA f) := by
  have : fP f = p := by have := h.2.1; omega
  obtain ⟨a, b, c, d, e, g, k⟩ := f
  have : b = p := this
  subst this; rfl
theorem FM_1 (h : FM9 wg wl rg gm ob j f) (hp : (gm 65 j).toInt = 0) (hk : ∀ k, k = 64 ∨ k = 66 ∨ k = 68 → gm2 k j = gm k j) (h5 : (gm2 65 j).toInt = 1) : FM9 wg wl rg gm2 ob j (fB f, 1, fI f, fF f, fO f, fV f, fA f) := by
  obtain ⟨a1, a2, a3, a4, a5, a6, a7, a8, a9, a10, a11, a12⟩ := h
  have e0 : fP f = 0 := by omega
  exact ⟨by rw [hk 64 (Or.inl rfl)]; exact a1, h5, by rw [hk 66 (Or.inr (Or.inl rfl))]; exact a3, by rw [hk 68 (Or.inr (Or.inr rfl))]; exact a4, a5, fun _ => a6 (by omega), a7, fun q => absurd q (by show ¬ 2 ≤ 1; omega), fun q => absurd q (by show ¬ 3 ≤ 1; omega), fun q => absurd q (by show ¬ 1 = 3; omega), fun q => absurd q (by show ¬ 1 = 4; omega), by show 1 ≤ 4; omega⟩
theorem FM_2 (h : FM9 wg wl rg gm ob j f) (hp : (gm 65 j).toInt = 1) (h4 : gm2 64 j = gm 64 j) (h5 : (gm2 65 j).toInt = 2) (h6 : gm2 66 j = gm 66 j) (h8 : (gm2 68 j).toInt = fo) (hfo : fo = -1 ∨ (0 ≤ fo ∧ fo < (ob.length : Int) ∧ ¬ wl 7 (fB f) = 0)) (hc : ¬ ((wg 30 (fB f)).toInt = -1 ∧ wl 7 (fB f) = 0)) : FM9 wg wl rg gm2 ob j (fB f, 2, fI f, fo, fO f, fV f, fA f) := by
  obtain ⟨a1, a2, a3, a4, a5, a6, a7, a8, a9, a10, a11, a12⟩ := h
  exact ⟨by rw [h4]; exact a1, h5, by rw [h6]; exact a3, h8, hfo.imp id (fun q => ⟨q.1, q.2.1⟩), fun q => absurd q (by show ¬ 2 ≤ 1; omega), fun q => (hfo.resolve_left q).2.2, fun _ => hc, fun q => absurd q (by show ¬ 3 ≤ 2; omega), fun q => absurd q (by show ¬ 2 = 3; omega), fun q => absurd q (by show ¬ 2 = 4; omega), by show 2 ≤ 4; omega⟩
theorem FM_3 (h : FM9 wg wl rg gm ob j f) (hp : (gm 65 j).toInt = 2) (h4 : gm2 64 j = gm 64 j) (h5 : (gm2 65 j).toInt = 3) (h6 : (gm2 66 j).toInt = 0) (h7 : (gm2 67 j).toInt = 0) (h8 : gm2 68 j = gm 68 j) : FM9 wg wl rg gm2 ob j (fB f, 3, 0, fF f, fO f, [], []) := by
  obtain ⟨a1, a2, a3, a4, a5, a6, a7, a8, a9, a10, a11, a12⟩ := h
  exact ⟨by rw [h4]; exact a1, h5, h6, by rw [h8]; exact a4, a5, fun q => absurd q (by show ¬ 3 ≤ 1; omega), a7, fun _ => a8 (by omega), fun _ => ⟨h7, fun _ => PT_nil⟩, fun _ => ⟨rfl, Nat.zero_le _, fun i hi => absurd hi (Nat.not_lt_zero _)⟩, fun q => absurd q (by show ¬ 3 = 4; omega), by show 3 ≤ 4; omega⟩
/-- an arg is there -/
theorem FM_3s {V : List Int} (h : FM9 wg wl rg gm ob j f) (hp : (gm 65 j).toInt = 3) (hx : fI f < (wg 41 (3 * fB f)).toNatClampNeg) (h44 : (wg 41 (3 * fB f)).toNatClampNeg ≤ 4) (h4 : gm2 64 j = gm 64 j) (h5 : gm2 65 j = gm 65 j) (h6 : (gm2 66 j).toInt = (gm 66 j).toInt + 1) (h7 : (gm2 67 j).toInt = 0) (h8 : gm2 68 j = gm 68 j) (hs : sl = 5 * j + fI f) (hk : KPS gm gm2 sl)
    (hV : VR9 wg wl rg ob (ctE wg (wg 57 (128 * (3 * fB f) + fI f)).toNatClampNeg) V (gm2 70 sl) (gm2 71 sl)) (hI : ITS9 wg rg gm2 (ctE wg (wg 57 (128 * (3 * fB f) + fI f)).toNatClampNeg) sl V) : FM9 wg wl rg gm2 ob j (fB f, 3, fI f + 1, fF f, fO f, fV f ++ [V], []) := by
  obtain ⟨a1, a2, a3, a4, a5, a6, a7, a8, a9, a10, a11, a12⟩ := h
  have e3 : fP f = 3 := by omega
  obtain ⟨b1, b2, b3⟩ := a10 e3
  subst hs
  refine ⟨by rw [h4]; exact a1, by rw [h5]; exact hp, by rw [h6, a3]; rfl, by rw [h8]; exact a4, a5, fun q => absurd q (by show ¬ 3 ≤ 1; omega), a7, fun _ => a8 (by omega), fun _ => ⟨h7, fun _ => PT_nil⟩, fun _ => ⟨by show (fV f ++ [V]).length = fI f + 1; rw [List.length_append, b1]; rfl, by show fI f + 1 ≤ 4; omega, ?_⟩, fun q => absurd q (by show ¬ 3 = 4; omega), by show 3 ≤ 4; omega⟩
  intro i hi
  have hi : i < fI f + 1 := hi
  show VR9 wg wl rg ob (ctE wg (wg 57 (128 * (3 * fB f) + i)).toNatClampNeg) (((fV f ++ [V])[i]?).getD []) _ _ ∧ ITS9 wg rg gm2 (ctE wg (wg 57 (128 * (3 * fB f) + i)).toNatClampNeg) _ (((fV f ++ [V])[i]?).getD [])
  by_cases q : i < fI f
  · rw [List.getElem?_append_left (by omega)]
    have q1 := FV_m (gm2 := gm2) (ob2 := ob) b3 (Nat.le_refl _) (fun k hk2 => hk.1 _ (by omega)) (fun k m hk2 hm => hk.2 _ (by omega)) i q
    exact q1
  · have e : i = fI f := by omega
    subst e
    rw [List.getElem?_append_right (by omega), b1, Nat.sub_self]
    exact ⟨hV, hI⟩
/-- an item is waited for -/
theorem FM_w (h : FM9 wg wl rg gm ob j f) (hp : 3 ≤ (gm 65 j).toInt) (hx : fI f < (wg 41 (fQ f)).toNatClampNeg) (h4 : gm2 64 j = gm 64 j) (h5 : gm2 65 j = gm 65 j) (h6 : gm2 66 j = gm 66 j) (h7 : (gm2 67 j).toInt = (ac2.length : Int)) (h8 : gm2 68 j = gm 68 j) (h9 : gm2 69 j = gm 69 j) (hs : sl = 5 * j + (if fP f = 3 then fI f else 4)) (hk : KPS gm gm2 sl) (hP : PT9 wg wl rg gm2 ob (ctE wg (fE wg f)) sl ac2) : FM9 wg wl rg gm2 ob j (fB f, fP f, fI f, fF f, fO f, fV f, ac2) := by
  obtain ⟨a1, a2, a3, a4, a5, a6, a7, a8, a9, a10, a11, a12⟩ := h
  subst hs
  refine ⟨by rw [h4]; exact a1, by rw [h5]; exact a2, by rw [h6]; exact a3, by rw [h8]; exact a4, a5, a6, a7, a8, fun _ => ⟨h7, fun _ => hP⟩, fun q => ?_, fun q => by rw [h9]; exact a11 q, a12⟩
  have q : fP f = 3 := q
  obtain ⟨b1, b2, b3⟩ := a10 q
  rw [if_pos q] at hk
  exact ⟨b1, b2, FV_m b3 (Nat.le_refl _) (fun k hk2 => hk.1 _ (by have hk2 : k < fI f := hk2; omega)) (fun k m hk2 hm => hk.2 _ (by have hk2 : k < fI f := hk2; omega))⟩
/-- the object is there -/
theorem FM_4 (h : FM9 wg wl rg gm ob j f) (hp : (gm 65 j).toInt = 3) (h4 : gm2 64 j = gm 64 j) (h5 : (gm2 65 j).toInt = 4) (h6 : (gm2 66 j).toInt = 0) (h7 : (gm2 67 j).toInt = 0) (h8 : gm2 68 j = gm 68 j) (h9 : (gm2 69 j).toInt = o) (ho : 0 ≤ o ∧ o < (ob2.length : Int)) (hl : ob.length ≤ ob2.length) : FM9 wg wl rg gm2 ob2 j (fB f, 4, 0, fF f, o, [], []) := by
  obtain ⟨a1, a2, a3, a4, a5, a6, a7, a8, a9, a10, a11, a12⟩ := h
  exact ⟨by rw [h4]; exact a1, h5, h6, by rw [h8]; exact a4, a5.imp id (fun q => ⟨q.1, Int.lt_of_lt_of_le q.2 (Int.ofNat_le.mpr hl)⟩), fun q => absurd q (by show ¬ 4 ≤ 1; omega), a7, fun _ => a8 (by omega), fun _ => ⟨h7, fun _ => PT_nil⟩, fun q => absurd q (by show ¬ 4 = 3; omega), fun _ => ⟨h9, ho⟩, Nat.le_refl _⟩
/-- a set is done -/
theorem FM_4s (h : FM9 wg wl rg gm ob j f) (hp : (gm 65 j).toInt = 4) (h4 : gm2 64 j = gm 64 j) (h5 : gm2 65 j = gm 65 j) (h6 : (gm2 66 j).toInt = (gm 66 j).toInt + 1) (h7 : (gm2 67 j).toInt = 0) (h8 : gm2 68 j = gm 68 j) (h9 : gm2 69 j = gm 69 j) (hl : ob.length ≤ ob2.length) : FM9 wg wl rg gm2 ob2 j (fB f, 4, fI f + 1, fF f, fO f, [], []) := by
  obtain ⟨a1, a2, a3, a4, a5, a6, a7, a8, a9, a10, a11, a12⟩ := h
  have q4 := a11 (by omega)
  exact ⟨by rw [h4]; exact a1, by rw [h5]; exact hp, by rw [h6, a3]; rfl, by rw [h8]; exact a4, a5.imp id (fun q => ⟨q.1, Int.lt_of_lt_of_le q.2 (Int.ofNat_le.mpr hl)⟩), fun q => absurd q (by show ¬ 4 ≤ 1; omega), a7, fun _ => a8 (by omega), fun _ => ⟨h7, fun _ => PT_nil⟩, fun q => absurd q (by show ¬ 4 = 3; omega), fun _ => ⟨by rw [h9]; exact q4.1, q4.2.1, by have := q4.2.2; show fO f < _; omega⟩, Nat.le_refl _⟩
/-- the steps of what is left -/
theorem he_3p {t : Nat} (hx : ix < (wg 41 (3 * b)).toNatClampNeg) (h : ∀ n, reW ws wg wl n (ctE wg (wg 57 (128 * (3 * b) + ix)).toNatClampNeg) acc S = bd9 (oMK ws wg wl n t S) (fun o S2 => reW ws wg wl n (ctE wg (wg 57 (128 * (3 * b) + ix)).toNatClampNeg) (ac2 ++ [dlI wg (ctE wg (wg 57 (128 * (3 * b) + ix)).toNatClampNeg) o]) S2)) (n : Nat) : frC ws wg wl n (b, 3, ix, fo, o, vs, acc) S = bd9 (oMK ws wg wl n t S) (fun u S => frC ws wg wl n (dlF wg (b, 3, ix, fo, o, vs, ac2) u) S) := by
  rw [fr_3 hx, h n, bd9_a]
  congr 1
  funext u S3
  show _ = frC ws wg wl n (b, 3, ix, fo, o, vs, ac2 ++ [dlI wg (ctE wg (wg 57 (128 * (3 * b) + ix)).toNatClampNeg) u]) S3
  rw [fr_3 hx]
theorem he_4p {t : Nat} (hx : ix < (wg 41 (3 * b + 1)).toNatClampNeg) (h : ∀ n, reW ws wg wl n (ctE wg (wg 57 (128 * (3 * b + 1) + ix)).toNatClampNeg) acc S = bd9 (oMK ws wg wl n t S) (fun o S2 => reW ws wg wl n (ctE wg (wg 57 (128 * (3 * b + 1) + ix)).toNatClampNeg) (ac2 ++ [dlI wg (ctE wg (wg 57 (128 * (3 * b + 1) + ix)).toNatClampNeg) o]) S2)) (n : Nat) : frC ws wg wl n (b, 4, ix, fo, o, vs, acc) S = bd9 (oMK ws wg wl n t S) (fun u S => frC ws wg wl n (dlF wg (b, 4, ix, fo, o, vs, ac2) u) S) := by
  rw [fr_4 hx, h n, bd9_a]
  congr 1
  funext u S3
  show _ = frC ws wg wl n (b, 4, ix, fo, o, vs, ac2 ++ [dlI wg (ctE wg (wg 57 (128 * (3 * b + 1) + ix)).toNatClampNeg) u]) S3
  rw [fr_4 hx]
theorem he_0p {t : Nat} (h : ∀ n, oDe ws wg wl (oMK ws wg wl n) b S = oMK ws wg wl n t S) (n : Nat) : frC ws wg wl n (b, 0, ix, fo, o, vs, acc) S = bd9 (oMK ws wg wl n t S) (fun u S => frC ws wg wl n (dlF wg (b, 1, ix, fo, o, vs, acc) u) S) := by
  rw [fr_0, h n]; rfl
theorem he_1p {t : Nat} (hc : ¬ wl 7 b = 0) (h : ∀ n, oFa ws wg wl (oMK ws wg wl n) b S = oMK ws wg wl n t S) (n : Nat) : frC ws wg wl n (b, 1, ix, fo, o, vs, acc) S = bd9 (oMK ws wg wl n t S) (fun u S => frC ws wg wl n (dlF wg (b, 2, ix, fo, o, vs, acc) u) S) := by
  rw [fr_1]; unfold r1; rw [if_neg (fun q => hc q.2), h n]; rfl
theorem he_1s (hc : ¬ ((wg 30 b).toInt = -1 ∧ wl 7 b = 0)) {u : Int} (h : ∀ n, oFa ws wg wl (oMK ws wg wl n) b S = (some u, S)) (n : Nat) : frC ws wg wl n (b, 1, ix, fo, o, vs, acc) S = frC ws wg wl n (b, 2, ix, u, o, vs, acc) S := by
  rw [fr_1]; unfold r1; rw [if_neg hc, h n]; rfl
theorem oFa_0 (h : wl 7 b = 0) : oFa ws wg wl (oMK ws wg wl n) b S = (some (-1), S) := by unfold oFa; rw [if_pos h]
end ST9
end
section
/-- what gets tells -/
abbrev FGT (ws : Nat → Int32) (wg : Nat → Nat → Int32) (wl : Nat → Nat → Int64) (S : S9) (b : Int32) (sg : Nat → Int32) (gm : Nat → Nat → Int32) (sg2 : Nat → Int32) (gm2 : Nat → Nat → Int32) (r : Int32) : Prop := (r.toInt = 0 ∧ 1 ≤ (sg2 51).toInt ∧ RR wg wl S sg2 gm2 ∧ ∀ n9, gtR ws wg wl n9 b.toInt S = (none, S)) ∨ (r.toInt = 1 ∧ (sg2 51).toInt = 0 ∧ RR wg wl S sg2 gm2 ∧ ∀ n9, gtR ws wg wl n9 b.toInt S = (some (sg2 74).toInt, S)) ∨ (r.toInt = 0 ∧ (sg2 51).toInt = 0 ∧ 0 ≤ b.toInt ∧ RR wg wl (oBe b.toNatClampNeg S) sg2 gm2 ∧ ¬ zS S b.toNatClampNeg = 1 ∧ (∀ n9, gtR ws wg wl n9 b.toInt S = oMK ws wg wl n9 b.toNatClampNeg S) ∧ gm2 64 = upd (gm 64) (sg 63).toNatClampNeg b ∧ gm2 68 = upd (gm 68) (sg 63).toNatClampNeg (-1))
section SU9
variable {ws : Nat → Int32} {wg rg gm gm1 gm2 : Nat → Nat → Int32} {wl : Nat → Nat → Int64} {rs sg sg1 sg2 : Nat → Int32} {lg : Nat → Nat → Int64} {S S2 : S9} {b j sl : Nat} {R : Option Int × S9} {F : Nat → Fr9}
theorem OUT_x (h : IV9 ws wg wl rg R S sg gm F) (he : ∀ n, frC ws wg wl n (F (TOPn sg)) S = (none, S2)) (hR : RR wg wl S2 sg2 gm2) (hW : WF9 S2) (h5 : 1 ≤ (sg2 51).toInt) : OUT9 ws wg wl rg R sg2 gm2 := ⟨S2, hR, hW, Or.inl ⟨h5, IV_n h he⟩⟩
theorem IV_m (h : IV9 ws wg wl rg R S sg gm F) (hh : 1 ≤ (sg 63).toInt) : FM9 wg wl rg gm (zO S) (TOPn sg) (F (TOPn sg)) := h.2.2.1 _ (by rw [TOP_e hh]; omega)
/-- phase 0 is over -/
theorem OUT_01 {t : Nat} {v : Int32} {u : Int} (h : IV9 ws wg wl rg R S sg gm F) (hh : 1 ≤ (sg 63).toInt) (hp : (gm 65 (TOPn sg)).toInt = 0) (hd : ∀ n, oDe ws wg wl (oMK ws wg wl n) (gm 64 (TOPn sg)).toNatClampNeg S = (some u, S)) (hR : RR wg wl S sg2 gm2) (h5 : (sg2 51).toInt = 0) (h63 : sg2 63 = sg 63) (ht : t = TOPn sg) (e65 : gm2 65 = upd (gm 65) t v) (ev : v.toInt = 1) (e64 : gm2 64 = gm 64) (e66 : gm2 66 = gm 66) (e67 : gm2 67 = gm 67) (e68 : gm2 68 = gm 68) (e69 : gm2 69 = gm 69) (hs : SV4 gm gm2) : OUT9 ws wg wl rg R sg2 gm2 := by
  subst ht
  have hm := IV_m h hh
  refine ⟨S, hR, h.1, Or.inr ⟨h5, Or.inr ⟨by rw [h63]; exact hh, _, IV_top h hh h63 h.1 (Nat.le_refl _) (fun j hj => KF_k (by rw [e64]) (by rw [e65, upd_ne (by omega)]) (by rw [e66]) (by rw [e67]) (by rw [e68]) (by rw [e69]) hs) (FM_1 hm hp (fun k hk => ?_) (by rw [e65, upd_at]; exact ev)) ?_⟩⟩⟩
  · rcases hk with rfl | rfl | rfl
    · rw [e64]
    · rw [e66]
    · rw [e68]
  · rw [hm.1] at hd
    conv => lhs; rw [fP0 (p := 0) hm hp]
    rw [fr_0, hd, fr_1]; rfl
theorem FG_0 {b : Int32} {r : Int32} (h : FGT ws wg wl S b sg1 gm1 sg2 gm2 r) (hr : r.toInt = 0) : (1 ≤ (sg2 51).toInt ∧ RR wg wl S sg2 gm2 ∧ ∀ n, gtR ws wg wl n b.toInt S = (none, S)) ∨ ((sg2 51).toInt = 0 ∧ RR wg wl (oBe b.toNatClampNeg S) sg2 gm2 ∧ ¬ zS S b.toNatClampNeg = 1 ∧ (∀ n, gtR ws wg wl n b.toInt S = oMK ws wg wl n b.toNatClampNeg S) ∧ gm2 64 = upd (gm1 64) (sg1 63).toNatClampNeg b ∧ gm2 68 = upd (gm1 68) (sg1 63).toNatClampNeg (-1)) := by
  rcases h with q | q | q
  · exact Or.inl ⟨q.2.1, q.2.2.1, q.2.2.2⟩
  · omega
  · exact Or.inr ⟨q.2.1, q.2.2.2.1, q.2.2.2.2.1, q.2.2.2.2.2.1, q.2.2.2.2.2.2.1, q.2.2.2.2.2.2.2⟩
theorem FG_1 {b : Int32} {r : Int32} (h : FGT ws wg wl S b sg1 gm1 sg2 gm2 r) (hr : ¬ r.toInt = 0) : (sg2 51).toInt = 0 ∧ RR wg wl S sg2 gm2 ∧ ∀ n, gtR ws wg wl n b.toInt S = (some (sg2 74).toInt, S) := by
  rcases h with q | q | q
  · exact absurd q.1 hr
  · exact q.2
  · exact absurd q.1 hr
/-- what a push does to the pile's rows -/
theorem GT_p {r : Int32} (h : GETS sg1 gm1 sg2 gm2 r) (hr : r.toInt = 0) (h5 : (sg2 51).toInt = 0) : (sg2 63).toInt = (sg1 63).toInt + 1 ∧ (sg1 63).toInt ≤ 79 ∧ gm2 65 = upd (gm1 65) (sg1 63).toNatClampNeg 0 ∧ gm2 66 = upd (gm1 66) (sg1 63).toNatClampNeg 0 ∧ gm2 67 = upd (gm1 67) (sg1 63).toNatClampNeg 0 ∧ gm2 69 = upd (gm1 69) (sg1 63).toNatClampNeg (-1) := by
  rcases h with q | ⟨_, q | ⟨b, q⟩⟩
  · omega
  · omega
  · exact ⟨q.1, q.2.1, q.2.2.2.1, q.2.2.2.2.1, q.2.2.2.2.2.1, q.2.2.2.2.2.2.1⟩
/-- depends fails, or is waited for -/
theorem OUT_0g {t : Nat} {v b r : Int32} (h : IV9 ws wg wl rg R S sg gm F) (hh : 1 ≤ (sg 63).toInt) (hp : (gm 65 (TOPn sg)).toInt = 0) (hn : iv 0 80 (ws 12)) (h6 : ¬ wl 6 (gm 64 (TOPn sg)).toNatClampNeg = 0) (hb : b.toInt = caN ws wg wl (wl 6 (gm 64 (TOPn sg)).toNatClampNeg)) (hg : FGT ws wg wl S b sg1 gm1 sg2 gm2 r) (hG : GETS sg1 gm1 sg2 gm2 r) (hr : r.toInt = 0) (h63 : sg1 63 = sg 63) (ht : t = TOPn sg) (e65 : gm1 65 = upd (gm 65) t v) (ev : v.toInt = 1) (e64 : gm1 64 = gm 64) (e66 : gm1 66 = gm 66) (e67 : gm1 67 = gm 67) (e68 : gm1 68 = gm 68) (e69 : gm1 69 = gm 69) (hs : SV4 gm gm2) : OUT9 ws wg wl rg R sg2 gm2 := by
  subst ht
  have hm := IV_m h hh
  have ef := fP0 (p := 0) hm hp
  have hde : ∀ n, oDe ws wg wl (oMK ws wg wl n) (fB (F (TOPn sg))) S = gtR ws wg wl n b.toInt S := fun n => by rw [← hm.1, oDe_g hn h6, hb]
  have e := TOP_e hh
  rcases FG_0 hg hr with ⟨q1, q2, q3⟩ | ⟨q1, q2, q3, q4, q5, q6⟩
  · refine OUT_x h (fun n => ?_) q2 h.1 q1
    rw [ef, fr_0, hde, q3]; rfl
  · obtain ⟨g1, g2, g3, g4, g5, g6⟩ := GT_p hG hr q1
    rw [h63] at g1 g2 g3 g4 g5 g6 q5 q6
    refine ⟨_, q2, WF_be h.1, Or.inr ⟨q1, Or.inr ⟨by omega, ?_⟩⟩⟩
    refine IV_push (f := (fB (F (TOPn sg)), 1, fI (F (TOPn sg)), fF (F (TOPn sg)), fO (F (TOPn sg)), fV (F (TOPn sg)), fA (F (TOPn sg)))) h hh g1 g2 (fun j hj => KF_k (by rw [q5, upd_ne (by omega), e64]) (by rw [g3, upd_ne (by omega), e65, upd_ne (by omega)]) (by rw [g4, upd_ne (by omega), e66]) (by rw [g5, upd_ne (by omega), e67]) (by rw [q6, upd_ne (by omega), e68]) (by rw [g6, upd_ne (by omega), e69]) hs) (FM_1 hm hp (fun k hk => ?_) (by rw [g3, upd_ne (by omega), e65, upd_at]; exact ev)) (Or.inl rfl) q3 (by rw [q5, upd_at]) (by rw [g3, upd_at]; rfl) (by rw [g4, upd_at]; rfl) (by rw [q6, upd_at]; rfl) (fun n => ?_)
    · rcases hk with rfl | rfl | rfl
      · rw [q5, upd_ne (by omega), e64]
      · rw [g4, upd_ne (by omega), e66]
      · rw [q6, upd_ne (by omega), e68]
    · have q := he_0p (ws := ws) (wg := wg) (wl := wl) (b := fB (F (TOPn sg))) (ix := fI (F (TOPn sg))) (fo := fF (F (TOPn sg))) (o := fO (F (TOPn sg))) (vs := fV (F (TOPn sg))) (acc := fA (F (TOPn sg))) (S := S) (fun n => (hde n).trans (q4 n)) n
      rw [← ef] at q; exact q
/-- phase 1 is over -/
theorem OUT_14 (h : IV9 ws wg wl rg R S sg gm F) (hh : 1 ≤ (sg 63).toInt) (hp : (gm 65 (TOPn sg)).toInt = 1) (h4 : (wg 30 (gm 64 (TOPn sg)).toNatClampNeg).toInt = -1 ∧ wl 7 (gm 64 (TOPn sg)).toNatClampNeg = 0) (hR : RR wg wl S sg2 gm2) (h5 : 1 ≤ (sg2 51).toInt) : OUT9 ws wg wl rg R sg2 gm2 := by
  have hm := IV_m h hh
  refine OUT_x h (fun n => ?_) hR h.1 h5
  rw [fP0 (p := 1) hm hp, fr_1, ← hm.1, r1_4 h4]
theorem OUT_12 {t : Nat} {v : Int32} {u : Int} (h : IV9 ws wg wl rg R S sg gm F) (hh : 1 ≤ (sg 63).toInt) (hp : (gm 65 (TOPn sg)).toInt = 1) (hc : ¬ ((wg 30 (gm 64 (TOPn sg)).toNatClampNeg).toInt = -1 ∧ wl 7 (gm 64 (TOPn sg)).toNatClampNeg = 0)) (hd : ∀ n, oFa ws wg wl (oMK ws wg wl n) (gm 64 (TOPn sg)).toNatClampNeg S = (some u, S)) (hu : u = -1 ∨ (0 ≤ u ∧ u < ((zO S).length : Int) ∧ ¬ wl 7 (gm 64 (TOPn sg)).toNatClampNeg = 0)) (hR : RR wg wl S sg2 gm2) (h5 : (sg2 51).toInt = 0) (h63 : sg2 63 = sg 63) (ht : t = TOPn sg) (e65 : gm2 65 = upd (gm 65) t v) (ev : v.toInt = 2) (e64 : gm2 64 = gm 64) (e66 : gm2 66 = gm 66) (e67 : gm2 67 = gm 67) (e68 : ∀ j, j < TOPn sg → gm2 68 j = gm 68 j) (e68t : (gm2 68 (TOPn sg)).toInt = u) (e69 : gm2 69 = gm 69) (hs : SV4 gm gm2) : OUT9 ws wg wl rg R sg2 gm2 := by
  subst ht
  have hm := IV_m h hh
  rw [hm.1] at hc hd hu
  refine ⟨S, hR, h.1, Or.inr ⟨h5, Or.inr ⟨by rw [h63]; exact hh, _, IV_top h hh h63 h.1 (Nat.le_refl _) (fun j hj => KF_k (by rw [e64]) (by rw [e65, upd_ne (by omega)]) (by rw [e66]) (by rw [e67]) (e68 j hj) (by rw [e69]) hs) (FM_2 (fo := u) hm hp (by rw [e64]) (by rw [e65, upd_at]; exact ev) (by rw [e66]) e68t hu hc) ?_⟩⟩⟩
  conv => lhs; rw [fP0 (p := 1) hm hp]
  exact he_1s hc hd _
theorem OUT_1g {t : Nat} {v b r : Int32} (h : IV9 ws wg wl rg R S sg gm F) (hh : 1 ≤ (sg 63).toInt) (hp : (gm 65 (TOPn sg)).toInt = 1) (hn : iv 0 80 (ws 12)) (h7 : ¬ wl 7 (gm 64 (TOPn sg)).toNatClampNeg = 0) (hb : b.toInt = caN ws wg wl (wl 7 (gm 64 (TOPn sg)).toNatClampNeg)) (hg : FGT ws wg wl S b sg1 gm1 sg2 gm2 r) (hG : GETS sg1 gm1 sg2 gm2 r) (hr : r.toInt = 0) (h63 : sg1 63 = sg 63) (ht : t = TOPn sg) (e65 : gm1 65 = upd (gm 65) t v) (ev : v.toInt = 2) (e64 : gm1 64 = gm 64) (e66 : gm1 66 = gm 66) (e67 : gm1 67 = gm 67) (e68 : gm1 68 = gm 68) (e69 : gm1 69 = gm 69) (hs : SV4 gm gm2) : OUT9 ws wg wl rg R sg2 gm2 := by
  subst ht
  have hm := IV_m h hh
  have ef := fP0 (p := 1) hm hp
  have hde : ∀ n, oFa ws wg wl (oMK ws wg wl n) (fB (F (TOPn sg))) S = gtR ws wg wl n b.toInt S := fun n => by rw [← hm.1, oFa_g hn h7, hb]
  have e := TOP_e hh
  rw [hm.1] at h7
  have ef1 : fF (F (TOPn sg)) = -1 := hm.2.2.2.2.2.1 (by have := hm.2.1; omega)
  rcases FG_0 hg hr with ⟨q1, q2, q3⟩ | ⟨q1, q2, q3, q4, q5, q6⟩
  · refine OUT_x h (fun n => ?_) q2 h.1 q1
    rw [ef, fr_1]; unfold r1; rw [if_neg (fun q => h7 q.2), hde, q3]; rfl
  · obtain ⟨g1, g2, g3, g4, g5, g6⟩ := GT_p hG hr q1
    rw [h63] at g1 g2 g3 g4 g5 g6 q5 q6
    refine ⟨_, q2, WF_be h.1, Or.inr ⟨q1, Or.inr ⟨by omega, ?_⟩⟩⟩
    refine IV_push (f := (fB (F (TOPn sg)), 2, fI (F (TOPn sg)), fF (F (TOPn sg)), fO (F (TOPn sg)), fV (F (TOPn sg)), fA (F (TOPn sg)))) h hh g1 g2 (fun j hj => KF_k (by rw [q5, upd_ne (by omega), e64]) (by rw [g3, upd_ne (by omega), e65, upd_ne (by omega)]) (by rw [g4, upd_ne (by omega), e66]) (by rw [g5, upd_ne (by omega), e67]) (by rw [q6, upd_ne (by omega), e68]) (by rw [g6, upd_ne (by omega), e69]) hs) (FM_2 hm hp (by rw [q5, upd_ne (by omega), e64]) (by rw [g3, upd_ne (by omega), e65, upd_at]; exact ev) (by rw [g4, upd_ne (by omega), e66]) (by rw [q6, upd_ne (by omega), e68]; exact hm.2.2.2.1) (Or.inl ef1) (fun q => h7 q.2)) (Or.inr (Or.inl ⟨rfl, ef1, h7⟩)) q3 (by rw [q5, upd_at]) (by rw [g3, upd_at]; rfl) (by rw [g4, upd_at]; rfl) (by rw [q6, upd_at]; rfl) (fun n => ?_)
    have q := he_1p (ws := ws) (wg := wg) (wl := wl) (b := fB (F (TOPn sg))) (ix := fI (F (TOPn sg))) (fo := fF (F (TOPn sg))) (o := fO (F (TOPn sg))) (vs := fV (F (TOPn sg))) (acc := fA (F (TOPn sg))) (S := S) h7 (fun n => (hde n).trans (q4 n)) n
    rw [← ef] at q; exact q
/-- phase 2 is over -/
theorem OUT_23 {t : Nat} {v : Int32} (h : IV9 ws wg wl rg R S sg gm F) (hh : 1 ≤ (sg 63).toInt) (hp : (gm 65 (TOPn sg)).toInt = 2) (h0 : (gm 66 (TOPn sg)).toInt = 0 ∧ (gm 67 (TOPn sg)).toInt = 0) (hR : RR wg wl S sg2 gm2) (h5 : (sg2 51).toInt = 0) (h63 : sg2 63 = sg 63) (ht : t = TOPn sg) (e65 : gm2 65 = upd (gm 65) t v) (ev : v.toInt = 3) (e64 : gm2 64 = gm 64) (e66 : gm2 66 = gm 66) (e67 : gm2 67 = gm 67) (e68 : gm2 68 = gm 68) (e69 : gm2 69 = gm 69) (hs : SV4 gm gm2) : OUT9 ws wg wl rg R sg2 gm2 := by
  subst ht
  have hm := IV_m h hh
  refine ⟨S, hR, h.1, Or.inr ⟨h5, Or.inr ⟨by rw [h63]; exact hh, _, IV_top h hh h63 h.1 (Nat.le_refl _) (fun j hj => KF_k (by rw [e64]) (by rw [e65, upd_ne (by omega)]) (by rw [e66]) (by rw [e67]) (by rw [e68]) (by rw [e69]) hs) (FM_3 hm hp (by rw [e64]) (by rw [e65, upd_at]; exact ev) (by rw [e66]; exact h0.1) (by rw [e67]; exact h0.2) (by rw [e68])) ?_⟩⟩⟩
  conv => lhs; rw [fP0 (p := 2) hm hp]
  rw [fr_2]
  have q := fr_3e (ws := ws) (wg := wg) (wl := wl) (n := 80 - TOPn sg) (b := fB (F (TOPn sg))) (fo := fF (F (TOPn sg))) (o := fO (F (TOPn sg))) (ix := 0) (vs := []) (S := S)
  exact q
/-- what workedOut does to the pile's rows -/
theorem WO_p {lim : Int} {r : Int32} (h : WOUT sg gm lim sg1 gm1 r) (hr : r.toInt = 0) (h5 : (sg1 51).toInt = 0) : (sg1 63).toInt = (sg 63).toInt + 1 ∧ (sg 63).toInt ≤ 79 ∧ gm1 65 = upd (gm 65) (sg 63).toNatClampNeg 0 ∧ gm1 66 = upd (gm 66) (sg 63).toNatClampNeg 0 ∧ (∀ j, ¬ j = TOPn sg → ¬ j = (sg 63).toNatClampNeg → gm1 67 j = gm 67 j) ∧ gm1 69 = upd (gm 69) (sg 63).toNatClampNeg (-1) := by
  rcases h with q | ⟨_, q | ⟨b, g67, q, q67, _⟩⟩
  · omega
  · omega
  · exact ⟨q.1, q.2.1, q.2.2.2.1, q.2.2.2.2.1, fun j h1 h2 => by rw [q.2.2.2.2.2.1, upd_ne h2]; exact q67 j h1, q.2.2.2.2.2.2.1⟩
/-- an arg, a set: it fails, or waits -/
theorem OUT_w {lim : Int} {r : Int32} {a : Nat} (h : IV9 ws wg wl rg R S sg gm F) (hh : 1 ≤ (sg 63).toInt) (hp : 3 ≤ (gm 65 (TOPn sg)).toInt) (ha : a = (wg 57 (128 * (3 * (gm 64 (TOPn sg)).toNatClampNeg + ((gm 65 (TOPn sg)).toNatClampNeg - 3)) + (gm 66 (TOPn sg)).toNatClampNeg)).toNatClampNeg) (hx : (gm 66 (TOPn sg)).toNatClampNeg < (wg 41 (3 * (gm 64 (TOPn sg)).toNatClampNeg + ((gm 65 (TOPn sg)).toNatClampNeg - 3))).toNatClampNeg) (hs : sl = 5 * TOPn sg + (if (gm 65 (TOPn sg)).toInt = 3 then (gm 66 (TOPn sg)).toNatClampNeg else 4)) (hw : WO9 ws wg wl rg (ctE wg a) sl (fA (F (TOPn sg))) S sg gm sg2 gm2 r) (hW : WOUT sg gm lim sg2 gm2 r) (hr : r.toInt = 0) : OUT9 ws wg wl rg R sg2 gm2 := by
  have hm := IV_m h hh
  have e := TOP_e hh
  have c6 := cln9 (u := gm 66 (TOPn sg)) (by have := hm.2.2.1; omega)
  have c5 := cln9 (u := gm 65 (TOPn sg)) (by omega)
  have hb := hm.1
  have hi : (gm 66 (TOPn sg)).toNatClampNeg = fI (F (TOPn sg)) := by have := hm.2.2.1; omega
  have hpp : (gm 65 (TOPn sg)).toNatClampNeg = fP (F (TOPn sg)) := by have := hm.2.1; omega
  rw [hb, hi, hpp] at ha hx
  have ha : a = fE wg (F (TOPn sg)) := ha
  have hx : fI (F (TOPn sg)) < (wg 41 (fQ (F (TOPn sg)))).toNatClampNeg := hx
  have hs : sl = 5 * TOPn sg + (if fP (F (TOPn sg)) = 3 then fI (F (TOPn sg)) else 4) := by
    rw [hs, hi]
    by_cases q : fP (F (TOPn sg)) = 3
    · rw [if_pos q, if_pos (by omega)]
    · rw [if_neg q, if_neg (by omega)]
  have h4 : (if fP (F (TOPn sg)) = 3 then fI (F (TOPn sg)) else 4) ≤ 4 := by
    by_cases q : fP (F (TOPn sg)) = 3
    · rw [if_pos q]; exact (hm.2.2.2.2.2.2.2.2.2.1 q).2.1
    · rw [if_neg q]; exact Nat.le_refl _
  have hp4 := hm.2.2.2.2.2.2.2.2.2.2.2
  have p34 : fP (F (TOPn sg)) = 3 ∨ fP (F (TOPn sg)) = 4 := by omega
  subst ha
  rcases hw with q | ⟨_, q1, q2, q3⟩ | ⟨_, q1, qk, t, ac2, q2, q3, q4, q5, q6, q7, q8, q9, qA, qB⟩
  · omega
  · refine OUT_x h (fun n => ?_) q2 h.1 q1
    rcases p34 with p | p
    · have p5 : (gm 65 (TOPn sg)).toInt = ((3 : Nat) : Int) := by omega
      unfold fE fQ at q3 hx; rw [p] at q3 hx
      rw [fP0 (p := 3) hm p5, fr_3 hx]
      show bd9 (reW ws wg wl n (ctE wg (wg 57 (128 * (3 * fB (F (TOPn sg)) + 0) + fI (F (TOPn sg)))).toNatClampNeg) (fA (F (TOPn sg))) S) _ = _
      rw [q3]; rfl
    · have p5 : (gm 65 (TOPn sg)).toInt = ((4 : Nat) : Int) := by omega
      unfold fE fQ at q3 hx; rw [p] at q3 hx
      rw [fP0 (p := 4) hm p5, fr_4 hx]
      show bd9 (reW ws wg wl n (ctE wg (wg 57 (128 * (3 * fB (F (TOPn sg)) + 1) + fI (F (TOPn sg)))).toNatClampNeg) (fA (F (TOPn sg))) S) _ = _
      rw [q3]; rfl
  · obtain ⟨g1, g2, g3, g4, g5, g6⟩ := WO_p hW hr q1
    refine ⟨_, q4, WF_be h.1, Or.inr ⟨q1, Or.inr ⟨by omega, ?_⟩⟩⟩
    refine IV_push (f := (fB (F (TOPn sg)), fP (F (TOPn sg)), fI (F (TOPn sg)), fF (F (TOPn sg)), fO (F (TOPn sg)), fV (F (TOPn sg)), ac2)) h hh g1 g2 (fun j hj => KF_s (t := TOPn sg) (by rw [qA, upd_ne (by omega)]) (by rw [g3, upd_ne (by omega)]) (by rw [g4, upd_ne (by omega)]) (g5 j (by omega) (by omega)) (by rw [qB, upd_ne (by omega)]) (by rw [g6, upd_ne (by omega)]) qk hs h4 (by omega)) (FM_w hm hp hx (by rw [qA, upd_ne (by omega)]) (by rw [g3, upd_ne (by omega)]) (by rw [g4, upd_ne (by omega)]) q8 (by rw [qB, upd_ne (by omega)]) (by rw [g6, upd_ne (by omega)]) hs qk q9) (Or.inr (Or.inr ⟨by show 3 ≤ fP (F (TOPn sg)); omega, hx, q6⟩)) q5 (by rw [qA, upd_at]) (by rw [g3, upd_at]; rfl) (by rw [g4, upd_at]; rfl) (by rw [qB, upd_at]; rfl) (fun n => ?_)
    rcases p34 with p | p
    · have p5 : (gm 65 (TOPn sg)).toInt = ((3 : Nat) : Int) := by omega
      unfold fE fQ at q7 hx; rw [p] at q7 hx ⊢
      have q := he_3p (fo := fF (F (TOPn sg))) (o := fO (F (TOPn sg))) (vs := fV (F (TOPn sg))) hx q7 n
      have ef := fP0 (p := 3) hm p5
      rw [← ef] at q; exact q
    · have p5 : (gm 65 (TOPn sg)).toInt = ((4 : Nat) : Int) := by omega
      unfold fE fQ at q7 hx; rw [p] at q7 hx ⊢
      have q := he_4p (fo := fF (F (TOPn sg))) (o := fO (F (TOPn sg))) (vs := fV (F (TOPn sg))) hx q7 n
      have ef := fP0 (p := 4) hm p5
      rw [← ef] at q; exact q
/-- an arg is there -/
theorem OUT_3s {r v w : Int32} {t : Nat} (h : IV9 ws wg wl rg R S sg gm F) (hh : 1 ≤ (sg 63).toInt) (hp : (gm 65 (TOPn sg)).toInt = 3) (hx : (gm 66 (TOPn sg)).toNatClampNeg < (wg 41 (3 * (gm 64 (TOPn sg)).toNatClampNeg)).toNatClampNeg) (h44 : (wg 41 (3 * (gm 64 (TOPn sg)).toNatClampNeg)).toNatClampNeg ≤ 4) (hs : sl = 5 * TOPn sg + (gm 66 (TOPn sg)).toNatClampNeg) (hw : WO9 ws wg wl rg (ctE wg (wg 57 (128 * (3 * (gm 64 (TOPn sg)).toNatClampNeg) + (gm 66 (TOPn sg)).toNatClampNeg)).toNatClampNeg) sl (fA (F (TOPn sg))) S sg gm sg1 gm1 r) (hq : SAMEQ sg gm sg1 gm1) (hr : ¬ r.toInt = 0) (ht : t = TOPn sg)
    (x63 : sg2 63 = sg1 63) (x51 : sg2 51 = sg1 51) (x64 : gm2 64 = gm1 64) (x65 : gm2 65 = gm1 65) (x66 : gm2 66 = upd (gm1 66) t v) (ev : v.toInt = (gm1 66 t).toInt + 1) (x67 : gm2 67 = upd (gm1 67) t w) (ew : w.toInt = 0) (x68 : gm2 68 = gm1 68) (x69 : gm2 69 = gm1 69) (hv : SV4 gm1 gm2) (hR : RR wg wl S sg1 gm1 → RR wg wl S sg2 gm2) : OUT9 ws wg wl rg R sg2 gm2 := by
  subst ht
  have hm := IV_m h hh
  have e := TOP_e hh
  have c6 := cln9 (u := gm 66 (TOPn sg)) (by have := hm.2.2.1; omega)
  have hi : (gm 66 (TOPn sg)).toNatClampNeg = fI (F (TOPn sg)) := by have := hm.2.2.1; omega
  rw [hm.1, hi] at hx hw
  rw [hm.1] at h44
  rw [hi] at hs
  obtain ⟨s63, s62, s64, s65, s66, s68, s69, s51, s67⟩ := hq
  rcases hw with ⟨_, q1, q2, qk, V, q3, q4, q5⟩ | q | q
  · have hks : KPS gm gm2 sl := KPS_k qk hv.1 hv.2.1 hv.2.2.1 hv.2.2.2
    refine ⟨S, hR q2, h.1, Or.inr ⟨by rw [x51]; exact q1, Or.inr ⟨by rw [x63, s63]; exact hh, _, IV_top h hh (x63.trans s63) h.1 (Nat.le_refl _) (fun j hj => KF_s (t := TOPn sg) (by rw [x64, s64]) (by rw [x65, s65]) (by rw [x66, upd_ne (by omega), s66]) (by rw [x67, upd_ne (by omega), s67 j (by omega)]) (by rw [x68, s68]) (by rw [x69, s69]) hks hs (by omega) (by omega)) (FM_3s hm hp hx h44 (by rw [x64, s64]) (by rw [x65, s65]) (by rw [x66, upd_at, ev, s66]) (by rw [x67, upd_at]; exact ew) (by rw [x68, s68]) hs hks (V := V) (by rw [hv.1, hv.2.1]; exact q4) (by unfold ITS9 at *; rw [hv.2.2.1, hv.2.2.2]; exact q5)) ?_⟩⟩⟩
    conv => lhs; rw [fP0 (p := 3) hm hp]
    rw [fr_3 hx, q3, ← fr_3e]; rfl
  · exact absurd q.1 hr
  · exact absurd q.1 hr
/-- the object comes to be -/
theorem OUT_3m {t : Nat} {v w : Int32} (h : IV9 ws wg wl rg R S sg gm F) (hh : 1 ≤ (sg 63).toInt) (hp : (gm 65 (TOPn sg)).toInt = 3) (hx : ¬ (gm 66 (TOPn sg)).toNatClampNeg < (wg 41 (3 * (gm 64 (TOPn sg)).toNatClampNeg)).toNatClampNeg) (h67 : (gm 67 (TOPn sg)).toInt = 0) (hb : (1 ≤ (sg1 51).toInt ∧ ∃ S2, oBr wg wl (gm 64 (TOPn sg)).toNatClampNeg (fF (F (TOPn sg))) (fV (F (TOPn sg))) S = (none, S2) ∧ RR wg wl S2 sg1 gm1) ∨ ((sg1 51).toInt = 0 ∧ ∃ S2, oBr wg wl (gm 64 (TOPn sg)).toNatClampNeg (fF (F (TOPn sg))) (fV (F (TOPn sg))) S = (some (gm1 69 (TOPn sg)).toInt, S2) ∧ RR wg wl S2 sg1 gm1)) (ht : t = TOPn sg)
    (x63 : sg2 63 = sg 63) (x51 : sg2 51 = sg1 51) (x64 : gm2 64 = gm 64) (x65 : gm2 65 = upd (gm 65) t v) (ev : v.toInt = 4) (x66 : gm2 66 = upd (gm 66) t w) (ew : w.toInt = 0) (x67 : gm2 67 = gm 67) (x68 : gm2 68 = gm 68) (x69 : gm2 69 = gm1 69) (x69b : (sg1 51).toInt = 0 → ∀ j, j < TOPn sg → gm2 69 j = gm 69 j) (hv : SV4 gm gm2) (hR : ∀ S2, RR wg wl S2 sg1 gm1 → RR wg wl S2 sg2 gm2) : OUT9 ws wg wl rg R sg2 gm2 := by
  subst ht
  have hm := IV_m h hh
  have c6 := cln9 (u := gm 66 (TOPn sg)) (by have := hm.2.2.1; omega)
  have hi : (gm 66 (TOPn sg)).toNatClampNeg = fI (F (TOPn sg)) := by have := hm.2.2.1; omega
  rw [hm.1] at hb
  rw [hm.1, hi] at hx
  rcases hb with ⟨q1, S2, q2, q3⟩ | ⟨q1, S2, q2, q3⟩
  · refine OUT_x h (fun n => ?_) (hR S2 q3) ?_ (by rw [x51]; exact q1)
    · rw [fP0 (p := 3) hm hp, fr_3z hx, r3_x q2]
    · cases hc : chS wg wl (fB (F (TOPn sg))) (fF (F (TOPn sg))) (zO S) (fV (F (TOPn sg))) with
      | none => rw [oBr_n hc] at q2; have e : S = S2 := congrArg Prod.snd q2; rw [← e]; exact h.1
      | some q =>
        obtain ⟨s, g⟩ := q
        by_cases h6 : 60 ≤ (zO S).length
        · rw [oBr_6 hc h6] at q2; have e : S = S2 := congrArg Prod.snd q2; rw [← e]; exact h.1
        · rw [oBr_s hc h6] at q2; exact absurd q2 (by simp)
  · obtain ⟨w1, w2, w3, w4⟩ := oBr_w q2
    refine ⟨S2, hR S2 q3, WF_br h.1 q2, Or.inr ⟨by rw [x51]; exact q1, Or.inr ⟨by rw [x63]; exact hh, _, IV_top h hh x63 (WF_br h.1 q2) (by omega) (fun j hj => KF_k (by rw [x64]) (by rw [x65, upd_ne (by omega)]) (by rw [x66, upd_ne (by omega)]) (by rw [x67]) (by rw [x68]) (x69b q1 j hj) hv) (FM_4 hm hp (by rw [x64]) (by rw [x65, upd_at]; exact ev) (by rw [x66, upd_at]; exact ew) (by rw [x67]; exact h67) (by rw [x68]) (by rw [x69]) ⟨by omega, by omega⟩ (by omega)) ?_⟩⟩⟩
    conv => lhs; rw [fP0 (p := 3) hm hp]
    rw [fr_3z hx, r3_b q2]
    have q := fr_4e (ws := ws) (wg := wg) (wl := wl) (n := 80 - TOPn sg) (b := fB (F (TOPn sg))) (fo := fF (F (TOPn sg))) (o := (gm1 69 (TOPn sg)).toInt) (ix := 0) (vs := []) (S := S2)
    exact q
/-- a set is done, or fails -/
theorem OUT_4s {v : Int32} {t : Nat} {V : List Int} (h : IV9 ws wg wl rg R S sg gm F) (hh : 1 ≤ (sg 63).toInt) (hp : (gm 65 (TOPn sg)).toInt = 4) (hx : (gm 66 (TOPn sg)).toNatClampNeg < (wg 41 (3 * (gm 64 (TOPn sg)).toNatClampNeg + 1)).toNatClampNeg) (hs : sl = 5 * TOPn sg + 4) (hV : ∀ n, reW ws wg wl n (ctE wg (wg 57 (128 * (3 * (gm 64 (TOPn sg)).toNatClampNeg + 1) + (gm 66 (TOPn sg)).toNatClampNeg)).toNatClampNeg) (fA (F (TOPn sg))) S = (some V, S)) (hk : KPS gm gm2 sl)
    (hb : (1 ≤ (sg2 51).toInt ∧ ∃ S2, oSe wg wl (gm 69 (TOPn sg)).toInt (wg 57 (128 * (3 * (gm 64 (TOPn sg)).toNatClampNeg + 1) + (gm 66 (TOPn sg)).toNatClampNeg)).toNatClampNeg V S = (none, S2) ∧ RR wg wl S2 sg2 gm2) ∨ ((sg2 51).toInt = 0 ∧ ∃ S2, oSe wg wl (gm 69 (TOPn sg)).toInt (wg 57 (128 * (3 * (gm 64 (TOPn sg)).toNatClampNeg + 1) + (gm 66 (TOPn sg)).toNatClampNeg)).toNatClampNeg V S = (some 0, S2) ∧ RR wg wl S2 sg2 gm2)) (ht : t = TOPn sg)
    (x63 : sg2 63 = sg 63) (x64 : gm2 64 = gm 64) (x65 : gm2 65 = gm 65) (x66 : gm2 66 = upd (gm 66) t v) (ev : v.toInt = (gm 66 t).toInt + 1) (x67 : ∀ j, j < TOPn sg → gm2 67 j = gm 67 j) (x67t : (gm2 67 (TOPn sg)).toInt = 0) (x68 : gm2 68 = gm 68) (x69 : gm2 69 = gm 69) : OUT9 ws wg wl rg R sg2 gm2 := by
  subst ht
  have hm := IV_m h hh
  have c6 := cln9 (u := gm 66 (TOPn sg)) (by have := hm.2.2.1; omega)
  have hi : (gm 66 (TOPn sg)).toNatClampNeg = fI (F (TOPn sg)) := by have := hm.2.2.1; omega
  have ho : (gm 69 (TOPn sg)).toInt = fO (F (TOPn sg)) := (hm.2.2.2.2.2.2.2.2.2.2.1 (by have := hm.2.1; omega)).1
  rw [hm.1, hi] at hx hV
  rw [hm.1, hi, ho] at hb
  have ef := fP0 (p := 4) hm hp
  rcases hb with ⟨q1, S2, q2, q3⟩ | ⟨q1, S2, q2, q3⟩
  · refine OUT_x h (fun n => ?_) q3 ?_ q1
    · rw [ef, fr_4 hx, hV]; show bd9 (oSe _ _ _ _ _ _) _ = _; rw [q2]; rfl
    · unfold oSe at q2
      simp only [] at q2
      by_cases h1 : sgF wg (wg 22 (wg 57 (128 * (3 * fB (F (TOPn sg)) + 1) + fI (F (TOPn sg)))).toNatClampNeg).toNatClampNeg 8 (((zO S)[(fO (F (TOPn sg))).toNat]?).getD (0, 0)).1 = -1
      · rw [if_pos h1] at q2; have e : S = S2 := congrArg Prod.snd q2; rw [← e]; exact h.1
      · rw [if_neg h1] at q2
        by_cases h2 : wCo wg wl (zO S) (ctE wg (wg 57 (128 * (3 * fB (F (TOPn sg)) + 1) + fI (F (TOPn sg)))).toNatClampNeg) V (sgF wg (wg 22 (wg 57 (128 * (3 * fB (F (TOPn sg)) + 1) + fI (F (TOPn sg)))).toNatClampNeg).toNatClampNeg 8 (((zO S)[(fO (F (TOPn sg))).toNat]?).getD (0, 0)).1) = -1
        · rw [if_pos h2] at q2; have e : S = S2 := congrArg Prod.snd q2; rw [← e]; exact h.1
        · rw [if_neg h2] at q2; exact absurd q2 (by simp)
  · obtain ⟨w1, w2, w3⟩ := oSe_e q2
    refine ⟨S2, q3, WF_e h.1 w1 w2 w3, Or.inr ⟨q1, Or.inr ⟨by rw [x63]; exact hh, _, IV_top h hh x63 (WF_e h.1 w1 w2 w3) (by rw [w1]; exact Nat.le_refl _) (fun j hj => KF_s (t := TOPn sg) (by rw [x64]) (by rw [x65]) (by rw [x66, upd_ne (by omega)]) (x67 j hj) (by rw [x68]) (by rw [x69]) hk hs (Nat.le_refl _) (by omega)) (FM_4s hm hp (by rw [x64]) (by rw [x65]) (by rw [x66, upd_at, ev]) x67t (by rw [x68]) (by rw [x69]) (by rw [w1]; exact Nat.le_refl _)) ?_⟩⟩⟩
    conv => lhs; rw [ef]
    rw [fr_4 hx, hV]
    show bd9 (oSe _ _ _ _ _ _) _ = _
    rw [q2]
    exact fr_4e
end SU9
end
section
section PO9
variable {ws : Nat → Int32} {wg rg gm gm1 gm2 : Nat → Nat → Int32} {wl : Nat → Nat → Int64} {rs sg sg1 sg2 : Nat → Int32} {lg : Nat → Nat → Int64} {S S2 : S9} {b j sl : Nat} {R : Option Int × S9} {F : Nat → Fr9} {f : Fr9} {ob ob2 : List Ob9} {got : Int32}
theorem LI_b {x : Int32} {a : Nat} (hH : HLB ws wg wl rs rg lg a) (hv : iv 0 79 x) (hx : x.toNatClampNeg = a) (hRW : rt9 gm = rg) (hRS : rs9 sg = rs) : liR sg gm x ↔ (wg 25 (ctE wg a)).toInt = 6 := by
  have e : nI a = x := by rw [← hx]; exact nI_c hv
  have d := DK_r (lg := lg) hRW hRS
  have q := hH.2.2.2.1
  rw [e, mInn_k d.1, rw9 hRW 29 rfl, rw9 hRW 26 rfl, ← hx] at q
  rw [show liR sg gm x ↔ rg 26 (inR rs rg lg x.toNatClampNeg).toNatClampNeg = 6 from q]
  rw [hx]
  constructor
  · exact fun p => (hH.2.2.2.2.1 p).1
  · intro p
    exact Decidable.byContradiction (fun p2 => WKB_6 (hH.2.2.2.2.2 p2) p)
theorem DL_it {it : Int32} (h3 : 3 ≤ fP f) (h : FM9 wg wl rg gm ob j f) (hw : WT9 wg wl f) (hl : liR sg gm (elR sg gm lg j) ↔ (wg 25 (ctE wg (fE wg f))).toInt = 6) (hd : (liR sg gm (elR sg gm lg j) ∧ it = gm 67 j) ∨ (¬ liR sg gm (elR sg gm lg j) ∧ it.toInt = -1)) : it.toInt ≤ 5 ∧ (((wg 25 (ctE wg (fE wg f))).toInt = 6 ∧ it.toInt = ((fA f).length : Int) ∧ (fA f).length < (itC wg (ctE wg (fE wg f))).length) ∨ (¬ (wg 25 (ctE wg (fE wg f))).toInt = 6 ∧ it.toInt = -1 ∧ kd8 wg (ctE wg (fE wg f)) ∧ fA f = [])) := by
  have hA : AW9 wg (ctE wg (fE wg f)) (fA f) := by
    rcases hw with q | q | q
    · omega
    · omega
    · exact q.2.2
  have h67 := (h.2.2.2.2.2.2.2.2.1 h3).1
  have h6 := itL_le (wg := wg) 6 (wg 16 (ctE wg (fE wg f))).toInt
  rcases hd with ⟨q1, q2⟩ | ⟨q1, q2⟩
  · rcases hA with p | p
    · unfold itC at *
      exact ⟨by rw [q2]; omega, Or.inl ⟨p.1, by rw [q2]; exact h67, p.2⟩⟩
    · exact absurd (hl.mp q1) p.1
  · rcases hA with p | p
    · exact absurd (hl.mpr p.1) q1
    · exact ⟨by omega, Or.inr ⟨p.1, q2, p.2.1, p.2.2⟩⟩
theorem slR_e (h : FM9 wg wl rg gm ob j f) (h3 : 3 ≤ fP f) : slR gm j = 5 * j + (if fP f = 3 then fI f else 4) := by
  unfold slR
  have a2 := h.2.1; have a3 := h.2.2.1
  have c6 := cln9 (u := gm 66 j) (by omega)
  by_cases q : fP f = 3
  · rw [if_pos q, if_pos (by omega)]; omega
  · rw [if_neg q, if_neg (by omega)]
theorem sl_4 (h : FM9 wg wl rg gm ob j f) : (if fP f = 3 then fI f else 4) ≤ 4 := by
  by_cases q : fP f = 3
  · rw [if_pos q]; exact (h.2.2.2.2.2.2.2.2.2.1 q).2.1
  · rw [if_neg q]; exact Nat.le_refl _
/-- what was waited for is there -/
theorem FM_dl (h : FM9 wg wl rg gm ob j f) (hw : WT9 wg wl f) (hd : DL9 sg gm lg gm2 j got) (hl : 3 ≤ fP f → (liR sg gm (elR sg gm lg j) ↔ (wg 25 (ctE wg (fE wg f))).toInt = 6)) (e64 : gm2 64 j = gm 64 j) (e65 : gm2 65 j = gm 65 j) (e66 : gm2 66 j = gm 66 j) (e69 : gm2 69 j = gm 69 j) (e67 : 3 ≤ fP f → (gm2 67 j).toInt = (gm 67 j).toInt + 1) (ho : 0 ≤ got.toInt ∧ got.toInt < (ob2.length : Int)) (hO : ob.length ≤ ob2.length) : FM9 wg wl rg gm2 ob2 j (dlF wg f got.toInt) := by
  have h0 := h
  obtain ⟨a1, a2, a3, a4, a5, a6, a7, a8, a9, a10, a11, a12⟩ := h
  have a5' : fF f = -1 ∨ (0 ≤ fF f ∧ fF f < (ob2.length : Int)) := a5.imp id (fun q => ⟨q.1, Int.lt_of_lt_of_le q.2 (Int.ofNat_le.mpr hO)⟩)
  rcases hd with ⟨p, d68, d70, d71, d72, d73⟩ | ⟨p, d68, d70, d71, d72, d73⟩ | ⟨p, d68, it, dk, di⟩
  · have e1 : fP f = 1 := by omega
    unfold dlF; rw [if_pos (by omega)]
    exact ⟨by rw [e64]; exact a1, by rw [e65]; exact a2, by rw [e66]; exact a3, by rw [d68]; exact a4, a5', a6, a7, a8, fun q => by omega, fun q => by omega, fun q => by omega, a12⟩
  · have e1 : fP f = 2 := by omega
    have w7 : ¬ wl 7 (fB f) = 0 := by
      rcases hw with q | q | q
      · omega
      · exact q.2.2
      · omega
    unfold dlF; rw [if_neg (by omega), if_pos e1]
    exact ⟨by rw [e64]; exact a1, by rw [e65]; exact p, by rw [e66]; exact a3, by rw [d68, upd_at]; rfl, Or.inr ho, fun q => absurd q (by show ¬ 2 ≤ 1; omega), fun _ => w7, fun _ q => w7 q.2, fun q => absurd q (by show ¬ 3 ≤ 2; omega), fun q => absurd q (by show ¬ 2 = 3; omega), fun q => absurd q (by show ¬ 2 = 4; omega), by show 2 ≤ 4; omega⟩
  · have e1 : 3 ≤ fP f := by omega
    obtain ⟨i5, hc⟩ := DL_it e1 h0 hw (hl e1) di
    have hks : KPS gm gm2 (slR gm j) := KPS_8 dk i5
    have hsl := slR_e h0 e1
    unfold dlF; rw [if_neg (by omega), if_neg (by omega)]
    refine ⟨by rw [e64]; exact a1, by rw [e65]; exact a2, by rw [e66]; exact a3, by rw [d68]; exact a4, a5', fun q => absurd (show fP f ≤ 1 from q) (by omega), a7, fun _ => a8 (by omega), fun _ => ⟨?_, fun hq => ?_⟩, fun q => ?_, fun q => ?_, a12⟩
    · rw [e67 e1, (a9 e1).1]; show _ = ((fA f ++ [_]).length : Int); rw [List.length_append]; rfl
    · show PT9 wg wl rg gm2 ob2 (ctE wg (fE wg f)) (5 * j + (if fP f = 3 then fI f else 4)) (fA f ++ [dlI wg (ctE wg (fE wg f)) got.toInt])
      rw [← hsl]
      rcases hc with ⟨c1, c2, c3⟩ | ⟨c1, c2, c3, c4⟩
      · have hp := (a9 e1).2 hq
        rw [← hsl] at hp
        rcases hp with ⟨_, _, hp⟩ | ⟨q, _⟩
        · refine Or.inl ⟨c1, by rw [List.length_append]; show (fA f).length + 1 ≤ _; omega, PIT_s hp dk c2 (Or.inr (Or.inr ?_))⟩
          unfold dlI; rw [if_pos c1]
          rcases dk with k | k
          · omega
          · rw [k.2.2.2.1, k.2.2.2.2, upd_at, upd_at]; exact ⟨rfl, rfl⟩
        · exact absurd c1 q
      · refine Or.inr ⟨c1, Or.inr ?_⟩
        rw [c4]; unfold dlI; rw [if_neg c1]
        rcases dk with k | k
        · rw [k.2.1, k.2.2.1, upd_at, upd_at]; exact Or.inr (Or.inr (Or.inr ⟨c3, rfl, rfl, ho⟩))
        · omega
    · have q : fP f = 3 := q
      obtain ⟨b1, b2, b3⟩ := a10 q
      rw [hsl, if_pos q] at hks
      exact ⟨b1, b2, FV_m b3 hO (fun k hk2 => hks.1 _ (by have hk2 : k < fI f := hk2; omega)) (fun k m hk2 hm => hks.2 _ (by have hk2 : k < fI f := hk2; omega))⟩
    · have q : fP f = 4 := q
      exact ⟨by rw [e69]; exact (a11 q).1, (a11 q).2.1, Int.lt_of_lt_of_le (a11 q).2.2 (Int.ofNat_le.mpr hO)⟩
/-- the levels below do not feel it -/
theorem KF_dl {t : Nat} (h : FM9 wg wl rg gm ob t f) (hw : WT9 wg wl f) (hd : DL9 sg gm lg gm2 t got) (hl : 3 ≤ fP f → (liR sg gm (elR sg gm lg t) ↔ (wg 25 (ctE wg (fE wg f))).toInt = 6)) (e64 : gm2 64 = gm 64) (e65 : gm2 65 = gm 65) (e66 : gm2 66 = gm 66) (e69 : gm2 69 = gm 69) (e67 : ∀ j, ¬ j = t → gm2 67 j = gm 67 j) (hj : ¬ j = t) : KF9 gm gm2 j := by
  rcases hd with ⟨p, d68, dv⟩ | ⟨p, d68, dv⟩ | ⟨p, d68, it, dk, di⟩
  · exact KF_k (by rw [e64]) (by rw [e65]) (by rw [e66]) (e67 j hj) (by rw [d68]) (by rw [e69]) dv
  · exact KF_k (by rw [e64]) (by rw [e65]) (by rw [e66]) (e67 j hj) (by rw [d68, upd_ne hj]) (by rw [e69]) dv
  · have e1 : 3 ≤ fP f := by have := h.2.1; omega
    exact KF_s (t := t) (by rw [e64]) (by rw [e65]) (by rw [e66]) (e67 j hj) (by rw [d68]) (by rw [e69]) (KPS_8 dk (DL_it e1 h hw (hl e1) di).1) (slR_e h e1) (sl_4 h) hj
/-- the element in hand, on both sides -/
theorem EL_b (hBR : BRG ws wg wl rs rg lg) (hRW : rt9 gm = rg) (hRS : rs9 sg = rs) (hv : iv 0 79 (gm 64 j)) (hb : (gm 64 j).toInt < (sg 41).toInt) (h : FM9 wg wl rg gm ob j f) (h3 : 3 ≤ fP f) (hx : fI f < (wg 41 (fQ f)).toNatClampNeg) : elR sg gm lg j = wg 57 (128 * fQ f + fI f) ∧ HLB ws wg wl rs rg lg (fE wg f) := by
  have a2 := h.2.1; have a3 := h.2.2.1; have a12 := h.2.2.2.2.2.2.2.2.2.2.2
  have c6 := cln9 (u := gm 66 j) (by omega)
  have hi : (gm 66 j).toNatClampNeg = fI f := by omega
  unfold elR
  by_cases q : fP f = 3
  · have eq : fQ f = 3 * fB f := by unfold fQ; rw [q]; rfl
    rw [if_pos (by omega), hi]
    have qa := (BR_a hBR hRW hRS hv hb).2.2.2 (fI f) (by rw [h.1, ← eq]; exact hx)
    rw [h.1, ← eq] at qa
    exact ⟨qa.1, qa.2.2.1⟩
  · have q4 : fP f = 4 := by omega
    have eq : fQ f = 3 * fB f + 1 := by unfold fQ; rw [q4]
    rw [if_neg (by omega), hi]
    have qa := (BR_e hBR hRW hRS hv hb).2 (fI f) (by rw [h.1, ← eq]; exact hx)
    rw [h.1, ← eq] at qa
    rw [h.1]
    exact ⟨qa.1, qa.2.1⟩
theorem LI_f (hBR : BRG ws wg wl rs rg lg) (hRW : rt9 gm = rg) (hRS : rs9 sg = rs) (hv : iv 0 79 (gm 64 j)) (hb : (gm 64 j).toInt < (sg 41).toInt) (h : FM9 wg wl rg gm ob j f) (hw : WT9 wg wl f) (he : 3 ≤ fP f → iv 0 79 (elR sg gm lg j)) (h3 : 3 ≤ fP f) : liR sg gm (elR sg gm lg j) ↔ (wg 25 (ctE wg (fE wg f))).toInt = 6 := by
  have hx : fI f < (wg 41 (fQ f)).toNatClampNeg := by
    rcases hw with q | q | q
    · omega
    · omega
    · exact q.2.1
  obtain ⟨q1, q2⟩ := EL_b hBR hRW hRS hv hb h h3 hx
  exact LI_b q2 (he h3) (by rw [q1]; rfl) hRW hRS
/-- the one on top is finished -/
theorem OUT_q (h : IV9 ws wg wl rg R S sg gm F) (hh : 1 ≤ (sg 63).toInt) (hp : (gm 65 (TOPn sg)).toInt = 4) (hx : ¬ (gm 66 (TOPn sg)).toNatClampNeg < (wg 41 (3 * (gm 64 (TOPn sg)).toNatClampNeg + 1)).toNatClampNeg) (hBR : BRG ws wg wl rs rg lg) (hRW : rt9 gm = rg) (hRS : rs9 sg = rs) (hpi : PIL sg gm) (hRR : RR wg wl S sg gm) (how : ¬ mMny gm lg (gm 64 (TOPn sg)).toNatClampNeg → 0 ≤ (gm 60 (gm 64 (TOPn sg)).toNatClampNeg).toInt)
    (hel : 1 < (sg 63).toInt → 3 ≤ (gm 65 (TOPn sg - 1)).toInt → iv 0 79 (elR sg gm lg (TOPn sg - 1))) (hF : FIN sg gm (gm 64 (TOPn sg)) sg2 gm2) (hR : RR wg wl (oFi wg wl (gm 64 (TOPn sg)).toNatClampNeg (gm 69 (TOPn sg)).toInt S) sg2 gm2) (hG : sg2 74 = gm 69 (TOPn sg)) (hD : ((sg 63).toInt = 1 ∧ gm2 68 = gm 68 ∧ gm2 70 = gm 70 ∧ gm2 71 = gm 71 ∧ gm2 72 = gm 72 ∧ gm2 73 = gm 73) ∨ (1 < (sg 63).toInt ∧ DL9 sg gm lg gm2 (TOPn sg - 1) (gm 69 (TOPn sg)))) (h5 : (sg2 51).toInt = 0) (e64 : gm2 64 = gm 64) (e65 : gm2 65 = gm 65) (e66 : gm2 66 = gm 66) (e69 : gm2 69 = gm 69) : OUT9 ws wg wl rg R sg2 gm2 := by
  have hm := IV_m h hh
  have e := TOP_e hh
  have c6 := cln9 (u := gm 66 (TOPn sg)) (by have := hm.2.2.1; omega)
  have hi : (gm 66 (TOPn sg)).toNatClampNeg = fI (F (TOPn sg)) := by have := hm.2.2.1; omega
  have hob := hm.2.2.2.2.2.2.2.2.2.2.1 (by have := hm.2.1; omega)
  have hpt := PIL_top hpi hh
  have hlt : (gm 64 (TOPn sg)).toNatClampNeg < (sg 41).toNatClampNeg := by
    have := cln9 hpt.2.1.1
    have := cln9 (u := sg 41) (by have := hpt.2.1.1; have := hpt.2.2; omega)
    have := hpt.2.2; omega
  have hz : zS S (gm 64 (TOPn sg)).toNatClampNeg = 1 := (hRR.2.2.1 _ hlt).1.mpr hpt.1
  have hW : WF9 (oFi wg wl (gm 64 (TOPn sg)).toNatClampNeg (gm 69 (TOPn sg)).toInt S) := WF_fi h.1 hz (fun o9 => by
    have q := ((hRR.2.2.1 _ hlt).2.1 o9).2
    rw [if_neg (by omega)] at q
    have := how (fun q9 => (BR_many hBR hRW hRS hpt.2.1 hpt.2.2).mp q9 o9)
    omega)
  have he : ∀ n, frC ws wg wl n (F (TOPn sg)) S = (some (gm 69 (TOPn sg)).toInt, oFi wg wl (gm 64 (TOPn sg)).toNatClampNeg (gm 69 (TOPn sg)).toInt S) := fun n => by
    rw [hi, hm.1] at hx
    rw [fP0 (p := 4) hm hp, fr_4z hx, hob.1, hm.1]
  refine ⟨_, hR, hW, Or.inr ⟨h5, ?_⟩⟩
  rcases hD with ⟨q1, _⟩ | ⟨q1, q2⟩
  · refine Or.inl ⟨by have := hF.1; omega, ?_⟩
    rw [IV_e h q1 he, hG]
  · refine Or.inr ⟨by have := hF.1; omega, ?_⟩
    have hT : TOPn sg2 = TOPn sg - 1 := by
      have c1 := cln9 (u := sg 63) (by omega)
      have c2 := cln9 (u := sg2 63) (by have := hF.1; omega)
      have := hF.1; unfold TOPn; omega
    have c1 := cln9 (u := sg 63) (by omega)
    have hj : TOPn sg - 1 < (sg 63).toNatClampNeg := by omega
    have hm1 := h.2.2.1 _ hj
    have hw1 := h.2.2.2 (TOPn sg - 1) (by omega)
    have hpj := hpi _ hj
    have hl := LI_f hBR hRW hRS hpj.2.1 hpj.2.2.1 hm1 hw1 (fun q => hel q1 (by have := hm1.2.1; omega))
    have h67 : (∀ j, ¬ j = TOPn sg - 1 → gm2 67 j = gm 67 j) ∧ (3 ≤ fP (F (TOPn sg - 1)) → (gm2 67 (TOPn sg - 1)).toInt = (gm 67 (TOPn sg - 1)).toInt + 1) := by
      rcases hF.2.2 with ⟨q, _⟩ | q
      · omega
      · unfold DLV at q; rw [hT] at q
        rcases q with ⟨p1, p2⟩ | ⟨p1, v, p2, p3⟩
        · exact ⟨fun j _ => by rw [p2], fun p => by have := hm1.2.1; omega⟩
        · exact ⟨fun j hj => by rw [p2, upd_ne hj], fun _ => by rw [p2, upd_at]; exact p3⟩
    exact IV_pop h q1 hF.1 hW (by rw [oFi_O]; exact Nat.le_refl _) (fun j hj => KF_dl hm1 hw1 q2 hl e64 e65 e66 e69 h67.1 (by omega)) (FM_dl hm1 hw1 q2 hl (by rw [e64]) (by rw [e65]) (by rw [e66]) (by rw [e69]) h67.2 (by rw [oFi_O, hob.1]; exact hob.2) (by rw [oFi_O]; exact Nat.le_refl _)) he
end PO9
end
section
section SV9
variable {ws : Nat → Int32} {wg rg gm gm1 gm2 : Nat → Nat → Int32} {wl : Nat → Nat → Int64} {rs sg sg1 sg2 : Nat → Int32} {lg : Nat → Nat → Int64} {S S2 : S9} {j sl a : Nat} {R : Option Int × S9} {F : Nat → Fr9} {b got : Int32} {ob : List Ob9} {f : Fr9}
theorem BR_6 (h : BRG ws wg wl rs rg lg) (hRW : rt9 gm = rg) (hRS : rs9 sg = rs) (hv : iv 0 79 b) (hb : b.toInt < (sg 41).toInt) : (mHas gm lg (gm 42 b.toNatClampNeg).toNatClampNeg 28259031083541619 = 0 ↔ wl 6 b.toNatClampNeg = 0) ∧ (¬ wl 6 b.toNatClampNeg = 0 → (cdR sg gm lg (mWord gm lg (gm 42 b.toNatClampNeg).toNatClampNeg 28259031083541619)).toInt = caN ws wg wl (wl 6 b.toNatClampNeg)) := by
  have q := BR_s h hRS hv hb
  have d := DK_r (lg := lg) hRW hRS
  have q1 := q.2.2.2.1
  have q2 := q.2.2.2.2.1
  rw [mHas_k d.1, rw9 hRW 42 rfl] at q1
  rw [mWord_k d.1, rw9 hRW 42 rfl] at q2
  unfold cdR at *
  rw [cdF_k d] at q2
  exact ⟨q1, q2⟩
theorem BR_7 (h : BRG ws wg wl rs rg lg) (hRW : rt9 gm = rg) (hRS : rs9 sg = rs) (hv : iv 0 79 b) (hb : b.toInt < (sg 41).toInt) : ((mTel sg gm lg b 427020088179 = -1 ∧ mTel sg gm lg b 28817527407604345 = -1) ↔ ((wg 30 b.toNatClampNeg).toInt = -1 ∧ wl 7 b.toNatClampNeg = 0))
    ∧ ((¬ mTel sg gm lg b 28817527407604345 = -1 ∧ ¬ mTel sg gm lg b 120282512125796 = -1) ↔ ¬ wl 7 b.toNatClampNeg = 0) ∧ (¬ wl 7 b.toNatClampNeg = 0 → (cdR sg gm lg (mWord gm lg (mTel sg gm lg b 28817527407604345).toNatClampNeg 28817527407604345)).toInt = caN ws wg wl (wl 7 b.toNatClampNeg)) := by
  have q := BR_s h hRS hv hb
  have d := DK_r (lg := lg) hRW hRS
  have q1 := q.2.2.2.2.2.1
  have q2 := q.2.2.2.2.2.2.1
  have q3 := q.2.2.2.2.2.2.2.1
  rw [nI_c hv, mTel_k d, mTel_k d] at q1
  rw [nI_c hv, mTel_k d, mTel_k d] at q2
  rw [nI_c hv, mTel_k d, mWord_k d.1] at q3
  unfold cdR at *
  rw [cdF_k d] at q3
  exact ⟨q1, q2, q3⟩
theorem DL_1 {tp : Nat} (h : DL9 sg gm lg gm2 tp got) (hp : (gm 65 tp).toInt = 1) : gm2 68 = gm 68 ∧ SV4 gm gm2 := by
  rcases h with q | q | q
  · exact ⟨q.2.1, q.2.2⟩
  · omega
  · omega
theorem DL_2 {tp : Nat} (h : DL9 sg gm lg gm2 tp got) (hp : (gm 65 tp).toInt = 2) : gm2 68 = upd (gm 68) tp got ∧ SV4 gm gm2 := by
  rcases h with q | q | q
  · omega
  · exact ⟨q.2.1, q.2.2⟩
  · omega
theorem KS_eq (h : KS [66, 67] gm gm2) (h6 : gm2 66 = gm 66) (h7 : gm2 67 = gm 67) : gm2 = gm := by
  funext k
  by_cases q : k = 66
  · rw [q]; exact h6
  · by_cases q2 : k = 67
    · rw [q2]; exact h7
    · refine h k ?_
      show ([66, 67] : List Nat).contains k = false
      rw [List.contains_cons, List.contains_cons]
      simp [q, q2]
theorem OUT_k (h : OUT9 ws wg wl rg R sg gm) (hk : KS [66, 67] gm gm2) (h6 : gm2 66 = gm 66) (h7 : gm2 67 = gm 67) : OUT9 ws wg wl rg R sg gm2 := by rw [KS_eq hk h6 h7]; exact h
/-- the element in hand is one -/
theorem EL_v (hI : MI sg gm) (hd : DOC sg gm lg) (hj : j < 81) (hv : iv 0 79 (gm 64 j)) (hb : (gm 64 j).toInt < (sg 41).toInt) (h : FR sg gm lg j 1) (h3 : 3 ≤ (gm 65 j).toInt) : iv 0 79 (elR sg gm lg j) := by
  have w4 := show iv 0 4 (gm 65 j) from hI.2 65 _ hj
  have w26 := show iv 0 26 (gm 66 j) from hI.2 66 _ hj
  have w6 := show iv 0 6 (gm 67 j) from hI.2 67 _ hj
  have n24 : iv 0 80 (sg 24) := MI_s hI 24
  unfold elR
  by_cases q : (gm 65 j).toInt = 3
  · rw [if_pos q]
    exact (FR_3 n24 hd.1.2.1 h q w6.1 rfl).1.1
  · rw [if_neg q]
    have q4 : (gm 65 j).toInt = 4 := by have := w4.2; omega
    have f4 := FR_4 h q4 w6.1
    have k1 := cl_0 (x := sg 41) (by have := hv.1; omega)
    have k2 := iv_cl hv (by decide)
    have k3 := cl_0 (x := gm 66 j) w26.1
    have k4 := cl_0 (x := gm 44 (gm 64 j).toNatClampNeg) (by have := w26.1; omega)
    exact (hd.2 _ (by omega) _ (by omega)).1
theorem HP_3 (h : IV9 ws wg wl rg R S sg gm F) (hh : 1 ≤ (sg 63).toInt) (hp : (gm 65 (TOPn sg)).toInt = 3) (hx : (gm 66 (TOPn sg)).toNatClampNeg < (wg 41 (3 * (gm 64 (TOPn sg)).toNatClampNeg)).toNatClampNeg) (ha : a = (wg 57 (128 * (3 * (gm 64 (TOPn sg)).toNatClampNeg) + (gm 66 (TOPn sg)).toNatClampNeg)).toNatClampNeg) (hs : sl = 5 * TOPn sg + (gm 66 (TOPn sg)).toNatClampNeg) : PT9 wg wl rg gm (zO S) (ctE wg a) sl (fA (F (TOPn sg))) ∧ (gm 67 (TOPn sg)).toInt = ((fA (F (TOPn sg))).length : Int) := by
  have hm := IV_m h hh
  have e3 : fP (F (TOPn sg)) = 3 := by have := hm.2.1; omega
  have c6 := cln9 (u := gm 66 (TOPn sg)) (by have := hm.2.2.1; omega)
  have hi : (gm 66 (TOPn sg)).toNatClampNeg = fI (F (TOPn sg)) := by have := hm.2.2.1; omega
  have q := hm.2.2.2.2.2.2.2.2.1 (by omega)
  refine ⟨?_, q.1⟩
  rw [hm.1, hi] at hx ha
  rw [hi] at hs
  have q2 := q.2 (by unfold fQ; rw [e3]; exact hx)
  unfold fE fQ at q2
  rw [e3, if_pos rfl] at q2
  rw [ha, hs]; exact q2
theorem HP_4 (h : IV9 ws wg wl rg R S sg gm F) (hh : 1 ≤ (sg 63).toInt) (hp : (gm 65 (TOPn sg)).toInt = 4) (hx : (gm 66 (TOPn sg)).toNatClampNeg < (wg 41 (3 * (gm 64 (TOPn sg)).toNatClampNeg + 1)).toNatClampNeg) (ha : a = (wg 57 (128 * (3 * (gm 64 (TOPn sg)).toNatClampNeg + 1) + (gm 66 (TOPn sg)).toNatClampNeg)).toNatClampNeg) (hs : sl = 5 * TOPn sg + 4) : PT9 wg wl rg gm (zO S) (ctE wg a) sl (fA (F (TOPn sg))) ∧ (gm 67 (TOPn sg)).toInt = ((fA (F (TOPn sg))).length : Int) := by
  have hm := IV_m h hh
  have e3 : fP (F (TOPn sg)) = 4 := by have := hm.2.1; omega
  have c6 := cln9 (u := gm 66 (TOPn sg)) (by have := hm.2.2.1; omega)
  have hi : (gm 66 (TOPn sg)).toNatClampNeg = fI (F (TOPn sg)) := by have := hm.2.2.1; omega
  have q := hm.2.2.2.2.2.2.2.2.1 (by omega)
  refine ⟨?_, q.1⟩
  rw [hm.1, hi] at hx ha
  have q2 := q.2 (by unfold fQ; rw [e3]; exact hx)
  unfold fE fQ at q2
  rw [e3, if_neg (by decide)] at q2
  rw [ha, hs]; exact q2
/-- a bean's class is there if it has no method -/
def SB9 (ws : Nat → Int32) (wg : Nat → Nat → Int32) (wl : Nat → Nat → Int64) : Prop := ∀ b, b < (ws 12).toNatClampNeg → -1 ≤ (wg 30 b).toInt ∧ (¬ wl 7 b = 0 → ¬ (wg 31 b).toInt = -1)
theorem HM_3 (h : IV9 ws wg wl rg R S sg gm F) (hh : 1 ≤ (sg 63).toInt) (hp : (gm 65 (TOPn sg)).toInt = 3) (hx : ¬ (gm 66 (TOPn sg)).toNatClampNeg < (wg 41 (3 * (gm 64 (TOPn sg)).toNatClampNeg)).toNatClampNeg) (hb : b = gm 64 (TOPn sg)) (hS : SB9 ws wg wl) (hlt : b.toNatClampNeg < (ws 12).toNatClampNeg) : FV9 wg wl rg gm (zO S) b.toNatClampNeg (TOPn sg) (wg 41 (3 * b.toNatClampNeg)).toNatClampNeg (fV (F (TOPn sg))) ∧ (gm 68 (TOPn sg)).toInt = fF (F (TOPn sg)) ∧ ((wg 31 b.toNatClampNeg).toInt = -1 → 0 ≤ clsF wg b.toNatClampNeg (fF (F (TOPn sg))) (zO S)) ∧ (fF (F (TOPn sg)) = -1 ∨ (0 ≤ fF (F (TOPn sg)) ∧ fF (F (TOPn sg)) < ((zO S).length : Int))) := by
  subst hb
  have hm := IV_m h hh
  have e3 : fP (F (TOPn sg)) = 3 := by have := hm.2.1; omega
  have c6 := cln9 (u := gm 66 (TOPn sg)) (by have := hm.2.2.1; omega)
  have hi : (gm 66 (TOPn sg)).toNatClampNeg = fI (F (TOPn sg)) := by have := hm.2.2.1; omega
  rw [hi] at hx
  have q := hm.2.2.2.2.2.2.2.2.2.1 e3
  refine ⟨fun i hi2 => ?_, hm.2.2.2.1, fun h31 => ?_, hm.2.2.2.2.1⟩
  · have q2 := q.2.2 i (by omega)
    rw [← hm.1] at q2; exact q2
  · have s := hS _ hlt
    have w7 : wl 7 (gm 64 (TOPn sg)).toNatClampNeg = 0 := Decidable.byContradiction (fun p => s.2 p h31)
    have f1 : fF (F (TOPn sg)) = -1 := Decidable.byContradiction (fun p => hm.2.2.2.2.2.2.1 p (by rw [← hm.1]; exact w7))
    have c := hm.2.2.2.2.2.2.2.1 (by omega)
    rw [← hm.1] at c
    unfold clsF; rw [if_pos f1]
    have : ¬ (wg 30 (gm 64 (TOPn sg)).toNatClampNeg).toInt = -1 := fun p => c ⟨p, w7⟩
    omega
theorem RR_z1 (hR : RR wg wl S sg gm) (hp : PIL sg gm) (hh : 1 ≤ (sg 63).toInt) (hb : b = gm 64 (TOPn sg)) : zS S b.toNatClampNeg = 1 := by
  subst hb
  have hpt := PIL_top hp hh
  have := cln9 hpt.2.1.1
  have := cln9 (u := sg 41) (by have := hpt.2.1.1; have := hpt.2.2; omega)
  exact (hR.2.2.1 _ (by have := hpt.2.2; omega)).1.mpr hpt.1
theorem WO_1v {r : Int32} {c : Nat} {acc : List Int} (h : WO9 ws wg wl rg c sl acc S sg gm sg2 gm2 r) (hr : ¬ r.toInt = 0) : (sg2 51).toInt = 0 ∧ RR wg wl S sg2 gm2 ∧ KPS gm gm2 sl ∧ ∃ V, (∀ n, reW ws wg wl n c acc S = (some V, S)) ∧ VR9 wg wl rg (zO S) c V (gm2 70 sl) (gm2 71 sl) ∧ ITS9 wg rg gm2 c sl V := by
  rcases h with q | q | q
  · exact q.2
  · exact absurd q.1 hr
  · exact absurd q.1 hr
end SV9
end
