/-- what settling one element leaves -/
def NMS (D : List El7) (lg lg2 : Nat → Nat → Int64) (o : Nat) : Prop := (∀ j, j ≠ o → lg2 1 j = lg 1 j) ∧ lg2 1 o = nmD D o
def BNS (D : List El7) (sg sg2 : Nat → Int32) (gm gm2 : Nat → Nat → Int32) (lg lg2 : Nat → Nat → Int64) (o : Int32) : Prop := (¬ dKd D o.toNatClampNeg = 3 ∧ sg2 12 = sg 12 ∧ lg2 4 = lg 4 ∧ lg2 5 = lg 5 ∧ gm2 27 = gm 27 ∧ gm2 29 = gm 29) ∨ (dKd D o.toNatClampNeg = 3 ∧ (sg2 12).toInt = (sg 12).toInt + 1 ∧ lg2 4 = vp_updL (lg 4) (sg 12).toNatClampNeg (nv7 (dAt D o.toNatClampNeg) 26980) ∧ lg2 5 = vp_updL (lg 5) (sg 12).toNatClampNeg (nv7 (dAt D o.toNatClampNeg) 123563833388660) ∧ gm2 27 = upd (gm 27) o.toNatClampNeg (sg 12) ∧ gm2 29 = upd (gm 29) (sg 12).toNatClampNeg o)
theorem NMS_2 {D : List El7} {lg lg2 : Nat → Nat → Int64} {o : Nat} {r : Int64} (h : lg2 1 = vp_updL (lg 1) o r) (hk : dKd D o = 2) (hr : r = nv7 (dAt D o) 29807) : NMS D lg lg2 o := by
  refine ⟨fun j hj => by rw [h]; exact vp_uLn hj, ?_⟩
  rw [h, vp_uL, hr]; unfold nmD; rw [if_pos hk]
theorem NMS_3 {D : List El7} {lg lg2 : Nat → Nat → Int64} {o : Nat} {r : Int64} (h : lg2 1 = vp_updL (lg 1) o r) (hk : dKd D o = 3) (hr : r = nv7 (dAt D o) 26980) : NMS D lg lg2 o := by
  refine ⟨fun j hj => by rw [h]; exact vp_uLn hj, ?_⟩
  rw [h, vp_uL, hr]; unfold nmD; rw [if_neg (by omega), if_pos hk]
theorem NMS_0 {D : List El7} {lg lg2 : Nat → Nat → Int64} {o : Nat} (h : lg2 1 = lg 1) (h0 : lg 1 o = 0) (h2 : ¬ dKd D o = 2) (h3 : ¬ dKd D o = 3) : NMS D lg lg2 o := by
  refine ⟨fun j _ => by rw [h], ?_⟩
  rw [h, h0]; unfold nmD; rw [if_neg h2, if_neg h3]
/-- the beans' rows of the class by the list -/
def BC7 (D : List El7) (sg : Nat → Int32) (gm : Nat → Nat → Int32) (lg : Nat → Nat → Int64) (n : Nat) : Prop := (sg 12).toInt = ((bsN D n).length : Int) ∧ (∀ b y : Nat, (bsN D n)[b]? = some y → lg 4 b = nv7 (dAt D y) 26980 ∧ lg 5 b = nv7 (dAt D y) 123563833388660 ∧ (gm 27 y).toInt = (b : Int)) ∧ (∀ y, y < n → ¬ dKd D y = 3 → (gm 27 y).toInt = -1) ∧ ∀ y, y < n → lg 1 y = nmD D y
theorem BC_0 {D : List El7} {sg : Nat → Int32} {gm : Nat → Nat → Int32} {lg : Nat → Nat → Int64} (h : (sg 12).toInt = 0) : BC7 D sg gm lg 0 := ⟨h, fun b y q => (by cases q), fun y hy => absurd hy (Nat.not_lt_zero y), fun y hy => absurd hy (Nat.not_lt_zero y)⟩
theorem BC_s {D : List El7} {sg sg2 : Nat → Int32} {gm gm2 : Nat → Nat → Int32} {lg lg2 : Nat → Nat → Int64} {o : Int32} (h12 : iv 0 79 (sg 12)) (ho : iv 0 79 o) (h : BC7 D sg gm lg o.toNatClampNeg) (hu : gm 27 o.toNatClampNeg = -1) (hN : NMS D lg lg2 o.toNatClampNeg) (hB : BNS D sg sg2 gm gm2 lg lg2 o) : BC7 D sg2 gm2 lg2 (o.toNatClampNeg + 1) := by
  have k1 := iv_cl h12 (by decide)
  have k2 := iv_cl ho (by decide)
  obtain ⟨a1, a2, a3, a4⟩ := h
  have hn1 : ∀ y, y < o.toNatClampNeg + 1 → lg2 1 y = nmD D y := fun y hy => by
    by_cases q : y = o.toNatClampNeg
    · rw [q]; exact hN.2
    · rw [hN.1 y q]; exact a4 y (by omega)
  rcases hB with ⟨b0, b1, b2, b3, b4, b5⟩ | ⟨b0, b1, b2, b3, b4, b5⟩
  · unfold BC7
    rw [bsN_f b0, b1, b2, b3, b4]
    refine ⟨a1, a2, fun y hy hk => ?_, hn1⟩
    by_cases q : y = o.toNatClampNeg
    · rw [q, hu]; decide
    · exact a3 y (by omega) hk
  · have hm : ∀ b y : Nat, (bsN D o.toNatClampNeg)[b]? = some y → b < (bsN D o.toNatClampNeg).length ∧ y < o.toNatClampNeg := fun b y q => ⟨(List.getElem?_eq_some_iff.mp q).1, ((bsN_m _ _).mp (List.mem_of_getElem? q)).1⟩
    refine ⟨by rw [b1, a1, bsN_t b0, List.length_append]; rfl, fun b y q => ?_, fun y hy hk => ?_, hn1⟩
    · rw [bsN_t b0] at q
      rcases Nat.lt_or_ge b (bsN D o.toNatClampNeg).length with w | w
      · rw [List.getElem?_append_left w] at q
        have hy := (hm b y q).2
        rw [b2, b3, b4, vp_uLn (by omega), vp_uLn (by omega), upd_ne (by omega)]
        exact a2 b y q
      · rw [List.getElem?_append_right w] at q
        have hb0 : b - (bsN D o.toNatClampNeg).length = 0 := by
          rcases Nat.eq_zero_or_pos (b - (bsN D o.toNatClampNeg).length) with z | z
          · exact z
          · rw [List.getElem?_eq_none (by show 1 ≤ _; omega)] at q; cases q
        rw [hb0] at q
        have q : some o.toNatClampNeg = some y := q
        have qy : o.toNatClampNeg = y := Option.some.inj q
        subst qy
        have hbe : b = (sg 12).toNatClampNeg := by omega
        rw [b2, b3, b4, hbe, vp_uL, vp_uL, upd_at]
        exact ⟨rfl, rfl, by omega⟩
    · by_cases q : y = o.toNatClampNeg
      · rw [q] at hk; exact absurd b0 hk
      · rw [b4, upd_ne q]; exact a3 y (by omega) hk
theorem BC_k {D : List El7} {sg sg2 : Nat → Int32} {gm gm2 : Nat → Nat → Int32} {lg lg2 : Nat → Nat → Int64} {n : Nat} (h : BC7 D sg gm lg n) (e1 : sg2 12 = sg 12) (e2 : gm2 27 = gm 27) (e3 : lg2 1 = lg 1) (e4 : lg2 4 = lg 4) (e5 : lg2 5 = lg 5) : BC7 D sg2 gm2 lg2 n := by unfold BC7; rw [e1, e2, e3, e4, e5]; exact h
theorem BC_id {D : List El7} {sg : Nat → Int32} {gm : Nat → Nat → Int32} {lg : Nat → Nat → Int64} (h : BC7 D sg gm lg D.length) {b : Nat} (hb : b < nbD D) : lg 4 b = nv7 (dAt D (elD D b)) 26980 ∧ lg 5 b = nv7 (dAt D (elD D b)) 123563833388660 := by
  unfold nbD at hb
  have e : elD D b = (bsN D D.length)[b] := by unfold elD; rw [List.getElem?_eq_getElem hb]; rfl
  have q := h.2.1 b _ (List.getElem?_eq_getElem hb)
  rw [e]; exact ⟨q.1, q.2.1⟩
theorem cWid_e {D : List El7} {sg : Nat → Int32} {gm : Nat → Nat → Int32} {lg : Nat → Nat → Int64} (h : BC7 D sg gm lg D.length) (w : Int64) : cWid sg lg w = widC D w := by
  have e2 : (sg 12).toNatClampNeg = nbD D := by have := h.1; show (sg 12).toInt.toNat = (bsN D D.length).length; omega
  unfold cWid widC
  rw [e2]
  split
  · rfl
  · exact fst_c _ _ (fun k _ hk => by unfold qCr qC; rw [(BC_id h (show k < nbD D by omega)).1])
theorem cPar_e {D : List El7} {sg : Nat → Int32} {gm : Nat → Nat → Int32} {lg : Nat → Nat → Int64} (h : BC7 D sg gm lg D.length) {b : Int32} (hb : b.toNatClampNeg < nbD D) : cPar sg lg b = parC D b := by
  unfold cPar parC
  rw [cWid_e h, (BC_id h hb).2]
theorem cNR_e {D : List El7} {sg : Nat → Int32} {gm : Nat → Nat → Int32} {lg : Nat → Nat → Int64} (h : BC7 D sg gm lg D.length) (h80 : D.length ≤ 80) {b : Int32} (h0 : 0 ≤ b.toInt) (hb : b.toNatClampNeg < nbD D) : NR (cPar sg lg) b ↔ NR (parC D) b := by
  have hI : ∀ n (b : Int32), 0 ≤ b.toInt ∧ b.toNatClampNeg < nbD D → itF (cPar sg lg) n b = itF (parC D) n b := itF_c (fun b hb => cPar_e h hb.2) (fun b _ => par_r h80 b)
  unfold NR
  constructor
  · intro q k k1 k2 e; exact q k k1 k2 (by rw [hI k b ⟨h0, hb⟩]; exact e)
  · intro q k k1 k2 e; exact q k k1 k2 (by rw [← hI k b ⟨h0, hb⟩]; exact e)
/-- what the class asks of an element's wiring, by the list -/
theorem IRW_e {D : List El7} {sg : Nat → Int32} {gm : Nat → Nat → Int32} {lg : Nat → Nat → Int64} (h : BC7 D sg gm lg D.length) (h80 : D.length ≤ 80) {i : Nat} (hi : i < D.length) : IRW sg gm lg i ↔ BC1 D i := by
  obtain ⟨a1, a2, a3, a4⟩ := h
  unfold IRW BC1
  refine and_congr ?_ ?_
  · rw [a4 i hi]
    constructor
    · intro q hz k hk; rw [← a4 k (by omega)]; exact q hz k hk
    · intro q hz k hk; rw [a4 k (by omega)]; exact q hz k hk
  · by_cases hk : dKd D i = 3
    · have e := (a2 _ _ (bsN_i hi hk)).2.2
      have hl := bsN_l (D := D) i
      have hb := elD_i hi hk
      have e1 : gm 27 i = nI (bsN D i).length := Int32.toInt_inj.mp (by rw [e, nI_toInt (by omega)])
      have e2 : (nI (bsN D i).length).toNatClampNeg = (bsN D i).length := by
        have h4 : (nI (bsN D i).length).toInt = (bsN D i).length := nI_toInt (by omega)
        show (nI (bsN D i).length).toInt.toNat = _; omega
      have e3 : lg 5 (nI (bsN D i).length).toNatClampNeg = nv7 (dAt D i) 123563833388660 := by
        rw [e2]; have := (BC_id (D := D) ⟨a1, a2, a3, a4⟩ hb.2).2; rw [hb.1] at this; exact this
      have e4 := cPar_e (D := D) ⟨a1, a2, a3, a4⟩ (b := nI (bsN D i).length) (by rw [e2]; exact hb.2)
      unfold RPW
      rw [e1, e3, e4]
      have key : ¬ parC D (nI (bsN D i).length) = -1 → (NR (cPar sg lg) (parC D (nI (bsN D i).length)) ↔ NR (parC D) (parC D (nI (bsN D i).length))) := fun hn => by
        have := (par_r h80 (nI (bsN D i).length)).resolve_left hn
        exact cNR_e (D := D) ⟨a1, a2, a3, a4⟩ h80 this.1 this.2
      constructor
      · intro q _ hz
        rcases q with q | q | q
        · rw [e1] at e; omega
        · exact absurd q hz
        · exact ⟨q.1, (key q.1).mp q.2⟩
      · intro q
        by_cases hz : nv7 (dAt D i) 123563833388660 = 0
        · exact Or.inr (Or.inl hz)
        · have w := q hk hz
          exact Or.inr (Or.inr ⟨w.1, (key w.1).mpr w.2⟩)
    · exact ⟨fun _ q => absurd q hk, fun _ => Or.inl (by rw [a3 i hi hk]; decide)⟩
