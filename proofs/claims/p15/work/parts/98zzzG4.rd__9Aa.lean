section
section RD8
variable {ch : Nat → Int} {N : Nat} {sg sg2 sm sm2 : Nat → Int32} {gm gm2 gn gn2 : Nat → Nat → Int32} {lg lg2 ln ln2 : Nat → Nat → Int64}
/-- what read has answered -/
def RD8c (ch : Nat → Int) (N : Nat) (sg2 : Nat → Int32) (gm2 : Nat → Nat → Int32) (lg2 : Nat → Nat → Int64) (k x : Int) : Prop := ((sg2 0).toInt = 0 ∧ (sg2 13).toInt = 0 ∧ (sg2 14).toInt = 0 ∧ (sg2 15).toInt = 0) ∧ ((k = 1 ∧ ¬ ACQ ch N ∧ (sg2 12).toInt = 0 ∧ (sg2 1).toInt = 0) ∨ (k = 0 ∧ ACQ ch N ∧ x = (nbD (dD ch N) : Int) ∧ CLD (dD ch N) sg2 gm2 lg2 ∧ WRM sg2 gm2 lg2 ∧ ¬ (sg2 1).toInt = 0))
def S0z : S9 := ([], [], fun _ => 0, fun _ => -1, [])
theorem S0_ss (h13 : (sg2 13).toInt = 0) (h14 : (sg2 14).toInt = 0) (h15 : (sg2 15).toInt = 0) (hb : ∀ c, c < (sg2 12).toNatClampNeg → gm2 37 c = 0 ∧ gm2 38 c = 0) (h48 : (sm2 48).toInt = 0) (h49 : (sm2 49).toInt = 0) (hC : CLR sm2 gn2) (h41 : (sm2 41).toNatClampNeg ≤ 80) : SSR sg2 gm2 lg2 sm2 gn2 S0z := by
  refine ⟨⟨⟨h14, fun k o h => by cases h⟩, ⟨h13, fun k e h => by cases h⟩, fun b hbb => ?_, ⟨h15, (fun k b h => by cases h), List.nodup_nil⟩⟩, ⟨⟨h48, fun k o h => by cases h⟩, ⟨h49, fun k e h => by cases h⟩, fun b hbb => ?_, ⟨hC.1, (fun k b h => by cases h), List.nodup_nil⟩⟩, fun t ht => ?_, fun b _ q => absurd (show (0 : Nat) = 2 from q) (by decide), fun t q => absurd (show (0 : Nat) = 1 from q) (by decide), fun _ => ⟨rfl, rfl, rfl, fun _ => rfl⟩, fun _ k o h => by cases h⟩
  · obtain ⟨b1, b2⟩ := hb b hbb
    rw [b1, b2]
    exact ⟨⟨fun q => absurd (show (0 : Nat) = 1 from q) (by decide), fun q => absurd rfl q⟩, fun _ _ => ⟨⟨fun q => absurd (show (0 : Nat) = 2 from q) (by decide), fun q => absurd rfl q⟩, fun q => absurd rfl q⟩, Nat.zero_le _⟩
  · obtain ⟨b1, b2, b3⟩ := hC.2 b (Nat.zero_le _) (by omega)
    rw [b1, b2, b3]
    exact ⟨⟨fun q => absurd (show (0 : Nat) = 1 from q) (by decide), fun q => absurd rfl q⟩, fun _ => ⟨⟨fun q => absurd (show (0 : Nat) = 2 from q) (by decide), fun q => absurd rfl q⟩, (show (-1 : Int32).toInt = -1 by decide)⟩, Nat.zero_le _⟩
  · rcases ht with q | q
    · exact absurd (show (0 : Nat) = 2 from q) (by decide)
    · exact absurd (show (0 : Nat) = 1 from q.1) (by decide)
theorem R_read {k x y : Int} (h : REL sg gm lg sm gn ln) (hI9 : CI sg2 gm2) (k2 : KS [11, 12, 13, 14, 15, 16, 17, 18, 19, 20, 21, 22, 23, 24, 25, 26, 27, 29, 30, 31, 32, 33, 34, 35, 36, 37, 38, 39, 40, 41, 42, 44, 45, 46, 47, 56, 57] gm gm2) (hc : RD8c ch N sg2 gm2 lg2 k x) (hI8 : MI sm2 gn2) (j2 : KS [26, 27, 28, 29, 30, 31, 32, 36, 37, 38, 39, 42, 43, 44, 45, 46, 47, 60, 61, 62] gn gn2) (j3 : KS [34, 35] ln ln2) (f48 : (sm2 48).toInt = 0) (f49 : (sm2 49).toInt = 0) (f40 : ((sm2 5).toInt = 1 ∧ (sm2 40).toInt = 0) ∨ ((sm2 5).toInt = 0 ∧ ¬ (sm2 40).toInt = 0)) (fZ : (sm2 20).toInt = 0) (fR : ((sm2 5).toInt = 1 ∧ y = 0 ∧ ¬ ACP ch N) ∨ ((sm2 5).toInt = 0 ∧ ACP ch N ∧ y = (nbD (dD ch N) : Int) ∧ RFD ch (dD ch N) sm2 gn2 ln2)) (fX : XX7 ch N) (fDo : (sm2 40).toInt = 0 ∨ DOC sm2 gn2 ln2) (fCr : CLR sm2 gn2) (hp : PC7 ch) (hN : N ≤ 1200) (hch : ∀ i, N ≤ i → ch i = -1) : REL sg2 gm2 lg2 sm2 gn2 ln2 ∧ (sm2 5).toInt = k ∧ (k = 0 → x = y) := by
  obtain ⟨⟨a1, a2, a3⟩, b, c, _, _⟩ := h
  have hA := ACPQ fX hp
  obtain ⟨⟨z0, z13, z14, z15⟩, hc⟩ := hc
  have w3 : WRD7 (ln2 0) (ln2 1) := WRD7_k a3 (j3 0 (by decide)) (j3 1 (by decide))
  have n28 : N28 gm2 := fun q hq => by rw [k2 28 (by decide)]; exact c q hq
  have i41 : iv 0 80 (sm2 41) := MI_s hI8 41
  have l41 : (sm2 41).toNatClampNeg ≤ 80 := by have := iv_cl i41 (by decide); have := i41.2; omega
  have hX : CLX gm2 gn2 := CLX_e b (fun k hk => k2 k (by rcases hk with q | q | q | q | q | q | q | q | q | q | q | q | q <;> rw [q] <;> decide)) (fun k hk => j2 k (by rcases hk with q | q | q | q | q | q | q | q | q | q | q | q | q <;> rw [q] <;> decide))
  have h7 : REL7 sg2 gm2 sm2 gn2 ln2 := ⟨TXR_0 z0 fZ, ENT_k a2 (j2 3 (by decide)) (j2 4 (by decide)) (j3 2 (by decide)), w3⟩
  rcases hc with ⟨c1, c2, c3, c4⟩ | ⟨c1, c2, c3, c4, c5, c6⟩
  · rcases fR with ⟨r1, r2, r3⟩ | ⟨r1, r2, _⟩
    · have m40 : (sm2 40).toInt = 0 := by rcases f40 with q | q <;> omega
      refine ⟨⟨h7, hX, n28, Or.inl ⟨c4, m40⟩, S0z, S0_ss z13 z14 z15 (fun c hcc => ?_) f48 f49 fCr l41⟩, by omega, fun q => by omega⟩
      have e : (sg2 12).toNatClampNeg = (sg2 12).toInt.toNat := rfl
      omega
    · exact absurd (hA.mp r2) c2
  · rcases fR with ⟨_, _, r3⟩ | ⟨r1, r2, r3, r4⟩
    · exact absurd (hA.mpr c2) r3
    · have m40 : ¬ (sm2 40).toInt = 0 := by rcases f40 with q | q <;> omega
      have hdoc := fDo.resolve_left m40
      have h80 := (fX _ c2.1).2
      have hd : PBd (dD ch N) := PBd_of hp fX c2 (sDoc_0 c2.1)
      refine ⟨⟨h7, hX, n28, Or.inr ⟨c6, m40, dD ch N, PBc_of c4 n28 (fun q hq => (show iv 0 _ (gm2 41 q) from hI9.2 41 q hq).1), PBr_of r4 h80 hdoc.1.2.2.2 w3 (fun b hb => ⟨(show iv 0 26 (gn2 44 b) from hI8.2 44 b hb), (show iv 0 26 (gn2 46 b) from hI8.2 46 b hb)⟩), hd, TLN_of hch hN c2.1 hd⟩, S0z, S0_ss z13 z14 z15 c5.2 f48 f49 fCr l41⟩, by omega, fun _ => by omega⟩
/-- declared classes: the calls keep the relation -/
theorem R_decl {P : Prop} {r r2 v : Int32} {c : Nat} (h : REL sg gm lg sm gn ln) (hP : P → c < 8) (g0 : DEC9 P r c (gm 0) (gm2 0)) (g1 : DEC9 P r c (gm 1) (gm2 1)) (g3 : DEC9 P r c (gm 3) (gm2 3)) (gB : DECB P r c (gm 55) (gm2 55)) (g4 : DEP9 P r c v (gm 4) (gm2 4)) (k2 : KS [0, 1, 3, 4, 55] gm gm2) (h7 : DEC9 P r2 c (gn 7) (gn2 7)) (h13 : DEC9 P r2 c (gn 13) (gn2 13)) (h10 : DEC9 P r2 c (gn 10) (gn2 10)) (h6 : DEP9 P r2 c v (gn 6) (gn2 6)) (j2 : KS [6, 7, 10, 13] gn gn2) : CLX gm2 gn2 := by
  have b := h.2.1
  have kg : ∀ k, k = 2 ∨ k = 5 ∨ k = 6 ∨ k = 7 ∨ k = 8 ∨ k = 9 ∨ k = 10 ∨ k = 54 → gm2 k = gm k := fun k hk => k2 k (by rcases hk with q | q | q | q | q | q | q | q <;> rw [q] <;> decide)
  have kn : ∀ k, k = 8 ∨ k = 9 ∨ k = 11 ∨ k = 12 ∨ k = 14 ∨ k = 15 ∨ k = 16 ∨ k = 17 ∨ k = 18 → gn2 k = gn k := fun k hk => j2 k (by rcases hk with q | q | q | q | q | q | q | q | q <;> rw [q] <;> decide)
  by_cases p : P
  · obtain ⟨_, _, e0⟩ := g0.resolve_right (fun q => q.2.1 p)
    obtain ⟨_, _, e1⟩ := g1.resolve_right (fun q => q.2.1 p)
    obtain ⟨_, _, e3⟩ := g3.resolve_right (fun q => q.2.1 p)
    obtain ⟨_, _, eB⟩ := gB.resolve_right (fun q => q.2.1 p)
    obtain ⟨_, _, e4⟩ := g4.resolve_right (fun q => q.2.1 p)
    obtain ⟨_, _, r7⟩ := h7.resolve_right (fun q => q.2.1 p)
    obtain ⟨_, _, r13⟩ := h13.resolve_right (fun q => q.2.1 p)
    obtain ⟨_, _, r10⟩ := h10.resolve_right (fun q => q.2.1 p)
    obtain ⟨_, _, r6⟩ := h6.resolve_right (fun q => q.2.1 p)
    exact CLX_d b (hP p) e0 e1 e3 e4 eB kg r7 r13 r10 r6 kn
  · have e0 := (g0.resolve_left (fun q => p q.2.1)).2.2
    have e1 := (g1.resolve_left (fun q => p q.2.1)).2.2
    have e3 := (g3.resolve_left (fun q => p q.2.1)).2.2
    have eB := (gB.resolve_left (fun q => p q.2.1)).2.2
    have e4 := (g4.resolve_left (fun q => p q.2.1)).2.2
    have r7 := (h7.resolve_left (fun q => p q.2.1)).2.2
    have r13 := (h13.resolve_left (fun q => p q.2.1)).2.2
    have r10 := (h10.resolve_left (fun q => p q.2.1)).2.2
    have r6 := (h6.resolve_left (fun q => p q.2.1)).2.2
    refine CLX_e b (fun k hk => ?_) (fun k hk => ?_)
    · rcases hk with q | q | q | q | q | q | q | q | q | q | q | q | q <;> rw [q]
      · exact e0
      · exact e1
      · exact kg 2 (by decide)
      · exact e3
      · exact e4
      · exact kg 5 (by decide)
      · exact kg 6 (by decide)
      · exact kg 7 (by decide)
      · exact kg 8 (by decide)
      · exact kg 9 (by decide)
      · exact kg 10 (by decide)
      · exact kg 54 (by decide)
      · exact eB
    · rcases hk with q | q | q | q | q | q | q | q | q | q | q | q | q <;> rw [q]
      · exact r6
      · exact r7
      · exact kn 8 (by decide)
      · exact kn 9 (by decide)
      · exact r10
      · exact kn 11 (by decide)
      · exact kn 12 (by decide)
      · exact r13
      · exact kn 14 (by decide)
      · exact kn 15 (by decide)
      · exact kn 16 (by decide)
      · exact kn 17 (by decide)
      · exact kn 18 (by decide)
theorem R_con {P : Prop} {r r2 na ta ub uc : Int32} {c : Nat} (h : REL sg gm lg sm gn ln) (hP : P → c < 8 ∧ TYS na ta ub uc) (fA : ADC P r c 0 0 gm gm2 (-1) 0 (gm 2 c) na ta ub uc) (k2 : KS [0, 7, 8, 9, 10, 54] gm gm2) (gA : RAC P r2 c gn gn2 na ta ub uc) (j2 : KS [7, 8, 9] gn gn2) : CLX gm2 gn2 := by
  have b := h.2.1
  have kg : ∀ k, k = 1 ∨ k = 2 ∨ k = 3 ∨ k = 4 ∨ k = 5 ∨ k = 6 ∨ k = 55 → gm2 k = gm k := fun k hk => k2 k (by rcases hk with q | q | q | q | q | q | q <;> rw [q] <;> decide)
  have kn : ∀ k, k = 6 ∨ k = 10 ∨ k = 11 ∨ k = 12 ∨ k = 13 ∨ k = 14 ∨ k = 15 ∨ k = 16 ∨ k = 17 ∨ k = 18 → gn2 k = gn k := fun k hk => j2 k (by rcases hk with q | q | q | q | q | q | q | q | q | q <;> rw [q] <;> decide)
  rcases fA with ⟨_, p, a2, ⟨z, a3, a4⟩, a5⟩ | ⟨_, a2, a3, s8, s9, s10, s7, s54⟩
  · obtain ⟨hc, hT⟩ := hP p
    have e7 := (b.1 c hc).2.2.1
    rcases gA with ⟨_, _, b2, ⟨z2, b3, b4⟩, b5, b6⟩ | ⟨_, b2, _⟩
    · exact CLX_c b hc hT a2 a3 a4 a5 kg b3 b4 b5 b6 kn
    · rcases b2 with q | q
      · exact absurd p q
      · omega
  · rcases gA with ⟨_, p, b2, _⟩ | ⟨_, b2, b3, b4, b5⟩
    · have e7 := (b.1 c (hP p).1).2.2.1
      rcases a2 with q | q
      · exact absurd p q
      · omega
    · refine CLX_e b (fun k hk => ?_) (fun k hk => ?_)
      · rcases hk with q | q | q | q | q | q | q | q | q | q | q | q | q <;> rw [q]
        · exact a3
        · exact kg 1 (by decide)
        · exact kg 2 (by decide)
        · exact kg 3 (by decide)
        · exact kg 4 (by decide)
        · exact kg 5 (by decide)
        · exact kg 6 (by decide)
        · exact s7
        · exact s8
        · exact s9
        · exact s10
        · exact s54
        · exact kg 55 (by decide)
      · rcases hk with q | q | q | q | q | q | q | q | q | q | q | q | q <;> rw [q]
        · exact kn 6 (by decide)
        · exact b3
        · exact b4
        · exact b5
        · exact kn 10 (by decide)
        · exact kn 11 (by decide)
        · exact kn 12 (by decide)
        · exact kn 13 (by decide)
        · exact kn 14 (by decide)
        · exact kn 15 (by decide)
        · exact kn 16 (by decide)
        · exact kn 17 (by decide)
        · exact kn 18 (by decide)
theorem R_fac {P : Prop} {r r2 nm st re na ta ub uc : Int32} {c : Nat} (h : REL sg gm lg sm gn ln) (hP : P → c < 8 ∧ 0 ≤ nm.toInt ∧ TYS na ta ub uc) (fA : ADC P r c 4 1 gm gm2 nm st re na ta ub uc) (k2 : KS [1, 7, 8, 9, 10, 54] gm gm2) (gA : RAF P r2 c gn gn2 nm st re na ta ub uc) (j2 : KS [13, 14, 15, 16, 17, 18] gn gn2) : CLX gm2 gn2 := by
  have b := h.2.1
  have kg : ∀ k, k = 0 ∨ k = 2 ∨ k = 3 ∨ k = 4 ∨ k = 5 ∨ k = 6 ∨ k = 55 → gm2 k = gm k := fun k hk => k2 k (by rcases hk with q | q | q | q | q | q | q <;> rw [q] <;> decide)
  have kn : ∀ k, k = 6 ∨ k = 7 ∨ k = 8 ∨ k = 9 ∨ k = 10 ∨ k = 11 ∨ k = 12 → gn2 k = gn k := fun k hk => j2 k (by rcases hk with q | q | q | q | q | q | q <;> rw [q] <;> decide)
  rcases fA with ⟨_, p, a2, ⟨z, a3, a4⟩, a5⟩ | ⟨_, a2, a3, s8, s9, s10, s7, s54⟩
  · obtain ⟨hc, hnm, hT⟩ := hP p
    have e7 := (b.1 c hc).2.2.2.1
    rcases gA with ⟨_, _, b2, ⟨z2, b3, b4⟩, b5, b6, b7, b8, b9⟩ | ⟨_, b2, _⟩
    · exact CLX_f b hc hT hnm a2 a3 a4 a5 kg b3 b4 b5 b6 b7 b8 b9 kn
    · rcases b2 with q | q
      · exact absurd p q
      · omega
  · rcases gA with ⟨_, p, b2, _⟩ | ⟨_, b2, b3, b4, b5, b6, b7, b8⟩
    · have e7 := (b.1 c (hP p).1).2.2.2.1
      rcases a2 with q | q
      · exact absurd p q
      · omega
    · refine CLX_e b (fun k hk => ?_) (fun k hk => ?_)
      · rcases hk with q | q | q | q | q | q | q | q | q | q | q | q | q <;> rw [q]
        · exact kg 0 (by decide)
        · exact a3
        · exact kg 2 (by decide)
        · exact kg 3 (by decide)
        · exact kg 4 (by decide)
        · exact kg 5 (by decide)
        · exact kg 6 (by decide)
        · exact s7
        · exact s8
        · exact s9
        · exact s10
        · exact s54
        · exact kg 55 (by decide)
      · rcases hk with q | q | q | q | q | q | q | q | q | q | q | q | q <;> rw [q]
        · exact kn 6 (by decide)
        · exact kn 7 (by decide)
        · exact kn 8 (by decide)
        · exact kn 9 (by decide)
        · exact kn 10 (by decide)
        · exact kn 11 (by decide)
        · exact kn 12 (by decide)
        · exact b3
        · exact b4
        · exact b6
        · exact b7
        · exact b8
        · exact b5
theorem R_set {P : Prop} {r r2 m v : Int32} {c : Nat} (h : REL sg gm lg sm gn ln) (hP : P → c < 8 ∧ (0 ≤ m.toInt ∧ m.toInt ≤ 25) ∧ ty9 v.toInt) (fS : ADS9 P r c m.toNatClampNeg v (gm 3) (gm2 3) (gm 55) (gm2 55)) (k2 : KS [3, 55] gm gm2) (gS : RAS P r2 c m v gn gn2) (j2 : KS [10, 11, 12] gn gn2) : CLX gm2 gn2 := by
  have b := h.2.1
  have kg : ∀ k, k = 0 ∨ k = 1 ∨ k = 2 ∨ k = 4 ∨ k = 5 ∨ k = 6 ∨ k = 7 ∨ k = 8 ∨ k = 9 ∨ k = 10 ∨ k = 54 → gm2 k = gm k := fun k hk => k2 k (by rcases hk with q | q | q | q | q | q | q | q | q | q | q <;> rw [q] <;> decide)
  have kn : ∀ k, k = 6 ∨ k = 7 ∨ k = 8 ∨ k = 9 ∨ k = 13 ∨ k = 14 ∨ k = 15 ∨ k = 16 ∨ k = 17 ∨ k = 18 → gn2 k = gn k := fun k hk => j2 k (by rcases hk with q | q | q | q | q | q | q | q | q | q <;> rw [q] <;> decide)
  rcases fS with ⟨_, p, a2, a3, ⟨z, a4, a5⟩, a6⟩ | ⟨_, a2, a3, a4⟩
  · obtain ⟨hc, hm, hv⟩ := hP p
    have e3 := (b.2.2.2.2.2 c hc).1
    have hno := (CLX_has b hc hm).mp a3
    rcases gS with ⟨_, _, b2, b3, ⟨z2, b4, b5⟩, b6, b7⟩ | ⟨_, b2, _⟩
    · exact CLX_s b hc hm hv a2 a4 a5 a6 kg b3 b4 b5 b6 b7 kn
    · rcases b2 with q | q | ⟨i, q1, q2⟩
      · exact absurd p q
      · omega
      · exact absurd q2 (hno i q1)
  · rcases gS with ⟨_, p, b2, b3, _⟩ | ⟨_, b2, b3, b4, b5⟩
    · obtain ⟨hc, hm, hv⟩ := hP p
      have e3 := (b.2.2.2.2.2 c hc).1
      rcases a2 with q | q | q
      · exact absurd p q
      · omega
      · exact absurd ((CLX_has b hc hm).mpr b3) q
    · refine CLX_e b (fun k hk => ?_) (fun k hk => ?_)
      · rcases hk with q | q | q | q | q | q | q | q | q | q | q | q | q <;> rw [q]
        · exact kg 0 (by decide)
        · exact kg 1 (by decide)
        · exact kg 2 (by decide)
        · exact a3
        · exact kg 4 (by decide)
        · exact kg 5 (by decide)
        · exact kg 6 (by decide)
        · exact kg 7 (by decide)
        · exact kg 8 (by decide)
        · exact kg 9 (by decide)
        · exact kg 10 (by decide)
        · exact kg 54 (by decide)
        · exact a4
      · rcases hk with q | q | q | q | q | q | q | q | q | q | q | q | q <;> rw [q]
        · exact kn 6 (by decide)
        · exact kn 7 (by decide)
        · exact kn 8 (by decide)
        · exact kn 9 (by decide)
        · exact b3
        · exact b4
        · exact b5
        · exact kn 13 (by decide)
        · exact kn 14 (by decide)
        · exact kn 15 (by decide)
        · exact kn 16 (by decide)
        · exact kn 17 (by decide)
        · exact kn 18 (by decide)
theorem TY_s {n a b d : Int32} (h : 0 ≤ n.toInt ∧ n.toInt ≤ 3 ∧ (1 ≤ n.toInt → (0 ≤ a.toInt ∧ a.toInt ≤ 4 ∨ 8 ≤ a.toInt ∧ a.toInt ≤ 15)) ∧ (2 ≤ n.toInt → (0 ≤ b.toInt ∧ b.toInt ≤ 4 ∨ 8 ≤ b.toInt ∧ b.toInt ≤ 15)) ∧ (3 ≤ n.toInt → (0 ≤ d.toInt ∧ d.toInt ≤ 4 ∨ 8 ≤ d.toInt ∧ d.toInt ≤ 15))) : TYS n a b d :=
  ⟨h.1, h.2.1, fun q => (h.2.2.1 q).imp id And.left, fun q => (h.2.2.2.1 q).imp id And.left, fun q => (h.2.2.2.2 q).imp id And.left⟩
end RD8
end
section
section RK8
variable {sg sg2 sm sm2 : Nat → Int32} {gm gm2 gn gn2 : Nat → Nat → Int32} {lg lg2 ln ln2 : Nat → Nat → Int64} {S : S9} {Ls Lg Lm Ln : List Nat}
theorem CLX_st (h : CLX gm gn) : CLX (st9 gm) (rt9 gn) := CLX_e h (fun k hk => st9_e (by rcases hk with q | q | q | q | q | q | q | q | q | q | q | q | q <;> rw [q] <;> decide)) (fun k hk => rt9_e (by rcases hk with q | q | q | q | q | q | q | q | q | q | q | q | q <;> rw [q] <;> decide))
theorem WD_of (h : WRD7 (ln 0) (ln 1)) : WD9 ln := by
  obtain ⟨_, _, _, _, _, _, _, _, _, _, a9, a10⟩ := h
  exact ⟨by rw [a9]; decide, by rw [a10]; decide⟩
theorem OB_d (hD : DCR sg gm lg sm gn ln) (hS : SSR sg gm lg sm gn S) : (sm 40).toInt = 0 ∨ OB9 (ss9 sg 12).toNatClampNeg S := by
  rcases hD with ⟨_, d2⟩ | ⟨d1, _⟩
  · exact Or.inl d2
  · exact Or.inr (hS.2.2.2.2.2.2 d1)
theorem ks_o {α : Type} {L : List Nat} {f g : Nat → α} {p : Nat → Bool} (h : KS L f g) (hL : L.all p = true) {k : Nat} (hk : p k = false) : g k = f k := by
  refine h k ?_
  cases q : L.contains k with
  | false => rfl
  | true =>
    have hm := List.contains_iff_mem.mp q
    have := List.all_eq_true.mp hL k hm
    rw [hk] at this; cases this
/-- a call that leaves declared classes, document and making alone -/
theorem REL_k (h : REL sg gm lg sm gn ln) (hT : TXR sg2 gm2 sm2 gn2) (hX : CLX gm2 gn2) (k1 : KS Ls sg sg2) (k2 : KS Lg gm gm2) (k3 : KS [] lg lg2) (j1 : KS Lm sm sm2) (j2 : KS Ln gn gn2) (j3 : KS [] ln ln2) (c1 : Ls.all (fun k => decide (k = 0)) = true) (c2 : Lg.all (fun k => decide (k < 11 ∨ k = 43 ∨ k = 54 ∨ k = 55)) = true) (c3 : Lm.all (fun k => decide (k = 5 ∨ k = 20)) = true) (c4 : Ln.all (fun k => decide (5 ≤ k ∧ k < 20)) = true) : REL sg2 gm2 lg2 sm2 gn2 ln2 := by
  have e1 := KS_nil k3
  have e2 := KS_nil j3
  rw [← e1, ← e2]
  refine REL_e h ⟨hT, ENT_k h.1.2.1 (ks_o j2 c4 (by decide)) (ks_o j2 c4 (by decide)) rfl, h.1.2.2⟩ hX (fun k hk => ks_o k1 c1 (decide_eq_false (by omega))) (fun k hk => ks_o k2 c2 (decide_eq_false (by omega))) (fun k hk => ks_o j1 c3 (decide_eq_false (by omega))) (fun k hk => ks_o j2 c4 (decide_eq_false (by omega)))
theorem CLX_k (h : CLX gm gn) (k2 : KS Lg gm gm2) (j2 : KS Ln gn gn2) (c2 : Lg.all (fun k => decide (10 < k ∧ ¬ k = 54 ∧ ¬ k = 55)) = true) (c4 : Ln.all (fun k => decide (18 < k)) = true) : CLX gm2 gn2 :=
  CLX_e h (fun k hk => ks_o k2 c2 (decide_eq_false (by omega))) (fun k hk => ks_o j2 c4 (decide_eq_false (by omega)))
/-- class and reference as they are made -/
def IN8 (sm : Nat → Int32) (gn : Nat → Nat → Int32) : Prop := (∀ k, k < 8 → gn 6 k = -1) ∧ (∀ k, k = 7 ∨ k = 10 ∨ k = 13 → gn k = fun _ => 0) ∧ ∀ k, k = 40 ∨ k = 41 ∨ k = 48 ∨ k = 49 ∨ k = 50 → sm k = 0
def IN9c (sg : Nat → Int32) (gm : Nat → Nat → Int32) : Prop := (∀ k, k = 1 ∨ k = 12 ∨ k = 13 ∨ k = 14 ∨ k = 15 → sg k = 0) ∧ (∀ k, k = 0 ∨ k = 1 ∨ k = 3 ∨ k = 7 → gm k = fun _ => 0) ∧ (∀ c, gm 4 c = -1) ∧ (∀ j, gm 55 j = -1) ∧ FXD gm ∧ N28 gm
theorem REL_0 (h7 : REL7 sg gm sm gn ln) (hc : IN9c sg gm) (hr : IN8 sm gn) : REL sg gm lg sm gn ln := by
  obtain ⟨c1, c2, c3, c4, c5, c6⟩ := hc
  obtain ⟨r1, r2, r3⟩ := hr
  have z : (0 : Int32).toInt = 0 := by decide
  have zn : (0 : Int32).toNatClampNeg = 0 := by decide
  have m1 : (-1 : Int32).toInt = -1 := by decide
  have q0 : ∀ k, k = 0 ∨ k = 1 ∨ k = 3 ∨ k = 7 → ∀ j, gm k j = 0 := fun k hk j => by rw [c2 k hk]
  have p0 : ∀ k, k = 7 ∨ k = 10 ∨ k = 13 → ∀ j, gn k j = 0 := fun k hk j => by rw [r2 k hk]
  refine ⟨h7, ⟨fun c hc => ?_, c5, ⟨fun c hc => ?_, fun s _ => ?_⟩, fun s p _ hp => ?_, fun c n _ _ => ?_, fun c hc => ?_⟩, c6, Or.inl ⟨by rw [c1 1 (by decide)]; exact z, by rw [r3 40 (by decide)]; exact z⟩, S0z, ⟨⟨?_, fun k o h => by cases h⟩, ⟨?_, fun k e h => by cases h⟩, fun b hb => ?_, ⟨?_, (fun k b h => by cases h), List.nodup_nil⟩⟩, ⟨⟨?_, fun k o h => by cases h⟩, ⟨?_, fun k e h => by cases h⟩, fun b hb => ?_, ⟨?_, (fun k b h => by cases h), List.nodup_nil⟩⟩, fun t ht => ?_, fun b _ q => absurd (show (0 : Nat) = 2 from q) (by decide), fun t q => absurd (show (0 : Nat) = 1 from q) (by decide), fun _ => ⟨rfl, rfl, rfl, fun _ => rfl⟩, fun _ k o h => by cases h⟩
  · unfold CL9
    rw [q0 0 (by decide), q0 1 (by decide), p0 7 (by decide), p0 13 (by decide), p0 10 (by decide), zn, r1 c hc, c3 c]
    exact ⟨(c5 c hc).1, rfl, rfl, rfl, fun i hi => absurd hi (Nat.not_lt_zero _), fun i hi => absurd hi (Nat.not_lt_zero _), fun i hi => absurd hi (Nat.not_lt_zero _), fun n _ _ => by rw [c4]; exact m1⟩
  · rw [q0 0 (by decide), q0 1 (by decide), q0 3 (by decide), z]; omega
  · rw [q0 7 (by decide), z]; omega
  · rw [q0 7 (by decide), zn] at hp; exact absurd hp (Nat.not_lt_zero _)
  · exact Or.inl (by rw [c4]; exact m1)
  · rw [p0 10 (by decide), q0 3 (by decide), zn]; exact ⟨rfl, fun k hk => absurd hk (Nat.not_lt_zero _)⟩
  · rw [c1 14 (by decide)]; exact z
  · rw [c1 13 (by decide)]; exact z
  · rw [c1 12 (by decide), zn] at hb; exact absurd hb (Nat.not_lt_zero _)
  · rw [c1 15 (by decide)]; exact z
  · rw [r3 48 (by decide)]; exact z
  · rw [r3 49 (by decide)]; exact z
  · rw [r3 41 (by decide), zn] at hb; exact absurd hb (Nat.not_lt_zero _)
  · rw [r3 50 (by decide)]; exact z
  · rcases ht with q | q
    · exact absurd (show (0 : Nat) = 2 from q) (by decide)
    · exact absurd (show (0 : Nat) = 1 from q.1) (by decide)
end RK8
end
section
theorem cat_r (a : Nat) : (Value.ref a).category = 1 := rfl
def oE (cO : ClassId) (f : Nat → Int64) : va_E := .inl (cO, 1, .inr (.inl f))
/-- what is not a what, for the catches -/
def NE (U : State) : Prop := va_Nc "java/lang/UnsupportedOperationException" "java/lang/IllegalStateException" U ∧ va_Nc "java/lang/UnsupportedOperationException" "java/lang/IndexOutOfBoundsException" U ∧ va_Nc "java/lang/IndexOutOfBoundsException" "java/lang/IllegalStateException" U
theorem NE.moved {u U : State} (hvm : u.vm.Alike U.vm) (h : NE u) : NE U := ⟨va_Nc.moved hvm h.1, va_Nc.moved hvm h.2.1, va_Nc.moved hvm h.2.2⟩
section HM
variable (dC : Nat → ClassId) (dI : Nat → Nat → Nat) (ad : Nat → Nat → Nat) (cid : Nat → ClassId) (cO : ClassId) (qo : Nat)
def HPre (a2 : Nat → Nat) (lx : List Nat) (sg : Nat → Int32) (gm : Nat → Nat → Int32) (lg : Nat → Nat → Int64) (f : Nat → Int64) (sz : Nat) (U : State) : Prop := U.heap.size = sz ∧ va_P (dC, dI) vwCl (cW ad cid a2 lx sg gm lg ++ [(qo, oE cO f)]) U.heap ∧ va_K (dC, dI) vwCl (cT cid ++ [(cO, .long)]) U ∧ va_D (fun _ => True) (cW ad cid a2 lx sg gm lg ++ [(qo, oE cO f)]) ∧ CE ad (va_A (cW ad cid a2 lx sg gm lg ++ [(qo, oE cO f)]) sz) U ∧ NE U
def cQh (post : Int32 → CSg → (Nat → Int64) → Prop) (k : Nat) (gm : Nat → Nat → Int32) (A : Nat → Prop) : Array Value → State → Outcome → State → Prop := fun _ st oc t => (∃ (r : Int32) (u : CSg) (f2 : Nat → Int64), oc = .returned (some (.int r)) ∧ post r u f2 ∧ (va_P (dC, dI) vwCl (CSg.w ad cid u ++ [(qo, oE cO f2)]) t.heap ∧ va_K (dC, dI) vwCl (cT cid ++ [(cO, .long)]) t ∧ va_D A (CSg.w ad cid u ++ [(qo, oE cO f2)])) ∧ PHs gm ≤ PHs u.2.2.2.1 ∧ NBw st.heap t.heap (gc gm u.2.2.2.1 k) (gs gm u.2.2.2.1 k)) ∧ va_F A st t
def HM (l : Launch) (y : MethodName) (ws : List Cond) (rm : Room) (as : List Value) (a2 : Nat → Nat) (lx : List Nat) (sg : Nat → Int32) (gm : Nat → Nat → Int32) (lg : Nat → Nat → Int64) (f : Nat → Int64) (k mc ms : Nat) (post : Int32 → CSg → (Nat → Int64) → Prop) : Prop :=
  ∀ sz, vx_Met l y ws rm (va_Pc as (HPre dC dI ad cid cO qo a2 lx sg gm lg f sz)) (cQh dC dI ad cid cO qo post k gm (va_A (cW ad cid a2 lx sg gm lg ++ [(qo, oE cO f)]) sz)) (fun _ _ _ => False) mc ms (va_A (cW ad cid a2 lx sg gm lg ++ [(qo, oE cO f)]) sz)
end HM
theorem cTo {cid : Nat → ClassId} {cO : ClassId} : (cT cid ++ [(cO, FieldType.long)])[33]? = some (cO, .long) := by rw [List.getElem?_append_right (by rw [cT_len]; decide), cT_len]; rfl
theorem wOo {w : va_W} {x : Nat × va_E} : (w ++ [x])[w.length]? = some x := by rw [List.getElem?_append_right (Nat.le_refl _), Nat.sub_self]; rfl
theorem dL_read_0g : decode cL_read 0 = .ok (.aload_n 1, 1) ∧ decode cL_read 1 = .ok (.iconst 0, 1) ∧ decode cL_read 2 = .ok (.aload_n 0, 1) ∧ decode cL_read 3 = .ok (.invokevirtual 7, 3) ∧ decode cL_read 6 = .ok (.i2l, 1) ∧ decode cL_read 7 = .ok (.lastore, 1) ∧ decode cL_read 8 = .ok (.goto 6, 3) ∧ decode cL_read 11 = .ok (.astore_n 2, 1) ∧ decode cL_read 12 = .ok (.iconst 1, 1) ∧ decode cL_read 13 = .ok (.ireturn, 1) ∧ decode cL_read 14 = .ok (.iconst 0, 1) ∧ decode cL_read 15 = .ok (.ireturn, 1) := by decide +kernel
theorem dL_read_0 : decode cL_read 0 = .ok (.aload_n 1, 1) := dL_read_0g.1
theorem dL_read_1 : decode cL_read 1 = .ok (.iconst 0, 1) := dL_read_0g.2.1
theorem dL_read_2 : decode cL_read 2 = .ok (.aload_n 0, 1) := dL_read_0g.2.2.1
theorem dL_read_3 : decode cL_read 3 = .ok (.invokevirtual 7, 3) := dL_read_0g.2.2.2.1
theorem dL_read_6 : decode cL_read 6 = .ok (.i2l, 1) := dL_read_0g.2.2.2.2.1
theorem dL_read_7 : decode cL_read 7 = .ok (.lastore, 1) := dL_read_0g.2.2.2.2.2.1
theorem dL_read_8 : decode cL_read 8 = .ok (.goto 6, 3) := dL_read_0g.2.2.2.2.2.2.1
theorem dL_read_11 : decode cL_read 11 = .ok (.astore_n 2, 1) := dL_read_0g.2.2.2.2.2.2.2.1
theorem dL_read_12 : decode cL_read 12 = .ok (.iconst 1, 1) := dL_read_0g.2.2.2.2.2.2.2.2.1
theorem dL_read_13 : decode cL_read 13 = .ok (.ireturn, 1) := dL_read_0g.2.2.2.2.2.2.2.2.2.1
theorem dL_read_14 : decode cL_read 14 = .ok (.iconst 0, 1) := dL_read_0g.2.2.2.2.2.2.2.2.2.2.1
theorem dL_read_15 : decode cL_read 15 = .ok (.ireturn, 1) := dL_read_0g.2.2.2.2.2.2.2.2.2.2.2
theorem dL_refresh_0g : decode cL_refresh 0 = .ok (.aload_n 1, 1) ∧ decode cL_refresh 1 = .ok (.iconst 0, 1) ∧ decode cL_refresh 2 = .ok (.aload_n 0, 1) ∧ decode cL_refresh 3 = .ok (.invokevirtual 15, 3) ∧ decode cL_refresh 6 = .ok (.i2l, 1) ∧ decode cL_refresh 7 = .ok (.lastore, 1) ∧ decode cL_refresh 8 = .ok (.goto 9, 3) ∧ decode cL_refresh 11 = .ok (.astore_n 2, 1) ∧ decode cL_refresh 12 = .ok (.iconst 1, 1) ∧ decode cL_refresh 13 = .ok (.ireturn, 1) ∧ decode cL_refresh 14 = .ok (.astore_n 2, 1) ∧ decode cL_refresh 15 = .ok (.iconst 2, 1) ∧ decode cL_refresh 16 = .ok (.ireturn, 1) ∧ decode cL_refresh 17 = .ok (.iconst 0, 1) ∧ decode cL_refresh 18 = .ok (.ireturn, 1) := by decide +kernel
theorem dL_refresh_0 : decode cL_refresh 0 = .ok (.aload_n 1, 1) := dL_refresh_0g.1
theorem dL_refresh_1 : decode cL_refresh 1 = .ok (.iconst 0, 1) := dL_refresh_0g.2.1
theorem dL_refresh_2 : decode cL_refresh 2 = .ok (.aload_n 0, 1) := dL_refresh_0g.2.2.1
theorem dL_refresh_3 : decode cL_refresh 3 = .ok (.invokevirtual 15, 3) := dL_refresh_0g.2.2.2.1
theorem dL_refresh_6 : decode cL_refresh 6 = .ok (.i2l, 1) := dL_refresh_0g.2.2.2.2.1
theorem dL_refresh_7 : decode cL_refresh 7 = .ok (.lastore, 1) := dL_refresh_0g.2.2.2.2.2.1
theorem dL_refresh_8 : decode cL_refresh 8 = .ok (.goto 9, 3) := dL_refresh_0g.2.2.2.2.2.2.1
theorem dL_refresh_11 : decode cL_refresh 11 = .ok (.astore_n 2, 1) := dL_refresh_0g.2.2.2.2.2.2.2.1
theorem dL_refresh_12 : decode cL_refresh 12 = .ok (.iconst 1, 1) := dL_refresh_0g.2.2.2.2.2.2.2.2.1
theorem dL_refresh_13 : decode cL_refresh 13 = .ok (.ireturn, 1) := dL_refresh_0g.2.2.2.2.2.2.2.2.2.1
theorem dL_refresh_14 : decode cL_refresh 14 = .ok (.astore_n 2, 1) := dL_refresh_0g.2.2.2.2.2.2.2.2.2.2.1
theorem dL_refresh_15 : decode cL_refresh 15 = .ok (.iconst 2, 1) := dL_refresh_0g.2.2.2.2.2.2.2.2.2.2.2.1
theorem dL_refresh_16 : decode cL_refresh 16 = .ok (.ireturn, 1) := dL_refresh_0g.2.2.2.2.2.2.2.2.2.2.2.2.1
theorem dL_refresh_17 : decode cL_refresh 17 = .ok (.iconst 0, 1) := dL_refresh_0g.2.2.2.2.2.2.2.2.2.2.2.2.2.1
theorem dL_refresh_18 : decode cL_refresh 18 = .ok (.ireturn, 1) := dL_refresh_0g.2.2.2.2.2.2.2.2.2.2.2.2.2.2
theorem dL_get_0g : decode cL_get 0 = .ok (.aload_n 3, 1) ∧ decode cL_get 1 = .ok (.iconst 0, 1) ∧ decode cL_get 2 = .ok (.aload_n 0, 1) ∧ decode cL_get 3 = .ok (.lload_n 1, 1) ∧ decode cL_get 4 = .ok (.invokevirtual 22, 3) ∧ decode cL_get 7 = .ok (.i2l, 1) ∧ decode cL_get 8 = .ok (.lastore, 1) ∧ decode cL_get 9 = .ok (.goto 11, 3) ∧ decode cL_get 12 = .ok (.astore 4, 2) ∧ decode cL_get 14 = .ok (.iconst 1, 1) ∧ decode cL_get 15 = .ok (.ireturn, 1) ∧ decode cL_get 16 = .ok (.astore 4, 2) ∧ decode cL_get 18 = .ok (.iconst 2, 1) ∧ decode cL_get 19 = .ok (.ireturn, 1) ∧ decode cL_get 20 = .ok (.iconst 0, 1) ∧ decode cL_get 21 = .ok (.ireturn, 1) := by decide +kernel
theorem dL_get_0 : decode cL_get 0 = .ok (.aload_n 3, 1) := dL_get_0g.1
theorem dL_get_1 : decode cL_get 1 = .ok (.iconst 0, 1) := dL_get_0g.2.1
theorem dL_get_2 : decode cL_get 2 = .ok (.aload_n 0, 1) := dL_get_0g.2.2.1
theorem dL_get_3 : decode cL_get 3 = .ok (.lload_n 1, 1) := dL_get_0g.2.2.2.1
theorem dL_get_4 : decode cL_get 4 = .ok (.invokevirtual 22, 3) := dL_get_0g.2.2.2.2.1
theorem dL_get_7 : decode cL_get 7 = .ok (.i2l, 1) := dL_get_0g.2.2.2.2.2.1
theorem dL_get_8 : decode cL_get 8 = .ok (.lastore, 1) := dL_get_0g.2.2.2.2.2.2.1
theorem dL_get_9 : decode cL_get 9 = .ok (.goto 11, 3) := dL_get_0g.2.2.2.2.2.2.2.1
theorem dL_get_12 : decode cL_get 12 = .ok (.astore 4, 2) := dL_get_0g.2.2.2.2.2.2.2.2.1
theorem dL_get_14 : decode cL_get 14 = .ok (.iconst 1, 1) := dL_get_0g.2.2.2.2.2.2.2.2.2.1
theorem dL_get_15 : decode cL_get 15 = .ok (.ireturn, 1) := dL_get_0g.2.2.2.2.2.2.2.2.2.2.1
theorem dL_get_16 : decode cL_get 16 = .ok (.astore 4, 2) := dL_get_0g.2.2.2.2.2.2.2.2.2.2.2.1
theorem dL_get_18 : decode cL_get 18 = .ok (.iconst 2, 1) := dL_get_0g.2.2.2.2.2.2.2.2.2.2.2.2.1
theorem dL_get_19 : decode cL_get 19 = .ok (.ireturn, 1) := dL_get_0g.2.2.2.2.2.2.2.2.2.2.2.2.2.1
theorem dL_get_20 : decode cL_get 20 = .ok (.iconst 0, 1) := dL_get_0g.2.2.2.2.2.2.2.2.2.2.2.2.2.2.1
theorem dL_get_21 : decode cL_get 21 = .ok (.ireturn, 1) := dL_get_0g.2.2.2.2.2.2.2.2.2.2.2.2.2.2.2
theorem dL_call_0g : decode cL_call 0 = .ok (.aload_n 3, 1) ∧ decode cL_call 1 = .ok (.iconst 0, 1) ∧ decode cL_call 2 = .ok (.aload_n 0, 1) ∧ decode cL_call 3 = .ok (.iload_n 1, 1) ∧ decode cL_call 4 = .ok (.iload_n 2, 1) ∧ decode cL_call 5 = .ok (.invokevirtual 26, 3) ∧ decode cL_call 8 = .ok (.i2l, 1) ∧ decode cL_call 9 = .ok (.lastore, 1) ∧ decode cL_call 10 = .ok (.goto 15, 3) ∧ decode cL_call 13 = .ok (.astore 4, 2) ∧ decode cL_call 15 = .ok (.iconst 1, 1) ∧ decode cL_call 16 = .ok (.ireturn, 1) ∧ decode cL_call 17 = .ok (.astore 4, 2) ∧ decode cL_call 19 = .ok (.iconst 2, 1) ∧ decode cL_call 20 = .ok (.ireturn, 1) ∧ decode cL_call 21 = .ok (.astore 4, 2) := by decide +kernel
theorem dL_call_0 : decode cL_call 0 = .ok (.aload_n 3, 1) := dL_call_0g.1
theorem dL_call_1 : decode cL_call 1 = .ok (.iconst 0, 1) := dL_call_0g.2.1
theorem dL_call_2 : decode cL_call 2 = .ok (.aload_n 0, 1) := dL_call_0g.2.2.1
theorem dL_call_3 : decode cL_call 3 = .ok (.iload_n 1, 1) := dL_call_0g.2.2.2.1
theorem dL_call_4 : decode cL_call 4 = .ok (.iload_n 2, 1) := dL_call_0g.2.2.2.2.1
theorem dL_call_5 : decode cL_call 5 = .ok (.invokevirtual 26, 3) := dL_call_0g.2.2.2.2.2.1
theorem dL_call_8 : decode cL_call 8 = .ok (.i2l, 1) := dL_call_0g.2.2.2.2.2.2.1
theorem dL_call_9 : decode cL_call 9 = .ok (.lastore, 1) := dL_call_0g.2.2.2.2.2.2.2.1
theorem dL_call_10 : decode cL_call 10 = .ok (.goto 15, 3) := dL_call_0g.2.2.2.2.2.2.2.2.1
theorem dL_call_13 : decode cL_call 13 = .ok (.astore 4, 2) := dL_call_0g.2.2.2.2.2.2.2.2.2.1
theorem dL_call_15 : decode cL_call 15 = .ok (.iconst 1, 1) := dL_call_0g.2.2.2.2.2.2.2.2.2.2.1
theorem dL_call_16 : decode cL_call 16 = .ok (.ireturn, 1) := dL_call_0g.2.2.2.2.2.2.2.2.2.2.2.1
theorem dL_call_17 : decode cL_call 17 = .ok (.astore 4, 2) := dL_call_0g.2.2.2.2.2.2.2.2.2.2.2.2.1
theorem dL_call_19 : decode cL_call 19 = .ok (.iconst 2, 1) := dL_call_0g.2.2.2.2.2.2.2.2.2.2.2.2.2.1
theorem dL_call_20 : decode cL_call 20 = .ok (.ireturn, 1) := dL_call_0g.2.2.2.2.2.2.2.2.2.2.2.2.2.2.1
theorem dL_call_21 : decode cL_call 21 = .ok (.astore 4, 2) := dL_call_0g.2.2.2.2.2.2.2.2.2.2.2.2.2.2.2
theorem dL_call_23g : decode cL_call 23 = .ok (.iconst 3, 1) ∧ decode cL_call 24 = .ok (.ireturn, 1) ∧ decode cL_call 25 = .ok (.iconst 0, 1) ∧ decode cL_call 26 = .ok (.ireturn, 1) := by decide +kernel
theorem dL_call_23 : decode cL_call 23 = .ok (.iconst 3, 1) := dL_call_23g.1
theorem dL_call_24 : decode cL_call 24 = .ok (.ireturn, 1) := dL_call_23g.2.1
theorem dL_call_25 : decode cL_call 25 = .ok (.iconst 0, 1) := dL_call_23g.2.2.1
theorem dL_call_26 : decode cL_call 26 = .ok (.ireturn, 1) := dL_call_23g.2.2.2

set_option maxHeartbeats 4000000 in
set_option maxRecDepth 100000 in
theorem d_hread (l : Launch) (hl9 : l.stackTraces = false) (dC : Nat → ClassId) (dI : Nat → Nat → Nat) (ad : Nat → Nat → Nat) (cid : Nat → ClassId) (cO : ClassId) (qo : Nat) (a2 : Nat → Nat) (lx : List Nat) (sg : Nat → Int32) (gm : Nat → Nat → Int32) (lg : Nat → Nat → Int64) (f : Nat → Int64) (it : Nat) (hKI : KI it lx sg gm lg) (hit : it ≤ 600) (ch : Nat → Int) (N9 : Nat) (hch0 : CHR ch N9 (sg 0) (gm 43)) (hpc : PC7 ch) : HM dC dI ad cid cO qo l yL_read wm_L_read ({ frames := 18, cells := 304803, slots := 1219339, locals := 442 }) [eV (ad 0) 0, .ref qo] a2 lx sg gm lg f 2 304803 1219339 (fun r u f2 => KI (it + 1) u.2.1 u.2.2.1 u.2.2.2.1 u.2.2.2.2 ∧ CI u.2.2.1 u.2.2.2.1 ∧ KS [11, 12, 13, 14, 15, 16, 17, 18, 19, 20, 21, 22, 23, 24, 25, 26, 27, 29, 30, 31, 32, 33, 34, 35, 36, 37, 38, 39, 40, 41, 42, 44, 45, 46, 47, 56, 57] gm u.2.2.2.1 ∧ ∃ x9 : Int32, (r.toInt = 0 → f2 0 = x9.toInt64) ∧ RD8c ch N9 u.2.2.1 u.2.2.2.1 u.2.2.2.2 r.toInt x9.toInt) := by
  intro sz
  refine vx_ofWH (cc := cL_read) (maxL := 3) (ret := (some .int)) (by decide) rfl ?_
  intro p e s m args below meth c s₁ B hml hv
  obtain ⟨rfl, hsz, hP, hK, hD0, hG, hN9⟩ := hv
  have hx := B.exec
  have hb := B.bytes
  have hr := B.returns
  have hts := atoms_spec (ws := wm_L_read) B.pre
  have htb := fun (w : Cond) (h : w ∈ tb) => hts w (List.mem_cons_of_mem _ h)
  have hown : s.vm.findClass RL = some m.cls := findClass_of_methodNamed B.named
  have hlocks := B.notSynchronized
  have hxt := vx_table (x := yL_read) B (hts _ List.mem_cons_self)
  subst hsz
  have hD := hD0.self (sz := s.heap.size)
  generalize hAe : va_A (cW ad cid a2 lx sg gm lg ++ [(qo, oE cO f)]) s.heap.size = A at hD hG ⊢
  have hA : ∀ q : Nat, s.heap.size ≤ q → A q := fun q h => by rw [← hAe]; exact Or.inr h
  have hS : va_S A s.heap s.heap [] := va_S.rf
  have hl := lv_entry ([eV (ad 0) 0, .ref qo]) (n := 3) (by rw [show (lg_sl ([eV (ad 0) 0, .ref qo])).length = 2 from by simp [lg_sl, eV_cat, cat_i, cat_l, cat_r]]; exact Nat.le_of_ble_eq_true rfl)
  rw [lg_entry_eq]
  generalize (lg_sl ([eV (ad 0) 0, .ref qo]) ++ List.replicate (3 - (lg_sl ([eV (ad 0) 0, .ref qo])).length) Slot.unset).toArray = ls at hl ⊢
  have hl : lv_has ls 3 [(0, eV (ad 0) 0), (1, .ref qo)] := by simp [lv_args, eV_cat, cat_i, cat_l, cat_r] at hl; exact hl
  obtain ⟨kI, kLD, kFN, kBE, kU12, kU18, kDC⟩ := id hKI
  refine lv_aload_n hx hb dL_read_0 rfl (lv_at hl 1 rfl) ?_
  refine lv_iconst (v := 0) hx hb dL_read_1 (by decide) ?_
  refine ec_aload_n hx hb dL_read_2 rfl (lv_at hl 0 rfl) ?_
  refine lw_callG (r := [(qo, oE cO f)]) (tr := [(cO, .long)]) (rest := [.int 0, .ref qo]) (as := []) ⟨hx, hb, hml, hown, htb⟩ (d_read9 l dC dI ad cid a2 lx sg gm lg hl9 0 ch N9 (1203 * it) kI (iv_k (by decide) : iv 0 0 0) (show UB 12 (1203 * it) gm from kU12) kU18 (by omega) kLD hch0 hpc) (cwV 0 htb (gd_V kw_535 kw_536 kw_537 kw_146 kw_1420) rfl rfl rfl (by decide +kernel) ⟨Nat.le_of_ble_eq_true rfl, Nat.le_of_ble_eq_true rfl⟩) (iv_k (by decide) : iv 0 0 0) rfl hl.1 rfl (Nat.le_trans (cs_c (cat_i _) (cs_c (cat_r _) cs_n)) (by decide)) dL_read_3 ⟨Nat.le_of_ble_eq_true rfl, Nat.le_of_ble_eq_true rfl⟩ hK hP hD hS hA hG (fun E ce q9 u H locs hw hmu hP hD hS hce hcv hcl => ?_) (fun v9 u H locs hw hmu hP hD hS => ?_)
  · obtain ⟨hE, a29, lx9, sg9, gm9, lg9, rfl, hI9, k1, k2, k3, xU12, xU18, xLD, x15, x12, x1, x13, x14, x0, xA⟩ := hw
    have hKx : KI (it + 1) lx9 sg9 gm9 lg9 := KI_rx hI9 xU12 xU18 xLD x15 x12 x1
    subst hE
    refine mc_catch (own := RL) (name := "java/lang/IllegalArgumentException") hown ⟨0, 8, 11, 13⟩ [] hxt (by decide) (by decide) (htb _ kw_534) (va_Nw.use rfl hG.1.2.1.1) hce hcv hcl ?_
    refine lv_astore_n (lv' := [(2, .ref q9), (0, eV (ad 0) 0), (1, .ref qo)]) hx hb dL_read_11 rfl hl (by decide) (by simp [List.filter, eV_cat, cat_i, cat_l, cat_r]) (fun ls hl => ?_)
    refine lv_iconst (v := 1) hx hb dL_read_12 (by decide) ?_
    exact W.nb (fun hN => W.widen (k := 304803) (n := 1219339) (Nat.le_trans (Nat.add_le_add_left (gc_l0 (gm := gm) hI9) 0) (Nat.le_of_ble_eq_true rfl)) (Nat.le_trans (Nat.add_le_add_left (gs_l0 (gm := gm) hI9) 0) (Nat.le_of_ble_eq_true rfl)) (vx_ret (W.iret (v := 1) hx hb hr (fun t ht hW => ⟨⟨1, (a29, lx9, sg9, gm9, lg9), _, rfl, ⟨hKx, hI9, k2, 0, (fun q => absurd q (by decide)), ⟨x0, x13, x14, x15⟩, Or.inl ⟨(by decide), xA, x12, x1⟩⟩, ⟨by rw [ht]; exact hP, va_K.moved hW.alike hK, hD⟩, hmu, by rw [ht]; exact NBw_w hN (by rw [Nat.zero_add]; exact gc_e rfl (by decide)) (by rw [Nat.zero_add]; exact gs_e rfl (by decide))⟩, hS.F ht⟩) hS.2.2 dL_read_13)))
  · obtain ⟨r9, rfl, a29, lx9, sg9, gm9, lg9, rfl, hI9, k1, k2, k3, hr9, fU12, fU18, fLD, f15, fW, f13, f14, f1n, f0, fA⟩ := hw
    have hKr : KI (it + 1) lx9 sg9 gm9 lg9 := KI_rd hI9 fU12 fU18 fLD f15 fW
    have hP : va_P (dC, dI) vwCl (cW ad cid a29 lx9 sg9 gm9 lg9 ++ [(qo, oE cO f)]) H := hP
    have hD : va_D A (cW ad cid a29 lx9 sg9 gm9 lg9 ++ [(qo, oE cO f)]) := hD
    refine W.eq (g2 := F0 m 6 ls [.int r9, .int 0, .ref qo]) rfl ?_
    refine lv_i2l (v := r9.toInt64) hx hb dL_read_6 rfl ?_
    refine va_last (D := (dC, dI)) (f := f) hx hb hK hP hD hS _ 33 wOo cTo (vp_in_iff.mpr ⟨by decide, by decide⟩) dL_read_7 (fun H locs hP hD hS => ?_)
    rw [set_last] at hP hD
    refine lv_goto (tgt := 14) hx hb dL_read_8 (by decide) ?_
    refine lv_iconst (v := 0) hx hb dL_read_14 (by decide) ?_
    exact W.nb (fun hN => W.widen (k := 304803) (n := 1219339) (Nat.le_trans (Nat.add_le_add_left (gc_l0 (gm := gm) hI9) 0) (Nat.le_of_ble_eq_true rfl)) (Nat.le_trans (Nat.add_le_add_left (gs_l0 (gm := gm) hI9) 0) (Nat.le_of_ble_eq_true rfl)) (vx_ret (W.iret (v := 0) hx hb hr (fun t ht hW => ⟨⟨0, (a29, lx9, sg9, gm9, lg9), _, rfl, ⟨hKr, hI9, k2, r9, (fun _ => vp_uL), ⟨f0, f13, f14, f15⟩, Or.inr ⟨(by decide), fA.1, fA.2.1, fA.2.2, fW, f1n⟩⟩, ⟨by rw [ht]; exact hP, va_K.moved hW.alike hK, hD⟩, hmu, by rw [ht]; exact NBw_w hN (by rw [Nat.zero_add]; exact gc_e rfl (by decide)) (by rw [Nat.zero_add]; exact gs_e rfl (by decide))⟩, hS.F ht⟩) hS.2.2 dL_read_15)))

set_option maxHeartbeats 4000000 in
set_option maxRecDepth 100000 in
theorem d_hrefresh (l : Launch) (hl9 : l.stackTraces = false) (dC : Nat → ClassId) (dI : Nat → Nat → Nat) (ad : Nat → Nat → Nat) (cid : Nat → ClassId) (cO : ClassId) (qo : Nat) (a2 : Nat → Nat) (lx : List Nat) (sg : Nat → Int32) (gm : Nat → Nat → Int32) (lg : Nat → Nat → Int64) (f : Nat → Int64) (it : Nat) (hKI : KI it lx sg gm lg) (hit : it ≤ 600) (S : S9) (hSV : (sg 1).toInt = 0 ∨ SV (ss9 sg) (st9 gm) lg) (hRC : RC (st9 gm) lg S sg gm) : HM dC dI ad cid cO qo l yL_refresh wm_L_refresh ({ frames := 346, cells := 60963, slots := 243858, locals := 11147 }) [eV (ad 0) 0, .ref qo] a2 lx sg gm lg f 2 60963 243858 (fun r u f2 => KI (it + 1) u.2.1 u.2.2.1 u.2.2.2.1 u.2.2.2.2 ∧ KS [13, 14, 15, 16, 17, 18] sg u.2.2.1 ∧ KS [37, 38, 39, 48, 49, 50, 51, 52, 53] gm u.2.2.2.1 ∧ KS [] lg u.2.2.2.2 ∧ ∃ x9 : Int32, (r.toInt = 0 → f2 0 = x9.toInt64) ∧ HPC sg gm lg S (zRf (ss9 sg) (st9 gm) lg 40 S) u.2.2.1 u.2.2.2.1 r.toInt x9.toInt) := by
  intro sz
  refine vx_ofWH (cc := cL_refresh) (maxL := 3) (ret := (some .int)) (by decide) rfl ?_
  intro p e s m args below meth c s₁ B hml hv
  obtain ⟨rfl, hsz, hP, hK, hD0, hG, hN9⟩ := hv
  have hx := B.exec
  have hb := B.bytes
  have hr := B.returns
  have hts := atoms_spec (ws := wm_L_refresh) B.pre
  have htb := fun (w : Cond) (h : w ∈ tb) => hts w (List.mem_cons_of_mem _ h)
  have hown : s.vm.findClass RL = some m.cls := findClass_of_methodNamed B.named
  have hlocks := B.notSynchronized
  have hxt := vx_table (x := yL_refresh) B (hts _ List.mem_cons_self)
  subst hsz
  have hD := hD0.self (sz := s.heap.size)
  generalize hAe : va_A (cW ad cid a2 lx sg gm lg ++ [(qo, oE cO f)]) s.heap.size = A at hD hG ⊢
  have hA : ∀ q : Nat, s.heap.size ≤ q → A q := fun q h => by rw [← hAe]; exact Or.inr h
  have hS : va_S A s.heap s.heap [] := va_S.rf
  have hl := lv_entry ([eV (ad 0) 0, .ref qo]) (n := 3) (by rw [show (lg_sl ([eV (ad 0) 0, .ref qo])).length = 2 from by simp [lg_sl, eV_cat, cat_i, cat_l, cat_r]]; exact Nat.le_of_ble_eq_true rfl)
  rw [lg_entry_eq]
  generalize (lg_sl ([eV (ad 0) 0, .ref qo]) ++ List.replicate (3 - (lg_sl ([eV (ad 0) 0, .ref qo])).length) Slot.unset).toArray = ls at hl ⊢
  have hl : lv_has ls 3 [(0, eV (ad 0) 0), (1, .ref qo)] := by simp [lv_args, eV_cat, cat_i, cat_l, cat_r] at hl; exact hl
  obtain ⟨kI, kLD, kFN, kBE, kU12, kU18, kDC⟩ := id hKI
  refine lv_aload_n hx hb dL_refresh_0 rfl (lv_at hl 1 rfl) ?_
  refine lv_iconst (v := 0) hx hb dL_refresh_1 (by decide) ?_
  refine ec_aload_n hx hb dL_refresh_2 rfl (lv_at hl 0 rfl) ?_
  refine lw_callG (r := [(qo, oE cO f)]) (tr := [(cO, .long)]) (rest := [.int 0, .ref qo]) (as := []) ⟨hx, hb, hml, hown, htb⟩ (d_refresh9 l dC dI ad cid a2 lx sg gm lg hl9 0 (st9 gm) (ss9 sg) S kI (iv_k (by decide) : iv 0 0 0) kDC kLD kFN rfl rfl hSV hRC) (cwV 0 htb (gd_V kw_880 kw_881 kw_882 kw_146 kw_1524) rfl rfl rfl (by decide +kernel) ⟨Nat.le_of_ble_eq_true rfl, Nat.le_of_ble_eq_true rfl⟩) (iv_k (by decide) : iv 0 0 0) rfl hl.1 rfl (Nat.le_trans (cs_c (cat_i _) (cs_c (cat_r _) cs_n)) (by decide)) dL_refresh_3 ⟨Nat.le_of_ble_eq_true rfl, Nat.le_of_ble_eq_true rfl⟩ hK hP hD hS hA hG (fun E ce q9 u H locs hw hmu hP hD hS hce hcv hcl => ?_) (fun v9 u H locs hw hmu hP hD hS => ?_)
  · obtain ⟨hE, sg9, gm9, lg9, rfl, hI9, k1, k2, k3, xMO, xFN, xR⟩ := hw
    have hKx : KI (it + 1) lx sg9 gm9 lg9 := KI_mk hKI hI9 k1 k2 k3 xMO xFN (by decide) (by decide) (by decide)
    rcases hE with hE | hE
    · subst hE
      refine mc_catch (own := RL) (name := "java/lang/IllegalStateException") hown ⟨0, 8, 11, 18⟩ [⟨0, 8, 14, 20⟩] hxt (by decide) (by decide) (htb _ kw_878) (va_Nw.use rfl hG.1.2.1.2.1) hce hcv hcl ?_
      refine lv_astore_n (lv' := [(2, .ref q9), (0, eV (ad 0) 0), (1, .ref qo)]) hx hb dL_refresh_11 rfl hl (by decide) (by simp [List.filter, eV_cat, cat_i, cat_l, cat_r]) (fun ls hl => ?_)
      refine lv_iconst (v := 1) hx hb dL_refresh_12 (by decide) ?_
      exact W.nb (fun hN => W.widen (k := 60963) (n := 243858) (Nat.le_trans (Nat.add_le_add_left (gc_l0 (gm := gm) hI9) 0) (Nat.le_of_ble_eq_true rfl)) (Nat.le_trans (Nat.add_le_add_left (gs_l0 (gm := gm) hI9) 0) (Nat.le_of_ble_eq_true rfl)) (vx_ret (W.iret (v := 1) hx hb hr (fun t ht hW => ⟨⟨1, (a2, lx, sg9, gm9, lg9), _, rfl, ⟨hKx, k1, k2, k3, 0, (fun q => absurd q (by decide)), (by have q9 := xR.resolve_right (fun q => absurd q.1 (by decide)); exact Or.inl ⟨(by decide), q9.2.1, q9.2.2⟩)⟩, ⟨by rw [ht]; exact hP, va_K.moved hW.alike hK, hD⟩, hmu, by rw [ht]; exact NBw_w hN (by rw [Nat.zero_add]; exact gc_e rfl (by decide)) (by rw [Nat.zero_add]; exact gs_e rfl (by decide))⟩, hS.F ht⟩) hS.2.2 dL_refresh_13)))
    · subst hE
      refine mc_catch2 (own := RL) (n1 := "java/lang/IllegalStateException") (name := "java/lang/UnsupportedOperationException") hown ⟨0, 8, 11, 18⟩ ⟨0, 8, 14, 20⟩ [] hxt (by decide) (by decide) (by decide) (by decide) (htb _ kw_878) (htb _ kw_879) hN9.1 (va_Nw.use rfl hG.2.1.1) hce hcv hcl ?_
      refine lv_astore_n (lv' := [(2, .ref q9), (0, eV (ad 0) 0), (1, .ref qo)]) hx hb dL_refresh_14 rfl hl (by decide) (by simp [List.filter, eV_cat, cat_i, cat_l, cat_r]) (fun ls hl => ?_)
      refine lv_iconst (v := 2) hx hb dL_refresh_15 (by decide) ?_
      exact W.nb (fun hN => W.widen (k := 60963) (n := 243858) (Nat.le_trans (Nat.add_le_add_left (gc_l0 (gm := gm) hI9) 0) (Nat.le_of_ble_eq_true rfl)) (Nat.le_trans (Nat.add_le_add_left (gs_l0 (gm := gm) hI9) 0) (Nat.le_of_ble_eq_true rfl)) (vx_ret (W.iret (v := 2) hx hb hr (fun t ht hW => ⟨⟨2, (a2, lx, sg9, gm9, lg9), _, rfl, ⟨hKx, k1, k2, k3, 0, (fun q => absurd q (by decide)), (by have q9 := xR.resolve_left (fun q => absurd q.1 (by decide)); exact Or.inr ⟨q9.2.1, Or.inl ⟨(by decide), q9.2.2⟩⟩)⟩, ⟨by rw [ht]; exact hP, va_K.moved hW.alike hK, hD⟩, hmu, by rw [ht]; exact NBw_w hN (by rw [Nat.zero_add]; exact gc_e rfl (by decide)) (by rw [Nat.zero_add]; exact gs_e rfl (by decide))⟩, hS.F ht⟩) hS.2.2 dL_refresh_16)))
  · obtain ⟨r9, rfl, sg9, gm9, lg9, rfl, hI9, k1, k2, k3, hr9, fMO, fFN, fR⟩ := hw
    have hKr : KI (it + 1) lx sg9 gm9 lg9 := KI_mk hKI hI9 k1 k2 k3 fMO fFN (by decide) (by decide) (by decide)
    have hP : va_P (dC, dI) vwCl (cW ad cid a2 lx sg9 gm9 lg9 ++ [(qo, oE cO f)]) H := hP
    have hD : va_D A (cW ad cid a2 lx sg9 gm9 lg9 ++ [(qo, oE cO f)]) := hD
    refine W.eq (g2 := F0 m 6 ls [.int r9, .int 0, .ref qo]) rfl ?_
    refine lv_i2l (v := r9.toInt64) hx hb dL_refresh_6 rfl ?_
    refine va_last (D := (dC, dI)) (f := f) hx hb hK hP hD hS _ 33 wOo cTo (vp_in_iff.mpr ⟨by decide, by decide⟩) dL_refresh_7 (fun H locs hP hD hS => ?_)
    rw [set_last] at hP hD
    refine lv_goto (tgt := 17) hx hb dL_refresh_8 (by decide) ?_
    refine lv_iconst (v := 0) hx hb dL_refresh_17 (by decide) ?_
    exact W.nb (fun hN => W.widen (k := 60963) (n := 243858) (Nat.le_trans (Nat.add_le_add_left (gc_l0 (gm := gm) hI9) 0) (Nat.le_of_ble_eq_true rfl)) (Nat.le_trans (Nat.add_le_add_left (gs_l0 (gm := gm) hI9) 0) (Nat.le_of_ble_eq_true rfl)) (vx_ret (W.iret (v := 0) hx hb hr (fun t ht hW => ⟨⟨0, (a2, lx, sg9, gm9, lg9), _, rfl, ⟨hKr, k1, k2, k3, r9, (fun _ => vp_uL), Or.inr ⟨fR.1, Or.inr ⟨(by decide), fR.2⟩⟩⟩, ⟨by rw [ht]; exact hP, va_K.moved hW.alike hK, hD⟩, hmu, by rw [ht]; exact NBw_w hN (by rw [Nat.zero_add]; exact gc_e rfl (by decide)) (by rw [Nat.zero_add]; exact gs_e rfl (by decide))⟩, hS.F ht⟩) hS.2.2 dL_refresh_18)))

set_option maxHeartbeats 4000000 in
set_option maxRecDepth 100000 in
theorem d_hget (l : Launch) (hl9 : l.stackTraces = false) (dC : Nat → ClassId) (dI : Nat → Nat → Nat) (ad : Nat → Nat → Nat) (cid : Nat → ClassId) (cO : ClassId) (qo : Nat) (a2 : Nat → Nat) (lx : List Nat) (sg : Nat → Int32) (gm : Nat → Nat → Int32) (lg : Nat → Nat → Int64) (f : Nat → Int64) (it : Nat) (nm : Int64) (hKI : KI it lx sg gm lg) (hit : it ≤ 600) (S : S9) (hSV : (sg 1).toInt = 0 ∨ SV (ss9 sg) (st9 gm) lg) (hRC : RC (st9 gm) lg S sg gm) : HM dC dI ad cid cO qo l yL_get wm_L_get ({ frames := 346, cells := 60963, slots := 243858, locals := 11151 }) [eV (ad 0) 0, .long nm, .ref qo] a2 lx sg gm lg f 2 60963 243858 (fun r u f2 => KI (it + 1) u.2.1 u.2.2.1 u.2.2.2.1 u.2.2.2.2 ∧ KS [13, 14, 15, 16, 17, 18] sg u.2.2.1 ∧ KS [37, 38, 39, 48, 49, 50, 51, 52, 53] gm u.2.2.2.1 ∧ KS [] lg u.2.2.2.2 ∧ ∃ x9 : Int32, (r.toInt = 0 → f2 0 = x9.toInt64) ∧ HPC sg gm lg S (zGt (ss9 sg) (st9 gm) lg 40 (wz9 nm) S) u.2.2.1 u.2.2.2.1 r.toInt x9.toInt) := by
  intro sz
  refine vx_ofWH (cc := cL_get) (maxL := 5) (ret := (some .int)) (by decide) rfl ?_
  intro p e s m args below meth c s₁ B hml hv
  obtain ⟨rfl, hsz, hP, hK, hD0, hG, hN9⟩ := hv
  have hx := B.exec
  have hb := B.bytes
  have hr := B.returns
  have hts := atoms_spec (ws := wm_L_get) B.pre
  have htb := fun (w : Cond) (h : w ∈ tb) => hts w (List.mem_cons_of_mem _ h)
  have hown : s.vm.findClass RL = some m.cls := findClass_of_methodNamed B.named
  have hlocks := B.notSynchronized
  have hxt := vx_table (x := yL_get) B (hts _ List.mem_cons_self)
  subst hsz
  have hD := hD0.self (sz := s.heap.size)
  generalize hAe : va_A (cW ad cid a2 lx sg gm lg ++ [(qo, oE cO f)]) s.heap.size = A at hD hG ⊢
  have hA : ∀ q : Nat, s.heap.size ≤ q → A q := fun q h => by rw [← hAe]; exact Or.inr h
  have hS : va_S A s.heap s.heap [] := va_S.rf
  have hl := lv_entry ([eV (ad 0) 0, .long nm, .ref qo]) (n := 5) (by rw [show (lg_sl ([eV (ad 0) 0, .long nm, .ref qo])).length = 4 from by simp [lg_sl, eV_cat, cat_i, cat_l, cat_r]]; exact Nat.le_of_ble_eq_true rfl)
  rw [lg_entry_eq]
  generalize (lg_sl ([eV (ad 0) 0, .long nm, .ref qo]) ++ List.replicate (5 - (lg_sl ([eV (ad 0) 0, .long nm, .ref qo])).length) Slot.unset).toArray = ls at hl ⊢
  have hl : lv_has ls 5 [(0, eV (ad 0) 0), (1, .long nm), (3, .ref qo)] := by simp [lv_args, eV_cat, cat_i, cat_l, cat_r] at hl; exact hl
  obtain ⟨kI, kLD, kFN, kBE, kU12, kU18, kDC⟩ := id hKI
  refine lv_aload_n hx hb dL_get_0 rfl (lv_at hl 2 rfl) ?_
  refine lv_iconst (v := 0) hx hb dL_get_1 (by decide) ?_
  refine ec_aload_n hx hb dL_get_2 rfl (lv_at hl 0 rfl) ?_
  refine lv_lload_n hx hb dL_get_3 rfl (lv_at hl 1 rfl) ?_
  refine lw_callG (r := [(qo, oE cO f)]) (tr := [(cO, .long)]) (rest := [.int 0, .ref qo]) (as := [.long nm]) ⟨hx, hb, hml, hown, htb⟩ (d_get9 l dC dI ad cid a2 lx sg gm lg hl9 0 nm (st9 gm) (ss9 sg) S kI (iv_k (by decide) : iv 0 0 0) kDC kLD kFN rfl rfl hSV hRC) (cwV 1 htb (gd_V kw_974 kw_975 kw_976 kw_146 kw_1558) rfl rfl rfl (by decide +kernel) ⟨Nat.le_of_ble_eq_true rfl, Nat.le_of_ble_eq_true rfl⟩) (iv_k (by decide) : iv 0 0 0) rfl hl.1 rfl (Nat.le_trans (cs_c (cat_i _) (cs_c (cat_r _) cs_n)) (by decide)) dL_get_4 ⟨Nat.le_of_ble_eq_true rfl, Nat.le_of_ble_eq_true rfl⟩ hK hP hD hS hA hG (fun E ce q9 u H locs hw hmu hP hD hS hce hcv hcl => ?_) (fun v9 u H locs hw hmu hP hD hS => ?_)
  · obtain ⟨hE, sg9, gm9, lg9, rfl, hI9, k1, k2, k3, xMO, xFN, xG⟩ := hw
    have hKx : KI (it + 1) lx sg9 gm9 lg9 := KI_mk hKI hI9 k1 k2 k3 xMO xFN (by decide) (by decide) (by decide)
    rcases hE with hE | hE
    · subst hE
      refine mc_catch (own := RL) (name := "java/lang/IllegalStateException") hown ⟨0, 9, 12, 18⟩ [⟨0, 9, 16, 20⟩] hxt (by decide) (by decide) (htb _ kw_878) (va_Nw.use rfl hG.1.2.1.2.1) hce hcv hcl ?_
      refine lv_astore (lv' := [(4, .ref q9), (0, eV (ad 0) 0), (1, .long nm), (3, .ref qo)]) hx hb dL_get_12 hl (by decide) (by simp [List.filter, eV_cat, cat_i, cat_l, cat_r]) (fun ls hl => ?_)
      refine lv_iconst (v := 1) hx hb dL_get_14 (by decide) ?_
      exact W.nb (fun hN => W.widen (k := 60963) (n := 243858) (Nat.le_trans (Nat.add_le_add_left (gc_l0 (gm := gm) hI9) 0) (Nat.le_of_ble_eq_true rfl)) (Nat.le_trans (Nat.add_le_add_left (gs_l0 (gm := gm) hI9) 0) (Nat.le_of_ble_eq_true rfl)) (vx_ret (W.iret (v := 1) hx hb hr (fun t ht hW => ⟨⟨1, (a2, lx, sg9, gm9, lg9), _, rfl, ⟨hKx, k1, k2, k3, 0, (fun q => absurd q (by decide)), (by have q9 := xG.resolve_right (fun q => absurd q.1 (by decide)); exact Or.inl ⟨(by decide), q9.2.1, q9.2.2⟩)⟩, ⟨by rw [ht]; exact hP, va_K.moved hW.alike hK, hD⟩, hmu, by rw [ht]; exact NBw_w hN (by rw [Nat.zero_add]; exact gc_e rfl (by decide)) (by rw [Nat.zero_add]; exact gs_e rfl (by decide))⟩, hS.F ht⟩) hS.2.2 dL_get_15)))
    · subst hE
      refine mc_catch2 (own := RL) (n1 := "java/lang/IllegalStateException") (name := "java/lang/UnsupportedOperationException") hown ⟨0, 9, 12, 18⟩ ⟨0, 9, 16, 20⟩ [] hxt (by decide) (by decide) (by decide) (by decide) (htb _ kw_878) (htb _ kw_879) hN9.1 (va_Nw.use rfl hG.2.1.1) hce hcv hcl ?_
      refine lv_astore (lv' := [(4, .ref q9), (0, eV (ad 0) 0), (1, .long nm), (3, .ref qo)]) hx hb dL_get_16 hl (by decide) (by simp [List.filter, eV_cat, cat_i, cat_l, cat_r]) (fun ls hl => ?_)
      refine lv_iconst (v := 2) hx hb dL_get_18 (by decide) ?_
      exact W.nb (fun hN => W.widen (k := 60963) (n := 243858) (Nat.le_trans (Nat.add_le_add_left (gc_l0 (gm := gm) hI9) 0) (Nat.le_of_ble_eq_true rfl)) (Nat.le_trans (Nat.add_le_add_left (gs_l0 (gm := gm) hI9) 0) (Nat.le_of_ble_eq_true rfl)) (vx_ret (W.iret (v := 2) hx hb hr (fun t ht hW => ⟨⟨2, (a2, lx, sg9, gm9, lg9), _, rfl, ⟨hKx, k1, k2, k3, 0, (fun q => absurd q (by decide)), (by have q9 := xG.resolve_left (fun q => absurd q.1 (by decide)); exact Or.inr ⟨q9.2.1, Or.inl ⟨(by decide), q9.2.2⟩⟩)⟩, ⟨by rw [ht]; exact hP, va_K.moved hW.alike hK, hD⟩, hmu, by rw [ht]; exact NBw_w hN (by rw [Nat.zero_add]; exact gc_e rfl (by decide)) (by rw [Nat.zero_add]; exact gs_e rfl (by decide))⟩, hS.F ht⟩) hS.2.2 dL_get_19)))
  · obtain ⟨r9, rfl, sg9, gm9, lg9, rfl, hI9, k1, k2, k3, hr9, fMO, fFN, fG⟩ := hw
    have hKr : KI (it + 1) lx sg9 gm9 lg9 := KI_mk hKI hI9 k1 k2 k3 fMO fFN (by decide) (by decide) (by decide)
    have hP : va_P (dC, dI) vwCl (cW ad cid a2 lx sg9 gm9 lg9 ++ [(qo, oE cO f)]) H := hP
    have hD : va_D A (cW ad cid a2 lx sg9 gm9 lg9 ++ [(qo, oE cO f)]) := hD
    refine W.eq (g2 := F0 m 7 ls [.int r9, .int 0, .ref qo]) rfl ?_
    refine lv_i2l (v := r9.toInt64) hx hb dL_get_7 rfl ?_
    refine va_last (D := (dC, dI)) (f := f) hx hb hK hP hD hS _ 33 wOo cTo (vp_in_iff.mpr ⟨by decide, by decide⟩) dL_get_8 (fun H locs hP hD hS => ?_)
    rw [set_last] at hP hD
    refine lv_goto (tgt := 20) hx hb dL_get_9 (by decide) ?_
    refine lv_iconst (v := 0) hx hb dL_get_20 (by decide) ?_
    exact W.nb (fun hN => W.widen (k := 60963) (n := 243858) (Nat.le_trans (Nat.add_le_add_left (gc_l0 (gm := gm) hI9) 0) (Nat.le_of_ble_eq_true rfl)) (Nat.le_trans (Nat.add_le_add_left (gs_l0 (gm := gm) hI9) 0) (Nat.le_of_ble_eq_true rfl)) (vx_ret (W.iret (v := 0) hx hb hr (fun t ht hW => ⟨⟨0, (a2, lx, sg9, gm9, lg9), _, rfl, ⟨hKr, k1, k2, k3, r9, (fun _ => vp_uL), Or.inr ⟨fG.1, Or.inr ⟨(by decide), fG.2⟩⟩⟩, ⟨by rw [ht]; exact hP, va_K.moved hW.alike hK, hD⟩, hmu, by rw [ht]; exact NBw_w hN (by rw [Nat.zero_add]; exact gc_e rfl (by decide)) (by rw [Nat.zero_add]; exact gs_e rfl (by decide))⟩, hS.F ht⟩) hS.2.2 dL_get_21)))

set_option maxHeartbeats 4000000 in
set_option maxRecDepth 100000 in
theorem d_hcall (l : Launch) (hl9 : l.stackTraces = false) (dC : Nat → ClassId) (dI : Nat → Nat → Nat) (ad : Nat → Nat → Nat) (cid : Nat → ClassId) (cO : ClassId) (qo : Nat) (a2 : Nat → Nat) (lx : List Nat) (sg : Nat → Int32) (gm : Nat → Nat → Int32) (lg : Nat → Nat → Int64) (f : Nat → Int64) (it : Nat) (k9 : Int32) (w9 : Int32) (hKI : KI it lx sg gm lg) (hit : it ≤ 600) (S : S9) (hSV : (sg 1).toInt = 0 ∨ SV (ss9 sg) (st9 gm) lg) (hRC : RC (st9 gm) lg S sg gm) : HM dC dI ad cid cO qo l yL_call wm_L_call ({ frames := 346, cells := 60963, slots := 243858, locals := 11152 }) [eV (ad 0) 0, .int k9, .int w9, .ref qo] a2 lx sg gm lg f 2 60963 243858 (fun r u f2 => KI (it + 1) u.2.1 u.2.2.1 u.2.2.2.1 u.2.2.2.2 ∧ KS [13, 14, 15, 16, 17, 18] sg u.2.2.1 ∧ KS [37, 38, 39, 48, 49, 50, 51, 52, 53] gm u.2.2.2.1 ∧ KS [] lg u.2.2.2.2 ∧ ∃ x9 : Int32, (r.toInt = 0 → f2 0 = x9.toInt64) ∧ HCC sg gm lg S k9.toInt w9.toInt u.2.2.1 u.2.2.2.1 r.toInt x9.toInt) := by
  intro sz
  refine vx_ofWH (cc := cL_call) (maxL := 5) (ret := (some .int)) (by decide) rfl ?_
  intro p e s m args below meth c s₁ B hml hv
  obtain ⟨rfl, hsz, hP, hK, hD0, hG, hN9⟩ := hv
  have hx := B.exec
  have hb := B.bytes
  have hr := B.returns
  have hts := atoms_spec (ws := wm_L_call) B.pre
  have htb := fun (w : Cond) (h : w ∈ tb) => hts w (List.mem_cons_of_mem _ h)
  have hown : s.vm.findClass RL = some m.cls := findClass_of_methodNamed B.named
  have hlocks := B.notSynchronized
  have hxt := vx_table (x := yL_call) B (hts _ List.mem_cons_self)
  subst hsz
  have hD := hD0.self (sz := s.heap.size)
  generalize hAe : va_A (cW ad cid a2 lx sg gm lg ++ [(qo, oE cO f)]) s.heap.size = A at hD hG ⊢
  have hA : ∀ q : Nat, s.heap.size ≤ q → A q := fun q h => by rw [← hAe]; exact Or.inr h
  have hS : va_S A s.heap s.heap [] := va_S.rf
  have hl := lv_entry ([eV (ad 0) 0, .int k9, .int w9, .ref qo]) (n := 5) (by rw [show (lg_sl ([eV (ad 0) 0, .int k9, .int w9, .ref qo])).length = 4 from by simp [lg_sl, eV_cat, cat_i, cat_l, cat_r]]; exact Nat.le_of_ble_eq_true rfl)
  rw [lg_entry_eq]
  generalize (lg_sl ([eV (ad 0) 0, .int k9, .int w9, .ref qo]) ++ List.replicate (5 - (lg_sl ([eV (ad 0) 0, .int k9, .int w9, .ref qo])).length) Slot.unset).toArray = ls at hl ⊢
  have hl : lv_has ls 5 [(0, eV (ad 0) 0), (1, .int k9), (2, .int w9), (3, .ref qo)] := by simp [lv_args, eV_cat, cat_i, cat_l, cat_r] at hl; exact hl
  obtain ⟨kI, kLD, kFN, kBE, kU12, kU18, kDC⟩ := id hKI
  refine lv_aload_n hx hb dL_call_0 rfl (lv_at hl 3 rfl) ?_
  refine lv_iconst (v := 0) hx hb dL_call_1 (by decide) ?_
  refine ec_aload_n hx hb dL_call_2 rfl (lv_at hl 0 rfl) ?_
  refine lv_iload_n hx hb dL_call_3 rfl (lv_at hl 1 rfl) ?_
  refine lv_iload_n hx hb dL_call_4 rfl (lv_at hl 2 rfl) ?_
  refine lw_callG (r := [(qo, oE cO f)]) (tr := [(cO, .long)]) (rest := [.int 0, .ref qo]) (as := [.int k9, .int w9]) ⟨hx, hb, hml, hown, htb⟩ (d_call9 l dC dI ad cid a2 lx sg gm lg hl9 0 k9 w9 (st9 gm) (ss9 sg) S kI (iv_k (by decide) : iv 0 0 0) kDC kLD kFN rfl rfl hSV hRC) (cwV 2 htb (gd_V kw_986 kw_987 kw_988 kw_146 kw_1562) rfl rfl rfl (by decide +kernel) ⟨Nat.le_of_ble_eq_true rfl, Nat.le_of_ble_eq_true rfl⟩) (iv_k (by decide) : iv 0 0 0) rfl hl.1 rfl (Nat.le_trans (cs_c (cat_i _) (cs_c (cat_r _) cs_n)) (by decide)) dL_call_5 ⟨Nat.le_of_ble_eq_true rfl, Nat.le_of_ble_eq_true rfl⟩ hK hP hD hS hA hG (fun E ce q9 u H locs hw hmu hP hD hS hce hcv hcl => ?_) (fun v9 u H locs hw hmu hP hD hS => ?_)
  · obtain ⟨hE, sg9, gm9, lg9, rfl, hI9, k1, k2, k3, xMO, xFN, xC⟩ := hw
    have hKx : KI (it + 1) lx sg9 gm9 lg9 := KI_mk hKI hI9 k1 k2 k3 xMO xFN (by decide) (by decide) (by decide)
    rcases hE with hE | hE | hE
    · subst hE
      refine mc_catch (own := RL) (name := "java/lang/IllegalStateException") hown ⟨0, 10, 13, 18⟩ [⟨0, 10, 17, 30⟩, ⟨0, 10, 21, 20⟩] hxt (by decide) (by decide) (htb _ kw_878) (va_Nw.use rfl hG.1.2.1.2.1) hce hcv hcl ?_
      refine lv_astore (lv' := [(4, .ref q9), (0, eV (ad 0) 0), (1, .int k9), (2, .int w9), (3, .ref qo)]) hx hb dL_call_13 hl (by decide) (by simp [List.filter, eV_cat, cat_i, cat_l, cat_r]) (fun ls hl => ?_)
      refine lv_iconst (v := 1) hx hb dL_call_15 (by decide) ?_
      exact W.nb (fun hN => W.widen (k := 60963) (n := 243858) (Nat.le_trans (Nat.add_le_add_left (gc_l0 (gm := gm) hI9) 0) (Nat.le_of_ble_eq_true rfl)) (Nat.le_trans (Nat.add_le_add_left (gs_l0 (gm := gm) hI9) 0) (Nat.le_of_ble_eq_true rfl)) (vx_ret (W.iret (v := 1) hx hb hr (fun t ht hW => ⟨⟨1, (a2, lx, sg9, gm9, lg9), _, rfl, ⟨hKx, k1, k2, k3, 0, (fun q => absurd q (by decide)), (by have q9 := xC.resolve_right (fun q => q.elim (fun q => absurd q.1 (by decide)) (fun q => absurd q.1 (by decide))); exact Or.inl ⟨(by decide), q9.2.1, q9.2.2⟩)⟩, ⟨by rw [ht]; exact hP, va_K.moved hW.alike hK, hD⟩, hmu, by rw [ht]; exact NBw_w hN (by rw [Nat.zero_add]; exact gc_e rfl (by decide)) (by rw [Nat.zero_add]; exact gs_e rfl (by decide))⟩, hS.F ht⟩) hS.2.2 dL_call_16)))
    · subst hE
      refine mc_catch2 (own := RL) (n1 := "java/lang/IllegalStateException") (name := "java/lang/IndexOutOfBoundsException") hown ⟨0, 10, 13, 18⟩ ⟨0, 10, 17, 30⟩ [⟨0, 10, 21, 20⟩] hxt (by decide) (by decide) (by decide) (by decide) (htb _ kw_878) (htb _ kw_985) hN9.2.2 (va_Nw.use rfl hG.2.1.2.1) hce hcv hcl ?_
      refine lv_astore (lv' := [(4, .ref q9), (0, eV (ad 0) 0), (1, .int k9), (2, .int w9), (3, .ref qo)]) hx hb dL_call_17 hl (by decide) (by simp [List.filter, eV_cat, cat_i, cat_l, cat_r]) (fun ls hl => ?_)
      refine lv_iconst (v := 2) hx hb dL_call_19 (by decide) ?_
      exact W.nb (fun hN => W.widen (k := 60963) (n := 243858) (Nat.le_trans (Nat.add_le_add_left (gc_l0 (gm := gm) hI9) 0) (Nat.le_of_ble_eq_true rfl)) (Nat.le_trans (Nat.add_le_add_left (gs_l0 (gm := gm) hI9) 0) (Nat.le_of_ble_eq_true rfl)) (vx_ret (W.iret (v := 2) hx hb hr (fun t ht hW => ⟨⟨2, (a2, lx, sg9, gm9, lg9), _, rfl, ⟨hKx, k1, k2, k3, 0, (fun q => absurd q (by decide)), (by have q9 := (xC.resolve_left (fun q => absurd q.1 (by decide))).resolve_right (fun q => absurd q.1 (by decide)); exact Or.inr ⟨q9.2.1, Or.inl ⟨(by decide), q9.2.2⟩⟩)⟩, ⟨by rw [ht]; exact hP, va_K.moved hW.alike hK, hD⟩, hmu, by rw [ht]; exact NBw_w hN (by rw [Nat.zero_add]; exact gc_e rfl (by decide)) (by rw [Nat.zero_add]; exact gs_e rfl (by decide))⟩, hS.F ht⟩) hS.2.2 dL_call_20)))
    · subst hE
      refine mc_catch3 (own := RL) (n1 := "java/lang/IllegalStateException") (n2 := "java/lang/IndexOutOfBoundsException") (name := "java/lang/UnsupportedOperationException") hown ⟨0, 10, 13, 18⟩ ⟨0, 10, 17, 30⟩ ⟨0, 10, 21, 20⟩ [] hxt (by decide) (by decide) (by decide) (by decide) (by decide) (by decide) (htb _ kw_878) (htb _ kw_985) (htb _ kw_879) hN9.1 hN9.2.1 (va_Nw.use rfl hG.2.1.1) hce hcv hcl ?_
      refine lv_astore (lv' := [(4, .ref q9), (0, eV (ad 0) 0), (1, .int k9), (2, .int w9), (3, .ref qo)]) hx hb dL_call_21 hl (by decide) (by simp [List.filter, eV_cat, cat_i, cat_l, cat_r]) (fun ls hl => ?_)
      refine lv_iconst (v := 3) hx hb dL_call_23 (by decide) ?_
      exact W.nb (fun hN => W.widen (k := 60963) (n := 243858) (Nat.le_trans (Nat.add_le_add_left (gc_l0 (gm := gm) hI9) 0) (Nat.le_of_ble_eq_true rfl)) (Nat.le_trans (Nat.add_le_add_left (gs_l0 (gm := gm) hI9) 0) (Nat.le_of_ble_eq_true rfl)) (vx_ret (W.iret (v := 3) hx hb hr (fun t ht hW => ⟨⟨3, (a2, lx, sg9, gm9, lg9), _, rfl, ⟨hKx, k1, k2, k3, 0, (fun q => absurd q (by decide)), (by have q9 := (xC.resolve_left (fun q => absurd q.1 (by decide))).resolve_left (fun q => absurd q.1 (by decide)); exact Or.inr ⟨q9.2.1, Or.inr ⟨q9.2.2.1, Or.inl ⟨(by decide), q9.2.2.2⟩⟩⟩)⟩, ⟨by rw [ht]; exact hP, va_K.moved hW.alike hK, hD⟩, hmu, by rw [ht]; exact NBw_w hN (by rw [Nat.zero_add]; exact gc_e rfl (by decide)) (by rw [Nat.zero_add]; exact gs_e rfl (by decide))⟩, hS.F ht⟩) hS.2.2 dL_call_24)))
  · obtain ⟨r9, rfl, sg9, gm9, lg9, rfl, hI9, k1, k2, k3, hr9, fMO, fFN, fC⟩ := hw
    have hKr : KI (it + 1) lx sg9 gm9 lg9 := KI_mk hKI hI9 k1 k2 k3 fMO fFN (by decide) (by decide) (by decide)
    have hP : va_P (dC, dI) vwCl (cW ad cid a2 lx sg9 gm9 lg9 ++ [(qo, oE cO f)]) H := hP
    have hD : va_D A (cW ad cid a2 lx sg9 gm9 lg9 ++ [(qo, oE cO f)]) := hD
    refine W.eq (g2 := F0 m 8 ls [.int r9, .int 0, .ref qo]) rfl ?_
    refine lv_i2l (v := r9.toInt64) hx hb dL_call_8 rfl ?_
    refine va_last (D := (dC, dI)) (f := f) hx hb hK hP hD hS _ 33 wOo cTo (vp_in_iff.mpr ⟨by decide, by decide⟩) dL_call_9 (fun H locs hP hD hS => ?_)
    rw [set_last] at hP hD
    refine lv_goto (tgt := 25) hx hb dL_call_10 (by decide) ?_
    refine lv_iconst (v := 0) hx hb dL_call_25 (by decide) ?_
    exact W.nb (fun hN => W.widen (k := 60963) (n := 243858) (Nat.le_trans (Nat.add_le_add_left (gc_l0 (gm := gm) hI9) 0) (Nat.le_of_ble_eq_true rfl)) (Nat.le_trans (Nat.add_le_add_left (gs_l0 (gm := gm) hI9) 0) (Nat.le_of_ble_eq_true rfl)) (vx_ret (W.iret (v := 0) hx hb hr (fun t ht hW => ⟨⟨0, (a2, lx, sg9, gm9, lg9), _, rfl, ⟨hKr, k1, k2, k3, r9, (fun _ => vp_uL), Or.inr ⟨fC.1, Or.inr ⟨fC.2.1, Or.inr ⟨(by decide), fC.2.2⟩⟩⟩⟩, ⟨by rw [ht]; exact hP, va_K.moved hW.alike hK, hD⟩, hmu, by rw [ht]; exact NBw_w hN (by rw [Nat.zero_add]; exact gc_e rfl (by decide)) (by rw [Nat.zero_add]; exact gs_e rfl (by decide))⟩, hS.F ht⟩) hS.2.2 dL_call_26)))
end
section
/-! THE CLAIM OUT OF ONE WALK OF THE LAW'S BODY. Your part is whole_start (and what it stands on); all else here is the same for every law, but numbers. -/
def R_law : String := "WiredBeansLaw"
def lw_P (b : Addr) (xs : List Int32) (args : Array Value) (s : State) : Prop := args = #[.ref b] ∧ s.IntsAt b xs ∧ xs.length ≤ 4608 ∧ (Jvm.Cond.and given_1 narrow_1).before args s = true
def lw_Q (_ : Array Value) (s : State) (o : Outcome) (t : State) : Prop := o = .returned (some (.int 1)) ∧ Framed s o t [] 601024 7293034
def lw_Z (below : List Frame) (a : Array Value) (s : State) : State → Prop := fun t => ∃ o, t.status = .running ∧ Ended t below o ∧ lw_Q a s o t
/-- the law's own end, with 1 on the stack, nothing written that was there before, its room as the claim has it -/
theorem lw_ret {p : Program} {l : Launch} {e : Env} {s : State} {m : MethodId} {below : List Frame} {meth : Method} {c : Code} {b : Nat} (hx : p.tables.exec = Jvm.exec) (hb : c.code = code) (hr : meth.sig.returnType = ret) (hlocks : meth.locks = false) {pc : Nat} {H : Heap} {ls : Array Slot} (hdg : decode code pc = .ok (.ireturn, 1)) : W p l e room_1 s m #[Value.ref b] below meth c H [] 601024 7293034 (lw_Z below #[Value.ref b] s) (F0 m pc ls [.int 1]) := by
  intro T hT X
  obtain ⟨fs, hret, hrun, hended, hW, hframe⟩ := X.leave (v := some (.int 1)) (hlocks := hlocks) (fun h => by rw [hr] at h; cases h)
  have hmeth' : T.vm.method? m = some meth := X.method'
  refine ⟨T.setFrames fs, ?_, .returned (some (.int 1)), hrun, hended, rfl, ⟨_, rfl⟩, hW, hframe⟩
  jvm_step X.here [X.here.top, hx, hb, hdg, hmeth', hr, ret, narrow_b1]
  (try refine ⟨rfl, ?_⟩); (try refine ⟨rfl, ?_⟩)
  first | (intro acts; rw [hret _ acts rfl rfl rfl]) | rw [hret _ _ rfl rfl rfl]
  exact Steps.refl _
/-- what holds at the law's entry: the machine, the code, the tables' words (any of lw_tbl by 'hts w (by decide +kernel)'), the script of L ints xs at the cell b, what the Statement gives of the start (any of its parts by flat_of_before) -/
def lw_At (p : Program) (s : State) (m : MethodId) (meth : Method) (c : Code) (b L : Nat) (xs : Nat → Int32) : Prop :=
  p.tables.exec = Jvm.exec ∧ c.code = code ∧ meth.sig.returnType = ret ∧ c.maxLocals = 7 ∧ s.vm.findClass R_law = some m.cls ∧ (∀ w ∈ lw_tbl, w.before #[Value.ref b] s = true) ∧ va_X b L xs s s.heap ∧ b < s.heap.size ∧ meth.locks = false ∧ (Jvm.Cond.and given_1 narrow_1).before #[Value.ref b] s = true
end
section
section LW2
variable {p : Program} {l : Launch} {e : Env} {R : Room} {s : State} {m : MethodId} {args : Array Value} {below : List Frame} {meth : Method} {c : Code} {H : Heap} {locs : List Loc} {Q : State → Prop} {cc : ByteArray} {pc : Nat} {ls : Array Slot} {rest : List Value} {A : Nat → Prop}
variable {dC : Nat → ClassId} {dI : Nat → Nat → Nat} {ad : Nat → Nat → Nat} {cid : Nat → ClassId} {a2 : Nat → Nat} {lx : List Nat} {sg : Nat → Int32} {gm : Nat → Nat → Int32} {lg : Nat → Nat → Int64} {Ts : List Cond} {own : String} {index : Nat}
variable {y : MethodName} {ws : List Cond} {rm : Room} {bytes : ByteArray} {maxL n nL : Nat} {ret : Option FieldType} {as : List Value} {st0 : List Value} {cells slots k mc ms : Nat} {w r : va_W} {tw tr : List (ClassId × FieldType)} {h0 : Nat} {adm : Nat → Nat} {cidm : Nat → ClassId} {cO : ClassId} {qo : Nat} {f : Nat → Int64}
/-- a call of the reference, in a world that holds more -/
theorem lw_callM {post : Int32 → MSt → Prop} (S : CallFix p m c cc nL s args Ts own) (hM : MMi l dC dI y ws rm h0 adm cidm as sg gm lg post) (cw : CallW R s args own RX13 index y bytes maxL ret ws rm 0 0 n) (hn : as.length = n) (hsize : ls.size = nL) (hst : st0 = as.reverse ++ .ref h0 :: rest) (hW : (rest.map fun v => v.category).sum ≤ 8) (hdg : decode cc pc = .ok (.invokevirtual index, 3)) (hf : cells ≤ R.cells ∧ slots ≤ R.slots)
    (hK : va_K (dC, dI) vwCl (tw ++ (mT cidm ++ tr)) s) (hP : va_P (dC, dI) vwCl (w ++ (mW h0 adm cidm sg gm lg ++ r)) H) (hD : va_D A (w ++ (mW h0 adm cidm sg gm lg ++ r))) (hS : va_S A s.heap H locs) (hA : ∀ q, s.heap.size ≤ q → A q)
    (kk : ∀ (r9 : Int32) (u1 : MSt) (H1 : Heap) (locs1 : List Loc), post r9 u1 → va_P (dC, dI) vwCl (w ++ (mW h0 adm cidm u1.1 u1.2.1 u1.2.2 ++ r)) H1 → va_D A (w ++ (mW h0 adm cidm u1.1 u1.2.1 u1.2.2 ++ r)) → va_S A s.heap H1 locs1 → W p l e R s m args below meth c H1 locs1 cells slots Q (F0 m (pc + 3) ls (.int r9 :: rest))) : W p l e R s m args below meth c H locs cells slots Q (F0 m pc ls st0) := by
  subst hst
  have hP2 := vaP_p (List.perm_append_comm_assoc w (mW h0 adm cidm sg gm lg) r) hP
  have hD2 := vaD_p (List.perm_append_comm_assoc w (mW h0 adm cidm sg gm lg) r) hD
  have hPm : va_P (dC, dI) vwCl (mW h0 adm cidm sg gm lg) H := va_Psl hP2 (List.sublist_append_left _ _)
  have hDm : va_D A (mW h0 adm cidm sg gm lg) := va_Dsl hD2 (List.sublist_append_left _ _)
  have hKm : va_K (dC, dI) vwCl (mT cidm) s := vaK_l (vaK_r hK)
  have hFc := mfree hDm hS hA
  refine va_calli (va_runV (As := as) (rest := rest) S (hM H.size) cw ⟨MPre_blind, va_recv hKm hPm (ci := 12) (q0 := 0) rfl rfl, fun U hU hW => ⟨rfl, by rw [hU], by rw [hU]; exact hPm, va_K.moved hW.alike hKm, hDm.weaken (fun _ _ _ _ => trivial)⟩⟩ rfl hn hsize rfl (lv_room hW) hdg hf) hS (fun q _ h => hFc q h) hFc (fun r9 u1 t H1 locs ht hvm hw hB hz1 hk1 hS => ?_)
  obtain ⟨hP1, hK1, hD1⟩ := hB
  rw [ht] at hP1
  obtain ⟨j1, j2⟩ := lw_join hP2 hD2 hk1 hFc hP1 hD1
  exact kk r9 u1 H1 locs hw (vaP_p (List.perm_append_comm_assoc _ w r) j1) (vaD_p (List.perm_append_comm_assoc _ w r) j2) hS
theorem HPre_blind {sz : Nat} : FrameBlind (va_Pc as (HPre dC dI ad cid cO qo a2 lx sg gm lg f sz)) := fun a U g mk q => by
  obtain ⟨q0, q1, qP, qK, qD, qG, qN⟩ := q
  exact ⟨q0, q1, qP, va_K.moved (u := U) (U := U.calling g mk a) (Vm.Alike.refl U.vm) qK, qD, CE.call g mk a qG, NE.moved (u := U) (U := U.calling g mk a) (Vm.Alike.refl U.vm) qN⟩
/-- a call of one of the law's helpers -/
theorem lw_callH {hh : List (Nat × Nat × Nat × Nat)} {post : Int32 → CSg → (Nat → Int64) → Prop} {wm : va_W} {tm : List (ClassId × FieldType)} (S : CallFix p m c cc nL s args Ts own) (hM : HM dC dI ad cid cO qo l y ws rm as a2 lx sg gm lg f k mc ms post) (cw : vx_CSW R s args own index y bytes maxL ret hh ws rm mc ms n) (hn : as.length = n) (hsize : ls.size = nL) (hst : st0 = as.reverse ++ rest) (hW : (rest.map fun v => v.category).sum ≤ 8) (hdg : decode cc pc = .ok (.invokestatic index, 3)) (hf : cells + mc ≤ R.cells ∧ slots + ms ≤ R.slots)
    (hK : va_K (dC, dI) vwCl (cT cid ++ (tm ++ [(cO, .long)])) s) (hP : va_P (dC, dI) vwCl (cW ad cid a2 lx sg gm lg ++ (wm ++ [(qo, oE cO f)])) H) (hD : va_D A (cW ad cid a2 lx sg gm lg ++ (wm ++ [(qo, oE cO f)]))) (hS : va_S A s.heap H locs) (hA : ∀ q, s.heap.size ≤ q → A q) (hG : CE ad A s) (hN9 : NE s)
    (kk : ∀ (r9 : Int32) (u : CSg) (f2 : Nat → Int64) (H1 : Heap) (locs1 : List Loc), post r9 u f2 → PHs gm ≤ PHs u.2.2.2.1 → va_P (dC, dI) vwCl (CSg.w ad cid u ++ (wm ++ [(qo, oE cO f2)])) H1 → va_D A (CSg.w ad cid u ++ (wm ++ [(qo, oE cO f2)])) → va_S A s.heap H1 locs1 → W p l e R s m args below meth c H1 locs1 (cells + gc gm u.2.2.2.1 k) (slots + gs gm u.2.2.2.1 k) Q (F0 m (pc + 3) ls (.int r9 :: rest))) : W p l e R s m args below meth c H locs cells slots Q (F0 m pc ls st0) := by
  subst hst
  have pm : ∀ (x : va_W) (g : Nat → Int64), (x ++ (wm ++ [(qo, oE cO g)])).Perm ((x ++ [(qo, oE cO g)]) ++ wm) := fun x g => by
    rw [List.append_assoc]; exact List.Perm.append_left x List.perm_append_comm
  have hP2 := vaP_p (pm _ f) hP
  have hD2 := vaD_p (pm _ f) hD
  have hPc : va_P (dC, dI) vwCl (cW ad cid a2 lx sg gm lg ++ [(qo, oE cO f)]) H := va_Psl hP2 (List.sublist_append_left _ _)
  have hDc : va_D A (cW ad cid a2 lx sg gm lg ++ [(qo, oE cO f)]) := va_Dsl hD2 (List.sublist_append_left _ _)
  have hKc : va_K (dC, dI) vwCl (cT cid ++ [(cO, .long)]) s := vaK_j (vaK_l hK) (vaK_r (vaK_r hK))
  have hFc : ∀ q, va_A (cW ad cid a2 lx sg gm lg ++ [(qo, oE cO f)]) H.size q → A q := fun q h => by
    rcases h with ⟨k, e, h⟩ | h
    · exact hDc.2 k (q, e) h
    · exact hA q (Nat.le_trans hS.1 h)
  have hr := vx_runSX (e := e) (below := below) (meth := meth) (locs := locs) (cells := cells) (slots := slots) (As := as) (rest := rest) S (hM H.size) cw ⟨HPre_blind, fun U hU hW => ⟨rfl, by rw [hU], by rw [hU]; exact hPc, va_K.moved hW.alike hKc, hDc.weaken (fun _ _ _ _ => trivial), hG.go hS hFc hU hW, NE.moved hW.alike hN9⟩⟩ (g := F0 m pc ls (as.reverse ++ rest)) rfl hn hsize rfl (lv_room hW) hdg hf
  refine W.nb (fun hN => ?_)
  intro T hT X
  rcases hr T hT X with ⟨v, st₀, t, T', L, h0, X', hL, e1, e2, ⟨⟨r9, u, f2, hv, hp, hb, hm, hN1⟩, hF⟩, st⟩ | ⟨q, st₀, t, T', L, E, ce, h0, X', hL, e1, e2, hx9, hce, hcv, hcl, st⟩
  · cases hv
    obtain ⟨k1, k2, k3⟩ := vx_keep h0 e1 hS (fun q _ h => hFc q h) hFc hL hF
    obtain ⟨b1, b2, b3⟩ := hb
    rw [h0, ← e1] at hN1
    obtain ⟨j1, j2⟩ := lw_join hP2 hD2 k2 hFc (by rw [e1]; exact b1) b3
    obtain ⟨t2, a1, c1⟩ := W.narrow (NBw_tr hN hN1) (kk r9 u f2 T'.heap (locs ++ L) hp hm (vaP_p (pm _ f2).symm j1) (vaD_p (pm _ f2).symm j2) k3) T' rfl X'
    exact ⟨t2, st t2 a1, c1⟩
  · exact hx9.elim
end LW2
end
section
theorem dL_law_0g : decode cL_law 0 = .ok (.new 8, 3) ∧ decode cL_law 3 = .ok (.dup, 1) ∧ decode cL_law 4 = .ok (.invokespecial 32, 3) ∧ decode cL_law 7 = .ok (.astore_n 1, 1) ∧ decode cL_law 8 = .ok (.new 33, 3) ∧ decode cL_law 11 = .ok (.dup, 1) ∧ decode cL_law 12 = .ok (.invokespecial 35, 3) ∧ decode cL_law 15 = .ok (.astore_n 2, 1) ∧ decode cL_law 16 = .ok (.iconst 1, 1) ∧ decode cL_law 17 = .ok (.newarray .long, 2) ∧ decode cL_law 19 = .ok (.astore_n 3, 1) ∧ decode cL_law 20 = .ok (.iconst 0, 1) ∧ decode cL_law 21 = .ok (.istore 4, 2) ∧ decode cL_law 23 = .ok (.iload 4, 2) ∧ decode cL_law 25 = .ok (.aload_n 0, 1) ∧ decode cL_law 26 = .ok (.arraylength, 1) := by decide +kernel
theorem dL_law_0 : decode cL_law 0 = .ok (.new 8, 3) := dL_law_0g.1
theorem dL_law_3 : decode cL_law 3 = .ok (.dup, 1) := dL_law_0g.2.1
theorem dL_law_4 : decode cL_law 4 = .ok (.invokespecial 32, 3) := dL_law_0g.2.2.1
theorem dL_law_7 : decode cL_law 7 = .ok (.astore_n 1, 1) := dL_law_0g.2.2.2.1
theorem dL_law_8 : decode cL_law 8 = .ok (.new 33, 3) := dL_law_0g.2.2.2.2.1
theorem dL_law_11 : decode cL_law 11 = .ok (.dup, 1) := dL_law_0g.2.2.2.2.2.1
theorem dL_law_12 : decode cL_law 12 = .ok (.invokespecial 35, 3) := dL_law_0g.2.2.2.2.2.2.1
theorem dL_law_15 : decode cL_law 15 = .ok (.astore_n 2, 1) := dL_law_0g.2.2.2.2.2.2.2.1
theorem dL_law_16 : decode cL_law 16 = .ok (.iconst 1, 1) := dL_law_0g.2.2.2.2.2.2.2.2.1
theorem dL_law_17 : decode cL_law 17 = .ok (.newarray .long, 2) := dL_law_0g.2.2.2.2.2.2.2.2.2.1
theorem dL_law_19 : decode cL_law 19 = .ok (.astore_n 3, 1) := dL_law_0g.2.2.2.2.2.2.2.2.2.2.1
theorem dL_law_20 : decode cL_law 20 = .ok (.iconst 0, 1) := dL_law_0g.2.2.2.2.2.2.2.2.2.2.2.1
theorem dL_law_21 : decode cL_law 21 = .ok (.istore 4, 2) := dL_law_0g.2.2.2.2.2.2.2.2.2.2.2.2.1
theorem dL_law_23 : decode cL_law 23 = .ok (.iload 4, 2) := dL_law_0g.2.2.2.2.2.2.2.2.2.2.2.2.2.1
theorem dL_law_25 : decode cL_law 25 = .ok (.aload_n 0, 1) := dL_law_0g.2.2.2.2.2.2.2.2.2.2.2.2.2.2.1
theorem dL_law_26 : decode cL_law 26 = .ok (.arraylength, 1) := dL_law_0g.2.2.2.2.2.2.2.2.2.2.2.2.2.2.2
theorem dL_law_27g : decode cL_law 27 = .ok (.bipush 9, 2) ∧ decode cL_law 29 = .ok (.isub, 1) ∧ decode cL_law 30 = .ok (.if_icmp .gt 749, 3) ∧ decode cL_law 33 = .ok (.aload_n 0, 1) ∧ decode cL_law 34 = .ok (.iload 4, 2) ∧ decode cL_law 36 = .ok (.iaload, 1) ∧ decode cL_law 37 = .ok (.bipush 15, 2) ∧ decode cL_law 39 = .ok (.iand, 1) ∧ decode cL_law 40 = .ok (.tableswitch 733 0 14 #[76, 113, 186, 235, 366, 439, 455, 480, 496, 556, 596, 609, 622, 659, 696], 76) ∧ decode cL_law 116 = .ok (.aload_n 1, 1) ∧ decode cL_law 117 = .ok (.aload_n 0, 1) ∧ decode cL_law 118 = .ok (.iload 4, 2) ∧ decode cL_law 120 = .ok (.iconst 1, 1) ∧ decode cL_law 121 = .ok (.iadd, 1) ∧ decode cL_law 122 = .ok (.iaload, 1) ∧ decode cL_law 123 = .ok (.aload_n 0, 1) := by decide +kernel
theorem dL_law_27 : decode cL_law 27 = .ok (.bipush 9, 2) := dL_law_27g.1
theorem dL_law_29 : decode cL_law 29 = .ok (.isub, 1) := dL_law_27g.2.1
theorem dL_law_30 : decode cL_law 30 = .ok (.if_icmp .gt 749, 3) := dL_law_27g.2.2.1
theorem dL_law_33 : decode cL_law 33 = .ok (.aload_n 0, 1) := dL_law_27g.2.2.2.1
theorem dL_law_34 : decode cL_law 34 = .ok (.iload 4, 2) := dL_law_27g.2.2.2.2.1
theorem dL_law_36 : decode cL_law 36 = .ok (.iaload, 1) := dL_law_27g.2.2.2.2.2.1
theorem dL_law_37 : decode cL_law 37 = .ok (.bipush 15, 2) := dL_law_27g.2.2.2.2.2.2.1
theorem dL_law_39 : decode cL_law 39 = .ok (.iand, 1) := dL_law_27g.2.2.2.2.2.2.2.1
theorem dL_law_40 : decode cL_law 40 = .ok (.tableswitch 733 0 14 #[76, 113, 186, 235, 366, 439, 455, 480, 496, 556, 596, 609, 622, 659, 696], 76) := dL_law_27g.2.2.2.2.2.2.2.2.1
theorem dL_law_116 : decode cL_law 116 = .ok (.aload_n 1, 1) := dL_law_27g.2.2.2.2.2.2.2.2.2.1
theorem dL_law_117 : decode cL_law 117 = .ok (.aload_n 0, 1) := dL_law_27g.2.2.2.2.2.2.2.2.2.2.1
theorem dL_law_118 : decode cL_law 118 = .ok (.iload 4, 2) := dL_law_27g.2.2.2.2.2.2.2.2.2.2.2.1
theorem dL_law_120 : decode cL_law 120 = .ok (.iconst 1, 1) := dL_law_27g.2.2.2.2.2.2.2.2.2.2.2.2.1
theorem dL_law_121 : decode cL_law 121 = .ok (.iadd, 1) := dL_law_27g.2.2.2.2.2.2.2.2.2.2.2.2.2.1
theorem dL_law_122 : decode cL_law 122 = .ok (.iaload, 1) := dL_law_27g.2.2.2.2.2.2.2.2.2.2.2.2.2.2.1
theorem dL_law_123 : decode cL_law 123 = .ok (.aload_n 0, 1) := dL_law_27g.2.2.2.2.2.2.2.2.2.2.2.2.2.2.2
theorem dL_law_124g : decode cL_law 124 = .ok (.iload 4, 2) ∧ decode cL_law 126 = .ok (.iconst 2, 1) ∧ decode cL_law 127 = .ok (.iadd, 1) ∧ decode cL_law 128 = .ok (.iaload, 1) ∧ decode cL_law 129 = .ok (.invokevirtual 36, 3) ∧ decode cL_law 132 = .ok (.pop, 1) ∧ decode cL_law 133 = .ok (.aload_n 2, 1) ∧ decode cL_law 134 = .ok (.aload_n 0, 1) ∧ decode cL_law 135 = .ok (.iload 4, 2) ∧ decode cL_law 137 = .ok (.iconst 1, 1) ∧ decode cL_law 138 = .ok (.iadd, 1) ∧ decode cL_law 139 = .ok (.iaload, 1) ∧ decode cL_law 140 = .ok (.aload_n 0, 1) ∧ decode cL_law 141 = .ok (.iload 4, 2) ∧ decode cL_law 143 = .ok (.iconst 2, 1) ∧ decode cL_law 144 = .ok (.iadd, 1) := by decide +kernel
theorem dL_law_124 : decode cL_law 124 = .ok (.iload 4, 2) := dL_law_124g.1
theorem dL_law_126 : decode cL_law 126 = .ok (.iconst 2, 1) := dL_law_124g.2.1
theorem dL_law_127 : decode cL_law 127 = .ok (.iadd, 1) := dL_law_124g.2.2.1
theorem dL_law_128 : decode cL_law 128 = .ok (.iaload, 1) := dL_law_124g.2.2.2.1
theorem dL_law_129 : decode cL_law 129 = .ok (.invokevirtual 36, 3) := dL_law_124g.2.2.2.2.1
theorem dL_law_132 : decode cL_law 132 = .ok (.pop, 1) := dL_law_124g.2.2.2.2.2.1
theorem dL_law_133 : decode cL_law 133 = .ok (.aload_n 2, 1) := dL_law_124g.2.2.2.2.2.2.1
theorem dL_law_134 : decode cL_law 134 = .ok (.aload_n 0, 1) := dL_law_124g.2.2.2.2.2.2.2.1
theorem dL_law_135 : decode cL_law 135 = .ok (.iload 4, 2) := dL_law_124g.2.2.2.2.2.2.2.2.1
theorem dL_law_137 : decode cL_law 137 = .ok (.iconst 1, 1) := dL_law_124g.2.2.2.2.2.2.2.2.2.1
theorem dL_law_138 : decode cL_law 138 = .ok (.iadd, 1) := dL_law_124g.2.2.2.2.2.2.2.2.2.2.1
theorem dL_law_139 : decode cL_law 139 = .ok (.iaload, 1) := dL_law_124g.2.2.2.2.2.2.2.2.2.2.2.1
theorem dL_law_140 : decode cL_law 140 = .ok (.aload_n 0, 1) := dL_law_124g.2.2.2.2.2.2.2.2.2.2.2.2.1
theorem dL_law_141 : decode cL_law 141 = .ok (.iload 4, 2) := dL_law_124g.2.2.2.2.2.2.2.2.2.2.2.2.2.1
theorem dL_law_143 : decode cL_law 143 = .ok (.iconst 2, 1) := dL_law_124g.2.2.2.2.2.2.2.2.2.2.2.2.2.2.1
theorem dL_law_144 : decode cL_law 144 = .ok (.iadd, 1) := dL_law_124g.2.2.2.2.2.2.2.2.2.2.2.2.2.2.2
theorem dL_law_145g : decode cL_law 145 = .ok (.iaload, 1) ∧ decode cL_law 146 = .ok (.invokevirtual 40, 3) ∧ decode cL_law 149 = .ok (.pop, 1) ∧ decode cL_law 150 = .ok (.goto 623, 3) ∧ decode cL_law 153 = .ok (.aload_n 1, 1) ∧ decode cL_law 154 = .ok (.aload_n 0, 1) ∧ decode cL_law 155 = .ok (.iload 4, 2) ∧ decode cL_law 157 = .ok (.iconst 1, 1) ∧ decode cL_law 158 = .ok (.iadd, 1) ∧ decode cL_law 159 = .ok (.iaload, 1) ∧ decode cL_law 160 = .ok (.aload_n 0, 1) ∧ decode cL_law 161 = .ok (.iload 4, 2) ∧ decode cL_law 163 = .ok (.iconst 2, 1) ∧ decode cL_law 164 = .ok (.iadd, 1) ∧ decode cL_law 165 = .ok (.iaload, 1) ∧ decode cL_law 166 = .ok (.aload_n 0, 1) := by decide +kernel
theorem dL_law_145 : decode cL_law 145 = .ok (.iaload, 1) := dL_law_145g.1
theorem dL_law_146 : decode cL_law 146 = .ok (.invokevirtual 40, 3) := dL_law_145g.2.1
theorem dL_law_149 : decode cL_law 149 = .ok (.pop, 1) := dL_law_145g.2.2.1
theorem dL_law_150 : decode cL_law 150 = .ok (.goto 623, 3) := dL_law_145g.2.2.2.1
theorem dL_law_153 : decode cL_law 153 = .ok (.aload_n 1, 1) := dL_law_145g.2.2.2.2.1
theorem dL_law_154 : decode cL_law 154 = .ok (.aload_n 0, 1) := dL_law_145g.2.2.2.2.2.1
theorem dL_law_155 : decode cL_law 155 = .ok (.iload 4, 2) := dL_law_145g.2.2.2.2.2.2.1
theorem dL_law_157 : decode cL_law 157 = .ok (.iconst 1, 1) := dL_law_145g.2.2.2.2.2.2.2.1
theorem dL_law_158 : decode cL_law 158 = .ok (.iadd, 1) := dL_law_145g.2.2.2.2.2.2.2.2.1
theorem dL_law_159 : decode cL_law 159 = .ok (.iaload, 1) := dL_law_145g.2.2.2.2.2.2.2.2.2.1
theorem dL_law_160 : decode cL_law 160 = .ok (.aload_n 0, 1) := dL_law_145g.2.2.2.2.2.2.2.2.2.2.1
theorem dL_law_161 : decode cL_law 161 = .ok (.iload 4, 2) := dL_law_145g.2.2.2.2.2.2.2.2.2.2.2.1
theorem dL_law_163 : decode cL_law 163 = .ok (.iconst 2, 1) := dL_law_145g.2.2.2.2.2.2.2.2.2.2.2.2.1
theorem dL_law_164 : decode cL_law 164 = .ok (.iadd, 1) := dL_law_145g.2.2.2.2.2.2.2.2.2.2.2.2.2.1
theorem dL_law_165 : decode cL_law 165 = .ok (.iaload, 1) := dL_law_145g.2.2.2.2.2.2.2.2.2.2.2.2.2.2.1
theorem dL_law_166 : decode cL_law 166 = .ok (.aload_n 0, 1) := dL_law_145g.2.2.2.2.2.2.2.2.2.2.2.2.2.2.2
theorem dL_law_167g : decode cL_law 167 = .ok (.iload 4, 2) ∧ decode cL_law 169 = .ok (.iconst 3, 1) ∧ decode cL_law 170 = .ok (.iadd, 1) ∧ decode cL_law 171 = .ok (.iaload, 1) ∧ decode cL_law 172 = .ok (.aload_n 0, 1) ∧ decode cL_law 173 = .ok (.iload 4, 2) ∧ decode cL_law 175 = .ok (.iconst 4, 1) ∧ decode cL_law 176 = .ok (.iadd, 1) ∧ decode cL_law 177 = .ok (.iaload, 1) ∧ decode cL_law 178 = .ok (.aload_n 0, 1) ∧ decode cL_law 179 = .ok (.iload 4, 2) ∧ decode cL_law 181 = .ok (.iconst 5, 1) ∧ decode cL_law 182 = .ok (.iadd, 1) ∧ decode cL_law 183 = .ok (.iaload, 1) ∧ decode cL_law 184 = .ok (.invokevirtual 41, 3) ∧ decode cL_law 187 = .ok (.pop, 1) := by decide +kernel
theorem dL_law_167 : decode cL_law 167 = .ok (.iload 4, 2) := dL_law_167g.1
theorem dL_law_169 : decode cL_law 169 = .ok (.iconst 3, 1) := dL_law_167g.2.1
theorem dL_law_170 : decode cL_law 170 = .ok (.iadd, 1) := dL_law_167g.2.2.1
theorem dL_law_171 : decode cL_law 171 = .ok (.iaload, 1) := dL_law_167g.2.2.2.1
theorem dL_law_172 : decode cL_law 172 = .ok (.aload_n 0, 1) := dL_law_167g.2.2.2.2.1
theorem dL_law_173 : decode cL_law 173 = .ok (.iload 4, 2) := dL_law_167g.2.2.2.2.2.1
theorem dL_law_175 : decode cL_law 175 = .ok (.iconst 4, 1) := dL_law_167g.2.2.2.2.2.2.1
theorem dL_law_176 : decode cL_law 176 = .ok (.iadd, 1) := dL_law_167g.2.2.2.2.2.2.2.1
theorem dL_law_177 : decode cL_law 177 = .ok (.iaload, 1) := dL_law_167g.2.2.2.2.2.2.2.2.1
theorem dL_law_178 : decode cL_law 178 = .ok (.aload_n 0, 1) := dL_law_167g.2.2.2.2.2.2.2.2.2.1
theorem dL_law_179 : decode cL_law 179 = .ok (.iload 4, 2) := dL_law_167g.2.2.2.2.2.2.2.2.2.2.1
theorem dL_law_181 : decode cL_law 181 = .ok (.iconst 5, 1) := dL_law_167g.2.2.2.2.2.2.2.2.2.2.2.1
theorem dL_law_182 : decode cL_law 182 = .ok (.iadd, 1) := dL_law_167g.2.2.2.2.2.2.2.2.2.2.2.2.1
theorem dL_law_183 : decode cL_law 183 = .ok (.iaload, 1) := dL_law_167g.2.2.2.2.2.2.2.2.2.2.2.2.2.1
theorem dL_law_184 : decode cL_law 184 = .ok (.invokevirtual 41, 3) := dL_law_167g.2.2.2.2.2.2.2.2.2.2.2.2.2.2.1
theorem dL_law_187 : decode cL_law 187 = .ok (.pop, 1) := dL_law_167g.2.2.2.2.2.2.2.2.2.2.2.2.2.2.2
theorem dL_law_188g : decode cL_law 188 = .ok (.aload_n 2, 1) ∧ decode cL_law 189 = .ok (.aload_n 0, 1) ∧ decode cL_law 190 = .ok (.iload 4, 2) ∧ decode cL_law 192 = .ok (.iconst 1, 1) ∧ decode cL_law 193 = .ok (.iadd, 1) ∧ decode cL_law 194 = .ok (.iaload, 1) ∧ decode cL_law 195 = .ok (.aload_n 0, 1) ∧ decode cL_law 196 = .ok (.iload 4, 2) ∧ decode cL_law 198 = .ok (.iconst 2, 1) ∧ decode cL_law 199 = .ok (.iadd, 1) ∧ decode cL_law 200 = .ok (.iaload, 1) ∧ decode cL_law 201 = .ok (.aload_n 0, 1) ∧ decode cL_law 202 = .ok (.iload 4, 2) ∧ decode cL_law 204 = .ok (.iconst 3, 1) ∧ decode cL_law 205 = .ok (.iadd, 1) ∧ decode cL_law 206 = .ok (.iaload, 1) := by decide +kernel
theorem dL_law_188 : decode cL_law 188 = .ok (.aload_n 2, 1) := dL_law_188g.1
theorem dL_law_189 : decode cL_law 189 = .ok (.aload_n 0, 1) := dL_law_188g.2.1
theorem dL_law_190 : decode cL_law 190 = .ok (.iload 4, 2) := dL_law_188g.2.2.1
theorem dL_law_192 : decode cL_law 192 = .ok (.iconst 1, 1) := dL_law_188g.2.2.2.1
theorem dL_law_193 : decode cL_law 193 = .ok (.iadd, 1) := dL_law_188g.2.2.2.2.1
theorem dL_law_194 : decode cL_law 194 = .ok (.iaload, 1) := dL_law_188g.2.2.2.2.2.1
theorem dL_law_195 : decode cL_law 195 = .ok (.aload_n 0, 1) := dL_law_188g.2.2.2.2.2.2.1
theorem dL_law_196 : decode cL_law 196 = .ok (.iload 4, 2) := dL_law_188g.2.2.2.2.2.2.2.1
theorem dL_law_198 : decode cL_law 198 = .ok (.iconst 2, 1) := dL_law_188g.2.2.2.2.2.2.2.2.1
theorem dL_law_199 : decode cL_law 199 = .ok (.iadd, 1) := dL_law_188g.2.2.2.2.2.2.2.2.2.1
theorem dL_law_200 : decode cL_law 200 = .ok (.iaload, 1) := dL_law_188g.2.2.2.2.2.2.2.2.2.2.1
theorem dL_law_201 : decode cL_law 201 = .ok (.aload_n 0, 1) := dL_law_188g.2.2.2.2.2.2.2.2.2.2.2.1
theorem dL_law_202 : decode cL_law 202 = .ok (.iload 4, 2) := dL_law_188g.2.2.2.2.2.2.2.2.2.2.2.2.1
theorem dL_law_204 : decode cL_law 204 = .ok (.iconst 3, 1) := dL_law_188g.2.2.2.2.2.2.2.2.2.2.2.2.2.1
theorem dL_law_205 : decode cL_law 205 = .ok (.iadd, 1) := dL_law_188g.2.2.2.2.2.2.2.2.2.2.2.2.2.2.1
theorem dL_law_206 : decode cL_law 206 = .ok (.iaload, 1) := dL_law_188g.2.2.2.2.2.2.2.2.2.2.2.2.2.2.2
theorem dL_law_207g : decode cL_law 207 = .ok (.aload_n 0, 1) ∧ decode cL_law 208 = .ok (.iload 4, 2) ∧ decode cL_law 210 = .ok (.iconst 4, 1) ∧ decode cL_law 211 = .ok (.iadd, 1) ∧ decode cL_law 212 = .ok (.iaload, 1) ∧ decode cL_law 213 = .ok (.aload_n 0, 1) ∧ decode cL_law 214 = .ok (.iload 4, 2) ∧ decode cL_law 216 = .ok (.iconst 5, 1) ∧ decode cL_law 217 = .ok (.iadd, 1) ∧ decode cL_law 218 = .ok (.iaload, 1) ∧ decode cL_law 219 = .ok (.invokevirtual 45, 3) ∧ decode cL_law 222 = .ok (.pop, 1) ∧ decode cL_law 223 = .ok (.goto 550, 3) ∧ decode cL_law 226 = .ok (.aload_n 1, 1) ∧ decode cL_law 227 = .ok (.aload_n 0, 1) ∧ decode cL_law 228 = .ok (.iload 4, 2) := by decide +kernel
theorem dL_law_207 : decode cL_law 207 = .ok (.aload_n 0, 1) := dL_law_207g.1
theorem dL_law_208 : decode cL_law 208 = .ok (.iload 4, 2) := dL_law_207g.2.1
theorem dL_law_210 : decode cL_law 210 = .ok (.iconst 4, 1) := dL_law_207g.2.2.1
theorem dL_law_211 : decode cL_law 211 = .ok (.iadd, 1) := dL_law_207g.2.2.2.1
theorem dL_law_212 : decode cL_law 212 = .ok (.iaload, 1) := dL_law_207g.2.2.2.2.1
theorem dL_law_213 : decode cL_law 213 = .ok (.aload_n 0, 1) := dL_law_207g.2.2.2.2.2.1
theorem dL_law_214 : decode cL_law 214 = .ok (.iload 4, 2) := dL_law_207g.2.2.2.2.2.2.1
theorem dL_law_216 : decode cL_law 216 = .ok (.iconst 5, 1) := dL_law_207g.2.2.2.2.2.2.2.1
theorem dL_law_217 : decode cL_law 217 = .ok (.iadd, 1) := dL_law_207g.2.2.2.2.2.2.2.2.1
theorem dL_law_218 : decode cL_law 218 = .ok (.iaload, 1) := dL_law_207g.2.2.2.2.2.2.2.2.2.1
theorem dL_law_219 : decode cL_law 219 = .ok (.invokevirtual 45, 3) := dL_law_207g.2.2.2.2.2.2.2.2.2.2.1
theorem dL_law_222 : decode cL_law 222 = .ok (.pop, 1) := dL_law_207g.2.2.2.2.2.2.2.2.2.2.2.1
theorem dL_law_223 : decode cL_law 223 = .ok (.goto 550, 3) := dL_law_207g.2.2.2.2.2.2.2.2.2.2.2.2.1
theorem dL_law_226 : decode cL_law 226 = .ok (.aload_n 1, 1) := dL_law_207g.2.2.2.2.2.2.2.2.2.2.2.2.2.1
theorem dL_law_227 : decode cL_law 227 = .ok (.aload_n 0, 1) := dL_law_207g.2.2.2.2.2.2.2.2.2.2.2.2.2.2.1
theorem dL_law_228 : decode cL_law 228 = .ok (.iload 4, 2) := dL_law_207g.2.2.2.2.2.2.2.2.2.2.2.2.2.2.2
theorem dL_law_230g : decode cL_law 230 = .ok (.iconst 1, 1) ∧ decode cL_law 231 = .ok (.iadd, 1) ∧ decode cL_law 232 = .ok (.iaload, 1) ∧ decode cL_law 233 = .ok (.aload_n 0, 1) ∧ decode cL_law 234 = .ok (.iload 4, 2) ∧ decode cL_law 236 = .ok (.iconst 2, 1) ∧ decode cL_law 237 = .ok (.iadd, 1) ∧ decode cL_law 238 = .ok (.iaload, 1) ∧ decode cL_law 239 = .ok (.aload_n 0, 1) ∧ decode cL_law 240 = .ok (.iload 4, 2) ∧ decode cL_law 242 = .ok (.iconst 3, 1) ∧ decode cL_law 243 = .ok (.iadd, 1) ∧ decode cL_law 244 = .ok (.iaload, 1) ∧ decode cL_law 245 = .ok (.invokevirtual 46, 3) ∧ decode cL_law 248 = .ok (.pop, 1) ∧ decode cL_law 249 = .ok (.aload_n 2, 1) := by decide +kernel
theorem dL_law_230 : decode cL_law 230 = .ok (.iconst 1, 1) := dL_law_230g.1
theorem dL_law_231 : decode cL_law 231 = .ok (.iadd, 1) := dL_law_230g.2.1
theorem dL_law_232 : decode cL_law 232 = .ok (.iaload, 1) := dL_law_230g.2.2.1
theorem dL_law_233 : decode cL_law 233 = .ok (.aload_n 0, 1) := dL_law_230g.2.2.2.1
theorem dL_law_234 : decode cL_law 234 = .ok (.iload 4, 2) := dL_law_230g.2.2.2.2.1
theorem dL_law_236 : decode cL_law 236 = .ok (.iconst 2, 1) := dL_law_230g.2.2.2.2.2.1
theorem dL_law_237 : decode cL_law 237 = .ok (.iadd, 1) := dL_law_230g.2.2.2.2.2.2.1
theorem dL_law_238 : decode cL_law 238 = .ok (.iaload, 1) := dL_law_230g.2.2.2.2.2.2.2.1
theorem dL_law_239 : decode cL_law 239 = .ok (.aload_n 0, 1) := dL_law_230g.2.2.2.2.2.2.2.2.1
theorem dL_law_240 : decode cL_law 240 = .ok (.iload 4, 2) := dL_law_230g.2.2.2.2.2.2.2.2.2.1
theorem dL_law_242 : decode cL_law 242 = .ok (.iconst 3, 1) := dL_law_230g.2.2.2.2.2.2.2.2.2.2.1
theorem dL_law_243 : decode cL_law 243 = .ok (.iadd, 1) := dL_law_230g.2.2.2.2.2.2.2.2.2.2.2.1
theorem dL_law_244 : decode cL_law 244 = .ok (.iaload, 1) := dL_law_230g.2.2.2.2.2.2.2.2.2.2.2.2.1
theorem dL_law_245 : decode cL_law 245 = .ok (.invokevirtual 46, 3) := dL_law_230g.2.2.2.2.2.2.2.2.2.2.2.2.2.1
theorem dL_law_248 : decode cL_law 248 = .ok (.pop, 1) := dL_law_230g.2.2.2.2.2.2.2.2.2.2.2.2.2.2.1
theorem dL_law_249 : decode cL_law 249 = .ok (.aload_n 2, 1) := dL_law_230g.2.2.2.2.2.2.2.2.2.2.2.2.2.2.2
theorem dL_law_250g : decode cL_law 250 = .ok (.aload_n 0, 1) ∧ decode cL_law 251 = .ok (.iload 4, 2) ∧ decode cL_law 253 = .ok (.iconst 1, 1) ∧ decode cL_law 254 = .ok (.iadd, 1) ∧ decode cL_law 255 = .ok (.iaload, 1) ∧ decode cL_law 256 = .ok (.aload_n 0, 1) ∧ decode cL_law 257 = .ok (.iload 4, 2) ∧ decode cL_law 259 = .ok (.iconst 2, 1) ∧ decode cL_law 260 = .ok (.iadd, 1) ∧ decode cL_law 261 = .ok (.iaload, 1) ∧ decode cL_law 262 = .ok (.aload_n 0, 1) ∧ decode cL_law 263 = .ok (.iload 4, 2) ∧ decode cL_law 265 = .ok (.iconst 3, 1) ∧ decode cL_law 266 = .ok (.iadd, 1) ∧ decode cL_law 267 = .ok (.iaload, 1) ∧ decode cL_law 268 = .ok (.invokevirtual 50, 3) := by decide +kernel
theorem dL_law_250 : decode cL_law 250 = .ok (.aload_n 0, 1) := dL_law_250g.1
theorem dL_law_251 : decode cL_law 251 = .ok (.iload 4, 2) := dL_law_250g.2.1
theorem dL_law_253 : decode cL_law 253 = .ok (.iconst 1, 1) := dL_law_250g.2.2.1
theorem dL_law_254 : decode cL_law 254 = .ok (.iadd, 1) := dL_law_250g.2.2.2.1
theorem dL_law_255 : decode cL_law 255 = .ok (.iaload, 1) := dL_law_250g.2.2.2.2.1
theorem dL_law_256 : decode cL_law 256 = .ok (.aload_n 0, 1) := dL_law_250g.2.2.2.2.2.1
theorem dL_law_257 : decode cL_law 257 = .ok (.iload 4, 2) := dL_law_250g.2.2.2.2.2.2.1
theorem dL_law_259 : decode cL_law 259 = .ok (.iconst 2, 1) := dL_law_250g.2.2.2.2.2.2.2.1
theorem dL_law_260 : decode cL_law 260 = .ok (.iadd, 1) := dL_law_250g.2.2.2.2.2.2.2.2.1
theorem dL_law_261 : decode cL_law 261 = .ok (.iaload, 1) := dL_law_250g.2.2.2.2.2.2.2.2.2.1
theorem dL_law_262 : decode cL_law 262 = .ok (.aload_n 0, 1) := dL_law_250g.2.2.2.2.2.2.2.2.2.2.1
theorem dL_law_263 : decode cL_law 263 = .ok (.iload 4, 2) := dL_law_250g.2.2.2.2.2.2.2.2.2.2.2.1
theorem dL_law_265 : decode cL_law 265 = .ok (.iconst 3, 1) := dL_law_250g.2.2.2.2.2.2.2.2.2.2.2.2.1
theorem dL_law_266 : decode cL_law 266 = .ok (.iadd, 1) := dL_law_250g.2.2.2.2.2.2.2.2.2.2.2.2.2.1
theorem dL_law_267 : decode cL_law 267 = .ok (.iaload, 1) := dL_law_250g.2.2.2.2.2.2.2.2.2.2.2.2.2.2.1
theorem dL_law_268 : decode cL_law 268 = .ok (.invokevirtual 50, 3) := dL_law_250g.2.2.2.2.2.2.2.2.2.2.2.2.2.2.2
theorem dL_law_271g : decode cL_law 271 = .ok (.pop, 1) ∧ decode cL_law 272 = .ok (.goto 501, 3) ∧ decode cL_law 275 = .ok (.aload_n 1, 1) ∧ decode cL_law 276 = .ok (.aload_n 0, 1) ∧ decode cL_law 277 = .ok (.iload 4, 2) ∧ decode cL_law 279 = .ok (.iconst 1, 1) ∧ decode cL_law 280 = .ok (.iadd, 1) ∧ decode cL_law 281 = .ok (.iaload, 1) ∧ decode cL_law 282 = .ok (.aload_n 0, 1) ∧ decode cL_law 283 = .ok (.iload 4, 2) ∧ decode cL_law 285 = .ok (.iconst 2, 1) ∧ decode cL_law 286 = .ok (.iadd, 1) ∧ decode cL_law 287 = .ok (.iaload, 1) ∧ decode cL_law 288 = .ok (.aload_n 0, 1) ∧ decode cL_law 289 = .ok (.iload 4, 2) ∧ decode cL_law 291 = .ok (.iconst 3, 1) := by decide +kernel
theorem dL_law_271 : decode cL_law 271 = .ok (.pop, 1) := dL_law_271g.1
theorem dL_law_272 : decode cL_law 272 = .ok (.goto 501, 3) := dL_law_271g.2.1
theorem dL_law_275 : decode cL_law 275 = .ok (.aload_n 1, 1) := dL_law_271g.2.2.1
theorem dL_law_276 : decode cL_law 276 = .ok (.aload_n 0, 1) := dL_law_271g.2.2.2.1
theorem dL_law_277 : decode cL_law 277 = .ok (.iload 4, 2) := dL_law_271g.2.2.2.2.1
theorem dL_law_279 : decode cL_law 279 = .ok (.iconst 1, 1) := dL_law_271g.2.2.2.2.2.1
theorem dL_law_280 : decode cL_law 280 = .ok (.iadd, 1) := dL_law_271g.2.2.2.2.2.2.1
theorem dL_law_281 : decode cL_law 281 = .ok (.iaload, 1) := dL_law_271g.2.2.2.2.2.2.2.1
theorem dL_law_282 : decode cL_law 282 = .ok (.aload_n 0, 1) := dL_law_271g.2.2.2.2.2.2.2.2.1
theorem dL_law_283 : decode cL_law 283 = .ok (.iload 4, 2) := dL_law_271g.2.2.2.2.2.2.2.2.2.1
theorem dL_law_285 : decode cL_law 285 = .ok (.iconst 2, 1) := dL_law_271g.2.2.2.2.2.2.2.2.2.2.1
theorem dL_law_286 : decode cL_law 286 = .ok (.iadd, 1) := dL_law_271g.2.2.2.2.2.2.2.2.2.2.2.1
theorem dL_law_287 : decode cL_law 287 = .ok (.iaload, 1) := dL_law_271g.2.2.2.2.2.2.2.2.2.2.2.2.1
theorem dL_law_288 : decode cL_law 288 = .ok (.aload_n 0, 1) := dL_law_271g.2.2.2.2.2.2.2.2.2.2.2.2.2.1
theorem dL_law_289 : decode cL_law 289 = .ok (.iload 4, 2) := dL_law_271g.2.2.2.2.2.2.2.2.2.2.2.2.2.2.1
theorem dL_law_291 : decode cL_law 291 = .ok (.iconst 3, 1) := dL_law_271g.2.2.2.2.2.2.2.2.2.2.2.2.2.2.2
theorem dL_law_292g : decode cL_law 292 = .ok (.iadd, 1) ∧ decode cL_law 293 = .ok (.iaload, 1) ∧ decode cL_law 294 = .ok (.ifCond .eq 7, 3) ∧ decode cL_law 297 = .ok (.iconst 1, 1) ∧ decode cL_law 298 = .ok (.goto 4, 3) ∧ decode cL_law 301 = .ok (.iconst 0, 1) ∧ decode cL_law 302 = .ok (.aload_n 0, 1) ∧ decode cL_law 303 = .ok (.iload 4, 2) ∧ decode cL_law 305 = .ok (.iconst 4, 1) ∧ decode cL_law 306 = .ok (.iadd, 1) ∧ decode cL_law 307 = .ok (.iaload, 1) ∧ decode cL_law 308 = .ok (.aload_n 0, 1) ∧ decode cL_law 309 = .ok (.iload 4, 2) ∧ decode cL_law 311 = .ok (.iconst 5, 1) ∧ decode cL_law 312 = .ok (.iadd, 1) ∧ decode cL_law 313 = .ok (.iaload, 1) := by decide +kernel
theorem dL_law_292 : decode cL_law 292 = .ok (.iadd, 1) := dL_law_292g.1
theorem dL_law_293 : decode cL_law 293 = .ok (.iaload, 1) := dL_law_292g.2.1
theorem dL_law_294 : decode cL_law 294 = .ok (.ifCond .eq 7, 3) := dL_law_292g.2.2.1
theorem dL_law_297 : decode cL_law 297 = .ok (.iconst 1, 1) := dL_law_292g.2.2.2.1
theorem dL_law_298 : decode cL_law 298 = .ok (.goto 4, 3) := dL_law_292g.2.2.2.2.1
theorem dL_law_301 : decode cL_law 301 = .ok (.iconst 0, 1) := dL_law_292g.2.2.2.2.2.1
theorem dL_law_302 : decode cL_law 302 = .ok (.aload_n 0, 1) := dL_law_292g.2.2.2.2.2.2.1
theorem dL_law_303 : decode cL_law 303 = .ok (.iload 4, 2) := dL_law_292g.2.2.2.2.2.2.2.1
theorem dL_law_305 : decode cL_law 305 = .ok (.iconst 4, 1) := dL_law_292g.2.2.2.2.2.2.2.2.1
theorem dL_law_306 : decode cL_law 306 = .ok (.iadd, 1) := dL_law_292g.2.2.2.2.2.2.2.2.2.1
theorem dL_law_307 : decode cL_law 307 = .ok (.iaload, 1) := dL_law_292g.2.2.2.2.2.2.2.2.2.2.1
theorem dL_law_308 : decode cL_law 308 = .ok (.aload_n 0, 1) := dL_law_292g.2.2.2.2.2.2.2.2.2.2.2.1
theorem dL_law_309 : decode cL_law 309 = .ok (.iload 4, 2) := dL_law_292g.2.2.2.2.2.2.2.2.2.2.2.2.1
theorem dL_law_311 : decode cL_law 311 = .ok (.iconst 5, 1) := dL_law_292g.2.2.2.2.2.2.2.2.2.2.2.2.2.1
theorem dL_law_312 : decode cL_law 312 = .ok (.iadd, 1) := dL_law_292g.2.2.2.2.2.2.2.2.2.2.2.2.2.2.1
theorem dL_law_313 : decode cL_law 313 = .ok (.iaload, 1) := dL_law_292g.2.2.2.2.2.2.2.2.2.2.2.2.2.2.2
theorem dL_law_314g : decode cL_law 314 = .ok (.aload_n 0, 1) ∧ decode cL_law 315 = .ok (.iload 4, 2) ∧ decode cL_law 317 = .ok (.bipush 6, 2) ∧ decode cL_law 319 = .ok (.iadd, 1) ∧ decode cL_law 320 = .ok (.iaload, 1) ∧ decode cL_law 321 = .ok (.aload_n 0, 1) ∧ decode cL_law 322 = .ok (.iload 4, 2) ∧ decode cL_law 324 = .ok (.bipush 7, 2) ∧ decode cL_law 326 = .ok (.iadd, 1) ∧ decode cL_law 327 = .ok (.iaload, 1) ∧ decode cL_law 328 = .ok (.aload_n 0, 1) ∧ decode cL_law 329 = .ok (.iload 4, 2) ∧ decode cL_law 331 = .ok (.bipush 8, 2) ∧ decode cL_law 333 = .ok (.iadd, 1) ∧ decode cL_law 334 = .ok (.iaload, 1) ∧ decode cL_law 335 = .ok (.invokevirtual 51, 3) := by decide +kernel
theorem dL_law_314 : decode cL_law 314 = .ok (.aload_n 0, 1) := dL_law_314g.1
theorem dL_law_315 : decode cL_law 315 = .ok (.iload 4, 2) := dL_law_314g.2.1
theorem dL_law_317 : decode cL_law 317 = .ok (.bipush 6, 2) := dL_law_314g.2.2.1
theorem dL_law_319 : decode cL_law 319 = .ok (.iadd, 1) := dL_law_314g.2.2.2.1
theorem dL_law_320 : decode cL_law 320 = .ok (.iaload, 1) := dL_law_314g.2.2.2.2.1
theorem dL_law_321 : decode cL_law 321 = .ok (.aload_n 0, 1) := dL_law_314g.2.2.2.2.2.1
theorem dL_law_322 : decode cL_law 322 = .ok (.iload 4, 2) := dL_law_314g.2.2.2.2.2.2.1
theorem dL_law_324 : decode cL_law 324 = .ok (.bipush 7, 2) := dL_law_314g.2.2.2.2.2.2.2.1
theorem dL_law_326 : decode cL_law 326 = .ok (.iadd, 1) := dL_law_314g.2.2.2.2.2.2.2.2.1
theorem dL_law_327 : decode cL_law 327 = .ok (.iaload, 1) := dL_law_314g.2.2.2.2.2.2.2.2.2.1
theorem dL_law_328 : decode cL_law 328 = .ok (.aload_n 0, 1) := dL_law_314g.2.2.2.2.2.2.2.2.2.2.1
theorem dL_law_329 : decode cL_law 329 = .ok (.iload 4, 2) := dL_law_314g.2.2.2.2.2.2.2.2.2.2.2.1
theorem dL_law_331 : decode cL_law 331 = .ok (.bipush 8, 2) := dL_law_314g.2.2.2.2.2.2.2.2.2.2.2.2.1
theorem dL_law_333 : decode cL_law 333 = .ok (.iadd, 1) := dL_law_314g.2.2.2.2.2.2.2.2.2.2.2.2.2.1
theorem dL_law_334 : decode cL_law 334 = .ok (.iaload, 1) := dL_law_314g.2.2.2.2.2.2.2.2.2.2.2.2.2.2.1
theorem dL_law_335 : decode cL_law 335 = .ok (.invokevirtual 51, 3) := dL_law_314g.2.2.2.2.2.2.2.2.2.2.2.2.2.2.2
theorem dL_law_338g : decode cL_law 338 = .ok (.pop, 1) ∧ decode cL_law 339 = .ok (.aload_n 2, 1) ∧ decode cL_law 340 = .ok (.aload_n 0, 1) ∧ decode cL_law 341 = .ok (.iload 4, 2) ∧ decode cL_law 343 = .ok (.iconst 1, 1) ∧ decode cL_law 344 = .ok (.iadd, 1) ∧ decode cL_law 345 = .ok (.iaload, 1) ∧ decode cL_law 346 = .ok (.aload_n 0, 1) ∧ decode cL_law 347 = .ok (.iload 4, 2) ∧ decode cL_law 349 = .ok (.iconst 2, 1) ∧ decode cL_law 350 = .ok (.iadd, 1) ∧ decode cL_law 351 = .ok (.iaload, 1) ∧ decode cL_law 352 = .ok (.aload_n 0, 1) ∧ decode cL_law 353 = .ok (.iload 4, 2) ∧ decode cL_law 355 = .ok (.iconst 3, 1) ∧ decode cL_law 356 = .ok (.iadd, 1) := by decide +kernel
theorem dL_law_338 : decode cL_law 338 = .ok (.pop, 1) := dL_law_338g.1
theorem dL_law_339 : decode cL_law 339 = .ok (.aload_n 2, 1) := dL_law_338g.2.1
theorem dL_law_340 : decode cL_law 340 = .ok (.aload_n 0, 1) := dL_law_338g.2.2.1
theorem dL_law_341 : decode cL_law 341 = .ok (.iload 4, 2) := dL_law_338g.2.2.2.1
theorem dL_law_343 : decode cL_law 343 = .ok (.iconst 1, 1) := dL_law_338g.2.2.2.2.1
theorem dL_law_344 : decode cL_law 344 = .ok (.iadd, 1) := dL_law_338g.2.2.2.2.2.1
theorem dL_law_345 : decode cL_law 345 = .ok (.iaload, 1) := dL_law_338g.2.2.2.2.2.2.1
theorem dL_law_346 : decode cL_law 346 = .ok (.aload_n 0, 1) := dL_law_338g.2.2.2.2.2.2.2.1
theorem dL_law_347 : decode cL_law 347 = .ok (.iload 4, 2) := dL_law_338g.2.2.2.2.2.2.2.2.1
theorem dL_law_349 : decode cL_law 349 = .ok (.iconst 2, 1) := dL_law_338g.2.2.2.2.2.2.2.2.2.1
theorem dL_law_350 : decode cL_law 350 = .ok (.iadd, 1) := dL_law_338g.2.2.2.2.2.2.2.2.2.2.1
theorem dL_law_351 : decode cL_law 351 = .ok (.iaload, 1) := dL_law_338g.2.2.2.2.2.2.2.2.2.2.2.1
theorem dL_law_352 : decode cL_law 352 = .ok (.aload_n 0, 1) := dL_law_338g.2.2.2.2.2.2.2.2.2.2.2.2.1
theorem dL_law_353 : decode cL_law 353 = .ok (.iload 4, 2) := dL_law_338g.2.2.2.2.2.2.2.2.2.2.2.2.2.1
theorem dL_law_355 : decode cL_law 355 = .ok (.iconst 3, 1) := dL_law_338g.2.2.2.2.2.2.2.2.2.2.2.2.2.2.1
theorem dL_law_356 : decode cL_law 356 = .ok (.iadd, 1) := dL_law_338g.2.2.2.2.2.2.2.2.2.2.2.2.2.2.2
theorem dL_law_357g : decode cL_law 357 = .ok (.iaload, 1) ∧ decode cL_law 358 = .ok (.ifCond .eq 7, 3) ∧ decode cL_law 361 = .ok (.iconst 1, 1) ∧ decode cL_law 362 = .ok (.goto 4, 3) ∧ decode cL_law 365 = .ok (.iconst 0, 1) ∧ decode cL_law 366 = .ok (.aload_n 0, 1) ∧ decode cL_law 367 = .ok (.iload 4, 2) ∧ decode cL_law 369 = .ok (.iconst 4, 1) ∧ decode cL_law 370 = .ok (.iadd, 1) ∧ decode cL_law 371 = .ok (.iaload, 1) ∧ decode cL_law 372 = .ok (.aload_n 0, 1) ∧ decode cL_law 373 = .ok (.iload 4, 2) ∧ decode cL_law 375 = .ok (.iconst 5, 1) ∧ decode cL_law 376 = .ok (.iadd, 1) ∧ decode cL_law 377 = .ok (.iaload, 1) ∧ decode cL_law 378 = .ok (.aload_n 0, 1) := by decide +kernel
theorem dL_law_357 : decode cL_law 357 = .ok (.iaload, 1) := dL_law_357g.1
theorem dL_law_358 : decode cL_law 358 = .ok (.ifCond .eq 7, 3) := dL_law_357g.2.1
theorem dL_law_361 : decode cL_law 361 = .ok (.iconst 1, 1) := dL_law_357g.2.2.1
theorem dL_law_362 : decode cL_law 362 = .ok (.goto 4, 3) := dL_law_357g.2.2.2.1
theorem dL_law_365 : decode cL_law 365 = .ok (.iconst 0, 1) := dL_law_357g.2.2.2.2.1
theorem dL_law_366 : decode cL_law 366 = .ok (.aload_n 0, 1) := dL_law_357g.2.2.2.2.2.1
theorem dL_law_367 : decode cL_law 367 = .ok (.iload 4, 2) := dL_law_357g.2.2.2.2.2.2.1
theorem dL_law_369 : decode cL_law 369 = .ok (.iconst 4, 1) := dL_law_357g.2.2.2.2.2.2.2.1
theorem dL_law_370 : decode cL_law 370 = .ok (.iadd, 1) := dL_law_357g.2.2.2.2.2.2.2.2.1
theorem dL_law_371 : decode cL_law 371 = .ok (.iaload, 1) := dL_law_357g.2.2.2.2.2.2.2.2.2.1
theorem dL_law_372 : decode cL_law 372 = .ok (.aload_n 0, 1) := dL_law_357g.2.2.2.2.2.2.2.2.2.2.1
theorem dL_law_373 : decode cL_law 373 = .ok (.iload 4, 2) := dL_law_357g.2.2.2.2.2.2.2.2.2.2.2.1
theorem dL_law_375 : decode cL_law 375 = .ok (.iconst 5, 1) := dL_law_357g.2.2.2.2.2.2.2.2.2.2.2.2.1
theorem dL_law_376 : decode cL_law 376 = .ok (.iadd, 1) := dL_law_357g.2.2.2.2.2.2.2.2.2.2.2.2.2.1
theorem dL_law_377 : decode cL_law 377 = .ok (.iaload, 1) := dL_law_357g.2.2.2.2.2.2.2.2.2.2.2.2.2.2.1
theorem dL_law_378 : decode cL_law 378 = .ok (.aload_n 0, 1) := dL_law_357g.2.2.2.2.2.2.2.2.2.2.2.2.2.2.2
theorem dL_law_379g : decode cL_law 379 = .ok (.iload 4, 2) ∧ decode cL_law 381 = .ok (.bipush 6, 2) ∧ decode cL_law 383 = .ok (.iadd, 1) ∧ decode cL_law 384 = .ok (.iaload, 1) ∧ decode cL_law 385 = .ok (.aload_n 0, 1) ∧ decode cL_law 386 = .ok (.iload 4, 2) ∧ decode cL_law 388 = .ok (.bipush 7, 2) ∧ decode cL_law 390 = .ok (.iadd, 1) ∧ decode cL_law 391 = .ok (.iaload, 1) ∧ decode cL_law 392 = .ok (.aload_n 0, 1) ∧ decode cL_law 393 = .ok (.iload 4, 2) ∧ decode cL_law 395 = .ok (.bipush 8, 2) ∧ decode cL_law 397 = .ok (.iadd, 1) ∧ decode cL_law 398 = .ok (.iaload, 1) ∧ decode cL_law 399 = .ok (.invokevirtual 55, 3) ∧ decode cL_law 402 = .ok (.pop, 1) := by decide +kernel
theorem dL_law_379 : decode cL_law 379 = .ok (.iload 4, 2) := dL_law_379g.1
theorem dL_law_381 : decode cL_law 381 = .ok (.bipush 6, 2) := dL_law_379g.2.1
theorem dL_law_383 : decode cL_law 383 = .ok (.iadd, 1) := dL_law_379g.2.2.1
theorem dL_law_384 : decode cL_law 384 = .ok (.iaload, 1) := dL_law_379g.2.2.2.1
theorem dL_law_385 : decode cL_law 385 = .ok (.aload_n 0, 1) := dL_law_379g.2.2.2.2.1
theorem dL_law_386 : decode cL_law 386 = .ok (.iload 4, 2) := dL_law_379g.2.2.2.2.2.1
theorem dL_law_388 : decode cL_law 388 = .ok (.bipush 7, 2) := dL_law_379g.2.2.2.2.2.2.1
theorem dL_law_390 : decode cL_law 390 = .ok (.iadd, 1) := dL_law_379g.2.2.2.2.2.2.2.1
theorem dL_law_391 : decode cL_law 391 = .ok (.iaload, 1) := dL_law_379g.2.2.2.2.2.2.2.2.1
theorem dL_law_392 : decode cL_law 392 = .ok (.aload_n 0, 1) := dL_law_379g.2.2.2.2.2.2.2.2.2.1
theorem dL_law_393 : decode cL_law 393 = .ok (.iload 4, 2) := dL_law_379g.2.2.2.2.2.2.2.2.2.2.1
theorem dL_law_395 : decode cL_law 395 = .ok (.bipush 8, 2) := dL_law_379g.2.2.2.2.2.2.2.2.2.2.2.1
theorem dL_law_397 : decode cL_law 397 = .ok (.iadd, 1) := dL_law_379g.2.2.2.2.2.2.2.2.2.2.2.2.1
theorem dL_law_398 : decode cL_law 398 = .ok (.iaload, 1) := dL_law_379g.2.2.2.2.2.2.2.2.2.2.2.2.2.1
theorem dL_law_399 : decode cL_law 399 = .ok (.invokevirtual 55, 3) := dL_law_379g.2.2.2.2.2.2.2.2.2.2.2.2.2.2.1
theorem dL_law_402 : decode cL_law 402 = .ok (.pop, 1) := dL_law_379g.2.2.2.2.2.2.2.2.2.2.2.2.2.2.2
theorem dL_law_403g : decode cL_law 403 = .ok (.goto 370, 3) ∧ decode cL_law 406 = .ok (.aload_n 1, 1) ∧ decode cL_law 407 = .ok (.aload_n 0, 1) ∧ decode cL_law 408 = .ok (.iload 4, 2) ∧ decode cL_law 410 = .ok (.iconst 1, 1) ∧ decode cL_law 411 = .ok (.iadd, 1) ∧ decode cL_law 412 = .ok (.iaload, 1) ∧ decode cL_law 413 = .ok (.aload_n 0, 1) ∧ decode cL_law 414 = .ok (.iload 4, 2) ∧ decode cL_law 416 = .ok (.iconst 2, 1) ∧ decode cL_law 417 = .ok (.iadd, 1) ∧ decode cL_law 418 = .ok (.iaload, 1) ∧ decode cL_law 419 = .ok (.aload_n 0, 1) ∧ decode cL_law 420 = .ok (.iload 4, 2) ∧ decode cL_law 422 = .ok (.iconst 3, 1) ∧ decode cL_law 423 = .ok (.iadd, 1) := by decide +kernel
theorem dL_law_403 : decode cL_law 403 = .ok (.goto 370, 3) := dL_law_403g.1
theorem dL_law_406 : decode cL_law 406 = .ok (.aload_n 1, 1) := dL_law_403g.2.1
theorem dL_law_407 : decode cL_law 407 = .ok (.aload_n 0, 1) := dL_law_403g.2.2.1
theorem dL_law_408 : decode cL_law 408 = .ok (.iload 4, 2) := dL_law_403g.2.2.2.1
theorem dL_law_410 : decode cL_law 410 = .ok (.iconst 1, 1) := dL_law_403g.2.2.2.2.1
theorem dL_law_411 : decode cL_law 411 = .ok (.iadd, 1) := dL_law_403g.2.2.2.2.2.1
theorem dL_law_412 : decode cL_law 412 = .ok (.iaload, 1) := dL_law_403g.2.2.2.2.2.2.1
theorem dL_law_413 : decode cL_law 413 = .ok (.aload_n 0, 1) := dL_law_403g.2.2.2.2.2.2.2.1
theorem dL_law_414 : decode cL_law 414 = .ok (.iload 4, 2) := dL_law_403g.2.2.2.2.2.2.2.2.1
theorem dL_law_416 : decode cL_law 416 = .ok (.iconst 2, 1) := dL_law_403g.2.2.2.2.2.2.2.2.2.1
theorem dL_law_417 : decode cL_law 417 = .ok (.iadd, 1) := dL_law_403g.2.2.2.2.2.2.2.2.2.2.1
theorem dL_law_418 : decode cL_law 418 = .ok (.iaload, 1) := dL_law_403g.2.2.2.2.2.2.2.2.2.2.2.1
theorem dL_law_419 : decode cL_law 419 = .ok (.aload_n 0, 1) := dL_law_403g.2.2.2.2.2.2.2.2.2.2.2.2.1
theorem dL_law_420 : decode cL_law 420 = .ok (.iload 4, 2) := dL_law_403g.2.2.2.2.2.2.2.2.2.2.2.2.2.1
theorem dL_law_422 : decode cL_law 422 = .ok (.iconst 3, 1) := dL_law_403g.2.2.2.2.2.2.2.2.2.2.2.2.2.2.1
theorem dL_law_423 : decode cL_law 423 = .ok (.iadd, 1) := dL_law_403g.2.2.2.2.2.2.2.2.2.2.2.2.2.2.2
theorem dL_law_424g : decode cL_law 424 = .ok (.iaload, 1) ∧ decode cL_law 425 = .ok (.aload_n 0, 1) ∧ decode cL_law 426 = .ok (.iload 4, 2) ∧ decode cL_law 428 = .ok (.iconst 4, 1) ∧ decode cL_law 429 = .ok (.iadd, 1) ∧ decode cL_law 430 = .ok (.iaload, 1) ∧ decode cL_law 431 = .ok (.aload_n 0, 1) ∧ decode cL_law 432 = .ok (.iload 4, 2) ∧ decode cL_law 434 = .ok (.iconst 5, 1) ∧ decode cL_law 435 = .ok (.iadd, 1) ∧ decode cL_law 436 = .ok (.iaload, 1) ∧ decode cL_law 437 = .ok (.invokevirtual 56, 3) ∧ decode cL_law 440 = .ok (.pop, 1) ∧ decode cL_law 441 = .ok (.aload_n 2, 1) ∧ decode cL_law 442 = .ok (.aload_n 0, 1) ∧ decode cL_law 443 = .ok (.iload 4, 2) := by decide +kernel
theorem dL_law_424 : decode cL_law 424 = .ok (.iaload, 1) := dL_law_424g.1
theorem dL_law_425 : decode cL_law 425 = .ok (.aload_n 0, 1) := dL_law_424g.2.1
theorem dL_law_426 : decode cL_law 426 = .ok (.iload 4, 2) := dL_law_424g.2.2.1
theorem dL_law_428 : decode cL_law 428 = .ok (.iconst 4, 1) := dL_law_424g.2.2.2.1
theorem dL_law_429 : decode cL_law 429 = .ok (.iadd, 1) := dL_law_424g.2.2.2.2.1
theorem dL_law_430 : decode cL_law 430 = .ok (.iaload, 1) := dL_law_424g.2.2.2.2.2.1
theorem dL_law_431 : decode cL_law 431 = .ok (.aload_n 0, 1) := dL_law_424g.2.2.2.2.2.2.1
theorem dL_law_432 : decode cL_law 432 = .ok (.iload 4, 2) := dL_law_424g.2.2.2.2.2.2.2.1
theorem dL_law_434 : decode cL_law 434 = .ok (.iconst 5, 1) := dL_law_424g.2.2.2.2.2.2.2.2.1
theorem dL_law_435 : decode cL_law 435 = .ok (.iadd, 1) := dL_law_424g.2.2.2.2.2.2.2.2.2.1
theorem dL_law_436 : decode cL_law 436 = .ok (.iaload, 1) := dL_law_424g.2.2.2.2.2.2.2.2.2.2.1
theorem dL_law_437 : decode cL_law 437 = .ok (.invokevirtual 56, 3) := dL_law_424g.2.2.2.2.2.2.2.2.2.2.2.1
theorem dL_law_440 : decode cL_law 440 = .ok (.pop, 1) := dL_law_424g.2.2.2.2.2.2.2.2.2.2.2.2.1
theorem dL_law_441 : decode cL_law 441 = .ok (.aload_n 2, 1) := dL_law_424g.2.2.2.2.2.2.2.2.2.2.2.2.2.1
theorem dL_law_442 : decode cL_law 442 = .ok (.aload_n 0, 1) := dL_law_424g.2.2.2.2.2.2.2.2.2.2.2.2.2.2.1
theorem dL_law_443 : decode cL_law 443 = .ok (.iload 4, 2) := dL_law_424g.2.2.2.2.2.2.2.2.2.2.2.2.2.2.2
theorem dL_law_445g : decode cL_law 445 = .ok (.iconst 1, 1) ∧ decode cL_law 446 = .ok (.iadd, 1) ∧ decode cL_law 447 = .ok (.iaload, 1) ∧ decode cL_law 448 = .ok (.aload_n 0, 1) ∧ decode cL_law 449 = .ok (.iload 4, 2) ∧ decode cL_law 451 = .ok (.iconst 2, 1) ∧ decode cL_law 452 = .ok (.iadd, 1) ∧ decode cL_law 453 = .ok (.iaload, 1) ∧ decode cL_law 454 = .ok (.aload_n 0, 1) ∧ decode cL_law 455 = .ok (.iload 4, 2) ∧ decode cL_law 457 = .ok (.iconst 3, 1) ∧ decode cL_law 458 = .ok (.iadd, 1) ∧ decode cL_law 459 = .ok (.iaload, 1) ∧ decode cL_law 460 = .ok (.aload_n 0, 1) ∧ decode cL_law 461 = .ok (.iload 4, 2) ∧ decode cL_law 463 = .ok (.iconst 4, 1) := by decide +kernel
theorem dL_law_445 : decode cL_law 445 = .ok (.iconst 1, 1) := dL_law_445g.1
theorem dL_law_446 : decode cL_law 446 = .ok (.iadd, 1) := dL_law_445g.2.1
theorem dL_law_447 : decode cL_law 447 = .ok (.iaload, 1) := dL_law_445g.2.2.1
theorem dL_law_448 : decode cL_law 448 = .ok (.aload_n 0, 1) := dL_law_445g.2.2.2.1
theorem dL_law_449 : decode cL_law 449 = .ok (.iload 4, 2) := dL_law_445g.2.2.2.2.1
theorem dL_law_451 : decode cL_law 451 = .ok (.iconst 2, 1) := dL_law_445g.2.2.2.2.2.1
theorem dL_law_452 : decode cL_law 452 = .ok (.iadd, 1) := dL_law_445g.2.2.2.2.2.2.1
theorem dL_law_453 : decode cL_law 453 = .ok (.iaload, 1) := dL_law_445g.2.2.2.2.2.2.2.1
theorem dL_law_454 : decode cL_law 454 = .ok (.aload_n 0, 1) := dL_law_445g.2.2.2.2.2.2.2.2.1
theorem dL_law_455 : decode cL_law 455 = .ok (.iload 4, 2) := dL_law_445g.2.2.2.2.2.2.2.2.2.1
theorem dL_law_457 : decode cL_law 457 = .ok (.iconst 3, 1) := dL_law_445g.2.2.2.2.2.2.2.2.2.2.1
theorem dL_law_458 : decode cL_law 458 = .ok (.iadd, 1) := dL_law_445g.2.2.2.2.2.2.2.2.2.2.2.1
theorem dL_law_459 : decode cL_law 459 = .ok (.iaload, 1) := dL_law_445g.2.2.2.2.2.2.2.2.2.2.2.2.1
theorem dL_law_460 : decode cL_law 460 = .ok (.aload_n 0, 1) := dL_law_445g.2.2.2.2.2.2.2.2.2.2.2.2.2.1
theorem dL_law_461 : decode cL_law 461 = .ok (.iload 4, 2) := dL_law_445g.2.2.2.2.2.2.2.2.2.2.2.2.2.2.1
theorem dL_law_463 : decode cL_law 463 = .ok (.iconst 4, 1) := dL_law_445g.2.2.2.2.2.2.2.2.2.2.2.2.2.2.2
theorem dL_law_464g : decode cL_law 464 = .ok (.iadd, 1) ∧ decode cL_law 465 = .ok (.iaload, 1) ∧ decode cL_law 466 = .ok (.aload_n 0, 1) ∧ decode cL_law 467 = .ok (.iload 4, 2) ∧ decode cL_law 469 = .ok (.iconst 5, 1) ∧ decode cL_law 470 = .ok (.iadd, 1) ∧ decode cL_law 471 = .ok (.iaload, 1) ∧ decode cL_law 472 = .ok (.invokevirtual 60, 3) ∧ decode cL_law 475 = .ok (.pop, 1) ∧ decode cL_law 476 = .ok (.goto 297, 3) ∧ decode cL_law 479 = .ok (.aload_n 1, 1) ∧ decode cL_law 480 = .ok (.aload_n 3, 1) ∧ decode cL_law 481 = .ok (.invokestatic 61, 3) ∧ decode cL_law 484 = .ok (.istore 5, 2) ∧ decode cL_law 486 = .ok (.aload_n 2, 1) ∧ decode cL_law 487 = .ok (.invokevirtual 66, 3) := by decide +kernel
theorem dL_law_464 : decode cL_law 464 = .ok (.iadd, 1) := dL_law_464g.1
theorem dL_law_465 : decode cL_law 465 = .ok (.iaload, 1) := dL_law_464g.2.1
theorem dL_law_466 : decode cL_law 466 = .ok (.aload_n 0, 1) := dL_law_464g.2.2.1
theorem dL_law_467 : decode cL_law 467 = .ok (.iload 4, 2) := dL_law_464g.2.2.2.1
theorem dL_law_469 : decode cL_law 469 = .ok (.iconst 5, 1) := dL_law_464g.2.2.2.2.1
theorem dL_law_470 : decode cL_law 470 = .ok (.iadd, 1) := dL_law_464g.2.2.2.2.2.1
theorem dL_law_471 : decode cL_law 471 = .ok (.iaload, 1) := dL_law_464g.2.2.2.2.2.2.1
theorem dL_law_472 : decode cL_law 472 = .ok (.invokevirtual 60, 3) := dL_law_464g.2.2.2.2.2.2.2.1
theorem dL_law_475 : decode cL_law 475 = .ok (.pop, 1) := dL_law_464g.2.2.2.2.2.2.2.2.1
theorem dL_law_476 : decode cL_law 476 = .ok (.goto 297, 3) := dL_law_464g.2.2.2.2.2.2.2.2.2.1
theorem dL_law_479 : decode cL_law 479 = .ok (.aload_n 1, 1) := dL_law_464g.2.2.2.2.2.2.2.2.2.2.1
theorem dL_law_480 : decode cL_law 480 = .ok (.aload_n 3, 1) := dL_law_464g.2.2.2.2.2.2.2.2.2.2.2.1
theorem dL_law_481 : decode cL_law 481 = .ok (.invokestatic 61, 3) := dL_law_464g.2.2.2.2.2.2.2.2.2.2.2.2.1
theorem dL_law_484 : decode cL_law 484 = .ok (.istore 5, 2) := dL_law_464g.2.2.2.2.2.2.2.2.2.2.2.2.2.1
theorem dL_law_486 : decode cL_law 486 = .ok (.aload_n 2, 1) := dL_law_464g.2.2.2.2.2.2.2.2.2.2.2.2.2.2.1
theorem dL_law_487 : decode cL_law 487 = .ok (.invokevirtual 66, 3) := dL_law_464g.2.2.2.2.2.2.2.2.2.2.2.2.2.2.2
theorem dL_law_490g : decode cL_law 490 = .ok (.istore 6, 2) ∧ decode cL_law 492 = .ok (.goto 281, 3) ∧ decode cL_law 495 = .ok (.aload_n 1, 1) ∧ decode cL_law 496 = .ok (.aload_n 0, 1) ∧ decode cL_law 497 = .ok (.iload 4, 2) ∧ decode cL_law 499 = .ok (.iconst 1, 1) ∧ decode cL_law 500 = .ok (.iadd, 1) ∧ decode cL_law 501 = .ok (.iaload, 1) ∧ decode cL_law 502 = .ok (.invokevirtual 67, 3) ∧ decode cL_law 505 = .ok (.pop, 1) ∧ decode cL_law 506 = .ok (.aload_n 2, 1) ∧ decode cL_law 507 = .ok (.aload_n 0, 1) ∧ decode cL_law 508 = .ok (.iload 4, 2) ∧ decode cL_law 510 = .ok (.iconst 1, 1) ∧ decode cL_law 511 = .ok (.iadd, 1) ∧ decode cL_law 512 = .ok (.iaload, 1) := by decide +kernel
theorem dL_law_490 : decode cL_law 490 = .ok (.istore 6, 2) := dL_law_490g.1
theorem dL_law_492 : decode cL_law 492 = .ok (.goto 281, 3) := dL_law_490g.2.1
theorem dL_law_495 : decode cL_law 495 = .ok (.aload_n 1, 1) := dL_law_490g.2.2.1
theorem dL_law_496 : decode cL_law 496 = .ok (.aload_n 0, 1) := dL_law_490g.2.2.2.1
theorem dL_law_497 : decode cL_law 497 = .ok (.iload 4, 2) := dL_law_490g.2.2.2.2.1
theorem dL_law_499 : decode cL_law 499 = .ok (.iconst 1, 1) := dL_law_490g.2.2.2.2.2.1
theorem dL_law_500 : decode cL_law 500 = .ok (.iadd, 1) := dL_law_490g.2.2.2.2.2.2.1
theorem dL_law_501 : decode cL_law 501 = .ok (.iaload, 1) := dL_law_490g.2.2.2.2.2.2.2.1
theorem dL_law_502 : decode cL_law 502 = .ok (.invokevirtual 67, 3) := dL_law_490g.2.2.2.2.2.2.2.2.1
theorem dL_law_505 : decode cL_law 505 = .ok (.pop, 1) := dL_law_490g.2.2.2.2.2.2.2.2.2.1
theorem dL_law_506 : decode cL_law 506 = .ok (.aload_n 2, 1) := dL_law_490g.2.2.2.2.2.2.2.2.2.2.1
theorem dL_law_507 : decode cL_law 507 = .ok (.aload_n 0, 1) := dL_law_490g.2.2.2.2.2.2.2.2.2.2.2.1
theorem dL_law_508 : decode cL_law 508 = .ok (.iload 4, 2) := dL_law_490g.2.2.2.2.2.2.2.2.2.2.2.2.1
theorem dL_law_510 : decode cL_law 510 = .ok (.iconst 1, 1) := dL_law_490g.2.2.2.2.2.2.2.2.2.2.2.2.2.1
theorem dL_law_511 : decode cL_law 511 = .ok (.iadd, 1) := dL_law_490g.2.2.2.2.2.2.2.2.2.2.2.2.2.2.1
theorem dL_law_512 : decode cL_law 512 = .ok (.iaload, 1) := dL_law_490g.2.2.2.2.2.2.2.2.2.2.2.2.2.2.2
theorem dL_law_513g : decode cL_law 513 = .ok (.invokevirtual 71, 3) ∧ decode cL_law 516 = .ok (.pop, 1) ∧ decode cL_law 517 = .ok (.goto 256, 3) ∧ decode cL_law 520 = .ok (.aload_n 1, 1) ∧ decode cL_law 521 = .ok (.aload_n 3, 1) ∧ decode cL_law 522 = .ok (.invokestatic 72, 3) ∧ decode cL_law 525 = .ok (.istore 5, 2) ∧ decode cL_law 527 = .ok (.aload_n 2, 1) ∧ decode cL_law 528 = .ok (.invokevirtual 74, 3) ∧ decode cL_law 531 = .ok (.istore 6, 2) ∧ decode cL_law 533 = .ok (.goto 240, 3) ∧ decode cL_law 536 = .ok (.aload_n 1, 1) ∧ decode cL_law 537 = .ok (.aload_n 0, 1) ∧ decode cL_law 538 = .ok (.iload 4, 2) ∧ decode cL_law 540 = .ok (.iconst 1, 1) ∧ decode cL_law 541 = .ok (.iadd, 1) := by decide +kernel
theorem dL_law_513 : decode cL_law 513 = .ok (.invokevirtual 71, 3) := dL_law_513g.1
theorem dL_law_516 : decode cL_law 516 = .ok (.pop, 1) := dL_law_513g.2.1
theorem dL_law_517 : decode cL_law 517 = .ok (.goto 256, 3) := dL_law_513g.2.2.1
theorem dL_law_520 : decode cL_law 520 = .ok (.aload_n 1, 1) := dL_law_513g.2.2.2.1
theorem dL_law_521 : decode cL_law 521 = .ok (.aload_n 3, 1) := dL_law_513g.2.2.2.2.1
theorem dL_law_522 : decode cL_law 522 = .ok (.invokestatic 72, 3) := dL_law_513g.2.2.2.2.2.1
theorem dL_law_525 : decode cL_law 525 = .ok (.istore 5, 2) := dL_law_513g.2.2.2.2.2.2.1
theorem dL_law_527 : decode cL_law 527 = .ok (.aload_n 2, 1) := dL_law_513g.2.2.2.2.2.2.2.1
theorem dL_law_528 : decode cL_law 528 = .ok (.invokevirtual 74, 3) := dL_law_513g.2.2.2.2.2.2.2.2.1
theorem dL_law_531 : decode cL_law 531 = .ok (.istore 6, 2) := dL_law_513g.2.2.2.2.2.2.2.2.2.1
theorem dL_law_533 : decode cL_law 533 = .ok (.goto 240, 3) := dL_law_513g.2.2.2.2.2.2.2.2.2.2.1
theorem dL_law_536 : decode cL_law 536 = .ok (.aload_n 1, 1) := dL_law_513g.2.2.2.2.2.2.2.2.2.2.2.1
theorem dL_law_537 : decode cL_law 537 = .ok (.aload_n 0, 1) := dL_law_513g.2.2.2.2.2.2.2.2.2.2.2.2.1
theorem dL_law_538 : decode cL_law 538 = .ok (.iload 4, 2) := dL_law_513g.2.2.2.2.2.2.2.2.2.2.2.2.2.1
theorem dL_law_540 : decode cL_law 540 = .ok (.iconst 1, 1) := dL_law_513g.2.2.2.2.2.2.2.2.2.2.2.2.2.2.1
theorem dL_law_541 : decode cL_law 541 = .ok (.iadd, 1) := dL_law_513g.2.2.2.2.2.2.2.2.2.2.2.2.2.2.2
theorem dL_law_542g : decode cL_law 542 = .ok (.iaload, 1) ∧ decode cL_law 543 = .ok (.i2l, 1) ∧ decode cL_law 544 = .ok (.bipush 32, 2) ∧ decode cL_law 546 = .ok (.lshl, 1) ∧ decode cL_law 547 = .ok (.aload_n 0, 1) ∧ decode cL_law 548 = .ok (.iload 4, 2) ∧ decode cL_law 550 = .ok (.iconst 2, 1) ∧ decode cL_law 551 = .ok (.iadd, 1) ∧ decode cL_law 552 = .ok (.iaload, 1) ∧ decode cL_law 553 = .ok (.i2l, 1) ∧ decode cL_law 554 = .ok (.ldc2_w 75, 3) ∧ decode cL_law 557 = .ok (.land, 1) ∧ decode cL_law 558 = .ok (.lor, 1) ∧ decode cL_law 559 = .ok (.aload_n 3, 1) ∧ decode cL_law 560 = .ok (.invokestatic 77, 3) ∧ decode cL_law 563 = .ok (.istore 5, 2) := by decide +kernel
theorem dL_law_542 : decode cL_law 542 = .ok (.iaload, 1) := dL_law_542g.1
theorem dL_law_543 : decode cL_law 543 = .ok (.i2l, 1) := dL_law_542g.2.1
theorem dL_law_544 : decode cL_law 544 = .ok (.bipush 32, 2) := dL_law_542g.2.2.1
theorem dL_law_546 : decode cL_law 546 = .ok (.lshl, 1) := dL_law_542g.2.2.2.1
theorem dL_law_547 : decode cL_law 547 = .ok (.aload_n 0, 1) := dL_law_542g.2.2.2.2.1
theorem dL_law_548 : decode cL_law 548 = .ok (.iload 4, 2) := dL_law_542g.2.2.2.2.2.1
theorem dL_law_550 : decode cL_law 550 = .ok (.iconst 2, 1) := dL_law_542g.2.2.2.2.2.2.1
theorem dL_law_551 : decode cL_law 551 = .ok (.iadd, 1) := dL_law_542g.2.2.2.2.2.2.2.1
theorem dL_law_552 : decode cL_law 552 = .ok (.iaload, 1) := dL_law_542g.2.2.2.2.2.2.2.2.1
theorem dL_law_553 : decode cL_law 553 = .ok (.i2l, 1) := dL_law_542g.2.2.2.2.2.2.2.2.2.1
theorem dL_law_554 : decode cL_law 554 = .ok (.ldc2_w 75, 3) := dL_law_542g.2.2.2.2.2.2.2.2.2.2.1
theorem dL_law_557 : decode cL_law 557 = .ok (.land, 1) := dL_law_542g.2.2.2.2.2.2.2.2.2.2.2.1
theorem dL_law_558 : decode cL_law 558 = .ok (.lor, 1) := dL_law_542g.2.2.2.2.2.2.2.2.2.2.2.2.1
theorem dL_law_559 : decode cL_law 559 = .ok (.aload_n 3, 1) := dL_law_542g.2.2.2.2.2.2.2.2.2.2.2.2.2.1
theorem dL_law_560 : decode cL_law 560 = .ok (.invokestatic 77, 3) := dL_law_542g.2.2.2.2.2.2.2.2.2.2.2.2.2.2.1
theorem dL_law_563 : decode cL_law 563 = .ok (.istore 5, 2) := dL_law_542g.2.2.2.2.2.2.2.2.2.2.2.2.2.2.2
theorem dL_law_565g : decode cL_law 565 = .ok (.aload_n 2, 1) ∧ decode cL_law 566 = .ok (.aload_n 0, 1) ∧ decode cL_law 567 = .ok (.iload 4, 2) ∧ decode cL_law 569 = .ok (.iconst 1, 1) ∧ decode cL_law 570 = .ok (.iadd, 1) ∧ decode cL_law 571 = .ok (.iaload, 1) ∧ decode cL_law 572 = .ok (.i2l, 1) ∧ decode cL_law 573 = .ok (.bipush 32, 2) ∧ decode cL_law 575 = .ok (.lshl, 1) ∧ decode cL_law 576 = .ok (.aload_n 0, 1) ∧ decode cL_law 577 = .ok (.iload 4, 2) ∧ decode cL_law 579 = .ok (.iconst 2, 1) ∧ decode cL_law 580 = .ok (.iadd, 1) ∧ decode cL_law 581 = .ok (.iaload, 1) ∧ decode cL_law 582 = .ok (.i2l, 1) ∧ decode cL_law 583 = .ok (.ldc2_w 75, 3) := by decide +kernel
theorem dL_law_565 : decode cL_law 565 = .ok (.aload_n 2, 1) := dL_law_565g.1
theorem dL_law_566 : decode cL_law 566 = .ok (.aload_n 0, 1) := dL_law_565g.2.1
theorem dL_law_567 : decode cL_law 567 = .ok (.iload 4, 2) := dL_law_565g.2.2.1
theorem dL_law_569 : decode cL_law 569 = .ok (.iconst 1, 1) := dL_law_565g.2.2.2.1
theorem dL_law_570 : decode cL_law 570 = .ok (.iadd, 1) := dL_law_565g.2.2.2.2.1
theorem dL_law_571 : decode cL_law 571 = .ok (.iaload, 1) := dL_law_565g.2.2.2.2.2.1
theorem dL_law_572 : decode cL_law 572 = .ok (.i2l, 1) := dL_law_565g.2.2.2.2.2.2.1
theorem dL_law_573 : decode cL_law 573 = .ok (.bipush 32, 2) := dL_law_565g.2.2.2.2.2.2.2.1
theorem dL_law_575 : decode cL_law 575 = .ok (.lshl, 1) := dL_law_565g.2.2.2.2.2.2.2.2.1
theorem dL_law_576 : decode cL_law 576 = .ok (.aload_n 0, 1) := dL_law_565g.2.2.2.2.2.2.2.2.2.1
theorem dL_law_577 : decode cL_law 577 = .ok (.iload 4, 2) := dL_law_565g.2.2.2.2.2.2.2.2.2.2.1
theorem dL_law_579 : decode cL_law 579 = .ok (.iconst 2, 1) := dL_law_565g.2.2.2.2.2.2.2.2.2.2.2.1
theorem dL_law_580 : decode cL_law 580 = .ok (.iadd, 1) := dL_law_565g.2.2.2.2.2.2.2.2.2.2.2.2.1
theorem dL_law_581 : decode cL_law 581 = .ok (.iaload, 1) := dL_law_565g.2.2.2.2.2.2.2.2.2.2.2.2.2.1
theorem dL_law_582 : decode cL_law 582 = .ok (.i2l, 1) := dL_law_565g.2.2.2.2.2.2.2.2.2.2.2.2.2.2.1
theorem dL_law_583 : decode cL_law 583 = .ok (.ldc2_w 75, 3) := dL_law_565g.2.2.2.2.2.2.2.2.2.2.2.2.2.2.2
theorem dL_law_586g : decode cL_law 586 = .ok (.land, 1) ∧ decode cL_law 587 = .ok (.lor, 1) ∧ decode cL_law 588 = .ok (.invokevirtual 80, 3) ∧ decode cL_law 591 = .ok (.istore 6, 2) ∧ decode cL_law 593 = .ok (.goto 180, 3) ∧ decode cL_law 596 = .ok (.aload_n 1, 1) ∧ decode cL_law 597 = .ok (.aload_n 0, 1) ∧ decode cL_law 598 = .ok (.iload 4, 2) ∧ decode cL_law 600 = .ok (.iconst 1, 1) ∧ decode cL_law 601 = .ok (.iadd, 1) ∧ decode cL_law 602 = .ok (.iaload, 1) ∧ decode cL_law 603 = .ok (.aload_n 0, 1) ∧ decode cL_law 604 = .ok (.iload 4, 2) ∧ decode cL_law 606 = .ok (.iconst 2, 1) ∧ decode cL_law 607 = .ok (.iadd, 1) ∧ decode cL_law 608 = .ok (.iaload, 1) := by decide +kernel
theorem dL_law_586 : decode cL_law 586 = .ok (.land, 1) := dL_law_586g.1
theorem dL_law_587 : decode cL_law 587 = .ok (.lor, 1) := dL_law_586g.2.1
theorem dL_law_588 : decode cL_law 588 = .ok (.invokevirtual 80, 3) := dL_law_586g.2.2.1
theorem dL_law_591 : decode cL_law 591 = .ok (.istore 6, 2) := dL_law_586g.2.2.2.1
theorem dL_law_593 : decode cL_law 593 = .ok (.goto 180, 3) := dL_law_586g.2.2.2.2.1
theorem dL_law_596 : decode cL_law 596 = .ok (.aload_n 1, 1) := dL_law_586g.2.2.2.2.2.1
theorem dL_law_597 : decode cL_law 597 = .ok (.aload_n 0, 1) := dL_law_586g.2.2.2.2.2.2.1
theorem dL_law_598 : decode cL_law 598 = .ok (.iload 4, 2) := dL_law_586g.2.2.2.2.2.2.2.1
theorem dL_law_600 : decode cL_law 600 = .ok (.iconst 1, 1) := dL_law_586g.2.2.2.2.2.2.2.2.1
theorem dL_law_601 : decode cL_law 601 = .ok (.iadd, 1) := dL_law_586g.2.2.2.2.2.2.2.2.2.1
theorem dL_law_602 : decode cL_law 602 = .ok (.iaload, 1) := dL_law_586g.2.2.2.2.2.2.2.2.2.2.1
theorem dL_law_603 : decode cL_law 603 = .ok (.aload_n 0, 1) := dL_law_586g.2.2.2.2.2.2.2.2.2.2.2.1
theorem dL_law_604 : decode cL_law 604 = .ok (.iload 4, 2) := dL_law_586g.2.2.2.2.2.2.2.2.2.2.2.2.1
theorem dL_law_606 : decode cL_law 606 = .ok (.iconst 2, 1) := dL_law_586g.2.2.2.2.2.2.2.2.2.2.2.2.2.1
theorem dL_law_607 : decode cL_law 607 = .ok (.iadd, 1) := dL_law_586g.2.2.2.2.2.2.2.2.2.2.2.2.2.2.1
theorem dL_law_608 : decode cL_law 608 = .ok (.iaload, 1) := dL_law_586g.2.2.2.2.2.2.2.2.2.2.2.2.2.2.2
theorem dL_law_609g : decode cL_law 609 = .ok (.aload_n 3, 1) ∧ decode cL_law 610 = .ok (.invokestatic 81, 3) ∧ decode cL_law 613 = .ok (.istore 5, 2) ∧ decode cL_law 615 = .ok (.aload_n 2, 1) ∧ decode cL_law 616 = .ok (.aload_n 0, 1) ∧ decode cL_law 617 = .ok (.iload 4, 2) ∧ decode cL_law 619 = .ok (.iconst 1, 1) ∧ decode cL_law 620 = .ok (.iadd, 1) ∧ decode cL_law 621 = .ok (.iaload, 1) ∧ decode cL_law 622 = .ok (.aload_n 0, 1) ∧ decode cL_law 623 = .ok (.iload 4, 2) ∧ decode cL_law 625 = .ok (.iconst 2, 1) ∧ decode cL_law 626 = .ok (.iadd, 1) ∧ decode cL_law 627 = .ok (.iaload, 1) ∧ decode cL_law 628 = .ok (.invokevirtual 84, 3) ∧ decode cL_law 631 = .ok (.istore 6, 2) := by decide +kernel
theorem dL_law_609 : decode cL_law 609 = .ok (.aload_n 3, 1) := dL_law_609g.1
theorem dL_law_610 : decode cL_law 610 = .ok (.invokestatic 81, 3) := dL_law_609g.2.1
theorem dL_law_613 : decode cL_law 613 = .ok (.istore 5, 2) := dL_law_609g.2.2.1
theorem dL_law_615 : decode cL_law 615 = .ok (.aload_n 2, 1) := dL_law_609g.2.2.2.1
theorem dL_law_616 : decode cL_law 616 = .ok (.aload_n 0, 1) := dL_law_609g.2.2.2.2.1
theorem dL_law_617 : decode cL_law 617 = .ok (.iload 4, 2) := dL_law_609g.2.2.2.2.2.1
theorem dL_law_619 : decode cL_law 619 = .ok (.iconst 1, 1) := dL_law_609g.2.2.2.2.2.2.1
theorem dL_law_620 : decode cL_law 620 = .ok (.iadd, 1) := dL_law_609g.2.2.2.2.2.2.2.1
theorem dL_law_621 : decode cL_law 621 = .ok (.iaload, 1) := dL_law_609g.2.2.2.2.2.2.2.2.1
theorem dL_law_622 : decode cL_law 622 = .ok (.aload_n 0, 1) := dL_law_609g.2.2.2.2.2.2.2.2.2.1
theorem dL_law_623 : decode cL_law 623 = .ok (.iload 4, 2) := dL_law_609g.2.2.2.2.2.2.2.2.2.2.1
theorem dL_law_625 : decode cL_law 625 = .ok (.iconst 2, 1) := dL_law_609g.2.2.2.2.2.2.2.2.2.2.2.1
theorem dL_law_626 : decode cL_law 626 = .ok (.iadd, 1) := dL_law_609g.2.2.2.2.2.2.2.2.2.2.2.2.1
theorem dL_law_627 : decode cL_law 627 = .ok (.iaload, 1) := dL_law_609g.2.2.2.2.2.2.2.2.2.2.2.2.2.1
theorem dL_law_628 : decode cL_law 628 = .ok (.invokevirtual 84, 3) := dL_law_609g.2.2.2.2.2.2.2.2.2.2.2.2.2.2.1
theorem dL_law_631 : decode cL_law 631 = .ok (.istore 6, 2) := dL_law_609g.2.2.2.2.2.2.2.2.2.2.2.2.2.2.2
theorem dL_law_633g : decode cL_law 633 = .ok (.goto 140, 3) ∧ decode cL_law 636 = .ok (.aload_n 1, 1) ∧ decode cL_law 637 = .ok (.invokevirtual 85, 3) ∧ decode cL_law 640 = .ok (.pop, 1) ∧ decode cL_law 641 = .ok (.aload_n 2, 1) ∧ decode cL_law 642 = .ok (.invokevirtual 88, 3) ∧ decode cL_law 645 = .ok (.pop, 1) ∧ decode cL_law 646 = .ok (.goto 127, 3) ∧ decode cL_law 649 = .ok (.aload_n 1, 1) ∧ decode cL_law 650 = .ok (.invokevirtual 89, 3) ∧ decode cL_law 653 = .ok (.pop, 1) ∧ decode cL_law 654 = .ok (.aload_n 2, 1) ∧ decode cL_law 655 = .ok (.invokevirtual 92, 3) ∧ decode cL_law 658 = .ok (.pop, 1) ∧ decode cL_law 659 = .ok (.goto 114, 3) ∧ decode cL_law 662 = .ok (.aload_n 1, 1) := by decide +kernel
theorem dL_law_633 : decode cL_law 633 = .ok (.goto 140, 3) := dL_law_633g.1
theorem dL_law_636 : decode cL_law 636 = .ok (.aload_n 1, 1) := dL_law_633g.2.1
theorem dL_law_637 : decode cL_law 637 = .ok (.invokevirtual 85, 3) := dL_law_633g.2.2.1
theorem dL_law_640 : decode cL_law 640 = .ok (.pop, 1) := dL_law_633g.2.2.2.1
theorem dL_law_641 : decode cL_law 641 = .ok (.aload_n 2, 1) := dL_law_633g.2.2.2.2.1
theorem dL_law_642 : decode cL_law 642 = .ok (.invokevirtual 88, 3) := dL_law_633g.2.2.2.2.2.1
theorem dL_law_645 : decode cL_law 645 = .ok (.pop, 1) := dL_law_633g.2.2.2.2.2.2.1
theorem dL_law_646 : decode cL_law 646 = .ok (.goto 127, 3) := dL_law_633g.2.2.2.2.2.2.2.1
theorem dL_law_649 : decode cL_law 649 = .ok (.aload_n 1, 1) := dL_law_633g.2.2.2.2.2.2.2.2.1
theorem dL_law_650 : decode cL_law 650 = .ok (.invokevirtual 89, 3) := dL_law_633g.2.2.2.2.2.2.2.2.2.1
theorem dL_law_653 : decode cL_law 653 = .ok (.pop, 1) := dL_law_633g.2.2.2.2.2.2.2.2.2.2.1
theorem dL_law_654 : decode cL_law 654 = .ok (.aload_n 2, 1) := dL_law_633g.2.2.2.2.2.2.2.2.2.2.2.1
theorem dL_law_655 : decode cL_law 655 = .ok (.invokevirtual 92, 3) := dL_law_633g.2.2.2.2.2.2.2.2.2.2.2.2.1
theorem dL_law_658 : decode cL_law 658 = .ok (.pop, 1) := dL_law_633g.2.2.2.2.2.2.2.2.2.2.2.2.2.1
theorem dL_law_659 : decode cL_law 659 = .ok (.goto 114, 3) := dL_law_633g.2.2.2.2.2.2.2.2.2.2.2.2.2.2.1
theorem dL_law_662 : decode cL_law 662 = .ok (.aload_n 1, 1) := dL_law_633g.2.2.2.2.2.2.2.2.2.2.2.2.2.2.2
theorem dL_law_663g : decode cL_law 663 = .ok (.aload_n 0, 1) ∧ decode cL_law 664 = .ok (.iload 4, 2) ∧ decode cL_law 666 = .ok (.iconst 1, 1) ∧ decode cL_law 667 = .ok (.iadd, 1) ∧ decode cL_law 668 = .ok (.iaload, 1) ∧ decode cL_law 669 = .ok (.aload_n 0, 1) ∧ decode cL_law 670 = .ok (.iload 4, 2) ∧ decode cL_law 672 = .ok (.iconst 2, 1) ∧ decode cL_law 673 = .ok (.iadd, 1) ∧ decode cL_law 674 = .ok (.iaload, 1) ∧ decode cL_law 675 = .ok (.invokevirtual 93, 3) ∧ decode cL_law 678 = .ok (.pop, 1) ∧ decode cL_law 679 = .ok (.aload_n 2, 1) ∧ decode cL_law 680 = .ok (.aload_n 0, 1) ∧ decode cL_law 681 = .ok (.iload 4, 2) ∧ decode cL_law 683 = .ok (.iconst 1, 1) := by decide +kernel
theorem dL_law_663 : decode cL_law 663 = .ok (.aload_n 0, 1) := dL_law_663g.1
theorem dL_law_664 : decode cL_law 664 = .ok (.iload 4, 2) := dL_law_663g.2.1
theorem dL_law_666 : decode cL_law 666 = .ok (.iconst 1, 1) := dL_law_663g.2.2.1
theorem dL_law_667 : decode cL_law 667 = .ok (.iadd, 1) := dL_law_663g.2.2.2.1
theorem dL_law_668 : decode cL_law 668 = .ok (.iaload, 1) := dL_law_663g.2.2.2.2.1
theorem dL_law_669 : decode cL_law 669 = .ok (.aload_n 0, 1) := dL_law_663g.2.2.2.2.2.1
theorem dL_law_670 : decode cL_law 670 = .ok (.iload 4, 2) := dL_law_663g.2.2.2.2.2.2.1
theorem dL_law_672 : decode cL_law 672 = .ok (.iconst 2, 1) := dL_law_663g.2.2.2.2.2.2.2.1
theorem dL_law_673 : decode cL_law 673 = .ok (.iadd, 1) := dL_law_663g.2.2.2.2.2.2.2.2.1
theorem dL_law_674 : decode cL_law 674 = .ok (.iaload, 1) := dL_law_663g.2.2.2.2.2.2.2.2.2.1
theorem dL_law_675 : decode cL_law 675 = .ok (.invokevirtual 93, 3) := dL_law_663g.2.2.2.2.2.2.2.2.2.2.1
theorem dL_law_678 : decode cL_law 678 = .ok (.pop, 1) := dL_law_663g.2.2.2.2.2.2.2.2.2.2.2.1
theorem dL_law_679 : decode cL_law 679 = .ok (.aload_n 2, 1) := dL_law_663g.2.2.2.2.2.2.2.2.2.2.2.2.1
theorem dL_law_680 : decode cL_law 680 = .ok (.aload_n 0, 1) := dL_law_663g.2.2.2.2.2.2.2.2.2.2.2.2.2.1
theorem dL_law_681 : decode cL_law 681 = .ok (.iload 4, 2) := dL_law_663g.2.2.2.2.2.2.2.2.2.2.2.2.2.2.1
theorem dL_law_683 : decode cL_law 683 = .ok (.iconst 1, 1) := dL_law_663g.2.2.2.2.2.2.2.2.2.2.2.2.2.2.2
theorem dL_law_684g : decode cL_law 684 = .ok (.iadd, 1) ∧ decode cL_law 685 = .ok (.iaload, 1) ∧ decode cL_law 686 = .ok (.aload_n 0, 1) ∧ decode cL_law 687 = .ok (.iload 4, 2) ∧ decode cL_law 689 = .ok (.iconst 2, 1) ∧ decode cL_law 690 = .ok (.iadd, 1) ∧ decode cL_law 691 = .ok (.iaload, 1) ∧ decode cL_law 692 = .ok (.invokevirtual 96, 3) ∧ decode cL_law 695 = .ok (.pop, 1) ∧ decode cL_law 696 = .ok (.goto 77, 3) ∧ decode cL_law 699 = .ok (.aload_n 1, 1) ∧ decode cL_law 700 = .ok (.aload_n 0, 1) ∧ decode cL_law 701 = .ok (.iload 4, 2) ∧ decode cL_law 703 = .ok (.iconst 1, 1) ∧ decode cL_law 704 = .ok (.iadd, 1) ∧ decode cL_law 705 = .ok (.iaload, 1) := by decide +kernel
theorem dL_law_684 : decode cL_law 684 = .ok (.iadd, 1) := dL_law_684g.1
theorem dL_law_685 : decode cL_law 685 = .ok (.iaload, 1) := dL_law_684g.2.1
theorem dL_law_686 : decode cL_law 686 = .ok (.aload_n 0, 1) := dL_law_684g.2.2.1
theorem dL_law_687 : decode cL_law 687 = .ok (.iload 4, 2) := dL_law_684g.2.2.2.1
theorem dL_law_689 : decode cL_law 689 = .ok (.iconst 2, 1) := dL_law_684g.2.2.2.2.1
theorem dL_law_690 : decode cL_law 690 = .ok (.iadd, 1) := dL_law_684g.2.2.2.2.2.1
theorem dL_law_691 : decode cL_law 691 = .ok (.iaload, 1) := dL_law_684g.2.2.2.2.2.2.1
theorem dL_law_692 : decode cL_law 692 = .ok (.invokevirtual 96, 3) := dL_law_684g.2.2.2.2.2.2.2.1
theorem dL_law_695 : decode cL_law 695 = .ok (.pop, 1) := dL_law_684g.2.2.2.2.2.2.2.2.1
theorem dL_law_696 : decode cL_law 696 = .ok (.goto 77, 3) := dL_law_684g.2.2.2.2.2.2.2.2.2.1
theorem dL_law_699 : decode cL_law 699 = .ok (.aload_n 1, 1) := dL_law_684g.2.2.2.2.2.2.2.2.2.2.1
theorem dL_law_700 : decode cL_law 700 = .ok (.aload_n 0, 1) := dL_law_684g.2.2.2.2.2.2.2.2.2.2.2.1
theorem dL_law_701 : decode cL_law 701 = .ok (.iload 4, 2) := dL_law_684g.2.2.2.2.2.2.2.2.2.2.2.2.1
theorem dL_law_703 : decode cL_law 703 = .ok (.iconst 1, 1) := dL_law_684g.2.2.2.2.2.2.2.2.2.2.2.2.2.1
theorem dL_law_704 : decode cL_law 704 = .ok (.iadd, 1) := dL_law_684g.2.2.2.2.2.2.2.2.2.2.2.2.2.2.1
theorem dL_law_705 : decode cL_law 705 = .ok (.iaload, 1) := dL_law_684g.2.2.2.2.2.2.2.2.2.2.2.2.2.2.2
theorem dL_law_706g : decode cL_law 706 = .ok (.aload_n 0, 1) ∧ decode cL_law 707 = .ok (.iload 4, 2) ∧ decode cL_law 709 = .ok (.iconst 2, 1) ∧ decode cL_law 710 = .ok (.iadd, 1) ∧ decode cL_law 711 = .ok (.iaload, 1) ∧ decode cL_law 712 = .ok (.invokevirtual 97, 3) ∧ decode cL_law 715 = .ok (.aload_n 2, 1) ∧ decode cL_law 716 = .ok (.aload_n 0, 1) ∧ decode cL_law 717 = .ok (.iload 4, 2) ∧ decode cL_law 719 = .ok (.iconst 1, 1) ∧ decode cL_law 720 = .ok (.iadd, 1) ∧ decode cL_law 721 = .ok (.iaload, 1) ∧ decode cL_law 722 = .ok (.aload_n 0, 1) ∧ decode cL_law 723 = .ok (.iload 4, 2) ∧ decode cL_law 725 = .ok (.iconst 2, 1) ∧ decode cL_law 726 = .ok (.iadd, 1) := by decide +kernel
theorem dL_law_706 : decode cL_law 706 = .ok (.aload_n 0, 1) := dL_law_706g.1
theorem dL_law_707 : decode cL_law 707 = .ok (.iload 4, 2) := dL_law_706g.2.1
theorem dL_law_709 : decode cL_law 709 = .ok (.iconst 2, 1) := dL_law_706g.2.2.1
theorem dL_law_710 : decode cL_law 710 = .ok (.iadd, 1) := dL_law_706g.2.2.2.1
theorem dL_law_711 : decode cL_law 711 = .ok (.iaload, 1) := dL_law_706g.2.2.2.2.1
theorem dL_law_712 : decode cL_law 712 = .ok (.invokevirtual 97, 3) := dL_law_706g.2.2.2.2.2.1
theorem dL_law_715 : decode cL_law 715 = .ok (.aload_n 2, 1) := dL_law_706g.2.2.2.2.2.2.1
theorem dL_law_716 : decode cL_law 716 = .ok (.aload_n 0, 1) := dL_law_706g.2.2.2.2.2.2.2.1
theorem dL_law_717 : decode cL_law 717 = .ok (.iload 4, 2) := dL_law_706g.2.2.2.2.2.2.2.2.1
theorem dL_law_719 : decode cL_law 719 = .ok (.iconst 1, 1) := dL_law_706g.2.2.2.2.2.2.2.2.2.1
theorem dL_law_720 : decode cL_law 720 = .ok (.iadd, 1) := dL_law_706g.2.2.2.2.2.2.2.2.2.2.1
theorem dL_law_721 : decode cL_law 721 = .ok (.iaload, 1) := dL_law_706g.2.2.2.2.2.2.2.2.2.2.2.1
theorem dL_law_722 : decode cL_law 722 = .ok (.aload_n 0, 1) := dL_law_706g.2.2.2.2.2.2.2.2.2.2.2.2.1
theorem dL_law_723 : decode cL_law 723 = .ok (.iload 4, 2) := dL_law_706g.2.2.2.2.2.2.2.2.2.2.2.2.2.1
theorem dL_law_725 : decode cL_law 725 = .ok (.iconst 2, 1) := dL_law_706g.2.2.2.2.2.2.2.2.2.2.2.2.2.2.1
theorem dL_law_726 : decode cL_law 726 = .ok (.iadd, 1) := dL_law_706g.2.2.2.2.2.2.2.2.2.2.2.2.2.2.2
theorem dL_law_727g : decode cL_law 727 = .ok (.iaload, 1) ∧ decode cL_law 728 = .ok (.invokevirtual 100, 3) ∧ decode cL_law 731 = .ok (.if_icmp .eq 42, 3) ∧ decode cL_law 736 = .ok (.aload_n 1, 1) ∧ decode cL_law 737 = .ok (.aload_n 0, 1) ∧ decode cL_law 738 = .ok (.iload 4, 2) ∧ decode cL_law 740 = .ok (.iconst 1, 1) ∧ decode cL_law 741 = .ok (.iadd, 1) ∧ decode cL_law 742 = .ok (.iaload, 1) ∧ decode cL_law 743 = .ok (.aload_n 0, 1) ∧ decode cL_law 744 = .ok (.iload 4, 2) ∧ decode cL_law 746 = .ok (.iconst 2, 1) ∧ decode cL_law 747 = .ok (.iadd, 1) ∧ decode cL_law 748 = .ok (.iaload, 1) ∧ decode cL_law 749 = .ok (.invokevirtual 101, 3) ∧ decode cL_law 752 = .ok (.pop, 1) := by decide +kernel
theorem dL_law_727 : decode cL_law 727 = .ok (.iaload, 1) := dL_law_727g.1
theorem dL_law_728 : decode cL_law 728 = .ok (.invokevirtual 100, 3) := dL_law_727g.2.1
theorem dL_law_731 : decode cL_law 731 = .ok (.if_icmp .eq 42, 3) := dL_law_727g.2.2.1
theorem dL_law_736 : decode cL_law 736 = .ok (.aload_n 1, 1) := dL_law_727g.2.2.2.1
theorem dL_law_737 : decode cL_law 737 = .ok (.aload_n 0, 1) := dL_law_727g.2.2.2.2.1
theorem dL_law_738 : decode cL_law 738 = .ok (.iload 4, 2) := dL_law_727g.2.2.2.2.2.1
theorem dL_law_740 : decode cL_law 740 = .ok (.iconst 1, 1) := dL_law_727g.2.2.2.2.2.2.1
theorem dL_law_741 : decode cL_law 741 = .ok (.iadd, 1) := dL_law_727g.2.2.2.2.2.2.2.1
theorem dL_law_742 : decode cL_law 742 = .ok (.iaload, 1) := dL_law_727g.2.2.2.2.2.2.2.2.1
theorem dL_law_743 : decode cL_law 743 = .ok (.aload_n 0, 1) := dL_law_727g.2.2.2.2.2.2.2.2.2.1
theorem dL_law_744 : decode cL_law 744 = .ok (.iload 4, 2) := dL_law_727g.2.2.2.2.2.2.2.2.2.2.1
theorem dL_law_746 : decode cL_law 746 = .ok (.iconst 2, 1) := dL_law_727g.2.2.2.2.2.2.2.2.2.2.2.1
theorem dL_law_747 : decode cL_law 747 = .ok (.iadd, 1) := dL_law_727g.2.2.2.2.2.2.2.2.2.2.2.2.1
theorem dL_law_748 : decode cL_law 748 = .ok (.iaload, 1) := dL_law_727g.2.2.2.2.2.2.2.2.2.2.2.2.2.1
theorem dL_law_749 : decode cL_law 749 = .ok (.invokevirtual 101, 3) := dL_law_727g.2.2.2.2.2.2.2.2.2.2.2.2.2.2.1
theorem dL_law_752 : decode cL_law 752 = .ok (.pop, 1) := dL_law_727g.2.2.2.2.2.2.2.2.2.2.2.2.2.2.2
theorem dL_law_753g : decode cL_law 753 = .ok (.aload_n 2, 1) ∧ decode cL_law 754 = .ok (.aload_n 0, 1) ∧ decode cL_law 755 = .ok (.iload 4, 2) ∧ decode cL_law 757 = .ok (.iconst 1, 1) ∧ decode cL_law 758 = .ok (.iadd, 1) ∧ decode cL_law 759 = .ok (.iaload, 1) ∧ decode cL_law 760 = .ok (.aload_n 0, 1) ∧ decode cL_law 761 = .ok (.iload 4, 2) ∧ decode cL_law 763 = .ok (.iconst 2, 1) ∧ decode cL_law 764 = .ok (.iadd, 1) ∧ decode cL_law 765 = .ok (.iaload, 1) ∧ decode cL_law 766 = .ok (.invokevirtual 104, 3) ∧ decode cL_law 769 = .ok (.pop, 1) ∧ decode cL_law 770 = .ok (.goto 3, 3) ∧ decode cL_law 773 = .ok (.iinc 4 9, 3) ∧ decode cL_law 776 = .ok (.goto (-753), 3) := by decide +kernel
theorem dL_law_753 : decode cL_law 753 = .ok (.aload_n 2, 1) := dL_law_753g.1
theorem dL_law_754 : decode cL_law 754 = .ok (.aload_n 0, 1) := dL_law_753g.2.1
theorem dL_law_755 : decode cL_law 755 = .ok (.iload 4, 2) := dL_law_753g.2.2.1
theorem dL_law_757 : decode cL_law 757 = .ok (.iconst 1, 1) := dL_law_753g.2.2.2.1
theorem dL_law_758 : decode cL_law 758 = .ok (.iadd, 1) := dL_law_753g.2.2.2.2.1
theorem dL_law_759 : decode cL_law 759 = .ok (.iaload, 1) := dL_law_753g.2.2.2.2.2.1
theorem dL_law_760 : decode cL_law 760 = .ok (.aload_n 0, 1) := dL_law_753g.2.2.2.2.2.2.1
theorem dL_law_761 : decode cL_law 761 = .ok (.iload 4, 2) := dL_law_753g.2.2.2.2.2.2.2.1
theorem dL_law_763 : decode cL_law 763 = .ok (.iconst 2, 1) := dL_law_753g.2.2.2.2.2.2.2.2.1
theorem dL_law_764 : decode cL_law 764 = .ok (.iadd, 1) := dL_law_753g.2.2.2.2.2.2.2.2.2.1
theorem dL_law_765 : decode cL_law 765 = .ok (.iaload, 1) := dL_law_753g.2.2.2.2.2.2.2.2.2.2.1
theorem dL_law_766 : decode cL_law 766 = .ok (.invokevirtual 104, 3) := dL_law_753g.2.2.2.2.2.2.2.2.2.2.2.1
theorem dL_law_769 : decode cL_law 769 = .ok (.pop, 1) := dL_law_753g.2.2.2.2.2.2.2.2.2.2.2.2.1
theorem dL_law_770 : decode cL_law 770 = .ok (.goto 3, 3) := dL_law_753g.2.2.2.2.2.2.2.2.2.2.2.2.2.1
theorem dL_law_773 : decode cL_law 773 = .ok (.iinc 4 9, 3) := dL_law_753g.2.2.2.2.2.2.2.2.2.2.2.2.2.2.1
theorem dL_law_776 : decode cL_law 776 = .ok (.goto (-753), 3) := dL_law_753g.2.2.2.2.2.2.2.2.2.2.2.2.2.2.2
theorem dL_law_779 : decode cL_law 779 = .ok (.iconst 1, 1) := by decide +kernel
theorem dL_law_780 : decode cL_law 780 = .ok (.ireturn, 1) := by decide +kernel

theorem tsw_15 (x : Int32) : x = 0 ∨ x = 1 ∨ x = 2 ∨ x = 3 ∨ x = 4 ∨ x = 5 ∨ x = 6 ∨ x = 7 ∨ x = 8 ∨ x = 9 ∨ x = 10 ∨ x = 11 ∨ x = 12 ∨ x = 13 ∨ x = 14 ∨ (x.toInt < 0 ∨ 14 < x.toInt) := by
  by_cases h0 : x.toInt < 0
  · exact Or.inr (Or.inr (Or.inr (Or.inr (Or.inr (Or.inr (Or.inr (Or.inr (Or.inr (Or.inr (Or.inr (Or.inr (Or.inr (Or.inr (Or.inr (Or.inl h0)))))))))))))))
  by_cases h3 : 14 < x.toInt
  · exact Or.inr (Or.inr (Or.inr (Or.inr (Or.inr (Or.inr (Or.inr (Or.inr (Or.inr (Or.inr (Or.inr (Or.inr (Or.inr (Or.inr (Or.inr (Or.inr h3)))))))))))))))
  rcases (show x.toInt = 0 ∨ x.toInt = 1 ∨ x.toInt = 2 ∨ x.toInt = 3 ∨ x.toInt = 4 ∨ x.toInt = 5 ∨ x.toInt = 6 ∨ x.toInt = 7 ∨ x.toInt = 8 ∨ x.toInt = 9 ∨ x.toInt = 10 ∨ x.toInt = 11 ∨ x.toInt = 12 ∨ x.toInt = 13 ∨ x.toInt = 14 by omega) with h | h | h | h | h | h | h | h | h | h | h | h | h | h | h
  · exact Or.inl (Int32.toInt_inj.mp h)
  · exact Or.inr (Or.inl (Int32.toInt_inj.mp h))
  · exact Or.inr (Or.inr (Or.inl (Int32.toInt_inj.mp h)))
  · exact Or.inr (Or.inr (Or.inr (Or.inl (Int32.toInt_inj.mp h))))
  · exact Or.inr (Or.inr (Or.inr (Or.inr (Or.inl (Int32.toInt_inj.mp h)))))
  · exact Or.inr (Or.inr (Or.inr (Or.inr (Or.inr (Or.inl (Int32.toInt_inj.mp h))))))
  · exact Or.inr (Or.inr (Or.inr (Or.inr (Or.inr (Or.inr (Or.inl (Int32.toInt_inj.mp h)))))))
  · exact Or.inr (Or.inr (Or.inr (Or.inr (Or.inr (Or.inr (Or.inr (Or.inl (Int32.toInt_inj.mp h))))))))
  · exact Or.inr (Or.inr (Or.inr (Or.inr (Or.inr (Or.inr (Or.inr (Or.inr (Or.inl (Int32.toInt_inj.mp h)))))))))
  · exact Or.inr (Or.inr (Or.inr (Or.inr (Or.inr (Or.inr (Or.inr (Or.inr (Or.inr (Or.inl (Int32.toInt_inj.mp h))))))))))
  · exact Or.inr (Or.inr (Or.inr (Or.inr (Or.inr (Or.inr (Or.inr (Or.inr (Or.inr (Or.inr (Or.inl (Int32.toInt_inj.mp h)))))))))))
  · exact Or.inr (Or.inr (Or.inr (Or.inr (Or.inr (Or.inr (Or.inr (Or.inr (Or.inr (Or.inr (Or.inr (Or.inl (Int32.toInt_inj.mp h))))))))))))
  · exact Or.inr (Or.inr (Or.inr (Or.inr (Or.inr (Or.inr (Or.inr (Or.inr (Or.inr (Or.inr (Or.inr (Or.inr (Or.inl (Int32.toInt_inj.mp h)))))))))))))
  · exact Or.inr (Or.inr (Or.inr (Or.inr (Or.inr (Or.inr (Or.inr (Or.inr (Or.inr (Or.inr (Or.inr (Or.inr (Or.inr (Or.inl (Int32.toInt_inj.mp h))))))))))))))
  · exact Or.inr (Or.inr (Or.inr (Or.inr (Or.inr (Or.inr (Or.inr (Or.inr (Or.inr (Or.inr (Or.inr (Or.inr (Or.inr (Or.inr (Or.inl (Int32.toInt_inj.mp h)))))))))))))))

set_option maxHeartbeats 4000000 in
set_option maxRecDepth 100000 in
theorem d_law0 {p : Program} {l : Launch} {e : Env} {s : State} {m : MethodId} {below : List Frame} {meth : Method} {c : Code} {b L : Nat} {xs : Nat → Int32} {dC : Nat → ClassId} {dI : Nat → Nat → Nat} {ad : Nat → Nat → Nat} {cid : Nat → ClassId} {h0 : Nat} {adm : Nat → Nat} {cidm : Nat → ClassId} {cO : ClassId} {qo : Nat} {A : Nat → Prop} (hl9 : l.stackTraces = false) (C0 : lw_At p s m meth c b L xs) (hL : L ≤ 4608) (hA : ∀ q : Nat, s.heap.size ≤ q → A q) (hbA : ¬ A b) (hG : CE ad A s) (hN9 : NE s) (hK : va_K (dC, dI) vwCl (cT cid ++ (mT cidm ++ [(cO, .long)])) s) (it : Nat) (i : Int32) (hit : it ≤ 511) (hi : i.toInt = 9 * (it : Int)) (hiL : i.toInt + 9 ≤ (L : Int)) (a2 : Nat → Nat) (lx : List Nat) (sg : Nat → Int32) (gm : Nat → Nat → Int32) (lg : Nat → Nat → Int64) (sm : Nat → Int32) (gn : Nat → Nat → Int32) (ln : Nat → Nat → Int64) (f : Nat → Int64) (H : Heap) (locs : List Loc) (ls : Array Slot) (hKI : KI it lx sg gm lg) (hRI : RI sm gn ln) (hREL : REL sg gm lg sm gn ln) (hP : va_P (dC, dI) vwCl (cW ad cid a2 lx sg gm lg ++ (mW h0 adm cidm sm gn ln ++ [(qo, oE cO f)])) H) (hD : va_D A (cW ad cid a2 lx sg gm lg ++ (mW h0 adm cidm sm gn ln ++ [(qo, oE cO f)]))) (hS : va_S A s.heap H locs) (hl : lv_has ls 7 [(4, .int i), (3, .ref qo), (2, .ref h0), (1, eV (ad 0) 0), (0, .ref b)]) (kont : ∀ (a2 : Nat → Nat) (lx : List Nat) (sg : Nat → Int32) (gm : Nat → Nat → Int32) (lg : Nat → Nat → Int64) (sm : Nat → Int32) (gn : Nat → Nat → Int32) (ln : Nat → Nat → Int64) (f : Nat → Int64) (H : Heap) (locs : List Loc) (ls : Array Slot), KI (it + 1) lx sg gm lg → RI sm gn ln → REL sg gm lg sm gn ln → va_P (dC, dI) vwCl (cW ad cid a2 lx sg gm lg ++ (mW h0 adm cidm sm gn ln ++ [(qo, oE cO f)])) H → va_D A (cW ad cid a2 lx sg gm lg ++ (mW h0 adm cidm sm gn ln ++ [(qo, oE cO f)])) → va_S A s.heap H locs → lv_has ls 7 [(4, .int i), (3, .ref qo), (2, .ref h0), (1, eV (ad 0) 0), (0, .ref b)] → W p l e room_1 s m #[Value.ref b] below meth c H locs (10000 + 3 * (it + 1) + PHs gm) (400000 + 18 * (it + 1) + 4 * PHs gm) (lw_Z below #[Value.ref b] s) (F0 m 773 ls [])) : W p l e room_1 s m #[Value.ref b] below meth c H locs (10000 + 3 * it + PHs gm) (400000 + 18 * it + 4 * PHs gm) (lw_Z below #[Value.ref b] s) (F0 m 116 ls []) := by
  obtain ⟨hx, hb, hr, hml, hown, hts, hX, hbl, hlocks, hgv⟩ := C0
  have hown : s.vm.findClass RL = some m.cls := hown
  have htb := fun (w : Cond) (h : w ∈ tb) => hts w (tb_in w h)
  have kI := hKI.1
  have hiv : iv 0 4599 i := ⟨by omega, by omega⟩
  obtain ⟨h79, hX9, hN289, hDC9, S, hSS9⟩ := id hREL
  obtain ⟨hSV9, hBR9, hSB9⟩ := REL_q hDC9
  have hXs9 := CLX_st hX9
  refine ec_aload_n hx hb dL_law_116 rfl (lv_at hl 3 rfl) ?_
  refine lv_aload_n hx hb dL_law_117 rfl (lv_at hl 4 rfl) ?_
  refine lv_iload hx hb dL_law_118 (lv_at hl 0 rfl) ?_
  refine lv_iconst (v := 1) hx hb dL_law_120 (by decide) ?_
  refine lv_iadd hx hb dL_law_121 ?_
  refine lv_topi (fun z_1 ez_1 => ?_)
  have tz_1 : z_1.toInt = i.toInt + 1 := by rw [ez_1]; exact iv_addE hiv (iv_k (by decide) : iv 1 1 1) (by decide)
  refine va_sld hx hb hX hbl hbA hS (vp_in_iff.mpr ⟨by omega, by omega⟩) dL_law_122 ?_
  refine lv_topi (fun v_2 ev_2 => ?_)
  refine lv_aload_n hx hb dL_law_123 rfl (lv_at hl 4 rfl) ?_
  refine lv_iload hx hb dL_law_124 (lv_at hl 0 rfl) ?_
  refine lv_iconst (v := 2) hx hb dL_law_126 (by decide) ?_
  refine lv_iadd hx hb dL_law_127 ?_
  refine lv_topi (fun z_3 ez_3 => ?_)
  have tz_3 : z_3.toInt = i.toInt + 2 := by rw [ez_3]; exact iv_addE hiv (iv_k (by decide) : iv 2 2 2) (by decide)
  refine va_sld hx hb hX hbl hbA hS (vp_in_iff.mpr ⟨by omega, by omega⟩) dL_law_128 ?_
  refine lv_topi (fun v_4 ev_4 => ?_)
  refine lw_callT (r := (mW h0 adm cidm sm gn ln ++ [(qo, oE cO f)])) (tr := mT cidm ++ [(cO, .long)]) (rest := []) (as := [.int v_2, .int v_4]) ⟨hx, hb, hml, hown, htb⟩ (d_declare9 l dC dI ad cid a2 lx sg gm lg 0 v_2 v_4 kI (iv_k (by decide) : iv 0 0 0)) (cwV 2 htb (gd_V kw_429 kw_430 kw_431 kw_146 kw_1383) rfl rfl rfl (by decide +kernel) ⟨Nat.le_of_ble_eq_true rfl, Nat.le_of_ble_eq_true rfl⟩) (iv_k (by decide) : iv 0 0 0) rfl hl.1 rfl (Nat.le_trans cs_n (by decide)) dL_law_129 ⟨(show 10000 + 3 * it + PHs gm + 1 ≤ 601024 from by have := PHs_le kI; omega), (show 400000 + 18 * it + 4 * PHs gm + 6 ≤ 7293034 from by have := PHs_le kI; omega)⟩ hK hP hD hS hA hG (fun _ _ h9 => h9) (fun v9 u H locs hw hP hD hS => ?_)
  obtain ⟨r9, rfl, sg9, gm9, lg9, rfl, hI9, k1, k2, k3, hr9, fD, g0, g1, g3, gB, g4⟩ := hw
  have hKI2 : KI (it + 1) lx sg9 gm9 lg9 := KI_of hKI hI9 k1 k2 k3 (by decide) (by decide) (by decide)
  have hph : PHs gm ≤ PHs gm9 := Nat.le_of_eq (PHs_e (k2 42 (by decide))).symm
  have hP : va_P (dC, dI) vwCl (cW ad cid a2 lx sg9 gm9 lg9 ++ (mW h0 adm cidm sm gn ln ++ [(qo, oE cO f)])) H := hP
  have hD : va_D A (cW ad cid a2 lx sg9 gm9 lg9 ++ (mW h0 adm cidm sm gn ln ++ [(qo, oE cO f)])) := hD
  refine W.eq (g2 := F0 m 132 ls [.int r9]) rfl ?_
  refine lv_pop hx hb dL_law_132 (cat_i _) ?_
  refine lv_aload_n hx hb dL_law_133 rfl (lv_at hl 2 rfl) ?_
  refine lv_aload_n hx hb dL_law_134 rfl (lv_at hl 4 rfl) ?_
  refine lv_iload hx hb dL_law_135 (lv_at hl 0 rfl) ?_
  refine lv_iconst (v := 1) hx hb dL_law_137 (by decide) ?_
  refine lv_iadd hx hb dL_law_138 ?_
  refine lv_topi (fun z_5 ez_5 => ?_)
  have tz_5 : z_5.toInt = i.toInt + 1 := by rw [ez_5]; exact iv_addE hiv (iv_k (by decide) : iv 1 1 1) (by decide)
  refine va_sld hx hb hX hbl hbA hS (vp_in_iff.mpr ⟨by omega, by omega⟩) dL_law_139 ?_
  refine W.eq (g2 := F0 m 140 ls [.int v_2, .ref h0]) (by rw [ev_2, show z_5 = z_1 from Int32.toInt_inj.mp (by omega)]) ?_
  refine lv_aload_n hx hb dL_law_140 rfl (lv_at hl 4 rfl) ?_
  refine lv_iload hx hb dL_law_141 (lv_at hl 0 rfl) ?_
  refine lv_iconst (v := 2) hx hb dL_law_143 (by decide) ?_
  refine lv_iadd hx hb dL_law_144 ?_
  refine lv_topi (fun z_6 ez_6 => ?_)
  have tz_6 : z_6.toInt = i.toInt + 2 := by rw [ez_6]; exact iv_addE hiv (iv_k (by decide) : iv 2 2 2) (by decide)
  refine va_sld hx hb hX hbl hbA hS (vp_in_iff.mpr ⟨by omega, by omega⟩) dL_law_145 ?_
  refine W.eq (g2 := F0 m 146 ls [.int v_4, .int v_2, .ref h0]) (by rw [ev_4, show z_6 = z_3 from Int32.toInt_inj.mp (by omega)]) ?_
  refine lw_callM (w := cW ad cid a2 lx sg9 gm9 lg9) (tw := cT cid) (r := [(qo, oE cO f)]) (tr := [(cO, .long)]) (rest := []) (as := [.int v_2, .int v_4]) ⟨hx, hb, hml, hown, htb⟩ (a_declare9 l dC dI h0 adm cidm sm gn ln v_2 v_4 hRI.1 hRI.2.1) (cwV 2 htb (gd_V kw_1105 kw_1106 kw_1107 kw_160 kw_1566) rfl rfl rfl (by decide +kernel) ⟨Nat.le_of_ble_eq_true rfl, Nat.le_of_ble_eq_true rfl⟩) rfl hl.1 rfl (Nat.le_trans cs_n (by decide)) dL_law_146 ⟨(show 10000 + 3 * it + PHs gm ≤ 601024 from by have := PHs_le kI; omega), (show 400000 + 18 * it + 4 * PHs gm ≤ 7293034 from by have := PHs_le kI; omega)⟩ hK hP hD hS hA (fun r8 u8 H locs hw hP hD hS => ?_)
  obtain ⟨sm9, gn9, ln9, rfl, hI8, j1, j2, j3, hr8, gD, gPR, h7, h13, h10, h6⟩ := hw
  have hRI2 : RI sm9 gn9 ln9 := RI_of hRI hI8 gPR j1 j2 j3 (by decide) (by decide) (by decide) (by decide) (by decide) (by decide) (by decide) (by decide) (by decide) (by decide)
  have hP : va_P (dC, dI) vwCl (cW ad cid a2 lx sg9 gm9 lg9 ++ (mW h0 adm cidm sm9 gn9 ln9 ++ [(qo, oE cO f)])) H := hP
  have hD : va_D A (cW ad cid a2 lx sg9 gm9 lg9 ++ (mW h0 adm cidm sm9 gn9 ln9 ++ [(qo, oE cO f)])) := hD
  refine lv_pop hx hb dL_law_149 (cat_i _) ?_
  refine lv_goto (tgt := 773) hx hb dL_law_150 (by decide) ?_
  have hREL2 : REL sg9 gm9 lg9 sm9 gn9 ln9 := REL_k hREL (TXR_k h79.1 (k1 0 (by decide)) (k2 43 (by decide)) (j1 20 (by decide)) (j2 19 (by decide))) (R_decl hREL (fun q => (show v_2.toInt.toNat < 8 from (by have q1 := q.1; have q2 := q.2.1; omega))) g0 g1 g3 gB g4 k2 h7 h13 h10 h6 j2) k1 k2 k3 j1 j2 j3 (by decide) (by decide) (by decide) (by decide)
  refine W.widen (k := 10000 + 3 * (it + 1) + PHs gm9) (n := 400000 + 18 * (it + 1) + 4 * PHs gm9) (show 10000 + 3 * it + PHs gm ≤ _ from by omega) (show 400000 + 18 * it + 4 * PHs gm ≤ _ from by omega) ?_
  exact kont a2 lx sg9 gm9 lg9 sm9 gn9 ln9 f _ _ _ hKI2 hRI2 hREL2 hP hD hS (lv_sub hl [0, 1, 2, 3, 4] rfl)

set_option maxHeartbeats 4000000 in
set_option maxRecDepth 100000 in
theorem d_law1 {p : Program} {l : Launch} {e : Env} {s : State} {m : MethodId} {below : List Frame} {meth : Method} {c : Code} {b L : Nat} {xs : Nat → Int32} {dC : Nat → ClassId} {dI : Nat → Nat → Nat} {ad : Nat → Nat → Nat} {cid : Nat → ClassId} {h0 : Nat} {adm : Nat → Nat} {cidm : Nat → ClassId} {cO : ClassId} {qo : Nat} {A : Nat → Prop} (hl9 : l.stackTraces = false) (C0 : lw_At p s m meth c b L xs) (hL : L ≤ 4608) (hA : ∀ q : Nat, s.heap.size ≤ q → A q) (hbA : ¬ A b) (hG : CE ad A s) (hN9 : NE s) (hK : va_K (dC, dI) vwCl (cT cid ++ (mT cidm ++ [(cO, .long)])) s) (it : Nat) (i : Int32) (hit : it ≤ 511) (hi : i.toInt = 9 * (it : Int)) (hiL : i.toInt + 9 ≤ (L : Int)) (a2 : Nat → Nat) (lx : List Nat) (sg : Nat → Int32) (gm : Nat → Nat → Int32) (lg : Nat → Nat → Int64) (sm : Nat → Int32) (gn : Nat → Nat → Int32) (ln : Nat → Nat → Int64) (f : Nat → Int64) (H : Heap) (locs : List Loc) (ls : Array Slot) (hKI : KI it lx sg gm lg) (hRI : RI sm gn ln) (hREL : REL sg gm lg sm gn ln) (hP : va_P (dC, dI) vwCl (cW ad cid a2 lx sg gm lg ++ (mW h0 adm cidm sm gn ln ++ [(qo, oE cO f)])) H) (hD : va_D A (cW ad cid a2 lx sg gm lg ++ (mW h0 adm cidm sm gn ln ++ [(qo, oE cO f)]))) (hS : va_S A s.heap H locs) (hl : lv_has ls 7 [(4, .int i), (3, .ref qo), (2, .ref h0), (1, eV (ad 0) 0), (0, .ref b)]) (kont : ∀ (a2 : Nat → Nat) (lx : List Nat) (sg : Nat → Int32) (gm : Nat → Nat → Int32) (lg : Nat → Nat → Int64) (sm : Nat → Int32) (gn : Nat → Nat → Int32) (ln : Nat → Nat → Int64) (f : Nat → Int64) (H : Heap) (locs : List Loc) (ls : Array Slot), KI (it + 1) lx sg gm lg → RI sm gn ln → REL sg gm lg sm gn ln → va_P (dC, dI) vwCl (cW ad cid a2 lx sg gm lg ++ (mW h0 adm cidm sm gn ln ++ [(qo, oE cO f)])) H → va_D A (cW ad cid a2 lx sg gm lg ++ (mW h0 adm cidm sm gn ln ++ [(qo, oE cO f)])) → va_S A s.heap H locs → lv_has ls 7 [(4, .int i), (3, .ref qo), (2, .ref h0), (1, eV (ad 0) 0), (0, .ref b)] → W p l e room_1 s m #[Value.ref b] below meth c H locs (10000 + 3 * (it + 1) + PHs gm) (400000 + 18 * (it + 1) + 4 * PHs gm) (lw_Z below #[Value.ref b] s) (F0 m 773 ls [])) : W p l e room_1 s m #[Value.ref b] below meth c H locs (10000 + 3 * it + PHs gm) (400000 + 18 * it + 4 * PHs gm) (lw_Z below #[Value.ref b] s) (F0 m 153 ls []) := by
  obtain ⟨hx, hb, hr, hml, hown, hts, hX, hbl, hlocks, hgv⟩ := C0
  have hown : s.vm.findClass RL = some m.cls := hown
  have htb := fun (w : Cond) (h : w ∈ tb) => hts w (tb_in w h)
  have kI := hKI.1
  have hiv : iv 0 4599 i := ⟨by omega, by omega⟩
  obtain ⟨h79, hX9, hN289, hDC9, S, hSS9⟩ := id hREL
  obtain ⟨hSV9, hBR9, hSB9⟩ := REL_q hDC9
  have hXs9 := CLX_st hX9
  refine ec_aload_n hx hb dL_law_153 rfl (lv_at hl 3 rfl) ?_
  refine lv_aload_n hx hb dL_law_154 rfl (lv_at hl 4 rfl) ?_
  refine lv_iload hx hb dL_law_155 (lv_at hl 0 rfl) ?_
  refine lv_iconst (v := 1) hx hb dL_law_157 (by decide) ?_
  refine lv_iadd hx hb dL_law_158 ?_
  refine lv_topi (fun z_1 ez_1 => ?_)
  have tz_1 : z_1.toInt = i.toInt + 1 := by rw [ez_1]; exact iv_addE hiv (iv_k (by decide) : iv 1 1 1) (by decide)
  refine va_sld hx hb hX hbl hbA hS (vp_in_iff.mpr ⟨by omega, by omega⟩) dL_law_159 ?_
  refine lv_topi (fun v_2 ev_2 => ?_)
  refine lv_aload_n hx hb dL_law_160 rfl (lv_at hl 4 rfl) ?_
  refine lv_iload hx hb dL_law_161 (lv_at hl 0 rfl) ?_
  refine lv_iconst (v := 2) hx hb dL_law_163 (by decide) ?_
  refine lv_iadd hx hb dL_law_164 ?_
  refine lv_topi (fun z_3 ez_3 => ?_)
  have tz_3 : z_3.toInt = i.toInt + 2 := by rw [ez_3]; exact iv_addE hiv (iv_k (by decide) : iv 2 2 2) (by decide)
  refine va_sld hx hb hX hbl hbA hS (vp_in_iff.mpr ⟨by omega, by omega⟩) dL_law_165 ?_
  refine lv_topi (fun v_4 ev_4 => ?_)
  refine lv_aload_n hx hb dL_law_166 rfl (lv_at hl 4 rfl) ?_
  refine lv_iload hx hb dL_law_167 (lv_at hl 0 rfl) ?_
  refine lv_iconst (v := 3) hx hb dL_law_169 (by decide) ?_
  refine lv_iadd hx hb dL_law_170 ?_
  refine lv_topi (fun z_5 ez_5 => ?_)
  have tz_5 : z_5.toInt = i.toInt + 3 := by rw [ez_5]; exact iv_addE hiv (iv_k (by decide) : iv 3 3 3) (by decide)
  refine va_sld hx hb hX hbl hbA hS (vp_in_iff.mpr ⟨by omega, by omega⟩) dL_law_171 ?_
  refine lv_topi (fun v_6 ev_6 => ?_)
  refine lv_aload_n hx hb dL_law_172 rfl (lv_at hl 4 rfl) ?_
  refine lv_iload hx hb dL_law_173 (lv_at hl 0 rfl) ?_
  refine lv_iconst (v := 4) hx hb dL_law_175 (by decide) ?_
  refine lv_iadd hx hb dL_law_176 ?_
  refine lv_topi (fun z_7 ez_7 => ?_)
  have tz_7 : z_7.toInt = i.toInt + 4 := by rw [ez_7]; exact iv_addE hiv (iv_k (by decide) : iv 4 4 4) (by decide)
  refine va_sld hx hb hX hbl hbA hS (vp_in_iff.mpr ⟨by omega, by omega⟩) dL_law_177 ?_
  refine lv_topi (fun v_8 ev_8 => ?_)
  refine lv_aload_n hx hb dL_law_178 rfl (lv_at hl 4 rfl) ?_
  refine lv_iload hx hb dL_law_179 (lv_at hl 0 rfl) ?_
  refine lv_iconst (v := 5) hx hb dL_law_181 (by decide) ?_
  refine lv_iadd hx hb dL_law_182 ?_
  refine lv_topi (fun z_9 ez_9 => ?_)
  have tz_9 : z_9.toInt = i.toInt + 5 := by rw [ez_9]; exact iv_addE hiv (iv_k (by decide) : iv 5 5 5) (by decide)
  refine va_sld hx hb hX hbl hbA hS (vp_in_iff.mpr ⟨by omega, by omega⟩) dL_law_183 ?_
  refine lv_topi (fun v_10 ev_10 => ?_)
  refine lw_callT (r := (mW h0 adm cidm sm gn ln ++ [(qo, oE cO f)])) (tr := mT cidm ++ [(cO, .long)]) (rest := []) (as := [.int v_2, .int v_4, .int v_6, .int v_8, .int v_10]) ⟨hx, hb, hml, hown, htb⟩ (d_constructor9 l dC dI ad cid a2 lx sg gm lg 0 v_2 v_4 v_6 v_8 v_10 kI (iv_k (by decide) : iv 0 0 0)) (cwV 5 htb (gd_V kw_437 kw_438 kw_439 kw_146 kw_1386) rfl rfl rfl (by decide +kernel) ⟨Nat.le_of_ble_eq_true rfl, Nat.le_of_ble_eq_true rfl⟩) (iv_k (by decide) : iv 0 0 0) rfl hl.1 rfl (Nat.le_trans cs_n (by decide)) dL_law_184 ⟨(show 10000 + 3 * it + PHs gm + 1 ≤ 601024 from by have := PHs_le kI; omega), (show 400000 + 18 * it + 4 * PHs gm + 6 ≤ 7293034 from by have := PHs_le kI; omega)⟩ hK hP hD hS hA hG (fun _ _ h9 => h9) (fun v9 u H locs hw hP hD hS => ?_)
  obtain ⟨r9, rfl, sg9, gm9, lg9, rfl, hI9, k1, k2, k3, hr9, fA⟩ := hw
  have hKI2 : KI (it + 1) lx sg9 gm9 lg9 := KI_of hKI hI9 k1 k2 k3 (by decide) (by decide) (by decide)
  have hph : PHs gm ≤ PHs gm9 := Nat.le_of_eq (PHs_e (k2 42 (by decide))).symm
  have hP : va_P (dC, dI) vwCl (cW ad cid a2 lx sg9 gm9 lg9 ++ (mW h0 adm cidm sm gn ln ++ [(qo, oE cO f)])) H := hP
  have hD : va_D A (cW ad cid a2 lx sg9 gm9 lg9 ++ (mW h0 adm cidm sm gn ln ++ [(qo, oE cO f)])) := hD
  refine W.eq (g2 := F0 m 187 ls [.int r9]) rfl ?_
  refine lv_pop hx hb dL_law_187 (cat_i _) ?_
  refine lv_aload_n hx hb dL_law_188 rfl (lv_at hl 2 rfl) ?_
  refine lv_aload_n hx hb dL_law_189 rfl (lv_at hl 4 rfl) ?_
  refine lv_iload hx hb dL_law_190 (lv_at hl 0 rfl) ?_
  refine lv_iconst (v := 1) hx hb dL_law_192 (by decide) ?_
  refine lv_iadd hx hb dL_law_193 ?_
  refine lv_topi (fun z_11 ez_11 => ?_)
  have tz_11 : z_11.toInt = i.toInt + 1 := by rw [ez_11]; exact iv_addE hiv (iv_k (by decide) : iv 1 1 1) (by decide)
  refine va_sld hx hb hX hbl hbA hS (vp_in_iff.mpr ⟨by omega, by omega⟩) dL_law_194 ?_
  refine W.eq (g2 := F0 m 195 ls [.int v_2, .ref h0]) (by rw [ev_2, show z_11 = z_1 from Int32.toInt_inj.mp (by omega)]) ?_
  refine lv_aload_n hx hb dL_law_195 rfl (lv_at hl 4 rfl) ?_
  refine lv_iload hx hb dL_law_196 (lv_at hl 0 rfl) ?_
  refine lv_iconst (v := 2) hx hb dL_law_198 (by decide) ?_
  refine lv_iadd hx hb dL_law_199 ?_
  refine lv_topi (fun z_12 ez_12 => ?_)
  have tz_12 : z_12.toInt = i.toInt + 2 := by rw [ez_12]; exact iv_addE hiv (iv_k (by decide) : iv 2 2 2) (by decide)
  refine va_sld hx hb hX hbl hbA hS (vp_in_iff.mpr ⟨by omega, by omega⟩) dL_law_200 ?_
  refine W.eq (g2 := F0 m 201 ls [.int v_4, .int v_2, .ref h0]) (by rw [ev_4, show z_12 = z_3 from Int32.toInt_inj.mp (by omega)]) ?_
  refine lv_aload_n hx hb dL_law_201 rfl (lv_at hl 4 rfl) ?_
  refine lv_iload hx hb dL_law_202 (lv_at hl 0 rfl) ?_
  refine lv_iconst (v := 3) hx hb dL_law_204 (by decide) ?_
  refine lv_iadd hx hb dL_law_205 ?_
  refine lv_topi (fun z_13 ez_13 => ?_)
  have tz_13 : z_13.toInt = i.toInt + 3 := by rw [ez_13]; exact iv_addE hiv (iv_k (by decide) : iv 3 3 3) (by decide)
  refine va_sld hx hb hX hbl hbA hS (vp_in_iff.mpr ⟨by omega, by omega⟩) dL_law_206 ?_
  refine W.eq (g2 := F0 m 207 ls [.int v_6, .int v_4, .int v_2, .ref h0]) (by rw [ev_6, show z_13 = z_5 from Int32.toInt_inj.mp (by omega)]) ?_
  refine lv_aload_n hx hb dL_law_207 rfl (lv_at hl 4 rfl) ?_
  refine lv_iload hx hb dL_law_208 (lv_at hl 0 rfl) ?_
  refine lv_iconst (v := 4) hx hb dL_law_210 (by decide) ?_
  refine lv_iadd hx hb dL_law_211 ?_
  refine lv_topi (fun z_14 ez_14 => ?_)
  have tz_14 : z_14.toInt = i.toInt + 4 := by rw [ez_14]; exact iv_addE hiv (iv_k (by decide) : iv 4 4 4) (by decide)
  refine va_sld hx hb hX hbl hbA hS (vp_in_iff.mpr ⟨by omega, by omega⟩) dL_law_212 ?_
  refine W.eq (g2 := F0 m 213 ls [.int v_8, .int v_6, .int v_4, .int v_2, .ref h0]) (by rw [ev_8, show z_14 = z_7 from Int32.toInt_inj.mp (by omega)]) ?_
  refine lv_aload_n hx hb dL_law_213 rfl (lv_at hl 4 rfl) ?_
  refine lv_iload hx hb dL_law_214 (lv_at hl 0 rfl) ?_
  refine lv_iconst (v := 5) hx hb dL_law_216 (by decide) ?_
  refine lv_iadd hx hb dL_law_217 ?_
  refine lv_topi (fun z_15 ez_15 => ?_)
  have tz_15 : z_15.toInt = i.toInt + 5 := by rw [ez_15]; exact iv_addE hiv (iv_k (by decide) : iv 5 5 5) (by decide)
  refine va_sld hx hb hX hbl hbA hS (vp_in_iff.mpr ⟨by omega, by omega⟩) dL_law_218 ?_
  refine W.eq (g2 := F0 m 219 ls [.int v_10, .int v_8, .int v_6, .int v_4, .int v_2, .ref h0]) (by rw [ev_10, show z_15 = z_9 from Int32.toInt_inj.mp (by omega)]) ?_
  refine lw_callM (w := cW ad cid a2 lx sg9 gm9 lg9) (tw := cT cid) (r := [(qo, oE cO f)]) (tr := [(cO, .long)]) (rest := []) (as := [.int v_2, .int v_4, .int v_6, .int v_8, .int v_10]) ⟨hx, hb, hml, hown, htb⟩ (a_constructor9 l dC dI h0 adm cidm sm gn ln v_2 v_4 v_6 v_8 v_10 hRI.1) (cwV 5 htb (gd_V kw_1110 kw_1111 kw_1112 kw_160 kw_1568) rfl rfl rfl (by decide +kernel) ⟨Nat.le_of_ble_eq_true rfl, Nat.le_of_ble_eq_true rfl⟩) rfl hl.1 rfl (Nat.le_trans cs_n (by decide)) dL_law_219 ⟨(show 10000 + 3 * it + PHs gm ≤ 601024 from by have := PHs_le kI; omega), (show 400000 + 18 * it + 4 * PHs gm ≤ 7293034 from by have := PHs_le kI; omega)⟩ hK hP hD hS hA (fun r8 u8 H locs hw hP hD hS => ?_)
  obtain ⟨sm9, gn9, ln9, rfl, hI8, j1, j2, j3, hr8, gA⟩ := hw
  have hRI2 : RI sm9 gn9 ln9 := RI_of hRI hI8 (PR_k hRI.2.1 (j2 6 (by decide))) j1 j2 j3 (by decide) (by decide) (by decide) (by decide) (by decide) (by decide) (by decide) (by decide) (by decide) (by decide)
  have hP : va_P (dC, dI) vwCl (cW ad cid a2 lx sg9 gm9 lg9 ++ (mW h0 adm cidm sm9 gn9 ln9 ++ [(qo, oE cO f)])) H := hP
  have hD : va_D A (cW ad cid a2 lx sg9 gm9 lg9 ++ (mW h0 adm cidm sm9 gn9 ln9 ++ [(qo, oE cO f)])) := hD
  refine lv_pop hx hb dL_law_222 (cat_i _) ?_
  refine lv_goto (tgt := 773) hx hb dL_law_223 (by decide) ?_
  have hREL2 : REL sg9 gm9 lg9 sm9 gn9 ln9 := REL_k hREL (TXR_k h79.1 (k1 0 (by decide)) (k2 43 (by decide)) (j1 20 (by decide)) (j2 19 (by decide))) (R_con hREL (fun q => ⟨(show v_2.toInt.toNat < 8 from (by have q1 := q.1; have q2 := q.2.1; omega)), TY_s q.2.2⟩) fA k2 gA j2) k1 k2 k3 j1 j2 j3 (by decide) (by decide) (by decide) (by decide)
  refine W.widen (k := 10000 + 3 * (it + 1) + PHs gm9) (n := 400000 + 18 * (it + 1) + 4 * PHs gm9) (show 10000 + 3 * it + PHs gm ≤ _ from by omega) (show 400000 + 18 * it + 4 * PHs gm ≤ _ from by omega) ?_
  exact kont a2 lx sg9 gm9 lg9 sm9 gn9 ln9 f _ _ _ hKI2 hRI2 hREL2 hP hD hS (lv_sub hl [0, 1, 2, 3, 4] rfl)

set_option maxHeartbeats 4000000 in
set_option maxRecDepth 100000 in
theorem d_law2 {p : Program} {l : Launch} {e : Env} {s : State} {m : MethodId} {below : List Frame} {meth : Method} {c : Code} {b L : Nat} {xs : Nat → Int32} {dC : Nat → ClassId} {dI : Nat → Nat → Nat} {ad : Nat → Nat → Nat} {cid : Nat → ClassId} {h0 : Nat} {adm : Nat → Nat} {cidm : Nat → ClassId} {cO : ClassId} {qo : Nat} {A : Nat → Prop} (hl9 : l.stackTraces = false) (C0 : lw_At p s m meth c b L xs) (hL : L ≤ 4608) (hA : ∀ q : Nat, s.heap.size ≤ q → A q) (hbA : ¬ A b) (hG : CE ad A s) (hN9 : NE s) (hK : va_K (dC, dI) vwCl (cT cid ++ (mT cidm ++ [(cO, .long)])) s) (it : Nat) (i : Int32) (hit : it ≤ 511) (hi : i.toInt = 9 * (it : Int)) (hiL : i.toInt + 9 ≤ (L : Int)) (a2 : Nat → Nat) (lx : List Nat) (sg : Nat → Int32) (gm : Nat → Nat → Int32) (lg : Nat → Nat → Int64) (sm : Nat → Int32) (gn : Nat → Nat → Int32) (ln : Nat → Nat → Int64) (f : Nat → Int64) (H : Heap) (locs : List Loc) (ls : Array Slot) (hKI : KI it lx sg gm lg) (hRI : RI sm gn ln) (hREL : REL sg gm lg sm gn ln) (hP : va_P (dC, dI) vwCl (cW ad cid a2 lx sg gm lg ++ (mW h0 adm cidm sm gn ln ++ [(qo, oE cO f)])) H) (hD : va_D A (cW ad cid a2 lx sg gm lg ++ (mW h0 adm cidm sm gn ln ++ [(qo, oE cO f)]))) (hS : va_S A s.heap H locs) (hl : lv_has ls 7 [(4, .int i), (3, .ref qo), (2, .ref h0), (1, eV (ad 0) 0), (0, .ref b)]) (kont : ∀ (a2 : Nat → Nat) (lx : List Nat) (sg : Nat → Int32) (gm : Nat → Nat → Int32) (lg : Nat → Nat → Int64) (sm : Nat → Int32) (gn : Nat → Nat → Int32) (ln : Nat → Nat → Int64) (f : Nat → Int64) (H : Heap) (locs : List Loc) (ls : Array Slot), KI (it + 1) lx sg gm lg → RI sm gn ln → REL sg gm lg sm gn ln → va_P (dC, dI) vwCl (cW ad cid a2 lx sg gm lg ++ (mW h0 adm cidm sm gn ln ++ [(qo, oE cO f)])) H → va_D A (cW ad cid a2 lx sg gm lg ++ (mW h0 adm cidm sm gn ln ++ [(qo, oE cO f)])) → va_S A s.heap H locs → lv_has ls 7 [(4, .int i), (3, .ref qo), (2, .ref h0), (1, eV (ad 0) 0), (0, .ref b)] → W p l e room_1 s m #[Value.ref b] below meth c H locs (10000 + 3 * (it + 1) + PHs gm) (400000 + 18 * (it + 1) + 4 * PHs gm) (lw_Z below #[Value.ref b] s) (F0 m 773 ls [])) : W p l e room_1 s m #[Value.ref b] below meth c H locs (10000 + 3 * it + PHs gm) (400000 + 18 * it + 4 * PHs gm) (lw_Z below #[Value.ref b] s) (F0 m 226 ls []) := by
  obtain ⟨hx, hb, hr, hml, hown, hts, hX, hbl, hlocks, hgv⟩ := C0
  have hown : s.vm.findClass RL = some m.cls := hown
  have htb := fun (w : Cond) (h : w ∈ tb) => hts w (tb_in w h)
  have kI := hKI.1
  have hiv : iv 0 4599 i := ⟨by omega, by omega⟩
  obtain ⟨h79, hX9, hN289, hDC9, S, hSS9⟩ := id hREL
  obtain ⟨hSV9, hBR9, hSB9⟩ := REL_q hDC9
  have hXs9 := CLX_st hX9
  refine ec_aload_n hx hb dL_law_226 rfl (lv_at hl 3 rfl) ?_
  refine lv_aload_n hx hb dL_law_227 rfl (lv_at hl 4 rfl) ?_
  refine lv_iload hx hb dL_law_228 (lv_at hl 0 rfl) ?_
  refine lv_iconst (v := 1) hx hb dL_law_230 (by decide) ?_
  refine lv_iadd hx hb dL_law_231 ?_
  refine lv_topi (fun z_1 ez_1 => ?_)
  have tz_1 : z_1.toInt = i.toInt + 1 := by rw [ez_1]; exact iv_addE hiv (iv_k (by decide) : iv 1 1 1) (by decide)
  refine va_sld hx hb hX hbl hbA hS (vp_in_iff.mpr ⟨by omega, by omega⟩) dL_law_232 ?_
  refine lv_topi (fun v_2 ev_2 => ?_)
  refine lv_aload_n hx hb dL_law_233 rfl (lv_at hl 4 rfl) ?_
  refine lv_iload hx hb dL_law_234 (lv_at hl 0 rfl) ?_
  refine lv_iconst (v := 2) hx hb dL_law_236 (by decide) ?_
  refine lv_iadd hx hb dL_law_237 ?_
  refine lv_topi (fun z_3 ez_3 => ?_)
  have tz_3 : z_3.toInt = i.toInt + 2 := by rw [ez_3]; exact iv_addE hiv (iv_k (by decide) : iv 2 2 2) (by decide)
  refine va_sld hx hb hX hbl hbA hS (vp_in_iff.mpr ⟨by omega, by omega⟩) dL_law_238 ?_
  refine lv_topi (fun v_4 ev_4 => ?_)
  refine lv_aload_n hx hb dL_law_239 rfl (lv_at hl 4 rfl) ?_
  refine lv_iload hx hb dL_law_240 (lv_at hl 0 rfl) ?_
  refine lv_iconst (v := 3) hx hb dL_law_242 (by decide) ?_
  refine lv_iadd hx hb dL_law_243 ?_
  refine lv_topi (fun z_5 ez_5 => ?_)
  have tz_5 : z_5.toInt = i.toInt + 3 := by rw [ez_5]; exact iv_addE hiv (iv_k (by decide) : iv 3 3 3) (by decide)
  refine va_sld hx hb hX hbl hbA hS (vp_in_iff.mpr ⟨by omega, by omega⟩) dL_law_244 ?_
  refine lv_topi (fun v_6 ev_6 => ?_)
  refine lw_callT (r := (mW h0 adm cidm sm gn ln ++ [(qo, oE cO f)])) (tr := mT cidm ++ [(cO, .long)]) (rest := []) (as := [.int v_2, .int v_4, .int v_6]) ⟨hx, hb, hml, hown, htb⟩ (d_setter9 l dC dI ad cid a2 lx sg gm lg 0 v_2 v_4 v_6 kI (iv_k (by decide) : iv 0 0 0)) (cwV 3 htb (gd_V kw_453 kw_454 kw_455 kw_146 kw_1392) rfl rfl rfl (by decide +kernel) ⟨Nat.le_of_ble_eq_true rfl, Nat.le_of_ble_eq_true rfl⟩) (iv_k (by decide) : iv 0 0 0) rfl hl.1 rfl (Nat.le_trans cs_n (by decide)) dL_law_245 ⟨(show 10000 + 3 * it + PHs gm + 1 ≤ 601024 from by have := PHs_le kI; omega), (show 400000 + 18 * it + 4 * PHs gm + 6 ≤ 7293034 from by have := PHs_le kI; omega)⟩ hK hP hD hS hA hG (fun _ _ h9 => h9) (fun v9 u H locs hw hP hD hS => ?_)
  obtain ⟨r9, rfl, sg9, gm9, lg9, rfl, hI9, k1, k2, k3, hr9, fS⟩ := hw
  have hKI2 : KI (it + 1) lx sg9 gm9 lg9 := KI_of hKI hI9 k1 k2 k3 (by decide) (by decide) (by decide)
  have hph : PHs gm ≤ PHs gm9 := Nat.le_of_eq (PHs_e (k2 42 (by decide))).symm
  have hP : va_P (dC, dI) vwCl (cW ad cid a2 lx sg9 gm9 lg9 ++ (mW h0 adm cidm sm gn ln ++ [(qo, oE cO f)])) H := hP
  have hD : va_D A (cW ad cid a2 lx sg9 gm9 lg9 ++ (mW h0 adm cidm sm gn ln ++ [(qo, oE cO f)])) := hD
  refine W.eq (g2 := F0 m 248 ls [.int r9]) rfl ?_
  refine lv_pop hx hb dL_law_248 (cat_i _) ?_
  refine lv_aload_n hx hb dL_law_249 rfl (lv_at hl 2 rfl) ?_
  refine lv_aload_n hx hb dL_law_250 rfl (lv_at hl 4 rfl) ?_
  refine lv_iload hx hb dL_law_251 (lv_at hl 0 rfl) ?_
  refine lv_iconst (v := 1) hx hb dL_law_253 (by decide) ?_
  refine lv_iadd hx hb dL_law_254 ?_
  refine lv_topi (fun z_7 ez_7 => ?_)
  have tz_7 : z_7.toInt = i.toInt + 1 := by rw [ez_7]; exact iv_addE hiv (iv_k (by decide) : iv 1 1 1) (by decide)
  refine va_sld hx hb hX hbl hbA hS (vp_in_iff.mpr ⟨by omega, by omega⟩) dL_law_255 ?_
  refine W.eq (g2 := F0 m 256 ls [.int v_2, .ref h0]) (by rw [ev_2, show z_7 = z_1 from Int32.toInt_inj.mp (by omega)]) ?_
  refine lv_aload_n hx hb dL_law_256 rfl (lv_at hl 4 rfl) ?_
  refine lv_iload hx hb dL_law_257 (lv_at hl 0 rfl) ?_
  refine lv_iconst (v := 2) hx hb dL_law_259 (by decide) ?_
  refine lv_iadd hx hb dL_law_260 ?_
  refine lv_topi (fun z_8 ez_8 => ?_)
  have tz_8 : z_8.toInt = i.toInt + 2 := by rw [ez_8]; exact iv_addE hiv (iv_k (by decide) : iv 2 2 2) (by decide)
  refine va_sld hx hb hX hbl hbA hS (vp_in_iff.mpr ⟨by omega, by omega⟩) dL_law_261 ?_
  refine W.eq (g2 := F0 m 262 ls [.int v_4, .int v_2, .ref h0]) (by rw [ev_4, show z_8 = z_3 from Int32.toInt_inj.mp (by omega)]) ?_
  refine lv_aload_n hx hb dL_law_262 rfl (lv_at hl 4 rfl) ?_
  refine lv_iload hx hb dL_law_263 (lv_at hl 0 rfl) ?_
  refine lv_iconst (v := 3) hx hb dL_law_265 (by decide) ?_
  refine lv_iadd hx hb dL_law_266 ?_
  refine lv_topi (fun z_9 ez_9 => ?_)
  have tz_9 : z_9.toInt = i.toInt + 3 := by rw [ez_9]; exact iv_addE hiv (iv_k (by decide) : iv 3 3 3) (by decide)
  refine va_sld hx hb hX hbl hbA hS (vp_in_iff.mpr ⟨by omega, by omega⟩) dL_law_267 ?_
  refine W.eq (g2 := F0 m 268 ls [.int v_6, .int v_4, .int v_2, .ref h0]) (by rw [ev_6, show z_9 = z_5 from Int32.toInt_inj.mp (by omega)]) ?_
  refine lw_callM (w := cW ad cid a2 lx sg9 gm9 lg9) (tw := cT cid) (r := [(qo, oE cO f)]) (tr := [(cO, .long)]) (rest := []) (as := [.int v_2, .int v_4, .int v_6]) ⟨hx, hb, hml, hown, htb⟩ (a_setter9 l dC dI h0 adm cidm sm gn ln v_2 v_4 v_6 hRI.1) (cwV 3 htb (gd_V kw_1117 kw_1118 kw_1119 kw_160 kw_1571) rfl rfl rfl (by decide +kernel) ⟨Nat.le_of_ble_eq_true rfl, Nat.le_of_ble_eq_true rfl⟩) rfl hl.1 rfl (Nat.le_trans cs_n (by decide)) dL_law_268 ⟨(show 10000 + 3 * it + PHs gm ≤ 601024 from by have := PHs_le kI; omega), (show 400000 + 18 * it + 4 * PHs gm ≤ 7293034 from by have := PHs_le kI; omega)⟩ hK hP hD hS hA (fun r8 u8 H locs hw hP hD hS => ?_)
  obtain ⟨sm9, gn9, ln9, rfl, hI8, j1, j2, j3, hr8, gS⟩ := hw
  have hRI2 : RI sm9 gn9 ln9 := RI_of hRI hI8 (PR_k hRI.2.1 (j2 6 (by decide))) j1 j2 j3 (by decide) (by decide) (by decide) (by decide) (by decide) (by decide) (by decide) (by decide) (by decide) (by decide)
  have hP : va_P (dC, dI) vwCl (cW ad cid a2 lx sg9 gm9 lg9 ++ (mW h0 adm cidm sm9 gn9 ln9 ++ [(qo, oE cO f)])) H := hP
  have hD : va_D A (cW ad cid a2 lx sg9 gm9 lg9 ++ (mW h0 adm cidm sm9 gn9 ln9 ++ [(qo, oE cO f)])) := hD
  refine lv_pop hx hb dL_law_271 (cat_i _) ?_
  refine lv_goto (tgt := 773) hx hb dL_law_272 (by decide) ?_
  have hREL2 : REL sg9 gm9 lg9 sm9 gn9 ln9 := REL_k hREL (TXR_k h79.1 (k1 0 (by decide)) (k2 43 (by decide)) (j1 20 (by decide)) (j2 19 (by decide))) (R_set hREL (fun q => ⟨(show v_2.toInt.toNat < 8 from (by have q1 := q.1; have q2 := q.2.1; omega)), ⟨q.2.2.1, q.2.2.2.1⟩, q.2.2.2.2.imp id And.left⟩) fS k2 gS j2) k1 k2 k3 j1 j2 j3 (by decide) (by decide) (by decide) (by decide)
  refine W.widen (k := 10000 + 3 * (it + 1) + PHs gm9) (n := 400000 + 18 * (it + 1) + 4 * PHs gm9) (show 10000 + 3 * it + PHs gm ≤ _ from by omega) (show 400000 + 18 * it + 4 * PHs gm ≤ _ from by omega) ?_
  exact kont a2 lx sg9 gm9 lg9 sm9 gn9 ln9 f _ _ _ hKI2 hRI2 hREL2 hP hD hS (lv_sub hl [0, 1, 2, 3, 4] rfl)

set_option maxHeartbeats 4000000 in
set_option maxRecDepth 100000 in
theorem d_law3 {p : Program} {l : Launch} {e : Env} {s : State} {m : MethodId} {below : List Frame} {meth : Method} {c : Code} {b L : Nat} {xs : Nat → Int32} {dC : Nat → ClassId} {dI : Nat → Nat → Nat} {ad : Nat → Nat → Nat} {cid : Nat → ClassId} {h0 : Nat} {adm : Nat → Nat} {cidm : Nat → ClassId} {cO : ClassId} {qo : Nat} {A : Nat → Prop} (hl9 : l.stackTraces = false) (C0 : lw_At p s m meth c b L xs) (hL : L ≤ 4608) (hA : ∀ q : Nat, s.heap.size ≤ q → A q) (hbA : ¬ A b) (hG : CE ad A s) (hN9 : NE s) (hK : va_K (dC, dI) vwCl (cT cid ++ (mT cidm ++ [(cO, .long)])) s) (it : Nat) (i : Int32) (hit : it ≤ 511) (hi : i.toInt = 9 * (it : Int)) (hiL : i.toInt + 9 ≤ (L : Int)) (a2 : Nat → Nat) (lx : List Nat) (sg : Nat → Int32) (gm : Nat → Nat → Int32) (lg : Nat → Nat → Int64) (sm : Nat → Int32) (gn : Nat → Nat → Int32) (ln : Nat → Nat → Int64) (f : Nat → Int64) (H : Heap) (locs : List Loc) (ls : Array Slot) (hKI : KI it lx sg gm lg) (hRI : RI sm gn ln) (hREL : REL sg gm lg sm gn ln) (hP : va_P (dC, dI) vwCl (cW ad cid a2 lx sg gm lg ++ (mW h0 adm cidm sm gn ln ++ [(qo, oE cO f)])) H) (hD : va_D A (cW ad cid a2 lx sg gm lg ++ (mW h0 adm cidm sm gn ln ++ [(qo, oE cO f)]))) (hS : va_S A s.heap H locs) (hl : lv_has ls 7 [(4, .int i), (3, .ref qo), (2, .ref h0), (1, eV (ad 0) 0), (0, .ref b)]) (kont : ∀ (a2 : Nat → Nat) (lx : List Nat) (sg : Nat → Int32) (gm : Nat → Nat → Int32) (lg : Nat → Nat → Int64) (sm : Nat → Int32) (gn : Nat → Nat → Int32) (ln : Nat → Nat → Int64) (f : Nat → Int64) (H : Heap) (locs : List Loc) (ls : Array Slot), KI (it + 1) lx sg gm lg → RI sm gn ln → REL sg gm lg sm gn ln → va_P (dC, dI) vwCl (cW ad cid a2 lx sg gm lg ++ (mW h0 adm cidm sm gn ln ++ [(qo, oE cO f)])) H → va_D A (cW ad cid a2 lx sg gm lg ++ (mW h0 adm cidm sm gn ln ++ [(qo, oE cO f)])) → va_S A s.heap H locs → lv_has ls 7 [(4, .int i), (3, .ref qo), (2, .ref h0), (1, eV (ad 0) 0), (0, .ref b)] → W p l e room_1 s m #[Value.ref b] below meth c H locs (10000 + 3 * (it + 1) + PHs gm) (400000 + 18 * (it + 1) + 4 * PHs gm) (lw_Z below #[Value.ref b] s) (F0 m 773 ls [])) : W p l e room_1 s m #[Value.ref b] below meth c H locs (10000 + 3 * it + PHs gm) (400000 + 18 * it + 4 * PHs gm) (lw_Z below #[Value.ref b] s) (F0 m 275 ls []) := by
  obtain ⟨hx, hb, hr, hml, hown, hts, hX, hbl, hlocks, hgv⟩ := C0
  have hown : s.vm.findClass RL = some m.cls := hown
  have htb := fun (w : Cond) (h : w ∈ tb) => hts w (tb_in w h)
  have kI := hKI.1
  have hiv : iv 0 4599 i := ⟨by omega, by omega⟩
  obtain ⟨h79, hX9, hN289, hDC9, S, hSS9⟩ := id hREL
  obtain ⟨hSV9, hBR9, hSB9⟩ := REL_q hDC9
  have hXs9 := CLX_st hX9
  refine ec_aload_n hx hb dL_law_275 rfl (lv_at hl 3 rfl) ?_
  refine lv_aload_n hx hb dL_law_276 rfl (lv_at hl 4 rfl) ?_
  refine lv_iload hx hb dL_law_277 (lv_at hl 0 rfl) ?_
  refine lv_iconst (v := 1) hx hb dL_law_279 (by decide) ?_
  refine lv_iadd hx hb dL_law_280 ?_
  refine lv_topi (fun z_1 ez_1 => ?_)
  have tz_1 : z_1.toInt = i.toInt + 1 := by rw [ez_1]; exact iv_addE hiv (iv_k (by decide) : iv 1 1 1) (by decide)
  refine va_sld hx hb hX hbl hbA hS (vp_in_iff.mpr ⟨by omega, by omega⟩) dL_law_281 ?_
  refine lv_topi (fun v_2 ev_2 => ?_)
  refine lv_aload_n hx hb dL_law_282 rfl (lv_at hl 4 rfl) ?_
  refine lv_iload hx hb dL_law_283 (lv_at hl 0 rfl) ?_
  refine lv_iconst (v := 2) hx hb dL_law_285 (by decide) ?_
  refine lv_iadd hx hb dL_law_286 ?_
  refine lv_topi (fun z_3 ez_3 => ?_)
  have tz_3 : z_3.toInt = i.toInt + 2 := by rw [ez_3]; exact iv_addE hiv (iv_k (by decide) : iv 2 2 2) (by decide)
  refine va_sld hx hb hX hbl hbA hS (vp_in_iff.mpr ⟨by omega, by omega⟩) dL_law_287 ?_
  refine lv_topi (fun v_4 ev_4 => ?_)
  refine lv_aload_n hx hb dL_law_288 rfl (lv_at hl 4 rfl) ?_
  refine lv_iload hx hb dL_law_289 (lv_at hl 0 rfl) ?_
  refine lv_iconst (v := 3) hx hb dL_law_291 (by decide) ?_
  refine lv_iadd hx hb dL_law_292 ?_
  refine lv_topi (fun z_5 ez_5 => ?_)
  have tz_5 : z_5.toInt = i.toInt + 3 := by rw [ez_5]; exact iv_addE hiv (iv_k (by decide) : iv 3 3 3) (by decide)
  refine va_sld hx hb hX hbl hbA hS (vp_in_iff.mpr ⟨by omega, by omega⟩) dL_law_293 ?_
  refine lv_topi (fun v_6 ev_6 => ?_)
  refine lv_if_eq (tgt := 301) hx hb dL_law_294 (by decide) (fun c_7 => ?_) (fun c_7 => ?_)
  · refine lv_iconst (v := 0) hx hb dL_law_301 (by decide) ?_
    refine lv_aload_n hx hb dL_law_302 rfl (lv_at hl 4 rfl) ?_
    refine lv_iload hx hb dL_law_303 (lv_at hl 0 rfl) ?_
    refine lv_iconst (v := 4) hx hb dL_law_305 (by decide) ?_
    refine lv_iadd hx hb dL_law_306 ?_
    refine lv_topi (fun z_8 ez_8 => ?_)
    have tz_8 : z_8.toInt = i.toInt + 4 := by rw [ez_8]; exact iv_addE hiv (iv_k (by decide) : iv 4 4 4) (by decide)
    refine va_sld hx hb hX hbl hbA hS (vp_in_iff.mpr ⟨by omega, by omega⟩) dL_law_307 ?_
    refine lv_topi (fun v_9 ev_9 => ?_)
    refine lv_aload_n hx hb dL_law_308 rfl (lv_at hl 4 rfl) ?_
    refine lv_iload hx hb dL_law_309 (lv_at hl 0 rfl) ?_
    refine lv_iconst (v := 5) hx hb dL_law_311 (by decide) ?_
    refine lv_iadd hx hb dL_law_312 ?_
    refine lv_topi (fun z_10 ez_10 => ?_)
    have tz_10 : z_10.toInt = i.toInt + 5 := by rw [ez_10]; exact iv_addE hiv (iv_k (by decide) : iv 5 5 5) (by decide)
    refine va_sld hx hb hX hbl hbA hS (vp_in_iff.mpr ⟨by omega, by omega⟩) dL_law_313 ?_
    refine lv_topi (fun v_11 ev_11 => ?_)
    refine lv_aload_n hx hb dL_law_314 rfl (lv_at hl 4 rfl) ?_
    refine lv_iload hx hb dL_law_315 (lv_at hl 0 rfl) ?_
    refine lv_bipush (v := 6) hx hb dL_law_317 (by decide) ?_
    refine lv_iadd hx hb dL_law_319 ?_
    refine lv_topi (fun z_12 ez_12 => ?_)
    have tz_12 : z_12.toInt = i.toInt + 6 := by rw [ez_12]; exact iv_addE hiv (iv_k (by decide) : iv 6 6 6) (by decide)
    refine va_sld hx hb hX hbl hbA hS (vp_in_iff.mpr ⟨by omega, by omega⟩) dL_law_320 ?_
    refine lv_topi (fun v_13 ev_13 => ?_)
    refine lv_aload_n hx hb dL_law_321 rfl (lv_at hl 4 rfl) ?_
    refine lv_iload hx hb dL_law_322 (lv_at hl 0 rfl) ?_
    refine lv_bipush (v := 7) hx hb dL_law_324 (by decide) ?_
    refine lv_iadd hx hb dL_law_326 ?_
    refine lv_topi (fun z_14 ez_14 => ?_)
    have tz_14 : z_14.toInt = i.toInt + 7 := by rw [ez_14]; exact iv_addE hiv (iv_k (by decide) : iv 7 7 7) (by decide)
    refine va_sld hx hb hX hbl hbA hS (vp_in_iff.mpr ⟨by omega, by omega⟩) dL_law_327 ?_
    refine lv_topi (fun v_15 ev_15 => ?_)
    refine lv_aload_n hx hb dL_law_328 rfl (lv_at hl 4 rfl) ?_
    refine lv_iload hx hb dL_law_329 (lv_at hl 0 rfl) ?_
    refine lv_bipush (v := 8) hx hb dL_law_331 (by decide) ?_
    refine lv_iadd hx hb dL_law_333 ?_
    refine lv_topi (fun z_16 ez_16 => ?_)
    have tz_16 : z_16.toInt = i.toInt + 8 := by rw [ez_16]; exact iv_addE hiv (iv_k (by decide) : iv 8 8 8) (by decide)
    refine va_sld hx hb hX hbl hbA hS (vp_in_iff.mpr ⟨by omega, by omega⟩) dL_law_334 ?_
    refine lv_topi (fun v_17 ev_17 => ?_)
    refine lw_callT (r := (mW h0 adm cidm sm gn ln ++ [(qo, oE cO f)])) (tr := mT cidm ++ [(cO, .long)]) (rest := []) (as := [.int v_2, .int v_4, .int 0, .int v_9, .int v_11, .int v_13, .int v_15, .int v_17]) ⟨hx, hb, hml, hown, htb⟩ (d_factory9 l dC dI ad cid a2 lx sg gm lg 0 v_2 v_4 0 v_9 v_11 v_13 v_15 v_17 kI (iv_k (by decide) : iv 0 0 0) (iv_w (iv_k (by decide) : iv 0 0 0) (by decide))) (cwV 8 htb (gd_V kw_461 kw_462 kw_463 kw_146 kw_1395) rfl rfl rfl (by decide +kernel) ⟨Nat.le_of_ble_eq_true rfl, Nat.le_of_ble_eq_true rfl⟩) (iv_k (by decide) : iv 0 0 0) rfl hl.1 rfl (Nat.le_trans cs_n (by decide)) dL_law_335 ⟨(show 10000 + 3 * it + PHs gm + 1 ≤ 601024 from by have := PHs_le kI; omega), (show 400000 + 18 * it + 4 * PHs gm + 6 ≤ 7293034 from by have := PHs_le kI; omega)⟩ hK hP hD hS hA hG (fun _ _ h9 => h9) (fun v9 u H locs hw hP hD hS => ?_)
    obtain ⟨r9, rfl, sg9, gm9, lg9, rfl, hI9, k1, k2, k3, hr9, fA⟩ := hw
    have hKI2 : KI (it + 1) lx sg9 gm9 lg9 := KI_of hKI hI9 k1 k2 k3 (by decide) (by decide) (by decide)
    have hph : PHs gm ≤ PHs gm9 := Nat.le_of_eq (PHs_e (k2 42 (by decide))).symm
    have hP : va_P (dC, dI) vwCl (cW ad cid a2 lx sg9 gm9 lg9 ++ (mW h0 adm cidm sm gn ln ++ [(qo, oE cO f)])) H := hP
    have hD : va_D A (cW ad cid a2 lx sg9 gm9 lg9 ++ (mW h0 adm cidm sm gn ln ++ [(qo, oE cO f)])) := hD
    refine W.eq (g2 := F0 m 338 ls [.int r9]) rfl ?_
    refine lv_pop hx hb dL_law_338 (cat_i _) ?_
    refine lv_aload_n hx hb dL_law_339 rfl (lv_at hl 2 rfl) ?_
    refine lv_aload_n hx hb dL_law_340 rfl (lv_at hl 4 rfl) ?_
    refine lv_iload hx hb dL_law_341 (lv_at hl 0 rfl) ?_
    refine lv_iconst (v := 1) hx hb dL_law_343 (by decide) ?_
    refine lv_iadd hx hb dL_law_344 ?_
    refine lv_topi (fun z_18 ez_18 => ?_)
    have tz_18 : z_18.toInt = i.toInt + 1 := by rw [ez_18]; exact iv_addE hiv (iv_k (by decide) : iv 1 1 1) (by decide)
    refine va_sld hx hb hX hbl hbA hS (vp_in_iff.mpr ⟨by omega, by omega⟩) dL_law_345 ?_
    refine W.eq (g2 := F0 m 346 ls [.int v_2, .ref h0]) (by rw [ev_2, show z_18 = z_1 from Int32.toInt_inj.mp (by omega)]) ?_
    refine lv_aload_n hx hb dL_law_346 rfl (lv_at hl 4 rfl) ?_
    refine lv_iload hx hb dL_law_347 (lv_at hl 0 rfl) ?_
    refine lv_iconst (v := 2) hx hb dL_law_349 (by decide) ?_
    refine lv_iadd hx hb dL_law_350 ?_
    refine lv_topi (fun z_19 ez_19 => ?_)
    have tz_19 : z_19.toInt = i.toInt + 2 := by rw [ez_19]; exact iv_addE hiv (iv_k (by decide) : iv 2 2 2) (by decide)
    refine va_sld hx hb hX hbl hbA hS (vp_in_iff.mpr ⟨by omega, by omega⟩) dL_law_351 ?_
    refine W.eq (g2 := F0 m 352 ls [.int v_4, .int v_2, .ref h0]) (by rw [ev_4, show z_19 = z_3 from Int32.toInt_inj.mp (by omega)]) ?_
    refine lv_aload_n hx hb dL_law_352 rfl (lv_at hl 4 rfl) ?_
    refine lv_iload hx hb dL_law_353 (lv_at hl 0 rfl) ?_
    refine lv_iconst (v := 3) hx hb dL_law_355 (by decide) ?_
    refine lv_iadd hx hb dL_law_356 ?_
    refine lv_topi (fun z_20 ez_20 => ?_)
    have tz_20 : z_20.toInt = i.toInt + 3 := by rw [ez_20]; exact iv_addE hiv (iv_k (by decide) : iv 3 3 3) (by decide)
    refine va_sld hx hb hX hbl hbA hS (vp_in_iff.mpr ⟨by omega, by omega⟩) dL_law_357 ?_
    refine W.eq (g2 := F0 m 358 ls [.int v_6, .int v_4, .int v_2, .ref h0]) (by rw [ev_6, show z_20 = z_5 from Int32.toInt_inj.mp (by omega)]) ?_
    refine lv_if_eq (tgt := 365) hx hb dL_law_358 (by decide) (fun c_21 => ?_) (fun c_21 => ?_)
    · refine lv_iconst (v := 0) hx hb dL_law_365 (by decide) ?_
      refine lv_aload_n hx hb dL_law_366 rfl (lv_at hl 4 rfl) ?_
      refine lv_iload hx hb dL_law_367 (lv_at hl 0 rfl) ?_
      refine lv_iconst (v := 4) hx hb dL_law_369 (by decide) ?_
      refine lv_iadd hx hb dL_law_370 ?_
      refine lv_topi (fun z_22 ez_22 => ?_)
      have tz_22 : z_22.toInt = i.toInt + 4 := by rw [ez_22]; exact iv_addE hiv (iv_k (by decide) : iv 4 4 4) (by decide)
      refine va_sld hx hb hX hbl hbA hS (vp_in_iff.mpr ⟨by omega, by omega⟩) dL_law_371 ?_
      refine W.eq (g2 := F0 m 372 ls [.int v_9, .int 0, .int v_4, .int v_2, .ref h0]) (by rw [ev_9, show z_22 = z_8 from Int32.toInt_inj.mp (by omega)]) ?_
      refine lv_aload_n hx hb dL_law_372 rfl (lv_at hl 4 rfl) ?_
      refine lv_iload hx hb dL_law_373 (lv_at hl 0 rfl) ?_
      refine lv_iconst (v := 5) hx hb dL_law_375 (by decide) ?_
      refine lv_iadd hx hb dL_law_376 ?_
      refine lv_topi (fun z_23 ez_23 => ?_)
      have tz_23 : z_23.toInt = i.toInt + 5 := by rw [ez_23]; exact iv_addE hiv (iv_k (by decide) : iv 5 5 5) (by decide)
      refine va_sld hx hb hX hbl hbA hS (vp_in_iff.mpr ⟨by omega, by omega⟩) dL_law_377 ?_
      refine W.eq (g2 := F0 m 378 ls [.int v_11, .int v_9, .int 0, .int v_4, .int v_2, .ref h0]) (by rw [ev_11, show z_23 = z_10 from Int32.toInt_inj.mp (by omega)]) ?_
      refine lv_aload_n hx hb dL_law_378 rfl (lv_at hl 4 rfl) ?_
      refine lv_iload hx hb dL_law_379 (lv_at hl 0 rfl) ?_
      refine lv_bipush (v := 6) hx hb dL_law_381 (by decide) ?_
      refine lv_iadd hx hb dL_law_383 ?_
      refine lv_topi (fun z_24 ez_24 => ?_)
      have tz_24 : z_24.toInt = i.toInt + 6 := by rw [ez_24]; exact iv_addE hiv (iv_k (by decide) : iv 6 6 6) (by decide)
      refine va_sld hx hb hX hbl hbA hS (vp_in_iff.mpr ⟨by omega, by omega⟩) dL_law_384 ?_
      refine W.eq (g2 := F0 m 385 ls [.int v_13, .int v_11, .int v_9, .int 0, .int v_4, .int v_2, .ref h0]) (by rw [ev_13, show z_24 = z_12 from Int32.toInt_inj.mp (by omega)]) ?_
      refine lv_aload_n hx hb dL_law_385 rfl (lv_at hl 4 rfl) ?_
      refine lv_iload hx hb dL_law_386 (lv_at hl 0 rfl) ?_
      refine lv_bipush (v := 7) hx hb dL_law_388 (by decide) ?_
      refine lv_iadd hx hb dL_law_390 ?_
      refine lv_topi (fun z_25 ez_25 => ?_)
      have tz_25 : z_25.toInt = i.toInt + 7 := by rw [ez_25]; exact iv_addE hiv (iv_k (by decide) : iv 7 7 7) (by decide)
      refine va_sld hx hb hX hbl hbA hS (vp_in_iff.mpr ⟨by omega, by omega⟩) dL_law_391 ?_
      refine W.eq (g2 := F0 m 392 ls [.int v_15, .int v_13, .int v_11, .int v_9, .int 0, .int v_4, .int v_2, .ref h0]) (by rw [ev_15, show z_25 = z_14 from Int32.toInt_inj.mp (by omega)]) ?_
      refine lv_aload_n hx hb dL_law_392 rfl (lv_at hl 4 rfl) ?_
      refine lv_iload hx hb dL_law_393 (lv_at hl 0 rfl) ?_
      refine lv_bipush (v := 8) hx hb dL_law_395 (by decide) ?_
      refine lv_iadd hx hb dL_law_397 ?_
      refine lv_topi (fun z_26 ez_26 => ?_)
      have tz_26 : z_26.toInt = i.toInt + 8 := by rw [ez_26]; exact iv_addE hiv (iv_k (by decide) : iv 8 8 8) (by decide)
      refine va_sld hx hb hX hbl hbA hS (vp_in_iff.mpr ⟨by omega, by omega⟩) dL_law_398 ?_
      refine W.eq (g2 := F0 m 399 ls [.int v_17, .int v_15, .int v_13, .int v_11, .int v_9, .int 0, .int v_4, .int v_2, .ref h0]) (by rw [ev_17, show z_26 = z_16 from Int32.toInt_inj.mp (by omega)]) ?_
      refine lw_callM (w := cW ad cid a2 lx sg9 gm9 lg9) (tw := cT cid) (r := [(qo, oE cO f)]) (tr := [(cO, .long)]) (rest := []) (as := [.int v_2, .int v_4, .int 0, .int v_9, .int v_11, .int v_13, .int v_15, .int v_17]) ⟨hx, hb, hml, hown, htb⟩ (a_factory9 l dC dI h0 adm cidm sm gn ln v_2 v_4 0 v_9 v_11 v_13 v_15 v_17 hRI.1 (iv_w (iv_k (by decide) : iv 0 0 0) (by decide))) (cwV 8 htb (gd_V kw_1122 kw_1123 kw_1124 kw_160 kw_1573) rfl rfl rfl (by decide +kernel) ⟨Nat.le_of_ble_eq_true rfl, Nat.le_of_ble_eq_true rfl⟩) rfl hl.1 rfl (Nat.le_trans cs_n (by decide)) dL_law_399 ⟨(show 10000 + 3 * it + PHs gm ≤ 601024 from by have := PHs_le kI; omega), (show 400000 + 18 * it + 4 * PHs gm ≤ 7293034 from by have := PHs_le kI; omega)⟩ hK hP hD hS hA (fun r8 u8 H locs hw hP hD hS => ?_)
      obtain ⟨sm9, gn9, ln9, rfl, hI8, j1, j2, j3, hr8, gA⟩ := hw
      have hRI2 : RI sm9 gn9 ln9 := RI_of hRI hI8 (PR_k hRI.2.1 (j2 6 (by decide))) j1 j2 j3 (by decide) (by decide) (by decide) (by decide) (by decide) (by decide) (by decide) (by decide) (by decide) (by decide)
      have hP : va_P (dC, dI) vwCl (cW ad cid a2 lx sg9 gm9 lg9 ++ (mW h0 adm cidm sm9 gn9 ln9 ++ [(qo, oE cO f)])) H := hP
      have hD : va_D A (cW ad cid a2 lx sg9 gm9 lg9 ++ (mW h0 adm cidm sm9 gn9 ln9 ++ [(qo, oE cO f)])) := hD
      refine lv_pop hx hb dL_law_402 (cat_i _) ?_
      refine lv_goto (tgt := 773) hx hb dL_law_403 (by decide) ?_
      have hREL2 : REL sg9 gm9 lg9 sm9 gn9 ln9 := REL_k hREL (TXR_k h79.1 (k1 0 (by decide)) (k2 43 (by decide)) (j1 20 (by decide)) (j2 19 (by decide))) (R_fac hREL (fun q => ⟨(show v_2.toInt.toNat < 8 from (by have q1 := q.1; have q2 := q.2.1; omega)), q.2.2.1, TY_s q.2.2.2.2.2.2⟩) fA k2 gA j2) k1 k2 k3 j1 j2 j3 (by decide) (by decide) (by decide) (by decide)
      refine W.widen (k := 10000 + 3 * (it + 1) + PHs gm9) (n := 400000 + 18 * (it + 1) + 4 * PHs gm9) (show 10000 + 3 * it + PHs gm ≤ _ from by omega) (show 400000 + 18 * it + 4 * PHs gm ≤ _ from by omega) ?_
      exact kont a2 lx sg9 gm9 lg9 sm9 gn9 ln9 f _ _ _ hKI2 hRI2 hREL2 hP hD hS (lv_sub hl [0, 1, 2, 3, 4] rfl)
    · exact absurd c_7 c_21
  · refine lv_iconst (v := 1) hx hb dL_law_297 (by decide) ?_
    refine lv_goto (tgt := 302) hx hb dL_law_298 (by decide) ?_
    refine lv_aload_n hx hb dL_law_302 rfl (lv_at hl 4 rfl) ?_
    refine lv_iload hx hb dL_law_303 (lv_at hl 0 rfl) ?_
    refine lv_iconst (v := 4) hx hb dL_law_305 (by decide) ?_
    refine lv_iadd hx hb dL_law_306 ?_
    refine lv_topi (fun z_27 ez_27 => ?_)
    have tz_27 : z_27.toInt = i.toInt + 4 := by rw [ez_27]; exact iv_addE hiv (iv_k (by decide) : iv 4 4 4) (by decide)
    refine va_sld hx hb hX hbl hbA hS (vp_in_iff.mpr ⟨by omega, by omega⟩) dL_law_307 ?_
    refine lv_topi (fun v_28 ev_28 => ?_)
    refine lv_aload_n hx hb dL_law_308 rfl (lv_at hl 4 rfl) ?_
    refine lv_iload hx hb dL_law_309 (lv_at hl 0 rfl) ?_
    refine lv_iconst (v := 5) hx hb dL_law_311 (by decide) ?_
    refine lv_iadd hx hb dL_law_312 ?_
    refine lv_topi (fun z_29 ez_29 => ?_)
    have tz_29 : z_29.toInt = i.toInt + 5 := by rw [ez_29]; exact iv_addE hiv (iv_k (by decide) : iv 5 5 5) (by decide)
    refine va_sld hx hb hX hbl hbA hS (vp_in_iff.mpr ⟨by omega, by omega⟩) dL_law_313 ?_
    refine lv_topi (fun v_30 ev_30 => ?_)
    refine lv_aload_n hx hb dL_law_314 rfl (lv_at hl 4 rfl) ?_
    refine lv_iload hx hb dL_law_315 (lv_at hl 0 rfl) ?_
    refine lv_bipush (v := 6) hx hb dL_law_317 (by decide) ?_
    refine lv_iadd hx hb dL_law_319 ?_
    refine lv_topi (fun z_31 ez_31 => ?_)
    have tz_31 : z_31.toInt = i.toInt + 6 := by rw [ez_31]; exact iv_addE hiv (iv_k (by decide) : iv 6 6 6) (by decide)
    refine va_sld hx hb hX hbl hbA hS (vp_in_iff.mpr ⟨by omega, by omega⟩) dL_law_320 ?_
    refine lv_topi (fun v_32 ev_32 => ?_)
    refine lv_aload_n hx hb dL_law_321 rfl (lv_at hl 4 rfl) ?_
    refine lv_iload hx hb dL_law_322 (lv_at hl 0 rfl) ?_
    refine lv_bipush (v := 7) hx hb dL_law_324 (by decide) ?_
    refine lv_iadd hx hb dL_law_326 ?_
    refine lv_topi (fun z_33 ez_33 => ?_)
    have tz_33 : z_33.toInt = i.toInt + 7 := by rw [ez_33]; exact iv_addE hiv (iv_k (by decide) : iv 7 7 7) (by decide)
    refine va_sld hx hb hX hbl hbA hS (vp_in_iff.mpr ⟨by omega, by omega⟩) dL_law_327 ?_
    refine lv_topi (fun v_34 ev_34 => ?_)
    refine lv_aload_n hx hb dL_law_328 rfl (lv_at hl 4 rfl) ?_
    refine lv_iload hx hb dL_law_329 (lv_at hl 0 rfl) ?_
    refine lv_bipush (v := 8) hx hb dL_law_331 (by decide) ?_
    refine lv_iadd hx hb dL_law_333 ?_
    refine lv_topi (fun z_35 ez_35 => ?_)
    have tz_35 : z_35.toInt = i.toInt + 8 := by rw [ez_35]; exact iv_addE hiv (iv_k (by decide) : iv 8 8 8) (by decide)
    refine va_sld hx hb hX hbl hbA hS (vp_in_iff.mpr ⟨by omega, by omega⟩) dL_law_334 ?_
    refine lv_topi (fun v_36 ev_36 => ?_)
    refine lw_callT (r := (mW h0 adm cidm sm gn ln ++ [(qo, oE cO f)])) (tr := mT cidm ++ [(cO, .long)]) (rest := []) (as := [.int v_2, .int v_4, .int 1, .int v_28, .int v_30, .int v_32, .int v_34, .int v_36]) ⟨hx, hb, hml, hown, htb⟩ (d_factory9 l dC dI ad cid a2 lx sg gm lg 0 v_2 v_4 1 v_28 v_30 v_32 v_34 v_36 kI (iv_k (by decide) : iv 0 0 0) (iv_w (iv_k (by decide) : iv 1 1 1) (by decide))) (cwV 8 htb (gd_V kw_461 kw_462 kw_463 kw_146 kw_1395) rfl rfl rfl (by decide +kernel) ⟨Nat.le_of_ble_eq_true rfl, Nat.le_of_ble_eq_true rfl⟩) (iv_k (by decide) : iv 0 0 0) rfl hl.1 rfl (Nat.le_trans cs_n (by decide)) dL_law_335 ⟨(show 10000 + 3 * it + PHs gm + 1 ≤ 601024 from by have := PHs_le kI; omega), (show 400000 + 18 * it + 4 * PHs gm + 6 ≤ 7293034 from by have := PHs_le kI; omega)⟩ hK hP hD hS hA hG (fun _ _ h9 => h9) (fun v9 u H locs hw hP hD hS => ?_)
    obtain ⟨r9, rfl, sg9, gm9, lg9, rfl, hI9, k1, k2, k3, hr9, fA⟩ := hw
    have hKI2 : KI (it + 1) lx sg9 gm9 lg9 := KI_of hKI hI9 k1 k2 k3 (by decide) (by decide) (by decide)
    have hph : PHs gm ≤ PHs gm9 := Nat.le_of_eq (PHs_e (k2 42 (by decide))).symm
    have hP : va_P (dC, dI) vwCl (cW ad cid a2 lx sg9 gm9 lg9 ++ (mW h0 adm cidm sm gn ln ++ [(qo, oE cO f)])) H := hP
    have hD : va_D A (cW ad cid a2 lx sg9 gm9 lg9 ++ (mW h0 adm cidm sm gn ln ++ [(qo, oE cO f)])) := hD
    refine W.eq (g2 := F0 m 338 ls [.int r9]) rfl ?_
    refine lv_pop hx hb dL_law_338 (cat_i _) ?_
    refine lv_aload_n hx hb dL_law_339 rfl (lv_at hl 2 rfl) ?_
    refine lv_aload_n hx hb dL_law_340 rfl (lv_at hl 4 rfl) ?_
    refine lv_iload hx hb dL_law_341 (lv_at hl 0 rfl) ?_
    refine lv_iconst (v := 1) hx hb dL_law_343 (by decide) ?_
    refine lv_iadd hx hb dL_law_344 ?_
    refine lv_topi (fun z_37 ez_37 => ?_)
    have tz_37 : z_37.toInt = i.toInt + 1 := by rw [ez_37]; exact iv_addE hiv (iv_k (by decide) : iv 1 1 1) (by decide)
    refine va_sld hx hb hX hbl hbA hS (vp_in_iff.mpr ⟨by omega, by omega⟩) dL_law_345 ?_
    refine W.eq (g2 := F0 m 346 ls [.int v_2, .ref h0]) (by rw [ev_2, show z_37 = z_1 from Int32.toInt_inj.mp (by omega)]) ?_
    refine lv_aload_n hx hb dL_law_346 rfl (lv_at hl 4 rfl) ?_
    refine lv_iload hx hb dL_law_347 (lv_at hl 0 rfl) ?_
    refine lv_iconst (v := 2) hx hb dL_law_349 (by decide) ?_
    refine lv_iadd hx hb dL_law_350 ?_
    refine lv_topi (fun z_38 ez_38 => ?_)
    have tz_38 : z_38.toInt = i.toInt + 2 := by rw [ez_38]; exact iv_addE hiv (iv_k (by decide) : iv 2 2 2) (by decide)
    refine va_sld hx hb hX hbl hbA hS (vp_in_iff.mpr ⟨by omega, by omega⟩) dL_law_351 ?_
    refine W.eq (g2 := F0 m 352 ls [.int v_4, .int v_2, .ref h0]) (by rw [ev_4, show z_38 = z_3 from Int32.toInt_inj.mp (by omega)]) ?_
    refine lv_aload_n hx hb dL_law_352 rfl (lv_at hl 4 rfl) ?_
    refine lv_iload hx hb dL_law_353 (lv_at hl 0 rfl) ?_
    refine lv_iconst (v := 3) hx hb dL_law_355 (by decide) ?_
    refine lv_iadd hx hb dL_law_356 ?_
    refine lv_topi (fun z_39 ez_39 => ?_)
    have tz_39 : z_39.toInt = i.toInt + 3 := by rw [ez_39]; exact iv_addE hiv (iv_k (by decide) : iv 3 3 3) (by decide)
    refine va_sld hx hb hX hbl hbA hS (vp_in_iff.mpr ⟨by omega, by omega⟩) dL_law_357 ?_
    refine W.eq (g2 := F0 m 358 ls [.int v_6, .int v_4, .int v_2, .ref h0]) (by rw [ev_6, show z_39 = z_5 from Int32.toInt_inj.mp (by omega)]) ?_
    refine lv_if_eq (tgt := 365) hx hb dL_law_358 (by decide) (fun c_40 => ?_) (fun c_40 => ?_)
    · exact absurd c_40 c_7
    · refine lv_iconst (v := 1) hx hb dL_law_361 (by decide) ?_
      refine lv_goto (tgt := 366) hx hb dL_law_362 (by decide) ?_
      refine lv_aload_n hx hb dL_law_366 rfl (lv_at hl 4 rfl) ?_
      refine lv_iload hx hb dL_law_367 (lv_at hl 0 rfl) ?_
      refine lv_iconst (v := 4) hx hb dL_law_369 (by decide) ?_
      refine lv_iadd hx hb dL_law_370 ?_
      refine lv_topi (fun z_41 ez_41 => ?_)
      have tz_41 : z_41.toInt = i.toInt + 4 := by rw [ez_41]; exact iv_addE hiv (iv_k (by decide) : iv 4 4 4) (by decide)
      refine va_sld hx hb hX hbl hbA hS (vp_in_iff.mpr ⟨by omega, by omega⟩) dL_law_371 ?_
      refine W.eq (g2 := F0 m 372 ls [.int v_28, .int 1, .int v_4, .int v_2, .ref h0]) (by rw [ev_28, show z_41 = z_27 from Int32.toInt_inj.mp (by omega)]) ?_
      refine lv_aload_n hx hb dL_law_372 rfl (lv_at hl 4 rfl) ?_
      refine lv_iload hx hb dL_law_373 (lv_at hl 0 rfl) ?_
      refine lv_iconst (v := 5) hx hb dL_law_375 (by decide) ?_
      refine lv_iadd hx hb dL_law_376 ?_
      refine lv_topi (fun z_42 ez_42 => ?_)
      have tz_42 : z_42.toInt = i.toInt + 5 := by rw [ez_42]; exact iv_addE hiv (iv_k (by decide) : iv 5 5 5) (by decide)
      refine va_sld hx hb hX hbl hbA hS (vp_in_iff.mpr ⟨by omega, by omega⟩) dL_law_377 ?_
      refine W.eq (g2 := F0 m 378 ls [.int v_30, .int v_28, .int 1, .int v_4, .int v_2, .ref h0]) (by rw [ev_30, show z_42 = z_29 from Int32.toInt_inj.mp (by omega)]) ?_
      refine lv_aload_n hx hb dL_law_378 rfl (lv_at hl 4 rfl) ?_
      refine lv_iload hx hb dL_law_379 (lv_at hl 0 rfl) ?_
      refine lv_bipush (v := 6) hx hb dL_law_381 (by decide) ?_
      refine lv_iadd hx hb dL_law_383 ?_
      refine lv_topi (fun z_43 ez_43 => ?_)
      have tz_43 : z_43.toInt = i.toInt + 6 := by rw [ez_43]; exact iv_addE hiv (iv_k (by decide) : iv 6 6 6) (by decide)
      refine va_sld hx hb hX hbl hbA hS (vp_in_iff.mpr ⟨by omega, by omega⟩) dL_law_384 ?_
      refine W.eq (g2 := F0 m 385 ls [.int v_32, .int v_30, .int v_28, .int 1, .int v_4, .int v_2, .ref h0]) (by rw [ev_32, show z_43 = z_31 from Int32.toInt_inj.mp (by omega)]) ?_
      refine lv_aload_n hx hb dL_law_385 rfl (lv_at hl 4 rfl) ?_
      refine lv_iload hx hb dL_law_386 (lv_at hl 0 rfl) ?_
      refine lv_bipush (v := 7) hx hb dL_law_388 (by decide) ?_
      refine lv_iadd hx hb dL_law_390 ?_
      refine lv_topi (fun z_44 ez_44 => ?_)
      have tz_44 : z_44.toInt = i.toInt + 7 := by rw [ez_44]; exact iv_addE hiv (iv_k (by decide) : iv 7 7 7) (by decide)
      refine va_sld hx hb hX hbl hbA hS (vp_in_iff.mpr ⟨by omega, by omega⟩) dL_law_391 ?_
      refine W.eq (g2 := F0 m 392 ls [.int v_34, .int v_32, .int v_30, .int v_28, .int 1, .int v_4, .int v_2, .ref h0]) (by rw [ev_34, show z_44 = z_33 from Int32.toInt_inj.mp (by omega)]) ?_
      refine lv_aload_n hx hb dL_law_392 rfl (lv_at hl 4 rfl) ?_
      refine lv_iload hx hb dL_law_393 (lv_at hl 0 rfl) ?_
      refine lv_bipush (v := 8) hx hb dL_law_395 (by decide) ?_
      refine lv_iadd hx hb dL_law_397 ?_
      refine lv_topi (fun z_45 ez_45 => ?_)
      have tz_45 : z_45.toInt = i.toInt + 8 := by rw [ez_45]; exact iv_addE hiv (iv_k (by decide) : iv 8 8 8) (by decide)
      refine va_sld hx hb hX hbl hbA hS (vp_in_iff.mpr ⟨by omega, by omega⟩) dL_law_398 ?_
      refine W.eq (g2 := F0 m 399 ls [.int v_36, .int v_34, .int v_32, .int v_30, .int v_28, .int 1, .int v_4, .int v_2, .ref h0]) (by rw [ev_36, show z_45 = z_35 from Int32.toInt_inj.mp (by omega)]) ?_
      refine lw_callM (w := cW ad cid a2 lx sg9 gm9 lg9) (tw := cT cid) (r := [(qo, oE cO f)]) (tr := [(cO, .long)]) (rest := []) (as := [.int v_2, .int v_4, .int 1, .int v_28, .int v_30, .int v_32, .int v_34, .int v_36]) ⟨hx, hb, hml, hown, htb⟩ (a_factory9 l dC dI h0 adm cidm sm gn ln v_2 v_4 1 v_28 v_30 v_32 v_34 v_36 hRI.1 (iv_w (iv_k (by decide) : iv 1 1 1) (by decide))) (cwV 8 htb (gd_V kw_1122 kw_1123 kw_1124 kw_160 kw_1573) rfl rfl rfl (by decide +kernel) ⟨Nat.le_of_ble_eq_true rfl, Nat.le_of_ble_eq_true rfl⟩) rfl hl.1 rfl (Nat.le_trans cs_n (by decide)) dL_law_399 ⟨(show 10000 + 3 * it + PHs gm ≤ 601024 from by have := PHs_le kI; omega), (show 400000 + 18 * it + 4 * PHs gm ≤ 7293034 from by have := PHs_le kI; omega)⟩ hK hP hD hS hA (fun r8 u8 H locs hw hP hD hS => ?_)
      obtain ⟨sm9, gn9, ln9, rfl, hI8, j1, j2, j3, hr8, gA⟩ := hw
      have hRI2 : RI sm9 gn9 ln9 := RI_of hRI hI8 (PR_k hRI.2.1 (j2 6 (by decide))) j1 j2 j3 (by decide) (by decide) (by decide) (by decide) (by decide) (by decide) (by decide) (by decide) (by decide) (by decide)
      have hP : va_P (dC, dI) vwCl (cW ad cid a2 lx sg9 gm9 lg9 ++ (mW h0 adm cidm sm9 gn9 ln9 ++ [(qo, oE cO f)])) H := hP
      have hD : va_D A (cW ad cid a2 lx sg9 gm9 lg9 ++ (mW h0 adm cidm sm9 gn9 ln9 ++ [(qo, oE cO f)])) := hD
      refine lv_pop hx hb dL_law_402 (cat_i _) ?_
      refine lv_goto (tgt := 773) hx hb dL_law_403 (by decide) ?_
      have hREL2 : REL sg9 gm9 lg9 sm9 gn9 ln9 := REL_k hREL (TXR_k h79.1 (k1 0 (by decide)) (k2 43 (by decide)) (j1 20 (by decide)) (j2 19 (by decide))) (R_fac hREL (fun q => ⟨(show v_2.toInt.toNat < 8 from (by have q1 := q.1; have q2 := q.2.1; omega)), q.2.2.1, TY_s q.2.2.2.2.2.2⟩) fA k2 gA j2) k1 k2 k3 j1 j2 j3 (by decide) (by decide) (by decide) (by decide)
      refine W.widen (k := 10000 + 3 * (it + 1) + PHs gm9) (n := 400000 + 18 * (it + 1) + 4 * PHs gm9) (show 10000 + 3 * it + PHs gm ≤ _ from by omega) (show 400000 + 18 * it + 4 * PHs gm ≤ _ from by omega) ?_
      exact kont a2 lx sg9 gm9 lg9 sm9 gn9 ln9 f _ _ _ hKI2 hRI2 hREL2 hP hD hS (lv_sub hl [0, 1, 2, 3, 4] rfl)

set_option maxHeartbeats 4000000 in
set_option maxRecDepth 100000 in
theorem d_law4 {p : Program} {l : Launch} {e : Env} {s : State} {m : MethodId} {below : List Frame} {meth : Method} {c : Code} {b L : Nat} {xs : Nat → Int32} {dC : Nat → ClassId} {dI : Nat → Nat → Nat} {ad : Nat → Nat → Nat} {cid : Nat → ClassId} {h0 : Nat} {adm : Nat → Nat} {cidm : Nat → ClassId} {cO : ClassId} {qo : Nat} {A : Nat → Prop} (hl9 : l.stackTraces = false) (C0 : lw_At p s m meth c b L xs) (hL : L ≤ 4608) (hA : ∀ q : Nat, s.heap.size ≤ q → A q) (hbA : ¬ A b) (hG : CE ad A s) (hN9 : NE s) (hK : va_K (dC, dI) vwCl (cT cid ++ (mT cidm ++ [(cO, .long)])) s) (it : Nat) (i : Int32) (hit : it ≤ 511) (hi : i.toInt = 9 * (it : Int)) (hiL : i.toInt + 9 ≤ (L : Int)) (a2 : Nat → Nat) (lx : List Nat) (sg : Nat → Int32) (gm : Nat → Nat → Int32) (lg : Nat → Nat → Int64) (sm : Nat → Int32) (gn : Nat → Nat → Int32) (ln : Nat → Nat → Int64) (f : Nat → Int64) (H : Heap) (locs : List Loc) (ls : Array Slot) (hKI : KI it lx sg gm lg) (hRI : RI sm gn ln) (hREL : REL sg gm lg sm gn ln) (hP : va_P (dC, dI) vwCl (cW ad cid a2 lx sg gm lg ++ (mW h0 adm cidm sm gn ln ++ [(qo, oE cO f)])) H) (hD : va_D A (cW ad cid a2 lx sg gm lg ++ (mW h0 adm cidm sm gn ln ++ [(qo, oE cO f)]))) (hS : va_S A s.heap H locs) (hl : lv_has ls 7 [(4, .int i), (3, .ref qo), (2, .ref h0), (1, eV (ad 0) 0), (0, .ref b)]) (kont : ∀ (a2 : Nat → Nat) (lx : List Nat) (sg : Nat → Int32) (gm : Nat → Nat → Int32) (lg : Nat → Nat → Int64) (sm : Nat → Int32) (gn : Nat → Nat → Int32) (ln : Nat → Nat → Int64) (f : Nat → Int64) (H : Heap) (locs : List Loc) (ls : Array Slot), KI (it + 1) lx sg gm lg → RI sm gn ln → REL sg gm lg sm gn ln → va_P (dC, dI) vwCl (cW ad cid a2 lx sg gm lg ++ (mW h0 adm cidm sm gn ln ++ [(qo, oE cO f)])) H → va_D A (cW ad cid a2 lx sg gm lg ++ (mW h0 adm cidm sm gn ln ++ [(qo, oE cO f)])) → va_S A s.heap H locs → lv_has ls 7 [(4, .int i), (3, .ref qo), (2, .ref h0), (1, eV (ad 0) 0), (0, .ref b)] → W p l e room_1 s m #[Value.ref b] below meth c H locs (10000 + 3 * (it + 1) + PHs gm) (400000 + 18 * (it + 1) + 4 * PHs gm) (lw_Z below #[Value.ref b] s) (F0 m 773 ls [])) : W p l e room_1 s m #[Value.ref b] below meth c H locs (10000 + 3 * it + PHs gm) (400000 + 18 * it + 4 * PHs gm) (lw_Z below #[Value.ref b] s) (F0 m 406 ls []) := by
  obtain ⟨hx, hb, hr, hml, hown, hts, hX, hbl, hlocks, hgv⟩ := C0
  have hown : s.vm.findClass RL = some m.cls := hown
  have htb := fun (w : Cond) (h : w ∈ tb) => hts w (tb_in w h)
  have kI := hKI.1
  have hiv : iv 0 4599 i := ⟨by omega, by omega⟩
  obtain ⟨h79, hX9, hN289, hDC9, S, hSS9⟩ := id hREL
  obtain ⟨hSV9, hBR9, hSB9⟩ := REL_q hDC9
  have hXs9 := CLX_st hX9
  refine ec_aload_n hx hb dL_law_406 rfl (lv_at hl 3 rfl) ?_
  refine lv_aload_n hx hb dL_law_407 rfl (lv_at hl 4 rfl) ?_
  refine lv_iload hx hb dL_law_408 (lv_at hl 0 rfl) ?_
  refine lv_iconst (v := 1) hx hb dL_law_410 (by decide) ?_
  refine lv_iadd hx hb dL_law_411 ?_
  refine lv_topi (fun z_1 ez_1 => ?_)
  have tz_1 : z_1.toInt = i.toInt + 1 := by rw [ez_1]; exact iv_addE hiv (iv_k (by decide) : iv 1 1 1) (by decide)
  refine va_sld hx hb hX hbl hbA hS (vp_in_iff.mpr ⟨by omega, by omega⟩) dL_law_412 ?_
  refine lv_topi (fun v_2 ev_2 => ?_)
  refine lv_aload_n hx hb dL_law_413 rfl (lv_at hl 4 rfl) ?_
  refine lv_iload hx hb dL_law_414 (lv_at hl 0 rfl) ?_
  refine lv_iconst (v := 2) hx hb dL_law_416 (by decide) ?_
  refine lv_iadd hx hb dL_law_417 ?_
  refine lv_topi (fun z_3 ez_3 => ?_)
  have tz_3 : z_3.toInt = i.toInt + 2 := by rw [ez_3]; exact iv_addE hiv (iv_k (by decide) : iv 2 2 2) (by decide)
  refine va_sld hx hb hX hbl hbA hS (vp_in_iff.mpr ⟨by omega, by omega⟩) dL_law_418 ?_
  refine lv_topi (fun v_4 ev_4 => ?_)
  refine lv_aload_n hx hb dL_law_419 rfl (lv_at hl 4 rfl) ?_
  refine lv_iload hx hb dL_law_420 (lv_at hl 0 rfl) ?_
  refine lv_iconst (v := 3) hx hb dL_law_422 (by decide) ?_
  refine lv_iadd hx hb dL_law_423 ?_
  refine lv_topi (fun z_5 ez_5 => ?_)
  have tz_5 : z_5.toInt = i.toInt + 3 := by rw [ez_5]; exact iv_addE hiv (iv_k (by decide) : iv 3 3 3) (by decide)
  refine va_sld hx hb hX hbl hbA hS (vp_in_iff.mpr ⟨by omega, by omega⟩) dL_law_424 ?_
  refine lv_topi (fun v_6 ev_6 => ?_)
  refine lv_aload_n hx hb dL_law_425 rfl (lv_at hl 4 rfl) ?_
  refine lv_iload hx hb dL_law_426 (lv_at hl 0 rfl) ?_
  refine lv_iconst (v := 4) hx hb dL_law_428 (by decide) ?_
  refine lv_iadd hx hb dL_law_429 ?_
  refine lv_topi (fun z_7 ez_7 => ?_)
  have tz_7 : z_7.toInt = i.toInt + 4 := by rw [ez_7]; exact iv_addE hiv (iv_k (by decide) : iv 4 4 4) (by decide)
  refine va_sld hx hb hX hbl hbA hS (vp_in_iff.mpr ⟨by omega, by omega⟩) dL_law_430 ?_
  refine lv_topi (fun v_8 ev_8 => ?_)
  refine lv_aload_n hx hb dL_law_431 rfl (lv_at hl 4 rfl) ?_
  refine lv_iload hx hb dL_law_432 (lv_at hl 0 rfl) ?_
  refine lv_iconst (v := 5) hx hb dL_law_434 (by decide) ?_
  refine lv_iadd hx hb dL_law_435 ?_
  refine lv_topi (fun z_9 ez_9 => ?_)
  have tz_9 : z_9.toInt = i.toInt + 5 := by rw [ez_9]; exact iv_addE hiv (iv_k (by decide) : iv 5 5 5) (by decide)
  refine va_sld hx hb hX hbl hbA hS (vp_in_iff.mpr ⟨by omega, by omega⟩) dL_law_436 ?_
  refine lv_topi (fun v_10 ev_10 => ?_)
  refine lw_callT (r := (mW h0 adm cidm sm gn ln ++ [(qo, oE cO f)])) (tr := mT cidm ++ [(cO, .long)]) (rest := []) (as := [.int v_2, .int v_4, .int v_6, .int v_8, .int v_10]) ⟨hx, hb, hml, hown, htb⟩ (d_type3 l dC dI ad cid a2 lx sg gm lg 0 v_2 v_4 v_6 v_8 v_10 kI (iv_k (by decide) : iv 0 0 0)) (cwV 5 htb (gd_V kw_467 kw_468 kw_469 kw_146 kw_1397) rfl rfl rfl (by decide +kernel) ⟨Nat.le_of_ble_eq_true rfl, Nat.le_of_ble_eq_true rfl⟩) (iv_k (by decide) : iv 0 0 0) rfl hl.1 rfl (Nat.le_trans cs_n (by decide)) dL_law_437 ⟨(show 10000 + 3 * it + PHs gm + 1 ≤ 601024 from by have := PHs_le kI; omega), (show 400000 + 18 * it + 4 * PHs gm + 6 ≤ 7293034 from by have := PHs_le kI; omega)⟩ hK hP hD hS hA hG (fun _ _ h9 => h9) (fun v9 u H locs hw hP hD hS => ?_)
  obtain ⟨r9, rfl, sg9, gm9, lg9, rfl, hI9, k1, k2, k3, hr9, fX, fK, fT⟩ := hw
  have hKI2 : KI (it + 1) lx sg9 gm9 lg9 := KI_of hKI hI9 k1 k2 k3 (by decide) (by decide) (by decide)
  have hph : PHs gm ≤ PHs gm9 := Nat.le_of_eq (PHs_e (k2 42 (by decide))).symm
  have hP : va_P (dC, dI) vwCl (cW ad cid a2 lx sg9 gm9 lg9 ++ (mW h0 adm cidm sm gn ln ++ [(qo, oE cO f)])) H := hP
  have hD : va_D A (cW ad cid a2 lx sg9 gm9 lg9 ++ (mW h0 adm cidm sm gn ln ++ [(qo, oE cO f)])) := hD
  refine W.eq (g2 := F0 m 440 ls [.int r9]) rfl ?_
  refine lv_pop hx hb dL_law_440 (cat_i _) ?_
  refine lv_aload_n hx hb dL_law_441 rfl (lv_at hl 2 rfl) ?_
  refine lv_aload_n hx hb dL_law_442 rfl (lv_at hl 4 rfl) ?_
  refine lv_iload hx hb dL_law_443 (lv_at hl 0 rfl) ?_
  refine lv_iconst (v := 1) hx hb dL_law_445 (by decide) ?_
  refine lv_iadd hx hb dL_law_446 ?_
  refine lv_topi (fun z_11 ez_11 => ?_)
  have tz_11 : z_11.toInt = i.toInt + 1 := by rw [ez_11]; exact iv_addE hiv (iv_k (by decide) : iv 1 1 1) (by decide)
  refine va_sld hx hb hX hbl hbA hS (vp_in_iff.mpr ⟨by omega, by omega⟩) dL_law_447 ?_
  refine W.eq (g2 := F0 m 448 ls [.int v_2, .ref h0]) (by rw [ev_2, show z_11 = z_1 from Int32.toInt_inj.mp (by omega)]) ?_
  refine lv_aload_n hx hb dL_law_448 rfl (lv_at hl 4 rfl) ?_
  refine lv_iload hx hb dL_law_449 (lv_at hl 0 rfl) ?_
  refine lv_iconst (v := 2) hx hb dL_law_451 (by decide) ?_
  refine lv_iadd hx hb dL_law_452 ?_
  refine lv_topi (fun z_12 ez_12 => ?_)
  have tz_12 : z_12.toInt = i.toInt + 2 := by rw [ez_12]; exact iv_addE hiv (iv_k (by decide) : iv 2 2 2) (by decide)
  refine va_sld hx hb hX hbl hbA hS (vp_in_iff.mpr ⟨by omega, by omega⟩) dL_law_453 ?_
  refine W.eq (g2 := F0 m 454 ls [.int v_4, .int v_2, .ref h0]) (by rw [ev_4, show z_12 = z_3 from Int32.toInt_inj.mp (by omega)]) ?_
  refine lv_aload_n hx hb dL_law_454 rfl (lv_at hl 4 rfl) ?_
  refine lv_iload hx hb dL_law_455 (lv_at hl 0 rfl) ?_
  refine lv_iconst (v := 3) hx hb dL_law_457 (by decide) ?_
  refine lv_iadd hx hb dL_law_458 ?_
  refine lv_topi (fun z_13 ez_13 => ?_)
  have tz_13 : z_13.toInt = i.toInt + 3 := by rw [ez_13]; exact iv_addE hiv (iv_k (by decide) : iv 3 3 3) (by decide)
  refine va_sld hx hb hX hbl hbA hS (vp_in_iff.mpr ⟨by omega, by omega⟩) dL_law_459 ?_
  refine W.eq (g2 := F0 m 460 ls [.int v_6, .int v_4, .int v_2, .ref h0]) (by rw [ev_6, show z_13 = z_5 from Int32.toInt_inj.mp (by omega)]) ?_
  refine lv_aload_n hx hb dL_law_460 rfl (lv_at hl 4 rfl) ?_
  refine lv_iload hx hb dL_law_461 (lv_at hl 0 rfl) ?_
  refine lv_iconst (v := 4) hx hb dL_law_463 (by decide) ?_
  refine lv_iadd hx hb dL_law_464 ?_
  refine lv_topi (fun z_14 ez_14 => ?_)
  have tz_14 : z_14.toInt = i.toInt + 4 := by rw [ez_14]; exact iv_addE hiv (iv_k (by decide) : iv 4 4 4) (by decide)
  refine va_sld hx hb hX hbl hbA hS (vp_in_iff.mpr ⟨by omega, by omega⟩) dL_law_465 ?_
  refine W.eq (g2 := F0 m 466 ls [.int v_8, .int v_6, .int v_4, .int v_2, .ref h0]) (by rw [ev_8, show z_14 = z_7 from Int32.toInt_inj.mp (by omega)]) ?_
  refine lv_aload_n hx hb dL_law_466 rfl (lv_at hl 4 rfl) ?_
  refine lv_iload hx hb dL_law_467 (lv_at hl 0 rfl) ?_
  refine lv_iconst (v := 5) hx hb dL_law_469 (by decide) ?_
  refine lv_iadd hx hb dL_law_470 ?_
  refine lv_topi (fun z_15 ez_15 => ?_)
  have tz_15 : z_15.toInt = i.toInt + 5 := by rw [ez_15]; exact iv_addE hiv (iv_k (by decide) : iv 5 5 5) (by decide)
  refine va_sld hx hb hX hbl hbA hS (vp_in_iff.mpr ⟨by omega, by omega⟩) dL_law_471 ?_
  refine W.eq (g2 := F0 m 472 ls [.int v_10, .int v_8, .int v_6, .int v_4, .int v_2, .ref h0]) (by rw [ev_10, show z_15 = z_9 from Int32.toInt_inj.mp (by omega)]) ?_
  refine lw_callM (w := cW ad cid a2 lx sg9 gm9 lg9) (tw := cT cid) (r := [(qo, oE cO f)]) (tr := [(cO, .long)]) (rest := []) (as := [.int v_2, .int v_4, .int v_6, .int v_8, .int v_10]) ⟨hx, hb, hml, hown, htb⟩ (a_type3 l dC dI h0 adm cidm sm gn ln v_2 v_4 v_6 v_8 v_10 hRI.1) (cwV 5 htb (gd_V kw_1125 kw_1126 kw_1127 kw_160 kw_1574) rfl rfl rfl (by decide +kernel) ⟨Nat.le_of_ble_eq_true rfl, Nat.le_of_ble_eq_true rfl⟩) rfl hl.1 rfl (Nat.le_trans cs_n (by decide)) dL_law_472 ⟨(show 10000 + 3 * it + PHs gm ≤ 601024 from by have := PHs_le kI; omega), (show 400000 + 18 * it + 4 * PHs gm ≤ 7293034 from by have := PHs_le kI; omega)⟩ hK hP hD hS hA (fun r8 u8 H locs hw hP hD hS => ?_)
  obtain ⟨sm9, gn9, ln9, rfl, hI8, j1, j2, j3, gX, gT⟩ := hw
  have hRI2 : RI sm9 gn9 ln9 := RI_of hRI hI8 (PR_k hRI.2.1 (j2 6 (by decide))) j1 j2 j3 (by decide) (by decide) (by decide) (by decide) (by decide) (by decide) (by decide) (by decide) (by decide) (by decide)
  have hP : va_P (dC, dI) vwCl (cW ad cid a2 lx sg9 gm9 lg9 ++ (mW h0 adm cidm sm9 gn9 ln9 ++ [(qo, oE cO f)])) H := hP
  have hD : va_D A (cW ad cid a2 lx sg9 gm9 lg9 ++ (mW h0 adm cidm sm9 gn9 ln9 ++ [(qo, oE cO f)])) := hD
  refine lv_pop hx hb dL_law_475 (cat_i _) ?_
  refine lv_goto (tgt := 773) hx hb dL_law_476 (by decide) ?_
  have hREL2 : REL sg9 gm9 lg9 sm9 gn9 ln9 := REL_k hREL (TXR_t h79.1 (show iv 0 1200 (sg 0) from CI_s kI 0).1 fT gT fX fK gX) (CLX_k hX9 k2 j2 (by decide) (by decide)) k1 k2 k3 j1 j2 j3 (by decide) (by decide) (by decide) (by decide)
  refine W.widen (k := 10000 + 3 * (it + 1) + PHs gm9) (n := 400000 + 18 * (it + 1) + 4 * PHs gm9) (show 10000 + 3 * it + PHs gm ≤ _ from by omega) (show 400000 + 18 * it + 4 * PHs gm ≤ _ from by omega) ?_
  exact kont a2 lx sg9 gm9 lg9 sm9 gn9 ln9 f _ _ _ hKI2 hRI2 hREL2 hP hD hS (lv_sub hl [0, 1, 2, 3, 4] rfl)
end
section
set_option maxHeartbeats 4000000 in
set_option maxRecDepth 100000 in
theorem d_law5 {p : Program} {l : Launch} {e : Env} {s : State} {m : MethodId} {below : List Frame} {meth : Method} {c : Code} {b L : Nat} {xs : Nat → Int32} {dC : Nat → ClassId} {dI : Nat → Nat → Nat} {ad : Nat → Nat → Nat} {cid : Nat → ClassId} {h0 : Nat} {adm : Nat → Nat} {cidm : Nat → ClassId} {cO : ClassId} {qo : Nat} {A : Nat → Prop} (hl9 : l.stackTraces = false) (C0 : lw_At p s m meth c b L xs) (hL : L ≤ 4608) (hA : ∀ q : Nat, s.heap.size ≤ q → A q) (hbA : ¬ A b) (hG : CE ad A s) (hN9 : NE s) (hK : va_K (dC, dI) vwCl (cT cid ++ (mT cidm ++ [(cO, .long)])) s) (it : Nat) (i : Int32) (hit : it ≤ 511) (hi : i.toInt = 9 * (it : Int)) (hiL : i.toInt + 9 ≤ (L : Int)) (a2 : Nat → Nat) (lx : List Nat) (sg : Nat → Int32) (gm : Nat → Nat → Int32) (lg : Nat → Nat → Int64) (sm : Nat → Int32) (gn : Nat → Nat → Int32) (ln : Nat → Nat → Int64) (f : Nat → Int64) (H : Heap) (locs : List Loc) (ls : Array Slot) (hKI : KI it lx sg gm lg) (hRI : RI sm gn ln) (hREL : REL sg gm lg sm gn ln) (hP : va_P (dC, dI) vwCl (cW ad cid a2 lx sg gm lg ++ (mW h0 adm cidm sm gn ln ++ [(qo, oE cO f)])) H) (hD : va_D A (cW ad cid a2 lx sg gm lg ++ (mW h0 adm cidm sm gn ln ++ [(qo, oE cO f)]))) (hS : va_S A s.heap H locs) (hl : lv_has ls 7 [(4, .int i), (3, .ref qo), (2, .ref h0), (1, eV (ad 0) 0), (0, .ref b)]) (kont : ∀ (a2 : Nat → Nat) (lx : List Nat) (sg : Nat → Int32) (gm : Nat → Nat → Int32) (lg : Nat → Nat → Int64) (sm : Nat → Int32) (gn : Nat → Nat → Int32) (ln : Nat → Nat → Int64) (f : Nat → Int64) (H : Heap) (locs : List Loc) (ls : Array Slot), KI (it + 1) lx sg gm lg → RI sm gn ln → REL sg gm lg sm gn ln → va_P (dC, dI) vwCl (cW ad cid a2 lx sg gm lg ++ (mW h0 adm cidm sm gn ln ++ [(qo, oE cO f)])) H → va_D A (cW ad cid a2 lx sg gm lg ++ (mW h0 adm cidm sm gn ln ++ [(qo, oE cO f)])) → va_S A s.heap H locs → lv_has ls 7 [(4, .int i), (3, .ref qo), (2, .ref h0), (1, eV (ad 0) 0), (0, .ref b)] → W p l e room_1 s m #[Value.ref b] below meth c H locs (10000 + 3 * (it + 1) + PHs gm) (400000 + 18 * (it + 1) + 4 * PHs gm) (lw_Z below #[Value.ref b] s) (F0 m 773 ls [])) : W p l e room_1 s m #[Value.ref b] below meth c H locs (10000 + 3 * it + PHs gm) (400000 + 18 * it + 4 * PHs gm) (lw_Z below #[Value.ref b] s) (F0 m 479 ls []) := by
  obtain ⟨hx, hb, hr, hml, hown, hts, hX, hbl, hlocks, hgv⟩ := C0
  have hown : s.vm.findClass RL = some m.cls := hown
  have htb := fun (w : Cond) (h : w ∈ tb) => hts w (tb_in w h)
  have kI := hKI.1
  have hiv : iv 0 4599 i := ⟨by omega, by omega⟩
  obtain ⟨h79, hX9, hN289, hDC9, S, hSS9⟩ := id hREL
  obtain ⟨hSV9, hBR9, hSB9⟩ := REL_q hDC9
  have hXs9 := CLX_st hX9
  refine ec_aload_n hx hb dL_law_479 rfl (lv_at hl 3 rfl) ?_
  refine lv_aload_n hx hb dL_law_480 rfl (lv_at hl 1 rfl) ?_
  refine lw_callH (rest := []) (as := [eV (ad 0) 0, .ref qo]) ⟨hx, hb, hml, hown, htb⟩ (d_hread l hl9 dC dI ad cid cO qo a2 lx sg gm lg f it hKI (by omega) (chT sm gn) (sm 20).toInt.toNat (chT_c h79.1 (show iv 0 1200 (sm 20) from MI_s hRI.1 20).1) (chT_p h79.1)) (vx_cwSW 2 htb (gd_S kw_532 kw_533 kw_145 kw_1419) rfl rfl rfl (by decide +kernel) ⟨Nat.le_of_ble_eq_true rfl, Nat.le_of_ble_eq_true rfl⟩) rfl hl.1 rfl (Nat.le_trans cs_n (by decide)) dL_law_481 ⟨(show 10000 + 3 * it + PHs gm + 304803 ≤ 601024 from by have := PHs_le kI; omega), (show 400000 + 18 * it + 4 * PHs gm + 1219339 ≤ 7293034 from by have := PHs_le kI; omega)⟩ hK hP hD hS hA hG hN9 (fun r9 u f9 H locs hw hmu hP hD hS => ?_)
  obtain ⟨a29, lx9, sg9, gm9, lg9⟩ := u
  obtain ⟨hKI2, hI9, k2, x9, hx9, hH9⟩ := hw
  have hKI2 : KI (it + 1) lx9 sg9 gm9 lg9 := hKI2
  have kI2 := hKI2.1
  have hph : PHs gm ≤ PHs gm9 := hmu
  have hP : va_P (dC, dI) vwCl (cW ad cid a29 lx9 sg9 gm9 lg9 ++ (mW h0 adm cidm sm gn ln ++ [(qo, oE cO f9)])) H := hP
  have hD : va_D A (cW ad cid a29 lx9 sg9 gm9 lg9 ++ (mW h0 adm cidm sm gn ln ++ [(qo, oE cO f9)])) := hD
  refine lv_istore (lv' := [(5, .int r9), (4, .int i), (3, .ref qo), (2, .ref h0), (1, eV (ad 0) 0), (0, .ref b)]) hx hb dL_law_484 hl (by decide) (by simp [List.filter, eV_cat, cat_i, cat_l, cat_r]) (fun ls hl => ?_)
  refine lv_aload_n hx hb dL_law_486 rfl (lv_at hl 3 rfl) ?_
  refine lw_callM (w := cW ad cid a29 lx9 sg9 gm9 lg9) (tw := cT cid) (r := [(qo, oE cO f9)]) (tr := [(cO, .long)]) (rest := []) (as := []) ⟨hx, hb, hml, hown, htb⟩ (f_read9 l dC dI h0 adm cidm sm gn ln (chT sm gn) (sm 20).toInt.toNat hRI.1 (chT_r (show iv 0 1200 (sm 20) from MI_s hRI.1 20).1) h79.2.1 h79.2.2 (chT_p h79.1)) (cwV 0 htb (gd_V kw_1128 kw_1129 kw_1130 kw_160 kw_1575) rfl rfl rfl (by decide +kernel) ⟨Nat.le_of_ble_eq_true rfl, Nat.le_of_ble_eq_true rfl⟩) rfl hl.1 rfl (Nat.le_trans cs_n (by decide)) dL_law_487 ⟨(show 10000 + 3 * it + PHs gm + gc gm gm9 2 ≤ 601024 from by have := PHs_le kI2; have := PHs_le kI; have q9 := gc_l0 (gm := gm) (k := 2) kI2; omega), (show 400000 + 18 * it + 4 * PHs gm + gs gm gm9 2 ≤ 7293034 from by have := PHs_le kI2; have := PHs_le kI; have q9 := gs_l0 (gm := gm) (k := 2) kI2; omega)⟩ hK hP hD hS hA (fun r8 u8 H locs hw hP hD hS => ?_)
  obtain ⟨sm9, gn9, ln9, rfl, hI8, j1, j2, j3, g48, g49, g40, gZ, gR, gXX, gdoc, gclr⟩ := hw
  have hRI2 : RI sm9 gn9 ln9 := RI_rd hRI hI8 j2 gdoc gclr (by decide) (by decide) (by decide) (by decide) (by decide)
  have hP : va_P (dC, dI) vwCl (cW ad cid a29 lx9 sg9 gm9 lg9 ++ (mW h0 adm cidm sm9 gn9 ln9 ++ [(qo, oE cO f9)])) H := hP
  have hD : va_D A (cW ad cid a29 lx9 sg9 gm9 lg9 ++ (mW h0 adm cidm sm9 gn9 ln9 ++ [(qo, oE cO f9)])) := hD
  have hQ9 := R_read hREL hI9 k2 hH9 hI8 j2 j3 g48 g49 g40 gZ gR gXX gdoc gclr (chT_p h79.1) (show (sm 20).toInt.toNat ≤ 1200 from by have q9 := (show iv 0 1200 (sm 20) from MI_s hRI.1 20).2; omega) (CHR_n (chT_r (show iv 0 1200 (sm 20) from MI_s hRI.1 20).1))
  refine lv_istore (lv' := [(6, .int r8), (5, .int r9), (4, .int i), (3, .ref qo), (2, .ref h0), (1, eV (ad 0) 0), (0, .ref b)]) hx hb dL_law_490 hl (by decide) (by simp [List.filter, eV_cat, cat_i, cat_l, cat_r]) (fun ls hl => ?_)
  refine lv_goto (tgt := 773) hx hb dL_law_492 (by decide) ?_
  have hREL2 : REL sg9 gm9 lg9 sm9 gn9 ln9 := hQ9.1
  refine W.widen (k := 10000 + 3 * (it + 1) + PHs gm9) (n := 400000 + 18 * (it + 1) + 4 * PHs gm9) (show 10000 + 3 * it + PHs gm + gc gm gm9 2 ≤ _ from by unfold gc PH; omega) (show 400000 + 18 * it + 4 * PHs gm + gs gm gm9 2 ≤ _ from by unfold gs PH; omega) ?_
  exact kont a29 lx9 sg9 gm9 lg9 sm9 gn9 ln9 f9 _ _ _ hKI2 hRI2 hREL2 hP hD hS (lv_sub hl [2, 3, 4, 5, 6] rfl)

set_option maxHeartbeats 4000000 in
set_option maxRecDepth 100000 in
theorem d_law6 {p : Program} {l : Launch} {e : Env} {s : State} {m : MethodId} {below : List Frame} {meth : Method} {c : Code} {b L : Nat} {xs : Nat → Int32} {dC : Nat → ClassId} {dI : Nat → Nat → Nat} {ad : Nat → Nat → Nat} {cid : Nat → ClassId} {h0 : Nat} {adm : Nat → Nat} {cidm : Nat → ClassId} {cO : ClassId} {qo : Nat} {A : Nat → Prop} (hl9 : l.stackTraces = false) (C0 : lw_At p s m meth c b L xs) (hL : L ≤ 4608) (hA : ∀ q : Nat, s.heap.size ≤ q → A q) (hbA : ¬ A b) (hG : CE ad A s) (hN9 : NE s) (hK : va_K (dC, dI) vwCl (cT cid ++ (mT cidm ++ [(cO, .long)])) s) (it : Nat) (i : Int32) (hit : it ≤ 511) (hi : i.toInt = 9 * (it : Int)) (hiL : i.toInt + 9 ≤ (L : Int)) (a2 : Nat → Nat) (lx : List Nat) (sg : Nat → Int32) (gm : Nat → Nat → Int32) (lg : Nat → Nat → Int64) (sm : Nat → Int32) (gn : Nat → Nat → Int32) (ln : Nat → Nat → Int64) (f : Nat → Int64) (H : Heap) (locs : List Loc) (ls : Array Slot) (hKI : KI it lx sg gm lg) (hRI : RI sm gn ln) (hREL : REL sg gm lg sm gn ln) (hP : va_P (dC, dI) vwCl (cW ad cid a2 lx sg gm lg ++ (mW h0 adm cidm sm gn ln ++ [(qo, oE cO f)])) H) (hD : va_D A (cW ad cid a2 lx sg gm lg ++ (mW h0 adm cidm sm gn ln ++ [(qo, oE cO f)]))) (hS : va_S A s.heap H locs) (hl : lv_has ls 7 [(4, .int i), (3, .ref qo), (2, .ref h0), (1, eV (ad 0) 0), (0, .ref b)]) (kont : ∀ (a2 : Nat → Nat) (lx : List Nat) (sg : Nat → Int32) (gm : Nat → Nat → Int32) (lg : Nat → Nat → Int64) (sm : Nat → Int32) (gn : Nat → Nat → Int32) (ln : Nat → Nat → Int64) (f : Nat → Int64) (H : Heap) (locs : List Loc) (ls : Array Slot), KI (it + 1) lx sg gm lg → RI sm gn ln → REL sg gm lg sm gn ln → va_P (dC, dI) vwCl (cW ad cid a2 lx sg gm lg ++ (mW h0 adm cidm sm gn ln ++ [(qo, oE cO f)])) H → va_D A (cW ad cid a2 lx sg gm lg ++ (mW h0 adm cidm sm gn ln ++ [(qo, oE cO f)])) → va_S A s.heap H locs → lv_has ls 7 [(4, .int i), (3, .ref qo), (2, .ref h0), (1, eV (ad 0) 0), (0, .ref b)] → W p l e room_1 s m #[Value.ref b] below meth c H locs (10000 + 3 * (it + 1) + PHs gm) (400000 + 18 * (it + 1) + 4 * PHs gm) (lw_Z below #[Value.ref b] s) (F0 m 773 ls [])) : W p l e room_1 s m #[Value.ref b] below meth c H locs (10000 + 3 * it + PHs gm) (400000 + 18 * it + 4 * PHs gm) (lw_Z below #[Value.ref b] s) (F0 m 495 ls []) := by
  obtain ⟨hx, hb, hr, hml, hown, hts, hX, hbl, hlocks, hgv⟩ := C0
  have hown : s.vm.findClass RL = some m.cls := hown
  have htb := fun (w : Cond) (h : w ∈ tb) => hts w (tb_in w h)
  have kI := hKI.1
  have hiv : iv 0 4599 i := ⟨by omega, by omega⟩
  obtain ⟨h79, hX9, hN289, hDC9, S, hSS9⟩ := id hREL
  obtain ⟨hSV9, hBR9, hSB9⟩ := REL_q hDC9
  have hXs9 := CLX_st hX9
  refine ec_aload_n hx hb dL_law_495 rfl (lv_at hl 3 rfl) ?_
  refine lv_aload_n hx hb dL_law_496 rfl (lv_at hl 4 rfl) ?_
  refine lv_iload hx hb dL_law_497 (lv_at hl 0 rfl) ?_
  refine lv_iconst (v := 1) hx hb dL_law_499 (by decide) ?_
  refine lv_iadd hx hb dL_law_500 ?_
  refine lv_topi (fun z_1 ez_1 => ?_)
  have tz_1 : z_1.toInt = i.toInt + 1 := by rw [ez_1]; exact iv_addE hiv (iv_k (by decide) : iv 1 1 1) (by decide)
  refine va_sld hx hb hX hbl hbA hS (vp_in_iff.mpr ⟨by omega, by omega⟩) dL_law_501 ?_
  refine lv_topi (fun v_2 ev_2 => ?_)
  refine lw_callT (r := (mW h0 adm cidm sm gn ln ++ [(qo, oE cO f)])) (tr := mT cidm ++ [(cO, .long)]) (rest := []) (as := [.int v_2]) ⟨hx, hb, hml, hown, htb⟩ (d_fault l dC dI ad cid a2 lx sg gm lg 0 v_2 kI (iv_k (by decide) : iv 0 0 0)) (cwV 1 htb (gd_V kw_472 kw_473 kw_474 kw_146 kw_1399) rfl rfl rfl (by decide +kernel) ⟨Nat.le_of_ble_eq_true rfl, Nat.le_of_ble_eq_true rfl⟩) (iv_k (by decide) : iv 0 0 0) rfl hl.1 rfl (Nat.le_trans cs_n (by decide)) dL_law_502 ⟨(show 10000 + 3 * it + PHs gm + 1 ≤ 601024 from by have := PHs_le kI; omega), (show 400000 + 18 * it + 4 * PHs gm + 6 ≤ 7293034 from by have := PHs_le kI; omega)⟩ hK hP hD hS hA hG (fun _ _ h9 => h9) (fun v9 u H locs hw hP hD hS => ?_)
  obtain ⟨r9, rfl, rfl, hr9⟩ := hw
  have hKI2 : KI (it + 1) lx sg gm lg := KI_of (Ls := []) (Lg := []) (Ll := []) hKI kI KS_rf KS_rf KS_rf (by decide) (by decide) (by decide)
  have hph : PHs gm ≤ PHs gm := Nat.le_refl _
  have hP : va_P (dC, dI) vwCl (cW ad cid a2 lx sg gm lg ++ (mW h0 adm cidm sm gn ln ++ [(qo, oE cO f)])) H := hP
  have hD : va_D A (cW ad cid a2 lx sg gm lg ++ (mW h0 adm cidm sm gn ln ++ [(qo, oE cO f)])) := hD
  refine W.eq (g2 := F0 m 505 ls [.int r9]) rfl ?_
  refine lv_pop hx hb dL_law_505 (cat_i _) ?_
  refine lv_aload_n hx hb dL_law_506 rfl (lv_at hl 2 rfl) ?_
  refine lv_aload_n hx hb dL_law_507 rfl (lv_at hl 4 rfl) ?_
  refine lv_iload hx hb dL_law_508 (lv_at hl 0 rfl) ?_
  refine lv_iconst (v := 1) hx hb dL_law_510 (by decide) ?_
  refine lv_iadd hx hb dL_law_511 ?_
  refine lv_topi (fun z_3 ez_3 => ?_)
  have tz_3 : z_3.toInt = i.toInt + 1 := by rw [ez_3]; exact iv_addE hiv (iv_k (by decide) : iv 1 1 1) (by decide)
  refine va_sld hx hb hX hbl hbA hS (vp_in_iff.mpr ⟨by omega, by omega⟩) dL_law_512 ?_
  refine W.eq (g2 := F0 m 513 ls [.int v_2, .ref h0]) (by rw [ev_2, show z_3 = z_1 from Int32.toInt_inj.mp (by omega)]) ?_
  refine lw_callM (w := cW ad cid a2 lx sg gm lg) (tw := cT cid) (r := [(qo, oE cO f)]) (tr := [(cO, .long)]) (rest := []) (as := [.int v_2]) ⟨hx, hb, hml, hown, htb⟩ (a_fault l dC dI h0 adm cidm sm gn ln v_2 hRI.1) (cwV 1 htb (gd_V kw_1235 kw_1236 kw_1237 kw_160 kw_1617) rfl rfl rfl (by decide +kernel) ⟨Nat.le_of_ble_eq_true rfl, Nat.le_of_ble_eq_true rfl⟩) rfl hl.1 rfl (Nat.le_trans cs_n (by decide)) dL_law_513 ⟨(show 10000 + 3 * it + PHs gm ≤ 601024 from by have := PHs_le kI; omega), (show 400000 + 18 * it + 4 * PHs gm ≤ 7293034 from by have := PHs_le kI; omega)⟩ hK hP hD hS hA (fun r8 u8 H locs hw hP hD hS => ?_)
  obtain ⟨sm9, gn9, ln9, rfl, hI8, j1, j2, j3⟩ := hw
  have hRI2 : RI sm9 gn9 ln9 := RI_of hRI hI8 (PR_k hRI.2.1 (j2 6 (by decide))) j1 j2 j3 (by decide) (by decide) (by decide) (by decide) (by decide) (by decide) (by decide) (by decide) (by decide) (by decide)
  have hP : va_P (dC, dI) vwCl (cW ad cid a2 lx sg gm lg ++ (mW h0 adm cidm sm9 gn9 ln9 ++ [(qo, oE cO f)])) H := hP
  have hD : va_D A (cW ad cid a2 lx sg gm lg ++ (mW h0 adm cidm sm9 gn9 ln9 ++ [(qo, oE cO f)])) := hD
  refine lv_pop hx hb dL_law_516 (cat_i _) ?_
  refine lv_goto (tgt := 773) hx hb dL_law_517 (by decide) ?_
  have hREL2 : REL sg gm lg sm9 gn9 ln9 := REL_k hREL (TXR_k h79.1 ((KS_rf (L := []) (f := sg)) 0 (by decide)) ((KS_rf (L := []) (f := gm)) 43 (by decide)) (j1 20 (by decide)) (j2 19 (by decide))) (CLX_k hX9 (KS_rf (L := [])) j2 (by decide) (by decide)) (KS_rf (L := [])) (KS_rf (L := [])) (KS_rf (L := [])) j1 j2 j3 (by decide) (by decide) (by decide) (by decide)
  refine W.widen (k := 10000 + 3 * (it + 1) + PHs gm) (n := 400000 + 18 * (it + 1) + 4 * PHs gm) (show 10000 + 3 * it + PHs gm ≤ _ from by omega) (show 400000 + 18 * it + 4 * PHs gm ≤ _ from by omega) ?_
  exact kont a2 lx sg gm lg sm9 gn9 ln9 f _ _ _ hKI2 hRI2 hREL2 hP hD hS (lv_sub hl [0, 1, 2, 3, 4] rfl)

set_option maxHeartbeats 4000000 in
set_option maxRecDepth 100000 in
theorem d_law7 {p : Program} {l : Launch} {e : Env} {s : State} {m : MethodId} {below : List Frame} {meth : Method} {c : Code} {b L : Nat} {xs : Nat → Int32} {dC : Nat → ClassId} {dI : Nat → Nat → Nat} {ad : Nat → Nat → Nat} {cid : Nat → ClassId} {h0 : Nat} {adm : Nat → Nat} {cidm : Nat → ClassId} {cO : ClassId} {qo : Nat} {A : Nat → Prop} (hl9 : l.stackTraces = false) (C0 : lw_At p s m meth c b L xs) (hL : L ≤ 4608) (hA : ∀ q : Nat, s.heap.size ≤ q → A q) (hbA : ¬ A b) (hG : CE ad A s) (hN9 : NE s) (hK : va_K (dC, dI) vwCl (cT cid ++ (mT cidm ++ [(cO, .long)])) s) (it : Nat) (i : Int32) (hit : it ≤ 511) (hi : i.toInt = 9 * (it : Int)) (hiL : i.toInt + 9 ≤ (L : Int)) (a2 : Nat → Nat) (lx : List Nat) (sg : Nat → Int32) (gm : Nat → Nat → Int32) (lg : Nat → Nat → Int64) (sm : Nat → Int32) (gn : Nat → Nat → Int32) (ln : Nat → Nat → Int64) (f : Nat → Int64) (H : Heap) (locs : List Loc) (ls : Array Slot) (hKI : KI it lx sg gm lg) (hRI : RI sm gn ln) (hREL : REL sg gm lg sm gn ln) (hP : va_P (dC, dI) vwCl (cW ad cid a2 lx sg gm lg ++ (mW h0 adm cidm sm gn ln ++ [(qo, oE cO f)])) H) (hD : va_D A (cW ad cid a2 lx sg gm lg ++ (mW h0 adm cidm sm gn ln ++ [(qo, oE cO f)]))) (hS : va_S A s.heap H locs) (hl : lv_has ls 7 [(4, .int i), (3, .ref qo), (2, .ref h0), (1, eV (ad 0) 0), (0, .ref b)]) (kont : ∀ (a2 : Nat → Nat) (lx : List Nat) (sg : Nat → Int32) (gm : Nat → Nat → Int32) (lg : Nat → Nat → Int64) (sm : Nat → Int32) (gn : Nat → Nat → Int32) (ln : Nat → Nat → Int64) (f : Nat → Int64) (H : Heap) (locs : List Loc) (ls : Array Slot), KI (it + 1) lx sg gm lg → RI sm gn ln → REL sg gm lg sm gn ln → va_P (dC, dI) vwCl (cW ad cid a2 lx sg gm lg ++ (mW h0 adm cidm sm gn ln ++ [(qo, oE cO f)])) H → va_D A (cW ad cid a2 lx sg gm lg ++ (mW h0 adm cidm sm gn ln ++ [(qo, oE cO f)])) → va_S A s.heap H locs → lv_has ls 7 [(4, .int i), (3, .ref qo), (2, .ref h0), (1, eV (ad 0) 0), (0, .ref b)] → W p l e room_1 s m #[Value.ref b] below meth c H locs (10000 + 3 * (it + 1) + PHs gm) (400000 + 18 * (it + 1) + 4 * PHs gm) (lw_Z below #[Value.ref b] s) (F0 m 773 ls [])) : W p l e room_1 s m #[Value.ref b] below meth c H locs (10000 + 3 * it + PHs gm) (400000 + 18 * it + 4 * PHs gm) (lw_Z below #[Value.ref b] s) (F0 m 520 ls []) := by
  obtain ⟨hx, hb, hr, hml, hown, hts, hX, hbl, hlocks, hgv⟩ := C0
  have hown : s.vm.findClass RL = some m.cls := hown
  have htb := fun (w : Cond) (h : w ∈ tb) => hts w (tb_in w h)
  have kI := hKI.1
  have hiv : iv 0 4599 i := ⟨by omega, by omega⟩
  obtain ⟨h79, hX9, hN289, hDC9, S, hSS9⟩ := id hREL
  obtain ⟨hSV9, hBR9, hSB9⟩ := REL_q hDC9
  have hXs9 := CLX_st hX9
  refine ec_aload_n hx hb dL_law_520 rfl (lv_at hl 3 rfl) ?_
  refine lv_aload_n hx hb dL_law_521 rfl (lv_at hl 1 rfl) ?_
  refine lw_callH (rest := []) (as := [eV (ad 0) 0, .ref qo]) ⟨hx, hb, hml, hown, htb⟩ (d_hrefresh l hl9 dC dI ad cid cO qo a2 lx sg gm lg f it hKI (by omega) S hSV9 hSS9.1) (vx_cwSW 2 htb (gd_S kw_876 kw_877 kw_145 kw_1523) rfl rfl rfl (by decide +kernel) ⟨Nat.le_of_ble_eq_true rfl, Nat.le_of_ble_eq_true rfl⟩) rfl hl.1 rfl (Nat.le_trans cs_n (by decide)) dL_law_522 ⟨(show 10000 + 3 * it + PHs gm + 60963 ≤ 601024 from by have := PHs_le kI; omega), (show 400000 + 18 * it + 4 * PHs gm + 243858 ≤ 7293034 from by have := PHs_le kI; omega)⟩ hK hP hD hS hA hG hN9 (fun r9 u f9 H locs hw hmu hP hD hS => ?_)
  obtain ⟨a29, lx9, sg9, gm9, lg9⟩ := u
  obtain ⟨hKI2, k1, k2, k3, x9, hx9, hH9⟩ := hw
  have hKI2 : KI (it + 1) lx9 sg9 gm9 lg9 := hKI2
  have k3 : KS [] lg lg9 := k3
  have kI2 := hKI2.1
  have hph : PHs gm ≤ PHs gm9 := hmu
  have hP : va_P (dC, dI) vwCl (cW ad cid a29 lx9 sg9 gm9 lg9 ++ (mW h0 adm cidm sm gn ln ++ [(qo, oE cO f9)])) H := hP
  have hD : va_D A (cW ad cid a29 lx9 sg9 gm9 lg9 ++ (mW h0 adm cidm sm gn ln ++ [(qo, oE cO f9)])) := hD
  refine lv_istore (lv' := [(5, .int r9), (4, .int i), (3, .ref qo), (2, .ref h0), (1, eV (ad 0) 0), (0, .ref b)]) hx hb dL_law_525 hl (by decide) (by simp [List.filter, eV_cat, cat_i, cat_l, cat_r]) (fun ls hl => ?_)
  refine lv_aload_n hx hb dL_law_527 rfl (lv_at hl 3 rfl) ?_
  refine lw_callM (w := cW ad cid a29 lx9 sg9 gm9 lg9) (tw := cT cid) (r := [(qo, oE cO f9)]) (tr := [(cO, .long)]) (rest := []) (as := []) ⟨hx, hb, hml, hown, htb⟩ (f_refresh9 l dC dI h0 adm cidm sm gn ln (ss9 sg) (st9 gm) lg (rs9 sm) (rt9 gn) S hRI.1 hRI.2.2.1 hRI.2.1 hRI.2.2.2.1 hRI.2.2.2.2 rfl rfl hBR9 hXs9.1 hSS9.2.1 (WD_of h79.2.2) hXs9.2.2.2.1 hXs9.2.2.2.2.1 hSB9 hSS9.2.2.1 hSS9.2.2.2.1 hSS9.2.2.2.2.1) (cwV 0 htb (gd_V kw_1238 kw_1239 kw_1240 kw_160 kw_1618) rfl rfl rfl (by decide +kernel) ⟨Nat.le_of_ble_eq_true rfl, Nat.le_of_ble_eq_true rfl⟩) rfl hl.1 rfl (Nat.le_trans cs_n (by decide)) dL_law_528 ⟨(show 10000 + 3 * it + PHs gm + gc gm gm9 2 ≤ 601024 from by have := PHs_le kI2; have := PHs_le kI; have q9 := gc_l0 (gm := gm) (k := 2) kI2; omega), (show 400000 + 18 * it + 4 * PHs gm + gs gm gm9 2 ≤ 7293034 from by have := PHs_le kI2; have := PHs_le kI; have q9 := gs_l0 (gm := gm) (k := 2) kI2; omega)⟩ hK hP hD hS hA (fun r8 u8 H locs hw hP hD hS => ?_)
  obtain ⟨sm9, gn9, ln9, rfl, hI8, j1, j2, j3, gG, gM, gO⟩ := hw
  have hRI2 : RI sm9 gn9 ln9 := RI_mk hRI hI8 gG gM j1 j2 j3 (by decide) (by decide) (by decide) (by decide) (by decide) (by decide)
  have hP : va_P (dC, dI) vwCl (cW ad cid a29 lx9 sg9 gm9 lg9 ++ (mW h0 adm cidm sm9 gn9 ln9 ++ [(qo, oE cO f9)])) H := hP
  have hD : va_D A (cW ad cid a29 lx9 sg9 gm9 lg9 ++ (mW h0 adm cidm sm9 gn9 ln9 ++ [(qo, oE cO f9)])) := hD
  have hQ9 := R_ref hREL hSS9 hH9 gO
  refine lv_istore (lv' := [(6, .int r8), (5, .int r9), (4, .int i), (3, .ref qo), (2, .ref h0), (1, eV (ad 0) 0), (0, .ref b)]) hx hb dL_law_531 hl (by decide) (by simp [List.filter, eV_cat, cat_i, cat_l, cat_r]) (fun ls hl => ?_)
  refine lv_goto (tgt := 773) hx hb dL_law_533 (by decide) ?_
  have hREL2 : REL sg9 gm9 lg9 sm9 gn9 ln9 := by rw [← KS_nil k3, ← KS_nil j3]; exact REL_mk hREL k1 k2 j1 j2 hQ9.1
  refine W.widen (k := 10000 + 3 * (it + 1) + PHs gm9) (n := 400000 + 18 * (it + 1) + 4 * PHs gm9) (show 10000 + 3 * it + PHs gm + gc gm gm9 2 ≤ _ from by unfold gc PH; omega) (show 400000 + 18 * it + 4 * PHs gm + gs gm gm9 2 ≤ _ from by unfold gs PH; omega) ?_
  exact kont a29 lx9 sg9 gm9 lg9 sm9 gn9 ln9 f9 _ _ _ hKI2 hRI2 hREL2 hP hD hS (lv_sub hl [2, 3, 4, 5, 6] rfl)

set_option maxHeartbeats 4000000 in
set_option maxRecDepth 100000 in
theorem d_law8 {p : Program} {l : Launch} {e : Env} {s : State} {m : MethodId} {below : List Frame} {meth : Method} {c : Code} {b L : Nat} {xs : Nat → Int32} {dC : Nat → ClassId} {dI : Nat → Nat → Nat} {ad : Nat → Nat → Nat} {cid : Nat → ClassId} {h0 : Nat} {adm : Nat → Nat} {cidm : Nat → ClassId} {cO : ClassId} {qo : Nat} {A : Nat → Prop} (hl9 : l.stackTraces = false) (C0 : lw_At p s m meth c b L xs) (hL : L ≤ 4608) (hA : ∀ q : Nat, s.heap.size ≤ q → A q) (hbA : ¬ A b) (hG : CE ad A s) (hN9 : NE s) (hK : va_K (dC, dI) vwCl (cT cid ++ (mT cidm ++ [(cO, .long)])) s) (it : Nat) (i : Int32) (hit : it ≤ 511) (hi : i.toInt = 9 * (it : Int)) (hiL : i.toInt + 9 ≤ (L : Int)) (a2 : Nat → Nat) (lx : List Nat) (sg : Nat → Int32) (gm : Nat → Nat → Int32) (lg : Nat → Nat → Int64) (sm : Nat → Int32) (gn : Nat → Nat → Int32) (ln : Nat → Nat → Int64) (f : Nat → Int64) (H : Heap) (locs : List Loc) (ls : Array Slot) (hKI : KI it lx sg gm lg) (hRI : RI sm gn ln) (hREL : REL sg gm lg sm gn ln) (hP : va_P (dC, dI) vwCl (cW ad cid a2 lx sg gm lg ++ (mW h0 adm cidm sm gn ln ++ [(qo, oE cO f)])) H) (hD : va_D A (cW ad cid a2 lx sg gm lg ++ (mW h0 adm cidm sm gn ln ++ [(qo, oE cO f)]))) (hS : va_S A s.heap H locs) (hl : lv_has ls 7 [(4, .int i), (3, .ref qo), (2, .ref h0), (1, eV (ad 0) 0), (0, .ref b)]) (kont : ∀ (a2 : Nat → Nat) (lx : List Nat) (sg : Nat → Int32) (gm : Nat → Nat → Int32) (lg : Nat → Nat → Int64) (sm : Nat → Int32) (gn : Nat → Nat → Int32) (ln : Nat → Nat → Int64) (f : Nat → Int64) (H : Heap) (locs : List Loc) (ls : Array Slot), KI (it + 1) lx sg gm lg → RI sm gn ln → REL sg gm lg sm gn ln → va_P (dC, dI) vwCl (cW ad cid a2 lx sg gm lg ++ (mW h0 adm cidm sm gn ln ++ [(qo, oE cO f)])) H → va_D A (cW ad cid a2 lx sg gm lg ++ (mW h0 adm cidm sm gn ln ++ [(qo, oE cO f)])) → va_S A s.heap H locs → lv_has ls 7 [(4, .int i), (3, .ref qo), (2, .ref h0), (1, eV (ad 0) 0), (0, .ref b)] → W p l e room_1 s m #[Value.ref b] below meth c H locs (10000 + 3 * (it + 1) + PHs gm) (400000 + 18 * (it + 1) + 4 * PHs gm) (lw_Z below #[Value.ref b] s) (F0 m 773 ls [])) : W p l e room_1 s m #[Value.ref b] below meth c H locs (10000 + 3 * it + PHs gm) (400000 + 18 * it + 4 * PHs gm) (lw_Z below #[Value.ref b] s) (F0 m 536 ls []) := by
  obtain ⟨hx, hb, hr, hml, hown, hts, hX, hbl, hlocks, hgv⟩ := C0
  have hown : s.vm.findClass RL = some m.cls := hown
  have htb := fun (w : Cond) (h : w ∈ tb) => hts w (tb_in w h)
  have kI := hKI.1
  have hiv : iv 0 4599 i := ⟨by omega, by omega⟩
  obtain ⟨h79, hX9, hN289, hDC9, S, hSS9⟩ := id hREL
  obtain ⟨hSV9, hBR9, hSB9⟩ := REL_q hDC9
  have hXs9 := CLX_st hX9
  refine ec_aload_n hx hb dL_law_536 rfl (lv_at hl 3 rfl) ?_
  refine lv_aload_n hx hb dL_law_537 rfl (lv_at hl 4 rfl) ?_
  refine lv_iload hx hb dL_law_538 (lv_at hl 0 rfl) ?_
  refine lv_iconst (v := 1) hx hb dL_law_540 (by decide) ?_
  refine lv_iadd hx hb dL_law_541 ?_
  refine lv_topi (fun z_1 ez_1 => ?_)
  have tz_1 : z_1.toInt = i.toInt + 1 := by rw [ez_1]; exact iv_addE hiv (iv_k (by decide) : iv 1 1 1) (by decide)
  refine va_sld hx hb hX hbl hbA hS (vp_in_iff.mpr ⟨by omega, by omega⟩) dL_law_542 ?_
  refine lv_topi (fun v_2 ev_2 => ?_)
  refine lv_i2l (v := v_2.toInt64) hx hb dL_law_543 rfl ?_
  refine lv_topl (fun w_4 ew_4 => ?_)
  refine lv_bipush (v := 32) hx hb dL_law_544 (by decide) ?_
  refine lv_lshl hx hb dL_law_546 rfl ?_
  refine lv_topl (fun w_5 ew_5 => ?_)
  refine lv_aload_n hx hb dL_law_547 rfl (lv_at hl 4 rfl) ?_
  refine lv_iload hx hb dL_law_548 (lv_at hl 0 rfl) ?_
  refine lv_iconst (v := 2) hx hb dL_law_550 (by decide) ?_
  refine lv_iadd hx hb dL_law_551 ?_
  refine lv_topi (fun z_6 ez_6 => ?_)
  have tz_6 : z_6.toInt = i.toInt + 2 := by rw [ez_6]; exact iv_addE hiv (iv_k (by decide) : iv 2 2 2) (by decide)
  refine va_sld hx hb hX hbl hbA hS (vp_in_iff.mpr ⟨by omega, by omega⟩) dL_law_552 ?_
  refine lv_topi (fun v_7 ev_7 => ?_)
  refine lv_i2l (v := v_7.toInt64) hx hb dL_law_553 rfl ?_
  refine lv_topl (fun w_9 ew_9 => ?_)
  refine lv_ldc2 (own := RL) (v := 4294967295) hx hb hown (htb _ kw_1341) dL_law_554 ?_
  refine lv_land hx hb dL_law_557 ?_
  refine lv_topl (fun w_10 ew_10 => ?_)
  refine lv_lor hx hb dL_law_558 ?_
  refine lv_topl (fun w_11 ew_11 => ?_)
  refine lv_aload_n hx hb dL_law_559 rfl (lv_at hl 1 rfl) ?_
  refine lw_callH (rest := []) (as := [eV (ad 0) 0, .long w_11, .ref qo]) ⟨hx, hb, hml, hown, htb⟩ (d_hget l hl9 dC dI ad cid cO qo a2 lx sg gm lg f it w_11 hKI (by omega) S hSV9 hSS9.1) (vx_cwSW 3 htb (gd_S kw_972 kw_973 kw_145 kw_1557) rfl rfl rfl (by decide +kernel) ⟨Nat.le_of_ble_eq_true rfl, Nat.le_of_ble_eq_true rfl⟩) rfl hl.1 rfl (Nat.le_trans cs_n (by decide)) dL_law_560 ⟨(show 10000 + 3 * it + PHs gm + 60963 ≤ 601024 from by have := PHs_le kI; omega), (show 400000 + 18 * it + 4 * PHs gm + 243858 ≤ 7293034 from by have := PHs_le kI; omega)⟩ hK hP hD hS hA hG hN9 (fun r9 u f9 H locs hw hmu hP hD hS => ?_)
  obtain ⟨a29, lx9, sg9, gm9, lg9⟩ := u
  obtain ⟨hKI2, k1, k2, k3, x9, hx9, hH9⟩ := hw
  have hKI2 : KI (it + 1) lx9 sg9 gm9 lg9 := hKI2
  have k3 : KS [] lg lg9 := k3
  have kI2 := hKI2.1
  have hph : PHs gm ≤ PHs gm9 := hmu
  have hP : va_P (dC, dI) vwCl (cW ad cid a29 lx9 sg9 gm9 lg9 ++ (mW h0 adm cidm sm gn ln ++ [(qo, oE cO f9)])) H := hP
  have hD : va_D A (cW ad cid a29 lx9 sg9 gm9 lg9 ++ (mW h0 adm cidm sm gn ln ++ [(qo, oE cO f9)])) := hD
  refine lv_istore (lv' := [(5, .int r9), (4, .int i), (3, .ref qo), (2, .ref h0), (1, eV (ad 0) 0), (0, .ref b)]) hx hb dL_law_563 hl (by decide) (by simp [List.filter, eV_cat, cat_i, cat_l, cat_r]) (fun ls hl => ?_)
  refine lv_aload_n hx hb dL_law_565 rfl (lv_at hl 3 rfl) ?_
  refine lv_aload_n hx hb dL_law_566 rfl (lv_at hl 5 rfl) ?_
  refine lv_iload hx hb dL_law_567 (lv_at hl 1 rfl) ?_
  refine lv_iconst (v := 1) hx hb dL_law_569 (by decide) ?_
  refine lv_iadd hx hb dL_law_570 ?_
  refine lv_topi (fun z_12 ez_12 => ?_)
  have tz_12 : z_12.toInt = i.toInt + 1 := by rw [ez_12]; exact iv_addE hiv (iv_k (by decide) : iv 1 1 1) (by decide)
  refine va_sld hx hb hX hbl hbA hS (vp_in_iff.mpr ⟨by omega, by omega⟩) dL_law_571 ?_
  refine W.eq (g2 := F0 m 572 ls [.int v_2, .ref h0]) (by rw [ev_2, show z_12 = z_1 from Int32.toInt_inj.mp (by omega)]) ?_
  refine lv_i2l (v := v_2.toInt64) hx hb dL_law_572 rfl ?_
  refine lv_topl (fun w_14 ew_14 => ?_)
  refine lv_bipush (v := 32) hx hb dL_law_573 (by decide) ?_
  refine lv_lshl hx hb dL_law_575 rfl ?_
  refine lv_topl (fun w_15 ew_15 => ?_)
  refine lv_aload_n hx hb dL_law_576 rfl (lv_at hl 5 rfl) ?_
  refine lv_iload hx hb dL_law_577 (lv_at hl 1 rfl) ?_
  refine lv_iconst (v := 2) hx hb dL_law_579 (by decide) ?_
  refine lv_iadd hx hb dL_law_580 ?_
  refine lv_topi (fun z_16 ez_16 => ?_)
  have tz_16 : z_16.toInt = i.toInt + 2 := by rw [ez_16]; exact iv_addE hiv (iv_k (by decide) : iv 2 2 2) (by decide)
  refine va_sld hx hb hX hbl hbA hS (vp_in_iff.mpr ⟨by omega, by omega⟩) dL_law_581 ?_
  refine W.eq (g2 := F0 m 582 ls [.int v_7, .long w_15, .ref h0]) (by rw [ev_7, show z_16 = z_6 from Int32.toInt_inj.mp (by omega)]) ?_
  refine lv_i2l (v := v_7.toInt64) hx hb dL_law_582 rfl ?_
  refine lv_topl (fun w_18 ew_18 => ?_)
  refine lv_ldc2 (own := RL) (v := 4294967295) hx hb hown (htb _ kw_1341) dL_law_583 ?_
  refine lv_land hx hb dL_law_586 ?_
  refine lv_topl (fun w_19 ew_19 => ?_)
  refine lv_lor hx hb dL_law_587 ?_
  refine lv_topl (fun w_20 ew_20 => ?_)
  refine lw_callM (w := cW ad cid a29 lx9 sg9 gm9 lg9) (tw := cT cid) (r := [(qo, oE cO f9)]) (tr := [(cO, .long)]) (rest := []) (as := [.long w_20]) ⟨hx, hb, hml, hown, htb⟩ (f_get9 l dC dI h0 adm cidm sm gn ln w_20 (ss9 sg) (st9 gm) lg (rs9 sm) (rt9 gn) S hRI.1 hRI.2.2.1 hRI.2.1 hRI.2.2.2.1 hRI.2.2.2.2 rfl rfl hBR9 hXs9.1 hSS9.2.1 (WD_of h79.2.2) hXs9.2.2.2.1 hXs9.2.2.2.2.1 hSB9 hSS9.2.2.1 hSS9.2.2.2.1 hSS9.2.2.2.2.1) (cwV 1 htb (gd_V kw_1318 kw_1319 kw_1320 kw_160 kw_1655) rfl rfl rfl (by decide +kernel) ⟨Nat.le_of_ble_eq_true rfl, Nat.le_of_ble_eq_true rfl⟩) rfl hl.1 rfl (Nat.le_trans cs_n (by decide)) dL_law_588 ⟨(show 10000 + 3 * it + PHs gm + gc gm gm9 2 ≤ 601024 from by have := PHs_le kI2; have := PHs_le kI; have q9 := gc_l0 (gm := gm) (k := 2) kI2; omega), (show 400000 + 18 * it + 4 * PHs gm + gs gm gm9 2 ≤ 7293034 from by have := PHs_le kI2; have := PHs_le kI; have q9 := gs_l0 (gm := gm) (k := 2) kI2; omega)⟩ hK hP hD hS hA (fun r8 u8 H locs hw hP hD hS => ?_)
  obtain ⟨sm9, gn9, ln9, rfl, hI8, j1, j2, j3, gG, gM, gO⟩ := hw
  have hRI2 : RI sm9 gn9 ln9 := RI_mk hRI hI8 gG gM j1 j2 j3 (by decide) (by decide) (by decide) (by decide) (by decide) (by decide)
  have hP : va_P (dC, dI) vwCl (cW ad cid a29 lx9 sg9 gm9 lg9 ++ (mW h0 adm cidm sm9 gn9 ln9 ++ [(qo, oE cO f9)])) H := hP
  have hD : va_D A (cW ad cid a29 lx9 sg9 gm9 lg9 ++ (mW h0 adm cidm sm9 gn9 ln9 ++ [(qo, oE cO f9)])) := hD
  have hww : w_20 = w_11 := by rw [ew_20, ew_19, ew_18, ew_15, ew_14, ew_11, ew_10, ew_9, ew_5, ew_4]
  rw [hww] at gO
  have hQ9 := R_get hREL hSS9 hH9 gO
  refine lv_istore (lv' := [(6, .int r8), (5, .int r9), (4, .int i), (3, .ref qo), (2, .ref h0), (1, eV (ad 0) 0), (0, .ref b)]) hx hb dL_law_591 hl (by decide) (by simp [List.filter, eV_cat, cat_i, cat_l, cat_r]) (fun ls hl => ?_)
  refine lv_goto (tgt := 773) hx hb dL_law_593 (by decide) ?_
  have hREL2 : REL sg9 gm9 lg9 sm9 gn9 ln9 := by rw [← KS_nil k3, ← KS_nil j3]; exact REL_mk hREL k1 k2 j1 j2 hQ9.1
  refine W.widen (k := 10000 + 3 * (it + 1) + PHs gm9) (n := 400000 + 18 * (it + 1) + 4 * PHs gm9) (show 10000 + 3 * it + PHs gm + gc gm gm9 2 ≤ _ from by unfold gc PH; omega) (show 400000 + 18 * it + 4 * PHs gm + gs gm gm9 2 ≤ _ from by unfold gs PH; omega) ?_
  exact kont a29 lx9 sg9 gm9 lg9 sm9 gn9 ln9 f9 _ _ _ hKI2 hRI2 hREL2 hP hD hS (lv_sub hl [2, 3, 4, 5, 6] rfl)

set_option maxHeartbeats 4000000 in
set_option maxRecDepth 100000 in
theorem d_law9 {p : Program} {l : Launch} {e : Env} {s : State} {m : MethodId} {below : List Frame} {meth : Method} {c : Code} {b L : Nat} {xs : Nat → Int32} {dC : Nat → ClassId} {dI : Nat → Nat → Nat} {ad : Nat → Nat → Nat} {cid : Nat → ClassId} {h0 : Nat} {adm : Nat → Nat} {cidm : Nat → ClassId} {cO : ClassId} {qo : Nat} {A : Nat → Prop} (hl9 : l.stackTraces = false) (C0 : lw_At p s m meth c b L xs) (hL : L ≤ 4608) (hA : ∀ q : Nat, s.heap.size ≤ q → A q) (hbA : ¬ A b) (hG : CE ad A s) (hN9 : NE s) (hK : va_K (dC, dI) vwCl (cT cid ++ (mT cidm ++ [(cO, .long)])) s) (it : Nat) (i : Int32) (hit : it ≤ 511) (hi : i.toInt = 9 * (it : Int)) (hiL : i.toInt + 9 ≤ (L : Int)) (a2 : Nat → Nat) (lx : List Nat) (sg : Nat → Int32) (gm : Nat → Nat → Int32) (lg : Nat → Nat → Int64) (sm : Nat → Int32) (gn : Nat → Nat → Int32) (ln : Nat → Nat → Int64) (f : Nat → Int64) (H : Heap) (locs : List Loc) (ls : Array Slot) (hKI : KI it lx sg gm lg) (hRI : RI sm gn ln) (hREL : REL sg gm lg sm gn ln) (hP : va_P (dC, dI) vwCl (cW ad cid a2 lx sg gm lg ++ (mW h0 adm cidm sm gn ln ++ [(qo, oE cO f)])) H) (hD : va_D A (cW ad cid a2 lx sg gm lg ++ (mW h0 adm cidm sm gn ln ++ [(qo, oE cO f)]))) (hS : va_S A s.heap H locs) (hl : lv_has ls 7 [(4, .int i), (3, .ref qo), (2, .ref h0), (1, eV (ad 0) 0), (0, .ref b)]) (kont : ∀ (a2 : Nat → Nat) (lx : List Nat) (sg : Nat → Int32) (gm : Nat → Nat → Int32) (lg : Nat → Nat → Int64) (sm : Nat → Int32) (gn : Nat → Nat → Int32) (ln : Nat → Nat → Int64) (f : Nat → Int64) (H : Heap) (locs : List Loc) (ls : Array Slot), KI (it + 1) lx sg gm lg → RI sm gn ln → REL sg gm lg sm gn ln → va_P (dC, dI) vwCl (cW ad cid a2 lx sg gm lg ++ (mW h0 adm cidm sm gn ln ++ [(qo, oE cO f)])) H → va_D A (cW ad cid a2 lx sg gm lg ++ (mW h0 adm cidm sm gn ln ++ [(qo, oE cO f)])) → va_S A s.heap H locs → lv_has ls 7 [(4, .int i), (3, .ref qo), (2, .ref h0), (1, eV (ad 0) 0), (0, .ref b)] → W p l e room_1 s m #[Value.ref b] below meth c H locs (10000 + 3 * (it + 1) + PHs gm) (400000 + 18 * (it + 1) + 4 * PHs gm) (lw_Z below #[Value.ref b] s) (F0 m 773 ls [])) : W p l e room_1 s m #[Value.ref b] below meth c H locs (10000 + 3 * it + PHs gm) (400000 + 18 * it + 4 * PHs gm) (lw_Z below #[Value.ref b] s) (F0 m 596 ls []) := by
  obtain ⟨hx, hb, hr, hml, hown, hts, hX, hbl, hlocks, hgv⟩ := C0
  have hown : s.vm.findClass RL = some m.cls := hown
  have htb := fun (w : Cond) (h : w ∈ tb) => hts w (tb_in w h)
  have kI := hKI.1
  have hiv : iv 0 4599 i := ⟨by omega, by omega⟩
  obtain ⟨h79, hX9, hN289, hDC9, S, hSS9⟩ := id hREL
  obtain ⟨hSV9, hBR9, hSB9⟩ := REL_q hDC9
  have hXs9 := CLX_st hX9
  refine ec_aload_n hx hb dL_law_596 rfl (lv_at hl 3 rfl) ?_
  refine lv_aload_n hx hb dL_law_597 rfl (lv_at hl 4 rfl) ?_
  refine lv_iload hx hb dL_law_598 (lv_at hl 0 rfl) ?_
  refine lv_iconst (v := 1) hx hb dL_law_600 (by decide) ?_
  refine lv_iadd hx hb dL_law_601 ?_
  refine lv_topi (fun z_1 ez_1 => ?_)
  have tz_1 : z_1.toInt = i.toInt + 1 := by rw [ez_1]; exact iv_addE hiv (iv_k (by decide) : iv 1 1 1) (by decide)
  refine va_sld hx hb hX hbl hbA hS (vp_in_iff.mpr ⟨by omega, by omega⟩) dL_law_602 ?_
  refine lv_topi (fun v_2 ev_2 => ?_)
  refine lv_aload_n hx hb dL_law_603 rfl (lv_at hl 4 rfl) ?_
  refine lv_iload hx hb dL_law_604 (lv_at hl 0 rfl) ?_
  refine lv_iconst (v := 2) hx hb dL_law_606 (by decide) ?_
  refine lv_iadd hx hb dL_law_607 ?_
  refine lv_topi (fun z_3 ez_3 => ?_)
  have tz_3 : z_3.toInt = i.toInt + 2 := by rw [ez_3]; exact iv_addE hiv (iv_k (by decide) : iv 2 2 2) (by decide)
  refine va_sld hx hb hX hbl hbA hS (vp_in_iff.mpr ⟨by omega, by omega⟩) dL_law_608 ?_
  refine lv_topi (fun v_4 ev_4 => ?_)
  refine lv_aload_n hx hb dL_law_609 rfl (lv_at hl 1 rfl) ?_
  refine lw_callH (rest := []) (as := [eV (ad 0) 0, .int v_2, .int v_4, .ref qo]) ⟨hx, hb, hml, hown, htb⟩ (d_hcall l hl9 dC dI ad cid cO qo a2 lx sg gm lg f it v_2 v_4 hKI (by omega) S hSV9 hSS9.1) (vx_cwSW 4 htb (gd_S kw_983 kw_984 kw_145 kw_1561) rfl rfl rfl (by decide +kernel) ⟨Nat.le_of_ble_eq_true rfl, Nat.le_of_ble_eq_true rfl⟩) rfl hl.1 rfl (Nat.le_trans cs_n (by decide)) dL_law_610 ⟨(show 10000 + 3 * it + PHs gm + 60963 ≤ 601024 from by have := PHs_le kI; omega), (show 400000 + 18 * it + 4 * PHs gm + 243858 ≤ 7293034 from by have := PHs_le kI; omega)⟩ hK hP hD hS hA hG hN9 (fun r9 u f9 H locs hw hmu hP hD hS => ?_)
  obtain ⟨a29, lx9, sg9, gm9, lg9⟩ := u
  obtain ⟨hKI2, k1, k2, k3, x9, hx9, hH9⟩ := hw
  have hKI2 : KI (it + 1) lx9 sg9 gm9 lg9 := hKI2
  have k3 : KS [] lg lg9 := k3
  have kI2 := hKI2.1
  have hph : PHs gm ≤ PHs gm9 := hmu
  have hP : va_P (dC, dI) vwCl (cW ad cid a29 lx9 sg9 gm9 lg9 ++ (mW h0 adm cidm sm gn ln ++ [(qo, oE cO f9)])) H := hP
  have hD : va_D A (cW ad cid a29 lx9 sg9 gm9 lg9 ++ (mW h0 adm cidm sm gn ln ++ [(qo, oE cO f9)])) := hD
  refine lv_istore (lv' := [(5, .int r9), (4, .int i), (3, .ref qo), (2, .ref h0), (1, eV (ad 0) 0), (0, .ref b)]) hx hb dL_law_613 hl (by decide) (by simp [List.filter, eV_cat, cat_i, cat_l, cat_r]) (fun ls hl => ?_)
  refine lv_aload_n hx hb dL_law_615 rfl (lv_at hl 3 rfl) ?_
  refine lv_aload_n hx hb dL_law_616 rfl (lv_at hl 5 rfl) ?_
  refine lv_iload hx hb dL_law_617 (lv_at hl 1 rfl) ?_
  refine lv_iconst (v := 1) hx hb dL_law_619 (by decide) ?_
  refine lv_iadd hx hb dL_law_620 ?_
  refine lv_topi (fun z_5 ez_5 => ?_)
  have tz_5 : z_5.toInt = i.toInt + 1 := by rw [ez_5]; exact iv_addE hiv (iv_k (by decide) : iv 1 1 1) (by decide)
  refine va_sld hx hb hX hbl hbA hS (vp_in_iff.mpr ⟨by omega, by omega⟩) dL_law_621 ?_
  refine W.eq (g2 := F0 m 622 ls [.int v_2, .ref h0]) (by rw [ev_2, show z_5 = z_1 from Int32.toInt_inj.mp (by omega)]) ?_
  refine lv_aload_n hx hb dL_law_622 rfl (lv_at hl 5 rfl) ?_
  refine lv_iload hx hb dL_law_623 (lv_at hl 1 rfl) ?_
  refine lv_iconst (v := 2) hx hb dL_law_625 (by decide) ?_
  refine lv_iadd hx hb dL_law_626 ?_
  refine lv_topi (fun z_6 ez_6 => ?_)
  have tz_6 : z_6.toInt = i.toInt + 2 := by rw [ez_6]; exact iv_addE hiv (iv_k (by decide) : iv 2 2 2) (by decide)
  refine va_sld hx hb hX hbl hbA hS (vp_in_iff.mpr ⟨by omega, by omega⟩) dL_law_627 ?_
  refine W.eq (g2 := F0 m 628 ls [.int v_4, .int v_2, .ref h0]) (by rw [ev_4, show z_6 = z_3 from Int32.toInt_inj.mp (by omega)]) ?_
  refine lw_callM (w := cW ad cid a29 lx9 sg9 gm9 lg9) (tw := cT cid) (r := [(qo, oE cO f9)]) (tr := [(cO, .long)]) (rest := []) (as := [.int v_2, .int v_4]) ⟨hx, hb, hml, hown, htb⟩ (f_call9 l dC dI h0 adm cidm sm gn ln v_2 v_4 (ss9 sg) (st9 gm) lg (rs9 sm) (rt9 gn) S hRI.1 hRI.2.2.1 hRI.2.1 hRI.2.2.2.1 hRI.2.2.2.2 rfl rfl hBR9 hXs9.1 hSS9.2.1 (WD_of h79.2.2) hXs9.2.2.2.1 hXs9.2.2.2.2.1 hSB9 hSS9.2.2.1 hSS9.2.2.2.1 hSS9.2.2.2.2.1 (OB_d hDC9 hSS9)) (cwV 2 htb (gd_V kw_1323 kw_1324 kw_1325 kw_160 kw_1657) rfl rfl rfl (by decide +kernel) ⟨Nat.le_of_ble_eq_true rfl, Nat.le_of_ble_eq_true rfl⟩) rfl hl.1 rfl (Nat.le_trans cs_n (by decide)) dL_law_628 ⟨(show 10000 + 3 * it + PHs gm + gc gm gm9 2 ≤ 601024 from by have := PHs_le kI2; have := PHs_le kI; have q9 := gc_l0 (gm := gm) (k := 2) kI2; omega), (show 400000 + 18 * it + 4 * PHs gm + gs gm gm9 2 ≤ 7293034 from by have := PHs_le kI2; have := PHs_le kI; have q9 := gs_l0 (gm := gm) (k := 2) kI2; omega)⟩ hK hP hD hS hA (fun r8 u8 H locs hw hP hD hS => ?_)
  obtain ⟨sm9, gn9, ln9, rfl, hI8, j1, j2, j3, gG, gM, gO⟩ := hw
  have hRI2 : RI sm9 gn9 ln9 := RI_mk hRI hI8 gG gM j1 j2 j3 (by decide) (by decide) (by decide) (by decide) (by decide) (by decide)
  have hP : va_P (dC, dI) vwCl (cW ad cid a29 lx9 sg9 gm9 lg9 ++ (mW h0 adm cidm sm9 gn9 ln9 ++ [(qo, oE cO f9)])) H := hP
  have hD : va_D A (cW ad cid a29 lx9 sg9 gm9 lg9 ++ (mW h0 adm cidm sm9 gn9 ln9 ++ [(qo, oE cO f9)])) := hD
  have hQ9 := R_call hREL hSS9 hH9 gO
  refine lv_istore (lv' := [(6, .int r8), (5, .int r9), (4, .int i), (3, .ref qo), (2, .ref h0), (1, eV (ad 0) 0), (0, .ref b)]) hx hb dL_law_631 hl (by decide) (by simp [List.filter, eV_cat, cat_i, cat_l, cat_r]) (fun ls hl => ?_)
  refine lv_goto (tgt := 773) hx hb dL_law_633 (by decide) ?_
  have hREL2 : REL sg9 gm9 lg9 sm9 gn9 ln9 := by rw [← KS_nil k3, ← KS_nil j3]; exact REL_mk hREL k1 k2 j1 j2 hQ9.1
  refine W.widen (k := 10000 + 3 * (it + 1) + PHs gm9) (n := 400000 + 18 * (it + 1) + 4 * PHs gm9) (show 10000 + 3 * it + PHs gm + gc gm gm9 2 ≤ _ from by unfold gc PH; omega) (show 400000 + 18 * it + 4 * PHs gm + gs gm gm9 2 ≤ _ from by unfold gs PH; omega) ?_
  exact kont a29 lx9 sg9 gm9 lg9 sm9 gn9 ln9 f9 _ _ _ hKI2 hRI2 hREL2 hP hD hS (lv_sub hl [2, 3, 4, 5, 6] rfl)

set_option maxHeartbeats 4000000 in
set_option maxRecDepth 100000 in
theorem d_law10 {p : Program} {l : Launch} {e : Env} {s : State} {m : MethodId} {below : List Frame} {meth : Method} {c : Code} {b L : Nat} {xs : Nat → Int32} {dC : Nat → ClassId} {dI : Nat → Nat → Nat} {ad : Nat → Nat → Nat} {cid : Nat → ClassId} {h0 : Nat} {adm : Nat → Nat} {cidm : Nat → ClassId} {cO : ClassId} {qo : Nat} {A : Nat → Prop} (hl9 : l.stackTraces = false) (C0 : lw_At p s m meth c b L xs) (hL : L ≤ 4608) (hA : ∀ q : Nat, s.heap.size ≤ q → A q) (hbA : ¬ A b) (hG : CE ad A s) (hN9 : NE s) (hK : va_K (dC, dI) vwCl (cT cid ++ (mT cidm ++ [(cO, .long)])) s) (it : Nat) (i : Int32) (hit : it ≤ 511) (hi : i.toInt = 9 * (it : Int)) (hiL : i.toInt + 9 ≤ (L : Int)) (a2 : Nat → Nat) (lx : List Nat) (sg : Nat → Int32) (gm : Nat → Nat → Int32) (lg : Nat → Nat → Int64) (sm : Nat → Int32) (gn : Nat → Nat → Int32) (ln : Nat → Nat → Int64) (f : Nat → Int64) (H : Heap) (locs : List Loc) (ls : Array Slot) (hKI : KI it lx sg gm lg) (hRI : RI sm gn ln) (hREL : REL sg gm lg sm gn ln) (hP : va_P (dC, dI) vwCl (cW ad cid a2 lx sg gm lg ++ (mW h0 adm cidm sm gn ln ++ [(qo, oE cO f)])) H) (hD : va_D A (cW ad cid a2 lx sg gm lg ++ (mW h0 adm cidm sm gn ln ++ [(qo, oE cO f)]))) (hS : va_S A s.heap H locs) (hl : lv_has ls 7 [(4, .int i), (3, .ref qo), (2, .ref h0), (1, eV (ad 0) 0), (0, .ref b)]) (kont : ∀ (a2 : Nat → Nat) (lx : List Nat) (sg : Nat → Int32) (gm : Nat → Nat → Int32) (lg : Nat → Nat → Int64) (sm : Nat → Int32) (gn : Nat → Nat → Int32) (ln : Nat → Nat → Int64) (f : Nat → Int64) (H : Heap) (locs : List Loc) (ls : Array Slot), KI (it + 1) lx sg gm lg → RI sm gn ln → REL sg gm lg sm gn ln → va_P (dC, dI) vwCl (cW ad cid a2 lx sg gm lg ++ (mW h0 adm cidm sm gn ln ++ [(qo, oE cO f)])) H → va_D A (cW ad cid a2 lx sg gm lg ++ (mW h0 adm cidm sm gn ln ++ [(qo, oE cO f)])) → va_S A s.heap H locs → lv_has ls 7 [(4, .int i), (3, .ref qo), (2, .ref h0), (1, eV (ad 0) 0), (0, .ref b)] → W p l e room_1 s m #[Value.ref b] below meth c H locs (10000 + 3 * (it + 1) + PHs gm) (400000 + 18 * (it + 1) + 4 * PHs gm) (lw_Z below #[Value.ref b] s) (F0 m 773 ls [])) : W p l e room_1 s m #[Value.ref b] below meth c H locs (10000 + 3 * it + PHs gm) (400000 + 18 * it + 4 * PHs gm) (lw_Z below #[Value.ref b] s) (F0 m 636 ls []) := by
  obtain ⟨hx, hb, hr, hml, hown, hts, hX, hbl, hlocks, hgv⟩ := C0
  have hown : s.vm.findClass RL = some m.cls := hown
  have htb := fun (w : Cond) (h : w ∈ tb) => hts w (tb_in w h)
  have kI := hKI.1
  have hiv : iv 0 4599 i := ⟨by omega, by omega⟩
  obtain ⟨h79, hX9, hN289, hDC9, S, hSS9⟩ := id hREL
  obtain ⟨hSV9, hBR9, hSB9⟩ := REL_q hDC9
  have hXs9 := CLX_st hX9
  refine ec_aload_n hx hb dL_law_636 rfl (lv_at hl 3 rfl) ?_
  refine lw_callT (r := (mW h0 adm cidm sm gn ln ++ [(qo, oE cO f)])) (tr := mT cidm ++ [(cO, .long)]) (rest := []) (as := []) ⟨hx, hb, hml, hown, htb⟩ (d_close9 l dC dI ad cid a2 lx sg gm lg 0 (st9 gm) S kI (iv_k (by decide) : iv 0 0 0) hKI.2.2.1 rfl hSS9.1) (cwV 0 htb (gd_V kw_481 kw_482 kw_483 kw_146 kw_1402) rfl rfl rfl (by decide +kernel) ⟨Nat.le_of_ble_eq_true rfl, Nat.le_of_ble_eq_true rfl⟩) (iv_k (by decide) : iv 0 0 0) rfl hl.1 rfl (Nat.le_trans cs_n (by decide)) dL_law_637 ⟨(show 10000 + 3 * it + PHs gm + 1 ≤ 601024 from by have := PHs_le kI; omega), (show 400000 + 18 * it + 4 * PHs gm + 6 ≤ 7293034 from by have := PHs_le kI; omega)⟩ hK hP hD hS hA hG (fun _ _ h9 => h9) (fun v9 u H locs hw hP hD hS => ?_)
  obtain ⟨r9, rfl, sg9, gm9, lg9, rfl, hI9, k1, k2, k3, hr9, fM, f15, fR, fE⟩ := hw
  have hKI2 : KI (it + 1) lx sg9 gm9 lg9 := KI_cl hKI hI9 k1 k2 k3 fM f15 (by decide) (by decide) (by decide)
  have hph : PHs gm ≤ PHs gm9 := Nat.le_of_eq (PHs_e (k2 42 (by decide))).symm
  have hP : va_P (dC, dI) vwCl (cW ad cid a2 lx sg9 gm9 lg9 ++ (mW h0 adm cidm sm gn ln ++ [(qo, oE cO f)])) H := hP
  have hD : va_D A (cW ad cid a2 lx sg9 gm9 lg9 ++ (mW h0 adm cidm sm gn ln ++ [(qo, oE cO f)])) := hD
  refine W.eq (g2 := F0 m 640 ls [.int r9]) rfl ?_
  refine lv_pop hx hb dL_law_640 (cat_i _) ?_
  refine lv_aload_n hx hb dL_law_641 rfl (lv_at hl 2 rfl) ?_
  refine lw_callM (w := cW ad cid a2 lx sg9 gm9 lg9) (tw := cT cid) (r := [(qo, oE cO f)]) (tr := [(cO, .long)]) (rest := []) (as := []) ⟨hx, hb, hml, hown, htb⟩ (f_close9 l dC dI h0 adm cidm sm gn ln (ss9 sg) (st9 gm) lg (rs9 sm) (rt9 gn) S hRI.1 hRI.2.2.1 hRI.2.1 hRI.2.2.2.1 hRI.2.2.2.2 rfl rfl hBR9 hXs9.1 hSS9.2.1 (WD_of h79.2.2) hXs9.2.2.2.1 hXs9.2.2.2.2.1 hSB9 hSS9.2.2.1 hSS9.2.2.2.1 hSS9.2.2.2.2.1) (cwV 0 htb (gd_V kw_1326 kw_1327 kw_1328 kw_160 kw_1658) rfl rfl rfl (by decide +kernel) ⟨Nat.le_of_ble_eq_true rfl, Nat.le_of_ble_eq_true rfl⟩) rfl hl.1 rfl (Nat.le_trans cs_n (by decide)) dL_law_642 ⟨(show 10000 + 3 * it + PHs gm ≤ 601024 from by have := PHs_le kI; omega), (show 400000 + 18 * it + 4 * PHs gm ≤ 7293034 from by have := PHs_le kI; omega)⟩ hK hP hD hS hA (fun r8 u8 H locs hw hP hD hS => ?_)
  obtain ⟨sm9, gn9, ln9, rfl, hI8, j1, j2, j3, gG, gM, gO⟩ := hw
  have hRI2 : RI sm9 gn9 ln9 := RI_mk hRI hI8 gG gM j1 j2 j3 (by decide) (by decide) (by decide) (by decide) (by decide) (by decide)
  have hP : va_P (dC, dI) vwCl (cW ad cid a2 lx sg9 gm9 lg9 ++ (mW h0 adm cidm sm9 gn9 ln9 ++ [(qo, oE cO f)])) H := hP
  have hD : va_D A (cW ad cid a2 lx sg9 gm9 lg9 ++ (mW h0 adm cidm sm9 gn9 ln9 ++ [(qo, oE cO f)])) := hD
  have hQ9 := R_close hREL hSS9 ⟨fR, fE⟩ gO
  refine lv_pop hx hb dL_law_645 (cat_i _) ?_
  refine lv_goto (tgt := 773) hx hb dL_law_646 (by decide) ?_
  have hREL2 : REL sg9 gm9 lg9 sm9 gn9 ln9 := by rw [← KS_nil k3, ← KS_nil j3]; exact REL_mk hREL (KS_tr (L := [13, 14, 15, 16, 17, 18]) KS_rf k1 (by decide)) (KS_tr (L := [37, 38, 39, 48, 49, 50, 51, 52, 53]) KS_rf k2 (by decide)) (KS_tr (L := [5, 48, 49, 50, 51, 52, 63, 74]) KS_rf j1 (by decide)) (KS_tr (L := [53, 54, 55, 56, 57, 58, 59, 60, 61, 62, 64, 65, 66, 67, 68, 69, 70, 71, 72, 73, 75]) KS_rf j2 (by decide)) hQ9.1
  refine W.widen (k := 10000 + 3 * (it + 1) + PHs gm9) (n := 400000 + 18 * (it + 1) + 4 * PHs gm9) (show 10000 + 3 * it + PHs gm ≤ _ from by omega) (show 400000 + 18 * it + 4 * PHs gm ≤ _ from by omega) ?_
  exact kont a2 lx sg9 gm9 lg9 sm9 gn9 ln9 f _ _ _ hKI2 hRI2 hREL2 hP hD hS (lv_sub hl [0, 1, 2, 3, 4] rfl)

set_option maxHeartbeats 4000000 in
set_option maxRecDepth 100000 in
theorem d_law11 {p : Program} {l : Launch} {e : Env} {s : State} {m : MethodId} {below : List Frame} {meth : Method} {c : Code} {b L : Nat} {xs : Nat → Int32} {dC : Nat → ClassId} {dI : Nat → Nat → Nat} {ad : Nat → Nat → Nat} {cid : Nat → ClassId} {h0 : Nat} {adm : Nat → Nat} {cidm : Nat → ClassId} {cO : ClassId} {qo : Nat} {A : Nat → Prop} (hl9 : l.stackTraces = false) (C0 : lw_At p s m meth c b L xs) (hL : L ≤ 4608) (hA : ∀ q : Nat, s.heap.size ≤ q → A q) (hbA : ¬ A b) (hG : CE ad A s) (hN9 : NE s) (hK : va_K (dC, dI) vwCl (cT cid ++ (mT cidm ++ [(cO, .long)])) s) (it : Nat) (i : Int32) (hit : it ≤ 511) (hi : i.toInt = 9 * (it : Int)) (hiL : i.toInt + 9 ≤ (L : Int)) (a2 : Nat → Nat) (lx : List Nat) (sg : Nat → Int32) (gm : Nat → Nat → Int32) (lg : Nat → Nat → Int64) (sm : Nat → Int32) (gn : Nat → Nat → Int32) (ln : Nat → Nat → Int64) (f : Nat → Int64) (H : Heap) (locs : List Loc) (ls : Array Slot) (hKI : KI it lx sg gm lg) (hRI : RI sm gn ln) (hREL : REL sg gm lg sm gn ln) (hP : va_P (dC, dI) vwCl (cW ad cid a2 lx sg gm lg ++ (mW h0 adm cidm sm gn ln ++ [(qo, oE cO f)])) H) (hD : va_D A (cW ad cid a2 lx sg gm lg ++ (mW h0 adm cidm sm gn ln ++ [(qo, oE cO f)]))) (hS : va_S A s.heap H locs) (hl : lv_has ls 7 [(4, .int i), (3, .ref qo), (2, .ref h0), (1, eV (ad 0) 0), (0, .ref b)]) (kont : ∀ (a2 : Nat → Nat) (lx : List Nat) (sg : Nat → Int32) (gm : Nat → Nat → Int32) (lg : Nat → Nat → Int64) (sm : Nat → Int32) (gn : Nat → Nat → Int32) (ln : Nat → Nat → Int64) (f : Nat → Int64) (H : Heap) (locs : List Loc) (ls : Array Slot), KI (it + 1) lx sg gm lg → RI sm gn ln → REL sg gm lg sm gn ln → va_P (dC, dI) vwCl (cW ad cid a2 lx sg gm lg ++ (mW h0 adm cidm sm gn ln ++ [(qo, oE cO f)])) H → va_D A (cW ad cid a2 lx sg gm lg ++ (mW h0 adm cidm sm gn ln ++ [(qo, oE cO f)])) → va_S A s.heap H locs → lv_has ls 7 [(4, .int i), (3, .ref qo), (2, .ref h0), (1, eV (ad 0) 0), (0, .ref b)] → W p l e room_1 s m #[Value.ref b] below meth c H locs (10000 + 3 * (it + 1) + PHs gm) (400000 + 18 * (it + 1) + 4 * PHs gm) (lw_Z below #[Value.ref b] s) (F0 m 773 ls [])) : W p l e room_1 s m #[Value.ref b] below meth c H locs (10000 + 3 * it + PHs gm) (400000 + 18 * it + 4 * PHs gm) (lw_Z below #[Value.ref b] s) (F0 m 649 ls []) := by
  obtain ⟨hx, hb, hr, hml, hown, hts, hX, hbl, hlocks, hgv⟩ := C0
  have hown : s.vm.findClass RL = some m.cls := hown
  have htb := fun (w : Cond) (h : w ∈ tb) => hts w (tb_in w h)
  have kI := hKI.1
  have hiv : iv 0 4599 i := ⟨by omega, by omega⟩
  obtain ⟨h79, hX9, hN289, hDC9, S, hSS9⟩ := id hREL
  obtain ⟨hSV9, hBR9, hSB9⟩ := REL_q hDC9
  have hXs9 := CLX_st hX9
  refine ec_aload_n hx hb dL_law_649 rfl (lv_at hl 3 rfl) ?_
  refine lw_callT (r := (mW h0 adm cidm sm gn ln ++ [(qo, oE cO f)])) (tr := mT cidm ++ [(cO, .long)]) (rest := []) (as := []) ⟨hx, hb, hml, hown, htb⟩ (d_events9 l dC dI ad cid a2 lx sg gm lg 0 (st9 gm) S kI (iv_k (by decide) : iv 0 0 0) hSS9.1) (cwV 0 htb (gd_V kw_501 kw_502 kw_503 kw_146 kw_1409) rfl rfl rfl (by decide +kernel) ⟨Nat.le_of_ble_eq_true rfl, Nat.le_of_ble_eq_true rfl⟩) (iv_k (by decide) : iv 0 0 0) rfl hl.1 rfl (Nat.le_trans cs_n (by decide)) dL_law_650 ⟨(show 10000 + 3 * it + PHs gm + 1 ≤ 601024 from by have := PHs_le kI; omega), (show 400000 + 18 * it + 4 * PHs gm + 6 ≤ 7293034 from by have := PHs_le kI; omega)⟩ hK hP hD hS hA hG (fun _ _ h9 => h9) (fun v9 u H locs hw hP hD hS => ?_)
  obtain ⟨r9, rfl, rfl, hr9, fE⟩ := hw
  have hKI2 : KI (it + 1) lx sg gm lg := KI_of (Ls := []) (Lg := []) (Ll := []) hKI kI KS_rf KS_rf KS_rf (by decide) (by decide) (by decide)
  have hph : PHs gm ≤ PHs gm := Nat.le_refl _
  have hP : va_P (dC, dI) vwCl (cW ad cid a2 lx sg gm lg ++ (mW h0 adm cidm sm gn ln ++ [(qo, oE cO f)])) H := hP
  have hD : va_D A (cW ad cid a2 lx sg gm lg ++ (mW h0 adm cidm sm gn ln ++ [(qo, oE cO f)])) := hD
  refine W.eq (g2 := F0 m 653 ls [.int r9]) rfl ?_
  refine lv_pop hx hb dL_law_653 (cat_i _) ?_
  refine lv_aload_n hx hb dL_law_654 rfl (lv_at hl 2 rfl) ?_
  refine lw_callM (w := cW ad cid a2 lx sg gm lg) (tw := cT cid) (r := [(qo, oE cO f)]) (tr := [(cO, .long)]) (rest := []) (as := []) ⟨hx, hb, hml, hown, htb⟩ (f_events9 l dC dI h0 adm cidm sm gn ln (st9 gm) lg S hRI.1 hSS9.2.1) (cwV 0 htb (gd_V kw_1329 kw_1330 kw_1331 kw_160 kw_1659) rfl rfl rfl (by decide +kernel) ⟨Nat.le_of_ble_eq_true rfl, Nat.le_of_ble_eq_true rfl⟩) rfl hl.1 rfl (Nat.le_trans cs_n (by decide)) dL_law_655 ⟨(show 10000 + 3 * it + PHs gm ≤ 601024 from by have := PHs_le kI; omega), (show 400000 + 18 * it + 4 * PHs gm ≤ 7293034 from by have := PHs_le kI; omega)⟩ hK hP hD hS hA (fun r8 u8 H locs hw hP hD hS => ?_)
  obtain ⟨sm9, gn9, ln9, rfl, hI8, j1, j2, j3, gE, gRR⟩ := hw
  have hRI2 : RI sm9 gn9 ln9 := RI_of hRI hI8 (PR_k hRI.2.1 (j2 6 (by decide))) j1 j2 j3 (by decide) (by decide) (by decide) (by decide) (by decide) (by decide) (by decide) (by decide) (by decide) (by decide)
  have hP : va_P (dC, dI) vwCl (cW ad cid a2 lx sg gm lg ++ (mW h0 adm cidm sm9 gn9 ln9 ++ [(qo, oE cO f)])) H := hP
  have hD : va_D A (cW ad cid a2 lx sg gm lg ++ (mW h0 adm cidm sm9 gn9 ln9 ++ [(qo, oE cO f)])) := hD
  refine lv_pop hx hb dL_law_658 (cat_i _) ?_
  refine lv_goto (tgt := 773) hx hb dL_law_659 (by decide) ?_
  have hREL2 : REL sg gm lg sm9 gn9 ln9 := REL_k hREL (TXR_k h79.1 ((KS_rf (L := []) (f := sg)) 0 (by decide)) ((KS_rf (L := []) (f := gm)) 43 (by decide)) (j1 20 (by decide)) (j2 19 (by decide))) (CLX_k hX9 (KS_rf (L := [])) j2 (by decide) (by decide)) (KS_rf (L := [])) (KS_rf (L := [])) (KS_rf (L := [])) j1 j2 j3 (by decide) (by decide) (by decide) (by decide)
  refine W.widen (k := 10000 + 3 * (it + 1) + PHs gm) (n := 400000 + 18 * (it + 1) + 4 * PHs gm) (show 10000 + 3 * it + PHs gm ≤ _ from by omega) (show 400000 + 18 * it + 4 * PHs gm ≤ _ from by omega) ?_
  exact kont a2 lx sg gm lg sm9 gn9 ln9 f _ _ _ hKI2 hRI2 hREL2 hP hD hS (lv_sub hl [0, 1, 2, 3, 4] rfl)

set_option maxHeartbeats 4000000 in
set_option maxRecDepth 100000 in
theorem d_law12 {p : Program} {l : Launch} {e : Env} {s : State} {m : MethodId} {below : List Frame} {meth : Method} {c : Code} {b L : Nat} {xs : Nat → Int32} {dC : Nat → ClassId} {dI : Nat → Nat → Nat} {ad : Nat → Nat → Nat} {cid : Nat → ClassId} {h0 : Nat} {adm : Nat → Nat} {cidm : Nat → ClassId} {cO : ClassId} {qo : Nat} {A : Nat → Prop} (hl9 : l.stackTraces = false) (C0 : lw_At p s m meth c b L xs) (hL : L ≤ 4608) (hA : ∀ q : Nat, s.heap.size ≤ q → A q) (hbA : ¬ A b) (hG : CE ad A s) (hN9 : NE s) (hK : va_K (dC, dI) vwCl (cT cid ++ (mT cidm ++ [(cO, .long)])) s) (it : Nat) (i : Int32) (hit : it ≤ 511) (hi : i.toInt = 9 * (it : Int)) (hiL : i.toInt + 9 ≤ (L : Int)) (a2 : Nat → Nat) (lx : List Nat) (sg : Nat → Int32) (gm : Nat → Nat → Int32) (lg : Nat → Nat → Int64) (sm : Nat → Int32) (gn : Nat → Nat → Int32) (ln : Nat → Nat → Int64) (f : Nat → Int64) (H : Heap) (locs : List Loc) (ls : Array Slot) (hKI : KI it lx sg gm lg) (hRI : RI sm gn ln) (hREL : REL sg gm lg sm gn ln) (hP : va_P (dC, dI) vwCl (cW ad cid a2 lx sg gm lg ++ (mW h0 adm cidm sm gn ln ++ [(qo, oE cO f)])) H) (hD : va_D A (cW ad cid a2 lx sg gm lg ++ (mW h0 adm cidm sm gn ln ++ [(qo, oE cO f)]))) (hS : va_S A s.heap H locs) (hl : lv_has ls 7 [(4, .int i), (3, .ref qo), (2, .ref h0), (1, eV (ad 0) 0), (0, .ref b)]) (kont : ∀ (a2 : Nat → Nat) (lx : List Nat) (sg : Nat → Int32) (gm : Nat → Nat → Int32) (lg : Nat → Nat → Int64) (sm : Nat → Int32) (gn : Nat → Nat → Int32) (ln : Nat → Nat → Int64) (f : Nat → Int64) (H : Heap) (locs : List Loc) (ls : Array Slot), KI (it + 1) lx sg gm lg → RI sm gn ln → REL sg gm lg sm gn ln → va_P (dC, dI) vwCl (cW ad cid a2 lx sg gm lg ++ (mW h0 adm cidm sm gn ln ++ [(qo, oE cO f)])) H → va_D A (cW ad cid a2 lx sg gm lg ++ (mW h0 adm cidm sm gn ln ++ [(qo, oE cO f)])) → va_S A s.heap H locs → lv_has ls 7 [(4, .int i), (3, .ref qo), (2, .ref h0), (1, eV (ad 0) 0), (0, .ref b)] → W p l e room_1 s m #[Value.ref b] below meth c H locs (10000 + 3 * (it + 1) + PHs gm) (400000 + 18 * (it + 1) + 4 * PHs gm) (lw_Z below #[Value.ref b] s) (F0 m 773 ls [])) : W p l e room_1 s m #[Value.ref b] below meth c H locs (10000 + 3 * it + PHs gm) (400000 + 18 * it + 4 * PHs gm) (lw_Z below #[Value.ref b] s) (F0 m 662 ls []) := by
  obtain ⟨hx, hb, hr, hml, hown, hts, hX, hbl, hlocks, hgv⟩ := C0
  have hown : s.vm.findClass RL = some m.cls := hown
  have htb := fun (w : Cond) (h : w ∈ tb) => hts w (tb_in w h)
  have kI := hKI.1
  have hiv : iv 0 4599 i := ⟨by omega, by omega⟩
  obtain ⟨h79, hX9, hN289, hDC9, S, hSS9⟩ := id hREL
  obtain ⟨hSV9, hBR9, hSB9⟩ := REL_q hDC9
  have hXs9 := CLX_st hX9
  refine ec_aload_n hx hb dL_law_662 rfl (lv_at hl 3 rfl) ?_
  refine lv_aload_n hx hb dL_law_663 rfl (lv_at hl 4 rfl) ?_
  refine lv_iload hx hb dL_law_664 (lv_at hl 0 rfl) ?_
  refine lv_iconst (v := 1) hx hb dL_law_666 (by decide) ?_
  refine lv_iadd hx hb dL_law_667 ?_
  refine lv_topi (fun z_1 ez_1 => ?_)
  have tz_1 : z_1.toInt = i.toInt + 1 := by rw [ez_1]; exact iv_addE hiv (iv_k (by decide) : iv 1 1 1) (by decide)
  refine va_sld hx hb hX hbl hbA hS (vp_in_iff.mpr ⟨by omega, by omega⟩) dL_law_668 ?_
  refine lv_topi (fun v_2 ev_2 => ?_)
  refine lv_aload_n hx hb dL_law_669 rfl (lv_at hl 4 rfl) ?_
  refine lv_iload hx hb dL_law_670 (lv_at hl 0 rfl) ?_
  refine lv_iconst (v := 2) hx hb dL_law_672 (by decide) ?_
  refine lv_iadd hx hb dL_law_673 ?_
  refine lv_topi (fun z_3 ez_3 => ?_)
  have tz_3 : z_3.toInt = i.toInt + 2 := by rw [ez_3]; exact iv_addE hiv (iv_k (by decide) : iv 2 2 2) (by decide)
  refine va_sld hx hb hX hbl hbA hS (vp_in_iff.mpr ⟨by omega, by omega⟩) dL_law_674 ?_
  refine lv_topi (fun v_4 ev_4 => ?_)
  refine lw_callT (r := (mW h0 adm cidm sm gn ln ++ [(qo, oE cO f)])) (tr := mT cidm ++ [(cO, .long)]) (rest := []) (as := [.int v_2, .int v_4]) ⟨hx, hb, hml, hown, htb⟩ (d_event9 l dC dI ad cid a2 lx sg gm lg 0 v_2 v_4 (st9 gm) S kI (iv_k (by decide) : iv 0 0 0) hSS9.1) (cwV 2 htb (gd_V kw_504 kw_505 kw_506 kw_146 kw_1410) rfl rfl rfl (by decide +kernel) ⟨Nat.le_of_ble_eq_true rfl, Nat.le_of_ble_eq_true rfl⟩) (iv_k (by decide) : iv 0 0 0) rfl hl.1 rfl (Nat.le_trans cs_n (by decide)) dL_law_675 ⟨(show 10000 + 3 * it + PHs gm + 1 ≤ 601024 from by have := PHs_le kI; omega), (show 400000 + 18 * it + 4 * PHs gm + 6 ≤ 7293034 from by have := PHs_le kI; omega)⟩ hK hP hD hS hA hG (fun _ _ h9 => h9) (fun v9 u H locs hw hP hD hS => ?_)
  obtain ⟨r9, rfl, rfl, fE⟩ := hw
  have hKI2 : KI (it + 1) lx sg gm lg := KI_of (Ls := []) (Lg := []) (Ll := []) hKI kI KS_rf KS_rf KS_rf (by decide) (by decide) (by decide)
  have hph : PHs gm ≤ PHs gm := Nat.le_refl _
  have hP : va_P (dC, dI) vwCl (cW ad cid a2 lx sg gm lg ++ (mW h0 adm cidm sm gn ln ++ [(qo, oE cO f)])) H := hP
  have hD : va_D A (cW ad cid a2 lx sg gm lg ++ (mW h0 adm cidm sm gn ln ++ [(qo, oE cO f)])) := hD
  refine W.eq (g2 := F0 m 678 ls [.int r9]) rfl ?_
  refine lv_pop hx hb dL_law_678 (cat_i _) ?_
  refine lv_aload_n hx hb dL_law_679 rfl (lv_at hl 2 rfl) ?_
  refine lv_aload_n hx hb dL_law_680 rfl (lv_at hl 4 rfl) ?_
  refine lv_iload hx hb dL_law_681 (lv_at hl 0 rfl) ?_
  refine lv_iconst (v := 1) hx hb dL_law_683 (by decide) ?_
  refine lv_iadd hx hb dL_law_684 ?_
  refine lv_topi (fun z_5 ez_5 => ?_)
  have tz_5 : z_5.toInt = i.toInt + 1 := by rw [ez_5]; exact iv_addE hiv (iv_k (by decide) : iv 1 1 1) (by decide)
  refine va_sld hx hb hX hbl hbA hS (vp_in_iff.mpr ⟨by omega, by omega⟩) dL_law_685 ?_
  refine W.eq (g2 := F0 m 686 ls [.int v_2, .ref h0]) (by rw [ev_2, show z_5 = z_1 from Int32.toInt_inj.mp (by omega)]) ?_
  refine lv_aload_n hx hb dL_law_686 rfl (lv_at hl 4 rfl) ?_
  refine lv_iload hx hb dL_law_687 (lv_at hl 0 rfl) ?_
  refine lv_iconst (v := 2) hx hb dL_law_689 (by decide) ?_
  refine lv_iadd hx hb dL_law_690 ?_
  refine lv_topi (fun z_6 ez_6 => ?_)
  have tz_6 : z_6.toInt = i.toInt + 2 := by rw [ez_6]; exact iv_addE hiv (iv_k (by decide) : iv 2 2 2) (by decide)
  refine va_sld hx hb hX hbl hbA hS (vp_in_iff.mpr ⟨by omega, by omega⟩) dL_law_691 ?_
  refine W.eq (g2 := F0 m 692 ls [.int v_4, .int v_2, .ref h0]) (by rw [ev_4, show z_6 = z_3 from Int32.toInt_inj.mp (by omega)]) ?_
  refine lw_callM (w := cW ad cid a2 lx sg gm lg) (tw := cT cid) (r := [(qo, oE cO f)]) (tr := [(cO, .long)]) (rest := []) (as := [.int v_2, .int v_4]) ⟨hx, hb, hml, hown, htb⟩ (f_event9 l dC dI h0 adm cidm sm gn ln v_2 v_4 (st9 gm) lg S hRI.1 hSS9.2.1) (cwV 2 htb (gd_V kw_1332 kw_1333 kw_1334 kw_160 kw_1660) rfl rfl rfl (by decide +kernel) ⟨Nat.le_of_ble_eq_true rfl, Nat.le_of_ble_eq_true rfl⟩) rfl hl.1 rfl (Nat.le_trans cs_n (by decide)) dL_law_692 ⟨(show 10000 + 3 * it + PHs gm ≤ 601024 from by have := PHs_le kI; omega), (show 400000 + 18 * it + 4 * PHs gm ≤ 7293034 from by have := PHs_le kI; omega)⟩ hK hP hD hS hA (fun r8 u8 H locs hw hP hD hS => ?_)
  obtain ⟨sm9, gn9, ln9, rfl, hI8, j1, j2, j3, gE, gRR⟩ := hw
  have hRI2 : RI sm9 gn9 ln9 := RI_of hRI hI8 (PR_k hRI.2.1 (j2 6 (by decide))) j1 j2 j3 (by decide) (by decide) (by decide) (by decide) (by decide) (by decide) (by decide) (by decide) (by decide) (by decide)
  have hP : va_P (dC, dI) vwCl (cW ad cid a2 lx sg gm lg ++ (mW h0 adm cidm sm9 gn9 ln9 ++ [(qo, oE cO f)])) H := hP
  have hD : va_D A (cW ad cid a2 lx sg gm lg ++ (mW h0 adm cidm sm9 gn9 ln9 ++ [(qo, oE cO f)])) := hD
  refine lv_pop hx hb dL_law_695 (cat_i _) ?_
  refine lv_goto (tgt := 773) hx hb dL_law_696 (by decide) ?_
  have hREL2 : REL sg gm lg sm9 gn9 ln9 := REL_k hREL (TXR_k h79.1 ((KS_rf (L := []) (f := sg)) 0 (by decide)) ((KS_rf (L := []) (f := gm)) 43 (by decide)) (j1 20 (by decide)) (j2 19 (by decide))) (CLX_k hX9 (KS_rf (L := [])) j2 (by decide) (by decide)) (KS_rf (L := [])) (KS_rf (L := [])) (KS_rf (L := [])) j1 j2 j3 (by decide) (by decide) (by decide) (by decide)
  refine W.widen (k := 10000 + 3 * (it + 1) + PHs gm) (n := 400000 + 18 * (it + 1) + 4 * PHs gm) (show 10000 + 3 * it + PHs gm ≤ _ from by omega) (show 400000 + 18 * it + 4 * PHs gm ≤ _ from by omega) ?_
  exact kont a2 lx sg gm lg sm9 gn9 ln9 f _ _ _ hKI2 hRI2 hREL2 hP hD hS (lv_sub hl [0, 1, 2, 3, 4] rfl)

set_option maxHeartbeats 4000000 in
set_option maxRecDepth 100000 in
theorem d_law13 {p : Program} {l : Launch} {e : Env} {s : State} {m : MethodId} {below : List Frame} {meth : Method} {c : Code} {b L : Nat} {xs : Nat → Int32} {dC : Nat → ClassId} {dI : Nat → Nat → Nat} {ad : Nat → Nat → Nat} {cid : Nat → ClassId} {h0 : Nat} {adm : Nat → Nat} {cidm : Nat → ClassId} {cO : ClassId} {qo : Nat} {A : Nat → Prop} (hl9 : l.stackTraces = false) (C0 : lw_At p s m meth c b L xs) (hL : L ≤ 4608) (hA : ∀ q : Nat, s.heap.size ≤ q → A q) (hbA : ¬ A b) (hG : CE ad A s) (hN9 : NE s) (hK : va_K (dC, dI) vwCl (cT cid ++ (mT cidm ++ [(cO, .long)])) s) (it : Nat) (i : Int32) (hit : it ≤ 511) (hi : i.toInt = 9 * (it : Int)) (hiL : i.toInt + 9 ≤ (L : Int)) (a2 : Nat → Nat) (lx : List Nat) (sg : Nat → Int32) (gm : Nat → Nat → Int32) (lg : Nat → Nat → Int64) (sm : Nat → Int32) (gn : Nat → Nat → Int32) (ln : Nat → Nat → Int64) (f : Nat → Int64) (H : Heap) (locs : List Loc) (ls : Array Slot) (hKI : KI it lx sg gm lg) (hRI : RI sm gn ln) (hREL : REL sg gm lg sm gn ln) (hP : va_P (dC, dI) vwCl (cW ad cid a2 lx sg gm lg ++ (mW h0 adm cidm sm gn ln ++ [(qo, oE cO f)])) H) (hD : va_D A (cW ad cid a2 lx sg gm lg ++ (mW h0 adm cidm sm gn ln ++ [(qo, oE cO f)]))) (hS : va_S A s.heap H locs) (hl : lv_has ls 7 [(4, .int i), (3, .ref qo), (2, .ref h0), (1, eV (ad 0) 0), (0, .ref b)]) (kont : ∀ (a2 : Nat → Nat) (lx : List Nat) (sg : Nat → Int32) (gm : Nat → Nat → Int32) (lg : Nat → Nat → Int64) (sm : Nat → Int32) (gn : Nat → Nat → Int32) (ln : Nat → Nat → Int64) (f : Nat → Int64) (H : Heap) (locs : List Loc) (ls : Array Slot), KI (it + 1) lx sg gm lg → RI sm gn ln → REL sg gm lg sm gn ln → va_P (dC, dI) vwCl (cW ad cid a2 lx sg gm lg ++ (mW h0 adm cidm sm gn ln ++ [(qo, oE cO f)])) H → va_D A (cW ad cid a2 lx sg gm lg ++ (mW h0 adm cidm sm gn ln ++ [(qo, oE cO f)])) → va_S A s.heap H locs → lv_has ls 7 [(4, .int i), (3, .ref qo), (2, .ref h0), (1, eV (ad 0) 0), (0, .ref b)] → W p l e room_1 s m #[Value.ref b] below meth c H locs (10000 + 3 * (it + 1) + PHs gm) (400000 + 18 * (it + 1) + 4 * PHs gm) (lw_Z below #[Value.ref b] s) (F0 m 773 ls [])) : W p l e room_1 s m #[Value.ref b] below meth c H locs (10000 + 3 * it + PHs gm) (400000 + 18 * it + 4 * PHs gm) (lw_Z below #[Value.ref b] s) (F0 m 699 ls []) := by
  obtain ⟨hx, hb, hr, hml, hown, hts, hX, hbl, hlocks, hgv⟩ := C0
  have hown : s.vm.findClass RL = some m.cls := hown
  have htb := fun (w : Cond) (h : w ∈ tb) => hts w (tb_in w h)
  have kI := hKI.1
  have hiv : iv 0 4599 i := ⟨by omega, by omega⟩
  obtain ⟨h79, hX9, hN289, hDC9, S, hSS9⟩ := id hREL
  obtain ⟨hSV9, hBR9, hSB9⟩ := REL_q hDC9
  have hXs9 := CLX_st hX9
  refine ec_aload_n hx hb dL_law_699 rfl (lv_at hl 3 rfl) ?_
  refine lv_aload_n hx hb dL_law_700 rfl (lv_at hl 4 rfl) ?_
  refine lv_iload hx hb dL_law_701 (lv_at hl 0 rfl) ?_
  refine lv_iconst (v := 1) hx hb dL_law_703 (by decide) ?_
  refine lv_iadd hx hb dL_law_704 ?_
  refine lv_topi (fun z_1 ez_1 => ?_)
  have tz_1 : z_1.toInt = i.toInt + 1 := by rw [ez_1]; exact iv_addE hiv (iv_k (by decide) : iv 1 1 1) (by decide)
  refine va_sld hx hb hX hbl hbA hS (vp_in_iff.mpr ⟨by omega, by omega⟩) dL_law_705 ?_
  refine lv_topi (fun v_2 ev_2 => ?_)
  refine lv_aload_n hx hb dL_law_706 rfl (lv_at hl 4 rfl) ?_
  refine lv_iload hx hb dL_law_707 (lv_at hl 0 rfl) ?_
  refine lv_iconst (v := 2) hx hb dL_law_709 (by decide) ?_
  refine lv_iadd hx hb dL_law_710 ?_
  refine lv_topi (fun z_3 ez_3 => ?_)
  have tz_3 : z_3.toInt = i.toInt + 2 := by rw [ez_3]; exact iv_addE hiv (iv_k (by decide) : iv 2 2 2) (by decide)
  refine va_sld hx hb hX hbl hbA hS (vp_in_iff.mpr ⟨by omega, by omega⟩) dL_law_711 ?_
  refine lv_topi (fun v_4 ev_4 => ?_)
  refine lw_callT (r := (mW h0 adm cidm sm gn ln ++ [(qo, oE cO f)])) (tr := mT cidm ++ [(cO, .long)]) (rest := []) (as := [.int v_2, .int v_4]) ⟨hx, hb, hml, hown, htb⟩ (d_object9 l dC dI ad cid a2 lx sg gm lg 0 v_2 v_4 (st9 gm) S kI (iv_k (by decide) : iv 0 0 0) hSS9.1) (cwV 2 htb (gd_V kw_510 kw_511 kw_512 kw_146 kw_1412) rfl rfl rfl (by decide +kernel) ⟨Nat.le_of_ble_eq_true rfl, Nat.le_of_ble_eq_true rfl⟩) (iv_k (by decide) : iv 0 0 0) rfl hl.1 rfl (Nat.le_trans cs_n (by decide)) dL_law_712 ⟨(show 10000 + 3 * it + PHs gm + 1 ≤ 601024 from by have := PHs_le kI; omega), (show 400000 + 18 * it + 4 * PHs gm + 6 ≤ 7293034 from by have := PHs_le kI; omega)⟩ hK hP hD hS hA hG (fun _ _ h9 => h9) (fun v9 u H locs hw hP hD hS => ?_)
  obtain ⟨r9, rfl, rfl, hr9, fO⟩ := hw
  have hKI2 : KI (it + 1) lx sg gm lg := KI_of (Ls := []) (Lg := []) (Ll := []) hKI kI KS_rf KS_rf KS_rf (by decide) (by decide) (by decide)
  have hph : PHs gm ≤ PHs gm := Nat.le_refl _
  have hP : va_P (dC, dI) vwCl (cW ad cid a2 lx sg gm lg ++ (mW h0 adm cidm sm gn ln ++ [(qo, oE cO f)])) H := hP
  have hD : va_D A (cW ad cid a2 lx sg gm lg ++ (mW h0 adm cidm sm gn ln ++ [(qo, oE cO f)])) := hD
  refine W.eq (g2 := F0 m 715 ls [.int r9]) rfl ?_
  refine lv_aload_n hx hb dL_law_715 rfl (lv_at hl 2 rfl) ?_
  refine lv_aload_n hx hb dL_law_716 rfl (lv_at hl 4 rfl) ?_
  refine lv_iload hx hb dL_law_717 (lv_at hl 0 rfl) ?_
  refine lv_iconst (v := 1) hx hb dL_law_719 (by decide) ?_
  refine lv_iadd hx hb dL_law_720 ?_
  refine lv_topi (fun z_5 ez_5 => ?_)
  have tz_5 : z_5.toInt = i.toInt + 1 := by rw [ez_5]; exact iv_addE hiv (iv_k (by decide) : iv 1 1 1) (by decide)
  refine va_sld hx hb hX hbl hbA hS (vp_in_iff.mpr ⟨by omega, by omega⟩) dL_law_721 ?_
  refine W.eq (g2 := F0 m 722 ls [.int v_2, .ref h0, .int r9]) (by rw [ev_2, show z_5 = z_1 from Int32.toInt_inj.mp (by omega)]) ?_
  refine lv_aload_n hx hb dL_law_722 rfl (lv_at hl 4 rfl) ?_
  refine lv_iload hx hb dL_law_723 (lv_at hl 0 rfl) ?_
  refine lv_iconst (v := 2) hx hb dL_law_725 (by decide) ?_
  refine lv_iadd hx hb dL_law_726 ?_
  refine lv_topi (fun z_6 ez_6 => ?_)
  have tz_6 : z_6.toInt = i.toInt + 2 := by rw [ez_6]; exact iv_addE hiv (iv_k (by decide) : iv 2 2 2) (by decide)
  refine va_sld hx hb hX hbl hbA hS (vp_in_iff.mpr ⟨by omega, by omega⟩) dL_law_727 ?_
  refine W.eq (g2 := F0 m 728 ls [.int v_4, .int v_2, .ref h0, .int r9]) (by rw [ev_4, show z_6 = z_3 from Int32.toInt_inj.mp (by omega)]) ?_
  refine lw_callM (w := cW ad cid a2 lx sg gm lg) (tw := cT cid) (r := [(qo, oE cO f)]) (tr := [(cO, .long)]) (rest := [.int r9]) (as := [.int v_2, .int v_4]) ⟨hx, hb, hml, hown, htb⟩ (f_object9 l dC dI h0 adm cidm sm gn ln v_2 v_4 (st9 gm) lg S hRI.1 hSS9.2.1) (cwV 2 htb (gd_V kw_1335 kw_1336 kw_1337 kw_160 kw_1661) rfl rfl rfl (by decide +kernel) ⟨Nat.le_of_ble_eq_true rfl, Nat.le_of_ble_eq_true rfl⟩) rfl hl.1 rfl (Nat.le_trans (cs_c (cat_i _) cs_n) (by decide)) dL_law_728 ⟨(show 10000 + 3 * it + PHs gm ≤ 601024 from by have := PHs_le kI; omega), (show 400000 + 18 * it + 4 * PHs gm ≤ 7293034 from by have := PHs_le kI; omega)⟩ hK hP hD hS hA (fun r8 u8 H locs hw hP hD hS => ?_)
  obtain ⟨sm9, gn9, ln9, rfl, hI8, j1, j2, j3, gE, gRR⟩ := hw
  have hRI2 : RI sm9 gn9 ln9 := RI_of hRI hI8 (PR_k hRI.2.1 (j2 6 (by decide))) j1 j2 j3 (by decide) (by decide) (by decide) (by decide) (by decide) (by decide) (by decide) (by decide) (by decide) (by decide)
  have hP : va_P (dC, dI) vwCl (cW ad cid a2 lx sg gm lg ++ (mW h0 adm cidm sm9 gn9 ln9 ++ [(qo, oE cO f)])) H := hP
  have hD : va_D A (cW ad cid a2 lx sg gm lg ++ (mW h0 adm cidm sm9 gn9 ln9 ++ [(qo, oE cO f)])) := hD
  refine lv_icmp_eq (tgt := 773) hx hb dL_law_731 (by decide) (fun c_7 => ?_) (fun c_7 => absurd (Int32.toInt_inj.mp (fO.trans gE.symm)) c_7)
  have hREL2 : REL sg gm lg sm9 gn9 ln9 := REL_k hREL (TXR_k h79.1 ((KS_rf (L := []) (f := sg)) 0 (by decide)) ((KS_rf (L := []) (f := gm)) 43 (by decide)) (j1 20 (by decide)) (j2 19 (by decide))) (CLX_k hX9 (KS_rf (L := [])) j2 (by decide) (by decide)) (KS_rf (L := [])) (KS_rf (L := [])) (KS_rf (L := [])) j1 j2 j3 (by decide) (by decide) (by decide) (by decide)
  refine W.widen (k := 10000 + 3 * (it + 1) + PHs gm) (n := 400000 + 18 * (it + 1) + 4 * PHs gm) (show 10000 + 3 * it + PHs gm ≤ _ from by omega) (show 400000 + 18 * it + 4 * PHs gm ≤ _ from by omega) ?_
  exact kont a2 lx sg gm lg sm9 gn9 ln9 f _ _ _ hKI2 hRI2 hREL2 hP hD hS (lv_sub hl [0, 1, 2, 3, 4] rfl)

set_option maxHeartbeats 4000000 in
set_option maxRecDepth 100000 in
theorem d_law14 {p : Program} {l : Launch} {e : Env} {s : State} {m : MethodId} {below : List Frame} {meth : Method} {c : Code} {b L : Nat} {xs : Nat → Int32} {dC : Nat → ClassId} {dI : Nat → Nat → Nat} {ad : Nat → Nat → Nat} {cid : Nat → ClassId} {h0 : Nat} {adm : Nat → Nat} {cidm : Nat → ClassId} {cO : ClassId} {qo : Nat} {A : Nat → Prop} (hl9 : l.stackTraces = false) (C0 : lw_At p s m meth c b L xs) (hL : L ≤ 4608) (hA : ∀ q : Nat, s.heap.size ≤ q → A q) (hbA : ¬ A b) (hG : CE ad A s) (hN9 : NE s) (hK : va_K (dC, dI) vwCl (cT cid ++ (mT cidm ++ [(cO, .long)])) s) (it : Nat) (i : Int32) (hit : it ≤ 511) (hi : i.toInt = 9 * (it : Int)) (hiL : i.toInt + 9 ≤ (L : Int)) (a2 : Nat → Nat) (lx : List Nat) (sg : Nat → Int32) (gm : Nat → Nat → Int32) (lg : Nat → Nat → Int64) (sm : Nat → Int32) (gn : Nat → Nat → Int32) (ln : Nat → Nat → Int64) (f : Nat → Int64) (H : Heap) (locs : List Loc) (ls : Array Slot) (hKI : KI it lx sg gm lg) (hRI : RI sm gn ln) (hREL : REL sg gm lg sm gn ln) (hP : va_P (dC, dI) vwCl (cW ad cid a2 lx sg gm lg ++ (mW h0 adm cidm sm gn ln ++ [(qo, oE cO f)])) H) (hD : va_D A (cW ad cid a2 lx sg gm lg ++ (mW h0 adm cidm sm gn ln ++ [(qo, oE cO f)]))) (hS : va_S A s.heap H locs) (hl : lv_has ls 7 [(4, .int i), (3, .ref qo), (2, .ref h0), (1, eV (ad 0) 0), (0, .ref b)]) (kont : ∀ (a2 : Nat → Nat) (lx : List Nat) (sg : Nat → Int32) (gm : Nat → Nat → Int32) (lg : Nat → Nat → Int64) (sm : Nat → Int32) (gn : Nat → Nat → Int32) (ln : Nat → Nat → Int64) (f : Nat → Int64) (H : Heap) (locs : List Loc) (ls : Array Slot), KI (it + 1) lx sg gm lg → RI sm gn ln → REL sg gm lg sm gn ln → va_P (dC, dI) vwCl (cW ad cid a2 lx sg gm lg ++ (mW h0 adm cidm sm gn ln ++ [(qo, oE cO f)])) H → va_D A (cW ad cid a2 lx sg gm lg ++ (mW h0 adm cidm sm gn ln ++ [(qo, oE cO f)])) → va_S A s.heap H locs → lv_has ls 7 [(4, .int i), (3, .ref qo), (2, .ref h0), (1, eV (ad 0) 0), (0, .ref b)] → W p l e room_1 s m #[Value.ref b] below meth c H locs (10000 + 3 * (it + 1) + PHs gm) (400000 + 18 * (it + 1) + 4 * PHs gm) (lw_Z below #[Value.ref b] s) (F0 m 773 ls [])) : W p l e room_1 s m #[Value.ref b] below meth c H locs (10000 + 3 * it + PHs gm) (400000 + 18 * it + 4 * PHs gm) (lw_Z below #[Value.ref b] s) (F0 m 736 ls []) := by
  obtain ⟨hx, hb, hr, hml, hown, hts, hX, hbl, hlocks, hgv⟩ := C0
  have hown : s.vm.findClass RL = some m.cls := hown
  have htb := fun (w : Cond) (h : w ∈ tb) => hts w (tb_in w h)
  have kI := hKI.1
  have hiv : iv 0 4599 i := ⟨by omega, by omega⟩
  obtain ⟨h79, hX9, hN289, hDC9, S, hSS9⟩ := id hREL
  obtain ⟨hSV9, hBR9, hSB9⟩ := REL_q hDC9
  have hXs9 := CLX_st hX9
  refine ec_aload_n hx hb dL_law_736 rfl (lv_at hl 3 rfl) ?_
  refine lv_aload_n hx hb dL_law_737 rfl (lv_at hl 4 rfl) ?_
  refine lv_iload hx hb dL_law_738 (lv_at hl 0 rfl) ?_
  refine lv_iconst (v := 1) hx hb dL_law_740 (by decide) ?_
  refine lv_iadd hx hb dL_law_741 ?_
  refine lv_topi (fun z_1 ez_1 => ?_)
  have tz_1 : z_1.toInt = i.toInt + 1 := by rw [ez_1]; exact iv_addE hiv (iv_k (by decide) : iv 1 1 1) (by decide)
  refine va_sld hx hb hX hbl hbA hS (vp_in_iff.mpr ⟨by omega, by omega⟩) dL_law_742 ?_
  refine lv_topi (fun v_2 ev_2 => ?_)
  refine lv_aload_n hx hb dL_law_743 rfl (lv_at hl 4 rfl) ?_
  refine lv_iload hx hb dL_law_744 (lv_at hl 0 rfl) ?_
  refine lv_iconst (v := 2) hx hb dL_law_746 (by decide) ?_
  refine lv_iadd hx hb dL_law_747 ?_
  refine lv_topi (fun z_3 ez_3 => ?_)
  have tz_3 : z_3.toInt = i.toInt + 2 := by rw [ez_3]; exact iv_addE hiv (iv_k (by decide) : iv 2 2 2) (by decide)
  refine va_sld hx hb hX hbl hbA hS (vp_in_iff.mpr ⟨by omega, by omega⟩) dL_law_748 ?_
  refine lv_topi (fun v_4 ev_4 => ?_)
  refine lw_callT (r := (mW h0 adm cidm sm gn ln ++ [(qo, oE cO f)])) (tr := mT cidm ++ [(cO, .long)]) (rest := []) (as := [.int v_2, .int v_4]) ⟨hx, hb, hml, hown, htb⟩ (d_bean l dC dI ad cid a2 lx sg gm lg 0 v_2 v_4 kI (iv_k (by decide) : iv 0 0 0) hKI.2.2.2.1) (cwV 2 htb (gd_V kw_521 kw_522 kw_523 kw_146 kw_1416) rfl rfl rfl (by decide +kernel) ⟨Nat.le_of_ble_eq_true rfl, Nat.le_of_ble_eq_true rfl⟩) (iv_k (by decide) : iv 0 0 0) rfl hl.1 rfl (Nat.le_trans cs_n (by decide)) dL_law_749 ⟨(show 10000 + 3 * it + PHs gm + 1 ≤ 601024 from by have := PHs_le kI; omega), (show 400000 + 18 * it + 4 * PHs gm + 6 ≤ 7293034 from by have := PHs_le kI; omega)⟩ hK hP hD hS hA hG (fun _ _ h9 => h9) (fun v9 u H locs hw hP hD hS => ?_)
  obtain ⟨r9, rfl, rfl, hr9⟩ := hw
  have hKI2 : KI (it + 1) lx sg gm lg := KI_of (Ls := []) (Lg := []) (Ll := []) hKI kI KS_rf KS_rf KS_rf (by decide) (by decide) (by decide)
  have hph : PHs gm ≤ PHs gm := Nat.le_refl _
  have hP : va_P (dC, dI) vwCl (cW ad cid a2 lx sg gm lg ++ (mW h0 adm cidm sm gn ln ++ [(qo, oE cO f)])) H := hP
  have hD : va_D A (cW ad cid a2 lx sg gm lg ++ (mW h0 adm cidm sm gn ln ++ [(qo, oE cO f)])) := hD
  refine W.eq (g2 := F0 m 752 ls [.int r9]) rfl ?_
  refine lv_pop hx hb dL_law_752 (cat_i _) ?_
  refine lv_aload_n hx hb dL_law_753 rfl (lv_at hl 2 rfl) ?_
  refine lv_aload_n hx hb dL_law_754 rfl (lv_at hl 4 rfl) ?_
  refine lv_iload hx hb dL_law_755 (lv_at hl 0 rfl) ?_
  refine lv_iconst (v := 1) hx hb dL_law_757 (by decide) ?_
  refine lv_iadd hx hb dL_law_758 ?_
  refine lv_topi (fun z_5 ez_5 => ?_)
  have tz_5 : z_5.toInt = i.toInt + 1 := by rw [ez_5]; exact iv_addE hiv (iv_k (by decide) : iv 1 1 1) (by decide)
  refine va_sld hx hb hX hbl hbA hS (vp_in_iff.mpr ⟨by omega, by omega⟩) dL_law_759 ?_
  refine W.eq (g2 := F0 m 760 ls [.int v_2, .ref h0]) (by rw [ev_2, show z_5 = z_1 from Int32.toInt_inj.mp (by omega)]) ?_
  refine lv_aload_n hx hb dL_law_760 rfl (lv_at hl 4 rfl) ?_
  refine lv_iload hx hb dL_law_761 (lv_at hl 0 rfl) ?_
  refine lv_iconst (v := 2) hx hb dL_law_763 (by decide) ?_
  refine lv_iadd hx hb dL_law_764 ?_
  refine lv_topi (fun z_6 ez_6 => ?_)
  have tz_6 : z_6.toInt = i.toInt + 2 := by rw [ez_6]; exact iv_addE hiv (iv_k (by decide) : iv 2 2 2) (by decide)
  refine va_sld hx hb hX hbl hbA hS (vp_in_iff.mpr ⟨by omega, by omega⟩) dL_law_765 ?_
  refine W.eq (g2 := F0 m 766 ls [.int v_4, .int v_2, .ref h0]) (by rw [ev_4, show z_6 = z_3 from Int32.toInt_inj.mp (by omega)]) ?_
  refine lw_callM (w := cW ad cid a2 lx sg gm lg) (tw := cT cid) (r := [(qo, oE cO f)]) (tr := [(cO, .long)]) (rest := []) (as := [.int v_2, .int v_4]) ⟨hx, hb, hml, hown, htb⟩ (f_bean l dC dI h0 adm cidm sm gn ln v_2 v_4 hRI.1 hRI.2.2.1 hRI.2.1 hRI.2.2.2.1 hRI.2.2.2.2) (cwV 2 htb (gd_V kw_1338 kw_1339 kw_1340 kw_160 kw_1662) rfl rfl rfl (by decide +kernel) ⟨Nat.le_of_ble_eq_true rfl, Nat.le_of_ble_eq_true rfl⟩) rfl hl.1 rfl (Nat.le_trans cs_n (by decide)) dL_law_766 ⟨(show 10000 + 3 * it + PHs gm ≤ 601024 from by have := PHs_le kI; omega), (show 400000 + 18 * it + 4 * PHs gm ≤ 7293034 from by have := PHs_le kI; omega)⟩ hK hP hD hS hA (fun r8 u8 H locs hw hP hD hS => ?_)
  obtain ⟨sm9, gn9, ln9, rfl, hI8, j1, j2, j3, gG, gM⟩ := hw
  have hRI2 : RI sm9 gn9 ln9 := RI_mk hRI hI8 gG gM j1 j2 j3 (by decide) (by decide) (by decide) (by decide) (by decide) (by decide)
  have hP : va_P (dC, dI) vwCl (cW ad cid a2 lx sg gm lg ++ (mW h0 adm cidm sm9 gn9 ln9 ++ [(qo, oE cO f)])) H := hP
  have hD : va_D A (cW ad cid a2 lx sg gm lg ++ (mW h0 adm cidm sm9 gn9 ln9 ++ [(qo, oE cO f)])) := hD
  refine lv_pop hx hb dL_law_769 (cat_i _) ?_
  refine lv_goto (tgt := 773) hx hb dL_law_770 (by decide) ?_
  have hREL2 : REL sg gm lg sm9 gn9 ln9 := REL_k hREL (TXR_k h79.1 ((KS_rf (L := []) (f := sg)) 0 (by decide)) ((KS_rf (L := []) (f := gm)) 43 (by decide)) (j1 20 (by decide)) (j2 19 (by decide))) (CLX_k hX9 (KS_rf (L := [])) j2 (by decide) (by decide)) (KS_rf (L := [])) (KS_rf (L := [])) (KS_rf (L := [])) j1 j2 j3 (by decide) (by decide) (by decide) (by decide)
  refine W.widen (k := 10000 + 3 * (it + 1) + PHs gm) (n := 400000 + 18 * (it + 1) + 4 * PHs gm) (show 10000 + 3 * it + PHs gm ≤ _ from by omega) (show 400000 + 18 * it + 4 * PHs gm ≤ _ from by omega) ?_
  exact kont a2 lx sg gm lg sm9 gn9 ln9 f _ _ _ hKI2 hRI2 hREL2 hP hD hS (lv_sub hl [0, 1, 2, 3, 4] rfl)
end
section
set_option maxHeartbeats 4000000 in
set_option maxRecDepth 100000 in
theorem d_loop {p : Program} {l : Launch} {e : Env} {s : State} {m : MethodId} {below : List Frame} {meth : Method} {c : Code} {b L : Nat} {xs : Nat → Int32} {dC : Nat → ClassId} {dI : Nat → Nat → Nat} {ad : Nat → Nat → Nat} {cid : Nat → ClassId} {h0 : Nat} {adm : Nat → Nat} {cidm : Nat → ClassId} {cO : ClassId} {qo : Nat} {A : Nat → Prop} (hl9 : l.stackTraces = false) (C0 : lw_At p s m meth c b L xs) (hL : L ≤ 4608) (hA : ∀ q : Nat, s.heap.size ≤ q → A q) (hbA : ¬ A b) (hG : CE ad A s) (hN9 : NE s) (hK : va_K (dC, dI) vwCl (cT cid ++ (mT cidm ++ [(cO, .long)])) s) (hAi : ∀ q : Nat, A q → s.heap.size ≤ q) : ∀ (n it : Nat) (i : Int32) (a2 : Nat → Nat) (lx : List Nat) (sg : Nat → Int32) (gm : Nat → Nat → Int32) (lg : Nat → Nat → Int64) (sm : Nat → Int32) (gn : Nat → Nat → Int32) (ln : Nat → Nat → Int64) (f : Nat → Int64) (H : Heap) (locs : List Loc) (ls : Array Slot), n + it = 513 → 9 * it ≤ 4608 → i.toInt = 9 * (it : Int) → KI it lx sg gm lg → RI sm gn ln → REL sg gm lg sm gn ln → va_P (dC, dI) vwCl (cW ad cid a2 lx sg gm lg ++ (mW h0 adm cidm sm gn ln ++ [(qo, oE cO f)])) H → va_D A (cW ad cid a2 lx sg gm lg ++ (mW h0 adm cidm sm gn ln ++ [(qo, oE cO f)])) → va_S A s.heap H locs → lv_has ls 7 [(4, .int i), (3, .ref qo), (2, .ref h0), (1, eV (ad 0) 0), (0, .ref b)] → W p l e room_1 s m #[Value.ref b] below meth c H locs (10000 + 3 * it + PHs gm) (400000 + 18 * it + 4 * PHs gm) (lw_Z below #[Value.ref b] s) (F0 m 23 ls []) := by
  obtain ⟨hx, hb, hr, hml, hown, hts, hX, hbl, hlocks, hgv⟩ := id C0
  intro n
  induction n with
  | zero => intro it i a2 lx sg gm lg sm gn ln f H locs ls hn h9; omega
  | succ n ih =>
    intro it i a2 lx sg gm lg sm gn ln f H locs ls hn h9 hi hKI hRI hREL hP hD hS hl
    have kI := hKI.1
    have hiv : iv 0 4608 i := ⟨by omega, by omega⟩
    have kont : ∀ (a2 : Nat → Nat) (lx : List Nat) (sg : Nat → Int32) (gm : Nat → Nat → Int32) (lg : Nat → Nat → Int64) (sm : Nat → Int32) (gn : Nat → Nat → Int32) (ln : Nat → Nat → Int64) (f : Nat → Int64) (H : Heap) (locs : List Loc) (ls : Array Slot), 9 * (it + 1) ≤ 4608 → KI (it + 1) lx sg gm lg → RI sm gn ln → REL sg gm lg sm gn ln → va_P (dC, dI) vwCl (cW ad cid a2 lx sg gm lg ++ (mW h0 adm cidm sm gn ln ++ [(qo, oE cO f)])) H → va_D A (cW ad cid a2 lx sg gm lg ++ (mW h0 adm cidm sm gn ln ++ [(qo, oE cO f)])) → va_S A s.heap H locs → lv_has ls 7 [(4, .int i), (3, .ref qo), (2, .ref h0), (1, eV (ad 0) 0), (0, .ref b)] → W p l e room_1 s m #[Value.ref b] below meth c H locs (10000 + 3 * (it + 1) + PHs gm) (400000 + 18 * (it + 1) + 4 * PHs gm) (lw_Z below #[Value.ref b] s) (F0 m 773 ls []) := by
      intro a2 lx sg gm lg sm gn ln f H locs ls h10 hKI hRI hREL hP hD hS hl
      obtain ⟨z, ez⟩ : ∃ z : Int32, z = i + 9 := ⟨_, rfl⟩
      have tz : z.toInt = i.toInt + 9 := by rw [ez]; exact iv_addE hiv (iv_k (by decide) : iv 9 9 9) (by decide)
      refine lv_iinc (v := z) (lv' := [(4, .int z), (3, .ref qo), (2, .ref h0), (1, eV (ad 0) 0), (0, .ref b)]) hx hb dL_law_773 hl (k := 0) rfl ez.symm (by decide) (by simp [List.filter, eV_cat, cat_i, cat_l, cat_r]) (fun ls hl => ?_)
      refine lv_goto (tgt := 23) hx hb dL_law_776 (by decide) ?_
      exact ih (it + 1) z a2 lx sg gm lg sm gn ln f H locs ls (by omega) (by omega) (by omega) hKI hRI hREL hP hD hS hl
    refine lv_iload hx hb dL_law_23 (lv_at hl 0 rfl) ?_
    refine lv_aload_n hx hb dL_law_25 rfl (lv_at hl 4 rfl) ?_
    refine va_slen hx hb hX hbl hbA hS dL_law_26 ?_
    refine lv_topi (fun z1 ez1 => ?_)
    have tz1 : z1.toInt = (L : Int) := by rw [ez1]; exact nI_toInt (by omega)
    refine lv_bipush (v := 9) hx hb dL_law_27 (by decide) ?_
    refine lv_isub hx hb dL_law_29 ?_
    refine lv_topi (fun z2 ez2 => ?_)
    have tz2 : z2.toInt = z1.toInt - 9 := by rw [ez2]; exact iv_subE (⟨by omega, by omega⟩ : iv 0 4608 z1) (iv_k (by decide) : iv 9 9 9) (by decide)
    refine lv_icmp_gt (tgt := 779) hx hb dL_law_30 (by decide) (fun c1 => ?_) (fun c1 => ?_)
    · refine lv_iconst (v := 1) hx hb dL_law_779 (by decide) ?_
      refine va_forget (fun q hq => hAi _ (hS.2.2 q hq)) ?_
      refine W.widen (k := 601024) (n := 7293034) (by have := PHs_le kI; omega) (by have := PHs_le kI; omega) ?_
      exact lw_ret hx hb hr hlocks dL_law_780
    have hle : i.toInt ≤ z2.toInt := Int32.le_iff_toInt_le.mp (Int32.not_lt.mp c1)
    refine lv_aload_n hx hb dL_law_33 rfl (lv_at hl 4 rfl) ?_
    refine lv_iload hx hb dL_law_34 (lv_at hl 0 rfl) ?_
    refine va_sld hx hb hX hbl hbA hS (vp_in_iff.mpr ⟨by omega, by omega⟩) dL_law_36 ?_
    refine lv_topi (fun v ev => ?_)
    refine lv_bipush (v := 15) hx hb dL_law_37 (by decide) ?_
    refine lv_iand hx hb dL_law_39 ?_
    refine lv_topi (fun z4 ez4 => ?_)
    rcases tsw_15 z4 with c4 | c4 | c4 | c4 | c4 | c4 | c4 | c4 | c4 | c4 | c4 | c4 | c4 | c4 | c4 | c4
    · refine lv_tableIn (tgt := 116) hx hb dL_law_40 (by rw [c4]; decide) (by rw [c4]; decide) (by rw [c4]; rfl) (by decide) ?_
      exact d_law0 hl9 C0 hL hA hbA hG hN9 hK it i (by omega) hi (by omega) a2 lx sg gm lg sm gn ln f H locs ls hKI hRI hREL hP hD hS hl (fun a2 lx sg gm lg sm gn ln f H locs ls => kont a2 lx sg gm lg sm gn ln f H locs ls (by omega))
    · refine lv_tableIn (tgt := 153) hx hb dL_law_40 (by rw [c4]; decide) (by rw [c4]; decide) (by rw [c4]; rfl) (by decide) ?_
      exact d_law1 hl9 C0 hL hA hbA hG hN9 hK it i (by omega) hi (by omega) a2 lx sg gm lg sm gn ln f H locs ls hKI hRI hREL hP hD hS hl (fun a2 lx sg gm lg sm gn ln f H locs ls => kont a2 lx sg gm lg sm gn ln f H locs ls (by omega))
    · refine lv_tableIn (tgt := 226) hx hb dL_law_40 (by rw [c4]; decide) (by rw [c4]; decide) (by rw [c4]; rfl) (by decide) ?_
      exact d_law2 hl9 C0 hL hA hbA hG hN9 hK it i (by omega) hi (by omega) a2 lx sg gm lg sm gn ln f H locs ls hKI hRI hREL hP hD hS hl (fun a2 lx sg gm lg sm gn ln f H locs ls => kont a2 lx sg gm lg sm gn ln f H locs ls (by omega))
    · refine lv_tableIn (tgt := 275) hx hb dL_law_40 (by rw [c4]; decide) (by rw [c4]; decide) (by rw [c4]; rfl) (by decide) ?_
      exact d_law3 hl9 C0 hL hA hbA hG hN9 hK it i (by omega) hi (by omega) a2 lx sg gm lg sm gn ln f H locs ls hKI hRI hREL hP hD hS hl (fun a2 lx sg gm lg sm gn ln f H locs ls => kont a2 lx sg gm lg sm gn ln f H locs ls (by omega))
    · refine lv_tableIn (tgt := 406) hx hb dL_law_40 (by rw [c4]; decide) (by rw [c4]; decide) (by rw [c4]; rfl) (by decide) ?_
      exact d_law4 hl9 C0 hL hA hbA hG hN9 hK it i (by omega) hi (by omega) a2 lx sg gm lg sm gn ln f H locs ls hKI hRI hREL hP hD hS hl (fun a2 lx sg gm lg sm gn ln f H locs ls => kont a2 lx sg gm lg sm gn ln f H locs ls (by omega))
    · refine lv_tableIn (tgt := 479) hx hb dL_law_40 (by rw [c4]; decide) (by rw [c4]; decide) (by rw [c4]; rfl) (by decide) ?_
      exact d_law5 hl9 C0 hL hA hbA hG hN9 hK it i (by omega) hi (by omega) a2 lx sg gm lg sm gn ln f H locs ls hKI hRI hREL hP hD hS hl (fun a2 lx sg gm lg sm gn ln f H locs ls => kont a2 lx sg gm lg sm gn ln f H locs ls (by omega))
    · refine lv_tableIn (tgt := 495) hx hb dL_law_40 (by rw [c4]; decide) (by rw [c4]; decide) (by rw [c4]; rfl) (by decide) ?_
      exact d_law6 hl9 C0 hL hA hbA hG hN9 hK it i (by omega) hi (by omega) a2 lx sg gm lg sm gn ln f H locs ls hKI hRI hREL hP hD hS hl (fun a2 lx sg gm lg sm gn ln f H locs ls => kont a2 lx sg gm lg sm gn ln f H locs ls (by omega))
    · refine lv_tableIn (tgt := 520) hx hb dL_law_40 (by rw [c4]; decide) (by rw [c4]; decide) (by rw [c4]; rfl) (by decide) ?_
      exact d_law7 hl9 C0 hL hA hbA hG hN9 hK it i (by omega) hi (by omega) a2 lx sg gm lg sm gn ln f H locs ls hKI hRI hREL hP hD hS hl (fun a2 lx sg gm lg sm gn ln f H locs ls => kont a2 lx sg gm lg sm gn ln f H locs ls (by omega))
    · refine lv_tableIn (tgt := 536) hx hb dL_law_40 (by rw [c4]; decide) (by rw [c4]; decide) (by rw [c4]; rfl) (by decide) ?_
      exact d_law8 hl9 C0 hL hA hbA hG hN9 hK it i (by omega) hi (by omega) a2 lx sg gm lg sm gn ln f H locs ls hKI hRI hREL hP hD hS hl (fun a2 lx sg gm lg sm gn ln f H locs ls => kont a2 lx sg gm lg sm gn ln f H locs ls (by omega))
    · refine lv_tableIn (tgt := 596) hx hb dL_law_40 (by rw [c4]; decide) (by rw [c4]; decide) (by rw [c4]; rfl) (by decide) ?_
      exact d_law9 hl9 C0 hL hA hbA hG hN9 hK it i (by omega) hi (by omega) a2 lx sg gm lg sm gn ln f H locs ls hKI hRI hREL hP hD hS hl (fun a2 lx sg gm lg sm gn ln f H locs ls => kont a2 lx sg gm lg sm gn ln f H locs ls (by omega))
    · refine lv_tableIn (tgt := 636) hx hb dL_law_40 (by rw [c4]; decide) (by rw [c4]; decide) (by rw [c4]; rfl) (by decide) ?_
      exact d_law10 hl9 C0 hL hA hbA hG hN9 hK it i (by omega) hi (by omega) a2 lx sg gm lg sm gn ln f H locs ls hKI hRI hREL hP hD hS hl (fun a2 lx sg gm lg sm gn ln f H locs ls => kont a2 lx sg gm lg sm gn ln f H locs ls (by omega))
    · refine lv_tableIn (tgt := 649) hx hb dL_law_40 (by rw [c4]; decide) (by rw [c4]; decide) (by rw [c4]; rfl) (by decide) ?_
      exact d_law11 hl9 C0 hL hA hbA hG hN9 hK it i (by omega) hi (by omega) a2 lx sg gm lg sm gn ln f H locs ls hKI hRI hREL hP hD hS hl (fun a2 lx sg gm lg sm gn ln f H locs ls => kont a2 lx sg gm lg sm gn ln f H locs ls (by omega))
    · refine lv_tableIn (tgt := 662) hx hb dL_law_40 (by rw [c4]; decide) (by rw [c4]; decide) (by rw [c4]; rfl) (by decide) ?_
      exact d_law12 hl9 C0 hL hA hbA hG hN9 hK it i (by omega) hi (by omega) a2 lx sg gm lg sm gn ln f H locs ls hKI hRI hREL hP hD hS hl (fun a2 lx sg gm lg sm gn ln f H locs ls => kont a2 lx sg gm lg sm gn ln f H locs ls (by omega))
    · refine lv_tableIn (tgt := 699) hx hb dL_law_40 (by rw [c4]; decide) (by rw [c4]; decide) (by rw [c4]; rfl) (by decide) ?_
      exact d_law13 hl9 C0 hL hA hbA hG hN9 hK it i (by omega) hi (by omega) a2 lx sg gm lg sm gn ln f H locs ls hKI hRI hREL hP hD hS hl (fun a2 lx sg gm lg sm gn ln f H locs ls => kont a2 lx sg gm lg sm gn ln f H locs ls (by omega))
    · refine lv_tableIn (tgt := 736) hx hb dL_law_40 (by rw [c4]; decide) (by rw [c4]; decide) (by rw [c4]; rfl) (by decide) ?_
      exact d_law14 hl9 C0 hL hA hbA hG hN9 hK it i (by omega) hi (by omega) a2 lx sg gm lg sm gn ln f H locs ls hKI hRI hREL hP hD hS hl (fun a2 lx sg gm lg sm gn ln f H locs ls => kont a2 lx sg gm lg sm gn ln f H locs ls (by omega))
    · refine lv_tableOut (tgt := 773) hx hb dL_law_40 (by have q1 := c4; omega) (by decide) ?_
      refine W.widen (k := 10000 + 3 * (it + 1) + PHs gm) (n := 400000 + 18 * (it + 1) + 4 * PHs gm) (by omega) (by omega) ?_
      exact kont a2 lx sg gm lg sm gn ln f H locs ls (by omega) (KI_of (Ls := []) (Lg := []) (Ll := []) hKI kI KS_rf KS_rf KS_rf (by decide) (by decide) (by decide)) hRI hREL hP hD hS hl
end
section
def mfn (n : Nat) (ad : Nat → Nat) (sg : Nat → Int32) (k : Nat) : Value := if mArr k then (if (mK.take n).contains k then .ref (ad k) else .null) else .int (sg k)
/-- the reference under construction: its first n arrays are there -/
def mWx (n h0 : Nat) (ad : Nat → Nat) (cid : Nat → ClassId) (sg : Nat → Int32) (gm : Nat → Nat → Int32) (lg : Nat → Nat → Int64) : va_W := (h0, .inr (12, (List.range 77).map (mfn n ad sg))) :: (mK.take n).map (fun k => (ad k, mE9 cid gm lg k))
def mTx (n : Nat) (cid : Nat → ClassId) : List (ClassId × FieldType) := (mK.take n).map (fun k => (cid k, mTy k))
theorem take_s {n k : Nat} (hk : mK[n]? = some k) : mK.take (n + 1) = mK.take n ++ [k] := by rw [List.take_add_one, hk]; rfl
theorem mTx_s {n k : Nat} {cid : Nat → ClassId} {cA : ClassId} {ty : FieldType} (hk : mK[n]? = some k) (hn : (mK.take n).contains k = false) (ht : mTy k = ty) : mTx n cid ++ [(cA, ty)] = mTx (n + 1) (va_up cid k cA) := by
  unfold mTx
  rw [take_s hk, List.map_append]
  congr 1
  · refine List.map_congr_left (fun j hj => ?_)
    have hne : j ≠ k := fun q => by rw [q] at hj; have := List.contains_iff_mem.mpr hj; rw [hn] at this; cases this
    rw [va_up_ne _ _ hne]
  · show [(cA, ty)] = [(va_up cid k cA k, mTy k)]
    rw [va_up_self, ht]
theorem mfn_set {n k q : Nat} {ad : Nat → Nat} {sg : Nat → Int32} (hk : mK[n]? = some k) (hA : mArr k = true) (h77 : k < 77) : ((List.range 77).map (mfn n ad sg)).set k (.ref q) = (List.range 77).map (mfn (n + 1) (va_up ad k q) sg) := by
  apply List.ext_getElem?
  intro j
  rw [List.getElem?_set, List.getElem?_map, List.length_map, List.length_range]
  by_cases hj : j < 77
  · rw [List.getElem?_map, List.getElem?_range hj]
    by_cases e9 : k = j
    · subst e9
      rw [if_pos rfl, if_pos h77]
      show some (Value.ref q) = some (mfn (n + 1) (va_up ad k q) sg k)
      unfold mfn
      rw [if_pos hA, take_s hk, if_pos (by rw [List.contains_iff_mem]; exact List.mem_append_right _ List.mem_cons_self), va_up_self]
    · rw [if_neg e9]
      show some (mfn n ad sg j) = some (mfn (n + 1) (va_up ad k q) sg j)
      unfold mfn
      rw [take_s hk, va_up_ne _ _ (Ne.symm e9)]
      have : (mK.take n ++ [k]).contains j = (mK.take n).contains j := by
        rw [Bool.eq_iff_iff, List.contains_iff_mem, List.contains_iff_mem, List.mem_append]
        constructor
        · intro h; rcases h with h | h
          · exact h
          · exact absurd (List.mem_singleton.mp h).symm e9
        · exact Or.inl
      rw [this]
  · have hr : (List.range 77)[j]? = none := List.getElem?_eq_none (by rw [List.length_range]; omega)
    rw [List.getElem?_map, hr]
    by_cases e9 : k = j
    · omega
    · rw [if_neg e9]; rfl
theorem mWx_i {n k h0 q : Nat} {cA : ClassId} {ad : Nat → Nat} {cid : Nat → ClassId} {sg : Nat → Int32} {gm : Nat → Nat → Int32} {lg : Nat → Nat → Int64} {g : Nat → Int32} (hk : mK[n]? = some k) (hn : (mK.take n).contains k = false) (hA : mArr k = true) (h77 : k < 77) (hl : mLong k = false) : (mWx n h0 ad cid sg gm lg ++ [(q, (.inl (cA, mLen k, .inl g) : va_E))]).set 0 (h0, .inr (12, ((List.range 77).map (mfn n ad sg)).set k (.ref q))) = mWx (n + 1) h0 (va_up ad k q) (va_up cid k cA) sg (va_up gm k g) lg := by
  unfold mWx
  rw [List.cons_append, List.set_cons_zero, mfn_set hk hA h77, take_s hk, List.map_append]
  congr 2
  · refine List.map_congr_left (fun j hj => ?_)
    have hne : j ≠ k := fun q => by rw [q] at hj; have := List.contains_iff_mem.mpr hj; rw [hn] at this; cases this
    unfold mE9
    rw [va_up_ne _ _ hne, va_up_ne _ _ hne, va_up_ne _ _ hne]
  · show [(q, _)] = [(va_up ad k q k, mE9 (va_up cid k cA) (va_up gm k g) lg k)]
    unfold mE9
    rw [va_up_self, va_up_self, va_up_self, hl]
    rfl
theorem mWx_l {n k h0 q : Nat} {cA : ClassId} {ad : Nat → Nat} {cid : Nat → ClassId} {sg : Nat → Int32} {gm : Nat → Nat → Int32} {lg : Nat → Nat → Int64} {g : Nat → Int64} (hk : mK[n]? = some k) (hn : (mK.take n).contains k = false) (hA : mArr k = true) (h77 : k < 77) (hl : mLong k = true) : (mWx n h0 ad cid sg gm lg ++ [(q, (.inl (cA, mLen k, .inr (.inl g)) : va_E))]).set 0 (h0, .inr (12, ((List.range 77).map (mfn n ad sg)).set k (.ref q))) = mWx (n + 1) h0 (va_up ad k q) (va_up cid k cA) sg gm (va_up lg k g) := by
  unfold mWx
  rw [List.cons_append, List.set_cons_zero, mfn_set hk hA h77, take_s hk, List.map_append]
  congr 2
  · refine List.map_congr_left (fun j hj => ?_)
    have hne : j ≠ k := fun q => by rw [q] at hj; have := List.contains_iff_mem.mpr hj; rw [hn] at this; cases this
    unfold mE9
    rw [va_up_ne _ _ hne, va_up_ne _ _ hne, va_up_ne _ _ hne]
  · show [(q, _)] = [(va_up ad k q k, mE9 (va_up cid k cA) gm (va_up lg k g) k)]
    unfold mE9
    rw [va_up_self, va_up_self, va_up_self, hl]
    rfl
theorem mfn_int {n k : Nat} {x : Int32} {ad : Nat → Nat} {sg : Nat → Int32} (hA : mArr k = false) : ((List.range 77).map (mfn n ad sg)).set k (.int x) = (List.range 77).map (mfn n ad (va_up sg k x)) := by
  apply List.ext_getElem?
  intro j
  rw [List.getElem?_set, List.getElem?_map, List.length_map, List.length_range]
  by_cases hj : j < 77
  · rw [List.getElem?_map, List.getElem?_range hj]
    by_cases e9 : k = j
    · subst e9
      rw [if_pos rfl, if_pos hj]
      show some (Value.int x) = some (mfn n ad (va_up sg k x) k)
      unfold mfn
      rw [hA, va_up_self]
      rfl
    · rw [if_neg e9]
      show some (mfn n ad sg j) = some (mfn n ad (va_up sg k x) j)
      unfold mfn
      rw [va_up_ne _ _ (Ne.symm e9)]
  · have hr : (List.range 77)[j]? = none := List.getElem?_eq_none (by rw [List.length_range]; omega)
    rw [List.getElem?_map, hr]
    by_cases e9 : k = j
    · rw [if_pos e9, if_neg (by omega)]; rfl
    · rw [if_neg e9]; rfl
theorem mWx_s {n k h0 : Nat} {x : Int32} {ad : Nat → Nat} {cid : Nat → ClassId} {sg : Nat → Int32} {gm : Nat → Nat → Int32} {lg : Nat → Nat → Int64} (hA : mArr k = false) : (mWx n h0 ad cid sg gm lg).set 0 (h0, .inr (12, ((List.range 77).map (mfn n ad sg)).set k (.int x))) = mWx n h0 ad cid (va_up sg k x) gm lg := by
  unfold mWx
  rw [List.set_cons_zero, mfn_int hA]
def zrow (j : Nat) : Bool := !mLong j && !(j == 3) && !(j == 4)
def ZR (n : Nat) (gm : Nat → Nat → Int32) : Prop := ∀ j, (mK.take n).contains j = true → zrow j = true → gm j = fun _ => 0
theorem ZR_z {n k : Nat} {gm : Nat → Nat → Int32} (hk : mK[n]? = some k) (h : ZR n gm) : ZR (n + 1) (va_up gm k (fun _ => 0)) := fun j hj hz => by
  by_cases e9 : j = k
  · rw [e9, va_up_self]
  · rw [va_up_ne _ _ e9]
    refine h j ?_ hz
    rw [take_s hk, List.contains_iff_mem, List.mem_append] at hj
    rw [List.contains_iff_mem]
    rcases hj with q | q
    · exact q
    · exact absurd (List.mem_singleton.mp q) e9
theorem ZR_n {n k : Nat} {gm gm2 : Nat → Nat → Int32} (hk : mK[n]? = some k) (h : ZR n gm) (hz0 : zrow k = false) (he : ∀ j, j ≠ k → gm2 j = gm j) : ZR (n + 1) gm2 := fun j hj hz => by
  have e9 : j ≠ k := fun q => by rw [q, hz0] at hz; cases hz
  rw [he j e9]
  refine h j ?_ hz
  rw [take_s hk, List.contains_iff_mem, List.mem_append] at hj
  rw [List.contains_iff_mem]
  rcases hj with q | q
  · exact q
  · exact absurd (List.mem_singleton.mp q) e9
theorem mWx_60 {h0 : Nat} {ad : Nat → Nat} {cid : Nat → ClassId} {sg : Nat → Int32} {gm : Nat → Nat → Int32} {lg : Nat → Nat → Int64} : mWx 60 h0 ad cid sg gm lg = mW h0 ad cid sg gm lg := by
  unfold mWx mW mfs
  have h1 : (List.range 77).map (mfn 60 ad sg) = (List.range 77).map (mfv ad sg) := List.map_congr_left (fun k hk => by
    have hc : ∀ k, k < 77 → mArr k = true → (mK.take 60).contains k = true := by decide
    unfold mfn mfv
    by_cases hA : mArr k = true
    · rw [if_pos hA, if_pos hA, if_pos (hc k (List.mem_range.mp hk) hA)]
    · rw [if_neg hA, if_neg hA])
  rw [h1]
  rfl
theorem mTx_60 {cid : Nat → ClassId} : mTx 60 cid = mT cid := rfl
/-- the reference's state as its constructor leaves it -/
theorem RI_0 {sg : Nat → Int32} {gm gm0 : Nat → Nat → Int32} {lg : Nat → Nat → Int64} (hz : ZR 60 gm0) (h3 : ∀ i, i < 5 → iv 3 5 (gm0 3 i)) (h4 : ∀ i, i < 5 → iv 34 62 (gm0 4 i)) (hs : ∀ k, k ≠ 23 → k ≠ 52 → sg k = 0) (h52 : sg 52 = -1) (h6 : ∀ k, k < 8 → gm 6 k = -1) (he : ∀ k, k ≠ 6 → gm k = gm0 k) : RI sg gm lg := by
  have z : ∀ j, (mK.take 60).contains j = true → zrow j = true → j ≠ 6 → gm j = fun _ => 0 := fun j a1 a2 a3 => by rw [he j a3]; exact hz j a1 a2
  have r61 : gm 61 = fun _ => 0 := z 61 (by decide) (by decide) (by decide)
  have r60 : gm 60 = fun _ => 0 := z 60 (by decide) (by decide) (by decide)
  have r62 : gm 62 = fun _ => 0 := z 62 (by decide) (by decide) (by decide)
  have r70 : gm 70 = fun _ => 0 := z 70 (by decide) (by decide) (by decide)
  have r71 : gm 71 = fun _ => 0 := z 71 (by decide) (by decide) (by decide)
  have r72 : gm 72 = fun _ => 0 := z 72 (by decide) (by decide) (by decide)
  have r73 : gm 73 = fun _ => 0 := z 73 (by decide) (by decide) (by decide)
  have s50 : (sg 50).toInt = 0 := by rw [hs 50 (by decide) (by decide)]; rfl
  have hm1 : (-1 : Int32).toInt = -1 := by decide
  refine ⟨⟨fun k => ?_, fun k i hi => ?_⟩, fun k hk => by rw [h6 k hk, hm1]; omega, ?_, MO_0 s50, Or.inl (by rw [hs 40 (by decide) (by decide)]; rfl)⟩
  · by_cases e52 : k = 52
    · rw [e52, h52]; exact ⟨by decide, by decide⟩
    · by_cases e23 : k = 23
      · rw [e23]; exact iv_all _
      · rw [hs k e23 e52]
        have key : ∀ k, k < 77 → k ≠ 52 → sLo k ≤ 0 ∧ 0 ≤ sHi k := by decide
        by_cases h77 : k < 77
        · exact ⟨(key k h77 e52).1, (key k h77 e52).2⟩
        · have hlo : sLo k ≤ 0 ∧ 0 ≤ sHi k := by unfold sLo sHi; split <;> first | omega | (split <;> omega)
          exact ⟨hlo.1, hlo.2⟩
  · by_cases e3 : k = 3
    · rw [e3] at hi ⊢; rw [he 3 (by decide)]; exact h3 i hi
    · by_cases e4 : k = 4
      · rw [e4] at hi ⊢; rw [he 4 (by decide)]; exact h4 i hi
      · by_cases e6 : k = 6
        · rw [e6] at hi ⊢; rw [h6 i hi]; exact ⟨by decide, by decide⟩
        · have key : ∀ k, k < 77 → k ≠ 3 → k ≠ 4 → (mLen k = 0 ∨ (mK.take 60).contains k = true) ∧ aLo k ≤ 0 ∧ 0 ≤ aHi k := by decide
          by_cases h77 : k < 77
          · obtain ⟨q1, q2, q3⟩ := key k h77 e3 e4
            rcases q1 with q | q
            · rw [q] at hi; omega
            · by_cases hz1 : zrow k = true
              · rw [z k q hz1 e6]; exact ⟨q2, q3⟩
              · have kl : ∀ k, k < 77 → k ≠ 3 → k ≠ 4 → zrow k = false → aLo k = -2147483648 ∧ aHi k = 2147483647 := by decide
                obtain ⟨a1, a2⟩ := kl k h77 e3 e4 (by simpa using hz1)
                rw [a1, a2]; exact iv_all _
          · exfalso
            have : mLen k = 0 := by unfold mLen; split <;> first | omega | rfl
            omega
  · have v0 : vok 0 0 := ⟨fun q => absurd q (by decide), fun _ => Or.inl (by decide), fun q => absurd q (by decide)⟩
    refine ⟨?_, fun b _ q => absurd (by rw [r61]) q, by rw [s50]; exact Int.natCast_nonneg _⟩
    unfold VAL
    rw [r70, r71, r72, r73]
    exact ⟨fun j _ => v0, fun j _ => v0⟩
end
