theorem m255 (i : Nat) (hi : i < 32) : (255#32).getLsbD i = decide (i < 8) := by
  have key : ∀ i, i < 32 → (255#32).getLsbD i = decide (i < 8) := by decide
  exact key i hi
theorem bvs (p : BitVec 32) (k : Nat) (hk : k ≤ 24) : (p.sshiftRight k) &&& 255#32 = (p >>> k) &&& 255#32 := by
  apply BitVec.eq_of_getLsbD_eq
  intro i hi
  rw [BitVec.getLsbD_and, BitVec.getLsbD_and, m255 i hi, BitVec.getLsbD_sshiftRight, BitVec.getLsbD_ushiftRight]
  by_cases h : i < 8
  · have h1 : k + i < 32 := by omega
    simp [h1, hi, h]
  · simp [h]
/-- a byte of a word, as the class takes it -/
def byC (fo sh : Int32) : Int32 := ((fo.toUInt32 >>> (sh.toUInt32 &&& Int32.toUInt32 31)).toInt32) &&& 255
theorem shb24 (p : Int32) : (p >>> (24 : Int32)) &&& 255 = byC p 24 := by
  apply Int32.toBitVec_inj.mp
  exact bvs p.toBitVec 24 (by decide)
theorem shb16 (p : Int32) : (p >>> (16 : Int32)) &&& 255 = byC p 16 := by
  apply Int32.toBitVec_inj.mp
  exact bvs p.toBitVec 16 (by decide)
theorem shb8 (p : Int32) : (p >>> (8 : Int32)) &&& 255 = byC p 8 := by
  apply Int32.toBitVec_inj.mp
  exact bvs p.toBitVec 8 (by decide)
theorem shb0 (p : Int32) : (p >>> (0 : Int32)) &&& 255 = byC p 0 := by
  apply Int32.toBitVec_inj.mp
  exact bvs p.toBitVec 0 (by decide)
def bS (fo : Int32) (k : Nat) : Int32 := byC fo (nI (24 - 8 * k))
def bN (fo : Int32) : Nat → Nat
  | 0 => 0
  | k + 1 => bN fo k + (if bS fo k = 0 then 0 else 1)
def BK (fo : Int32) (n : Nat) : Prop := ∀ j, j < n → ((bS fo j).toInt = 0 ∨ (bS fo j).toInt = 10 ∨ 32 ≤ (bS fo j).toInt ∧ (bS fo j).toInt ≤ 126)
theorem bN_mono (fo : Int32) (j : Nat) : ∀ k, j ≤ k → bN fo j ≤ bN fo k := by
  intro k
  induction k with
  | zero => intro h; have h0 : j = 0 := by omega
            subst h0; exact Nat.le_refl _
  | succ k ih =>
    intro h
    by_cases hj : j = k + 1
    · subst hj; exact Nat.le_refl _
    · have := ih (by omega)
      show _ ≤ bN fo k + _
      omega
theorem by_i {fo x : Int32} (h : iv 0 24 x) (hd : x.toInt % 8 = 0) : byC fo x = bS fo ((24 - x.toInt) / 8).toNat := by
  have h1 := h.1
  have h2 := h.2
  have e : x = nI (24 - 8 * ((24 - x.toInt) / 8).toNat) := Int32.toInt_inj.mp (by rw [nI_toInt (by omega)]; omega)
  unfold bS
  rw [← e]
theorem by_s {fo x : Int32} (h : iv 0 24 x) (hd : x.toInt % 8 = 0) : ((24 - x.toInt) / 8).toNat < 4 ∧ bN fo (((24 - x.toInt) / 8).toNat + 1) = bN fo ((24 - x.toInt) / 8).toNat + (if byC fo x = 0 then 0 else 1) := by
  have h1 := h.1
  have h2 := h.2
  refine ⟨by omega, ?_⟩
  rw [by_i h hd]
  rfl
theorem by_k {fo x : Int32} (h : iv 0 24 x) (hd : x.toInt % 8 = 0) (hk : BK fo ((24 - x.toInt) / 8).toNat) (hx : ((byC fo x).toInt = 0 ∨ (byC fo x).toInt = 10 ∨ 32 ≤ (byC fo x).toInt ∧ (byC fo x).toInt ≤ 126)) : BK fo (((24 - x.toInt) / 8).toNat + 1) := by
  intro j hj
  by_cases e9 : j = ((24 - x.toInt) / 8).toNat
  · rw [e9, ← by_i h hd]; exact hx
  · exact hk j (by omega)
theorem by_bad {fo x : Int32} (h : iv 0 24 x) (hd : x.toInt % 8 = 0) (hx : ¬ ((byC fo x).toInt = 0 ∨ (byC fo x).toInt = 10 ∨ 32 ≤ (byC fo x).toInt ∧ (byC fo x).toInt ≤ 126)) : ¬ BK fo 4 := fun q => by
  have := q _ (by_s (fo := fo) h hd).1
  rw [← by_i h hd] at this
  exact hx this
/-- what typedBehind answers -/
def TBH (st fo r : Int32) : Prop := (st.toInt = -1 ∧ r.toInt = -1) ∨ (0 ≤ st.toInt ∧ ((r.toInt = -1 ∧ (¬ BK fo 4 ∨ 1200 < st.toInt + (bN fo 4 : Int))) ∨ (r.toInt = st.toInt + (bN fo 4 : Int) ∧ BK fo 4 ∧ st.toInt + (bN fo 4 : Int) ≤ 1200)))
theorem tyS_0 (p1 p2 p3 p4 p5 : Int32) : tyS p1 p2 p3 p4 p5 (nI 0) = bS p1 0 := (show tyS p1 p2 p3 p4 p5 (nI 0) = (p1 >>> (24 : Int32)) &&& 255 from rfl).trans (shb24 p1)
theorem tyS_1 (p1 p2 p3 p4 p5 : Int32) : tyS p1 p2 p3 p4 p5 (nI 1) = bS p1 1 := (show tyS p1 p2 p3 p4 p5 (nI 1) = (p1 >>> (16 : Int32)) &&& 255 from rfl).trans (shb16 p1)
theorem tyS_2 (p1 p2 p3 p4 p5 : Int32) : tyS p1 p2 p3 p4 p5 (nI 2) = bS p1 2 := (show tyS p1 p2 p3 p4 p5 (nI 2) = (p1 >>> (8 : Int32)) &&& 255 from rfl).trans (shb8 p1)
theorem tyS_3 (p1 p2 p3 p4 p5 : Int32) : tyS p1 p2 p3 p4 p5 (nI 3) = bS p1 3 := (show tyS p1 p2 p3 p4 p5 (nI 3) = (p1 >>> (0 : Int32)) &&& 255 from rfl).trans (shb0 p1)
theorem tyS_4 (p1 p2 p3 p4 p5 : Int32) : tyS p1 p2 p3 p4 p5 (nI 4) = bS p2 0 := (show tyS p1 p2 p3 p4 p5 (nI 4) = (p2 >>> (24 : Int32)) &&& 255 from rfl).trans (shb24 p2)
theorem tyS_5 (p1 p2 p3 p4 p5 : Int32) : tyS p1 p2 p3 p4 p5 (nI 5) = bS p2 1 := (show tyS p1 p2 p3 p4 p5 (nI 5) = (p2 >>> (16 : Int32)) &&& 255 from rfl).trans (shb16 p2)
theorem tyS_6 (p1 p2 p3 p4 p5 : Int32) : tyS p1 p2 p3 p4 p5 (nI 6) = bS p2 2 := (show tyS p1 p2 p3 p4 p5 (nI 6) = (p2 >>> (8 : Int32)) &&& 255 from rfl).trans (shb8 p2)
theorem tyS_7 (p1 p2 p3 p4 p5 : Int32) : tyS p1 p2 p3 p4 p5 (nI 7) = bS p2 3 := (show tyS p1 p2 p3 p4 p5 (nI 7) = (p2 >>> (0 : Int32)) &&& 255 from rfl).trans (shb0 p2)
theorem tyS_8 (p1 p2 p3 p4 p5 : Int32) : tyS p1 p2 p3 p4 p5 (nI 8) = bS p3 0 := (show tyS p1 p2 p3 p4 p5 (nI 8) = (p3 >>> (24 : Int32)) &&& 255 from rfl).trans (shb24 p3)
theorem tyS_9 (p1 p2 p3 p4 p5 : Int32) : tyS p1 p2 p3 p4 p5 (nI 9) = bS p3 1 := (show tyS p1 p2 p3 p4 p5 (nI 9) = (p3 >>> (16 : Int32)) &&& 255 from rfl).trans (shb16 p3)
theorem tyS_10 (p1 p2 p3 p4 p5 : Int32) : tyS p1 p2 p3 p4 p5 (nI 10) = bS p3 2 := (show tyS p1 p2 p3 p4 p5 (nI 10) = (p3 >>> (8 : Int32)) &&& 255 from rfl).trans (shb8 p3)
theorem tyS_11 (p1 p2 p3 p4 p5 : Int32) : tyS p1 p2 p3 p4 p5 (nI 11) = bS p3 3 := (show tyS p1 p2 p3 p4 p5 (nI 11) = (p3 >>> (0 : Int32)) &&& 255 from rfl).trans (shb0 p3)
theorem tyS_12 (p1 p2 p3 p4 p5 : Int32) : tyS p1 p2 p3 p4 p5 (nI 12) = bS p4 0 := (show tyS p1 p2 p3 p4 p5 (nI 12) = (p4 >>> (24 : Int32)) &&& 255 from rfl).trans (shb24 p4)
theorem tyS_13 (p1 p2 p3 p4 p5 : Int32) : tyS p1 p2 p3 p4 p5 (nI 13) = bS p4 1 := (show tyS p1 p2 p3 p4 p5 (nI 13) = (p4 >>> (16 : Int32)) &&& 255 from rfl).trans (shb16 p4)
theorem tyS_14 (p1 p2 p3 p4 p5 : Int32) : tyS p1 p2 p3 p4 p5 (nI 14) = bS p4 2 := (show tyS p1 p2 p3 p4 p5 (nI 14) = (p4 >>> (8 : Int32)) &&& 255 from rfl).trans (shb8 p4)
theorem tyS_15 (p1 p2 p3 p4 p5 : Int32) : tyS p1 p2 p3 p4 p5 (nI 15) = bS p4 3 := (show tyS p1 p2 p3 p4 p5 (nI 15) = (p4 >>> (0 : Int32)) &&& 255 from rfl).trans (shb0 p4)
theorem tyS_16 (p1 p2 p3 p4 p5 : Int32) : tyS p1 p2 p3 p4 p5 (nI 16) = bS p5 0 := (show tyS p1 p2 p3 p4 p5 (nI 16) = (p5 >>> (24 : Int32)) &&& 255 from rfl).trans (shb24 p5)
theorem tyS_17 (p1 p2 p3 p4 p5 : Int32) : tyS p1 p2 p3 p4 p5 (nI 17) = bS p5 1 := (show tyS p1 p2 p3 p4 p5 (nI 17) = (p5 >>> (16 : Int32)) &&& 255 from rfl).trans (shb16 p5)
theorem tyS_18 (p1 p2 p3 p4 p5 : Int32) : tyS p1 p2 p3 p4 p5 (nI 18) = bS p5 2 := (show tyS p1 p2 p3 p4 p5 (nI 18) = (p5 >>> (8 : Int32)) &&& 255 from rfl).trans (shb8 p5)
theorem tyS_19 (p1 p2 p3 p4 p5 : Int32) : tyS p1 p2 p3 p4 p5 (nI 19) = bS p5 3 := (show tyS p1 p2 p3 p4 p5 (nI 19) = (p5 >>> (0 : Int32)) &&& 255 from rfl).trans (shb0 p5)
theorem tyN_b (p1 p2 p3 p4 p5 : Int32) : tyN p1 p2 p3 p4 p5 20 = bN p1 4 + bN p2 4 + bN p3 4 + bN p4 4 + bN p5 4 := by
  simp only [tyN, bN, tyS_0, tyS_1, tyS_2, tyS_3, tyS_4, tyS_5, tyS_6, tyS_7, tyS_8, tyS_9, tyS_10, tyS_11, tyS_12, tyS_13, tyS_14, tyS_15, tyS_16, tyS_17, tyS_18, tyS_19]
  omega
theorem tyK_b {p1 p2 p3 p4 p5 : Int32} : TYK p1 p2 p3 p4 p5 20 ↔ (BK p1 4 ∧ BK p2 4 ∧ BK p3 4 ∧ BK p4 4 ∧ BK p5 4) := by
  constructor
  · intro h
    refine ⟨fun j hj => ?_, fun j hj => ?_, fun j hj => ?_, fun j hj => ?_, fun j hj => ?_⟩
    · rcases (show j = 0 ∨ j = 1 ∨ j = 2 ∨ j = 3 by omega) with rfl | rfl | rfl | rfl
      · have q := h 0 (by decide); rw [tyS_0] at q; exact q
      · have q := h 1 (by decide); rw [tyS_1] at q; exact q
      · have q := h 2 (by decide); rw [tyS_2] at q; exact q
      · have q := h 3 (by decide); rw [tyS_3] at q; exact q
    · rcases (show j = 0 ∨ j = 1 ∨ j = 2 ∨ j = 3 by omega) with rfl | rfl | rfl | rfl
      · have q := h 4 (by decide); rw [tyS_4] at q; exact q
      · have q := h 5 (by decide); rw [tyS_5] at q; exact q
      · have q := h 6 (by decide); rw [tyS_6] at q; exact q
      · have q := h 7 (by decide); rw [tyS_7] at q; exact q
    · rcases (show j = 0 ∨ j = 1 ∨ j = 2 ∨ j = 3 by omega) with rfl | rfl | rfl | rfl
      · have q := h 8 (by decide); rw [tyS_8] at q; exact q
      · have q := h 9 (by decide); rw [tyS_9] at q; exact q
      · have q := h 10 (by decide); rw [tyS_10] at q; exact q
      · have q := h 11 (by decide); rw [tyS_11] at q; exact q
    · rcases (show j = 0 ∨ j = 1 ∨ j = 2 ∨ j = 3 by omega) with rfl | rfl | rfl | rfl
      · have q := h 12 (by decide); rw [tyS_12] at q; exact q
      · have q := h 13 (by decide); rw [tyS_13] at q; exact q
      · have q := h 14 (by decide); rw [tyS_14] at q; exact q
      · have q := h 15 (by decide); rw [tyS_15] at q; exact q
    · rcases (show j = 0 ∨ j = 1 ∨ j = 2 ∨ j = 3 by omega) with rfl | rfl | rfl | rfl
      · have q := h 16 (by decide); rw [tyS_16] at q; exact q
      · have q := h 17 (by decide); rw [tyS_17] at q; exact q
      · have q := h 18 (by decide); rw [tyS_18] at q; exact q
      · have q := h 19 (by decide); rw [tyS_19] at q; exact q
  · rintro ⟨h1, h2, h3, h4, h5⟩ j hj
    rcases (show j = 0 ∨ j = 1 ∨ j = 2 ∨ j = 3 ∨ j = 4 ∨ j = 5 ∨ j = 6 ∨ j = 7 ∨ j = 8 ∨ j = 9 ∨ j = 10 ∨ j = 11 ∨ j = 12 ∨ j = 13 ∨ j = 14 ∨ j = 15 ∨ j = 16 ∨ j = 17 ∨ j = 18 ∨ j = 19 by omega) with rfl | rfl | rfl | rfl | rfl | rfl | rfl | rfl | rfl | rfl | rfl | rfl | rfl | rfl | rfl | rfl | rfl | rfl | rfl | rfl
    · rw [tyS_0]; exact h1 0 (by decide)
    · rw [tyS_1]; exact h1 1 (by decide)
    · rw [tyS_2]; exact h1 2 (by decide)
    · rw [tyS_3]; exact h1 3 (by decide)
    · rw [tyS_4]; exact h2 0 (by decide)
    · rw [tyS_5]; exact h2 1 (by decide)
    · rw [tyS_6]; exact h2 2 (by decide)
    · rw [tyS_7]; exact h2 3 (by decide)
    · rw [tyS_8]; exact h3 0 (by decide)
    · rw [tyS_9]; exact h3 1 (by decide)
    · rw [tyS_10]; exact h3 2 (by decide)
    · rw [tyS_11]; exact h3 3 (by decide)
    · rw [tyS_12]; exact h4 0 (by decide)
    · rw [tyS_13]; exact h4 1 (by decide)
    · rw [tyS_14]; exact h4 2 (by decide)
    · rw [tyS_15]; exact h4 3 (by decide)
    · rw [tyS_16]; exact h5 0 (by decide)
    · rw [tyS_17]; exact h5 1 (by decide)
    · rw [tyS_18]; exact h5 2 (by decide)
    · rw [tyS_19]; exact h5 3 (by decide)
theorem TBH_5 {p1 p2 p3 p4 p5 s0 r1 r2 r3 r4 r5 : Int32} (h0 : 0 ≤ s0.toInt) (t1 : TBH s0 p1 r1) (t2 : TBH r1 p2 r2) (t3 : TBH r2 p3 r3) (t4 : TBH r3 p4 r4) (t5 : TBH r4 p5 r5) : (r5.toInt = -1 ∧ (¬ TYK p1 p2 p3 p4 p5 20 ∨ 1200 < s0.toInt + (tyN p1 p2 p3 p4 p5 20 : Int))) ∨ (r5.toInt = s0.toInt + (tyN p1 p2 p3 p4 p5 20 : Int) ∧ TYK p1 p2 p3 p4 p5 20 ∧ s0.toInt + (tyN p1 p2 p3 p4 p5 20 : Int) ≤ 1200) := by
  rw [tyN_b, tyK_b]
  unfold TBH at *
  by_cases k1 : BK p1 4 <;> by_cases k2 : BK p2 4 <;> by_cases k3 : BK p3 4 <;> by_cases k4 : BK p4 4 <;> by_cases k5 : BK p5 4 <;> simp only [k1, k2, k3, k4, k5, not_true_eq_false, not_false_eq_true, true_and, false_and, and_true, and_false, and_self, false_or, true_or, or_false, or_true] at * <;> omega

set_option maxHeartbeats 4000000 in
set_option maxRecDepth 100000 in
theorem d_typedBehind2 (l : Launch) (dC : Nat → ClassId) (dI : Nat → Nat → Nat) (ad : Nat → Nat → Nat) (cid : Nat → ClassId) (a2 : Nat → Nat) (lx : List Nat) (sg : Nat → Int32) (gm : Nat → Nat → Int32) (lg : Nat → Nat → Int64) (x : Int32) (st : Int32) (fo : Int32) (hI : CI sg gm) (hvx : iv 0 0 x) (hvst : iv (-1) 1200 st) : CMt dC dI ad cid a2 lx l yX12_typedBehind wm_X12_typedBehind ({ frames := 0, cells := 1, slots := 6, locals := 0 }) [eV (ad 0) x, .int st, .int fo] sg gm lg (fun v u => ∃ r : Int32, v = some (.int r) ∧ ∃ (sg2 : Nat → Int32) (gm2 : Nat → Nat → Int32) (lg2 : Nat → Nat → Int64), u = (sg2, gm2, lg2) ∧ CI sg2 gm2 ∧ KS [] sg sg2 ∧ KS [43] gm gm2 ∧ KS [] lg lg2 ∧ (iv (-1) 1200 r) ∧ (TBH st fo r)) (fun _ _ => False) := by
  intro sz
  refine vx_ofW (cc := cX12_typedBehind) (maxL := 6) (ret := (some .int)) (by decide) rfl ?_
  intro p e s m args below meth c s₁ B hml hxt hv
  obtain ⟨rfl, hsz, hP, hK, hD0, hG⟩ := hv
  have hx := B.exec
  have hb := B.bytes
  have hr := B.returns
  have hts := atoms_spec (ws := wm_X12_typedBehind) B.pre
  have htb := fun (w : Cond) (h : w ∈ tb) => hts w (List.mem_cons_of_mem _ h)
  have hown : s.vm.findClass RX12 = some m.cls := findClass_of_methodNamed B.named
  have hlocks := B.notSynchronized
  subst hsz
  have hD := hD0.self (sz := s.heap.size)
  generalize hAe : va_A (cW ad cid a2 lx sg gm lg) s.heap.size = A at hD hG ⊢
  have hA : ∀ q : Nat, s.heap.size ≤ q → A q := fun q h => by rw [← hAe]; exact Or.inr h
  have hS : va_S A s.heap s.heap [] := va_S.rf
  have hl := lv_entry ([eV (ad 0) x, .int st, .int fo]) (n := 6) (by rw [show (lg_sl ([eV (ad 0) x, .int st, .int fo])).length = 3 from by simp [lg_sl, eV_cat, cat_i, cat_l]]; exact Nat.le_of_ble_eq_true rfl)
  rw [lg_entry_eq]
  generalize (lg_sl ([eV (ad 0) x, .int st, .int fo]) ++ List.replicate (6 - (lg_sl ([eV (ad 0) x, .int st, .int fo])).length) Slot.unset).toArray = ls at hl ⊢
  have hl : lv_has ls 6 [(0, eV (ad 0) x), (1, .int st), (2, .int fo)] := by simp [lv_args, eV_cat, cat_i, cat_l] at hl; exact hl
  have hj66 : ∀ (gm_j66 : Nat → Nat → Int32) (x5_66 : Int32) (x4_66 : Int32) (x3_66 : Int32) (_ : iv 1 255 x5_66) (_ : iv 0 24 x4_66) (_ : iv 0 1200 x3_66) (_ : iv 0 0 x) (_ : iv 0 1200 st) (_ : KS [43] gm gm_j66) (_ : CI sg gm_j66) (_ : ¬ BK fo 4 ∨ 1200 < st.toInt + (bN fo 4 : Int)) (H : Heap) (locs : List Loc) (ls : Array Slot), va_P (dC, dI) vwCl (cW ad cid a2 lx sg gm_j66 lg) H → va_D A (cW ad cid a2 lx sg gm_j66 lg) → va_S A s.heap H locs → lv_has ls 6 [(5, .int x5_66), (4, .int x4_66), (3, .int x3_66), (0, eV (ad 0) x), (1, .int st), (2, .int fo)] → W p l e (headSpec wm_X12_typedBehind ({ frames := 0, cells := 1, slots := 6, locals := 0 })).room s m ([eV (ad 0) x, .int st, .int fo] : List Value).toArray below meth c H locs 0 0 (vx_MQ below (cQx dC dI ad cid a2 lx (fun v u => ∃ r : Int32, v = some (.int r) ∧ ∃ (sg2 : Nat → Int32) (gm2 : Nat → Nat → Int32) (lg2 : Nat → Nat → Int64), u = (sg2, gm2, lg2) ∧ CI sg2 gm2 ∧ KS [] sg sg2 ∧ KS [43] gm gm2 ∧ KS [] lg lg2 ∧ (iv (-1) 1200 r) ∧ (TBH st fo r)) A) (cX dC dI ad cid a2 lx (fun _ _ => False) A) ([eV (ad 0) x, .int st, .int fo] : List Value).toArray s 1 6 A) (F0 m 66 ls []) := by
    intro gm_j66 x5_66 x4_66 x3_66 hx5_66 hx4_66 hx3_66 hsx0_66 hsx1_66 hkg_j66 hI_j66 hbad H locs ls hP hD hS hl
    refine lv_iconst (v := (-1)) hx hb dX12_typedBehind_66 (by decide) ?_
    exact W.nb (fun hN => W.widen (k := 1) (n := 6) (by decide) (by decide) (vx_ret (W.iret (v := (-1)) hx hb hr (fun t ht hW => ⟨⟨some (.int (-1)), (sg, gm_j66, lg), rfl, ⟨(-1), rfl, sg, gm_j66, lg, rfl, hI_j66, KS_rf, (KS_tr (L := [43]) KS_rf hkg_j66 (by decide)), KS_rf, (iv_w (iv_k (by decide) : iv (-1) (-1) (-1)) (by decide)), (Or.inr ⟨by have := i32_0; have := i32_1; have := i32_2; have := i32_m1; have := (hsx0_66).1; have := (hsx0_66).2; have := (hsx1_66).1; have := (hsx1_66).2; have := (hx5_66).1; have := (hx5_66).2; have := (hx4_66).1; have := (hx4_66).2; have := (hx3_66).1; have := (hx3_66).2; omega, Or.inl ⟨rfl, hbad⟩⟩)⟩, by rw [ht]; exact hP, va_K.moved hW.alike hK, hD⟩, hS.F ht, by rw [ht]; exact hN⟩) hS.2.2 dX12_typedBehind_67)))
  have hj13 : ∀ (n : Nat) (gm_j13 : Nat → Nat → Int32) (x4_13 : Int32) (x3_13 : Int32) (_ : (x4_13.toInt + 8).toNat = n) (_ : iv (-8) 24 x4_13) (_ : iv 0 1200 x3_13) (_ : iv 0 0 x) (_ : iv 0 1200 st) (_ : KS [43] gm gm_j13) (_ : CI sg gm_j13) (_ : x4_13.toInt % 8 = 0) (_ : x3_13.toInt = st.toInt + (bN fo ((24 - x4_13.toInt) / 8).toNat : Int)) (_ : BK fo ((24 - x4_13.toInt) / 8).toNat) (H : Heap) (locs : List Loc) (ls : Array Slot), va_P (dC, dI) vwCl (cW ad cid a2 lx sg gm_j13 lg) H → va_D A (cW ad cid a2 lx sg gm_j13 lg) → va_S A s.heap H locs → lv_has ls 6 [(4, .int x4_13), (3, .int x3_13), (0, eV (ad 0) x), (1, .int st), (2, .int fo)] → W p l e (headSpec wm_X12_typedBehind ({ frames := 0, cells := 1, slots := 6, locals := 0 })).room s m ([eV (ad 0) x, .int st, .int fo] : List Value).toArray below meth c H locs 0 0 (vx_MQ below (cQx dC dI ad cid a2 lx (fun v u => ∃ r : Int32, v = some (.int r) ∧ ∃ (sg2 : Nat → Int32) (gm2 : Nat → Nat → Int32) (lg2 : Nat → Nat → Int64), u = (sg2, gm2, lg2) ∧ CI sg2 gm2 ∧ KS [] sg sg2 ∧ KS [43] gm gm2 ∧ KS [] lg lg2 ∧ (iv (-1) 1200 r) ∧ (TBH st fo r)) A) (cX dC dI ad cid a2 lx (fun _ _ => False) A) ([eV (ad 0) x, .int st, .int fo] : List Value).toArray s 1 6 A) (F0 m 13 ls []) := by
    intro n
    induction n using Nat.strongRecOn with
    | ind n ih13 =>
      intro gm_j13 x4_13 x3_13 hn13 hx4_13 hx3_13 hsx0_13 hsx1_13 hkg_j13 hI_j13 hd hc hkb H locs ls hP hD hS hl
      have hj80 : ∀ (gm_j80 : Nat → Nat → Int32) (x5_80 : Int32) (x3_80 : Int32) (_ : iv 0 126 x5_80) (_ : iv 0 24 x4_13) (_ : iv 0 1200 x3_80) (_ : iv 0 0 x) (_ : iv 0 1200 st) (_ : KS [43] gm gm_j80) (_ : CI sg gm_j80) (_ : x5_80 = byC fo x4_13) (_ : (x5_80.toInt = 0 ∨ x5_80.toInt = 10 ∨ 32 ≤ x5_80.toInt ∧ x5_80.toInt ≤ 126)) (_ : x3_80.toInt = st.toInt + (bN fo (((24 - x4_13.toInt) / 8).toNat + 1) : Int)) (H : Heap) (locs : List Loc) (ls : Array Slot), va_P (dC, dI) vwCl (cW ad cid a2 lx sg gm_j80 lg) H → va_D A (cW ad cid a2 lx sg gm_j80 lg) → va_S A s.heap H locs → lv_has ls 6 [(5, .int x5_80), (4, .int x4_13), (3, .int x3_80), (0, eV (ad 0) x), (1, .int st), (2, .int fo)] → W p l e (headSpec wm_X12_typedBehind ({ frames := 0, cells := 1, slots := 6, locals := 0 })).room s m ([eV (ad 0) x, .int st, .int fo] : List Value).toArray below meth c H locs 0 0 (vx_MQ below (cQx dC dI ad cid a2 lx (fun v u => ∃ r : Int32, v = some (.int r) ∧ ∃ (sg2 : Nat → Int32) (gm2 : Nat → Nat → Int32) (lg2 : Nat → Nat → Int64), u = (sg2, gm2, lg2) ∧ CI sg2 gm2 ∧ KS [] sg sg2 ∧ KS [43] gm gm2 ∧ KS [] lg lg2 ∧ (iv (-1) 1200 r) ∧ (TBH st fo r)) A) (cX dC dI ad cid a2 lx (fun _ _ => False) A) ([eV (ad 0) x, .int st, .int fo] : List Value).toArray s 1 6 A) (F0 m 80 ls []) := by
        intro gm_j80 x5_80 x3_80 hx5_80 hsx4_80 hx3_80 hsx0_80 hsx1_80 hkg_j80 hI_j80 h5 hk8 hc8 H locs ls hP hD hS hl
        obtain ⟨z_1, ez_1⟩ : ∃ z : Int32, z = x4_13 + (-8) := ⟨_, rfl⟩
        have hz_1 : iv (-8) 16 z_1 := iv_of ez_1 (iv_add hsx4_80 (iv_k (by decide) : iv (-8) (-8) (-8)) (by decide))
        have tz_1 : z_1.toInt = x4_13.toInt - 8 := by rw [ez_1]; exact iv_addE hsx4_80 (iv_k (by decide) : iv (-8) (-8) (-8)) (by decide)
        refine lv_iinc (v := z_1) (lv' := [(4, .int z_1), (5, .int x5_80), (3, .int x3_80), (0, eV (ad 0) x), (1, .int st), (2, .int fo)]) hx hb dX12_typedBehind_80 hl (k := 1) rfl ez_1.symm (by decide) rfl (fun ls hl => ?_)
        refine lv_goto (tgt := 13) hx hb dX12_typedBehind_83 (by decide) ?_
        exact ih13 _ (by rw [← hn13]; exact (by have := i32_0; have := i32_1; have := i32_2; have := i32_m1; have := (hsx0_80).1; have := (hsx0_80).2; have := (hsx1_80).1; have := (hsx1_80).2; have := (hsx4_80).1; have := (hsx4_80).2; have := (hx3_13).1; have := (hx3_13).2; have := (hx5_80).1; have := (hx5_80).2; have := (hx3_80).1; have := (hx3_80).2; have := (hz_1).1; have := (hz_1).2; omega)) gm_j80 z_1 x3_80 rfl (iv_w hz_1 (by decide)) hx3_80 hsx0_80 hsx1_80 (KS_tr (L := [43]) KS_rf hkg_j80 (by decide)) hI_j80 ((by { have q1 := tz_1; have := i32_0; have := i32_1; have := i32_2; have := i32_m1; have := (hsx0_80).1; have := (hsx0_80).2; have := (hsx1_80).1; have := (hsx1_80).2; have := (hsx4_80).1; have := (hsx4_80).2; have := (hx3_13).1; have := (hx3_13).2; have := (hx5_80).1; have := (hx5_80).2; have := (hx3_80).1; have := (hx3_80).2; have := (hz_1).1; have := (hz_1).2; omega })) ((by { rw [show ((24 - z_1.toInt) / 8).toNat = ((24 - x4_13.toInt) / 8).toNat + 1 from (by { have q1 := tz_1; have := i32_0; have := i32_1; have := i32_2; have := i32_m1; have := (hsx0_80).1; have := (hsx0_80).2; have := (hsx1_80).1; have := (hsx1_80).2; have := (hsx4_80).1; have := (hsx4_80).2; have := (hx3_13).1; have := (hx3_13).2; have := (hx5_80).1; have := (hx5_80).2; have := (hx3_80).1; have := (hx3_80).2; have := (hz_1).1; have := (hz_1).2; omega })]; exact hc8 })) ((by { rw [show ((24 - z_1.toInt) / 8).toNat = ((24 - x4_13.toInt) / 8).toNat + 1 from (by { have q1 := tz_1; have := i32_0; have := i32_1; have := i32_2; have := i32_m1; have := (hsx0_80).1; have := (hsx0_80).2; have := (hsx1_80).1; have := (hsx1_80).2; have := (hsx4_80).1; have := (hsx4_80).2; have := (hx3_13).1; have := (hx3_13).2; have := (hx5_80).1; have := (hx5_80).2; have := (hx3_80).1; have := (hx3_80).2; have := (hz_1).1; have := (hz_1).2; omega })]; exact by_k hsx4_80 hd hkb (by rw [← h5]; exact hk8) })) _ _ _ hP hD hS (lv_sub hl [0, 2, 3, 4, 5] rfl)
      have hj57 : ∀ (gm_j57 : Nat → Nat → Int32) (x5_57 : Int32) (_ : iv 10 126 x5_57) (_ : iv 0 24 x4_13) (_ : iv 0 1200 x3_13) (_ : iv 0 0 x) (_ : iv 0 1200 st) (_ : KS [43] gm gm_j57) (_ : CI sg gm_j57) (_ : x5_57 = byC fo x4_13) (_ : (x5_57.toInt = 0 ∨ x5_57.toInt = 10 ∨ 32 ≤ x5_57.toInt ∧ x5_57.toInt ≤ 126)) (_ : ¬ x5_57 = 0) (H : Heap) (locs : List Loc) (ls : Array Slot), va_P (dC, dI) vwCl (cW ad cid a2 lx sg gm_j57 lg) H → va_D A (cW ad cid a2 lx sg gm_j57 lg) → va_S A s.heap H locs → lv_has ls 6 [(5, .int x5_57), (4, .int x4_13), (3, .int x3_13), (0, eV (ad 0) x), (1, .int st), (2, .int fo)] → W p l e (headSpec wm_X12_typedBehind ({ frames := 0, cells := 1, slots := 6, locals := 0 })).room s m ([eV (ad 0) x, .int st, .int fo] : List Value).toArray below meth c H locs 0 0 (vx_MQ below (cQx dC dI ad cid a2 lx (fun v u => ∃ r : Int32, v = some (.int r) ∧ ∃ (sg2 : Nat → Int32) (gm2 : Nat → Nat → Int32) (lg2 : Nat → Nat → Int64), u = (sg2, gm2, lg2) ∧ CI sg2 gm2 ∧ KS [] sg sg2 ∧ KS [43] gm gm2 ∧ KS [] lg lg2 ∧ (iv (-1) 1200 r) ∧ (TBH st fo r)) A) (cX dC dI ad cid a2 lx (fun _ _ => False) A) ([eV (ad 0) x, .int st, .int fo] : List Value).toArray s 1 6 A) (F0 m 57 ls []) := by
        intro gm_j57 x5_57 hx5_57 hsx4_57 hsx3_57 hsx0_57 hsx1_57 hkg_j57 hI_j57 h5 hk8 hnz H locs ls hP hD hS hl
        refine lv_iload_n hx hb dX12_typedBehind_57 rfl (lv_at hl 2 rfl) ?_
        refine ec_aload_n hx hb dX12_typedBehind_58 rfl (lv_at hl 3 rfl) ?_
        refine cr_get (t := 0) (j := 1) (C := RX12) (T := TX12) (N := 12) (v := eV (ad 13) 0) hx hb htb inX12 hown hK hP hsx0_57 (by decide) (by decide) (by decide) rfl (by decide) (htb _ kw_17) (cV_c rfl (by decide) (by rw [show cMu 0 1 = 0 from rfl, Nat.zero_mul]; rfl)) dX12_typedBehind_59 ?_
        refine cr_alen (t := 13) (z := 1200) hx hb hK hP (iv_k (by decide) : iv 0 0 0) (by decide) (by decide) (by decide) rfl dX12_typedBehind_62 ?_
        refine lv_icmp_lt (tgt := 68) hx hb dX12_typedBehind_63 (by decide) (fun c_2 => ?_) (fun c_2 => ?_)
        · have h_3 : iv 0 1199 x3_13 := iv_ltL c_2 hsx3_57 (iv_k (by decide) : iv 1200 1200 1200) (by decide)
          refine ec_aload_n hx hb dX12_typedBehind_68 rfl (lv_at hl 3 rfl) ?_
          refine cr_get (t := 0) (j := 1) (C := RX12) (T := TX12) (N := 12) (v := eV (ad 13) 0) hx hb htb inX12 hown hK hP hsx0_57 (by decide) (by decide) (by decide) rfl (by decide) (htb _ kw_17) (cV_c rfl (by decide) (by rw [show cMu 0 1 = 0 from rfl, Nat.zero_mul]; rfl)) dX12_typedBehind_69 ?_
          refine lv_iload_n hx hb dX12_typedBehind_72 rfl (lv_at hl 2 rfl) ?_
          refine lv_iload hx hb dX12_typedBehind_73 (lv_at hl 0 rfl) ?_
          refine lv_i2c (v := ((x5_57 : Int32).toUInt32 % 65536).toInt32) hx hb dX12_typedBehind_75 rfl ?_
          refine lv_topi (fun z_4 ez_4 => ?_)
          have hz_4 : iv 0 65535 z_4 := iv_of ez_4 (iv_i2c x5_57)
          refine cr_cast (t := 13) (k := 43) (n9 := (x3_13 : Int32).toNatClampNeg) (z := z_4) hx hb hK hP hD hS (iv_k (by decide) : iv 0 0 0) (by decide) (by decide) (by decide) rfl rfl rfl (show vp_in x3_13 (cLen 13) from (show vp_in x3_13 1200 from (iv_in h_3 (by decide)))) (Or.inl rfl) (by rw [show cAw 13 = 0 from rfl, Nat.zero_mul, Nat.zero_add]) dX12_typedBehind_76 (fun gm_5 H locs egm_5 hP hD hS => ?_)
          rw [vnc hz_4] at egm_5
          have hI_gm_5 := CI_st hI_j57 egm_5 hz_4 (by decide)
          obtain ⟨z_6, ez_6⟩ : ∃ z : Int32, z = x3_13 + 1 := ⟨_, rfl⟩
          have hz_6 : iv 1 1200 z_6 := iv_of ez_6 (iv_add h_3 (iv_k (by decide) : iv 1 1 1) (by decide))
          have tz_6 : z_6.toInt = x3_13.toInt + 1 := by rw [ez_6]; exact iv_addE h_3 (iv_k (by decide) : iv 1 1 1) (by decide)
          refine lv_iinc (v := z_6) (lv' := [(3, .int z_6), (5, .int x5_57), (4, .int x4_13), (0, eV (ad 0) x), (1, .int st), (2, .int fo)]) hx hb dX12_typedBehind_77 hl (k := 2) rfl ez_6.symm (by decide) rfl (fun ls hl => ?_)
          exact hj80 gm_5 x5_57 z_6 (iv_w hx5_57 (by decide)) hsx4_57 (iv_w hz_6 (by decide)) hsx0_57 hsx1_57 (KS_up (KS_tr (L := [43]) KS_rf hkg_j57 (by decide)) egm_5 (by decide)) hI_gm_5 (h5) (hk8) ((by { obtain ⟨q1, q2⟩ := by_s (fo := fo) hsx4_57 hd; rw [← h5] at q2; rw [if_neg hnz] at q2; have := tz_6; have := i32_0; have := i32_1; have := i32_2; have := i32_m1; have := (hsx0_57).1; have := (hsx0_57).2; have := (hsx1_57).1; have := (hsx1_57).2; have := (hsx4_57).1; have := (hsx4_57).2; have := (h_3).1; have := (h_3).2; have := (hx5_57).1; have := (hx5_57).2; have := (hz_4).1; have := (hz_4).2; have := (hz_6).1; have := (hz_6).2; omega })) _ _ _ hP hD hS (lv_sub hl [1, 2, 0, 3, 4, 5] rfl)
        · have h_7 : iv 1200 1200 x3_13 := iv_leR (i32_ge c_2) (iv_k (by decide) : iv 1200 1200 1200) hsx3_57 (by decide)
          exact hj66 gm_j57 x5_57 x4_13 x3_13 (iv_w hx5_57 (by decide)) hsx4_57 (iv_w h_7 (by decide)) hsx0_57 hsx1_57 (KS_tr (L := [43]) KS_rf hkg_j57 (by decide)) hI_j57 ((Or.inr (by { obtain ⟨q1, q2⟩ := by_s (fo := fo) hsx4_57 hd; rw [← h5, if_neg hnz] at q2; have q3 := bN_mono fo _ 4 (show ((24 - x4_13.toInt) / 8).toNat + 1 ≤ 4 from q1); have := i32_0; have := i32_1; have := i32_2; have := i32_m1; have := (hsx0_57).1; have := (hsx0_57).2; have := (hsx1_57).1; have := (hsx1_57).2; have := (hsx4_57).1; have := (hsx4_57).2; have := (h_7).1; have := (h_7).2; have := (hx5_57).1; have := (hx5_57).2; omega }))) _ _ _ hP hD hS (lv_sub hl [0, 1, 2, 3, 4, 5] rfl)
      refine lv_iload hx hb dX12_typedBehind_13 (lv_at hl 0 rfl) ?_
      refine lv_if_lt (tgt := 86) hx hb dX12_typedBehind_15 (by decide) (fun c_8 => ?_) (fun c_8 => ?_)
      · have h_9 : iv (-8) (-1) x4_13 := iv_ltL c_8 hx4_13 (iv_k (by decide) : iv 0 0 0) (by decide)
        refine lv_iload_n hx hb dX12_typedBehind_86 rfl (lv_at hl 1 rfl) ?_
        exact W.nb (fun hN => W.widen (k := 1) (n := 6) (by decide) (by decide) (vx_ret (W.iret (v := x3_13) hx hb hr (fun t ht hW => ⟨⟨some (.int x3_13), (sg, gm_j13, lg), rfl, ⟨x3_13, rfl, sg, gm_j13, lg, rfl, hI_j13, KS_rf, (KS_tr (L := [43]) KS_rf hkg_j13 (by decide)), KS_rf, (iv_w hx3_13 (by decide)), (Or.inr ⟨by have := i32_0; have := i32_1; have := i32_2; have := i32_m1; have := (hsx0_13).1; have := (hsx0_13).2; have := (hsx1_13).1; have := (hsx1_13).2; have := (h_9).1; have := (h_9).2; have := (hx3_13).1; have := (hx3_13).2; omega, Or.inr (by { rw [show ((24 - x4_13.toInt) / 8).toNat = 4 from (by { have := i32_0; have := i32_1; have := i32_2; have := i32_m1; have := (hsx0_13).1; have := (hsx0_13).2; have := (hsx1_13).1; have := (hsx1_13).2; have := (h_9).1; have := (h_9).2; have := (hx3_13).1; have := (hx3_13).2; omega })] at hc hkb; exact ⟨hc, hkb, (by { have := i32_0; have := i32_1; have := i32_2; have := i32_m1; have := (hsx0_13).1; have := (hsx0_13).2; have := (hsx1_13).1; have := (hsx1_13).2; have := (h_9).1; have := (h_9).2; have := (hx3_13).1; have := (hx3_13).2; omega })⟩ })⟩)⟩, by rw [ht]; exact hP, va_K.moved hW.alike hK, hD⟩, hS.F ht, by rw [ht]; exact hN⟩) hS.2.2 dX12_typedBehind_87)))
      · have h_10 : iv 0 24 x4_13 := iv_leR (i32_ge c_8) (iv_k (by decide) : iv 0 0 0) hx4_13 (by decide)
        refine lv_iload_n hx hb dX12_typedBehind_18 rfl (lv_at hl 4 rfl) ?_
        refine lv_iload hx hb dX12_typedBehind_19 (lv_at hl 0 rfl) ?_
        refine lv_iushr (v := ((fo).toUInt32 >>> ((x4_13 : Int32).toUInt32 &&& Int32.toUInt32 31)).toInt32) hx hb dX12_typedBehind_21 rfl ?_
        refine lv_topi (fun z_11 ez_11 => ?_)
        refine lv_sipush (v := 255) hx hb dX12_typedBehind_22 (by decide) ?_
        refine lv_iand hx hb dX12_typedBehind_25 ?_
        refine lv_topi (fun z_12 ez_12 => ?_)
        have hz_12 : iv 0 255 z_12 := iv_of ez_12 (iv_255 _)
        have h5 : z_12 = byC fo x4_13 := by unfold byC; rw [ez_12, ez_11]
        refine lv_istore (i := 5) (lv' := [(5, .int z_12), (4, .int x4_13), (3, .int x3_13), (0, eV (ad 0) x), (1, .int st), (2, .int fo)]) hx hb dX12_typedBehind_26 hl (by decide) rfl (fun ls hl => ?_)
        refine lv_iload hx hb dX12_typedBehind_28 (lv_at hl 0 rfl) ?_
        refine lv_if_ne (tgt := 36) hx hb dX12_typedBehind_30 (by decide) (fun c_13 => ?_) (fun c_13 => ?_)
        · have h_14 : iv 1 255 z_12 := iv_neL c_13 hz_12 (by decide)
          refine lv_iload hx hb dX12_typedBehind_36 (lv_at hl 0 rfl) ?_
          refine lv_bipush (v := 10) hx hb dX12_typedBehind_38 (by decide) ?_
          refine lv_icmp_eq (tgt := 57) hx hb dX12_typedBehind_40 (by decide) (fun c_15 => ?_) (fun c_15 => ?_)
          · have h_16 : iv 10 10 z_12 := iv_eq c_15 h_14 (iv_k (by decide) : iv 10 10 10) (by decide)
            exact hj57 gm_j13 z_12 (iv_w h_16 (by decide)) h_10 hx3_13 hsx0_13 hsx1_13 (KS_tr (L := [43]) KS_rf hkg_j13 (by decide)) hI_j13 (h5) (by have := i32_0; have := i32_1; have := i32_2; have := i32_m1; have := (hsx0_13).1; have := (hsx0_13).2; have := (hsx1_13).1; have := (hsx1_13).2; have := (h_10).1; have := (h_10).2; have := (hx3_13).1; have := (hx3_13).2; have := (h_16).1; have := (h_16).2; omega) (c_13) _ _ _ hP hD hS (lv_sub hl [0, 1, 2, 3, 4, 5] rfl)
          · have d_17 : ¬ (z_12 : Int32).toInt = 10 := lv_neT c_15 rfl
            refine lv_iload hx hb dX12_typedBehind_43 (lv_at hl 0 rfl) ?_
            refine lv_bipush (v := 32) hx hb dX12_typedBehind_45 (by decide) ?_
            refine lv_icmp_lt (tgt := 66) hx hb dX12_typedBehind_47 (by decide) (fun c_18 => ?_) (fun c_18 => ?_)
            · have h_19 : iv 1 31 z_12 := iv_ltL c_18 h_14 (iv_k (by decide) : iv 32 32 32) (by decide)
              exact hj66 gm_j13 z_12 x4_13 x3_13 (iv_w h_19 (by decide)) h_10 hx3_13 hsx0_13 hsx1_13 (KS_tr (L := [43]) KS_rf hkg_j13 (by decide)) hI_j13 ((Or.inl (by_bad h_10 hd (by { rw [← h5]; have n10 : ¬ z_12.toInt = 10 := fun q => c_15 (Int32.toInt_inj.mp q); have := i32_0; have := i32_1; have := i32_2; have := i32_m1; have := (hsx0_13).1; have := (hsx0_13).2; have := (hsx1_13).1; have := (hsx1_13).2; have := (h_10).1; have := (h_10).2; have := (hx3_13).1; have := (hx3_13).2; have := (h_19).1; have := (h_19).2; omega })))) _ _ _ hP hD hS (lv_sub hl [0, 1, 2, 3, 4, 5] rfl)
            · have h_20 : iv 32 255 z_12 := iv_leR (i32_ge c_18) (iv_k (by decide) : iv 32 32 32) h_14 (by decide)
              refine lv_iload hx hb dX12_typedBehind_50 (lv_at hl 0 rfl) ?_
              refine lv_bipush (v := 126) hx hb dX12_typedBehind_52 (by decide) ?_
              refine lv_icmp_gt (tgt := 66) hx hb dX12_typedBehind_54 (by decide) (fun c_21 => ?_) (fun c_21 => ?_)
              · have h_22 : iv 127 255 z_12 := iv_ltR c_21 (iv_k (by decide) : iv 126 126 126) h_20 (by decide)
                exact hj66 gm_j13 z_12 x4_13 x3_13 (iv_w h_22 (by decide)) h_10 hx3_13 hsx0_13 hsx1_13 (KS_tr (L := [43]) KS_rf hkg_j13 (by decide)) hI_j13 ((Or.inl (by_bad h_10 hd (by { rw [← h5]; have n10 : ¬ z_12.toInt = 10 := fun q => c_15 (Int32.toInt_inj.mp q); have := i32_0; have := i32_1; have := i32_2; have := i32_m1; have := (hsx0_13).1; have := (hsx0_13).2; have := (hsx1_13).1; have := (hsx1_13).2; have := (h_10).1; have := (h_10).2; have := (hx3_13).1; have := (hx3_13).2; have := (h_22).1; have := (h_22).2; omega })))) _ _ _ hP hD hS (lv_sub hl [0, 1, 2, 3, 4, 5] rfl)
              · have h_23 : iv 32 126 z_12 := iv_leL (i32_ge c_21) h_20 (iv_k (by decide) : iv 126 126 126) (by decide)
                exact hj57 gm_j13 z_12 (iv_w h_23 (by decide)) h_10 hx3_13 hsx0_13 hsx1_13 (KS_tr (L := [43]) KS_rf hkg_j13 (by decide)) hI_j13 (h5) (by have := i32_0; have := i32_1; have := i32_2; have := i32_m1; have := (hsx0_13).1; have := (hsx0_13).2; have := (hsx1_13).1; have := (hsx1_13).2; have := (h_10).1; have := (h_10).2; have := (hx3_13).1; have := (hx3_13).2; have := (h_23).1; have := (h_23).2; omega) (c_13) _ _ _ hP hD hS (lv_sub hl [0, 1, 2, 3, 4, 5] rfl)
        · have h_24 : iv 0 0 z_12 := iv_eq c_13 hz_12 (iv_k (by decide) : iv 0 0 0) (by decide)
          have hzz : z_12 = 0 := c_13
          refine lv_goto (tgt := 80) hx hb dX12_typedBehind_33 (by decide) ?_
          exact hj80 gm_j13 z_12 x3_13 (iv_w h_24 (by decide)) h_10 hx3_13 hsx0_13 hsx1_13 (KS_tr (L := [43]) KS_rf hkg_j13 (by decide)) hI_j13 (h5) (by have := i32_0; have := i32_1; have := i32_2; have := i32_m1; have := (hsx0_13).1; have := (hsx0_13).2; have := (hsx1_13).1; have := (hsx1_13).2; have := (h_10).1; have := (h_10).2; have := (hx3_13).1; have := (hx3_13).2; have := (h_24).1; have := (h_24).2; omega) ((by { obtain ⟨q1, q2⟩ := by_s (fo := fo) h_10 hd; rw [← h5] at q2; rw [if_pos (by exact hzz)] at q2; have := i32_0; have := i32_1; have := i32_2; have := i32_m1; have := (hsx0_13).1; have := (hsx0_13).2; have := (hsx1_13).1; have := (hsx1_13).2; have := (h_10).1; have := (h_10).2; have := (hx3_13).1; have := (hx3_13).2; have := (h_24).1; have := (h_24).2; omega })) _ _ _ hP hD hS (lv_sub hl [0, 1, 2, 3, 4, 5] rfl)
  refine lv_iload_n hx hb dX12_typedBehind_0 rfl (lv_at hl 1 rfl) ?_
  refine lv_iconst (v := (-1)) hx hb dX12_typedBehind_1 (by decide) ?_
  refine lv_icmp_ne (tgt := 7) hx hb dX12_typedBehind_2 (by decide) (fun c_25 => ?_) (fun c_25 => ?_)
  · have h_26 : iv 0 1200 st := iv_neL c_25 hvst (by decide)
    refine lv_iload_n hx hb dX12_typedBehind_7 rfl (lv_at hl 1 rfl) ?_
    refine lv_istore_n (i := 3) (lv' := [(3, .int st), (0, eV (ad 0) x), (1, .int st), (2, .int fo)]) hx hb dX12_typedBehind_8 rfl hl (by decide) rfl (fun ls hl => ?_)
    refine lv_bipush (v := 24) hx hb dX12_typedBehind_9 (by decide) ?_
    refine lv_istore (i := 4) (lv' := [(4, .int 24), (3, .int st), (0, eV (ad 0) x), (1, .int st), (2, .int fo)]) hx hb dX12_typedBehind_11 hl (by decide) rfl (fun ls hl => ?_)
    exact hj13 _ gm 24 st rfl (iv_w (iv_k (by decide) : iv 24 24 24) (by decide)) h_26 hvx h_26 KS_rf hI ((by decide)) ((by { show _ = _ + ((0 : Nat) : Int); omega })) ((fun j hj => absurd hj (Nat.not_lt_zero j))) _ _ _ hP hD hS (lv_sub hl [0, 1, 2, 3, 4] rfl)
  · have h_27 : iv (-1) (-1) st := iv_eq c_25 hvst (iv_k (by decide) : iv (-1) (-1) (-1)) (by decide)
    refine lv_iconst (v := (-1)) hx hb dX12_typedBehind_5 (by decide) ?_
    exact W.nb (fun hN => W.widen (k := 1) (n := 6) (by decide) (by decide) (vx_ret (W.iret (v := (-1)) hx hb hr (fun t ht hW => ⟨⟨some (.int (-1)), (sg, gm, lg), rfl, ⟨(-1), rfl, sg, gm, lg, rfl, hI, KS_rf, KS_rf, KS_rf, (iv_w (iv_k (by decide) : iv (-1) (-1) (-1)) (by decide)), (Or.inl ⟨by have := i32_0; have := i32_1; have := i32_2; have := i32_m1; have := (hvx).1; have := (hvx).2; have := (h_27).1; have := (h_27).2; omega, rfl⟩)⟩, by rw [ht]; exact hP, va_K.moved hW.alike hK, hD⟩, hS.F ht, by rw [ht]; exact hN⟩) hS.2.2 dX12_typedBehind_6)))

theorem TYR_of {p1 p2 p3 p4 p5 s0 r1 r2 r3 r4 r5 s2 : Int32} (h0 : 0 ≤ s0.toInt) (t1 : TBH s0 p1 r1) (t2 : TBH r1 p2 r2) (t3 : TBH r2 p3 r3) (t4 : TBH r3 p4 r4) (t5 : TBH r4 p5 r5) (hs : (r5.toInt = -1 ∧ s2 = s0) ∨ (¬ r5.toInt = -1 ∧ s2 = r5)) : TYR p1 p2 p3 p4 p5 r5 s0 s2 := by
  rcases TBH_5 h0 t1 t2 t3 t4 t5 with ⟨a1, a2⟩ | ⟨a1, a2, a3⟩
  · rcases hs with ⟨b1, b2⟩ | ⟨b1, b2⟩
    · exact Or.inl ⟨a1, a2, b2⟩
    · exact absurd a1 b1
  · rcases hs with ⟨b1, b2⟩ | ⟨b1, b2⟩
    · omega
    · exact Or.inr ⟨a1, a2, a3, b2⟩

set_option maxHeartbeats 4000000 in
set_option maxRecDepth 100000 in
theorem d_type2 (l : Launch) (dC : Nat → ClassId) (dI : Nat → Nat → Nat) (ad : Nat → Nat → Nat) (cid : Nat → ClassId) (a2 : Nat → Nat) (lx : List Nat) (sg : Nat → Int32) (gm : Nat → Nat → Int32) (lg : Nat → Nat → Int64) (x : Int32) (fa : Int32) (fb : Int32) (fc9 : Int32) (fd9 : Int32) (fe9 : Int32) (hI : CI sg gm) (hvx : iv 0 0 x) : CMt dC dI ad cid a2 lx l yX12_type wm_X12_type ({ frames := 1, cells := 1, slots := 6, locals := 25 }) [eV (ad 0) x, .int fa, .int fb, .int fc9, .int fd9, .int fe9] sg gm lg (fun v u => ∃ r : Int32, v = some (.int r) ∧ ∃ (sg2 : Nat → Int32) (gm2 : Nat → Nat → Int32) (lg2 : Nat → Nat → Int64), u = (sg2, gm2, lg2) ∧ CI sg2 gm2 ∧ KS [0] sg sg2 ∧ KS [43] gm gm2 ∧ KS [] lg lg2 ∧ (iv (-1) 1200 r) ∧ (TYR fa fb fc9 fd9 fe9 r (sg 0) (sg2 0))) (fun _ _ => False) := by
  intro sz
  refine vx_ofW (cc := cX12_type) (maxL := 7) (ret := (some .int)) (by decide) rfl ?_
  intro p e s m args below meth c s₁ B hml hxt hv
  obtain ⟨rfl, hsz, hP, hK, hD0, hG⟩ := hv
  have hx := B.exec
  have hb := B.bytes
  have hr := B.returns
  have hts := atoms_spec (ws := wm_X12_type) B.pre
  have htb := fun (w : Cond) (h : w ∈ tb) => hts w (List.mem_cons_of_mem _ h)
  have hown : s.vm.findClass RX12 = some m.cls := findClass_of_methodNamed B.named
  have hlocks := B.notSynchronized
  subst hsz
  have hD := hD0.self (sz := s.heap.size)
  generalize hAe : va_A (cW ad cid a2 lx sg gm lg) s.heap.size = A at hD hG ⊢
  have hA : ∀ q : Nat, s.heap.size ≤ q → A q := fun q h => by rw [← hAe]; exact Or.inr h
  have hS : va_S A s.heap s.heap [] := va_S.rf
  have hl := lv_entry ([eV (ad 0) x, .int fa, .int fb, .int fc9, .int fd9, .int fe9]) (n := 7) (by rw [show (lg_sl ([eV (ad 0) x, .int fa, .int fb, .int fc9, .int fd9, .int fe9])).length = 6 from by simp [lg_sl, eV_cat, cat_i, cat_l]]; exact Nat.le_of_ble_eq_true rfl)
  rw [lg_entry_eq]
  generalize (lg_sl ([eV (ad 0) x, .int fa, .int fb, .int fc9, .int fd9, .int fe9]) ++ List.replicate (7 - (lg_sl ([eV (ad 0) x, .int fa, .int fb, .int fc9, .int fd9, .int fe9])).length) Slot.unset).toArray = ls at hl ⊢
  have hl : lv_has ls 7 [(0, eV (ad 0) x), (1, .int fa), (2, .int fb), (3, .int fc9), (4, .int fd9), (5, .int fe9)] := by simp [lv_args, eV_cat, cat_i, cat_l] at hl; exact hl
  have hj61 : ∀ (sg_j61 : Nat → Int32) (gm_j61 : Nat → Nat → Int32) (x6_61 : Int32) (_ : iv (-1) 1200 x6_61) (_ : iv 0 0 x) (_ : KS [0] sg sg_j61) (_ : KS [43] gm gm_j61) (_ : CI sg_j61 gm_j61) (_ : TYR fa fb fc9 fd9 fe9 x6_61 (sg 0) (sg_j61 0)) (H : Heap) (locs : List Loc) (ls : Array Slot), va_P (dC, dI) vwCl (cW ad cid a2 lx sg_j61 gm_j61 lg) H → va_D A (cW ad cid a2 lx sg_j61 gm_j61 lg) → va_S A s.heap H locs → lv_has ls 7 [(6, .int x6_61), (0, eV (ad 0) x), (1, .int fa), (2, .int fb), (3, .int fc9), (4, .int fd9), (5, .int fe9)] → W p l e (headSpec wm_X12_type ({ frames := 1, cells := 1, slots := 6, locals := 25 })).room s m ([eV (ad 0) x, .int fa, .int fb, .int fc9, .int fd9, .int fe9] : List Value).toArray below meth c H locs 0 0 (vx_MQ below (cQx dC dI ad cid a2 lx (fun v u => ∃ r : Int32, v = some (.int r) ∧ ∃ (sg2 : Nat → Int32) (gm2 : Nat → Nat → Int32) (lg2 : Nat → Nat → Int64), u = (sg2, gm2, lg2) ∧ CI sg2 gm2 ∧ KS [0] sg sg2 ∧ KS [43] gm gm2 ∧ KS [] lg lg2 ∧ (iv (-1) 1200 r) ∧ (TYR fa fb fc9 fd9 fe9 r (sg 0) (sg2 0))) A) (cX dC dI ad cid a2 lx (fun _ _ => False) A) ([eV (ad 0) x, .int fa, .int fb, .int fc9, .int fd9, .int fe9] : List Value).toArray s 1 6 A) (F0 m 61 ls []) := by
    intro sg_j61 gm_j61 x6_61 hx6_61 hsx0_61 hks_j61 hkg_j61 hI_j61 hT H locs ls hP hD hS hl
    refine lv_iload hx hb dX12_type_61 (lv_at hl 0 rfl) ?_
    exact W.nb (fun hN => W.widen (k := 1) (n := 6) (by decide) (by decide) (vx_ret (W.iret (v := x6_61) hx hb hr (fun t ht hW => ⟨⟨some (.int x6_61), (sg_j61, gm_j61, lg), rfl, ⟨x6_61, rfl, sg_j61, gm_j61, lg, rfl, hI_j61, (KS_tr (L := [0]) KS_rf hks_j61 (by decide)), (KS_tr (L := [43]) KS_rf hkg_j61 (by decide)), KS_rf, hx6_61, (hT)⟩, by rw [ht]; exact hP, va_K.moved hW.alike hK, hD⟩, hS.F ht, by rw [ht]; exact hN⟩) hS.2.2 dX12_type_63)))
  refine ec_aload_n hx hb dX12_type_0 rfl (lv_at hl 0 rfl) ?_
  refine ec_aload_n hx hb dX12_type_1 rfl (lv_at hl 0 rfl) ?_
  refine cr_get (t := 0) (j := 8) (C := RX12) (T := TX12) (N := 12) (v := .int (sg 0)) hx hb htb inX12 hown hK hP hvx (by decide) (by decide) (by decide) rfl (by decide) (htb _ kw_294) rfl dX12_type_2 ?_
  refine lv_iload_n hx hb dX12_type_5 rfl (lv_at hl 1 rfl) ?_
  refine cm_callV (t := 0) (C := RX12) (T := TX12) (N := 12) (rest := []) (as := [.int (sg 0), .int fa]) ⟨hx, hb, hml, hown, htb⟩ (d_typedBehind2 l dC dI ad cid a2 lx sg gm lg x (sg 0) fa hI hvx (iv_w (show iv 0 1200 (sg 0) from CI_s hI 0) (by decide))) (cwV 2 htb (gd_V kw_295 kw_296 kw_297 kw_2 kw_1407) rfl rfl rfl (by decide +kernel) ⟨Nat.le_of_ble_eq_true rfl, Nat.le_of_ble_eq_true rfl⟩) hvx (by decide) (by decide) rfl rfl hl.1 rfl (Nat.le_trans cs_n (by decide)) dX12_type_6 ⟨Nat.le_of_ble_eq_true rfl, Nat.le_of_ble_eq_true rfl⟩ hK hP hD hS hA hG (fun E ce q9 u_2 H locs hw hP hD hS hce hcv hcl => ?_) (fun v9 u_2 H locs hw hP hD hS => ?_)
  · exact hw.elim
  obtain ⟨r_1, rfl, sgv_3, gmv_3, lgv_3, rfl, hIv_3, ksv_3, kgv_3, klv_3, hr_1, fB_r_1⟩ := hw
  obtain rfl := KS_nil ksv_3
  obtain rfl := KS_nil klv_3
  have hP : va_P (dC, dI) vwCl (cW ad cid a2 lx sg gmv_3 lg) H := hP
  have hD : va_D A (cW ad cid a2 lx sg gmv_3 lg) := hD
  refine W.eq (g2 := F0 m 9 ls [.int r_1]) rfl ?_
  refine lv_istore (i := 6) (lv' := [(6, .int r_1), (0, eV (ad 0) x), (1, .int fa), (2, .int fb), (3, .int fc9), (4, .int fd9), (5, .int fe9)]) hx hb dX12_type_9 hl (by decide) rfl (fun ls hl => ?_)
  refine ec_aload_n hx hb dX12_type_11 rfl (lv_at hl 1 rfl) ?_
  refine lv_iload hx hb dX12_type_12 (lv_at hl 0 rfl) ?_
  refine lv_iload_n hx hb dX12_type_14 rfl (lv_at hl 3 rfl) ?_
  refine cm_callV (t := 0) (C := RX12) (T := TX12) (N := 12) (rest := []) (as := [.int r_1, .int fb]) ⟨hx, hb, hml, hown, htb⟩ (d_typedBehind2 l dC dI ad cid a2 lx sg gmv_3 lg x r_1 fb hIv_3 hvx hr_1) (cwV 2 htb (gd_V kw_295 kw_296 kw_297 kw_2 kw_1407) rfl rfl rfl (by decide +kernel) ⟨Nat.le_of_ble_eq_true rfl, Nat.le_of_ble_eq_true rfl⟩) hvx (by decide) (by decide) rfl rfl hl.1 rfl (Nat.le_trans cs_n (by decide)) dX12_type_15 ⟨Nat.le_of_ble_eq_true rfl, Nat.le_of_ble_eq_true rfl⟩ hK hP hD hS hA hG (fun E ce q9 u_5 H locs hw hP hD hS hce hcv hcl => ?_) (fun v9 u_5 H locs hw hP hD hS => ?_)
  · exact hw.elim
  obtain ⟨r_4, rfl, sgv_6, gmv_6, lgv_6, rfl, hIv_6, ksv_6, kgv_6, klv_6, hr_4, fB_r_4⟩ := hw
  obtain rfl := KS_nil ksv_6
  obtain rfl := KS_nil klv_6
  have hP : va_P (dC, dI) vwCl (cW ad cid a2 lx sg gmv_6 lg) H := hP
  have hD : va_D A (cW ad cid a2 lx sg gmv_6 lg) := hD
  refine W.eq (g2 := F0 m 18 ls [.int r_4]) rfl ?_
  refine lv_istore (i := 6) (lv' := [(6, .int r_4), (0, eV (ad 0) x), (1, .int fa), (2, .int fb), (3, .int fc9), (4, .int fd9), (5, .int fe9)]) hx hb dX12_type_18 hl (by decide) rfl (fun ls hl => ?_)
  refine ec_aload_n hx hb dX12_type_20 rfl (lv_at hl 1 rfl) ?_
  refine lv_iload hx hb dX12_type_21 (lv_at hl 0 rfl) ?_
  refine lv_iload_n hx hb dX12_type_23 rfl (lv_at hl 4 rfl) ?_
  refine cm_callV (t := 0) (C := RX12) (T := TX12) (N := 12) (rest := []) (as := [.int r_4, .int fc9]) ⟨hx, hb, hml, hown, htb⟩ (d_typedBehind2 l dC dI ad cid a2 lx sg gmv_6 lg x r_4 fc9 hIv_6 hvx hr_4) (cwV 2 htb (gd_V kw_295 kw_296 kw_297 kw_2 kw_1407) rfl rfl rfl (by decide +kernel) ⟨Nat.le_of_ble_eq_true rfl, Nat.le_of_ble_eq_true rfl⟩) hvx (by decide) (by decide) rfl rfl hl.1 rfl (Nat.le_trans cs_n (by decide)) dX12_type_24 ⟨Nat.le_of_ble_eq_true rfl, Nat.le_of_ble_eq_true rfl⟩ hK hP hD hS hA hG (fun E ce q9 u_8 H locs hw hP hD hS hce hcv hcl => ?_) (fun v9 u_8 H locs hw hP hD hS => ?_)
  · exact hw.elim
  obtain ⟨r_7, rfl, sgv_9, gmv_9, lgv_9, rfl, hIv_9, ksv_9, kgv_9, klv_9, hr_7, fB_r_7⟩ := hw
  obtain rfl := KS_nil ksv_9
  obtain rfl := KS_nil klv_9
  have hP : va_P (dC, dI) vwCl (cW ad cid a2 lx sg gmv_9 lg) H := hP
  have hD : va_D A (cW ad cid a2 lx sg gmv_9 lg) := hD
  refine W.eq (g2 := F0 m 27 ls [.int r_7]) rfl ?_
  refine lv_istore (i := 6) (lv' := [(6, .int r_7), (0, eV (ad 0) x), (1, .int fa), (2, .int fb), (3, .int fc9), (4, .int fd9), (5, .int fe9)]) hx hb dX12_type_27 hl (by decide) rfl (fun ls hl => ?_)
  refine ec_aload_n hx hb dX12_type_29 rfl (lv_at hl 1 rfl) ?_
  refine lv_iload hx hb dX12_type_30 (lv_at hl 0 rfl) ?_
  refine lv_iload hx hb dX12_type_32 (lv_at hl 5 rfl) ?_
  refine cm_callV (t := 0) (C := RX12) (T := TX12) (N := 12) (rest := []) (as := [.int r_7, .int fd9]) ⟨hx, hb, hml, hown, htb⟩ (d_typedBehind2 l dC dI ad cid a2 lx sg gmv_9 lg x r_7 fd9 hIv_9 hvx hr_7) (cwV 2 htb (gd_V kw_295 kw_296 kw_297 kw_2 kw_1407) rfl rfl rfl (by decide +kernel) ⟨Nat.le_of_ble_eq_true rfl, Nat.le_of_ble_eq_true rfl⟩) hvx (by decide) (by decide) rfl rfl hl.1 rfl (Nat.le_trans cs_n (by decide)) dX12_type_34 ⟨Nat.le_of_ble_eq_true rfl, Nat.le_of_ble_eq_true rfl⟩ hK hP hD hS hA hG (fun E ce q9 u_11 H locs hw hP hD hS hce hcv hcl => ?_) (fun v9 u_11 H locs hw hP hD hS => ?_)
  · exact hw.elim
  obtain ⟨r_10, rfl, sgv_12, gmv_12, lgv_12, rfl, hIv_12, ksv_12, kgv_12, klv_12, hr_10, fB_r_10⟩ := hw
  obtain rfl := KS_nil ksv_12
  obtain rfl := KS_nil klv_12
  have hP : va_P (dC, dI) vwCl (cW ad cid a2 lx sg gmv_12 lg) H := hP
  have hD : va_D A (cW ad cid a2 lx sg gmv_12 lg) := hD
  refine W.eq (g2 := F0 m 37 ls [.int r_10]) rfl ?_
  refine lv_istore (i := 6) (lv' := [(6, .int r_10), (0, eV (ad 0) x), (1, .int fa), (2, .int fb), (3, .int fc9), (4, .int fd9), (5, .int fe9)]) hx hb dX12_type_37 hl (by decide) rfl (fun ls hl => ?_)
  refine ec_aload_n hx hb dX12_type_39 rfl (lv_at hl 1 rfl) ?_
  refine lv_iload hx hb dX12_type_40 (lv_at hl 0 rfl) ?_
  refine lv_iload hx hb dX12_type_42 (lv_at hl 6 rfl) ?_
  refine cm_callV (t := 0) (C := RX12) (T := TX12) (N := 12) (rest := []) (as := [.int r_10, .int fe9]) ⟨hx, hb, hml, hown, htb⟩ (d_typedBehind2 l dC dI ad cid a2 lx sg gmv_12 lg x r_10 fe9 hIv_12 hvx hr_10) (cwV 2 htb (gd_V kw_295 kw_296 kw_297 kw_2 kw_1407) rfl rfl rfl (by decide +kernel) ⟨Nat.le_of_ble_eq_true rfl, Nat.le_of_ble_eq_true rfl⟩) hvx (by decide) (by decide) rfl rfl hl.1 rfl (Nat.le_trans cs_n (by decide)) dX12_type_44 ⟨Nat.le_of_ble_eq_true rfl, Nat.le_of_ble_eq_true rfl⟩ hK hP hD hS hA hG (fun E ce q9 u_14 H locs hw hP hD hS hce hcv hcl => ?_) (fun v9 u_14 H locs hw hP hD hS => ?_)
  · exact hw.elim
  obtain ⟨r_13, rfl, sgv_15, gmv_15, lgv_15, rfl, hIv_15, ksv_15, kgv_15, klv_15, hr_13, fB_r_13⟩ := hw
  obtain rfl := KS_nil ksv_15
  obtain rfl := KS_nil klv_15
  have hP : va_P (dC, dI) vwCl (cW ad cid a2 lx sg gmv_15 lg) H := hP
  have hD : va_D A (cW ad cid a2 lx sg gmv_15 lg) := hD
  refine W.eq (g2 := F0 m 47 ls [.int r_13]) rfl ?_
  refine lv_istore (i := 6) (lv' := [(6, .int r_13), (0, eV (ad 0) x), (1, .int fa), (2, .int fb), (3, .int fc9), (4, .int fd9), (5, .int fe9)]) hx hb dX12_type_47 hl (by decide) rfl (fun ls hl => ?_)
  refine lv_iload hx hb dX12_type_49 (lv_at hl 0 rfl) ?_
  refine lv_iconst (v := (-1)) hx hb dX12_type_51 (by decide) ?_
  refine lv_icmp_eq (tgt := 61) hx hb dX12_type_52 (by decide) (fun c_16 => ?_) (fun c_16 => ?_)
  · have h_17 : iv (-1) (-1) r_13 := iv_eq c_16 hr_13 (iv_k (by decide) : iv (-1) (-1) (-1)) (by decide)
    exact hj61 sg gmv_15 r_13 (iv_w h_17 (by decide)) hvx KS_rf (KS_tr (L := [43]) (KS_tr (L := [43]) (KS_tr (L := [43]) (KS_tr (L := [43]) (KS_tr (L := [43]) KS_rf kgv_3 (by decide)) kgv_6 (by decide)) kgv_9 (by decide)) kgv_12 (by decide)) kgv_15 (by decide)) hIv_15 ((TYR_of (show iv 0 1200 (sg 0) from CI_s hI 0).1 fB_r_1 fB_r_4 fB_r_7 fB_r_10 fB_r_13 (Or.inl ⟨(by have := i32_0; have := i32_1; have := i32_2; have := i32_m1; have := (hvx).1; have := (hvx).2; have := ((show iv 0 1200 (sg 0) from CI_s hI 0)).1; have := ((show iv 0 1200 (sg 0) from CI_s hI 0)).2; have := (hr_1).1; have := (hr_1).2; have := (hr_4).1; have := (hr_4).2; have := (hr_7).1; have := (hr_7).2; have := (hr_10).1; have := (hr_10).2; have := (h_17).1; have := (h_17).2; omega), rfl⟩))) _ _ _ hP hD hS (lv_sub hl [0, 1, 2, 3, 4, 5, 6] rfl)
  · have h_18 : iv 0 1200 r_13 := iv_neL c_16 hr_13 (by decide)
    refine ec_aload_n hx hb dX12_type_55 rfl (lv_at hl 1 rfl) ?_
    refine lv_iload hx hb dX12_type_56 (lv_at hl 0 rfl) ?_
    refine cr_puts (t := 0) (j := 8) (C := RX12) (T := TX12) (N := 12) (ty0 := tyX12) (k := 0) (y := r_13) hx hb htb inX12 tyX12_ok nmX12 hown hK hP hD hS hvx (by decide) (by decide) (by decide) (by decide) rfl rfl rfl (by decide) (htb _ kw_294) rfl (by show Value.int r_13 = Value.int (va_up sg 0 r_13 0); rw [va_up_self]) rfl rfl dX12_type_58 (fun sg_19 H locs esg_19 hP hD hS => ?_)
    have hI_sg_19 := CI_put hIv_15 esg_19 h_18 (by decide)
    exact hj61 sg_19 gmv_15 r_13 (iv_w h_18 (by decide)) hvx (KS_up KS_rf esg_19 (by decide)) (KS_tr (L := [43]) (KS_tr (L := [43]) (KS_tr (L := [43]) (KS_tr (L := [43]) (KS_tr (L := [43]) KS_rf kgv_3 (by decide)) kgv_6 (by decide)) kgv_9 (by decide)) kgv_12 (by decide)) kgv_15 (by decide)) hI_sg_19 ((TYR_of (show iv 0 1200 (sg 0) from CI_s hI 0).1 fB_r_1 fB_r_4 fB_r_7 fB_r_10 fB_r_13 (Or.inr ⟨(by have := i32_0; have := i32_1; have := i32_2; have := i32_m1; have := (hvx).1; have := (hvx).2; have := ((show iv 0 1200 (sg 0) from CI_s hI 0)).1; have := ((show iv 0 1200 (sg 0) from CI_s hI 0)).2; have := (hr_1).1; have := (hr_1).2; have := (hr_4).1; have := (hr_4).2; have := (hr_7).1; have := (hr_7).2; have := (hr_10).1; have := (hr_10).2; have := (h_18).1; have := (h_18).2; omega), (up_at esg_19)⟩))) _ _ _ hP hD hS (lv_sub hl [0, 1, 2, 3, 4, 5, 6] rfl)

set_option maxHeartbeats 4000000 in
set_option maxRecDepth 100000 in
theorem d_read2 (l : Launch) (dC : Nat → ClassId) (dI : Nat → Nat → Nat) (ad : Nat → Nat → Nat) (cid : Nat → ClassId) (a2 : Nat → Nat) (lx : List Nat) (sg : Nat → Int32) (gm : Nat → Nat → Int32) (lg : Nat → Nat → Int64) (hl9 : l.stackTraces = false) (x : Int32) (K9 : Nat) (hI : CI sg gm) (hvx : iv 0 0 x) (hU12 : UB 12 K9 gm) (hU18 : UB 18 K9 gm) (hK9 : K9 ≤ 1998700) (hLD : LDI lx gm) : CMg dC dI ad cid l yX12_read wm_X12_read ({ frames := 16, cells := 304802, slots := 1219333, locals := 381 }) [eV (ad 0) x] a2 lx sg gm lg 1 304802 1219333 (fun v u => ∃ r : Int32, v = some (.int r) ∧ ∃ (a22 : Nat → Nat) (lx2 : List Nat), ∃ (sg2 : Nat → Int32) (gm2 : Nat → Nat → Int32) (lg2 : Nat → Nat → Int64), u = (a22, lx2, sg2, gm2, lg2) ∧ CI sg2 gm2 ∧ KS [0, 1, 2, 3, 4, 5, 6, 7, 8, 9, 10, 11, 12, 13, 14, 15] sg sg2 ∧ KS [11, 12, 13, 14, 15, 16, 17, 18, 19, 20, 21, 22, 23, 24, 25, 26, 27, 29, 30, 31, 32, 33, 34, 35, 36, 37, 38, 39, 40, 41, 42, 44, 45, 46, 47, 56, 57] gm gm2 ∧ KS [0, 1, 2, 3, 4, 5, 6, 7] lg lg2 ∧ (iv 0 80 r) ∧ (UB 12 (K9 + 1203) gm2) ∧ (UB 18 (K9 + 1203) gm2) ∧ (LDI lx2 gm2) ∧ ((sg2 15).toInt = 0) ∧ (WRM sg2 gm2 lg2) ∧ ((sg2 0).toInt = 0)) (fun E u => (E = "java/lang/IllegalArgumentException") ∧ ∃ (a22 : Nat → Nat) (lx2 : List Nat), ∃ (sg2 : Nat → Int32) (gm2 : Nat → Nat → Int32) (lg2 : Nat → Nat → Int64), u = (a22, lx2, sg2, gm2, lg2) ∧ CI sg2 gm2 ∧ KS [0, 1, 2, 3, 4, 5, 6, 7, 8, 9, 10, 11, 12, 13, 14, 15] sg sg2 ∧ KS [11, 12, 13, 14, 15, 16, 17, 18, 19, 20, 21, 22, 23, 24, 25, 26, 27, 29, 30, 31, 32, 33, 34, 35, 36, 37, 38, 39, 40, 41, 42, 44, 45, 46, 47, 56, 57] gm gm2 ∧ KS [0, 1, 2, 3, 4, 5, 6, 7] lg lg2 ∧ (UB 12 (K9 + 1203) gm2) ∧ (UB 18 (K9 + 1203) gm2) ∧ (LDI lx2 gm2) ∧ ((sg2 15).toInt = 0) ∧ ((sg2 12).toInt = 0) ∧ ((sg2 1).toInt = 0) ∧ ((sg2 0).toInt = 0)) := by
  intro sz
  refine vx_ofW (cc := cX12_read) (maxL := 1) (ret := (some .int)) (by decide) rfl ?_
  intro p e s m args below meth c s₁ B hml hxt hv
  obtain ⟨rfl, hsz, hP, hK, hD0, hG⟩ := hv
  have hx := B.exec
  have hb := B.bytes
  have hr := B.returns
  have hts := atoms_spec (ws := wm_X12_read) B.pre
  have htb := fun (w : Cond) (h : w ∈ tb) => hts w (List.mem_cons_of_mem _ h)
  have hown : s.vm.findClass RX12 = some m.cls := findClass_of_methodNamed B.named
  have hlocks := B.notSynchronized
  subst hsz
  have hD := hD0.self (sz := s.heap.size)
  generalize hAe : va_A (cW ad cid a2 lx sg gm lg) s.heap.size = A at hD hG ⊢
  have hA : ∀ q : Nat, s.heap.size ≤ q → A q := fun q h => by rw [← hAe]; exact Or.inr h
  have hS : va_S A s.heap s.heap [] := va_S.rf
  have hl := lv_entry ([eV (ad 0) x]) (n := 1) (by rw [show (lg_sl ([eV (ad 0) x])).length = 1 from by simp [lg_sl, eV_cat, cat_i, cat_l]]; exact Nat.le_of_ble_eq_true rfl)
  rw [lg_entry_eq]
  generalize (lg_sl ([eV (ad 0) x]) ++ List.replicate (1 - (lg_sl ([eV (ad 0) x])).length) Slot.unset).toArray = ls at hl ⊢
  have hl : lv_has ls 1 [(0, eV (ad 0) x)] := by simp [lv_args, eV_cat, cat_i, cat_l] at hl; exact hl
  refine W.widen (k := gc gm gm 0) (n := gs gm gm 0) (Nat.zero_le _) (Nat.zero_le _) ?_
  have hj84 : ∀ (a2_j84 : Nat → Nat) (lx_j84 : List Nat) (sg_j84 : Nat → Int32) (gm_j84 : Nat → Nat → Int32) (lg_j84 : Nat → Nat → Int64) (_ : iv 0 0 x) (_ : KS [0, 2, 3, 4, 5, 6, 7, 8, 9, 10, 11, 12, 13, 14, 15] sg sg_j84) (_ : KS [11, 12, 13, 14, 15, 16, 17, 18, 19, 20, 21, 22, 23, 24, 25, 26, 27, 29, 30, 31, 32, 33, 34, 35, 36, 37, 38, 39, 40, 41, 42, 44, 45, 46, 47, 56, 57] gm gm_j84) (_ : KS [0, 1, 2, 3, 4, 5, 6, 7] lg lg_j84) (_ : CI sg_j84 gm_j84) (_ : UB 12 (K9 + 1203) gm_j84) (_ : UB 18 (K9 + 1203) gm_j84) (_ : LDI lx_j84 gm_j84) (_ : (sg_j84 15).toInt = 0) (_ : (sg_j84 3).toInt = -1 → WRM sg_j84 gm_j84 lg_j84) (_ : (sg_j84 0).toInt = 0) (_ : PHs gm ≤ PHs gm_j84) (H : Heap) (locs : List Loc) (ls : Array Slot), va_P (dC, dI) vwCl (cW ad cid a2_j84 lx_j84 sg_j84 gm_j84 lg_j84) H → va_D A (cW ad cid a2_j84 lx_j84 sg_j84 gm_j84 lg_j84) → va_S A s.heap H locs → lv_has ls 1 [(0, eV (ad 0) x)] → W p l e (headSpec wm_X12_read ({ frames := 16, cells := 304802, slots := 1219333, locals := 381 })).room s m ([eV (ad 0) x] : List Value).toArray below meth c H locs (gc gm gm_j84 1) (gs gm gm_j84 1) (vx_MQ below (cQg dC dI ad cid (fun v u => ∃ r : Int32, v = some (.int r) ∧ ∃ (a22 : Nat → Nat) (lx2 : List Nat), ∃ (sg2 : Nat → Int32) (gm2 : Nat → Nat → Int32) (lg2 : Nat → Nat → Int64), u = (a22, lx2, sg2, gm2, lg2) ∧ CI sg2 gm2 ∧ KS [0, 1, 2, 3, 4, 5, 6, 7, 8, 9, 10, 11, 12, 13, 14, 15] sg sg2 ∧ KS [11, 12, 13, 14, 15, 16, 17, 18, 19, 20, 21, 22, 23, 24, 25, 26, 27, 29, 30, 31, 32, 33, 34, 35, 36, 37, 38, 39, 40, 41, 42, 44, 45, 46, 47, 56, 57] gm gm2 ∧ KS [0, 1, 2, 3, 4, 5, 6, 7] lg lg2 ∧ (iv 0 80 r) ∧ (UB 12 (K9 + 1203) gm2) ∧ (UB 18 (K9 + 1203) gm2) ∧ (LDI lx2 gm2) ∧ ((sg2 15).toInt = 0) ∧ (WRM sg2 gm2 lg2) ∧ ((sg2 0).toInt = 0)) 1 gm A) (cXg dC dI ad cid (fun E u => (E = "java/lang/IllegalArgumentException") ∧ ∃ (a22 : Nat → Nat) (lx2 : List Nat), ∃ (sg2 : Nat → Int32) (gm2 : Nat → Nat → Int32) (lg2 : Nat → Nat → Int64), u = (a22, lx2, sg2, gm2, lg2) ∧ CI sg2 gm2 ∧ KS [0, 1, 2, 3, 4, 5, 6, 7, 8, 9, 10, 11, 12, 13, 14, 15] sg sg2 ∧ KS [11, 12, 13, 14, 15, 16, 17, 18, 19, 20, 21, 22, 23, 24, 25, 26, 27, 29, 30, 31, 32, 33, 34, 35, 36, 37, 38, 39, 40, 41, 42, 44, 45, 46, 47, 56, 57] gm gm2 ∧ KS [0, 1, 2, 3, 4, 5, 6, 7] lg lg2 ∧ (UB 12 (K9 + 1203) gm2) ∧ (UB 18 (K9 + 1203) gm2) ∧ (LDI lx2 gm2) ∧ ((sg2 15).toInt = 0) ∧ ((sg2 12).toInt = 0) ∧ ((sg2 1).toInt = 0) ∧ ((sg2 0).toInt = 0)) 1 gm A) ([eV (ad 0) x] : List Value).toArray s 304802 1219333 A) (F0 m 84 ls []) := by
    intro a2_j84 lx_j84 sg_j84 gm_j84 lg_j84 hsx0_84 hks_j84 hkg_j84 hkl_j84 hI_j84 hU12d hU18d hLDd h15d hWd hZd hm_j84 H locs ls hP hD hS hl
    refine ec_aload_n hx hb dX12_read_84 rfl (lv_at hl 0 rfl) ?_
    refine ec_aload_n hx hb dX12_read_85 rfl (lv_at hl 0 rfl) ?_
    refine cr_get (t := 0) (j := 11) (C := RX12) (T := TX12) (N := 12) (v := .int (sg_j84 3)) hx hb htb inX12 hown hK hP hsx0_84 (by decide) (by decide) (by decide) rfl (by decide) (htb _ kw_42) rfl dX12_read_86 ?_
    refine lv_iconst (v := (-1)) hx hb dX12_read_89 (by decide) ?_
    refine lv_icmp_ne (tgt := 97) hx hb dX12_read_90 (by decide) (fun c_1 => ?_) (fun c_1 => ?_)
    · have h_2 : iv 0 1201 (sg_j84 3) := iv_neL c_1 (show iv (-1) 1201 (sg_j84 3) from CI_s hI_j84 3) (by decide)
      refine lv_iconst (v := 0) hx hb dX12_read_97 (by decide) ?_
      refine cr_puts (t := 0) (j := 9) (C := RX12) (T := TX12) (N := 12) (ty0 := tyX12) (k := 1) (y := 0) hx hb htb inX12 tyX12_ok nmX12 hown hK hP hD hS hsx0_84 (by decide) (by decide) (by decide) (by decide) rfl rfl rfl (by decide) (htb _ kw_312) rfl (by show Value.int 0 = Value.int (va_up sg_j84 1 0 1); rw [va_up_self]) (iv_nb (iv_w (iv_k (by decide) : iv 0 0 0) (by decide))) (iv_fb (iv_w (iv_k (by decide) : iv 0 0 0) (by decide))) dX12_read_98 (fun sg_3 H locs esg_3 hP hD hS => ?_)
      have hI_sg_3 := CI_put hI_j84 esg_3 (iv_k (by decide) : iv 0 0 0) (by decide)
      refine ec_aload_n hx hb dX12_read_101 rfl (lv_at hl 0 rfl) ?_
      refine cr_get (t := 0) (j := 9) (C := RX12) (T := TX12) (N := 12) (v := .int (sg_3 1)) hx hb htb inX12 hown hK hP hsx0_84 (by decide) (by decide) (by decide) rfl (by decide) (htb _ kw_312) rfl dX12_read_102 ?_
      refine W.eq (g2 := F0 m 105 ls [.int 0]) (by rw [show sg_3 1 = 0 from (up_at esg_3)]) ?_
      refine lv_if_ne (tgt := 123) hx hb dX12_read_105 (by decide) (fun c_4 => absurd (by decide) c_4) (fun _ => ?_)
      refine ec_aload_n hx hb dX12_read_108 rfl (lv_at hl 0 rfl) ?_
      refine cr_get (t := 0) (j := 5) (C := RX12) (T := TX12) (N := 12) (v := eV (ad 4) 0) hx hb htb inX12 hown hK hP hsx0_84 (by decide) (by decide) (by decide) rfl (by decide) (htb _ kw_33) (cV_c rfl (by decide) (by rw [show cMu 0 5 = 0 from rfl, Nat.zero_mul]; rfl)) dX12_read_109 ?_
      refine cm_callTV (t := 4) (C := RX10) (T := TX10) (N := 4) (rest := []) (as := []) ⟨hx, hb, hml, hown, htb⟩ (d_forgetBeans l dC dI ad cid a2_j84 lx_j84 sg_3 gm_j84 lg_j84 0 hI_sg_3 (iv_k (by decide) : iv 0 0 0)) (cwV 0 htb (gd_V kw_806 kw_807 kw_808 kw_32 kw_1516) rfl rfl rfl (by decide +kernel) ⟨Nat.le_of_ble_eq_true rfl, Nat.le_of_ble_eq_true rfl⟩) (iv_k (by decide) : iv 0 0 0) (by decide) (by decide) rfl rfl hl.1 rfl (Nat.le_trans cs_n (by decide)) dX12_read_112 ⟨Nat.le_trans (gc_le hI_j84) (Nat.le_of_ble_eq_true rfl), Nat.le_trans (gs_le hI_j84) (Nat.le_of_ble_eq_true rfl)⟩ hK hP hD hS hA hG (fun E ce q9 u_6 H locs hw hP hD hS hce hcv hcl => ?_) (fun v9 u_6 H locs hw hP hD hS => ?_)
      · exact hw.elim
      obtain ⟨rfl, sgv_7, gmv_7, lgv_7, rfl, hIv_7, ksv_7, kgv_7, klv_7, f12_r_5⟩ := hw
      obtain rfl := KS_nil kgv_7
      obtain rfl := KS_nil klv_7
      have hP : va_P (dC, dI) vwCl (cW ad cid a2_j84 lx_j84 sgv_7 gm_j84 lg_j84) H := hP
      have hD : va_D A (cW ad cid a2_j84 lx_j84 sgv_7 gm_j84 lg_j84) := hD
      refine W.eq (g2 := F0 m 115 ls []) rfl ?_
      refine vx_throw1 (own := RX12) (cls := "java/lang/IllegalArgumentException") (names := ["java/lang/RuntimeException", "java/lang/Exception"]) (ik := 129) (ic := 131) (A := A) hx hb hl9 hown (by decide +kernel) (by decide +kernel) (htb _ kw_309) (htb _ kw_310) (vx_hat (fun w h => htb w (inT_0 w h)) inU_0 (vx_c (va_Nw.use rfl hG.1.2.1.1) (vx_c (va_Nw.use rfl hG.1.2.1.2.2.1) (vx_c (va_Nw.use rfl hG.1.2.1.2.2.2.1) (vx_c (va_Nw.use rfl hG.1.2.1.2.2.2.2) vx_n))))) (fun w hw => ?_) hG.1.2.2.2.1 hG.1.2.2.2.2 hS (by rw [hml]; exact hl.1) dX12_read_115 dX12_read_118 dX12_read_119 dX12_read_122 (fun x hx9 => (hxt x hx9).elim) (Nat.le_of_ble_eq_true rfl) (Nat.le_trans (Nat.add_le_add_right (show _ ≤ 8 from (Nat.le_trans cs_n (by decide))) _) (Nat.le_of_ble_eq_true rfl)) (Nat.le_trans (gc_le (gm := gm) (k := 1) (j := 1) hI_j84) (Nat.le_of_ble_eq_true rfl)) (Nat.le_trans (gs_le (gm := gm) (k := 1) (j := 6) hI_j84) (Nat.le_of_ble_eq_true rfl)) hlocks (fun t ht1 hz2 hk2 hnb => ⟨⟨(a2_j84, lx_j84, sgv_7, gm_j84, lg_j84), ⟨rfl, a2_j84, lx_j84, sgv_7, gm_j84, lg_j84, rfl, hIv_7, (KS_tr (L := [0, 1, 2, 3, 4, 5, 6, 7, 8, 9, 10, 11, 12, 13, 14, 15]) (KS_up (KS_tr (L := [0, 1, 2, 3, 4, 5, 6, 7, 8, 9, 10, 11, 12, 13, 14, 15]) KS_rf hks_j84 (by decide)) esg_3 (by decide)) ksv_7 (by decide)), (KS_tr (L := [11, 12, 13, 14, 15, 16, 17, 18, 19, 20, 21, 22, 23, 24, 25, 26, 27, 29, 30, 31, 32, 33, 34, 35, 36, 37, 38, 39, 40, 41, 42, 44, 45, 46, 47, 56, 57]) KS_rf hkg_j84 (by decide)), (KS_tr (L := [0, 1, 2, 3, 4, 5, 6, 7]) KS_rf hkl_j84 (by decide)), (hU12d), (hU18d), (hLDd), ((by rw [(show sgv_7 15 = sg_j84 15 from (Eq.trans (ksv_7 15 (by decide)) (up_ne esg_3 (by decide))))]; exact h15d)), (f12_r_5), (by have := i32_0; have := i32_1; have := i32_2; have := i32_m1; have := congrArg Int32.toInt (show sgv_7 1 = sg_3 1 from ksv_7 1 (by decide)); have : (sg_3 1).toInt = 0 := (by rw [up_at esg_3]; rfl); have := (hsx0_84).1; have := (hsx0_84).2; have := (h_2).1; have := (h_2).2; omega), (by have := i32_0; have := i32_1; have := i32_2; have := i32_m1; have := congrArg Int32.toInt (show sgv_7 0 = sg_3 0 from ksv_7 0 (by decide)); have := congrArg Int32.toInt (show sg_3 0 = sg_j84 0 from up_ne esg_3 (by decide)); have := (show iv 0 1200 (sg_j84 0) from CI_s hI_j84 0).1; have := (show iv 0 1200 (sg_j84 0) from CI_s hI_j84 0).2; have := (show iv 0 1200 (sg 0) from CI_s hI 0).1; have := (show iv 0 1200 (sg 0) from CI_s hI 0).2; have := (hsx0_84).1; have := (hsx0_84).2; have := (h_2).1; have := (h_2).2; omega)⟩, ⟨hP.kept (fun k q hq => hk2 _ (vx_lt hP hq)), va_K.moved ht1 hK, hD⟩, hm_j84, NBw_w hnb (show gc gm gm_j84 1 + 1 ≤ gc gm gm_j84 (1 + 1) from (by unfold gc; omega)) (show gs gm gm_j84 1 + 6 ≤ gs gm gm_j84 (1 + 1) from (by unfold gs; omega))⟩, ⟨Nat.le_trans hS.1 hz2, fun q h1 h2 => (hk2 q (Nat.lt_of_lt_of_le h1 hS.1)).trans (hS.2.1 q h1 h2)⟩⟩) hS.2.2 (Nat.le_trans (gc_le (gm := gm) (k := 1) (j := 1) hI_j84) (Nat.le_of_ble_eq_true rfl)) (Nat.le_trans (gs_le (gm := gm) (k := 1) (j := 6) hI_j84) (Nat.le_of_ble_eq_true rfl))
      rcases List.mem_cons.mp hw with rfl | hw
      · rfl
      rcases List.mem_cons.mp hw with rfl | hw
      · rfl
      exact inV_0 w hw
    · have h_8 : iv (-1) (-1) (sg_j84 3) := iv_eq c_1 (show iv (-1) 1201 (sg_j84 3) from CI_s hI_j84 3) (iv_k (by decide) : iv (-1) (-1) (-1)) (by decide)
      refine lv_iconst (v := 1) hx hb dX12_read_93 (by decide) ?_
      refine lv_goto (tgt := 98) hx hb dX12_read_94 (by decide) ?_
      refine cr_puts (t := 0) (j := 9) (C := RX12) (T := TX12) (N := 12) (ty0 := tyX12) (k := 1) (y := 1) hx hb htb inX12 tyX12_ok nmX12 hown hK hP hD hS hsx0_84 (by decide) (by decide) (by decide) (by decide) rfl rfl rfl (by decide) (htb _ kw_312) rfl (by show Value.int 1 = Value.int (va_up sg_j84 1 1 1); rw [va_up_self]) (iv_nb (iv_w (iv_k (by decide) : iv 1 1 1) (by decide))) (iv_fb (iv_w (iv_k (by decide) : iv 1 1 1) (by decide))) dX12_read_98 (fun sg_9 H locs esg_9 hP hD hS => ?_)
      have hI_sg_9 := CI_put hI_j84 esg_9 (iv_k (by decide) : iv 1 1 1) (by decide)
      refine ec_aload_n hx hb dX12_read_101 rfl (lv_at hl 0 rfl) ?_
      refine cr_get (t := 0) (j := 9) (C := RX12) (T := TX12) (N := 12) (v := .int (sg_9 1)) hx hb htb inX12 hown hK hP hsx0_84 (by decide) (by decide) (by decide) rfl (by decide) (htb _ kw_312) rfl dX12_read_102 ?_
      refine W.eq (g2 := F0 m 105 ls [.int 1]) (by rw [show sg_9 1 = 1 from (up_at esg_9)]) ?_
      refine lv_if_ne (tgt := 123) hx hb dX12_read_105 (by decide) (fun _ => ?_) (fun c_10 => absurd c_10 (by decide))
      refine ec_aload_n hx hb dX12_read_123 rfl (lv_at hl 0 rfl) ?_
      refine lv_iconst (v := 0) hx hb dX12_read_124 (by decide) ?_
      refine cr_puts (t := 0) (j := 10) (C := RX12) (T := TX12) (N := 12) (ty0 := tyX12) (k := 2) (y := 0) hx hb htb inX12 tyX12_ok nmX12 hown hK hP hD hS hsx0_84 (by decide) (by decide) (by decide) (by decide) rfl rfl rfl (by decide) (htb _ kw_311) rfl (by show Value.int 0 = Value.int (va_up sg_9 2 0 2); rw [va_up_self]) rfl rfl dX12_read_125 (fun sg_11 H locs esg_11 hP hD hS => ?_)
      have hI_sg_11 := CI_put hI_sg_9 esg_11 (iv_k (by decide) : iv 0 0 0) (by decide)
      refine ec_aload_n hx hb dX12_read_128 rfl (lv_at hl 0 rfl) ?_
      refine cr_get (t := 0) (j := 5) (C := RX12) (T := TX12) (N := 12) (v := eV (ad 4) 0) hx hb htb inX12 hown hK hP hsx0_84 (by decide) (by decide) (by decide) rfl (by decide) (htb _ kw_33) (cV_c rfl (by decide) (by rw [show cMu 0 5 = 0 from rfl, Nat.zero_mul]; rfl)) dX12_read_129 ?_
      refine cm_callTV (t := 4) (C := RX10) (T := TX10) (N := 4) (rest := []) (as := []) ⟨hx, hb, hml, hown, htb⟩ (d_countWi l dC dI ad cid a2_j84 lx_j84 sg_11 gm_j84 lg_j84 0 hI_sg_11 (iv_k (by decide) : iv 0 0 0)) (cwV 0 htb (gd_V kw_809 kw_323 kw_324 kw_32 kw_1413) rfl rfl rfl (by decide +kernel) ⟨Nat.le_of_ble_eq_true rfl, Nat.le_of_ble_eq_true rfl⟩) (iv_k (by decide) : iv 0 0 0) (by decide) (by decide) rfl rfl hl.1 rfl (Nat.le_trans cs_n (by decide)) dX12_read_132 ⟨Nat.le_trans (gc_le hI_j84) (Nat.le_of_ble_eq_true rfl), Nat.le_trans (gs_le hI_j84) (Nat.le_of_ble_eq_true rfl)⟩ hK hP hD hS hA hG (fun E ce q9 u_13 H locs hw hP hD hS hce hcv hcl => ?_) (fun v9 u_13 H locs hw hP hD hS => ?_)
      · exact hw.elim
      obtain ⟨r_12, rfl, rfl, hr_12, fr_r_12⟩ := hw
      have hP : va_P (dC, dI) vwCl (cW ad cid a2_j84 lx_j84 sg_11 gm_j84 lg_j84) H := hP
      have hD : va_D A (cW ad cid a2_j84 lx_j84 sg_11 gm_j84 lg_j84) := hD
      refine W.eq (g2 := F0 m 135 ls [.int r_12]) rfl ?_
      exact W.nb (fun hN => W.widen (k := 304802) (n := 1219333) (Nat.le_trans (gc_l0 (gm := gm) (k := 1) hI_j84) (Nat.le_of_ble_eq_true rfl)) (Nat.le_trans (gs_l0 (gm := gm) (k := 1) hI_j84) (Nat.le_of_ble_eq_true rfl)) (vx_ret (W.iret (v := r_12) hx hb hr (fun t ht hW => ⟨⟨some (.int r_12), (a2_j84, lx_j84, sg_11, gm_j84, lg_j84), rfl, ⟨r_12, rfl, a2_j84, lx_j84, sg_11, gm_j84, lg_j84, rfl, hI_sg_11, (KS_up (KS_up (KS_tr (L := [0, 1, 2, 3, 4, 5, 6, 7, 8, 9, 10, 11, 12, 13, 14, 15]) KS_rf hks_j84 (by decide)) esg_9 (by decide)) esg_11 (by decide)), (KS_tr (L := [11, 12, 13, 14, 15, 16, 17, 18, 19, 20, 21, 22, 23, 24, 25, 26, 27, 29, 30, 31, 32, 33, 34, 35, 36, 37, 38, 39, 40, 41, 42, 44, 45, 46, 47, 56, 57]) KS_rf hkg_j84 (by decide)), (KS_tr (L := [0, 1, 2, 3, 4, 5, 6, 7]) KS_rf hkl_j84 (by decide)), hr_12, (hU12d), (hU18d), (hLDd), ((by rw [(show sg_11 15 = sg_j84 15 from (Eq.trans (up_ne esg_11 (by decide)) (up_ne esg_9 (by decide))))]; exact h15d)), (WRM_e (hWd (by have := i32_0; have := i32_1; have := i32_2; have := i32_m1; have := congrArg Int32.toInt (show sg_11 3 = sg_9 3 from up_ne esg_11 (by decide)); have := congrArg Int32.toInt (show sg_9 3 = sg_j84 3 from up_ne esg_9 (by decide)); have := (show iv (-1) 1201 (sg_j84 3) from CI_s hI_j84 3).1; have := (show iv (-1) 1201 (sg_j84 3) from CI_s hI_j84 3).2; have := (show iv (-1) 1201 (sg 3) from CI_s hI 3).1; have := (show iv (-1) 1201 (sg 3) from CI_s hI 3).2; have := (hsx0_84).1; have := (hsx0_84).2; have := (h_8).1; have := (h_8).2; have := (hr_12).1; have := (hr_12).2; omega)) (show sg_11 4 = sg_j84 4 from (Eq.trans (up_ne esg_11 (by decide)) (up_ne esg_9 (by decide)))) (show sg_11 12 = sg_j84 12 from (Eq.trans (up_ne esg_11 (by decide)) (up_ne esg_9 (by decide))))), (by have := i32_0; have := i32_1; have := i32_2; have := i32_m1; have := congrArg Int32.toInt (show sg_11 0 = sg_9 0 from up_ne esg_11 (by decide)); have := congrArg Int32.toInt (show sg_9 0 = sg_j84 0 from up_ne esg_9 (by decide)); have := (show iv 0 1200 (sg_j84 0) from CI_s hI_j84 0).1; have := (show iv 0 1200 (sg_j84 0) from CI_s hI_j84 0).2; have := (show iv 0 1200 (sg 0) from CI_s hI 0).1; have := (show iv 0 1200 (sg 0) from CI_s hI 0).2; have := (hsx0_84).1; have := (hsx0_84).2; have := (h_8).1; have := (h_8).2; have := (hr_12).1; have := (hr_12).2; omega)⟩, ⟨by rw [ht]; exact hP, va_K.moved hW.alike hK, hD⟩, hm_j84, by rw [ht]; exact hN⟩, hS.F ht⟩) hS.2.2 dX12_read_135)))
  have hj60 : ∀ (sg_j60 : Nat → Int32) (gm_j60 : Nat → Nat → Int32) (lg_j60 : Nat → Nat → Int64) (_ : iv 0 0 x) (_ : KS [0, 2, 3, 4, 5, 6, 7, 8, 9, 10, 11, 13, 14, 15] sg sg_j60) (_ : KS [11, 12, 13, 14, 15, 16, 17, 18, 19, 20, 21, 22, 23, 24, 25, 26, 27, 38, 44, 45, 46, 56] gm gm_j60) (_ : KS [0, 1, 2, 3] lg lg_j60) (_ : CI sg_j60 gm_j60) (_ : UB 12 (K9 + 1203) gm_j60) (_ : UB 18 (K9 + 1203) gm_j60) (_ : LDI lx gm_j60) (_ : (sg_j60 15).toInt = 0) (_ : (sg_j60 3).toInt = -1 → RDK sg_j60 gm_j60 ∧ ∀ j9, j9 < (sg_j60 4).toNatClampNeg → SOK gm_j60 lg_j60 j9) (_ : (sg_j60 0).toInt = 0) (_ : PHs gm ≤ PHs gm_j60) (H : Heap) (locs : List Loc) (ls : Array Slot), va_P (dC, dI) vwCl (cW ad cid a2 lx sg_j60 gm_j60 lg_j60) H → va_D A (cW ad cid a2 lx sg_j60 gm_j60 lg_j60) → va_S A s.heap H locs → lv_has ls 1 [(0, eV (ad 0) x)] → W p l e (headSpec wm_X12_read ({ frames := 16, cells := 304802, slots := 1219333, locals := 381 })).room s m ([eV (ad 0) x] : List Value).toArray below meth c H locs (gc gm gm_j60 1) (gs gm gm_j60 1) (vx_MQ below (cQg dC dI ad cid (fun v u => ∃ r : Int32, v = some (.int r) ∧ ∃ (a22 : Nat → Nat) (lx2 : List Nat), ∃ (sg2 : Nat → Int32) (gm2 : Nat → Nat → Int32) (lg2 : Nat → Nat → Int64), u = (a22, lx2, sg2, gm2, lg2) ∧ CI sg2 gm2 ∧ KS [0, 1, 2, 3, 4, 5, 6, 7, 8, 9, 10, 11, 12, 13, 14, 15] sg sg2 ∧ KS [11, 12, 13, 14, 15, 16, 17, 18, 19, 20, 21, 22, 23, 24, 25, 26, 27, 29, 30, 31, 32, 33, 34, 35, 36, 37, 38, 39, 40, 41, 42, 44, 45, 46, 47, 56, 57] gm gm2 ∧ KS [0, 1, 2, 3, 4, 5, 6, 7] lg lg2 ∧ (iv 0 80 r) ∧ (UB 12 (K9 + 1203) gm2) ∧ (UB 18 (K9 + 1203) gm2) ∧ (LDI lx2 gm2) ∧ ((sg2 15).toInt = 0) ∧ (WRM sg2 gm2 lg2) ∧ ((sg2 0).toInt = 0)) 1 gm A) (cXg dC dI ad cid (fun E u => (E = "java/lang/IllegalArgumentException") ∧ ∃ (a22 : Nat → Nat) (lx2 : List Nat), ∃ (sg2 : Nat → Int32) (gm2 : Nat → Nat → Int32) (lg2 : Nat → Nat → Int64), u = (a22, lx2, sg2, gm2, lg2) ∧ CI sg2 gm2 ∧ KS [0, 1, 2, 3, 4, 5, 6, 7, 8, 9, 10, 11, 12, 13, 14, 15] sg sg2 ∧ KS [11, 12, 13, 14, 15, 16, 17, 18, 19, 20, 21, 22, 23, 24, 25, 26, 27, 29, 30, 31, 32, 33, 34, 35, 36, 37, 38, 39, 40, 41, 42, 44, 45, 46, 47, 56, 57] gm gm2 ∧ KS [0, 1, 2, 3, 4, 5, 6, 7] lg lg2 ∧ (UB 12 (K9 + 1203) gm2) ∧ (UB 18 (K9 + 1203) gm2) ∧ (LDI lx2 gm2) ∧ ((sg2 15).toInt = 0) ∧ ((sg2 12).toInt = 0) ∧ ((sg2 1).toInt = 0) ∧ ((sg2 0).toInt = 0)) 1 gm A) ([eV (ad 0) x] : List Value).toArray s 304802 1219333 A) (F0 m 60 ls []) := by
    intro sg_j60 gm_j60 lg_j60 hsx0_60 hks_j60 hkg_j60 hkl_j60 hI_j60 hU12c hU18c hLDc h15c hRc hZc hm_j60 H locs ls hP hD hS hl
    refine ec_aload_n hx hb dX12_read_60 rfl (lv_at hl 0 rfl) ?_
    refine cr_get (t := 0) (j := 11) (C := RX12) (T := TX12) (N := 12) (v := .int (sg_j60 3)) hx hb htb inX12 hown hK hP hsx0_60 (by decide) (by decide) (by decide) rfl (by decide) (htb _ kw_42) rfl dX12_read_61 ?_
    refine lv_iconst (v := (-1)) hx hb dX12_read_64 (by decide) ?_
    refine lv_icmp_ne (tgt := 84) hx hb dX12_read_65 (by decide) (fun c_15 => ?_) (fun c_15 => ?_)
    · have h_16 : iv 0 1201 (sg_j60 3) := iv_neL c_15 (show iv (-1) 1201 (sg_j60 3) from CI_s hI_j60 3) (by decide)
      exact hj84 a2 lx sg_j60 gm_j60 lg_j60 hsx0_60 (KS_tr (L := [0, 2, 3, 4, 5, 6, 7, 8, 9, 10, 11, 12, 13, 14, 15]) KS_rf hks_j60 (by decide)) (KS_tr (L := [11, 12, 13, 14, 15, 16, 17, 18, 19, 20, 21, 22, 23, 24, 25, 26, 27, 29, 30, 31, 32, 33, 34, 35, 36, 37, 38, 39, 40, 41, 42, 44, 45, 46, 47, 56, 57]) KS_rf hkg_j60 (by decide)) (KS_tr (L := [0, 1, 2, 3, 4, 5, 6, 7]) KS_rf hkl_j60 (by decide)) hI_j60 (hU12c) (hU18c) (hLDc) (h15c) (fun q9 => absurd q9 (by have := i32_0; have := i32_1; have := i32_2; have := i32_m1; have := (show iv (-1) 1201 (sg_j60 3) from CI_s hI_j60 3).1; have := (show iv (-1) 1201 (sg_j60 3) from CI_s hI_j60 3).2; have := (show iv (-1) 1201 (sg 3) from CI_s hI 3).1; have := (show iv (-1) 1201 (sg 3) from CI_s hI 3).2; have := (hsx0_60).1; have := (hsx0_60).2; have := (h_16).1; have := (h_16).2; omega)) (by have := i32_0; have := i32_1; have := i32_2; have := i32_m1; have := (show iv 0 1200 (sg_j60 0) from CI_s hI_j60 0).1; have := (show iv 0 1200 (sg_j60 0) from CI_s hI_j60 0).2; have := (show iv 0 1200 (sg 0) from CI_s hI 0).1; have := (show iv 0 1200 (sg 0) from CI_s hI 0).2; have := (hsx0_60).1; have := (hsx0_60).2; have := (h_16).1; have := (h_16).2; omega) hm_j60 _ _ _ hP hD hS (lv_sub hl [0] rfl)
    · have h_17 : iv (-1) (-1) (sg_j60 3) := iv_eq c_15 (show iv (-1) 1201 (sg_j60 3) from CI_s hI_j60 3) (iv_k (by decide) : iv (-1) (-1) (-1)) (by decide)
      have hrk2 := hRc (by have := i32_0; have := i32_1; have := i32_2; have := i32_m1; have := (show iv (-1) 1201 (sg_j60 3) from CI_s hI_j60 3).1; have := (show iv (-1) 1201 (sg_j60 3) from CI_s hI_j60 3).2; have := (show iv (-1) 1201 (sg 3) from CI_s hI 3).1; have := (show iv (-1) 1201 (sg 3) from CI_s hI 3).2; have := (hsx0_60).1; have := (hsx0_60).2; have := (h_17).1; have := (h_17).2; omega)
      refine ec_aload_n hx hb dX12_read_68 rfl (lv_at hl 0 rfl) ?_
      refine lv_iconst (v := 3) hx hb dX12_read_69 (by decide) ?_
      refine cr_puts (t := 0) (j := 10) (C := RX12) (T := TX12) (N := 12) (ty0 := tyX12) (k := 2) (y := 3) hx hb htb inX12 tyX12_ok nmX12 hown hK hP hD hS hsx0_60 (by decide) (by decide) (by decide) (by decide) rfl rfl rfl (by decide) (htb _ kw_311) rfl (by show Value.int 3 = Value.int (va_up sg_j60 2 3 2); rw [va_up_self]) rfl rfl dX12_read_70 (fun sg_18 H locs esg_18 hP hD hS => ?_)
      have hI_sg_18 := CI_put hI_j60 esg_18 (iv_k (by decide) : iv 3 3 3) (by decide)
      refine ec_aload_n hx hb dX12_read_73 rfl (lv_at hl 0 rfl) ?_
      refine ec_aload_n hx hb dX12_read_74 rfl (lv_at hl 0 rfl) ?_
      refine cr_get (t := 0) (j := 5) (C := RX12) (T := TX12) (N := 12) (v := eV (ad 4) 0) hx hb htb inX12 hown hK hP hsx0_60 (by decide) (by decide) (by decide) rfl (by decide) (htb _ kw_33) (cV_c rfl (by decide) (by rw [show cMu 0 5 = 0 from rfl, Nat.zero_mul]; rfl)) dX12_read_75 ?_
      refine cm_callGV (t := 4) (C := RX10) (T := TX10) (N := 4) (rest := [eV (ad 0) x]) (as := []) ⟨hx, hb, hml, hown, htb⟩ (d_firstWrongW l dC dI ad cid a2 lx sg_18 gm_j60 lg_j60 0 hI_sg_18 (iv_k (by decide) : iv 0 0 0) (((RDK_e hrk2.1 (show sg_18 4 = sg_j60 4 from (up_ne esg_18 (by decide))) (show sg_18 5 = sg_j60 5 from (up_ne esg_18 (by decide))) (show sg_18 6 = sg_j60 6 from (up_ne esg_18 (by decide))) rfl rfl rfl rfl rfl rfl rfl rfl)).1) (((RDK_e hrk2.1 (show sg_18 4 = sg_j60 4 from (up_ne esg_18 (by decide))) (show sg_18 5 = sg_j60 5 from (up_ne esg_18 (by decide))) (show sg_18 6 = sg_j60 6 from (up_ne esg_18 (by decide))) rfl rfl rfl rfl rfl rfl rfl rfl)).2.1) (((RDK_e hrk2.1 (show sg_18 4 = sg_j60 4 from (up_ne esg_18 (by decide))) (show sg_18 5 = sg_j60 5 from (up_ne esg_18 (by decide))) (show sg_18 6 = sg_j60 6 from (up_ne esg_18 (by decide))) rfl rfl rfl rfl rfl rfl rfl rfl)).2.2.1) hLDc (((RDK_e hrk2.1 (show sg_18 4 = sg_j60 4 from (up_ne esg_18 (by decide))) (show sg_18 5 = sg_j60 5 from (up_ne esg_18 (by decide))) (show sg_18 6 = sg_j60 6 from (up_ne esg_18 (by decide))) rfl rfl rfl rfl rfl rfl rfl rfl)).2.2.2) (fun j9 q9 => SOK_e (hrk2.2 j9 (by rw [← (show sg_18 4 = sg_j60 4 from (up_ne esg_18 (by decide)))]; exact q9)) rfl rfl rfl rfl rfl rfl rfl rfl)) (cwV 0 htb (gd_V kw_621 kw_622 kw_623 kw_32 kw_1484) rfl rfl rfl (by decide +kernel) ⟨Nat.le_of_ble_eq_true rfl, Nat.le_of_ble_eq_true rfl⟩) (iv_k (by decide) : iv 0 0 0) (by decide) (by decide) rfl rfl hl.1 rfl (Nat.le_trans (cs_c (eV_cat _ _) cs_n) (by decide)) dX12_read_78 ⟨Nat.le_trans (gc_le hI_j60) (Nat.le_of_ble_eq_true rfl), Nat.le_trans (gs_le hI_j60) (Nat.le_of_ble_eq_true rfl)⟩ hK hP hD hS hA hG (fun E ce q9 u_20 H locs hw hmu hP hD hS hce hcv hcl => ?_) (fun v9 u_20 H locs hw hmu hP hD hS => ?_)
      · exact hw.elim
      obtain ⟨r_19, rfl, a2v_21, lxv_21, sgv_21, gmv_21, lgv_21, rfl, hIv_21, ksv_21, kgv_21, klv_21, hr_19, fLD_r_19, fW_r_19⟩ := hw
      have hP : va_P (dC, dI) vwCl (cW ad cid a2v_21 lxv_21 sgv_21 gmv_21 lgv_21) H := hP
      have hD : va_D A (cW ad cid a2v_21 lxv_21 sgv_21 gmv_21 lgv_21) := hD
      have hmu : PHs gm_j60 ≤ PHs gmv_21 := hmu
      rw [show (gc gm gm_j60 1 + gc gm_j60 gmv_21 0) = gc gm gmv_21 1 from gc_t hm_j60 hmu, show (gs gm gm_j60 1 + gs gm_j60 gmv_21 0) = gs gm gmv_21 1 from gs_t hm_j60 hmu]
      have hm_22 : PHs gm ≤ PHs gmv_21 := Nat.le_trans hm_j60 hmu
      refine W.eq (g2 := F0 m 81 ls [.int r_19, eV (ad 0) x]) rfl ?_
      refine cr_puts (t := 0) (j := 11) (C := RX12) (T := TX12) (N := 12) (ty0 := tyX12) (k := 3) (y := r_19) hx hb htb inX12 tyX12_ok nmX12 hown hK hP hD hS hsx0_60 (by decide) (by decide) (by decide) (by decide) rfl rfl rfl (by decide) (htb _ kw_42) rfl (by show Value.int r_19 = Value.int (va_up sgv_21 3 r_19 3); rw [va_up_self]) rfl rfl dX12_read_81 (fun sg_23 H locs esg_23 hP hD hS => ?_)
      have hI_sg_23 := CI_put hIv_21 esg_23 hr_19 (by decide)
      exact hj84 a2v_21 lxv_21 sg_23 gmv_21 lgv_21 hsx0_60 (KS_up (KS_tr (L := [0, 2, 3, 4, 5, 6, 7, 8, 9, 10, 11, 12, 13, 14, 15]) (KS_up (KS_tr (L := [0, 2, 3, 4, 5, 6, 7, 8, 9, 10, 11, 12, 13, 14, 15]) KS_rf hks_j60 (by decide)) esg_18 (by decide)) ksv_21 (by decide)) esg_23 (by decide)) (KS_tr (L := [11, 12, 13, 14, 15, 16, 17, 18, 19, 20, 21, 22, 23, 24, 25, 26, 27, 29, 30, 31, 32, 33, 34, 35, 36, 37, 38, 39, 40, 41, 42, 44, 45, 46, 47, 56, 57]) (KS_tr (L := [11, 12, 13, 14, 15, 16, 17, 18, 19, 20, 21, 22, 23, 24, 25, 26, 27, 29, 30, 31, 32, 33, 34, 35, 36, 37, 38, 39, 40, 41, 42, 44, 45, 46, 47, 56, 57]) KS_rf hkg_j60 (by decide)) kgv_21 (by decide)) (KS_tr (L := [0, 1, 2, 3, 4, 5, 6, 7]) (KS_tr (L := [0, 1, 2, 3, 4, 5, 6, 7]) KS_rf hkl_j60 (by decide)) klv_21 (by decide)) hI_sg_23 ((UB_k hU12c (show gmv_21 12 = gm_j60 12 from (kgv_21 12 (by decide))) (Nat.le_refl _))) ((UB_k hU18c (show gmv_21 18 = gm_j60 18 from (kgv_21 18 (by decide))) (Nat.le_refl _))) (fLD_r_19) ((by rw [(show sg_23 15 = sg_j60 15 from (Eq.trans (up_ne esg_23 (by decide)) (Eq.trans (ksv_21 15 (by decide)) (up_ne esg_18 (by decide)))))]; exact h15c)) (fun q9 => WRM_e (fW_r_19 (by have := i32_0; have := i32_1; have := i32_2; have := i32_m1; have := congrArg Int32.toInt (show sg_23 3 = r_19 from up_at esg_23); have := (hr_19).1; have := (hr_19).2; have := (hsx0_60).1; have := (hsx0_60).2; have := (h_17).1; have := (h_17).2; omega)) (show sg_23 4 = sgv_21 4 from (up_ne esg_23 (by decide))) (show sg_23 12 = sgv_21 12 from (up_ne esg_23 (by decide)))) (by have := i32_0; have := i32_1; have := i32_2; have := i32_m1; have := congrArg Int32.toInt (show sg_23 0 = sgv_21 0 from up_ne esg_23 (by decide)); have := congrArg Int32.toInt (show sgv_21 0 = sg_18 0 from ksv_21 0 (by decide)); have := congrArg Int32.toInt (show sg_18 0 = sg_j60 0 from up_ne esg_18 (by decide)); have := (show iv 0 1200 (sg_j60 0) from CI_s hI_j60 0).1; have := (show iv 0 1200 (sg_j60 0) from CI_s hI_j60 0).2; have := (show iv 0 1200 (sg 0) from CI_s hI 0).1; have := (show iv 0 1200 (sg 0) from CI_s hI 0).2; have := (hsx0_60).1; have := (hsx0_60).2; have := (h_17).1; have := (h_17).2; have := (hr_19).1; have := (hr_19).2; omega) hm_22 _ _ _ hP hD hS (lv_sub hl [0] rfl)
  refine ec_aload_n hx hb dX12_read_0 rfl (lv_at hl 0 rfl) ?_
  refine cr_get (t := 0) (j := 7) (C := RX12) (T := TX12) (N := 12) (v := eV (ad 6) 0) hx hb htb inX12 hown hK hP hvx (by decide) (by decide) (by decide) rfl (by decide) (htb _ kw_41) (cV_c rfl (by decide) (by rw [show cMu 0 7 = 0 from rfl, Nat.zero_mul]; rfl)) dX12_read_1 ?_
  refine cm_callTV (t := 6) (C := RX5) (T := TX5) (N := 13) (rest := []) (as := []) ⟨hx, hb, hml, hown, htb⟩ (d_startAfresh l dC dI ad cid a2 lx sg gm lg 0 hI (iv_k (by decide) : iv 0 0 0)) (cwV 0 htb (gd_V kw_313 kw_314 kw_315 kw_40 kw_1411) rfl rfl rfl (by decide +kernel) ⟨Nat.le_of_ble_eq_true rfl, Nat.le_of_ble_eq_true rfl⟩) (iv_k (by decide) : iv 0 0 0) (by decide) (by decide) rfl rfl hl.1 rfl (Nat.le_trans cs_n (by decide)) dX12_read_4 ⟨Nat.le_trans (gc_le hI) (Nat.le_of_ble_eq_true rfl), Nat.le_trans (gs_le hI) (Nat.le_of_ble_eq_true rfl)⟩ hK hP hD hS hA hG (fun E ce q9 u_25 H locs hw hP hD hS hce hcv hcl => ?_) (fun v9 u_25 H locs hw hP hD hS => ?_)
  · exact hw.elim
  obtain ⟨rfl, sgv_26, gmv_26, lgv_26, rfl, hIv_26, ksv_26, kgv_26, klv_26, fM_r_24, f15_r_24, f14_r_24⟩ := hw
  obtain rfl := KS_nil klv_26
  have hP : va_P (dC, dI) vwCl (cW ad cid a2 lx sgv_26 gmv_26 lg) H := hP
  have hD : va_D A (cW ad cid a2 lx sgv_26 gmv_26 lg) := hD
  refine W.eq (g2 := F0 m 7 ls []) rfl ?_
  refine ec_aload_n hx hb dX12_read_7 rfl (lv_at hl 0 rfl) ?_
  refine lv_iconst (v := 1) hx hb dX12_read_8 (by decide) ?_
  refine cr_puts (t := 0) (j := 10) (C := RX12) (T := TX12) (N := 12) (ty0 := tyX12) (k := 2) (y := 1) hx hb htb inX12 tyX12_ok nmX12 hown hK hP hD hS hvx (by decide) (by decide) (by decide) (by decide) rfl rfl rfl (by decide) (htb _ kw_311) rfl (by show Value.int 1 = Value.int (va_up sgv_26 2 1 2); rw [va_up_self]) rfl rfl dX12_read_9 (fun sg_27 H locs esg_27 hP hD hS => ?_)
  have hI_sg_27 := CI_put hIv_26 esg_27 (iv_k (by decide) : iv 1 1 1) (by decide)
  refine ec_aload_n hx hb dX12_read_12 rfl (lv_at hl 0 rfl) ?_
  refine ec_aload_n hx hb dX12_read_13 rfl (lv_at hl 0 rfl) ?_
  refine cr_get (t := 0) (j := 3) (C := RX12) (T := TX12) (N := 12) (v := eV (ad 2) 0) hx hb htb inX12 hown hK hP hvx (by decide) (by decide) (by decide) rfl (by decide) (htb _ kw_25) (cV_c rfl (by decide) (by rw [show cMu 0 3 = 0 from rfl, Nat.zero_mul]; rfl)) dX12_read_14 ?_
  refine ec_aload_n hx hb dX12_read_17 rfl (lv_at hl 0 rfl) ?_
  refine cr_get (t := 0) (j := 1) (C := RX12) (T := TX12) (N := 12) (v := eV (ad 13) 0) hx hb htb inX12 hown hK hP hvx (by decide) (by decide) (by decide) rfl (by decide) (htb _ kw_17) (cV_c rfl (by decide) (by rw [show cMu 0 1 = 0 from rfl, Nat.zero_mul]; rfl)) dX12_read_18 ?_
  refine ec_aload_n hx hb dX12_read_21 rfl (lv_at hl 0 rfl) ?_
  refine cr_get (t := 0) (j := 8) (C := RX12) (T := TX12) (N := 12) (v := .int (sg_27 0)) hx hb htb inX12 hown hK hP hvx (by decide) (by decide) (by decide) rfl (by decide) (htb _ kw_294) rfl dX12_read_22 ?_
  refine W.eq (g2 := F0 m 25 ls [.int (sg 0), eV (ad 13) 0, eV (ad 2) 0, eV (ad 0) x]) (by rw [show sg_27 0 = sg 0 from (Eq.trans (up_ne esg_27 (by decide)) (ksv_26 0 (by decide)))]) ?_
  refine W.widen (k := gc gm gmv_26 0) (n := gs gm gmv_26 0) (gc_e (show gmv_26 42 = gm 42 from (kgv_26 42 (by decide))) (by decide)) (gs_e (show gmv_26 42 = gm 42 from (kgv_26 42 (by decide))) (by decide)) ?_
  have hm_28 : PHs gm ≤ PHs gmv_26 := by rw [PHs_e (show gmv_26 42 = gm 42 from (kgv_26 42 (by decide)))]; exact (Nat.le_refl _)
  refine cm_callGVX (t := 2) (C := RX7) (T := TX7) (N := 6) (rest := [eV (ad 0) x]) (as := [eV (ad 13) 0, .int (sg 0)]) ⟨hx, hb, hml, hown, htb⟩ (d_firstWrongR l dC dI ad cid a2 lx sg_27 gmv_26 lg hl9 0 0 (sg 0) K9 hI_sg_27 (iv_k (by decide) : iv 0 0 0) (iv_k (by decide) : iv 0 0 0) (show iv 0 1200 (sg 0) from CI_s hI 0) (UB_k hU12 (show gmv_26 12 = gm 12 from (kgv_26 12 (by decide))) (Nat.le_refl _)) (UB_k hU18 (show gmv_26 18 = gm 18 from (kgv_26 18 (by decide))) (Nat.le_refl _)) hK9) (vx_cwVW 2 htb (gd_V kw_333 kw_334 kw_335 kw_24 kw_1416) rfl rfl rfl (by decide +kernel) ⟨Nat.le_of_ble_eq_true rfl, Nat.le_of_ble_eq_true rfl⟩) (iv_k (by decide) : iv 0 0 0) (by decide) (by decide) rfl rfl hl.1 rfl (Nat.le_trans (cs_c (eV_cat _ _) cs_n) (by decide)) dX12_read_25 ⟨Nat.le_trans (gc_le hI_sg_27) (Nat.le_of_ble_eq_true rfl), Nat.le_trans (gs_le hI_sg_27) (Nat.le_of_ble_eq_true rfl)⟩ hK hP hD hS hA hG (fun E ce q9 u_30 H locs hw hmu hP hD hS hce hcv hcl => ?_) (fun v9 u_30 H locs hw hmu hP hD hS => ?_)
  · exact hw.elim
  obtain ⟨r_29, rfl, sgv_31, gmv_31, lgv_31, rfl, hIv_31, ksv_31, kgv_31, klv_31, hr_29, fU12_r_29, fU18_r_29, fOK_r_29⟩ := hw
  have hP : va_P (dC, dI) vwCl (cW ad cid a2 lx sgv_31 gmv_31 lgv_31) H := hP
  have hD : va_D A (cW ad cid a2 lx sgv_31 gmv_31 lgv_31) := hD
  have hmu : PHs gmv_26 ≤ PHs gmv_31 := hmu
  rw [show (gc gm gmv_26 0 + gc gmv_26 gmv_31 1) = gc gm gmv_31 1 from gc_t hm_28 hmu, show (gs gm gmv_26 0 + gs gmv_26 gmv_31 1) = gs gm gmv_31 1 from gs_t hm_28 hmu]
  have hm_32 : PHs gm ≤ PHs gmv_31 := Nat.le_trans hm_28 hmu
  refine W.eq (g2 := F0 m 28 ls [.int r_29, eV (ad 0) x]) rfl ?_
  refine cr_puts (t := 0) (j := 11) (C := RX12) (T := TX12) (N := 12) (ty0 := tyX12) (k := 3) (y := r_29) hx hb htb inX12 tyX12_ok nmX12 hown hK hP hD hS hvx (by decide) (by decide) (by decide) (by decide) rfl rfl rfl (by decide) (htb _ kw_42) rfl (by show Value.int r_29 = Value.int (va_up sgv_31 3 r_29 3); rw [va_up_self]) rfl rfl dX12_read_28 (fun sg_33 H locs esg_33 hP hD hS => ?_)
  have hI_sg_33 := CI_put hIv_31 esg_33 hr_29 (by decide)
  refine ec_aload_n hx hb dX12_read_31 rfl (lv_at hl 0 rfl) ?_
  refine lv_iconst (v := 0) hx hb dX12_read_32 (by decide) ?_
  refine cr_puts (t := 0) (j := 8) (C := RX12) (T := TX12) (N := 12) (ty0 := tyX12) (k := 0) (y := 0) hx hb htb inX12 tyX12_ok nmX12 hown hK hP hD hS hvx (by decide) (by decide) (by decide) (by decide) rfl rfl rfl (by decide) (htb _ kw_294) rfl (by show Value.int 0 = Value.int (va_up sg_33 0 0 0); rw [va_up_self]) rfl rfl dX12_read_33 (fun sg_34 H locs esg_34 hP hD hS => ?_)
  have hI_sg_34 := CI_put hI_sg_33 esg_34 (iv_k (by decide) : iv 0 0 0) (by decide)
  refine ec_aload_n hx hb dX12_read_36 rfl (lv_at hl 0 rfl) ?_
  refine cr_get (t := 0) (j := 11) (C := RX12) (T := TX12) (N := 12) (v := .int (sg_34 3)) hx hb htb inX12 hown hK hP hvx (by decide) (by decide) (by decide) rfl (by decide) (htb _ kw_42) rfl dX12_read_37 ?_
  refine W.eq (g2 := F0 m 40 ls [.int r_29]) (by rw [show sg_34 3 = r_29 from (Eq.trans (up_ne esg_34 (by decide)) (up_at esg_33))]) ?_
  refine lv_iconst (v := (-1)) hx hb dX12_read_40 (by decide) ?_
  refine lv_icmp_ne (tgt := 60) hx hb dX12_read_41 (by decide) (fun c_35 => ?_) (fun c_35 => ?_)
  · have h_36 : iv 0 1201 r_29 := iv_neL c_35 hr_29 (by decide)
    exact hj60 sg_34 gmv_31 lgv_31 hvx (KS_up (KS_up (KS_tr (L := [0, 2, 3, 4, 5, 6, 7, 8, 9, 10, 11, 13, 14, 15]) (KS_up (KS_tr (L := [0, 2, 3, 4, 5, 6, 7, 8, 9, 10, 11, 13, 14, 15]) KS_rf ksv_26 (by decide)) esg_27 (by decide)) ksv_31 (by decide)) esg_33 (by decide)) esg_34 (by decide)) (KS_tr (L := [11, 12, 13, 14, 15, 16, 17, 18, 19, 20, 21, 22, 23, 24, 25, 26, 27, 38, 44, 45, 46, 56]) (KS_tr (L := [11, 12, 13, 14, 15, 16, 17, 18, 19, 20, 21, 22, 23, 24, 25, 26, 27, 38, 44, 45, 46, 56]) KS_rf kgv_26 (by decide)) kgv_31 (by decide)) (KS_tr (L := [0, 1, 2, 3]) KS_rf klv_31 (by decide)) hI_sg_34 (fU12_r_29) (fU18_r_29) ((LDI_e hLD (show gmv_31 41 = gm 41 from (Eq.trans (kgv_31 41 (by decide)) (kgv_26 41 (by decide)))) (show gmv_31 42 = gm 42 from (Eq.trans (kgv_31 42 (by decide)) (kgv_26 42 (by decide)))) (show gmv_31 57 = gm 57 from (Eq.trans (kgv_31 57 (by decide)) (kgv_26 57 (by decide)))))) ((by rw [(show sg_34 15 = sgv_26 15 from (Eq.trans (up_ne esg_34 (by decide)) (Eq.trans (up_ne esg_33 (by decide)) (Eq.trans (ksv_31 15 (by decide)) (up_ne esg_27 (by decide))))))]; exact f15_r_24)) (fun q9 => absurd q9 (by have := i32_0; have := i32_1; have := i32_2; have := i32_m1; have := congrArg Int32.toInt (show sg_34 3 = sg_33 3 from up_ne esg_34 (by decide)); have := congrArg Int32.toInt (show sg_33 3 = r_29 from up_at esg_33); have := (h_36).1; have := (h_36).2; have := (hvx).1; have := (hvx).2; have := ((show iv 0 1200 (sg 0) from CI_s hI 0)).1; have := ((show iv 0 1200 (sg 0) from CI_s hI 0)).2; omega)) (by have := i32_0; have := i32_1; have := i32_2; have := i32_m1; have : (sg_34 0).toInt = 0 := (by rw [up_at esg_34]; rfl); have := (hvx).1; have := (hvx).2; have := ((show iv 0 1200 (sg 0) from CI_s hI 0)).1; have := ((show iv 0 1200 (sg 0) from CI_s hI 0)).2; have := (h_36).1; have := (h_36).2; omega) hm_32 _ _ _ hP hD hS (lv_sub hl [0] rfl)
  · have h_37 : iv (-1) (-1) r_29 := iv_eq c_35 hr_29 (iv_k (by decide) : iv (-1) (-1) (-1)) (by decide)
    have hrk_38 : RDK sgv_31 gmv_31 := fOK_r_29 (by have := i32_0; have := i32_1; have := i32_2; have := i32_m1; have := congrArg Int32.toInt (show sg_34 3 = sg_33 3 from up_ne esg_34 (by decide)); have := congrArg Int32.toInt (show sg_33 3 = r_29 from up_at esg_33); have := (h_37).1; have := (h_37).2; have := (hvx).1; have := (hvx).2; have := ((show iv 0 1200 (sg 0) from CI_s hI 0)).1; have := ((show iv 0 1200 (sg 0) from CI_s hI 0)).2; omega)
    refine ec_aload_n hx hb dX12_read_44 rfl (lv_at hl 0 rfl) ?_
    refine lv_iconst (v := 2) hx hb dX12_read_45 (by decide) ?_
    refine cr_puts (t := 0) (j := 10) (C := RX12) (T := TX12) (N := 12) (ty0 := tyX12) (k := 2) (y := 2) hx hb htb inX12 tyX12_ok nmX12 hown hK hP hD hS hvx (by decide) (by decide) (by decide) (by decide) rfl rfl rfl (by decide) (htb _ kw_311) rfl (by show Value.int 2 = Value.int (va_up sg_34 2 2 2); rw [va_up_self]) rfl rfl dX12_read_46 (fun sg_39 H locs esg_39 hP hD hS => ?_)
    have hI_sg_39 := CI_put hI_sg_34 esg_39 (iv_k (by decide) : iv 2 2 2) (by decide)
    refine ec_aload_n hx hb dX12_read_49 rfl (lv_at hl 0 rfl) ?_
    refine ec_aload_n hx hb dX12_read_50 rfl (lv_at hl 0 rfl) ?_
    refine cr_get (t := 0) (j := 4) (C := RX12) (T := TX12) (N := 12) (v := eV (ad 3) 0) hx hb htb inX12 hown hK hP hvx (by decide) (by decide) (by decide) rfl (by decide) (htb _ kw_29) (cV_c rfl (by decide) (by rw [show cMu 0 4 = 0 from rfl, Nat.zero_mul]; rfl)) dX12_read_51 ?_
    refine cm_callTV (t := 3) (C := RX9) (T := TX9) (N := 1) (rest := [eV (ad 0) x]) (as := []) ⟨hx, hb, hml, hown, htb⟩ (d_firstWrongS l dC dI ad cid a2 lx sg_39 gmv_31 lgv_31 0 hI_sg_39 (iv_k (by decide) : iv 0 0 0) (((RDK_e hrk_38 (show sg_39 4 = sgv_31 4 from (Eq.trans (up_ne esg_39 (by decide)) (Eq.trans (up_ne esg_34 (by decide)) (up_ne esg_33 (by decide))))) (show sg_39 5 = sgv_31 5 from (Eq.trans (up_ne esg_39 (by decide)) (Eq.trans (up_ne esg_34 (by decide)) (up_ne esg_33 (by decide))))) (show sg_39 6 = sgv_31 6 from (Eq.trans (up_ne esg_39 (by decide)) (Eq.trans (up_ne esg_34 (by decide)) (up_ne esg_33 (by decide))))) rfl rfl rfl rfl rfl rfl rfl rfl)).1) (((RDK_e hrk_38 (show sg_39 4 = sgv_31 4 from (Eq.trans (up_ne esg_39 (by decide)) (Eq.trans (up_ne esg_34 (by decide)) (up_ne esg_33 (by decide))))) (show sg_39 5 = sgv_31 5 from (Eq.trans (up_ne esg_39 (by decide)) (Eq.trans (up_ne esg_34 (by decide)) (up_ne esg_33 (by decide))))) (show sg_39 6 = sgv_31 6 from (Eq.trans (up_ne esg_39 (by decide)) (Eq.trans (up_ne esg_34 (by decide)) (up_ne esg_33 (by decide))))) rfl rfl rfl rfl rfl rfl rfl rfl)).2.1) (((RDK_e hrk_38 (show sg_39 4 = sgv_31 4 from (Eq.trans (up_ne esg_39 (by decide)) (Eq.trans (up_ne esg_34 (by decide)) (up_ne esg_33 (by decide))))) (show sg_39 5 = sgv_31 5 from (Eq.trans (up_ne esg_39 (by decide)) (Eq.trans (up_ne esg_34 (by decide)) (up_ne esg_33 (by decide))))) (show sg_39 6 = sgv_31 6 from (Eq.trans (up_ne esg_39 (by decide)) (Eq.trans (up_ne esg_34 (by decide)) (up_ne esg_33 (by decide))))) rfl rfl rfl rfl rfl rfl rfl rfl)).2.2.1)) (cwV 0 htb (gd_V kw_495 kw_496 kw_497 kw_28 kw_1456) rfl rfl rfl (by decide +kernel) ⟨Nat.le_of_ble_eq_true rfl, Nat.le_of_ble_eq_true rfl⟩) (iv_k (by decide) : iv 0 0 0) (by decide) (by decide) rfl rfl hl.1 rfl (Nat.le_trans (cs_c (eV_cat _ _) cs_n) (by decide)) dX12_read_54 ⟨Nat.le_trans (gc_le hIv_31) (Nat.le_of_ble_eq_true rfl), Nat.le_trans (gs_le hIv_31) (Nat.le_of_ble_eq_true rfl)⟩ hK hP hD hS hA hG (fun E ce q9 u_41 H locs hw hP hD hS hce hcv hcl => ?_) (fun v9 u_41 H locs hw hP hD hS => ?_)
    · exact hw.elim
    obtain ⟨r_40, rfl, rfl, hr_40, fO_r_40⟩ := hw
    have hP : va_P (dC, dI) vwCl (cW ad cid a2 lx sg_39 gmv_31 lgv_31) H := hP
    have hD : va_D A (cW ad cid a2 lx sg_39 gmv_31 lgv_31) := hD
    refine W.eq (g2 := F0 m 57 ls [.int r_40, eV (ad 0) x]) rfl ?_
    refine cr_puts (t := 0) (j := 11) (C := RX12) (T := TX12) (N := 12) (ty0 := tyX12) (k := 3) (y := r_40) hx hb htb inX12 tyX12_ok nmX12 hown hK hP hD hS hvx (by decide) (by decide) (by decide) (by decide) rfl rfl rfl (by decide) (htb _ kw_42) rfl (by show Value.int r_40 = Value.int (va_up sg_39 3 r_40 3); rw [va_up_self]) rfl rfl dX12_read_57 (fun sg_43 H locs esg_43 hP hD hS => ?_)
    have hI_sg_43 := CI_put hI_sg_39 esg_43 hr_40 (by decide)
    exact hj60 sg_43 gmv_31 lgv_31 hvx (KS_up (KS_up (KS_up (KS_up (KS_tr (L := [0, 2, 3, 4, 5, 6, 7, 8, 9, 10, 11, 13, 14, 15]) (KS_up (KS_tr (L := [0, 2, 3, 4, 5, 6, 7, 8, 9, 10, 11, 13, 14, 15]) KS_rf ksv_26 (by decide)) esg_27 (by decide)) ksv_31 (by decide)) esg_33 (by decide)) esg_34 (by decide)) esg_39 (by decide)) esg_43 (by decide)) (KS_tr (L := [11, 12, 13, 14, 15, 16, 17, 18, 19, 20, 21, 22, 23, 24, 25, 26, 27, 38, 44, 45, 46, 56]) (KS_tr (L := [11, 12, 13, 14, 15, 16, 17, 18, 19, 20, 21, 22, 23, 24, 25, 26, 27, 38, 44, 45, 46, 56]) KS_rf kgv_26 (by decide)) kgv_31 (by decide)) (KS_tr (L := [0, 1, 2, 3]) KS_rf klv_31 (by decide)) hI_sg_43 (fU12_r_29) (fU18_r_29) ((LDI_e hLD (show gmv_31 41 = gm 41 from (Eq.trans (kgv_31 41 (by decide)) (kgv_26 41 (by decide)))) (show gmv_31 42 = gm 42 from (Eq.trans (kgv_31 42 (by decide)) (kgv_26 42 (by decide)))) (show gmv_31 57 = gm 57 from (Eq.trans (kgv_31 57 (by decide)) (kgv_26 57 (by decide)))))) ((by rw [(show sg_43 15 = sgv_26 15 from (Eq.trans (up_ne esg_43 (by decide)) (Eq.trans (up_ne esg_39 (by decide)) (Eq.trans (up_ne esg_34 (by decide)) (Eq.trans (up_ne esg_33 (by decide)) (Eq.trans (ksv_31 15 (by decide)) (up_ne esg_27 (by decide))))))))]; exact f15_r_24)) (fun q9 => ⟨(RDK_e hrk_38 (show sg_43 4 = sgv_31 4 from (Eq.trans (up_ne esg_43 (by decide)) (Eq.trans (up_ne esg_39 (by decide)) (Eq.trans (up_ne esg_34 (by decide)) (up_ne esg_33 (by decide)))))) (show sg_43 5 = sgv_31 5 from (Eq.trans (up_ne esg_43 (by decide)) (Eq.trans (up_ne esg_39 (by decide)) (Eq.trans (up_ne esg_34 (by decide)) (up_ne esg_33 (by decide)))))) (show sg_43 6 = sgv_31 6 from (Eq.trans (up_ne esg_43 (by decide)) (Eq.trans (up_ne esg_39 (by decide)) (Eq.trans (up_ne esg_34 (by decide)) (up_ne esg_33 (by decide)))))) rfl rfl rfl rfl rfl rfl rfl rfl), fun j9 q8 => SOK_e (fO_r_40 (by have := i32_0; have := i32_1; have := i32_2; have := i32_m1; have := congrArg Int32.toInt (show sg_43 3 = r_40 from up_at esg_43); have := (hr_40).1; have := (hr_40).2; have := (hvx).1; have := (hvx).2; have := ((show iv 0 1200 (sg 0) from CI_s hI 0)).1; have := ((show iv 0 1200 (sg 0) from CI_s hI 0)).2; have := (h_37).1; have := (h_37).2; omega) j9 (by rw [← (show sg_43 4 = sg_39 4 from (up_ne esg_43 (by decide)))]; exact q8)) rfl rfl rfl rfl rfl rfl rfl rfl⟩) (by have := i32_0; have := i32_1; have := i32_2; have := i32_m1; have := congrArg Int32.toInt (show sg_43 0 = sg_39 0 from up_ne esg_43 (by decide)); have := congrArg Int32.toInt (show sg_39 0 = sg_34 0 from up_ne esg_39 (by decide)); have : (sg_34 0).toInt = 0 := (by rw [up_at esg_34]; rfl); have := (hvx).1; have := (hvx).2; have := ((show iv 0 1200 (sg 0) from CI_s hI 0)).1; have := ((show iv 0 1200 (sg 0) from CI_s hI 0)).2; have := (h_37).1; have := (h_37).2; have := (hr_40).1; have := (hr_40).2; omega) hm_32 _ _ _ hP hD hS (lv_sub hl [0] rfl)
