
/-- the other lists are the same -/
def LSM (q : Nat) (gm gm2 : Nat → Nat → Int32) : Prop := ∀ q2, q2 ≠ q → gm2 41 q2 = gm 41 q2 ∧ ∀ j, j < 128 → gm2 57 (128 * q2 + j) = gm 57 (128 * q2 + j)
/-- every element of a list is the new one or an old one -/
def LIN (q : Nat) (nm : Int32) (gm gm2 : Nat → Nat → Int32) : Prop := ∀ j, j < (gm2 41 q).toNatClampNeg → gm2 57 (128 * q + j) = nm ∨ ∃ i, i < (gm 41 q).toNatClampNeg ∧ gm2 57 (128 * q + j) = gm 57 (128 * q + i)
/-- the letters of a list differ -/
def LDL (q : Nat) (gm : Nat → Nat → Int32) : Prop := ∀ i j, i < j → j < (gm 41 q).toNatClampNeg → ¬ gm 22 (gm 57 (128 * q + i)).toNatClampNeg = gm 22 (gm 57 (128 * q + j)).toNatClampNeg
def PNP (lx : List Nat) (q : Nat) (nm : Int32) (gm gm2 : Nat → Nat → Int32) : Prop := LDI lx gm2 ∧ LDL q gm2 ∧ LSM q gm gm2 ∧ LIN q nm gm gm2
theorem PN_set {lx : List Nat} {gm gm2 : Nat → Nat → Int32} {q i : Nat} {nm : Int32} (hLD : LDI lx gm2) (hDL : LDL q gm) (e57 : gm2 57 = upd (gm 57) (128 * q + i) nm) (e41 : gm2 41 = gm 41) (e22 : gm2 22 = gm 22) (hi : i < 128) (hl : gm 22 (gm 57 (128 * q + i)).toNatClampNeg = gm 22 nm.toNatClampNeg) : PNP lx q nm gm gm2 := by
  have hlet : ∀ j, gm2 22 (gm2 57 (128 * q + j)).toNatClampNeg = gm 22 (gm 57 (128 * q + j)).toNatClampNeg := fun j => by
    rw [e22, e57]
    by_cases e9 : j = i
    · rw [e9, upd_at, hl]
    · rw [upd_ne (by omega)]
  refine ⟨hLD, fun a b hab hb => ?_, fun q2 h2 => ⟨by rw [e41], fun j hj => by rw [e57, upd_ne (by omega)]⟩, fun j hj => ?_⟩
  · rw [hlet, hlet]; rw [e41] at hb; exact hDL a b hab hb
  · rw [e57]
    by_cases e9 : j = i
    · left; rw [e9, upd_at]
    · right; exact ⟨j, by rw [e41] at hj; exact hj, by rw [upd_ne (by omega)]⟩
theorem LSM_add {gm gm2 : Nat → Nat → Int32} {q : Nat} (f41 : ∃ z9 : Int32, gm2 41 = upd (gm 41) q z9 ∧ z9.toInt = (gm 41 q).toInt + 1) (f57n : ∀ q2, q2 ≠ q → ∀ j9, j9 < 128 → gm2 57 (128 * q2 + j9) = gm 57 (128 * q2 + j9)) : LSM q gm gm2 := fun q2 h2 => by
  obtain ⟨z, e41, -⟩ := f41
  exact ⟨by rw [e41, upd_ne h2], f57n q2 h2⟩
theorem LIN_add {gm gm2 : Nat → Nat → Int32} {q : Nat} {nm : Int32} (h0 : 0 ≤ (gm 41 q).toInt) (f41 : ∃ z9 : Int32, gm2 41 = upd (gm 41) q z9 ∧ z9.toInt = (gm 41 q).toInt + 1) (f57e : gm2 57 (128 * q + (gm 41 q).toNatClampNeg) = nm) (f57 : ∀ j9, j9 < (gm 41 q).toNatClampNeg → gm2 57 (128 * q + j9) = gm 57 (128 * q + j9)) : LIN q nm gm gm2 := fun j hj => by
  obtain ⟨z, e41, hz⟩ := f41
  rw [e41, upd_at] at hj
  have k1 : z.toNatClampNeg = z.toInt.toNat := rfl
  have k2 : (gm 41 q).toNatClampNeg = (gm 41 q).toInt.toNat := rfl
  by_cases e9 : j < (gm 41 q).toNatClampNeg
  · exact Or.inr ⟨j, e9, f57 j e9⟩
  · left
    rw [show j = (gm 41 q).toNatClampNeg from by omega]; exact f57e
theorem PN_add {lx : List Nat} {gm gm2 : Nat → Nat → Int32} {q : Nat} {nm : Int32} (hLD : LDI lx gm2) (hDL : LDL q gm) (h0 : 0 ≤ (gm 41 q).toInt) (f41 : ∃ z9 : Int32, gm2 41 = upd (gm 41) q z9 ∧ z9.toInt = (gm 41 q).toInt + 1) (f57e : gm2 57 (128 * q + (gm 41 q).toNatClampNeg) = nm) (f57 : ∀ j9, j9 < (gm 41 q).toNatClampNeg → gm2 57 (128 * q + j9) = gm 57 (128 * q + j9)) (f57n : ∀ q2, q2 ≠ q → ∀ j9, j9 < 128 → gm2 57 (128 * q2 + j9) = gm 57 (128 * q2 + j9)) (e22 : gm2 22 = gm 22) (hno : ∀ k, k < (gm 41 q).toNatClampNeg → ¬ gm 22 (gm 57 (128 * q + k)).toNatClampNeg = gm 22 nm.toNatClampNeg) : PNP lx q nm gm gm2 := by
  refine ⟨hLD, fun a b hab hb => ?_, LSM_add f41 f57n, LIN_add h0 f41 f57e f57⟩
  obtain ⟨z, e41, hz⟩ := f41
  rw [e41, upd_at] at hb
  have k1 : z.toNatClampNeg = z.toInt.toNat := rfl
  have k2 : (gm 41 q).toNatClampNeg = (gm 41 q).toInt.toNat := rfl
  rw [e22]
  by_cases e9 : b < (gm 41 q).toNatClampNeg
  · rw [f57 a (by omega), f57 b e9]; exact hDL a b hab e9
  · rw [show b = (gm 41 q).toNatClampNeg from by omega, f57e, f57 a (by omega)]
    exact hno a (by omega)
theorem LDL_80 {lx : List Nat} {sg : Nat → Int32} {gm : Nat → Nat → Int32} {q : Nat} (hI : CI sg gm) (hq : q < 240) (hLD : LDI lx gm) (h : LDL q gm) : (gm 41 q).toInt < 80 := by
  have i41 := (show iv 0 80 (gm 41 q) from CI_n hI 41 hq)
  have k2 : (gm 41 q).toNatClampNeg = (gm 41 q).toInt.toNat := rfl
  by_cases h9 : (gm 41 q).toInt < 80
  · exact h9
  exfalso
  have hl : ∀ k, k ≤ 27 → iv (-1) 25 (gm 22 (gm 57 (128 * q + k)).toNatClampNeg) := fun k hk => by
    have h1 := (hLD q hq).2.2 k (by omega)
    have h2 := (show iv (-1) 79 (gm 57 (128 * q + k)) from CI_n hI 57 (show 128 * q + k < crLen 57 from by show _ < 30720; omega)).2
    have k3 : (gm 57 (128 * q + k)).toNatClampNeg = (gm 57 (128 * q + k)).toInt.toNat := rfl
    exact (show iv (-1) 25 _ from CI_n hI 22 (show (gm 57 (128 * q + k)).toNatClampNeg < crLen 22 from by show _ < 80; omega))
  obtain ⟨i, j, h1, h2, h3⟩ := pigeon 27 (fun k => ((gm 22 (gm 57 (128 * q + k)).toNatClampNeg).toInt + 1).toNat) (fun k hk => by
    have a1 := (hl k hk).1
    have a2 := (hl k hk).2
    show ((gm 22 (gm 57 (128 * q + k)).toNatClampNeg).toInt + 1).toNat < 27
    omega)
  have a1 := (hl i (by omega)).1
  have b1 := (hl j h2).1
  have h3 : ((gm 22 (gm 57 (128 * q + i)).toNatClampNeg).toInt + 1).toNat = ((gm 22 (gm 57 (128 * q + j)).toNatClampNeg).toInt + 1).toNat := h3
  exact h i j h1 (by omega) (Int32.toInt_inj.mp (by omega))
/-- the elements of a list: their word, and that they are elements of the document -/
def LWD (sg : Nat → Int32) (gm : Nat → Nat → Int32) (q : Nat) (w : Int) : Prop := ∀ j, j < (gm 41 q).toNatClampNeg → (gm 14 (gm 57 (128 * q + j)).toNatClampNeg).toInt = w ∧ (gm 57 (128 * q + j)).toInt < (sg 4).toInt
def BLI (sg : Nat → Int32) (gm : Nat → Nat → Int32) (b : Nat) : Prop := LWD sg gm (3 * b + 0) 3 ∧ LWD sg gm (3 * b + 1) 4 ∧ LDL (3 * b + 1) gm ∧ LDL (3 * b + 2) gm
def OVS (b : Nat) (gm gm2 : Nat → Nat → Int32) : Prop := ∀ q2, ¬ q2 = 3 * b + 0 → ¬ q2 = 3 * b + 1 → ¬ q2 = 3 * b + 2 → gm2 41 q2 = gm 41 q2 ∧ ∀ j, j < 128 → gm2 57 (128 * q2 + j) = gm 57 (128 * q2 + j)
theorem OVS_rf {b : Nat} {gm : Nat → Nat → Int32} : OVS b gm gm := fun _ _ _ _ => ⟨rfl, fun _ _ => rfl⟩
theorem OVS_s {b q : Nat} {gm gm1 gm2 : Nat → Nat → Int32} (h : OVS b gm gm1) (h2 : LSM q gm1 gm2) (hq : q = 3 * b + 0 ∨ q = 3 * b + 1 ∨ q = 3 * b + 2) : OVS b gm gm2 := fun q2 a1 a2 a3 => by
  obtain ⟨b1, b2⟩ := h q2 a1 a2 a3
  obtain ⟨c1, c2⟩ := h2 q2 (by omega)
  exact ⟨c1.trans b1, fun j hj => (c2 j hj).trans (b2 j hj)⟩
theorem LWD_s {sg : Nat → Int32} {gm gm2 : Nat → Nat → Int32} {q : Nat} {w : Int} (h : LWD sg gm q w) (h1 : gm2 41 q = gm 41 q) (h2 : ∀ j, j < 128 → gm2 57 (128 * q + j) = gm 57 (128 * q + j)) (h14 : gm2 14 = gm 14) (h41 : (gm 41 q).toInt ≤ 80) : LWD sg gm2 q w := fun j hj => by
  have k2 : (gm 41 q).toNatClampNeg = (gm 41 q).toInt.toNat := rfl
  rw [h1] at hj
  rw [h14, h2 j (by omega)]
  exact h j hj
theorem LDL_s {gm gm2 : Nat → Nat → Int32} {q : Nat} (h : LDL q gm) (h1 : gm2 41 q = gm 41 q) (h2 : ∀ j, j < 128 → gm2 57 (128 * q + j) = gm 57 (128 * q + j)) (h22 : gm2 22 = gm 22) (h41 : (gm 41 q).toInt ≤ 80) : LDL q gm2 := fun i j hij hj => by
  have k2 : (gm 41 q).toNatClampNeg = (gm 41 q).toInt.toNat := rfl
  rw [h1] at hj
  rw [h22, h2 j (by omega), h2 i (by omega)]
  exact h i j hij hj
theorem LWD_in {sg : Nat → Int32} {gm gm2 : Nat → Nat → Int32} {q : Nat} {w : Int} {nm : Int32} (h : LWD sg gm q w) (hN : LIN q nm gm gm2) (h14 : gm2 14 = gm 14) (hw : (gm 14 nm.toNatClampNeg).toInt = w) (h4 : nm.toInt < (sg 4).toInt) : LWD sg gm2 q w := fun j hj => by
  rw [h14]
  rcases hN j hj with e | ⟨i, hi, e⟩
  · rw [e]; exact ⟨hw, h4⟩
  · rw [e]; exact h i hi
theorem sz80 {sg : Nat → Int32} {gm : Nat → Nat → Int32} {q : Nat} (hI : CI sg gm) (hq : q < 240) : (gm 41 q).toInt ≤ 80 := (show iv 0 80 (gm 41 q) from CI_n hI 41 hq).2
theorem BLI_0 {sg : Nat → Int32} {gm gm2 : Nat → Nat → Int32} {b : Nat} (hI : CI sg gm) (hb : b < 80) (h : BLI sg gm b) (hs : LSM (3 * b + 0) gm gm2) (h14 : gm2 14 = gm 14) (h22 : gm2 22 = gm 22) (hw : LWD sg gm2 (3 * b + 0) 3) : BLI sg gm2 b :=
  ⟨hw, LWD_s h.2.1 (hs _ (by omega)).1 (hs _ (by omega)).2 h14 (sz80 hI (by omega)), LDL_s h.2.2.1 (hs _ (by omega)).1 (hs _ (by omega)).2 h22 (sz80 hI (by omega)), LDL_s h.2.2.2 (hs _ (by omega)).1 (hs _ (by omega)).2 h22 (sz80 hI (by omega))⟩
theorem BLI_1 {lx : List Nat} {sg : Nat → Int32} {gm gm2 : Nat → Nat → Int32} {b : Nat} {nm : Int32} (hI : CI sg gm) (hb : b < 80) (h : BLI sg gm b) (hp : PNP lx (3 * b + 1) nm gm gm2) (h14 : gm2 14 = gm 14) (h22 : gm2 22 = gm 22) (hw : (gm 14 nm.toNatClampNeg).toInt = 4) (h4 : nm.toInt < (sg 4).toInt) : BLI sg gm2 b := by
  obtain ⟨-, h1, hs, hN⟩ := hp
  exact ⟨LWD_s h.1 (hs _ (by omega)).1 (hs _ (by omega)).2 h14 (sz80 hI (by omega)), LWD_in h.2.1 hN h14 hw h4, h1, LDL_s h.2.2.2 (hs _ (by omega)).1 (hs _ (by omega)).2 h22 (sz80 hI (by omega))⟩
theorem BLI_2 {lx : List Nat} {sg : Nat → Int32} {gm gm2 : Nat → Nat → Int32} {b : Nat} {nm : Int32} (hI : CI sg gm) (hb : b < 80) (h : BLI sg gm b) (hp : PNP lx (3 * b + 2) nm gm gm2) (h14 : gm2 14 = gm 14) (h22 : gm2 22 = gm 22) : BLI sg gm2 b := by
  obtain ⟨-, h1, hs, hN⟩ := hp
  exact ⟨LWD_s h.1 (hs _ (by omega)).1 (hs _ (by omega)).2 h14 (sz80 hI (by omega)), LWD_s h.2.1 (hs _ (by omega)).1 (hs _ (by omega)).2 h14 (sz80 hI (by omega)), LDL_s h.2.2.1 (hs _ (by omega)).1 (hs _ (by omega)).2 h22 (sz80 hI (by omega)), h1⟩
theorem LSM_clr {gm gm2 : Nat → Nat → Int32} {q : Nat} (f41 : gm2 41 = upd (gm 41) q 0) (f57 : ∀ q2, q2 ≠ q → ∀ j9, j9 < 128 → gm2 57 (128 * q2 + j9) = gm 57 (128 * q2 + j9)) : LSM q gm gm2 := fun q2 h2 => ⟨by rw [f41, upd_ne h2], f57 q2 h2⟩
theorem LWD_0 {sg : Nat → Int32} {gm : Nat → Nat → Int32} {q : Nat} {w : Int} (h : gm 41 q = 0) : LWD sg gm q w := fun j hj => by rw [h] at hj; exact absurd hj (Nat.not_lt_zero _)
theorem BLI_e {sg sg2 : Nat → Int32} {gm gm2 : Nat → Nat → Int32} {b : Nat} (h : BLI sg gm b) (h4 : sg2 4 = sg 4) (h14 : gm2 14 = gm 14) (h22 : gm2 22 = gm 22) (h41 : gm2 41 = gm 41) (h57 : gm2 57 = gm 57) : BLI sg2 gm2 b := by
  unfold BLI LWD LDL at *; rw [h4, h14, h22, h41, h57]; exact h
theorem LK_e2 {sg sg2 : Nat → Int32} {gm gm2 : Nat → Nat → Int32} (h : LK sg gm) (h4 : sg2 4 = sg 4) (h15 : gm2 15 = gm 15) (h16 : gm2 16 = gm 16) (h17 : gm2 17 = gm 17) : LK sg2 gm2 := by
  unfold LK at *; rw [h4, h15, h16, h17]; exact h

set_option maxHeartbeats 4000000 in
set_option maxRecDepth 100000 in
theorem d_putNamed (l : Launch) (dC : Nat → ClassId) (dI : Nat → Nat → Nat) (ad : Nat → Nat → Nat) (cid : Nat → ClassId) (a2 : Nat → Nat) (lx : List Nat) (sg : Nat → Int32) (gm : Nat → Nat → Int32) (lg : Nat → Nat → Int64) (x : Int32) (nm : Int32) (hI : CI sg gm) (hvx : iv 0 239 x) (hvnm : iv 0 79 nm) (hLD : LDI lx gm) (hDL : LDL x.toNatClampNeg gm) : CMg dC dI ad cid l yX1_putNamed wm_X1_putNamed ({ frames := 11, cells := 152401, slots := 609727, locals := 268 }) [eV (ad 11) x, eV (ad 9) nm] a2 lx sg gm lg 0 152401 609727 (fun v u => v = none ∧ ∃ (a22 : Nat → Nat) (lx2 : List Nat), ∃ (sg2 : Nat → Int32) (gm2 : Nat → Nat → Int32) (lg2 : Nat → Nat → Int64), u = (a22, lx2, sg2, gm2, lg2) ∧ CI sg2 gm2 ∧ KS [] sg sg2 ∧ KS [40, 41, 42, 57] gm gm2 ∧ KS [] lg lg2 ∧ (PNP lx2 x.toNatClampNeg nm gm gm2)) (fun _ _ => False) := by
  intro sz
  refine vx_ofW (cc := cX1_putNamed) (maxL := 3) (ret := none) (by decide) rfl ?_
  intro p e s m args below meth c s₁ B hml hxt hv
  obtain ⟨rfl, hsz, hP, hK, hD0, hG⟩ := hv
  have hx := B.exec
  have hb := B.bytes
  have hr := B.returns
  have hts := atoms_spec (ws := wm_X1_putNamed) B.pre
  have htb := fun (w : Cond) (h : w ∈ tb) => hts w (List.mem_cons_of_mem _ h)
  have hown : s.vm.findClass RX1 = some m.cls := findClass_of_methodNamed B.named
  have hlocks := B.notSynchronized
  subst hsz
  have hD := hD0.self (sz := s.heap.size)
  generalize hAe : va_A (cW ad cid a2 lx sg gm lg) s.heap.size = A at hD hG ⊢
  have hA : ∀ q : Nat, s.heap.size ≤ q → A q := fun q h => by rw [← hAe]; exact Or.inr h
  have hS : va_S A s.heap s.heap [] := va_S.rf
  have hl := lv_entry ([eV (ad 11) x, eV (ad 9) nm]) (n := 3) (by rw [show (lg_sl ([eV (ad 11) x, eV (ad 9) nm])).length = 2 from by simp [lg_sl, eV_cat, cat_i, cat_l]]; exact Nat.le_of_ble_eq_true rfl)
  rw [lg_entry_eq]
  generalize (lg_sl ([eV (ad 11) x, eV (ad 9) nm]) ++ List.replicate (3 - (lg_sl ([eV (ad 11) x, eV (ad 9) nm])).length) Slot.unset).toArray = ls at hl ⊢
  have hl : lv_has ls 3 [(0, eV (ad 11) x), (1, eV (ad 9) nm)] := by simp [lv_args, eV_cat, cat_i, cat_l] at hl; exact hl
  refine W.widen (k := gc gm gm 0) (n := gs gm gm 0) (Nat.zero_le _) (Nat.zero_le _) ?_
  have hj2 : ∀ (n : Nat) (x2_2 : Int32) (_ : (80 - x2_2.toInt).toNat = n) (_ : iv 0 80 x2_2) (_ : iv 0 239 x) (_ : iv 0 79 nm) (_ : ∀ k9, k9 < x2_2.toNatClampNeg → ¬ gm 22 (gm 57 (128 * x.toNatClampNeg + k9)).toNatClampNeg = gm 22 nm.toNatClampNeg) (_ : PHs gm ≤ PHs gm) (H : Heap) (locs : List Loc) (ls : Array Slot), va_P (dC, dI) vwCl (cW ad cid a2 lx sg gm lg) H → va_D A (cW ad cid a2 lx sg gm lg) → va_S A s.heap H locs → lv_has ls 3 [(2, .int x2_2), (0, eV (ad 11) x), (1, eV (ad 9) nm)] → W p l e (headSpec wm_X1_putNamed ({ frames := 11, cells := 152401, slots := 609727, locals := 268 })).room s m ([eV (ad 11) x, eV (ad 9) nm] : List Value).toArray below meth c H locs (gc gm gm 0) (gs gm gm 0) (vx_MQ below (cQg dC dI ad cid (fun v u => v = none ∧ ∃ (a22 : Nat → Nat) (lx2 : List Nat), ∃ (sg2 : Nat → Int32) (gm2 : Nat → Nat → Int32) (lg2 : Nat → Nat → Int64), u = (a22, lx2, sg2, gm2, lg2) ∧ CI sg2 gm2 ∧ KS [] sg sg2 ∧ KS [40, 41, 42, 57] gm gm2 ∧ KS [] lg lg2 ∧ (PNP lx2 x.toNatClampNeg nm gm gm2)) 0 gm A) (cXg dC dI ad cid (fun _ _ => False) 0 gm A) ([eV (ad 11) x, eV (ad 9) nm] : List Value).toArray s 152401 609727 A) (F0 m 2 ls []) := by
    intro n
    induction n using Nat.strongRecOn with
    | ind n ih2 =>
      intro x2_2 hn2 hx2_2 hsx0_2 hsx1_2 hno hm_j2 H locs ls hP hD hS hl
      refine lv_iload_n hx hb dX1_putNamed_2 rfl (lv_at hl 0 rfl) ?_
      refine ec_aload_n hx hb dX1_putNamed_3 rfl (lv_at hl 1 rfl) ?_
      refine cm_callTV (t := 11) (C := RJx4a65c) (T := TJx4a65c) (N := 3) (rest := [.int x2_2]) (as := []) ⟨hx, hb, hml, hown, htb⟩ (d_lsize l dC dI ad cid a2 lx sg gm lg x hI hsx0_2) (cwV 0 htb (gd_V kw_790 kw_791 kw_792 kw_98 kw_1511) rfl rfl rfl (by decide +kernel) ⟨Nat.le_of_ble_eq_true rfl, Nat.le_of_ble_eq_true rfl⟩) hsx0_2 (by decide) (by decide) rfl rfl hl.1 rfl (Nat.le_trans (cs_c (cat_i _) cs_n) (by decide)) dX1_putNamed_4 ⟨Nat.le_trans (gc_le hI) (Nat.le_of_ble_eq_true rfl), Nat.le_trans (gs_le hI) (Nat.le_of_ble_eq_true rfl)⟩ hK hP hD hS hA hG (fun E ce q9 u_2 H locs hw hP hD hS hce hcv hcl => ?_) (fun v9 u_2 H locs hw hP hD hS => ?_)
      · exact hw.elim
      obtain ⟨r_1, rfl, rfl, hr_1, fr_r_1⟩ := hw
      have hP : va_P (dC, dI) vwCl (cW ad cid a2 lx sg gm lg) H := hP
      have hD : va_D A (cW ad cid a2 lx sg gm lg) := hD
      refine W.eq (g2 := F0 m 7 ls [.int r_1, .int x2_2]) rfl ?_
      refine lv_icmp_ge (tgt := 42) hx hb dX1_putNamed_7 (by decide) (fun c_4 => ?_) (fun c_4 => ?_)
      · have d_5 : (r_1 : Int32).toInt ≤ (x2_2 : Int32).toInt := Int32.le_iff_toInt_le.mp c_4
        refine ec_aload_n hx hb dX1_putNamed_42 rfl (lv_at hl 1 rfl) ?_
        refine ec_aload_n hx hb dX1_putNamed_43 rfl (lv_at hl 2 rfl) ?_
        refine cm_callGV (t := 11) (C := RJx4a65c) (T := TJx4a65c) (N := 3) (rest := []) (as := [eV (ad 9) nm]) ⟨hx, hb, hml, hown, htb⟩ (d_ladd l dC dI ad cid a2 lx sg gm lg x nm hI hsx0_2 hsx1_2 hLD (LDL_80 hI (by have := iv_cl hvx (by decide); have := hvx.2; omega) hLD hDL)) (cwV 1 htb (gd_V kw_746 kw_747 kw_748 kw_98 kw_1500) rfl rfl rfl (by decide +kernel) ⟨Nat.le_of_ble_eq_true rfl, Nat.le_of_ble_eq_true rfl⟩) hsx0_2 (by decide) (by decide) rfl rfl hl.1 rfl (Nat.le_trans cs_n (by decide)) dX1_putNamed_44 ⟨Nat.le_trans (gc_le hI) (Nat.le_of_ble_eq_true rfl), Nat.le_trans (gs_le hI) (Nat.le_of_ble_eq_true rfl)⟩ hK hP hD hS hA hG (fun E ce q9 u_7 H locs hw hmu hP hD hS hce hcv hcl => ?_) (fun v9 u_7 H locs hw hmu hP hD hS => ?_)
        · exact hw.elim
        obtain ⟨r_6, rfl, a2v_8, lxv_8, sgv_8, gmv_8, lgv_8, rfl, hIv_8, ksv_8, kgv_8, klv_8, hr_6, f41_r_6, f57e_r_6, f57_r_6, f57n_r_6, fLD_r_6⟩ := hw
        obtain rfl := KS_nil ksv_8
        obtain rfl := KS_nil klv_8
        have hP : va_P (dC, dI) vwCl (cW ad cid a2v_8 lxv_8 sg gmv_8 lg) H := hP
        have hD : va_D A (cW ad cid a2v_8 lxv_8 sg gmv_8 lg) := hD
        have hmu : PHs gm ≤ PHs gmv_8 := hmu
        rw [show (gc gm gm 0 + gc gm gmv_8 0) = gc gm gmv_8 0 from gc_t hm_j2 hmu, show (gs gm gm 0 + gs gm gmv_8 0) = gs gm gmv_8 0 from gs_t hm_j2 hmu]
        have hm_9 : PHs gm ≤ PHs gmv_8 := Nat.le_trans hm_j2 hmu
        refine W.eq (g2 := F0 m 47 ls [.int r_6]) rfl ?_
        refine lv_pop hx hb dX1_putNamed_47 rfl ?_
        exact W.nb (fun hN => W.widen (k := 152401) (n := 609727) (Nat.le_trans (gc_l0 (gm := gm) (k := 0) hIv_8) (Nat.le_of_ble_eq_true rfl)) (Nat.le_trans (gs_l0 (gm := gm) (k := 0) hIv_8) (Nat.le_of_ble_eq_true rfl)) (vx_ret (W.vret hx hb hr (fun t ht hW => ⟨⟨none, (a2v_8, lxv_8, sg, gmv_8, lg), rfl, ⟨rfl, a2v_8, lxv_8, sg, gmv_8, lg, rfl, hIv_8, KS_rf, (KS_tr (L := [40, 41, 42, 57]) KS_rf kgv_8 (by decide)), KS_rf, (PN_add fLD_r_6 hDL (show iv 0 80 (gm 41 x.toNatClampNeg) from CI_a hI 41 hvx (by decide)).1 f41_r_6 f57e_r_6 f57_r_6 f57n_r_6 (kgv_8 22 (by decide)) (fun k9 q9 => hno k9 (by have q3 := congrArg Int32.toInt fr_r_1; have q1 : (gm 41 x.toNatClampNeg).toNatClampNeg = (gm 41 x.toNatClampNeg).toInt.toNat := rfl; have q2 : x2_2.toNatClampNeg = x2_2.toInt.toNat := rfl; have := i32_0; have := i32_1; have := i32_2; have := i32_m1; have := (hsx0_2).1; have := (hsx0_2).2; have := (hsx1_2).1; have := (hsx1_2).2; have := (hx2_2).1; have := (hx2_2).2; have := (hr_1).1; have := (hr_1).2; have := (hr_6).1; have := (hr_6).2; omega)))⟩, ⟨by rw [ht]; exact hP, va_K.moved hW.alike hK, hD⟩, hm_9, by rw [ht]; exact hN⟩, hS.F ht⟩) hS.2.2 dX1_putNamed_48)))
      · have d_10 : (x2_2 : Int32).toInt < (r_1 : Int32).toInt := Int32.lt_iff_toInt_lt.mp (i32_lt c_4)
        have h_11 : iv 0 79 x2_2 := iv_ltL (i32_lt c_4) hx2_2 hr_1 (by decide)
        have h_12 : iv 1 80 r_1 := iv_ltR (i32_lt c_4) hx2_2 hr_1 (by decide)
        refine ec_aload_n hx hb dX1_putNamed_10 rfl (lv_at hl 1 rfl) ?_
        refine lv_iload_n hx hb dX1_putNamed_11 rfl (lv_at hl 0 rfl) ?_
        refine cm_callTV (t := 11) (C := RJx4a65c) (T := TJx4a65c) (N := 3) (rest := []) (as := [.int x2_2]) ⟨hx, hb, hml, hown, htb⟩ (d_lget l dC dI ad cid a2 lx sg gm lg x x2_2 hI hsx0_2 hLD (by have := i32_0; have := i32_1; have := i32_2; have := i32_m1; have := (hsx0_2).1; have := (hsx0_2).2; have := (hsx1_2).1; have := (hsx1_2).2; have := (h_11).1; have := (h_11).2; have := (h_12).1; have := (h_12).2; omega) (by rw [← fr_r_1]; have := i32_0; have := i32_1; have := i32_2; have := i32_m1; have := (hsx0_2).1; have := (hsx0_2).2; have := (hsx1_2).1; have := (hsx1_2).2; have := (h_11).1; have := (h_11).2; have := (h_12).1; have := (h_12).2; omega)) (cwV 1 htb (gd_V kw_793 kw_794 kw_795 kw_98 kw_1512) rfl rfl rfl (by decide +kernel) ⟨Nat.le_of_ble_eq_true rfl, Nat.le_of_ble_eq_true rfl⟩) hsx0_2 (by decide) (by decide) rfl rfl hl.1 rfl (Nat.le_trans cs_n (by decide)) dX1_putNamed_12 ⟨Nat.le_trans (gc_le hI) (Nat.le_of_ble_eq_true rfl), Nat.le_trans (gs_le hI) (Nat.le_of_ble_eq_true rfl)⟩ hK hP hD hS hA hG (fun E ce q9 u_14 H locs hw hP hD hS hce hcv hcl => ?_) (fun v9 u_14 H locs hw hP hD hS => ?_)
        · exact hw.elim
        obtain ⟨r_13, rfl, rfl, hr_13, fr_r_13⟩ := hw
        have hP : va_P (dC, dI) vwCl (cW ad cid a2 lx sg gm lg) H := hP
        have hD : va_D A (cW ad cid a2 lx sg gm lg) := hD
        refine W.eq (g2 := F0 m 15 ls [eV (ad 9) r_13]) rfl ?_
        refine cl_cast hx hb hG hown (htb _ kw_788) hK hP hr_13 (by decide) dX1_putNamed_15 ?_
        refine cr_get (t := 9) (j := 15) (C := RX3) (T := TX3) (N := 21) (v := .int (gm 22 r_13.toNatClampNeg)) hx hb htb inX3 hown hK hP hr_13 (by decide) (by decide) (by decide) rfl (by decide) (htb _ kw_789) rfl dX1_putNamed_18 ?_
        obtain ⟨z_16, ez_16⟩ : ∃ z : Int32, z = (gm 22 r_13.toNatClampNeg) := ⟨_, rfl⟩
        refine W.eq (g2 := F0 m 21 ls [.int z_16]) (by rw [ez_16]) ?_
        have hz_16 : iv (-1) 25 z_16 := iv_of ez_16 (CI_a hI 22 hr_13 (by decide))
        refine ec_aload_n hx hb dX1_putNamed_21 rfl (lv_at hl 2 rfl) ?_
        refine cr_get (t := 9) (j := 15) (C := RX3) (T := TX3) (N := 21) (v := .int (gm 22 nm.toNatClampNeg)) hx hb htb inX3 hown hK hP hsx1_2 (by decide) (by decide) (by decide) rfl (by decide) (htb _ kw_789) rfl dX1_putNamed_22 ?_
        obtain ⟨z_17, ez_17⟩ : ∃ z : Int32, z = (gm 22 nm.toNatClampNeg) := ⟨_, rfl⟩
        refine W.eq (g2 := F0 m 25 ls [.int z_17, .int z_16]) (by rw [ez_17]) ?_
        have hz_17 : iv (-1) 25 z_17 := iv_of ez_17 (CI_a hI 22 hsx1_2 (by decide))
        refine lv_icmp_ne (tgt := 36) hx hb dX1_putNamed_25 (by decide) (fun c_18 => ?_) (fun c_18 => ?_)
        · have hne9 : ¬ gm 22 (gm 57 (128 * x.toNatClampNeg + x2_2.toNatClampNeg)).toNatClampNeg = gm 22 nm.toNatClampNeg := by rw [← fr_r_13, ← ez_16, ← ez_17]; exact c_18
          obtain ⟨z_19, ez_19⟩ : ∃ z : Int32, z = x2_2 + 1 := ⟨_, rfl⟩
          have hz_19 : iv 1 80 z_19 := iv_of ez_19 (iv_add h_11 (iv_k (by decide) : iv 1 1 1) (by decide))
          have tz_19 : z_19.toInt = x2_2.toInt + 1 := by rw [ez_19]; exact iv_addE h_11 (iv_k (by decide) : iv 1 1 1) (by decide)
          refine lv_iinc (v := z_19) (lv' := [(2, .int z_19), (0, eV (ad 11) x), (1, eV (ad 9) nm)]) hx hb dX1_putNamed_36 hl (k := 0) rfl ez_19.symm (by decide) (by simp [List.filter, eV_cat, cat_i, cat_l]) (fun ls hl => ?_)
          refine lv_goto (tgt := 2) hx hb dX1_putNamed_39 (by decide) ?_
          exact ih2 _ (by rw [← hn2]; exact (iv_meas tz_19 h_11 (by decide))) z_19 rfl (iv_w hz_19 (by decide)) hsx0_2 hsx1_2 (fun k9 q9 => by { by_cases q8 : k9 < x2_2.toNatClampNeg; { exact hno k9 q8 }; { have q1 : z_19.toNatClampNeg = z_19.toInt.toNat := rfl; have q2 : x2_2.toNatClampNeg = x2_2.toInt.toNat := rfl; have q3 : k9 = x2_2.toNatClampNeg := (by have := i32_0; have := i32_1; have := i32_2; have := i32_m1; have := (hsx0_2).1; have := (hsx0_2).2; have := (hsx1_2).1; have := (hsx1_2).2; have := (h_11).1; have := (h_11).2; have := (h_12).1; have := (h_12).2; have := (hr_13).1; have := (hr_13).2; have := (hz_16).1; have := (hz_16).2; have := (hz_17).1; have := (hz_17).2; have := (hz_19).1; have := (hz_19).2; omega); rw [q3]; exact hne9 } }) hm_j2 _ _ _ hP hD hS (lv_sub hl [0, 1, 2] rfl)
        · have d_20 : (z_16 : Int32).toInt = (z_17 : Int32).toInt := congrArg Int32.toInt c_18
          have heq9 : gm 22 (gm 57 (128 * x.toNatClampNeg + x2_2.toNatClampNeg)).toNatClampNeg = gm 22 nm.toNatClampNeg := by rw [← fr_r_13, ← ez_16, ← ez_17]; exact c_18
          refine ec_aload_n hx hb dX1_putNamed_28 rfl (lv_at hl 1 rfl) ?_
          refine lv_iload_n hx hb dX1_putNamed_29 rfl (lv_at hl 0 rfl) ?_
          refine ec_aload_n hx hb dX1_putNamed_30 rfl (lv_at hl 2 rfl) ?_
          refine cm_callTV (t := 11) (C := RJx4a65c) (T := TJx4a65c) (N := 3) (rest := []) (as := [.int x2_2, eV (ad 9) nm]) ⟨hx, hb, hml, hown, htb⟩ (d_lset l dC dI ad cid a2 lx sg gm lg x x2_2 nm hI hsx0_2 hsx1_2 hLD (by have := i32_0; have := i32_1; have := i32_2; have := i32_m1; have := (hsx0_2).1; have := (hsx0_2).2; have := (hsx1_2).1; have := (hsx1_2).2; have := (h_11).1; have := (h_11).2; have := (h_12).1; have := (h_12).2; have := (hr_13).1; have := (hr_13).2; have := (hz_16).1; have := (hz_16).2; have := (hz_17).1; have := (hz_17).2; omega) (by rw [← fr_r_1]; have := i32_0; have := i32_1; have := i32_2; have := i32_m1; have := (hsx0_2).1; have := (hsx0_2).2; have := (hsx1_2).1; have := (hsx1_2).2; have := (h_11).1; have := (h_11).2; have := (h_12).1; have := (h_12).2; have := (hr_13).1; have := (hr_13).2; have := (hz_16).1; have := (hz_16).2; have := (hz_17).1; have := (hz_17).2; omega)) (cwV 2 htb (gd_V kw_803 kw_804 kw_805 kw_98 kw_1515) rfl rfl rfl (by decide +kernel) ⟨Nat.le_of_ble_eq_true rfl, Nat.le_of_ble_eq_true rfl⟩) hsx0_2 (by decide) (by decide) rfl rfl hl.1 rfl (Nat.le_trans cs_n (by decide)) dX1_putNamed_31 ⟨Nat.le_trans (gc_le hI) (Nat.le_of_ble_eq_true rfl), Nat.le_trans (gs_le hI) (Nat.le_of_ble_eq_true rfl)⟩ hK hP hD hS hA hG (fun E ce q9 u_22 H locs hw hP hD hS hce hcv hcl => ?_) (fun v9 u_22 H locs hw hP hD hS => ?_)
          · exact hw.elim
          obtain ⟨r_21, rfl, sgv_23, gmv_23, lgv_23, rfl, hIv_23, ksv_23, kgv_23, klv_23, hr_21, fL_r_21, fLD_r_21⟩ := hw
          obtain rfl := KS_nil ksv_23
          obtain rfl := KS_nil klv_23
          have hP : va_P (dC, dI) vwCl (cW ad cid a2 lx sg gmv_23 lg) H := hP
          have hD : va_D A (cW ad cid a2 lx sg gmv_23 lg) := hD
          refine W.eq (g2 := F0 m 34 ls [eV (ad 9) r_21]) rfl ?_
          refine lv_pop hx hb dX1_putNamed_34 (eV_cat _ _) ?_
          refine W.widen (k := gc gm gmv_23 0) (n := gs gm gmv_23 0) (gc_e (show gmv_23 42 = gm 42 from (kgv_23 42 (by decide))) (by decide)) (gs_e (show gmv_23 42 = gm 42 from (kgv_23 42 (by decide))) (by decide)) ?_
          have hm_24 : PHs gm ≤ PHs gmv_23 := by rw [PHs_e (show gmv_23 42 = gm 42 from (kgv_23 42 (by decide)))]; exact hm_j2
          exact W.nb (fun hN => W.widen (k := 152401) (n := 609727) (Nat.le_trans (gc_l0 (gm := gm) (k := 0) hIv_23) (Nat.le_of_ble_eq_true rfl)) (Nat.le_trans (gs_l0 (gm := gm) (k := 0) hIv_23) (Nat.le_of_ble_eq_true rfl)) (vx_ret (W.vret hx hb hr (fun t ht hW => ⟨⟨none, (a2, lx, sg, gmv_23, lg), rfl, ⟨rfl, a2, lx, sg, gmv_23, lg, rfl, hIv_23, KS_rf, (KS_tr (L := [40, 41, 42, 57]) KS_rf kgv_23 (by decide)), KS_rf, (PN_set fLD_r_21 hDL fL_r_21 (kgv_23 41 (by decide)) (kgv_23 22 (by decide)) (by have q2 : x2_2.toNatClampNeg = x2_2.toInt.toNat := rfl; have := i32_0; have := i32_1; have := i32_2; have := i32_m1; have := (hsx0_2).1; have := (hsx0_2).2; have := (hsx1_2).1; have := (hsx1_2).2; have := (h_11).1; have := (h_11).2; have := (h_12).1; have := (h_12).2; have := (hr_13).1; have := (hr_13).2; have := (hz_16).1; have := (hz_16).2; have := (hz_17).1; have := (hz_17).2; have := (hr_21).1; have := (hr_21).2; omega) heq9)⟩, ⟨by rw [ht]; exact hP, va_K.moved hW.alike hK, hD⟩, hm_24, by rw [ht]; exact hN⟩, hS.F ht⟩) hS.2.2 dX1_putNamed_35)))
  refine lv_iconst (v := 0) hx hb dX1_putNamed_0 (by decide) ?_
  refine lv_istore_n (i := 2) (lv' := [(2, .int 0), (0, eV (ad 11) x), (1, eV (ad 9) nm)]) hx hb dX1_putNamed_1 rfl hl (by decide) (by simp [List.filter, eV_cat, cat_i, cat_l]) (fun ls hl => ?_)
  exact hj2 _ 0 rfl (iv_w (iv_k (by decide) : iv 0 0 0) (by decide)) hvx hvnm (fun _ q9 => absurd q9 (Nat.not_lt_zero _)) (Nat.le_refl _) _ _ _ hP hD hS (lv_sub hl [0, 1, 2] rfl)

set_option maxHeartbeats 4000000 in
set_option maxRecDepth 100000 in
theorem d_overlayInner (l : Launch) (dC : Nat → ClassId) (dI : Nat → Nat → Nat) (ad : Nat → Nat → Nat) (cid : Nat → ClassId) (a2 : Nat → Nat) (lx : List Nat) (sg : Nat → Int32) (gm : Nat → Nat → Int32) (lg : Nat → Nat → Int64) (b : Int32) (o : Int32) (hI : CI sg gm) (hvb : iv 0 79 b) (hvo : iv 0 79 o) (hLD : LDI lx gm) (hLK : LK sg gm) (how : o.toInt < (sg 4).toInt) (hBL : BLI sg gm b.toNatClampNeg) : CMg dC dI ad cid l yX1_overlayInner wm_X1_overlayInner ({ frames := 12, cells := 182881, slots := 731647, locals := 290 }) [eV (ad 10) b, eV (ad 9) o] a2 lx sg gm lg 0 182881 731647 (fun v u => v = none ∧ ∃ (a22 : Nat → Nat) (lx2 : List Nat), ∃ (sg2 : Nat → Int32) (gm2 : Nat → Nat → Int32) (lg2 : Nat → Nat → Int64), u = (a22, lx2, sg2, gm2, lg2) ∧ CI sg2 gm2 ∧ KS [] sg sg2 ∧ KS [40, 41, 42, 57] gm gm2 ∧ KS [] lg lg2 ∧ (LDI lx2 gm2) ∧ (BLI sg gm2 b.toNatClampNeg) ∧ (OVS b.toNatClampNeg gm gm2)) (fun _ _ => False) := by
  intro sz
  refine vx_ofW (cc := cX1_overlayInner) (maxL := 5) (ret := none) (by decide) rfl ?_
  intro p e s m args below meth c s₁ B hml hxt hv
  obtain ⟨rfl, hsz, hP, hK, hD0, hG⟩ := hv
  have hx := B.exec
  have hb := B.bytes
  have hr := B.returns
  have hts := atoms_spec (ws := wm_X1_overlayInner) B.pre
  have htb := fun (w : Cond) (h : w ∈ tb) => hts w (List.mem_cons_of_mem _ h)
  have hown : s.vm.findClass RX1 = some m.cls := findClass_of_methodNamed B.named
  have hlocks := B.notSynchronized
  subst hsz
  have hD := hD0.self (sz := s.heap.size)
  generalize hAe : va_A (cW ad cid a2 lx sg gm lg) s.heap.size = A at hD hG ⊢
  have hA : ∀ q : Nat, s.heap.size ≤ q → A q := fun q h => by rw [← hAe]; exact Or.inr h
  have hS : va_S A s.heap s.heap [] := va_S.rf
  have hl := lv_entry ([eV (ad 10) b, eV (ad 9) o]) (n := 5) (by rw [show (lg_sl ([eV (ad 10) b, eV (ad 9) o])).length = 2 from by simp [lg_sl, eV_cat, cat_i, cat_l]]; exact Nat.le_of_ble_eq_true rfl)
  rw [lg_entry_eq]
  generalize (lg_sl ([eV (ad 10) b, eV (ad 9) o]) ++ List.replicate (5 - (lg_sl ([eV (ad 10) b, eV (ad 9) o])).length) Slot.unset).toArray = ls at hl ⊢
  have hl : lv_has ls 5 [(0, eV (ad 10) b), (1, eV (ad 9) o)] := by simp [lv_args, eV_cat, cat_i, cat_l] at hl; exact hl
  refine W.widen (k := gc gm gm 0) (n := gs gm gm 0) (Nat.zero_le _) (Nat.zero_le _) ?_
  have hj92 : ∀ (a2_j92 : Nat → Nat) (lx_j92 : List Nat) (gm_j92 : Nat → Nat → Int32) (x4_92 : Int32) (x3_92 : Int32) (x2_92 : Int32) (_ : iv 0 80 x4_92) (_ : iv (-1) 79 x3_92) (_ : iv 0 1 x2_92) (_ : iv 0 79 b) (_ : iv 0 79 o) (_ : KS [40, 41, 42, 57] gm gm_j92) (_ : CI sg gm_j92) (_ : LDI lx_j92 gm_j92) (_ : BLI sg gm_j92 b.toNatClampNeg) (_ : OVS b.toNatClampNeg gm gm_j92) (_ : PHs gm ≤ PHs gm_j92) (H : Heap) (locs : List Loc) (ls : Array Slot), va_P (dC, dI) vwCl (cW ad cid a2_j92 lx_j92 sg gm_j92 lg) H → va_D A (cW ad cid a2_j92 lx_j92 sg gm_j92 lg) → va_S A s.heap H locs → lv_has ls 5 [(4, .int x4_92), (3, eV (ad 9) x3_92), (2, .int x2_92), (0, eV (ad 10) b), (1, eV (ad 9) o)] → W p l e (headSpec wm_X1_overlayInner ({ frames := 12, cells := 182881, slots := 731647, locals := 290 })).room s m ([eV (ad 10) b, eV (ad 9) o] : List Value).toArray below meth c H locs (gc gm gm_j92 0) (gs gm gm_j92 0) (vx_MQ below (cQg dC dI ad cid (fun v u => v = none ∧ ∃ (a22 : Nat → Nat) (lx2 : List Nat), ∃ (sg2 : Nat → Int32) (gm2 : Nat → Nat → Int32) (lg2 : Nat → Nat → Int64), u = (a22, lx2, sg2, gm2, lg2) ∧ CI sg2 gm2 ∧ KS [] sg sg2 ∧ KS [40, 41, 42, 57] gm gm2 ∧ KS [] lg lg2 ∧ (LDI lx2 gm2) ∧ (BLI sg gm2 b.toNatClampNeg) ∧ (OVS b.toNatClampNeg gm gm2)) 0 gm A) (cXg dC dI ad cid (fun _ _ => False) 0 gm A) ([eV (ad 10) b, eV (ad 9) o] : List Value).toArray s 182881 731647 A) (F0 m 92 ls []) := by
    intro a2_j92 lx_j92 gm_j92 x4_92 x3_92 x2_92 hx4_92 hx3_92 hx2_92 hsx0_92 hsx1_92 hkg_j92 hI_j92 hLDn hBLn hOVn hm_j92 H locs ls hP hD hS hl
    exact W.nb (fun hN => W.widen (k := 182881) (n := 731647) (Nat.le_trans (gc_l0 (gm := gm) (k := 0) hI_j92) (Nat.le_of_ble_eq_true rfl)) (Nat.le_trans (gs_l0 (gm := gm) (k := 0) hI_j92) (Nat.le_of_ble_eq_true rfl)) (vx_ret (W.vret hx hb hr (fun t ht hW => ⟨⟨none, (a2_j92, lx_j92, sg, gm_j92, lg), rfl, ⟨rfl, a2_j92, lx_j92, sg, gm_j92, lg, rfl, hI_j92, KS_rf, (KS_tr (L := [40, 41, 42, 57]) KS_rf hkg_j92 (by decide)), KS_rf, (hLDn), (hBLn), (hOVn)⟩, ⟨by rw [ht]; exact hP, va_K.moved hW.alike hK, hD⟩, hm_j92, by rw [ht]; exact hN⟩, hS.F ht⟩) hS.2.2 dX1_overlayInner_92)))
  have hj10 : ∀ (n : Nat) (a2_j10 : Nat → Nat) (lx_j10 : List Nat) (gm_j10 : Nat → Nat → Int32) (x4_10 : Int32) (x3_10 : Int32) (x2_10 : Int32) (_ : (80 - x4_10.toInt).toNat = n) (_ : iv 0 80 x4_10) (_ : iv (-1) 79 x3_10) (_ : iv 0 1 x2_10) (_ : iv 0 79 b) (_ : iv 0 79 o) (_ : KS [40, 41, 42, 57] gm gm_j10) (_ : CI sg gm_j10) (_ : LDI lx_j10 gm_j10) (_ : BLI sg gm_j10 b.toNatClampNeg) (_ : OVS b.toNatClampNeg gm gm_j10) (_ : x3_10.toInt < (sg 4).toInt) (_ : x2_10.toInt = 0 ∨ (gm_j10 41 (3 * b.toNatClampNeg + 0)).toInt ≤ x4_10.toInt) (_ : PHs gm ≤ PHs gm_j10) (H : Heap) (locs : List Loc) (ls : Array Slot), va_P (dC, dI) vwCl (cW ad cid a2_j10 lx_j10 sg gm_j10 lg) H → va_D A (cW ad cid a2_j10 lx_j10 sg gm_j10 lg) → va_S A s.heap H locs → lv_has ls 5 [(4, .int x4_10), (3, eV (ad 9) x3_10), (2, .int x2_10), (0, eV (ad 10) b), (1, eV (ad 9) o)] → W p l e (headSpec wm_X1_overlayInner ({ frames := 12, cells := 182881, slots := 731647, locals := 290 })).room s m ([eV (ad 10) b, eV (ad 9) o] : List Value).toArray below meth c H locs (gc gm gm_j10 0) (gs gm gm_j10 0) (vx_MQ below (cQg dC dI ad cid (fun v u => v = none ∧ ∃ (a22 : Nat → Nat) (lx2 : List Nat), ∃ (sg2 : Nat → Int32) (gm2 : Nat → Nat → Int32) (lg2 : Nat → Nat → Int64), u = (a22, lx2, sg2, gm2, lg2) ∧ CI sg2 gm2 ∧ KS [] sg sg2 ∧ KS [40, 41, 42, 57] gm gm2 ∧ KS [] lg lg2 ∧ (LDI lx2 gm2) ∧ (BLI sg gm2 b.toNatClampNeg) ∧ (OVS b.toNatClampNeg gm gm2)) 0 gm A) (cXg dC dI ad cid (fun _ _ => False) 0 gm A) ([eV (ad 10) b, eV (ad 9) o] : List Value).toArray s 182881 731647 A) (F0 m 10 ls []) := by
    intro n
    induction n using Nat.strongRecOn with
    | ind n ih10 =>
      intro a2_j10 lx_j10 gm_j10 x4_10 x3_10 x2_10 hn10 hx4_10 hx3_10 hx2_10 hsx0_10 hsx1_10 hkg_j10 hI_j10 hLDj hBLj hOVj hltj hszj hm_j10 H locs ls hP hD hS hl
      have hj81 : ∀ (a2_j81 : Nat → Nat) (lx_j81 : List Nat) (gm_j81 : Nat → Nat → Int32) (x2_81 : Int32) (_ : iv 0 79 x4_10) (_ : iv 0 79 x3_10) (_ : iv 0 1 x2_81) (_ : iv 0 79 b) (_ : iv 0 79 o) (_ : KS [40, 41, 42, 57] gm gm_j81) (_ : CI sg gm_j81) (_ : LDI lx_j81 gm_j81) (_ : BLI sg gm_j81 b.toNatClampNeg) (_ : OVS b.toNatClampNeg gm gm_j81) (_ : x2_81.toInt = 0 ∨ (gm_j81 41 (3 * b.toNatClampNeg + 0)).toInt ≤ x4_10.toInt + 1) (_ : PHs gm ≤ PHs gm_j81) (H : Heap) (locs : List Loc) (ls : Array Slot), va_P (dC, dI) vwCl (cW ad cid a2_j81 lx_j81 sg gm_j81 lg) H → va_D A (cW ad cid a2_j81 lx_j81 sg gm_j81 lg) → va_S A s.heap H locs → lv_has ls 5 [(4, .int x4_10), (3, eV (ad 9) x3_10), (2, .int x2_81), (0, eV (ad 10) b), (1, eV (ad 9) o)] → W p l e (headSpec wm_X1_overlayInner ({ frames := 12, cells := 182881, slots := 731647, locals := 290 })).room s m ([eV (ad 10) b, eV (ad 9) o] : List Value).toArray below meth c H locs (gc gm gm_j81 0) (gs gm gm_j81 0) (vx_MQ below (cQg dC dI ad cid (fun v u => v = none ∧ ∃ (a22 : Nat → Nat) (lx2 : List Nat), ∃ (sg2 : Nat → Int32) (gm2 : Nat → Nat → Int32) (lg2 : Nat → Nat → Int64), u = (a22, lx2, sg2, gm2, lg2) ∧ CI sg2 gm2 ∧ KS [] sg sg2 ∧ KS [40, 41, 42, 57] gm gm2 ∧ KS [] lg lg2 ∧ (LDI lx2 gm2) ∧ (BLI sg gm2 b.toNatClampNeg) ∧ (OVS b.toNatClampNeg gm gm2)) 0 gm A) (cXg dC dI ad cid (fun _ _ => False) 0 gm A) ([eV (ad 10) b, eV (ad 9) o] : List Value).toArray s 182881 731647 A) (F0 m 81 ls []) := by
        intro a2_j81 lx_j81 gm_j81 x2_81 hsx4_81 hsx3_81 hx2_81 hsx0_81 hsx1_81 hkg_j81 hI_j81 hLDm hBLm hOVm hszm hm_j81 H locs ls hP hD hS hl
        refine ec_aload_n hx hb dX1_overlayInner_81 rfl (lv_at hl 1 rfl) ?_
        refine cr_get (t := 9) (j := 7) (C := RX3) (T := TX3) (N := 21) (v := eV (ad 9) (gm_j81 17 x3_10.toNatClampNeg)) hx hb htb inX3 hown hK hP hsx3_81 (by decide) (by decide) (by decide) rfl (by decide) (htb _ kw_745) rfl dX1_overlayInner_82 ?_
        obtain ⟨z_1, ez_1⟩ : ∃ z : Int32, z = (gm_j81 17 x3_10.toNatClampNeg) := ⟨_, rfl⟩
        refine W.eq (g2 := F0 m 85 ls [eV (ad 9) z_1]) (by rw [ez_1]) ?_
        have hz_1 : iv (-1) 79 z_1 := iv_of ez_1 (CI_a hI_j81 17 hsx3_81 (by decide))
        have ez_1 := ez_1.trans (congrFun (hkg_j81 17 (by decide)) _)
        refine ec_astore_n (i := 3) (lv' := [(3, eV (ad 9) z_1), (4, .int x4_10), (2, .int x2_81), (0, eV (ad 10) b), (1, eV (ad 9) o)]) hx hb dX1_overlayInner_85 rfl hl (by decide) rfl (fun ls hl => ?_)
        obtain ⟨z_2, ez_2⟩ : ∃ z : Int32, z = x4_10 + 1 := ⟨_, rfl⟩
        have hz_2 : iv 1 80 z_2 := iv_of ez_2 (iv_add hsx4_81 (iv_k (by decide) : iv 1 1 1) (by decide))
        have tz_2 : z_2.toInt = x4_10.toInt + 1 := by rw [ez_2]; exact iv_addE hsx4_81 (iv_k (by decide) : iv 1 1 1) (by decide)
        refine lv_iinc (v := z_2) (lv' := [(4, .int z_2), (3, eV (ad 9) z_1), (2, .int x2_81), (0, eV (ad 10) b), (1, eV (ad 9) o)]) hx hb dX1_overlayInner_86 hl (k := 1) rfl ez_2.symm (by decide) (by simp [List.filter, eV_cat, cat_i, cat_l]) (fun ls hl => ?_)
        refine lv_goto (tgt := 10) hx hb dX1_overlayInner_89 (by decide) ?_
        exact ih10 _ (by rw [← hn10]; exact (iv_meas tz_2 hsx4_81 (by decide))) a2_j81 lx_j81 gm_j81 z_2 z_1 x2_81 rfl (iv_w hz_2 (by decide)) hz_1 hx2_81 hsx0_81 hsx1_81 (KS_tr (L := [40, 41, 42, 57]) KS_rf hkg_j81 (by decide)) hI_j81 ((hLDm)) ((hBLm)) ((hOVm)) ((by rw [ez_1]; exact (hLK _ (lt_cl hsx3_81 (show iv 0 80 (sg 4) from CI_s hI 4) (by decide) (by decide) hltj)).2.2.1)) ((by rcases hszm with q9 | q9; (exact Or.inl q9); (exact Or.inr (by have := i32_0; have := i32_1; have := i32_2; have := i32_m1; have := (hsx0_81).1; have := (hsx0_81).2; have := (hsx1_81).1; have := (hsx1_81).2; have := (hsx4_81).1; have := (hsx4_81).2; have := (hsx3_81).1; have := (hsx3_81).2; have := (hx2_10).1; have := (hx2_10).2; have := (hx2_81).1; have := (hx2_81).2; have := (hz_1).1; have := (hz_1).2; have := (hz_2).1; have := (hz_2).2; omega)))) hm_j81 _ _ _ hP hD hS (lv_sub hl [0, 1, 2, 3, 4] rfl)
      have hj42 : ∀ (a2_j42 : Nat → Nat) (lx_j42 : List Nat) (gm_j42 : Nat → Nat → Int32) (_ : iv 0 79 x4_10) (_ : iv 0 79 x3_10) (_ : iv 0 1 x2_10) (_ : iv 0 79 b) (_ : iv 0 79 o) (_ : KS [40, 41, 42, 57] gm gm_j42) (_ : CI sg gm_j42) (_ : LDI lx_j42 gm_j42) (_ : BLI sg gm_j42 b.toNatClampNeg) (_ : OVS b.toNatClampNeg gm gm_j42) (_ : (gm 14 x3_10.toNatClampNeg).toInt = 3) (_ : (gm_j42 41 (3 * b.toNatClampNeg + 0)).toInt ≤ x4_10.toInt) (_ : PHs gm ≤ PHs gm_j42) (H : Heap) (locs : List Loc) (ls : Array Slot), va_P (dC, dI) vwCl (cW ad cid a2_j42 lx_j42 sg gm_j42 lg) H → va_D A (cW ad cid a2_j42 lx_j42 sg gm_j42 lg) → va_S A s.heap H locs → lv_has ls 5 [(4, .int x4_10), (3, eV (ad 9) x3_10), (2, .int x2_10), (0, eV (ad 10) b), (1, eV (ad 9) o)] → W p l e (headSpec wm_X1_overlayInner ({ frames := 12, cells := 182881, slots := 731647, locals := 290 })).room s m ([eV (ad 10) b, eV (ad 9) o] : List Value).toArray below meth c H locs (gc gm gm_j42 0) (gs gm gm_j42 0) (vx_MQ below (cQg dC dI ad cid (fun v u => v = none ∧ ∃ (a22 : Nat → Nat) (lx2 : List Nat), ∃ (sg2 : Nat → Int32) (gm2 : Nat → Nat → Int32) (lg2 : Nat → Nat → Int64), u = (a22, lx2, sg2, gm2, lg2) ∧ CI sg2 gm2 ∧ KS [] sg sg2 ∧ KS [40, 41, 42, 57] gm gm2 ∧ KS [] lg lg2 ∧ (LDI lx2 gm2) ∧ (BLI sg gm2 b.toNatClampNeg) ∧ (OVS b.toNatClampNeg gm gm2)) 0 gm A) (cXg dC dI ad cid (fun _ _ => False) 0 gm A) ([eV (ad 10) b, eV (ad 9) o] : List Value).toArray s 182881 731647 A) (F0 m 42 ls []) := by
        intro a2_j42 lx_j42 gm_j42 hsx4_42 hsx3_42 hsx2_42 hsx0_42 hsx1_42 hkg_j42 hI_j42 hLDk hBLk hOVk hw42 hsz42 hm_j42 H locs ls hP hD hS hl
        refine lv_iconst (v := 1) hx hb dX1_overlayInner_42 (by decide) ?_
        refine lv_istore_n (i := 2) (lv' := [(2, .int 1), (4, .int x4_10), (3, eV (ad 9) x3_10), (0, eV (ad 10) b), (1, eV (ad 9) o)]) hx hb dX1_overlayInner_43 rfl hl (by decide) (by simp [List.filter, eV_cat, cat_i, cat_l]) (fun ls hl => ?_)
        refine ec_aload_n hx hb dX1_overlayInner_44 rfl (lv_at hl 3 rfl) ?_
        obtain ⟨q_3, hq_3, nq_3, tq_3⟩ := ix_mk (3 * b.toNatClampNeg + 0) 239 (by have q1 := iv_cl hsx0_42 (by decide); have q2 := (hsx0_42).2; omega) (by decide)
        refine cr_get (t := 10) (j := 1) (C := RX1) (T := TX1) (N := 19) (v := eV (ad 11) q_3) hx hb htb inX1 hown hK hP hsx0_42 (by decide) (by decide) (by decide) rfl (by decide) (htb _ kw_99) (cV_c rfl hq_3.1 nq_3) dX1_overlayInner_45 ?_
        refine ec_aload_n hx hb dX1_overlayInner_48 rfl (lv_at hl 2 rfl) ?_
        refine cm_callGV (t := 11) (C := RJx4a65c) (T := TJx4a65c) (N := 3) (rest := []) (as := [eV (ad 9) x3_10]) ⟨hx, hb, hml, hown, htb⟩ (d_ladd l dC dI ad cid a2_j42 lx_j42 sg gm_j42 lg q_3 x3_10 hI_j42 hq_3 hsx3_42 (hLDk) (by rw [show q_3.toNatClampNeg = 3 * b.toNatClampNeg + 0 from nq_3]; have q3 := hsz42; have := i32_0; have := i32_1; have := i32_2; have := i32_m1; have := (hsx0_42).1; have := (hsx0_42).2; have := (hsx1_42).1; have := (hsx1_42).2; have := (hsx4_42).1; have := (hsx4_42).2; have := (hsx3_42).1; have := (hsx3_42).2; have := (hsx2_42).1; have := (hsx2_42).2; have := (hq_3).1; have := (hq_3).2; omega)) (cwV 1 htb (gd_V kw_746 kw_747 kw_748 kw_98 kw_1500) rfl rfl rfl (by decide +kernel) ⟨Nat.le_of_ble_eq_true rfl, Nat.le_of_ble_eq_true rfl⟩) hq_3 (by decide) (by decide) rfl rfl hl.1 rfl (Nat.le_trans cs_n (by decide)) dX1_overlayInner_49 ⟨Nat.le_trans (gc_le hI_j42) (Nat.le_of_ble_eq_true rfl), Nat.le_trans (gs_le hI_j42) (Nat.le_of_ble_eq_true rfl)⟩ hK hP hD hS hA hG (fun E ce q9 u_5 H locs hw hmu hP hD hS hce hcv hcl => ?_) (fun v9 u_5 H locs hw hmu hP hD hS => ?_)
        · exact hw.elim
        obtain ⟨r_4, rfl, a2v_6, lxv_6, sgv_6, gmv_6, lgv_6, rfl, hIv_6, ksv_6, kgv_6, klv_6, hr_4, f41_r_4, f57e_r_4, f57_r_4, f57n_r_4, fLD_r_4⟩ := hw
        obtain rfl := KS_nil ksv_6
        obtain rfl := KS_nil klv_6
        have hP : va_P (dC, dI) vwCl (cW ad cid a2v_6 lxv_6 sg gmv_6 lg) H := hP
        have hD : va_D A (cW ad cid a2v_6 lxv_6 sg gmv_6 lg) := hD
        have hmu : PHs gm_j42 ≤ PHs gmv_6 := hmu
        rw [show (gc gm gm_j42 0 + gc gm_j42 gmv_6 0) = gc gm gmv_6 0 from gc_t hm_j42 hmu, show (gs gm gm_j42 0 + gs gm_j42 gmv_6 0) = gs gm gmv_6 0 from gs_t hm_j42 hmu]
        have hm_7 : PHs gm ≤ PHs gmv_6 := Nat.le_trans hm_j42 hmu
        refine W.eq (g2 := F0 m 52 ls [.int r_4]) rfl ?_
        have ny_49r_4 : q_3.toNatClampNeg = 3 * b.toNatClampNeg + 0 := nq_3
        rw [ny_49r_4] at f41_r_4 f57_r_4 f57e_r_4 f57n_r_4
        have hSM_49r_4 := LSM_add f41_r_4 f57n_r_4
        have hBL_49r_4 : BLI sg gmv_6 b.toNatClampNeg := BLI_0 hI_j42 (show b.toNatClampNeg < 80 from by have := iv_cl hvb (by decide); have := hvb.2; omega) hBLk hSM_49r_4 (kgv_6 14 (by decide)) (kgv_6 22 (by decide)) (LWD_in hBLk.1 (LIN_add (show iv 0 80 _ from CI_n hI_j42 41 (show 3 * b.toNatClampNeg + 0 < crLen 41 from by have := (show b.toNatClampNeg < 80 from by have := iv_cl hvb (by decide); have := hvb.2; omega); show _ < 240; omega)).1 f41_r_4 f57e_r_4 f57_r_4) (kgv_6 14 (by decide)) (by rw [(show gm_j42 14 = gm 14 from (hkg_j42 14 (by decide)))]; exact hw42) hltj)
        have hOV_49r_4 : OVS b.toNatClampNeg gm gmv_6 := OVS_s hOVk hSM_49r_4 (Or.inl rfl)
        refine lv_pop hx hb dX1_overlayInner_52 rfl ?_
        refine lv_goto (tgt := 81) hx hb dX1_overlayInner_53 (by decide) ?_
        exact hj81 a2v_6 lxv_6 gmv_6 1 hsx4_42 hsx3_42 (iv_w (iv_k (by decide) : iv 1 1 1) (by decide)) hsx0_42 hsx1_42 (KS_tr (L := [40, 41, 42, 57]) (KS_tr (L := [40, 41, 42, 57]) KS_rf hkg_j42 (by decide)) kgv_6 (by decide)) hIv_6 ((fLD_r_4)) ((hBL_49r_4)) ((hOV_49r_4)) (Or.inr (by obtain ⟨z9, q1, q2⟩ := f41_r_4; rw [show gmv_6 41 = _ from q1, upd_at]; have q3 := hsz42; have := i32_0; have := i32_1; have := i32_2; have := i32_m1; have := (hsx0_42).1; have := (hsx0_42).2; have := (hsx1_42).1; have := (hsx1_42).2; have := (hsx4_42).1; have := (hsx4_42).2; have := (hsx3_42).1; have := (hsx3_42).2; have := (hsx2_42).1; have := (hsx2_42).2; have := (hq_3).1; have := (hq_3).2; have := (hr_4).1; have := (hr_4).2; omega)) hm_7 _ _ _ hP hD hS (lv_sub hl [1, 2, 0, 3, 4] rfl)
      refine lv_iload hx hb dX1_overlayInner_10 (lv_at hl 0 rfl) ?_
      refine lv_bipush (v := 80) hx hb dX1_overlayInner_12 (by decide) ?_
      refine lv_icmp_ge (tgt := 92) hx hb dX1_overlayInner_14 (by decide) (fun c_8 => ?_) (fun c_8 => ?_)
      · have h_9 : iv 80 80 x4_10 := iv_leR c_8 (iv_k (by decide) : iv 80 80 80) hx4_10 (by decide)
        exact hj92 a2_j10 lx_j10 gm_j10 x4_10 x3_10 x2_10 (iv_w h_9 (by decide)) hx3_10 hx2_10 hsx0_10 hsx1_10 (KS_tr (L := [40, 41, 42, 57]) KS_rf hkg_j10 (by decide)) hI_j10 ((hLDj)) ((hBLj)) ((hOVj)) hm_j10 _ _ _ hP hD hS (lv_sub hl [0, 1, 2, 3, 4] rfl)
      · have h_10 : iv 0 79 x4_10 := iv_ltL (i32_lt c_8) hx4_10 (iv_k (by decide) : iv 80 80 80) (by decide)
        refine ec_aload_n hx hb dX1_overlayInner_17 rfl (lv_at hl 1 rfl) ?_
        refine ec_ifnull (tgt := 92) hx hb dX1_overlayInner_18 (by decide) (fun c_11 => ?_) (fun c_11 => ?_)
        · have h_12 : iv (-1) (-1) x3_10 := ⟨(hx3_10).1, by omega⟩
          exact hj92 a2_j10 lx_j10 gm_j10 x4_10 x3_10 x2_10 (iv_w h_10 (by decide)) (iv_w h_12 (by decide)) hx2_10 hsx0_10 hsx1_10 (KS_tr (L := [40, 41, 42, 57]) KS_rf hkg_j10 (by decide)) hI_j10 ((hLDj)) ((hBLj)) ((hOVj)) hm_j10 _ _ _ hP hD hS (lv_sub hl [0, 1, 2, 3, 4] rfl)
        · have h_13 : iv 0 79 x3_10 := ⟨c_11, (hx3_10).2⟩
          refine ec_aload_n hx hb dX1_overlayInner_21 rfl (lv_at hl 1 rfl) ?_
          refine cr_get (t := 9) (j := 4) (C := RX3) (T := TX3) (N := 21) (v := eV (ad 33) (gm_j10 14 x3_10.toNatClampNeg)) hx hb htb inX3 hown hK hP h_13 (by decide) (by decide) (by decide) rfl (by decide) (htb _ kw_742) rfl dX1_overlayInner_22 ?_
          obtain ⟨z_14, ez_14⟩ : ∃ z : Int32, z = (gm_j10 14 x3_10.toNatClampNeg) := ⟨_, rfl⟩
          refine W.eq (g2 := F0 m 25 ls [eV (ad 33) z_14]) (by rw [ez_14]) ?_
          have hz_14 : iv (-1) 33 z_14 := iv_of ez_14 (CI_a hI_j10 14 h_13 (by decide))
          have ez_14 := ez_14.trans (congrFun (hkg_j10 14 (by decide)) _)
          refine cw_word (k := 3) (kx := 3) hx hb hG hS (by decide) rfl ⟨by decide, by decide⟩ hown (htb _ kw_743) dX1_overlayInner_25 ?_
          refine ec_acmp_ne (tgt := 56) hx hb dX1_overlayInner_28 (by decide) (fun c_15 => ?_) (fun c_15 => ?_)
          · have wc_15 : ¬ z_14.toInt = (3 : Int) := fun q9 => c_15 (congrArg (er (ad 33)) (Int32.toInt_inj.mp q9))
            refine ec_aload_n hx hb dX1_overlayInner_56 rfl (lv_at hl 1 rfl) ?_
            refine cr_get (t := 9) (j := 4) (C := RX3) (T := TX3) (N := 21) (v := eV (ad 33) (gm_j10 14 x3_10.toNatClampNeg)) hx hb htb inX3 hown hK hP h_13 (by decide) (by decide) (by decide) rfl (by decide) (htb _ kw_742) rfl dX1_overlayInner_57 ?_
            refine W.eq (g2 := F0 m 60 ls [eV (ad 33) z_14]) (by rw [show (gm_j10 14 x3_10.toNatClampNeg) = z_14 from (Eq.trans (congrFun (hkg_j10 14 (by decide)) _) ez_14.symm)]) ?_
            refine cw_word (k := 4) (kx := 4) hx hb hG hS (by decide) rfl ⟨by decide, by decide⟩ hown (htb _ kw_744) dX1_overlayInner_60 ?_
            refine ec_acmp_ne (tgt := 73) hx hb dX1_overlayInner_63 (by decide) (fun c_16 => ?_) (fun c_16 => ?_)
            · have wc_16 : ¬ z_14.toInt = (4 : Int) := fun q9 => c_16 (congrArg (er (ad 33)) (Int32.toInt_inj.mp q9))
              refine ec_aload_n hx hb dX1_overlayInner_73 rfl (lv_at hl 3 rfl) ?_
              obtain ⟨q_17, hq_17, nq_17, tq_17⟩ := ix_mk (3 * b.toNatClampNeg + 2) 239 (by have q1 := iv_cl hsx0_10 (by decide); have q2 := (hsx0_10).2; omega) (by decide)
              refine cr_get (t := 10) (j := 3) (C := RX1) (T := TX1) (N := 19) (v := eV (ad 11) q_17) hx hb htb inX1 hown hK hP hsx0_10 (by decide) (by decide) (by decide) rfl (by decide) (htb _ kw_101) (cV_c rfl hq_17.1 nq_17) dX1_overlayInner_74 ?_
              refine ec_aload_n hx hb dX1_overlayInner_77 rfl (lv_at hl 1 rfl) ?_
              refine cm_callGS (rest := []) (as := [eV (ad 11) q_17, eV (ad 9) x3_10]) ⟨hx, hb, hml, hown, htb⟩ (d_putNamed l dC dI ad cid a2_j10 lx_j10 sg gm_j10 lg q_17 x3_10 hI_j10 hq_17 h_13 (hLDj) (by rw [show q_17.toNatClampNeg = 3 * b.toNatClampNeg + 2 from nq_17]; exact hBLj.2.2.2)) (va_cwS 2 htb (gd_S kw_786 kw_787 kw_90 kw_1510) rfl rfl rfl (by decide +kernel) ⟨Nat.le_of_ble_eq_true rfl, Nat.le_of_ble_eq_true rfl⟩)  rfl hl.1 rfl (Nat.le_trans cs_n (by decide)) dX1_overlayInner_78 ⟨Nat.le_trans (gc_le hI_j10) (Nat.le_of_ble_eq_true rfl), Nat.le_trans (gs_le hI_j10) (Nat.le_of_ble_eq_true rfl)⟩ hK hP hD hS hA hG (fun E ce q9 u_19 H locs hw hmu hP hD hS hce hcv hcl => ?_) (fun v9 u_19 H locs hw hmu hP hD hS => ?_)
              · exact hw.elim
              obtain ⟨rfl, a2v_20, lxv_20, sgv_20, gmv_20, lgv_20, rfl, hIv_20, ksv_20, kgv_20, klv_20, fP_r_18⟩ := hw
              obtain rfl := KS_nil ksv_20
              obtain rfl := KS_nil klv_20
              have hP : va_P (dC, dI) vwCl (cW ad cid a2v_20 lxv_20 sg gmv_20 lg) H := hP
              have hD : va_D A (cW ad cid a2v_20 lxv_20 sg gmv_20 lg) := hD
              have hmu : PHs gm_j10 ≤ PHs gmv_20 := hmu
              rw [show (gc gm gm_j10 0 + gc gm_j10 gmv_20 0) = gc gm gmv_20 0 from gc_t hm_j10 hmu, show (gs gm gm_j10 0 + gs gm_j10 gmv_20 0) = gs gm gmv_20 0 from gs_t hm_j10 hmu]
              have hm_21 : PHs gm ≤ PHs gmv_20 := Nat.le_trans hm_j10 hmu
              refine W.eq (g2 := F0 m 81 ls []) rfl ?_
              have ny_78r_18 : q_17.toNatClampNeg = 3 * b.toNatClampNeg + 2 := nq_17
              rw [ny_78r_18] at fP_r_18
              have hBL_78r_18 : BLI sg gmv_20 b.toNatClampNeg := BLI_2 hI_j10 (show b.toNatClampNeg < 80 from by have := iv_cl hvb (by decide); have := hvb.2; omega) hBLj fP_r_18 (kgv_20 14 (by decide)) (kgv_20 22 (by decide))
              have hSM_78r_18 := fP_r_18.2.2.1
              have hOV_78r_18 : OVS b.toNatClampNeg gm gmv_20 := OVS_s hOVj hSM_78r_18 (Or.inr (Or.inr rfl))
              exact hj81 a2v_20 lxv_20 gmv_20 x2_10 h_10 h_13 hx2_10 hsx0_10 hsx1_10 (KS_tr (L := [40, 41, 42, 57]) (KS_tr (L := [40, 41, 42, 57]) KS_rf hkg_j10 (by decide)) kgv_20 (by decide)) hIv_20 ((fP_r_18.1)) ((hBL_78r_18)) ((hOV_78r_18)) ((by rw [(fP_r_18.2.2.1 (3 * b.toNatClampNeg + 0) (by omega)).1]; rcases hszj with q9 | q9; (exact Or.inl q9); (exact Or.inr (by omega)))) hm_21 _ _ _ hP hD hS (lv_sub hl [0, 1, 2, 3, 4] rfl)
            · have wc_16 : z_14.toInt = (4 : Int) := er_wd hG hz_14 (iv_w (iv_k (by decide) : iv 4 4 4) (by decide)) c_16
              refine ec_aload_n hx hb dX1_overlayInner_66 rfl (lv_at hl 3 rfl) ?_
              obtain ⟨q_22, hq_22, nq_22, tq_22⟩ := ix_mk (3 * b.toNatClampNeg + 1) 239 (by have q1 := iv_cl hsx0_10 (by decide); have q2 := (hsx0_10).2; omega) (by decide)
              refine cr_get (t := 10) (j := 2) (C := RX1) (T := TX1) (N := 19) (v := eV (ad 11) q_22) hx hb htb inX1 hown hK hP hsx0_10 (by decide) (by decide) (by decide) rfl (by decide) (htb _ kw_100) (cV_c rfl hq_22.1 nq_22) dX1_overlayInner_67 ?_
              refine lv_goto (tgt := 77) hx hb dX1_overlayInner_70 (by decide) ?_
              refine ec_aload_n hx hb dX1_overlayInner_77 rfl (lv_at hl 1 rfl) ?_
              refine cm_callGS (rest := []) (as := [eV (ad 11) q_22, eV (ad 9) x3_10]) ⟨hx, hb, hml, hown, htb⟩ (d_putNamed l dC dI ad cid a2_j10 lx_j10 sg gm_j10 lg q_22 x3_10 hI_j10 hq_22 h_13 (hLDj) (by rw [show q_22.toNatClampNeg = 3 * b.toNatClampNeg + 1 from nq_22]; exact hBLj.2.2.1)) (va_cwS 2 htb (gd_S kw_786 kw_787 kw_90 kw_1510) rfl rfl rfl (by decide +kernel) ⟨Nat.le_of_ble_eq_true rfl, Nat.le_of_ble_eq_true rfl⟩)  rfl hl.1 rfl (Nat.le_trans cs_n (by decide)) dX1_overlayInner_78 ⟨Nat.le_trans (gc_le hI_j10) (Nat.le_of_ble_eq_true rfl), Nat.le_trans (gs_le hI_j10) (Nat.le_of_ble_eq_true rfl)⟩ hK hP hD hS hA hG (fun E ce q9 u_24 H locs hw hmu hP hD hS hce hcv hcl => ?_) (fun v9 u_24 H locs hw hmu hP hD hS => ?_)
              · exact hw.elim
              obtain ⟨rfl, a2v_25, lxv_25, sgv_25, gmv_25, lgv_25, rfl, hIv_25, ksv_25, kgv_25, klv_25, fP_r_23⟩ := hw
              obtain rfl := KS_nil ksv_25
              obtain rfl := KS_nil klv_25
              have hP : va_P (dC, dI) vwCl (cW ad cid a2v_25 lxv_25 sg gmv_25 lg) H := hP
              have hD : va_D A (cW ad cid a2v_25 lxv_25 sg gmv_25 lg) := hD
              have hmu : PHs gm_j10 ≤ PHs gmv_25 := hmu
              rw [show (gc gm gm_j10 0 + gc gm_j10 gmv_25 0) = gc gm gmv_25 0 from gc_t hm_j10 hmu, show (gs gm gm_j10 0 + gs gm_j10 gmv_25 0) = gs gm gmv_25 0 from gs_t hm_j10 hmu]
              have hm_26 : PHs gm ≤ PHs gmv_25 := Nat.le_trans hm_j10 hmu
              refine W.eq (g2 := F0 m 81 ls []) rfl ?_
              have ny_78r_23 : q_22.toNatClampNeg = 3 * b.toNatClampNeg + 1 := nq_22
              rw [ny_78r_23] at fP_r_23
              have hBL_78r_23 : BLI sg gmv_25 b.toNatClampNeg := BLI_1 hI_j10 (show b.toNatClampNeg < 80 from by have := iv_cl hvb (by decide); have := hvb.2; omega) hBLj fP_r_23 (kgv_25 14 (by decide)) (kgv_25 22 (by decide)) (by rw [(show gm_j10 14 = gm 14 from (hkg_j10 14 (by decide)))]; exact (show (gm 14 x3_10.toNatClampNeg).toInt = 4 from by rw [← ez_14]; exact wc_16)) hltj
              have hSM_78r_23 := fP_r_23.2.2.1
              have hOV_78r_23 : OVS b.toNatClampNeg gm gmv_25 := OVS_s hOVj hSM_78r_23 (Or.inr (Or.inl rfl))
              exact hj81 a2v_25 lxv_25 gmv_25 x2_10 h_10 h_13 hx2_10 hsx0_10 hsx1_10 (KS_tr (L := [40, 41, 42, 57]) (KS_tr (L := [40, 41, 42, 57]) KS_rf hkg_j10 (by decide)) kgv_25 (by decide)) hIv_25 ((fP_r_23.1)) ((hBL_78r_23)) ((hOV_78r_23)) ((by rw [(fP_r_23.2.2.1 (3 * b.toNatClampNeg + 0) (by omega)).1]; rcases hszj with q9 | q9; (exact Or.inl q9); (exact Or.inr (by omega)))) hm_26 _ _ _ hP hD hS (lv_sub hl [0, 1, 2, 3, 4] rfl)
          · have wc_15 : z_14.toInt = (3 : Int) := er_wd hG hz_14 (iv_w (iv_k (by decide) : iv 3 3 3) (by decide)) c_15
            refine lv_iload_n hx hb dX1_overlayInner_31 rfl (lv_at hl 2 rfl) ?_
            refine lv_if_ne (tgt := 42) hx hb dX1_overlayInner_32 (by decide) (fun c_27 => ?_) (fun c_27 => ?_)
            · have h_28 : iv 1 1 x2_10 := iv_neL c_27 hx2_10 (by decide)
              exact hj42 a2_j10 lx_j10 gm_j10 h_10 h_13 (iv_w h_28 (by decide)) hsx0_10 hsx1_10 (KS_tr (L := [40, 41, 42, 57]) KS_rf hkg_j10 (by decide)) hI_j10 ((hLDj)) ((hBLj)) ((hOVj)) ((by rw [← ez_14]; exact wc_15)) ((hszj.resolve_left (by have := i32_0; have := i32_1; have := i32_2; have := i32_m1; have := (hsx0_10).1; have := (hsx0_10).2; have := (hsx1_10).1; have := (hsx1_10).2; have := (h_10).1; have := (h_10).2; have := (h_13).1; have := (h_13).2; have := (h_28).1; have := (h_28).2; have := (hz_14).1; have := (hz_14).2; omega))) hm_j10 _ _ _ hP hD hS (lv_sub hl [0, 1, 2, 3, 4] rfl)
            · have h_29 : iv 0 0 x2_10 := iv_eq c_27 hx2_10 (iv_k (by decide) : iv 0 0 0) (by decide)
              refine ec_aload_n hx hb dX1_overlayInner_35 rfl (lv_at hl 3 rfl) ?_
              obtain ⟨q_30, hq_30, nq_30, tq_30⟩ := ix_mk (3 * b.toNatClampNeg + 0) 239 (by have q1 := iv_cl hsx0_10 (by decide); have q2 := (hsx0_10).2; omega) (by decide)
              refine cr_get (t := 10) (j := 1) (C := RX1) (T := TX1) (N := 19) (v := eV (ad 11) q_30) hx hb htb inX1 hown hK hP hsx0_10 (by decide) (by decide) (by decide) rfl (by decide) (htb _ kw_99) (cV_c rfl hq_30.1 nq_30) dX1_overlayInner_36 ?_
              refine cm_callTV (t := 11) (C := RJx4a65c) (T := TJx4a65c) (N := 3) (rest := []) (as := []) ⟨hx, hb, hml, hown, htb⟩ (d_lclear l dC dI ad cid a2_j10 lx_j10 sg gm_j10 lg q_30 hI_j10 hq_30 (hLDj)) (cwV 0 htb (gd_V kw_673 kw_674 kw_675 kw_98 kw_1487) rfl rfl rfl (by decide +kernel) ⟨Nat.le_of_ble_eq_true rfl, Nat.le_of_ble_eq_true rfl⟩) hq_30 (by decide) (by decide) rfl rfl hl.1 rfl (Nat.le_trans cs_n (by decide)) dX1_overlayInner_39 ⟨Nat.le_trans (gc_le hI_j10) (Nat.le_of_ble_eq_true rfl), Nat.le_trans (gs_le hI_j10) (Nat.le_of_ble_eq_true rfl)⟩ hK hP hD hS hA hG (fun E ce q9 u_32 H locs hw hP hD hS hce hcv hcl => ?_) (fun v9 u_32 H locs hw hP hD hS => ?_)
              · exact hw.elim
              obtain ⟨rfl, sgv_33, gmv_33, lgv_33, rfl, hIv_33, ksv_33, kgv_33, klv_33, f41_r_31, f57_r_31, fLD_r_31⟩ := hw
              obtain rfl := KS_nil ksv_33
              obtain rfl := KS_nil klv_33
              have hP : va_P (dC, dI) vwCl (cW ad cid a2_j10 lx_j10 sg gmv_33 lg) H := hP
              have hD : va_D A (cW ad cid a2_j10 lx_j10 sg gmv_33 lg) := hD
              refine W.eq (g2 := F0 m 42 ls []) rfl ?_
              have ny_39r_31 : q_30.toNatClampNeg = 3 * b.toNatClampNeg + 0 := nq_30
              rw [ny_39r_31] at f41_r_31 f57_r_31
              have hSM_39r_31 := LSM_clr f41_r_31 f57_r_31
              have hZ_39r_31 : gmv_33 41 (3 * b.toNatClampNeg + 0) = 0 := by rw [f41_r_31, upd_at]
              have hBL_39r_31 : BLI sg gmv_33 b.toNatClampNeg := BLI_0 hI_j10 (show b.toNatClampNeg < 80 from by have := iv_cl hvb (by decide); have := hvb.2; omega) hBLj hSM_39r_31 (kgv_33 14 (by decide)) (kgv_33 22 (by decide)) (LWD_0 hZ_39r_31)
              have hOV_39r_31 : OVS b.toNatClampNeg gm gmv_33 := OVS_s hOVj hSM_39r_31 (Or.inl rfl)
              refine W.widen (k := gc gm gmv_33 0) (n := gs gm gmv_33 0) (gc_e (show gmv_33 42 = gm_j10 42 from (kgv_33 42 (by decide))) (by decide)) (gs_e (show gmv_33 42 = gm_j10 42 from (kgv_33 42 (by decide))) (by decide)) ?_
              have hm_34 : PHs gm ≤ PHs gmv_33 := by rw [PHs_e (show gmv_33 42 = gm_j10 42 from (kgv_33 42 (by decide)))]; exact hm_j10
              exact hj42 a2_j10 lx_j10 gmv_33 h_10 h_13 (iv_w h_29 (by decide)) hsx0_10 hsx1_10 (KS_tr (L := [40, 41, 42, 57]) (KS_tr (L := [40, 41, 42, 57]) KS_rf hkg_j10 (by decide)) kgv_33 (by decide)) hIv_33 ((fLD_r_31)) ((hBL_39r_31)) ((hOV_39r_31)) ((by rw [← ez_14]; exact wc_15)) ((by rw [hZ_39r_31]; have := i32_0; have := i32_1; have := i32_2; have := i32_m1; have := (hsx0_10).1; have := (hsx0_10).2; have := (hsx1_10).1; have := (hsx1_10).2; have := (h_10).1; have := (h_10).2; have := (h_13).1; have := (h_13).2; have := (h_29).1; have := (h_29).2; have := (hz_14).1; have := (hz_14).2; have := (hq_30).1; have := (hq_30).2; omega)) hm_34 _ _ _ hP hD hS (lv_sub hl [0, 1, 2, 3, 4] rfl)
  refine lv_iconst (v := 0) hx hb dX1_overlayInner_0 (by decide) ?_
  refine lv_istore_n (i := 2) (lv' := [(2, .int 0), (0, eV (ad 10) b), (1, eV (ad 9) o)]) hx hb dX1_overlayInner_1 rfl hl (by decide) (by simp [List.filter, eV_cat, cat_i, cat_l]) (fun ls hl => ?_)
  refine ec_aload_n hx hb dX1_overlayInner_2 rfl (lv_at hl 2 rfl) ?_
  refine cr_get (t := 9) (j := 6) (C := RX3) (T := TX3) (N := 21) (v := eV (ad 9) (gm 16 o.toNatClampNeg)) hx hb htb inX3 hown hK hP hvo (by decide) (by decide) (by decide) rfl (by decide) (htb _ kw_741) rfl dX1_overlayInner_3 ?_
  obtain ⟨z_35, ez_35⟩ : ∃ z : Int32, z = (gm 16 o.toNatClampNeg) := ⟨_, rfl⟩
  refine W.eq (g2 := F0 m 6 ls [eV (ad 9) z_35]) (by rw [ez_35]) ?_
  have hz_35 : iv (-1) 79 z_35 := iv_of ez_35 (CI_a hI 16 hvo (by decide))
  refine ec_astore_n (i := 3) (lv' := [(3, eV (ad 9) z_35), (2, .int 0), (0, eV (ad 10) b), (1, eV (ad 9) o)]) hx hb dX1_overlayInner_6 rfl hl (by decide) rfl (fun ls hl => ?_)
  refine lv_iconst (v := 0) hx hb dX1_overlayInner_7 (by decide) ?_
  refine lv_istore (i := 4) (lv' := [(4, .int 0), (3, eV (ad 9) z_35), (2, .int 0), (0, eV (ad 10) b), (1, eV (ad 9) o)]) hx hb dX1_overlayInner_8 hl (by decide) (by simp [List.filter, eV_cat, cat_i, cat_l]) (fun ls hl => ?_)
  exact hj10 _ a2 lx gm 0 z_35 0 rfl (iv_w (iv_k (by decide) : iv 0 0 0) (by decide)) hz_35 (iv_w (iv_k (by decide) : iv 0 0 0) (by decide)) hvb hvo KS_rf hI ((hLD)) ((hBL)) ((OVS_rf)) ((by rw [ez_35]; exact (hLK _ (lt_cl hvo (show iv 0 80 (sg 4) from CI_s hI 4) (by decide) (by decide) how)).2.1)) (Or.inl rfl) (Nat.le_refl _) _ _ _ hP hD hS (lv_sub hl [0, 1, 2, 3, 4] rfl)
