/-- an element that an arg or a set holds: what it is, and that its bean has no id -/
def BOK (sg : Nat → Int32) (gm : Nat → Nat → Int32) (lg : Nat → Nat → Int64) (o : Nat) : Prop := 0 ≤ (gm 27 o).toInt → (gm 27 o).toInt < (sg 12).toInt ∧ lg 4 (gm 27 o).toNatClampNeg = 0
def CTO (sg : Nat → Int32) (gm : Nat → Nat → Int32) (lg : Nat → Nat → Int64) (o : Int32) : Prop := 0 ≤ o.toInt ∧ o.toInt < (sg 4).toInt ∧ ((gm 25 o.toNatClampNeg).toInt = 2 ∨ (6 ≤ (gm 25 o.toNatClampNeg).toInt ∧ (gm 25 o.toNatClampNeg).toInt ≤ 9)) ∧ ((gm 25 o.toNatClampNeg).toInt = 6 → (gm 14 o.toNatClampNeg).toInt = 6) ∧ BOK sg gm lg o.toNatClampNeg
theorem BOK_in {sg : Nat → Int32} {gm : Nat → Nat → Int32} {lg : Nat → Nat → Int64} {o : Nat} (h : STL sg gm lg o) (hs : SOK gm lg o) (hn : ¬ ISI gm o 0) : BOK sg gm lg o := fun h0 => by
  obtain ⟨-, -, -, -, h5⟩ := h
  rcases h5 with q | ⟨q1, q2, q3⟩
  · omega
  · exact ⟨q2, q3.resolve_right (hs.2.2.2 q1 hn)⟩
theorem isi_no {gm : Nat → Nat → Int32} {o : Nat} {w : Int} (hw : 0 ≤ (gm 15 o).toInt → (gm 14 (gm 15 o).toNatClampNeg).toInt = w) (h0 : ¬ w = 0) : ¬ ISI gm o 0 := fun q => by
  have h1 := hw q.1
  rw [q.2] at h1
  exact h0 (by rw [← h1]; decide)
/-- what an arg or a set holds is such an element -/
theorem CTO_h {sg : Nat → Int32} {gm : Nat → Nat → Int32} {lg : Nat → Nat → Int64} {h : Int32} (hI : CI sg gm) (hW : WRD sg gm lg) (h0 : 0 ≤ h.toInt) (h4 : h.toInt < (sg 4).toInt) (hw : (gm 14 h.toNatClampNeg).toInt = 3 ∨ (gm 14 h.toNatClampNeg).toInt = 4) : CTO sg gm lg (gm 26 h.toNatClampNeg) := by
  obtain ⟨hLK, hST, -, -⟩ := hW
  have i4 := (show iv 0 80 (sg 4) from CI_s hI 4)
  have i4a := i4.1
  have i4b := i4.2
  have k1 := cl_0 h0
  have k4 : (sg 4).toNatClampNeg = (sg 4).toInt.toNat := rfl
  obtain ⟨hs, -⟩ := hST h.toNatClampNeg (by omega)
  obtain ⟨s1, s2, s3, s4, s5⟩ := hs
  rcases s3 hw with ⟨q1, q2⟩ | ⟨q1, q2⟩
  · obtain ⟨l1, l2, l3, l4, l5⟩ := hLK h.toNatClampNeg (by omega)
    rw [q2]
    have kc := cl_0 q1
    have hout := l4 q1
    obtain ⟨t1, t2⟩ := hST (gm 16 h.toNatClampNeg).toNatClampNeg (by omega)
    have hw2 : (gm 14 (gm 15 (gm 16 h.toNatClampNeg).toNatClampNeg).toNatClampNeg) = gm 14 h.toNatClampNeg := by
      rw [show (gm 15 (gm 16 h.toNatClampNeg).toNatClampNeg).toNatClampNeg = h.toNatClampNeg from by
        have : (gm 15 (gm 16 h.toNatClampNeg).toNatClampNeg).toNatClampNeg = (gm 15 (gm 16 h.toNatClampNeg).toNatClampNeg).toInt.toNat := rfl
        omega]
    have hh := t2.2.1 (by omega) (by rw [hw2]; exact hw)
    have hk := t1.2.1 (by omega) (by omega)
    refine ⟨q1, l2, by rw [hk]; exact hh, fun q => by rw [hk] at q; exact q, BOK_in t1 t2 ?_⟩
    rcases hw with q | q
    · exact isi_no (w := 3) (fun _ => by rw [hw2]; exact q) (by decide)
    · exact isi_no (w := 4) (fun _ => by rw [hw2]; exact q) (by decide)
  · have e1 : gm 26 h.toNatClampNeg = h := Int32.toInt_inj.mp (by omega)
    rw [e1]
    refine ⟨h0, h4, by omega, fun q => by omega, fun q => ?_⟩
    rcases s5 with q5 | ⟨q5, -⟩
    · omega
    · omega
theorem CTO_k {sg sg2 : Nat → Int32} {gm gm2 : Nat → Nat → Int32} {lg lg2 : Nat → Nat → Int64} {o : Int32} (h : CTO sg gm lg o) (h4 : sg2 4 = sg 4) (h12 : sg2 12 = sg 12) (h14 : gm2 14 = gm 14) (h25 : gm2 25 = gm 25) (h27 : gm2 27 = gm 27) (hl : lg2 4 = lg 4) : CTO sg2 gm2 lg2 o := by
  unfold CTO BOK at *; rw [h4, h12, h14, h25, h27, hl]; exact h
/-- the items of a list -/
theorem BOK_it {sg : Nat → Int32} {gm : Nat → Nat → Int32} {lg : Nat → Nat → Int64} {o it : Int32} (hI : CI sg gm) (hW : WRD sg gm lg) (ho : 0 ≤ o.toInt) (h6 : (gm 14 o.toNatClampNeg).toInt = 6) (h0 : 0 ≤ it.toInt) (h4 : it.toInt < (sg 4).toInt) (hout : (gm 15 it.toNatClampNeg).toInt = o.toInt) : BOK sg gm lg it.toNatClampNeg := by
  obtain ⟨hLK, hST, -, -⟩ := hW
  have k1 := cl_0 h0
  have k4 : (sg 4).toNatClampNeg = (sg 4).toInt.toNat := rfl
  obtain ⟨t1, t2⟩ := hST it.toNatClampNeg (by omega)
  refine BOK_in t1 t2 (isi_no (w := 6) (fun _ => ?_) (by decide))
  rw [show gm 15 it.toNatClampNeg = o from Int32.toInt_inj.mp hout]
  exact h6
/-- the args' worth is worked out -/
def WKD (gm : Nat → Nat → Int32) (q d n : Nat) : Prop := ∀ j, j < n → j < (gm 41 q).toNatClampNeg → (gm 25 (gm 26 (gm 57 (128 * q + j)).toNatClampNeg).toNatClampNeg).toInt = 6 ∨ (gm 25 (gm 26 (gm 57 (128 * q + j)).toNatClampNeg).toNatClampNeg).toInt = 7 ∨ (gm 25 (gm 26 (gm 57 (128 * q + j)).toNatClampNeg).toNatClampNeg).toInt = 9 ∨ iv 0 59 (gm 52 (24 * d + 6 * j))
theorem WKD_e {gm gm2 : Nat → Nat → Int32} {q d n : Nat} (h : WKD gm q d n) (h25 : gm2 25 = gm 25) (h26 : gm2 26 = gm 26) (h41 : gm2 41 = gm 41) (h52 : gm2 52 = gm 52) (h57 : gm2 57 = gm 57) : WKD gm2 q d n := by
  unfold WKD at *; rw [h25, h26, h41, h52, h57]; exact h
theorem WRD_e {sg sg2 : Nat → Int32} {gm gm2 : Nat → Nat → Int32} {lg lg2 : Nat → Nat → Int64} (h : WRD sg gm lg) (h4 : sg2 4 = sg 4) (h12 : sg2 12 = sg 12) (h14 : gm2 14 = gm 14) (h15 : gm2 15 = gm 15) (h16 : gm2 16 = gm 16) (h17 : gm2 17 = gm 17) (h19 : gm2 19 = gm 19) (h20 : gm2 20 = gm 20) (h22 : gm2 22 = gm 22) (h25 : gm2 25 = gm 25) (h26 : gm2 26 = gm 26) (h27 : gm2 27 = gm 27) (h29 : gm2 29 = gm 29) (h41 : gm2 41 = gm 41) (h44 : gm2 44 = gm 44) (h45 : gm2 45 = gm 45) (h46 : gm2 46 = gm 46) (h57 : gm2 57 = gm 57) (hl0 : lg2 0 = lg 0) (hl4 : lg2 4 = lg 4) : WRD sg2 gm2 lg2 :=
  ⟨LK_e2 h.1 h4 h15 h16 h17, fun j hj => by rw [h4] at hj; exact ⟨STL_e (h.2.1 j hj).1 h12 h14 h16 h19 h20 h22 h25 h26 h27 hl0 hl4, SOK_e (h.2.1 j hj).2 h14 h15 h19 h20 h44 h45 h46 hl0⟩, BEE_e h.2.2.1 h4 h12 h29, fun c hc => by rw [h12] at hc; exact BLI_e (h.2.2.2 c hc) h4 h14 h22 h41 h57⟩
/-- the jth arg of a bean holds such an element -/
theorem arg_in {sg : Nat → Int32} {gm : Nat → Nat → Int32} {lg : Nat → Nat → Int64} {lx : List Nat} {b j : Nat} {w : Int} {k : Nat} (hI : CI sg gm) (hW : WRD sg gm lg) (hLD : LDI lx gm) (hk : (k = 0 ∧ w = 3) ∨ (k = 1 ∧ w = 4)) (hb : b < (sg 12).toNatClampNeg) (hj : j < (gm 41 (3 * b + k)).toNatClampNeg) : CTO sg gm lg (gm 26 (gm 57 (128 * (3 * b + k) + j)).toNatClampNeg) ∧ (gm 14 (gm 57 (128 * (3 * b + k) + j)).toNatClampNeg).toInt = w ∧ 0 ≤ (gm 57 (128 * (3 * b + k) + j)).toInt ∧ (gm 57 (128 * (3 * b + k) + j)).toInt < (sg 4).toInt := by
  have hbl := hW.2.2.2 b hb
  have i12 := (show iv 0 80 (sg 12) from CI_s hI 12)
  have k12 : (sg 12).toNatClampNeg = (sg 12).toInt.toNat := rfl
  have i12b := i12.2
  have h0 := (hLD (3 * b + k) (by omega)).2.2 j hj
  rcases hk with ⟨rfl, rfl⟩ | ⟨rfl, rfl⟩
  · obtain ⟨h1, h2⟩ := hbl.1 j hj
    exact ⟨CTO_h hI hW h0 h2 (Or.inl h1), h1, h0, h2⟩
  · obtain ⟨h1, h2⟩ := hbl.2.1 j hj
    exact ⟨CTO_h hI hW h0 h2 (Or.inr h1), h1, h0, h2⟩

set_option maxHeartbeats 4000000 in
set_option maxRecDepth 100000 in
theorem d_placesArgs (l : Launch) (dC : Nat → ClassId) (dI : Nat → Nat → Nat) (ad : Nat → Nat → Nat) (cid : Nat → ClassId) (a2 : Nat → Nat) (lx : List Nat) (sg : Nat → Int32) (gm : Nat → Nat → Int32) (lg : Nat → Nat → Int64) (x : Int32) (b : Int32) (hI : CI sg gm) (hvx : iv 0 0 x) (hvb : iv 0 79 b) (hLD : LDI lx gm) : CMt dC dI ad cid a2 lx l yX5_placesArgs wm_X5_placesArgs ({ frames := 4, cells := 1, slots := 6, locals := 88 }) [eV (ad 6) x, eV (ad 10) b] sg gm lg (fun v u => ∃ r : Int32, v = some (.int r) ∧ ∃ (sg2 : Nat → Int32) (gm2 : Nat → Nat → Int32) (lg2 : Nat → Nat → Int64), u = (sg2, gm2, lg2) ∧ CI sg2 gm2 ∧ KS [] sg sg2 ∧ KS [53] gm gm2 ∧ KS [] lg lg2 ∧ (iv 0 1 r) ∧ (r.toInt = 0 ∨ (SPF (gm2 53) (gm 41 (3 * b.toNatClampNeg + 0)).toNatClampNeg ∧ (gm 41 (3 * b.toNatClampNeg + 0)).toNatClampNeg ≤ 3))) (fun _ _ => False) := by
  intro sz
  refine vx_ofW (cc := cX5_placesArgs) (maxL := 5) (ret := (some .boolean)) (by decide) rfl ?_
  intro p e s m args below meth c s₁ B hml hxt hv
  obtain ⟨rfl, hsz, hP, hK, hD0, hG⟩ := hv
  have hx := B.exec
  have hb := B.bytes
  have hr := B.returns
  have hts := atoms_spec (ws := wm_X5_placesArgs) B.pre
  have htb := fun (w : Cond) (h : w ∈ tb) => hts w (List.mem_cons_of_mem _ h)
  have hown : s.vm.findClass RX5 = some m.cls := findClass_of_methodNamed B.named
  have hlocks := B.notSynchronized
  subst hsz
  have hD := hD0.self (sz := s.heap.size)
  generalize hAe : va_A (cW ad cid a2 lx sg gm lg) s.heap.size = A at hD hG ⊢
  have hA : ∀ q : Nat, s.heap.size ≤ q → A q := fun q h => by rw [← hAe]; exact Or.inr h
  have hS : va_S A s.heap s.heap [] := va_S.rf
  have hl := lv_entry ([eV (ad 6) x, eV (ad 10) b]) (n := 5) (by rw [show (lg_sl ([eV (ad 6) x, eV (ad 10) b])).length = 2 from by simp [lg_sl, eV_cat, cat_i, cat_l]]; exact Nat.le_of_ble_eq_true rfl)
  rw [lg_entry_eq]
  generalize (lg_sl ([eV (ad 6) x, eV (ad 10) b]) ++ List.replicate (5 - (lg_sl ([eV (ad 6) x, eV (ad 10) b])).length) Slot.unset).toArray = ls at hl ⊢
  have hl : lv_has ls 5 [(0, eV (ad 6) x), (1, eV (ad 10) b)] := by simp [lv_args, eV_cat, cat_i, cat_l] at hl; exact hl
  have hj81 : ∀ (gm_j81 : Nat → Nat → Int32) (x4_81 : Int32) (x3_81 : Int32) (x2_81 : Int32) (_ : iv 0 2 x4_81) (_ : iv 0 2 x3_81) (_ : iv 1 3 x2_81) (_ : iv 0 0 x) (_ : iv 0 79 b) (_ : KS [53] gm gm_j81) (_ : CI sg gm_j81) (H : Heap) (locs : List Loc) (ls : Array Slot), va_P (dC, dI) vwCl (cW ad cid a2 lx sg gm_j81 lg) H → va_D A (cW ad cid a2 lx sg gm_j81 lg) → va_S A s.heap H locs → lv_has ls 5 [(4, .int x4_81), (3, .int x3_81), (2, .int x2_81), (0, eV (ad 6) x), (1, eV (ad 10) b)] → W p l e (headSpec wm_X5_placesArgs ({ frames := 4, cells := 1, slots := 6, locals := 88 })).room s m ([eV (ad 6) x, eV (ad 10) b] : List Value).toArray below meth c H locs 0 0 (vx_MQ below (cQx dC dI ad cid a2 lx (fun v u => ∃ r : Int32, v = some (.int r) ∧ ∃ (sg2 : Nat → Int32) (gm2 : Nat → Nat → Int32) (lg2 : Nat → Nat → Int64), u = (sg2, gm2, lg2) ∧ CI sg2 gm2 ∧ KS [] sg sg2 ∧ KS [53] gm gm2 ∧ KS [] lg lg2 ∧ (iv 0 1 r) ∧ (r.toInt = 0 ∨ (SPF (gm2 53) (gm 41 (3 * b.toNatClampNeg + 0)).toNatClampNeg ∧ (gm 41 (3 * b.toNatClampNeg + 0)).toNatClampNeg ≤ 3))) A) (cX dC dI ad cid a2 lx (fun _ _ => False) A) ([eV (ad 6) x, eV (ad 10) b] : List Value).toArray s 1 6 A) (F0 m 81 ls []) := by
    intro gm_j81 x4_81 x3_81 x2_81 hx4_81 hx3_81 hx2_81 hsx0_81 hsx1_81 hkg_j81 hI_j81 H locs ls hP hD hS hl
    refine lv_iconst (v := 0) hx hb dX5_placesArgs_81 (by decide) ?_
    exact W.nb (fun hN => W.widen (k := 1) (n := 6) (by decide) (by decide) (vx_ret (W.zret (v := 0) hx hb hr (iv_nb (iv_w (iv_k (by decide) : iv 0 0 0) (by decide))) (fun t ht hW => ⟨⟨some (.int 0), (sg, gm_j81, lg), rfl, ⟨0, rfl, sg, gm_j81, lg, rfl, hI_j81, KS_rf, (KS_tr (L := [53]) KS_rf hkg_j81 (by decide)), KS_rf, (iv_w (iv_k (by decide) : iv 0 0 0) (by decide)), (Or.inl rfl)⟩, by rw [ht]; exact hP, va_K.moved hW.alike hK, hD⟩, hS.F ht, by rw [ht]; exact hN⟩) hS.2.2 dX5_placesArgs_82)))
  have hj37 : ∀ (n : Nat) (gm_j37 : Nat → Nat → Int32) (x3_37 : Int32) (x2_37 : Int32) (_ : (3 - x3_37.toInt).toNat = n) (_ : iv 0 3 x3_37) (_ : iv 0 3 x2_37) (_ : iv 0 0 x) (_ : iv 0 79 b) (_ : KS [53] gm gm_j37) (_ : CI sg gm_j37) (_ : x2_37 = gm 41 (3 * b.toNatClampNeg + 0)) (_ : x3_37.toInt ≤ x2_37.toInt) (_ : SP3 (gm_j37 53) (gm 41 (3 * b.toNatClampNeg + 0)).toNatClampNeg) (_ : cF (gm_j37 53) 3 = cF (atF gm (3 * b.toNatClampNeg + 0)) x3_37.toNatClampNeg) (H : Heap) (locs : List Loc) (ls : Array Slot), va_P (dC, dI) vwCl (cW ad cid a2 lx sg gm_j37 lg) H → va_D A (cW ad cid a2 lx sg gm_j37 lg) → va_S A s.heap H locs → lv_has ls 5 [(3, .int x3_37), (2, .int x2_37), (0, eV (ad 6) x), (1, eV (ad 10) b)] → W p l e (headSpec wm_X5_placesArgs ({ frames := 4, cells := 1, slots := 6, locals := 88 })).room s m ([eV (ad 6) x, eV (ad 10) b] : List Value).toArray below meth c H locs 0 0 (vx_MQ below (cQx dC dI ad cid a2 lx (fun v u => ∃ r : Int32, v = some (.int r) ∧ ∃ (sg2 : Nat → Int32) (gm2 : Nat → Nat → Int32) (lg2 : Nat → Nat → Int64), u = (sg2, gm2, lg2) ∧ CI sg2 gm2 ∧ KS [] sg sg2 ∧ KS [53] gm gm2 ∧ KS [] lg lg2 ∧ (iv 0 1 r) ∧ (r.toInt = 0 ∨ (SPF (gm2 53) (gm 41 (3 * b.toNatClampNeg + 0)).toNatClampNeg ∧ (gm 41 (3 * b.toNatClampNeg + 0)).toNatClampNeg ≤ 3))) A) (cX dC dI ad cid a2 lx (fun _ _ => False) A) ([eV (ad 6) x, eV (ad 10) b] : List Value).toArray s 1 6 A) (F0 m 37 ls []) := by
    intro n
    induction n using Nat.strongRecOn with
    | ind n ih37 =>
      intro gm_j37 x3_37 x2_37 hn37 hx3_37 hx2_37 hsx0_37 hsx1_37 hkg_j37 hI_j37 hcn h3c hSP37 hcF37 H locs ls hP hD hS hl
      have hj91 : ∀ (gm_j91 : Nat → Nat → Int32) (x4_91 : Int32) (_ : iv (-1) 2 x4_91) (_ : iv 0 2 x3_37) (_ : iv 1 3 x2_37) (_ : iv 0 0 x) (_ : iv 0 79 b) (_ : KS [53] gm gm_j91) (_ : CI sg gm_j91) (_ : x3_37.toInt < x2_37.toInt) (_ : SP3 (gm_j91 53) (gm 41 (3 * b.toNatClampNeg + 0)).toNatClampNeg) (_ : cF (gm_j91 53) 3 = cF (atF gm (3 * b.toNatClampNeg + 0)) (x3_37.toNatClampNeg + 1)) (H : Heap) (locs : List Loc) (ls : Array Slot), va_P (dC, dI) vwCl (cW ad cid a2 lx sg gm_j91 lg) H → va_D A (cW ad cid a2 lx sg gm_j91 lg) → va_S A s.heap H locs → lv_has ls 5 [(4, .int x4_91), (3, .int x3_37), (2, .int x2_37), (0, eV (ad 6) x), (1, eV (ad 10) b)] → W p l e (headSpec wm_X5_placesArgs ({ frames := 4, cells := 1, slots := 6, locals := 88 })).room s m ([eV (ad 6) x, eV (ad 10) b] : List Value).toArray below meth c H locs 0 0 (vx_MQ below (cQx dC dI ad cid a2 lx (fun v u => ∃ r : Int32, v = some (.int r) ∧ ∃ (sg2 : Nat → Int32) (gm2 : Nat → Nat → Int32) (lg2 : Nat → Nat → Int64), u = (sg2, gm2, lg2) ∧ CI sg2 gm2 ∧ KS [] sg sg2 ∧ KS [53] gm gm2 ∧ KS [] lg lg2 ∧ (iv 0 1 r) ∧ (r.toInt = 0 ∨ (SPF (gm2 53) (gm 41 (3 * b.toNatClampNeg + 0)).toNatClampNeg ∧ (gm 41 (3 * b.toNatClampNeg + 0)).toNatClampNeg ≤ 3))) A) (cX dC dI ad cid a2 lx (fun _ _ => False) A) ([eV (ad 6) x, eV (ad 10) b] : List Value).toArray s 1 6 A) (F0 m 91 ls []) := by
        intro gm_j91 x4_91 hx4_91 hsx3_91 hsx2_91 hsx0_91 hsx1_91 hkg_j91 hI_j91 h3d hSP91 hcF91 H locs ls hP hD hS hl
        obtain ⟨z_1, ez_1⟩ : ∃ z : Int32, z = x3_37 + 1 := ⟨_, rfl⟩
        have hz_1 : iv 1 3 z_1 := iv_of ez_1 (iv_add hsx3_91 (iv_k (by decide) : iv 1 1 1) (by decide))
        have tz_1 : z_1.toInt = x3_37.toInt + 1 := by rw [ez_1]; exact iv_addE hsx3_91 (iv_k (by decide) : iv 1 1 1) (by decide)
        refine lv_iinc (v := z_1) (lv' := [(3, .int z_1), (4, .int x4_91), (2, .int x2_37), (0, eV (ad 6) x), (1, eV (ad 10) b)]) hx hb dX5_placesArgs_91 hl (k := 1) rfl ez_1.symm (by decide) rfl (fun ls hl => ?_)
        refine lv_goto (tgt := 37) hx hb dX5_placesArgs_94 (by decide) ?_
        exact ih37 _ (by rw [← hn37]; exact (iv_meas tz_1 hsx3_91 (by decide))) gm_j91 z_1 x2_37 rfl (iv_w hz_1 (by decide)) (iv_w hsx2_91 (by decide)) hsx0_91 hsx1_91 (KS_tr (L := [53]) KS_rf hkg_j91 (by decide)) hI_j91 (hcn) (by have := i32_0; have := i32_1; have := i32_2; have := i32_m1; have := (hsx0_91).1; have := (hsx0_91).2; have := (hsx1_91).1; have := (hsx1_91).2; have := (hsx3_91).1; have := (hsx3_91).2; have := (hsx2_91).1; have := (hsx2_91).2; have := (hx4_91).1; have := (hx4_91).2; have := (hz_1).1; have := (hz_1).2; omega) (hSP91) ((by have q7 : z_1.toNatClampNeg = x3_37.toNatClampNeg + 1 := (by have q1 : z_1.toNatClampNeg = z_1.toInt.toNat := rfl; have q1 : x3_37.toNatClampNeg = x3_37.toInt.toNat := rfl; have := i32_0; have := i32_1; have := i32_2; have := i32_m1; have := (hsx0_91).1; have := (hsx0_91).2; have := (hsx1_91).1; have := (hsx1_91).2; have := (hsx3_91).1; have := (hsx3_91).2; have := (hsx2_91).1; have := (hsx2_91).2; have := (hx4_91).1; have := (hx4_91).2; have := (hz_1).1; have := (hz_1).2; omega); rw [q7]; exact hcF91)) _ _ _ hP hD hS (lv_sub hl [0, 2, 3, 4] rfl)
      refine lv_iload_n hx hb dX5_placesArgs_37 rfl (lv_at hl 0 rfl) ?_
      refine lv_iload_n hx hb dX5_placesArgs_38 rfl (lv_at hl 1 rfl) ?_
      refine lv_icmp_ge (tgt := 97) hx hb dX5_placesArgs_39 (by decide) (fun c_2 => ?_) (fun c_2 => ?_)
      · have d_3 : (x2_37 : Int32).toInt ≤ (x3_37 : Int32).toInt := Int32.le_iff_toInt_le.mp c_2
        refine ec_aload_n hx hb dX5_placesArgs_97 rfl (lv_at hl 2 rfl) ?_
        refine ec_aload_n hx hb dX5_placesArgs_98 rfl (lv_at hl 3 rfl) ?_
        refine lv_iload_n hx hb dX5_placesArgs_99 rfl (lv_at hl 1 rfl) ?_
        refine cm_callV (t := 6) (C := RX5) (T := TX5) (N := 13) (rest := []) (as := [eV (ad 10) b, .int x2_37]) ⟨hx, hb, hml, hown, htb⟩ (d_placeOthers l dC dI ad cid a2 lx sg gm_j37 lg x b x2_37 hI_j37 hsx0_37 hsx1_37 hx2_37 (LDI_e hLD (hkg_j37 41 (by decide)) (hkg_j37 42 (by decide)) (hkg_j37 57 (by decide))) (by rw [show gm_j37 41 = gm 41 from (hkg_j37 41 (by decide))]; exact hcn) (by rw [show gm_j37 41 = gm 41 from (hkg_j37 41 (by decide))]; exact hSP37) (by have q6 : atF gm_j37 (3 * b.toNatClampNeg + 0) = atF gm (3 * b.toNatClampNeg + 0) := (by unfold atF; rw [show gm_j37 23 = gm 23 from (hkg_j37 23 (by decide)), show gm_j37 57 = gm 57 from (hkg_j37 57 (by decide))]); rw [q6, show gm_j37 41 = gm 41 from (hkg_j37 41 (by decide)), hcF37]; have q7 : x3_37.toNatClampNeg = (gm 41 (3 * b.toNatClampNeg + 0)).toNatClampNeg := (by have kcn : x2_37.toNatClampNeg = x2_37.toInt.toNat := rfl; have kna : (gm 41 (3 * b.toNatClampNeg + 0)).toNatClampNeg = x2_37.toNatClampNeg := (by rw [hcn]); have q1 : x3_37.toNatClampNeg = x3_37.toInt.toNat := rfl; have := i32_0; have := i32_1; have := i32_2; have := i32_m1; have := (hsx0_37).1; have := (hsx0_37).2; have := (hsx1_37).1; have := (hsx1_37).2; have := (hx3_37).1; have := (hx3_37).2; have := (hx2_37).1; have := (hx2_37).2; omega); rw [q7])) (cwV 2 htb (gd_V kw_1106 kw_1107 kw_1108 kw_40 kw_1590) rfl rfl rfl (by decide +kernel) ⟨Nat.le_of_ble_eq_true rfl, Nat.le_of_ble_eq_true rfl⟩) hsx0_37 (by decide) (by decide) rfl rfl hl.1 rfl (Nat.le_trans cs_n (by decide)) dX5_placesArgs_100 ⟨Nat.le_of_ble_eq_true rfl, Nat.le_of_ble_eq_true rfl⟩ hK hP hD hS hA hG (fun E ce q9 u_5 H locs hw hP hD hS hce hcv hcl => ?_) (fun v9 u_5 H locs hw hP hD hS => ?_)
        · exact hw.elim
        obtain ⟨rfl, sgv_6, gmv_6, lgv_6, rfl, hIv_6, ksv_6, kgv_6, klv_6, fS_r_4⟩ := hw
        obtain rfl := KS_nil ksv_6
        obtain rfl := KS_nil klv_6
        have hP : va_P (dC, dI) vwCl (cW ad cid a2 lx sg gmv_6 lg) H := hP
        have hD : va_D A (cW ad cid a2 lx sg gmv_6 lg) := hD
        refine W.eq (g2 := F0 m 103 ls []) rfl ?_
        refine lv_iconst (v := 1) hx hb dX5_placesArgs_103 (by decide) ?_
        exact W.nb (fun hN => W.widen (k := 1) (n := 6) (by decide) (by decide) (vx_ret (W.zret (v := 1) hx hb hr (iv_nb (iv_w (iv_k (by decide) : iv 1 1 1) (by decide))) (fun t ht hW => ⟨⟨some (.int 1), (sg, gmv_6, lg), rfl, ⟨1, rfl, sg, gmv_6, lg, rfl, hIv_6, KS_rf, (KS_tr (L := [53]) (KS_tr (L := [53]) KS_rf hkg_j37 (by decide)) kgv_6 (by decide)), KS_rf, (iv_w (iv_k (by decide) : iv 1 1 1) (by decide)), (Or.inr ⟨(by have q6 := fS_r_4; rw [(show gm_j37 41 = gm 41 from (hkg_j37 41 (by decide)))] at q6; exact q6), by have kcn : x2_37.toNatClampNeg = x2_37.toInt.toNat := rfl; have kna : (gm 41 (3 * b.toNatClampNeg + 0)).toNatClampNeg = x2_37.toNatClampNeg := (by rw [hcn]); have := i32_0; have := i32_1; have := i32_2; have := i32_m1; have := (hsx0_37).1; have := (hsx0_37).2; have := (hsx1_37).1; have := (hsx1_37).2; have := (hx3_37).1; have := (hx3_37).2; have := (hx2_37).1; have := (hx2_37).2; omega⟩)⟩, by rw [ht]; exact hP, va_K.moved hW.alike hK, hD⟩, hS.F ht, by rw [ht]; exact hN⟩) hS.2.2 dX5_placesArgs_104)))
      · have d_7 : (x3_37 : Int32).toInt < (x2_37 : Int32).toInt := Int32.lt_iff_toInt_lt.mp (i32_lt c_2)
        have h_8 : iv 0 2 x3_37 := iv_ltL (i32_lt c_2) hx3_37 hx2_37 (by decide)
        have h_9 : iv 1 3 x2_37 := iv_ltR (i32_lt c_2) hx3_37 hx2_37 (by decide)
        refine ec_aload_n hx hb dX5_placesArgs_42 rfl (lv_at hl 3 rfl) ?_
        obtain ⟨q_10, hq_10, nq_10, tq_10⟩ := ix_mk (3 * b.toNatClampNeg + 0) 239 (by have q1 := iv_cl hsx1_37 (by decide); have q2 := (hsx1_37).2; omega) (by decide)
        refine cr_get (t := 10) (j := 1) (C := RX1) (T := TX1) (N := 19) (v := eV (ad 11) q_10) hx hb htb inX1 hown hK hP hsx1_37 (by decide) (by decide) (by decide) rfl (by decide) (htb _ kw_1104) (cV_c rfl hq_10.1 nq_10) dX5_placesArgs_43 ?_
        refine lv_iload_n hx hb dX5_placesArgs_46 rfl (lv_at hl 0 rfl) ?_
        refine cm_callV (t := 11) (C := RJx4a65c) (T := TJx4a65c) (N := 3) (rest := []) (as := [.int x3_37]) ⟨hx, hb, hml, hown, htb⟩ (d_lget l dC dI ad cid a2 lx sg gm_j37 lg q_10 x3_37 hI_j37 hq_10 (LDI_e hLD (hkg_j37 41 (by decide)) (hkg_j37 42 (by decide)) (hkg_j37 57 (by decide))) (by have := i32_0; have := i32_1; have := i32_2; have := i32_m1; have := (hsx0_37).1; have := (hsx0_37).2; have := (hsx1_37).1; have := (hsx1_37).2; have := (h_8).1; have := (h_8).2; have := (h_9).1; have := (h_9).2; have := (hq_10).1; have := (hq_10).2; omega) (by rw [(hkg_j37 41 (by decide)), show q_10.toNatClampNeg = 3 * b.toNatClampNeg + 0 from nq_10]; have := i32_0; have := i32_1; have := i32_2; have := i32_m1; have := (hsx0_37).1; have := (hsx0_37).2; have := (hsx1_37).1; have := (hsx1_37).2; have := (h_8).1; have := (h_8).2; have := (h_9).1; have := (h_9).2; have := (hq_10).1; have := (hq_10).2; have q41 := congrArg Int32.toInt hcn; omega)) (cwV 1 htb (gd_V kw_1033 kw_794 kw_795 kw_98 kw_1512) rfl rfl rfl (by decide +kernel) ⟨Nat.le_of_ble_eq_true rfl, Nat.le_of_ble_eq_true rfl⟩) hq_10 (by decide) (by decide) rfl rfl hl.1 rfl (Nat.le_trans cs_n (by decide)) dX5_placesArgs_47 ⟨Nat.le_of_ble_eq_true rfl, Nat.le_of_ble_eq_true rfl⟩ hK hP hD hS hA hG (fun E ce q9 u_12 H locs hw hP hD hS hce hcv hcl => ?_) (fun v9 u_12 H locs hw hP hD hS => ?_)
        · exact hw.elim
        obtain ⟨r_11, rfl, rfl, hr_11, fr_r_11⟩ := hw
        have hP : va_P (dC, dI) vwCl (cW ad cid a2 lx sg gm_j37 lg) H := hP
        have hD : va_D A (cW ad cid a2 lx sg gm_j37 lg) := hD
        refine W.eq (g2 := F0 m 50 ls [eV (ad 9) r_11]) rfl ?_
        have fr_r_11 := fr_r_11.trans (congrFun (show gm_j37 57 = gm 57 from (hkg_j37 57 (by decide))) _)
        refine cl_cast hx hb hG hown (htb _ kw_1027) hK hP hr_11 (by decide) dX5_placesArgs_50 ?_
        refine cr_get (t := 9) (j := 16) (C := RX3) (T := TX3) (N := 21) (v := .int (gm_j37 23 r_11.toNatClampNeg)) hx hb htb inX3 hown hK hP hr_11 (by decide) (by decide) (by decide) rfl (by decide) (htb _ kw_1105) rfl dX5_placesArgs_53 ?_
        obtain ⟨z_14, ez_14⟩ : ∃ z : Int32, z = (gm_j37 23 r_11.toNatClampNeg) := ⟨_, rfl⟩
        refine W.eq (g2 := F0 m 56 ls [.int z_14]) (by rw [ez_14]) ?_
        have hz_14 : iv (-1) 2 z_14 := iv_of ez_14 (CI_a hI_j37 23 hr_11 (by decide))
        have ez_14 := ez_14.trans (congrFun (hkg_j37 23 (by decide)) _)
        refine lv_istore (i := 4) (lv' := [(4, .int z_14), (3, .int x3_37), (2, .int x2_37), (0, eV (ad 6) x), (1, eV (ad 10) b)]) hx hb dX5_placesArgs_56 hl (by decide) rfl (fun ls hl => ?_)
        refine lv_iload hx hb dX5_placesArgs_58 (lv_at hl 0 rfl) ?_
        refine lv_iconst (v := (-1)) hx hb dX5_placesArgs_60 (by decide) ?_
        refine lv_icmp_eq (tgt := 91) hx hb dX5_placesArgs_61 (by decide) (fun c_15 => ?_) (fun c_15 => ?_)
        · have h_16 : iv (-1) (-1) z_14 := iv_eq c_15 hz_14 (iv_k (by decide) : iv (-1) (-1) (-1)) (by decide)
          exact hj91 gm_j37 z_14 (iv_w h_16 (by decide)) h_8 h_9 hsx0_37 hsx1_37 (KS_tr (L := [53]) KS_rf hkg_j37 (by decide)) hI_j37 (by have := i32_0; have := i32_1; have := i32_2; have := i32_m1; have := (hsx0_37).1; have := (hsx0_37).2; have := (hsx1_37).1; have := (hsx1_37).2; have := (h_8).1; have := (h_8).2; have := (h_9).1; have := (h_9).2; have := (hq_10).1; have := (hq_10).2; have := (hr_11).1; have := (hr_11).2; have := (h_16).1; have := (h_16).2; omega) (hSP37) ((by rw [cF_s0 (f := atF gm (3 * b.toNatClampNeg + 0)) (k := x3_37.toNatClampNeg) (by rw [← (show z_14 = atF gm (3 * b.toNatClampNeg + 0) x3_37.toNatClampNeg from by unfold atF; rw [ez_14, fr_r_11, show q_10.toNatClampNeg = 3 * b.toNatClampNeg + 0 from nq_10])]; exact eq_m1 (by have := i32_0; have := i32_1; have := i32_2; have := i32_m1; have := (hsx0_37).1; have := (hsx0_37).2; have := (hsx1_37).1; have := (hsx1_37).2; have := (h_8).1; have := (h_8).2; have := (h_9).1; have := (h_9).2; have := (hq_10).1; have := (hq_10).2; have := (hr_11).1; have := (hr_11).2; have := (h_16).1; have := (h_16).2; omega))]; exact hcF37)) _ _ _ hP hD hS (lv_sub hl [0, 1, 2, 3, 4] rfl)
        · have h_17 : iv 0 2 z_14 := iv_neL c_15 hz_14 (by decide)
          refine lv_iload hx hb dX5_placesArgs_64 (lv_at hl 0 rfl) ?_
          refine lv_iload_n hx hb dX5_placesArgs_66 rfl (lv_at hl 2 rfl) ?_
          refine lv_icmp_ge (tgt := 81) hx hb dX5_placesArgs_67 (by decide) (fun c_18 => ?_) (fun c_18 => ?_)
          · have d_19 : (x2_37 : Int32).toInt ≤ (z_14 : Int32).toInt := Int32.le_iff_toInt_le.mp c_18
            have h_20 : iv 1 2 x2_37 := iv_leL c_18 h_9 h_17 (by decide)
            have h_21 : iv 1 2 z_14 := iv_leR c_18 h_9 h_17 (by decide)
            exact hj81 gm_j37 z_14 x3_37 x2_37 (iv_w h_21 (by decide)) h_8 (iv_w h_20 (by decide)) hsx0_37 hsx1_37 (KS_tr (L := [53]) KS_rf hkg_j37 (by decide)) hI_j37 _ _ _ hP hD hS (lv_sub hl [0, 1, 2, 3, 4] rfl)
          · have d_22 : (z_14 : Int32).toInt < (x2_37 : Int32).toInt := Int32.lt_iff_toInt_lt.mp (i32_lt c_18)
            refine ec_aload_n hx hb dX5_placesArgs_70 rfl (lv_at hl 3 rfl) ?_
            refine cr_get (t := 6) (j := 9) (C := RX5) (T := TX5) (N := 13) (v := eV (ad 26) 0) hx hb htb inX5 hown hK hP hsx0_37 (by decide) (by decide) (by decide) rfl (by decide) (htb _ kw_129) (cV_c rfl (by decide) (by rw [show cMu 6 9 = 0 from rfl, Nat.zero_mul]; rfl)) dX5_placesArgs_71 ?_
            refine lv_iload hx hb dX5_placesArgs_74 (lv_at hl 0 rfl) ?_
            refine cr_iald (t := 26) (z := (gm_j37 53 (z_14 : Int32).toNatClampNeg)) hx hb hK hP (iv_k (by decide) : iv 0 0 0) (by decide) (by decide) (by decide) rfl rfl (show vp_in z_14 (cLen 26) from (show vp_in z_14 3 from (iv_in h_17 (by decide)))) rfl dX5_placesArgs_76 ?_
            obtain ⟨z_23, ez_23⟩ : ∃ z : Int32, z = (gm_j37 53 (z_14 : Int32).toNatClampNeg) := ⟨_, rfl⟩
            refine W.eq (g2 := F0 m 77 ls [.int z_23]) (by rw [ez_23]) ?_
            have hz_23 : iv (-1) 2 z_23 := iv_of ez_23 (CI_a hI_j37 53 h_17 (by decide))
            refine lv_iconst (v := (-1)) hx hb dX5_placesArgs_77 (by decide) ?_
            refine lv_icmp_eq (tgt := 83) hx hb dX5_placesArgs_78 (by decide) (fun c_24 => ?_) (fun c_24 => ?_)
            · have h_25 : iv (-1) (-1) z_23 := iv_eq c_24 hz_23 (iv_k (by decide) : iv (-1) (-1) (-1)) (by decide)
              refine ec_aload_n hx hb dX5_placesArgs_83 rfl (lv_at hl 3 rfl) ?_
              refine cr_get (t := 6) (j := 9) (C := RX5) (T := TX5) (N := 13) (v := eV (ad 26) 0) hx hb htb inX5 hown hK hP hsx0_37 (by decide) (by decide) (by decide) rfl (by decide) (htb _ kw_129) (cV_c rfl (by decide) (by rw [show cMu 6 9 = 0 from rfl, Nat.zero_mul]; rfl)) dX5_placesArgs_84 ?_
              refine lv_iload hx hb dX5_placesArgs_87 (lv_at hl 0 rfl) ?_
              refine lv_iload_n hx hb dX5_placesArgs_89 rfl (lv_at hl 1 rfl) ?_
              refine cr_iast (t := 26) (k := 53) (n9 := (z_14 : Int32).toNatClampNeg) (z := x3_37) hx hb hK hP hD hS (iv_k (by decide) : iv 0 0 0) (by decide) (by decide) (by decide) rfl rfl rfl (show vp_in z_14 (cLen 26) from (show vp_in z_14 3 from (iv_in h_17 (by decide)))) (Or.inl rfl) (by rw [show cAw 26 = 0 from rfl, Nat.zero_mul, Nat.zero_add]) dX5_placesArgs_90 (fun gm_26 H locs egm_26 hP hD hS => ?_)
              have hI_gm_26 := CI_st hI_j37 egm_26 h_8 (by decide)
              exact hj91 gm_26 z_14 (iv_w h_17 (by decide)) h_8 h_9 hsx0_37 hsx1_37 (KS_up (KS_tr (L := [53]) KS_rf hkg_j37 (by decide)) egm_26 (by decide)) hI_gm_26 (by have := i32_0; have := i32_1; have := i32_2; have := i32_m1; have := (hsx0_37).1; have := (hsx0_37).2; have := (hsx1_37).1; have := (hsx1_37).2; have := (h_8).1; have := (h_8).2; have := (h_9).1; have := (h_9).2; have := (hq_10).1; have := (hq_10).2; have := (hr_11).1; have := (hr_11).2; have := (h_17).1; have := (h_17).2; have := (h_25).1; have := (h_25).2; omega) (SP3_u hSP37 (up_at egm_26) (by have kcn : x2_37.toNatClampNeg = x2_37.toInt.toNat := rfl; have kna : (gm 41 (3 * b.toNatClampNeg + 0)).toNatClampNeg = x2_37.toNatClampNeg := (by rw [hcn]); have q1 : z_14.toNatClampNeg = z_14.toInt.toNat := rfl; have := i32_0; have := i32_1; have := i32_2; have := i32_m1; have := (hsx0_37).1; have := (hsx0_37).2; have := (hsx1_37).1; have := (hsx1_37).2; have := (h_8).1; have := (h_8).2; have := (h_9).1; have := (h_9).2; have := (hq_10).1; have := (hq_10).2; have := (hr_11).1; have := (hr_11).2; have := (h_17).1; have := (h_17).2; have := (h_25).1; have := (h_25).2; omega) (h_8).1 (by have kcn : x2_37.toNatClampNeg = x2_37.toInt.toNat := rfl; have kna : (gm 41 (3 * b.toNatClampNeg + 0)).toNatClampNeg = x2_37.toNatClampNeg := (by rw [hcn]); have q1 : x3_37.toNatClampNeg = x3_37.toInt.toNat := rfl; have := i32_0; have := i32_1; have := i32_2; have := i32_m1; have := (hsx0_37).1; have := (hsx0_37).2; have := (hsx1_37).1; have := (hsx1_37).2; have := (h_8).1; have := (h_8).2; have := (h_9).1; have := (h_9).2; have := (hq_10).1; have := (hq_10).2; have := (hr_11).1; have := (hr_11).2; have := (h_17).1; have := (h_17).2; have := (h_25).1; have := (h_25).2; omega)) ((by rw [cF_s1 (f := atF gm (3 * b.toNatClampNeg + 0)) (k := x3_37.toNatClampNeg) (by rw [← (show z_14 = atF gm (3 * b.toNatClampNeg + 0) x3_37.toNatClampNeg from by unfold atF; rw [ez_14, fr_r_11, show q_10.toNatClampNeg = 3 * b.toNatClampNeg + 0 from nq_10])]; exact ne_m1 (by have := i32_0; have := i32_1; have := i32_2; have := i32_m1; have := (hsx0_37).1; have := (hsx0_37).2; have := (hsx1_37).1; have := (hsx1_37).2; have := (h_8).1; have := (h_8).2; have := (h_9).1; have := (h_9).2; have := (hq_10).1; have := (hq_10).2; have := (hr_11).1; have := (hr_11).2; have := (h_17).1; have := (h_17).2; have := (h_25).1; have := (h_25).2; omega)), cF_upd (up_at egm_26) (ne_m1 (by have := i32_0; have := i32_1; have := i32_2; have := i32_m1; have := (hsx0_37).1; have := (hsx0_37).2; have := (hsx1_37).1; have := (hsx1_37).2; have := (h_8).1; have := (h_8).2; have := (h_9).1; have := (h_9).2; have := (hq_10).1; have := (hq_10).2; have := (hr_11).1; have := (hr_11).2; have := (h_17).1; have := (h_17).2; have := (h_25).1; have := (h_25).2; omega)) (by rw [← ez_23]; exact eq_m1 (by have := i32_0; have := i32_1; have := i32_2; have := i32_m1; have := (hsx0_37).1; have := (hsx0_37).2; have := (hsx1_37).1; have := (hsx1_37).2; have := (h_8).1; have := (h_8).2; have := (h_9).1; have := (h_9).2; have := (hq_10).1; have := (hq_10).2; have := (hr_11).1; have := (hr_11).2; have := (h_17).1; have := (h_17).2; have := (h_25).1; have := (h_25).2; omega)) 3 (by have q1 : z_14.toNatClampNeg = z_14.toInt.toNat := rfl; have := i32_0; have := i32_1; have := i32_2; have := i32_m1; have := (hsx0_37).1; have := (hsx0_37).2; have := (hsx1_37).1; have := (hsx1_37).2; have := (h_8).1; have := (h_8).2; have := (h_9).1; have := (h_9).2; have := (hq_10).1; have := (hq_10).2; have := (hr_11).1; have := (hr_11).2; have := (h_17).1; have := (h_17).2; have := (h_25).1; have := (h_25).2; omega), hcF37])) _ _ _ hP hD hS (lv_sub hl [0, 1, 2, 3, 4] rfl)
            · have h_27 : iv 0 2 z_23 := iv_neL c_24 hz_23 (by decide)
              exact hj81 gm_j37 z_14 x3_37 x2_37 h_17 h_8 h_9 hsx0_37 hsx1_37 (KS_tr (L := [53]) KS_rf hkg_j37 (by decide)) hI_j37 _ _ _ hP hD hS (lv_sub hl [0, 1, 2, 3, 4] rfl)
  have hj17 : ∀ (n : Nat) (gm_j17 : Nat → Nat → Int32) (x3_17 : Int32) (x2_17 : Int32) (_ : (3 - x3_17.toInt).toNat = n) (_ : iv 0 3 x3_17) (_ : iv 0 3 x2_17) (_ : iv 0 0 x) (_ : iv 0 79 b) (_ : KS [53] gm gm_j17) (_ : CI sg gm_j17) (_ : x2_17 = gm 41 (3 * b.toNatClampNeg + 0)) (_ : ∀ q9, q9 < x3_17.toNatClampNeg → gm_j17 53 q9 = -1) (H : Heap) (locs : List Loc) (ls : Array Slot), va_P (dC, dI) vwCl (cW ad cid a2 lx sg gm_j17 lg) H → va_D A (cW ad cid a2 lx sg gm_j17 lg) → va_S A s.heap H locs → lv_has ls 5 [(3, .int x3_17), (2, .int x2_17), (0, eV (ad 6) x), (1, eV (ad 10) b)] → W p l e (headSpec wm_X5_placesArgs ({ frames := 4, cells := 1, slots := 6, locals := 88 })).room s m ([eV (ad 6) x, eV (ad 10) b] : List Value).toArray below meth c H locs 0 0 (vx_MQ below (cQx dC dI ad cid a2 lx (fun v u => ∃ r : Int32, v = some (.int r) ∧ ∃ (sg2 : Nat → Int32) (gm2 : Nat → Nat → Int32) (lg2 : Nat → Nat → Int64), u = (sg2, gm2, lg2) ∧ CI sg2 gm2 ∧ KS [] sg sg2 ∧ KS [53] gm gm2 ∧ KS [] lg lg2 ∧ (iv 0 1 r) ∧ (r.toInt = 0 ∨ (SPF (gm2 53) (gm 41 (3 * b.toNatClampNeg + 0)).toNatClampNeg ∧ (gm 41 (3 * b.toNatClampNeg + 0)).toNatClampNeg ≤ 3))) A) (cX dC dI ad cid a2 lx (fun _ _ => False) A) ([eV (ad 6) x, eV (ad 10) b] : List Value).toArray s 1 6 A) (F0 m 17 ls []) := by
    intro n
    induction n using Nat.strongRecOn with
    | ind n ih17 =>
      intro gm_j17 x3_17 x2_17 hn17 hx3_17 hx2_17 hsx0_17 hsx1_17 hkg_j17 hI_j17 hcn17 hm17 H locs ls hP hD hS hl
      refine lv_iload_n hx hb dX5_placesArgs_17 rfl (lv_at hl 0 rfl) ?_
      refine lv_iconst (v := 3) hx hb dX5_placesArgs_18 (by decide) ?_
      refine lv_icmp_ge (tgt := 35) hx hb dX5_placesArgs_19 (by decide) (fun c_28 => ?_) (fun c_28 => ?_)
      · have h_29 : iv 3 3 x3_17 := iv_leR c_28 (iv_k (by decide) : iv 3 3 3) hx3_17 (by decide)
        refine lv_iconst (v := 0) hx hb dX5_placesArgs_35 (by decide) ?_
        refine lv_istore_n (i := 3) (lv' := [(3, .int 0), (2, .int x2_17), (0, eV (ad 6) x), (1, eV (ad 10) b)]) hx hb dX5_placesArgs_36 rfl hl (by decide) rfl (fun ls hl => ?_)
        exact hj37 _ gm_j17 0 x2_17 rfl (iv_w (iv_k (by decide) : iv 0 0 0) (by decide)) hx2_17 hsx0_17 hsx1_17 (KS_tr (L := [53]) KS_rf hkg_j17 (by decide)) hI_j17 (hcn17) (by have := i32_0; have := i32_1; have := i32_2; have := i32_m1; have := (hsx0_17).1; have := (hsx0_17).2; have := (hsx1_17).1; have := (hsx1_17).2; have := (h_29).1; have := (h_29).2; have := (hx2_17).1; have := (hx2_17).2; omega) ((SP3_0 (fun q9 q8 => hm17 q9 (by have q1 : x3_17.toNatClampNeg = x3_17.toInt.toNat := rfl; have := i32_0; have := i32_1; have := i32_2; have := i32_m1; have := (hsx0_17).1; have := (hsx0_17).2; have := (hsx1_17).1; have := (hsx1_17).2; have := (h_29).1; have := (h_29).2; have := (hx2_17).1; have := (hx2_17).2; omega))).1) ((SP3_0 (n := (gm 41 (3 * b.toNatClampNeg + 0)).toNatClampNeg) (fun q9 q8 => hm17 q9 (by have q1 : x3_17.toNatClampNeg = x3_17.toInt.toNat := rfl; have := i32_0; have := i32_1; have := i32_2; have := i32_m1; have := (hsx0_17).1; have := (hsx0_17).2; have := (hsx1_17).1; have := (hsx1_17).2; have := (h_29).1; have := (h_29).2; have := (hx2_17).1; have := (hx2_17).2; omega))).2) _ _ _ hP hD hS (lv_sub hl [0, 1, 2, 3] rfl)
      · have h_30 : iv 0 2 x3_17 := iv_ltL (i32_lt c_28) hx3_17 (iv_k (by decide) : iv 3 3 3) (by decide)
        refine ec_aload_n hx hb dX5_placesArgs_22 rfl (lv_at hl 2 rfl) ?_
        refine cr_get (t := 6) (j := 9) (C := RX5) (T := TX5) (N := 13) (v := eV (ad 26) 0) hx hb htb inX5 hown hK hP hsx0_17 (by decide) (by decide) (by decide) rfl (by decide) (htb _ kw_129) (cV_c rfl (by decide) (by rw [show cMu 6 9 = 0 from rfl, Nat.zero_mul]; rfl)) dX5_placesArgs_23 ?_
        refine lv_iload_n hx hb dX5_placesArgs_26 rfl (lv_at hl 0 rfl) ?_
        refine lv_iconst (v := (-1)) hx hb dX5_placesArgs_27 (by decide) ?_
        refine cr_iast (t := 26) (k := 53) (n9 := (x3_17 : Int32).toNatClampNeg) (z := (-1)) hx hb hK hP hD hS (iv_k (by decide) : iv 0 0 0) (by decide) (by decide) (by decide) rfl rfl rfl (show vp_in x3_17 (cLen 26) from (show vp_in x3_17 3 from (iv_in h_30 (by decide)))) (Or.inl rfl) (by rw [show cAw 26 = 0 from rfl, Nat.zero_mul, Nat.zero_add]) dX5_placesArgs_28 (fun gm_31 H locs egm_31 hP hD hS => ?_)
        have hI_gm_31 := CI_st hI_j17 egm_31 (iv_k (by decide) : iv (-1) (-1) (-1)) (by decide)
        obtain ⟨z_32, ez_32⟩ : ∃ z : Int32, z = x3_17 + 1 := ⟨_, rfl⟩
        have hz_32 : iv 1 3 z_32 := iv_of ez_32 (iv_add h_30 (iv_k (by decide) : iv 1 1 1) (by decide))
        have tz_32 : z_32.toInt = x3_17.toInt + 1 := by rw [ez_32]; exact iv_addE h_30 (iv_k (by decide) : iv 1 1 1) (by decide)
        refine lv_iinc (v := z_32) (lv' := [(3, .int z_32), (2, .int x2_17), (0, eV (ad 6) x), (1, eV (ad 10) b)]) hx hb dX5_placesArgs_29 hl (k := 0) rfl ez_32.symm (by decide) rfl (fun ls hl => ?_)
        refine lv_goto (tgt := 17) hx hb dX5_placesArgs_32 (by decide) ?_
        exact ih17 _ (by rw [← hn17]; exact (iv_meas tz_32 h_30 (by decide))) gm_31 z_32 x2_17 rfl (iv_w hz_32 (by decide)) hx2_17 hsx0_17 hsx1_17 (KS_up (KS_tr (L := [53]) KS_rf hkg_j17 (by decide)) egm_31 (by decide)) hI_gm_31 (hcn17) (fun q9 q8 => by { rw [show gm_31 53 = _ from up_at egm_31]; by_cases q7 : q9 = x3_17.toNatClampNeg; { rw [q7, upd_at] }; { rw [upd_ne q7]; exact hm17 q9 (by have q1 : z_32.toNatClampNeg = z_32.toInt.toNat := rfl; have q1 : x3_17.toNatClampNeg = x3_17.toInt.toNat := rfl; have := i32_0; have := i32_1; have := i32_2; have := i32_m1; have := (hsx0_17).1; have := (hsx0_17).2; have := (hsx1_17).1; have := (hsx1_17).2; have := (h_30).1; have := (h_30).2; have := (hx2_17).1; have := (hx2_17).2; have := (hz_32).1; have := (hz_32).2; omega) } }) _ _ _ hP hD hS (lv_sub hl [0, 1, 2, 3] rfl)
  refine ec_aload_n hx hb dX5_placesArgs_0 rfl (lv_at hl 1 rfl) ?_
  obtain ⟨q_33, hq_33, nq_33, tq_33⟩ := ix_mk (3 * b.toNatClampNeg + 0) 239 (by have q1 := iv_cl hvb (by decide); have q2 := (hvb).2; omega) (by decide)
  refine cr_get (t := 10) (j := 1) (C := RX1) (T := TX1) (N := 19) (v := eV (ad 11) q_33) hx hb htb inX1 hown hK hP hvb (by decide) (by decide) (by decide) rfl (by decide) (htb _ kw_1104) (cV_c rfl hq_33.1 nq_33) dX5_placesArgs_1 ?_
  refine cm_callV (t := 11) (C := RJx4a65c) (T := TJx4a65c) (N := 3) (rest := []) (as := []) ⟨hx, hb, hml, hown, htb⟩ (d_lsize l dC dI ad cid a2 lx sg gm lg q_33 hI hq_33) (cwV 0 htb (gd_V kw_1032 kw_791 kw_792 kw_98 kw_1511) rfl rfl rfl (by decide +kernel) ⟨Nat.le_of_ble_eq_true rfl, Nat.le_of_ble_eq_true rfl⟩) hq_33 (by decide) (by decide) rfl rfl hl.1 rfl (Nat.le_trans cs_n (by decide)) dX5_placesArgs_4 ⟨Nat.le_of_ble_eq_true rfl, Nat.le_of_ble_eq_true rfl⟩ hK hP hD hS hA hG (fun E ce q9 u_35 H locs hw hP hD hS hce hcv hcl => ?_) (fun v9 u_35 H locs hw hP hD hS => ?_)
  · exact hw.elim
  obtain ⟨r_34, rfl, rfl, hr_34, fr_r_34⟩ := hw
  have hP : va_P (dC, dI) vwCl (cW ad cid a2 lx sg gm lg) H := hP
  have hD : va_D A (cW ad cid a2 lx sg gm lg) := hD
  refine W.eq (g2 := F0 m 7 ls [.int r_34]) rfl ?_
  have hcn0 : r_34 = gm 41 (3 * b.toNatClampNeg + 0) := by rw [fr_r_34, show q_33.toNatClampNeg = 3 * b.toNatClampNeg + 0 from nq_33]
  refine lv_istore_n (i := 2) (lv' := [(2, .int r_34), (0, eV (ad 6) x), (1, eV (ad 10) b)]) hx hb dX5_placesArgs_7 rfl hl (by decide) (by simp [List.filter, eV_cat, cat_i, cat_l]) (fun ls hl => ?_)
  refine lv_iload_n hx hb dX5_placesArgs_8 rfl (lv_at hl 0 rfl) ?_
  refine lv_iconst (v := 3) hx hb dX5_placesArgs_9 (by decide) ?_
  refine lv_icmp_le (tgt := 15) hx hb dX5_placesArgs_10 (by decide) (fun c_37 => ?_) (fun c_37 => ?_)
  · have h_38 : iv 0 3 r_34 := iv_leL c_37 hr_34 (iv_k (by decide) : iv 3 3 3) (by decide)
    refine lv_iconst (v := 0) hx hb dX5_placesArgs_15 (by decide) ?_
    refine lv_istore_n (i := 3) (lv' := [(3, .int 0), (2, .int r_34), (0, eV (ad 6) x), (1, eV (ad 10) b)]) hx hb dX5_placesArgs_16 rfl hl (by decide) rfl (fun ls hl => ?_)
    exact hj17 _ gm 0 r_34 rfl (iv_w (iv_k (by decide) : iv 0 0 0) (by decide)) h_38 hvx hvb KS_rf hI (hcn0) (fun _ q9 => absurd q9 (Nat.not_lt_zero _)) _ _ _ hP hD hS (lv_sub hl [0, 1, 2, 3] rfl)
  · have h_39 : iv 4 80 r_34 := iv_ltR (i32_lt c_37) (iv_k (by decide) : iv 3 3 3) hr_34 (by decide)
    refine lv_iconst (v := 0) hx hb dX5_placesArgs_13 (by decide) ?_
    exact W.nb (fun hN => W.widen (k := 1) (n := 6) (by decide) (by decide) (vx_ret (W.zret (v := 0) hx hb hr (iv_nb (iv_w (iv_k (by decide) : iv 0 0 0) (by decide))) (fun t ht hW => ⟨⟨some (.int 0), (sg, gm, lg), rfl, ⟨0, rfl, sg, gm, lg, rfl, hI, KS_rf, KS_rf, KS_rf, (iv_w (iv_k (by decide) : iv 0 0 0) (by decide)), (Or.inl rfl)⟩, by rw [ht]; exact hP, va_K.moved hW.alike hK, hD⟩, hS.F ht, by rw [ht]; exact hN⟩) hS.2.2 dX5_placesArgs_14)))

set_option maxHeartbeats 4000000 in
set_option maxRecDepth 100000 in
theorem d_sumFor (l : Launch) (dC : Nat → ClassId) (dI : Nat → Nat → Nat) (ad : Nat → Nat → Nat) (cid : Nat → ClassId) (a2 : Nat → Nat) (lx : List Nat) (sg : Nat → Int32) (gm : Nat → Nat → Int32) (lg : Nat → Nat → Int64) (x : Int32) (b : Int32) (si : Int32) (dp : Int32) (hI : CI sg gm) (hvx : iv 0 0 x) (hvb : iv 0 79 b) (hvsi : iv 0 63 si) (hvdp : iv 0 39 dp) (hLD : LDI lx gm) (hW : WRD sg gm lg) (hb12 : b.toInt < (sg 12).toInt) (hWK : WKD gm (3 * b.toNatClampNeg + 0) dp.toNatClampNeg 3) (hSPF : SPF (gm 53) (gm 41 (3 * b.toNatClampNeg + 0)).toNatClampNeg) (hN3 : (gm 41 (3 * b.toNatClampNeg + 0)).toNatClampNeg ≤ 3) : CMt dC dI ad cid a2 lx l yX5_sumFor wm_X5_sumFor ({ frames := 3, cells := 1, slots := 6, locals := 69 }) [eV (ad 6) x, eV (ad 10) b, eV (ad 8) si, .int dp] sg gm lg (fun v u => ∃ r : Int32, v = some (.int r) ∧ u = (sg, gm, lg) ∧ (iv (-1) 42 r) ∧ (r.toInt = -1 ∨ (gm 7 si.toNatClampNeg).toInt = (gm 41 (3 * b.toNatClampNeg + 0)).toInt)) (fun _ _ => False) := by
  intro sz
  refine vx_ofW (cc := cX5_sumFor) (maxL := 9) (ret := (some .int)) (by decide) rfl ?_
  intro p e s m args below meth c s₁ B hml hxt hv
  obtain ⟨rfl, hsz, hP, hK, hD0, hG⟩ := hv
  have hx := B.exec
  have hb := B.bytes
  have hr := B.returns
  have hts := atoms_spec (ws := wm_X5_sumFor) B.pre
  have htb := fun (w : Cond) (h : w ∈ tb) => hts w (List.mem_cons_of_mem _ h)
  have hown : s.vm.findClass RX5 = some m.cls := findClass_of_methodNamed B.named
  have hlocks := B.notSynchronized
  subst hsz
  have hD := hD0.self (sz := s.heap.size)
  generalize hAe : va_A (cW ad cid a2 lx sg gm lg) s.heap.size = A at hD hG ⊢
  have hA : ∀ q : Nat, s.heap.size ≤ q → A q := fun q h => by rw [← hAe]; exact Or.inr h
  have hS : va_S A s.heap s.heap [] := va_S.rf
  have hl := lv_entry ([eV (ad 6) x, eV (ad 10) b, eV (ad 8) si, .int dp]) (n := 9) (by rw [show (lg_sl ([eV (ad 6) x, eV (ad 10) b, eV (ad 8) si, .int dp])).length = 4 from by simp [lg_sl, eV_cat, cat_i, cat_l]]; exact Nat.le_of_ble_eq_true rfl)
  rw [lg_entry_eq]
  generalize (lg_sl ([eV (ad 6) x, eV (ad 10) b, eV (ad 8) si, .int dp]) ++ List.replicate (9 - (lg_sl ([eV (ad 6) x, eV (ad 10) b, eV (ad 8) si, .int dp])).length) Slot.unset).toArray = ls at hl ⊢
  have hl : lv_has ls 9 [(0, eV (ad 6) x), (1, eV (ad 10) b), (2, eV (ad 8) si), (3, .int dp)] := by simp [lv_args, eV_cat, cat_i, cat_l] at hl; exact hl
  have hj22 : ∀ (n : Nat) (x5_22 : Int32) (x4_22 : Int32) (_ : (3 - x5_22.toInt).toNat = n) (_ : iv 0 3 x5_22) (_ : iv 0 42 x4_22) (_ : iv 0 0 x) (_ : iv 0 79 b) (_ : iv 0 63 si) (_ : iv 0 39 dp) (_ : x4_22.toInt ≤ 14 * x5_22.toInt) (_ : (gm 7 si.toNatClampNeg).toInt = (gm 41 (3 * b.toNatClampNeg + 0)).toInt) (H : Heap) (locs : List Loc) (ls : Array Slot), va_P (dC, dI) vwCl (cW ad cid a2 lx sg gm lg) H → va_D A (cW ad cid a2 lx sg gm lg) → va_S A s.heap H locs → lv_has ls 9 [(5, .int x5_22), (4, .int x4_22), (0, eV (ad 6) x), (1, eV (ad 10) b), (2, eV (ad 8) si), (3, .int dp)] → W p l e (headSpec wm_X5_sumFor ({ frames := 3, cells := 1, slots := 6, locals := 69 })).room s m ([eV (ad 6) x, eV (ad 10) b, eV (ad 8) si, .int dp] : List Value).toArray below meth c H locs 0 0 (vx_MQ below (cQx dC dI ad cid a2 lx (fun v u => ∃ r : Int32, v = some (.int r) ∧ u = (sg, gm, lg) ∧ (iv (-1) 42 r) ∧ (r.toInt = -1 ∨ (gm 7 si.toNatClampNeg).toInt = (gm 41 (3 * b.toNatClampNeg + 0)).toInt)) A) (cX dC dI ad cid a2 lx (fun _ _ => False) A) ([eV (ad 6) x, eV (ad 10) b, eV (ad 8) si, .int dp] : List Value).toArray s 1 6 A) (F0 m 22 ls []) := by
    intro n
    induction n using Nat.strongRecOn with
    | ind n ih22 =>
      intro x5_22 x4_22 hn22 hx5_22 hx4_22 hsx0_22 hsx1_22 hsx2_22 hsx3_22 hs22 hcs22 H locs ls hP hD hS hl
      refine lv_iload hx hb dX5_sumFor_22 (lv_at hl 0 rfl) ?_
      refine ec_aload_n hx hb dX5_sumFor_24 rfl (lv_at hl 4 rfl) ?_
      refine cr_get (t := 8) (j := 3) (C := RX8) (T := TX8) (N := 7) (v := .int (gm 7 si.toNatClampNeg)) hx hb htb inX8 hown hK hP hsx2_22 (by decide) (by decide) (by decide) rfl (by decide) (htb _ kw_1113) rfl dX5_sumFor_25 ?_
      obtain ⟨z_1, ez_1⟩ : ∃ z : Int32, z = (gm 7 si.toNatClampNeg) := ⟨_, rfl⟩
      refine W.eq (g2 := F0 m 28 ls [.int z_1, .int x5_22]) (by rw [ez_1]) ?_
      have hz_1 : iv 0 3 z_1 := iv_of ez_1 (CI_a hI 7 hsx2_22 (by decide))
      refine lv_icmp_ge (tgt := 125) hx hb dX5_sumFor_28 (by decide) (fun c_2 => ?_) (fun c_2 => ?_)
      · have d_3 : (z_1 : Int32).toInt ≤ (x5_22 : Int32).toInt := Int32.le_iff_toInt_le.mp c_2
        refine lv_iload hx hb dX5_sumFor_125 (lv_at hl 1 rfl) ?_
        exact W.nb (fun hN => W.widen (k := 1) (n := 6) (by decide) (by decide) (vx_ret (W.iret (v := x4_22) hx hb hr (fun t ht hW => ⟨⟨some (.int x4_22), (sg, gm, lg), rfl, ⟨x4_22, rfl, rfl, (iv_w hx4_22 (by decide)), (Or.inr hcs22)⟩, by rw [ht]; exact hP, va_K.moved hW.alike hK, hD⟩, hS.F ht, by rw [ht]; exact hN⟩) hS.2.2 dX5_sumFor_127)))
      · have d_4 : (x5_22 : Int32).toInt < (z_1 : Int32).toInt := Int32.lt_iff_toInt_lt.mp (i32_lt c_2)
        have h_5 : iv 0 2 x5_22 := iv_ltL (i32_lt c_2) hx5_22 hz_1 (by decide)
        have h_6 : iv 1 3 z_1 := iv_ltR (i32_lt c_2) hx5_22 hz_1 (by decide)
        refine ec_aload_n hx hb dX5_sumFor_31 rfl (lv_at hl 3 rfl) ?_
        obtain ⟨q_7, hq_7, nq_7, tq_7⟩ := ix_mk (3 * b.toNatClampNeg + 0) 239 (by have q1 := iv_cl hsx1_22 (by decide); have q2 := (hsx1_22).2; omega) (by decide)
        refine cr_get (t := 10) (j := 1) (C := RX1) (T := TX1) (N := 19) (v := eV (ad 11) q_7) hx hb htb inX1 hown hK hP hsx1_22 (by decide) (by decide) (by decide) rfl (by decide) (htb _ kw_1104) (cV_c rfl hq_7.1 nq_7) dX5_sumFor_32 ?_
        refine ec_aload_n hx hb dX5_sumFor_35 rfl (lv_at hl 2 rfl) ?_
        refine cr_get (t := 6) (j := 9) (C := RX5) (T := TX5) (N := 13) (v := eV (ad 26) 0) hx hb htb inX5 hown hK hP hsx0_22 (by decide) (by decide) (by decide) rfl (by decide) (htb _ kw_129) (cV_c rfl (by decide) (by rw [show cMu 6 9 = 0 from rfl, Nat.zero_mul]; rfl)) dX5_sumFor_36 ?_
        refine lv_iload hx hb dX5_sumFor_39 (lv_at hl 0 rfl) ?_
        refine cr_iald (t := 26) (z := (gm 53 (x5_22 : Int32).toNatClampNeg)) hx hb hK hP (iv_k (by decide) : iv 0 0 0) (by decide) (by decide) (by decide) rfl rfl (show vp_in x5_22 (cLen 26) from (show vp_in x5_22 3 from (iv_in h_5 (by decide)))) rfl dX5_sumFor_41 ?_
        obtain ⟨z_8, ez_8⟩ : ∃ z : Int32, z = (gm 53 (x5_22 : Int32).toNatClampNeg) := ⟨_, rfl⟩
        refine W.eq (g2 := F0 m 42 ls [.int z_8, eV (ad 11) q_7]) (by rw [ez_8]) ?_
        have hz_8 : iv (-1) 2 z_8 := iv_of ez_8 (CI_a hI 53 h_5 (by decide))
        have h_9 : iv 0 2 z_8 := ⟨by rw [ez_8]; exact (hSPF x5_22.toNatClampNeg (by have q8 := hcs22; rw [← ez_1] at q8; have kna : (gm 41 (3 * b.toNatClampNeg + 0)).toNatClampNeg = (gm 41 (3 * b.toNatClampNeg + 0)).toInt.toNat := rfl; have q1 : x5_22.toNatClampNeg = x5_22.toInt.toNat := rfl; have := i32_0; have := i32_1; have := i32_2; have := i32_m1; have := (hsx0_22).1; have := (hsx0_22).2; have := (hsx1_22).1; have := (hsx1_22).2; have := (hsx2_22).1; have := (hsx2_22).2; have := (hsx3_22).1; have := (hsx3_22).2; have := (h_5).1; have := (h_5).2; have := (hx4_22).1; have := (hx4_22).2; have := (h_6).1; have := (h_6).2; have := (hq_7).1; have := (hq_7).2; have := (hz_8).1; have := (hz_8).2; omega)).1, (hz_8).2⟩
        refine cm_callV (t := 11) (C := RJx4a65c) (T := TJx4a65c) (N := 3) (rest := []) (as := [.int z_8]) ⟨hx, hb, hml, hown, htb⟩ (d_lget l dC dI ad cid a2 lx sg gm lg q_7 z_8 hI hq_7 hLD (by have := i32_0; have := i32_1; have := i32_2; have := i32_m1; have := (hsx0_22).1; have := (hsx0_22).2; have := (hsx1_22).1; have := (hsx1_22).2; have := (hsx2_22).1; have := (hsx2_22).2; have := (hsx3_22).1; have := (hsx3_22).2; have := (h_5).1; have := (h_5).2; have := (hx4_22).1; have := (hx4_22).2; have := (h_6).1; have := (h_6).2; have := (hq_7).1; have := (hq_7).2; have := (h_9).1; have := (h_9).2; omega) (by rw [show q_7.toNatClampNeg = 3 * b.toNatClampNeg + 0 from nq_7]; have q1 := (hSPF x5_22.toNatClampNeg (by have q8 := hcs22; rw [← ez_1] at q8; have kna : (gm 41 (3 * b.toNatClampNeg + 0)).toNatClampNeg = (gm 41 (3 * b.toNatClampNeg + 0)).toInt.toNat := rfl; have q1 : x5_22.toNatClampNeg = x5_22.toInt.toNat := rfl; have := i32_0; have := i32_1; have := i32_2; have := i32_m1; have := (hsx0_22).1; have := (hsx0_22).2; have := (hsx1_22).1; have := (hsx1_22).2; have := (hsx2_22).1; have := (hsx2_22).2; have := (hsx3_22).1; have := (hsx3_22).2; have := (h_5).1; have := (h_5).2; have := (hx4_22).1; have := (hx4_22).2; have := (h_6).1; have := (h_6).2; have := (hq_7).1; have := (hq_7).2; have := (h_9).1; have := (h_9).2; omega)).2; rw [← ez_8] at q1; have k9 : (gm 41 (3 * b.toNatClampNeg + 0)).toNatClampNeg = (gm 41 (3 * b.toNatClampNeg + 0)).toInt.toNat := rfl; have k8 := (show iv 0 80 (gm 41 (3 * b.toNatClampNeg + 0)) from CI_n hI 41 (show (3 * b.toNatClampNeg + 0) < crLen 41 from by have := (show b.toNatClampNeg < 80 from by have := iv_cl hvb (by decide); have := hvb.2; omega); show _ < 240; omega)).1; omega)) (cwV 1 htb (gd_V kw_1033 kw_794 kw_795 kw_98 kw_1512) rfl rfl rfl (by decide +kernel) ⟨Nat.le_of_ble_eq_true rfl, Nat.le_of_ble_eq_true rfl⟩) hq_7 (by decide) (by decide) rfl rfl hl.1 rfl (Nat.le_trans cs_n (by decide)) dX5_sumFor_42 ⟨Nat.le_of_ble_eq_true rfl, Nat.le_of_ble_eq_true rfl⟩ hK hP hD hS hA hG (fun E ce q9 u_11 H locs hw hP hD hS hce hcv hcl => ?_) (fun v9 u_11 H locs hw hP hD hS => ?_)
        · exact hw.elim
        obtain ⟨r_10, rfl, rfl, hr_10, fr_r_10⟩ := hw
        have hP : va_P (dC, dI) vwCl (cW ad cid a2 lx sg gm lg) H := hP
        have hD : va_D A (cW ad cid a2 lx sg gm lg) := hD
        refine W.eq (g2 := F0 m 45 ls [eV (ad 9) r_10]) rfl ?_
        have fa_r_10 : r_10 = gm 57 (128 * (3 * b.toNatClampNeg + 0) + z_8.toNatClampNeg) := by rw [fr_r_10, show q_7.toNatClampNeg = 3 * b.toNatClampNeg + 0 from nq_7]
        have hai_r_10 : z_8.toNatClampNeg < (gm 41 (3 * b.toNatClampNeg + 0)).toNatClampNeg := (by have q1 := (hSPF x5_22.toNatClampNeg (by have q8 := hcs22; rw [← ez_1] at q8; have kna : (gm 41 (3 * b.toNatClampNeg + 0)).toNatClampNeg = (gm 41 (3 * b.toNatClampNeg + 0)).toInt.toNat := rfl; have q1 : x5_22.toNatClampNeg = x5_22.toInt.toNat := rfl; have := i32_0; have := i32_1; have := i32_2; have := i32_m1; have := (hsx0_22).1; have := (hsx0_22).2; have := (hsx1_22).1; have := (hsx1_22).2; have := (hsx2_22).1; have := (hsx2_22).2; have := (hsx3_22).1; have := (hsx3_22).2; have := (h_5).1; have := (h_5).2; have := (hx4_22).1; have := (hx4_22).2; have := (h_6).1; have := (h_6).2; have := (hq_7).1; have := (hq_7).2; have := (h_9).1; have := (h_9).2; have := (hr_10).1; have := (hr_10).2; omega)).2; rw [← ez_8] at q1; have q1 : z_8.toNatClampNeg = z_8.toInt.toNat := rfl; have := i32_0; have := i32_1; have := i32_2; have := i32_m1; have := (hsx0_22).1; have := (hsx0_22).2; have := (hsx1_22).1; have := (hsx1_22).2; have := (hsx2_22).1; have := (hsx2_22).2; have := (hsx3_22).1; have := (hsx3_22).2; have := (h_5).1; have := (h_5).2; have := (hx4_22).1; have := (hx4_22).2; have := (h_6).1; have := (h_6).2; have := (hq_7).1; have := (hq_7).2; have := (h_9).1; have := (h_9).2; have := (hr_10).1; have := (hr_10).2; omega)
        have hct_r_10 := arg_in (k := 0) (w := 3) hI hW hLD (Or.inl ⟨rfl, rfl⟩) (lt_cl hvb (show iv 0 80 (sg 12) from CI_s hI 12) (by decide) (by decide) hb12) hai_r_10
        rw [← fa_r_10] at hct_r_10
        refine cl_cast hx hb hG hown (htb _ kw_1027) hK hP hr_10 (by decide) dX5_sumFor_45 ?_
        refine ec_astore (i := 6) (lv' := [(6, eV (ad 9) r_10), (5, .int x5_22), (4, .int x4_22), (0, eV (ad 6) x), (1, eV (ad 10) b), (2, eV (ad 8) si), (3, .int dp)]) hx hb dX5_sumFor_48 hl (by decide) rfl (fun ls hl => ?_)
        refine ec_aload_n hx hb dX5_sumFor_50 rfl (lv_at hl 5 rfl) ?_
        refine cr_get (t := 8) (j := 2) (C := RX8) (T := TX8) (N := 7) (v := eV (ad 27) si) hx hb htb inX8 hown hK hP hsx2_22 (by decide) (by decide) (by decide) rfl (by decide) (htb _ kw_1114) (cV_c rfl (hsx2_22).1 (by rw [show cMu 8 2 = 1 from rfl, Nat.one_mul]; rfl)) dX5_sumFor_51 ?_
        refine lv_iload hx hb dX5_sumFor_54 (lv_at hl 1 rfl) ?_
        refine cr_iald (t := 27) (z := (gm 54 (3 * si.toNatClampNeg + (x5_22 : Int32).toNatClampNeg))) hx hb hK hP hsx2_22 (by decide) (by decide) (by decide) rfl rfl (show vp_in x5_22 (cLen 27) from (show vp_in x5_22 3 from (iv_in h_5 (by decide)))) (cAi_w rfl (by decide) rfl (vin_lt (show vp_in x5_22 (cLen 27) from (show vp_in x5_22 3 from (iv_in h_5 (by decide)))))) dX5_sumFor_56 ?_
        obtain ⟨z_13, ez_13⟩ : ∃ z : Int32, z = (gm 54 (3 * si.toNatClampNeg + (x5_22 : Int32).toNatClampNeg)) := ⟨_, rfl⟩
        refine W.eq (g2 := F0 m 57 ls [.int z_13]) (by rw [ez_13]) ?_
        refine lv_istore (i := 7) (lv' := [(7, .int z_13), (6, eV (ad 9) r_10), (5, .int x5_22), (4, .int x4_22), (0, eV (ad 6) x), (1, eV (ad 10) b), (2, eV (ad 8) si), (3, .int dp)]) hx hb dX5_sumFor_57 hl (by decide) (by simp [List.filter, eV_cat, cat_i, cat_l]) (fun ls hl => ?_)
        refine ec_aload hx hb dX5_sumFor_59 (lv_at hl 1 rfl) ?_
        refine cr_get (t := 9) (j := 17) (C := RX3) (T := TX3) (N := 21) (v := .int (gm 24 r_10.toNatClampNeg)) hx hb htb inX3 hown hK hP hr_10 (by decide) (by decide) (by decide) rfl (by decide) (htb _ kw_1115) rfl dX5_sumFor_61 ?_
        obtain ⟨z_14, ez_14⟩ : ∃ z : Int32, z = (gm 24 r_10.toNatClampNeg) := ⟨_, rfl⟩
        refine W.eq (g2 := F0 m 64 ls [.int z_14]) (by rw [ez_14]) ?_
        have hz_14 : iv (-1) 15 z_14 := iv_of ez_14 (CI_a hI 24 hr_10 (by decide))
        refine lv_iconst (v := (-1)) hx hb dX5_sumFor_64 (by decide) ?_
        refine lv_icmp_eq (tgt := 80) hx hb dX5_sumFor_65 (by decide) (fun c_15 => ?_) (fun c_15 => ?_)
        · have h_16 : iv (-1) (-1) z_14 := iv_eq c_15 hz_14 (iv_k (by decide) : iv (-1) (-1) (-1)) (by decide)
          refine ec_aload_n hx hb dX5_sumFor_80 rfl (lv_at hl 4 rfl) ?_
          refine ec_aload hx hb dX5_sumFor_81 (lv_at hl 1 rfl) ?_
          refine cr_get (t := 9) (j := 19) (C := RX3) (T := TX3) (N := 21) (v := eV (ad 9) (gm 26 r_10.toNatClampNeg)) hx hb htb inX3 hown hK hP hr_10 (by decide) (by decide) (by decide) rfl (by decide) (htb _ kw_1028) rfl dX5_sumFor_83 ?_
          obtain ⟨z_17, ez_17⟩ : ∃ z : Int32, z = (gm 26 r_10.toNatClampNeg) := ⟨_, rfl⟩
          refine W.eq (g2 := F0 m 86 ls [eV (ad 9) z_17, eV (ad 6) x]) (by rw [ez_17]) ?_
          have hz_17 : iv (-1) 79 z_17 := iv_of ez_17 (CI_a hI 26 hr_10 (by decide))
          have h_18 : iv 0 79 z_17 := ⟨by rw [ez_17]; exact hct_r_10.1.1, (hz_17).2⟩
          refine lv_iload_n hx hb dX5_sumFor_86 rfl (lv_at hl 7 rfl) ?_
          refine ec_aload_n hx hb dX5_sumFor_87 rfl (lv_at hl 4 rfl) ?_
          refine cr_get (t := 6) (j := 9) (C := RX5) (T := TX5) (N := 13) (v := eV (ad 26) 0) hx hb htb inX5 hown hK hP hsx0_22 (by decide) (by decide) (by decide) rfl (by decide) (htb _ kw_129) (cV_c rfl (by decide) (by rw [show cMu 6 9 = 0 from rfl, Nat.zero_mul]; rfl)) dX5_sumFor_88 ?_
          refine lv_iload hx hb dX5_sumFor_91 (lv_at hl 2 rfl) ?_
          refine cr_iald (t := 26) (z := (gm 53 (x5_22 : Int32).toNatClampNeg)) hx hb hK hP (iv_k (by decide) : iv 0 0 0) (by decide) (by decide) (by decide) rfl rfl (show vp_in x5_22 (cLen 26) from (show vp_in x5_22 3 from (iv_in h_5 (by decide)))) rfl dX5_sumFor_93 ?_
          refine W.eq (g2 := F0 m 94 ls [.int z_8, .int dp, eV (ad 9) z_17, eV (ad 6) x]) (by rw [show (gm 53 (x5_22 : Int32).toNatClampNeg) = z_8 from ez_8.symm]) ?_
          refine cm_callS (rest := [eV (ad 9) z_17, eV (ad 6) x]) (as := [.int dp, .int z_8]) ⟨hx, hb, hml, hown, htb⟩ (d_slot l dC dI ad cid a2 lx sg gm lg dp z_8 hI hsx3_22 (iv_w h_9 (by decide))) (va_cwS 2 htb (gd_S kw_1030 kw_1031 kw_40 kw_1573) rfl rfl rfl (by decide +kernel) ⟨Nat.le_of_ble_eq_true rfl, Nat.le_of_ble_eq_true rfl⟩)  rfl hl.1 rfl (Nat.le_trans (cs_c (eV_cat _ _) (cs_c (eV_cat _ _) cs_n)) (by decide)) dX5_sumFor_94 ⟨Nat.le_of_ble_eq_true rfl, Nat.le_of_ble_eq_true rfl⟩ hK hP hD hS hA hG (fun E ce q9 u_20 H locs hw hP hD hS hce hcv hcl => ?_) (fun v9 u_20 H locs hw hP hD hS => ?_)
          · exact hw.elim
          obtain ⟨r_19, rfl, rfl, hr_19, fs_r_19⟩ := hw
          have hP : va_P (dC, dI) vwCl (cW ad cid a2 lx sg gm lg) H := hP
          have hD : va_D A (cW ad cid a2 lx sg gm lg) := hD
          refine W.eq (g2 := F0 m 97 ls [.int r_19, eV (ad 9) z_17, eV (ad 6) x]) rfl ?_
          refine lv_iload hx hb dX5_sumFor_97 (lv_at hl 0 rfl) ?_
          refine cm_callV (t := 6) (C := RX5) (T := TX5) (N := 13) (rest := []) (as := [eV (ad 9) z_17, .int r_19, .int z_13]) ⟨hx, hb, hml, hown, htb⟩ (d_weightOf l dC dI ad cid a2 lx sg gm lg x z_17 r_19 z_13 hI hsx0_22 h_18 hr_19 (by rw [ez_17]; have := hct_r_10.1.2.2.1; omega) (by have q1 := hWK z_8.toNatClampNeg (by have q1 : z_8.toNatClampNeg = z_8.toInt.toNat := rfl; have := i32_0; have := i32_1; have := i32_2; have := i32_m1; have := (hsx0_22).1; have := (hsx0_22).2; have := (hsx1_22).1; have := (hsx1_22).2; have := (hsx2_22).1; have := (hsx2_22).2; have := (hsx3_22).1; have := (hsx3_22).2; have := (h_5).1; have := (h_5).2; have := (hx4_22).1; have := (hx4_22).2; have := (h_6).1; have := (h_6).2; have := (hq_7).1; have := (hq_7).2; have := (h_9).1; have := (h_9).2; have := (hr_10).1; have := (hr_10).2; have := (h_16).1; have := (h_16).2; have := (h_18).1; have := (h_18).2; have := (hr_19).1; have := (hr_19).2; omega) hai_r_10; rw [← fa_r_10, ← ez_17] at q1; rw [show r_19.toNatClampNeg = 24 * dp.toNatClampNeg + 6 * z_8.toNatClampNeg from (by have q2 := fs_r_19; have q3 : dp.toNatClampNeg = dp.toInt.toNat := rfl; have q1 : z_8.toNatClampNeg = z_8.toInt.toNat := rfl; have q1 : r_19.toNatClampNeg = r_19.toInt.toNat := rfl; have := i32_0; have := i32_1; have := i32_2; have := i32_m1; have := (hsx0_22).1; have := (hsx0_22).2; have := (hsx1_22).1; have := (hsx1_22).2; have := (hsx2_22).1; have := (hsx2_22).2; have := (hsx3_22).1; have := (hsx3_22).2; have := (h_5).1; have := (h_5).2; have := (hx4_22).1; have := (hx4_22).2; have := (h_6).1; have := (h_6).2; have := (hq_7).1; have := (hq_7).2; have := (h_9).1; have := (h_9).2; have := (hr_10).1; have := (hr_10).2; have := (h_16).1; have := (h_16).2; have := (h_18).1; have := (h_18).2; have := (hr_19).1; have := (hr_19).2; omega)]; exact q1)) (cwV 3 htb (gd_V kw_1040 kw_1041 kw_1042 kw_40 kw_1575) rfl rfl rfl (by decide +kernel) ⟨Nat.le_of_ble_eq_true rfl, Nat.le_of_ble_eq_true rfl⟩) hsx0_22 (by decide) (by decide) rfl rfl hl.1 rfl (Nat.le_trans cs_n (by decide)) dX5_sumFor_99 ⟨Nat.le_of_ble_eq_true rfl, Nat.le_of_ble_eq_true rfl⟩ hK hP hD hS hA hG (fun E ce q9 u_23 H locs hw hP hD hS hce hcv hcl => ?_) (fun v9 u_23 H locs hw hP hD hS => ?_)
          · exact hw.elim
          obtain ⟨r_22, rfl, rfl, hr_22⟩ := hw
          have hP : va_P (dC, dI) vwCl (cW ad cid a2 lx sg gm lg) H := hP
          have hD : va_D A (cW ad cid a2 lx sg gm lg) := hD
          refine W.eq (g2 := F0 m 102 ls [.int r_22]) rfl ?_
          refine lv_istore (i := 8) (lv' := [(8, .int r_22), (7, .int z_13), (6, eV (ad 9) r_10), (5, .int x5_22), (4, .int x4_22), (0, eV (ad 6) x), (1, eV (ad 10) b), (2, eV (ad 8) si), (3, .int dp)]) hx hb dX5_sumFor_102 hl (by decide) rfl (fun ls hl => ?_)
          refine lv_iload hx hb dX5_sumFor_104 (lv_at hl 0 rfl) ?_
          refine lv_iconst (v := (-1)) hx hb dX5_sumFor_106 (by decide) ?_
          refine lv_icmp_ne (tgt := 112) hx hb dX5_sumFor_107 (by decide) (fun c_25 => ?_) (fun c_25 => ?_)
          · have h_26 : iv 0 14 r_22 := iv_neL c_25 hr_22 (by decide)
            refine lv_iload hx hb dX5_sumFor_112 (lv_at hl 4 rfl) ?_
            refine lv_iload hx hb dX5_sumFor_114 (lv_at hl 0 rfl) ?_
            refine lv_iadd hx hb dX5_sumFor_116 ?_
            refine lv_topi (fun z_27 ez_27 => ?_)
            have hz_27 : iv 0 56 z_27 := iv_of ez_27 (iv_add hx4_22 h_26 (by decide))
            have tz_27 : z_27.toInt = (x4_22 : Int32).toInt + (r_22 : Int32).toInt := by rw [ez_27]; exact iv_addE hx4_22 h_26 (by decide)
            refine lv_istore (i := 4) (lv' := [(4, .int z_27), (8, .int r_22), (7, .int z_13), (6, eV (ad 9) r_10), (5, .int x5_22), (0, eV (ad 6) x), (1, eV (ad 10) b), (2, eV (ad 8) si), (3, .int dp)]) hx hb dX5_sumFor_117 hl (by decide) rfl (fun ls hl => ?_)
            have h_28 : iv 0 42 z_27 := ⟨by have := i32_0; have := i32_1; have := i32_2; have := i32_m1; have := (hsx0_22).1; have := (hsx0_22).2; have := (hsx1_22).1; have := (hsx1_22).2; have := (hsx2_22).1; have := (hsx2_22).2; have := (hsx3_22).1; have := (hsx3_22).2; have := (h_5).1; have := (h_5).2; have := (hx4_22).1; have := (hx4_22).2; have := (h_6).1; have := (h_6).2; have := (hq_7).1; have := (hq_7).2; have := (h_9).1; have := (h_9).2; have := (hr_10).1; have := (hr_10).2; have := (h_16).1; have := (h_16).2; have := (h_18).1; have := (h_18).2; have := (hr_19).1; have := (hr_19).2; have := (h_26).1; have := (h_26).2; have := (hz_27).1; have := (hz_27).2; omega, by have := i32_0; have := i32_1; have := i32_2; have := i32_m1; have := (hsx0_22).1; have := (hsx0_22).2; have := (hsx1_22).1; have := (hsx1_22).2; have := (hsx2_22).1; have := (hsx2_22).2; have := (hsx3_22).1; have := (hsx3_22).2; have := (h_5).1; have := (h_5).2; have := (hx4_22).1; have := (hx4_22).2; have := (h_6).1; have := (h_6).2; have := (hq_7).1; have := (hq_7).2; have := (h_9).1; have := (h_9).2; have := (hr_10).1; have := (hr_10).2; have := (h_16).1; have := (h_16).2; have := (h_18).1; have := (h_18).2; have := (hr_19).1; have := (hr_19).2; have := (h_26).1; have := (h_26).2; have := (hz_27).1; have := (hz_27).2; omega⟩
            obtain ⟨z_29, ez_29⟩ : ∃ z : Int32, z = x5_22 + 1 := ⟨_, rfl⟩
            have hz_29 : iv 1 3 z_29 := iv_of ez_29 (iv_add h_5 (iv_k (by decide) : iv 1 1 1) (by decide))
            have tz_29 : z_29.toInt = x5_22.toInt + 1 := by rw [ez_29]; exact iv_addE h_5 (iv_k (by decide) : iv 1 1 1) (by decide)
            refine lv_iinc (v := z_29) (lv' := [(5, .int z_29), (4, .int z_27), (8, .int r_22), (7, .int z_13), (6, eV (ad 9) r_10), (0, eV (ad 6) x), (1, eV (ad 10) b), (2, eV (ad 8) si), (3, .int dp)]) hx hb dX5_sumFor_119 hl (k := 4) rfl ez_29.symm (by decide) rfl (fun ls hl => ?_)
            refine lv_goto (tgt := 22) hx hb dX5_sumFor_122 (by decide) ?_
            exact ih22 _ (by rw [← hn22]; exact (iv_meas tz_29 h_5 (by decide))) z_29 z_27 rfl (iv_w hz_29 (by decide)) h_28 hsx0_22 hsx1_22 hsx2_22 hsx3_22 (by have := i32_0; have := i32_1; have := i32_2; have := i32_m1; have := (hsx0_22).1; have := (hsx0_22).2; have := (hsx1_22).1; have := (hsx1_22).2; have := (hsx2_22).1; have := (hsx2_22).2; have := (hsx3_22).1; have := (hsx3_22).2; have := (h_5).1; have := (h_5).2; have := (hx4_22).1; have := (hx4_22).2; have := (h_6).1; have := (h_6).2; have := (hq_7).1; have := (hq_7).2; have := (h_9).1; have := (h_9).2; have := (hr_10).1; have := (hr_10).2; have := (h_16).1; have := (h_16).2; have := (h_18).1; have := (h_18).2; have := (hr_19).1; have := (hr_19).2; have := (h_26).1; have := (h_26).2; have := (h_28).1; have := (h_28).2; have := (hz_29).1; have := (hz_29).2; omega) (hcs22) _ _ _ hP hD hS (lv_sub hl [0, 1, 5, 6, 7, 8] rfl)
          · have h_30 : iv (-1) (-1) r_22 := iv_eq c_25 hr_22 (iv_k (by decide) : iv (-1) (-1) (-1)) (by decide)
            refine lv_iconst (v := (-1)) hx hb dX5_sumFor_110 (by decide) ?_
            exact W.nb (fun hN => W.widen (k := 1) (n := 6) (by decide) (by decide) (vx_ret (W.iret (v := (-1)) hx hb hr (fun t ht hW => ⟨⟨some (.int (-1)), (sg, gm, lg), rfl, ⟨(-1), rfl, rfl, (iv_w (iv_k (by decide) : iv (-1) (-1) (-1)) (by decide)), (Or.inl rfl)⟩, by rw [ht]; exact hP, va_K.moved hW.alike hK, hD⟩, hS.F ht, by rw [ht]; exact hN⟩) hS.2.2 dX5_sumFor_111)))
        · have h_31 : iv 0 15 z_14 := iv_neL c_15 hz_14 (by decide)
          refine ec_aload hx hb dX5_sumFor_68 (lv_at hl 1 rfl) ?_
          refine cr_get (t := 9) (j := 17) (C := RX3) (T := TX3) (N := 21) (v := .int (gm 24 r_10.toNatClampNeg)) hx hb htb inX3 hown hK hP hr_10 (by decide) (by decide) (by decide) rfl (by decide) (htb _ kw_1115) rfl dX5_sumFor_70 ?_
          refine W.eq (g2 := F0 m 73 ls [.int z_14]) (by rw [show (gm 24 r_10.toNatClampNeg) = z_14 from ez_14.symm]) ?_
          refine lv_iload hx hb dX5_sumFor_73 (lv_at hl 0 rfl) ?_
          refine lv_icmp_eq (tgt := 80) hx hb dX5_sumFor_75 (by decide) (fun c_32 => ?_) (fun c_32 => ?_)
          · have d_33 : (z_14 : Int32).toInt = (z_13 : Int32).toInt := congrArg Int32.toInt c_32
            have h_34 : iv 0 15 z_13 := iv_eq (Eq.symm c_32) (iv_all z_13) h_31 (by decide)
            refine ec_aload_n hx hb dX5_sumFor_80 rfl (lv_at hl 4 rfl) ?_
            refine ec_aload hx hb dX5_sumFor_81 (lv_at hl 1 rfl) ?_
            refine cr_get (t := 9) (j := 19) (C := RX3) (T := TX3) (N := 21) (v := eV (ad 9) (gm 26 r_10.toNatClampNeg)) hx hb htb inX3 hown hK hP hr_10 (by decide) (by decide) (by decide) rfl (by decide) (htb _ kw_1028) rfl dX5_sumFor_83 ?_
            obtain ⟨z_35, ez_35⟩ : ∃ z : Int32, z = (gm 26 r_10.toNatClampNeg) := ⟨_, rfl⟩
            refine W.eq (g2 := F0 m 86 ls [eV (ad 9) z_35, eV (ad 6) x]) (by rw [ez_35]) ?_
            have hz_35 : iv (-1) 79 z_35 := iv_of ez_35 (CI_a hI 26 hr_10 (by decide))
            have h_36 : iv 0 79 z_35 := ⟨by rw [ez_35]; exact hct_r_10.1.1, (hz_35).2⟩
            refine lv_iload_n hx hb dX5_sumFor_86 rfl (lv_at hl 7 rfl) ?_
            refine ec_aload_n hx hb dX5_sumFor_87 rfl (lv_at hl 4 rfl) ?_
            refine cr_get (t := 6) (j := 9) (C := RX5) (T := TX5) (N := 13) (v := eV (ad 26) 0) hx hb htb inX5 hown hK hP hsx0_22 (by decide) (by decide) (by decide) rfl (by decide) (htb _ kw_129) (cV_c rfl (by decide) (by rw [show cMu 6 9 = 0 from rfl, Nat.zero_mul]; rfl)) dX5_sumFor_88 ?_
            refine lv_iload hx hb dX5_sumFor_91 (lv_at hl 2 rfl) ?_
            refine cr_iald (t := 26) (z := (gm 53 (x5_22 : Int32).toNatClampNeg)) hx hb hK hP (iv_k (by decide) : iv 0 0 0) (by decide) (by decide) (by decide) rfl rfl (show vp_in x5_22 (cLen 26) from (show vp_in x5_22 3 from (iv_in h_5 (by decide)))) rfl dX5_sumFor_93 ?_
            refine W.eq (g2 := F0 m 94 ls [.int z_8, .int dp, eV (ad 9) z_35, eV (ad 6) x]) (by rw [show (gm 53 (x5_22 : Int32).toNatClampNeg) = z_8 from ez_8.symm]) ?_
            refine cm_callS (rest := [eV (ad 9) z_35, eV (ad 6) x]) (as := [.int dp, .int z_8]) ⟨hx, hb, hml, hown, htb⟩ (d_slot l dC dI ad cid a2 lx sg gm lg dp z_8 hI hsx3_22 (iv_w h_9 (by decide))) (va_cwS 2 htb (gd_S kw_1030 kw_1031 kw_40 kw_1573) rfl rfl rfl (by decide +kernel) ⟨Nat.le_of_ble_eq_true rfl, Nat.le_of_ble_eq_true rfl⟩)  rfl hl.1 rfl (Nat.le_trans (cs_c (eV_cat _ _) (cs_c (eV_cat _ _) cs_n)) (by decide)) dX5_sumFor_94 ⟨Nat.le_of_ble_eq_true rfl, Nat.le_of_ble_eq_true rfl⟩ hK hP hD hS hA hG (fun E ce q9 u_38 H locs hw hP hD hS hce hcv hcl => ?_) (fun v9 u_38 H locs hw hP hD hS => ?_)
            · exact hw.elim
            obtain ⟨r_37, rfl, rfl, hr_37, fs_r_37⟩ := hw
            have hP : va_P (dC, dI) vwCl (cW ad cid a2 lx sg gm lg) H := hP
            have hD : va_D A (cW ad cid a2 lx sg gm lg) := hD
            refine W.eq (g2 := F0 m 97 ls [.int r_37, eV (ad 9) z_35, eV (ad 6) x]) rfl ?_
            refine lv_iload hx hb dX5_sumFor_97 (lv_at hl 0 rfl) ?_
            refine cm_callV (t := 6) (C := RX5) (T := TX5) (N := 13) (rest := []) (as := [eV (ad 9) z_35, .int r_37, .int z_13]) ⟨hx, hb, hml, hown, htb⟩ (d_weightOf l dC dI ad cid a2 lx sg gm lg x z_35 r_37 z_13 hI hsx0_22 h_36 hr_37 (by rw [ez_35]; have := hct_r_10.1.2.2.1; omega) (by have q1 := hWK z_8.toNatClampNeg (by have q1 : z_8.toNatClampNeg = z_8.toInt.toNat := rfl; have := i32_0; have := i32_1; have := i32_2; have := i32_m1; have := (hsx0_22).1; have := (hsx0_22).2; have := (hsx1_22).1; have := (hsx1_22).2; have := (hsx2_22).1; have := (hsx2_22).2; have := (hsx3_22).1; have := (hsx3_22).2; have := (h_5).1; have := (h_5).2; have := (hx4_22).1; have := (hx4_22).2; have := (h_6).1; have := (h_6).2; have := (hq_7).1; have := (hq_7).2; have := (h_9).1; have := (h_9).2; have := (hr_10).1; have := (hr_10).2; have := (h_31).1; have := (h_31).2; have := (h_34).1; have := (h_34).2; have := (h_36).1; have := (h_36).2; have := (hr_37).1; have := (hr_37).2; omega) hai_r_10; rw [← fa_r_10, ← ez_35] at q1; rw [show r_37.toNatClampNeg = 24 * dp.toNatClampNeg + 6 * z_8.toNatClampNeg from (by have q2 := fs_r_37; have q3 : dp.toNatClampNeg = dp.toInt.toNat := rfl; have q1 : z_8.toNatClampNeg = z_8.toInt.toNat := rfl; have q1 : r_37.toNatClampNeg = r_37.toInt.toNat := rfl; have := i32_0; have := i32_1; have := i32_2; have := i32_m1; have := (hsx0_22).1; have := (hsx0_22).2; have := (hsx1_22).1; have := (hsx1_22).2; have := (hsx2_22).1; have := (hsx2_22).2; have := (hsx3_22).1; have := (hsx3_22).2; have := (h_5).1; have := (h_5).2; have := (hx4_22).1; have := (hx4_22).2; have := (h_6).1; have := (h_6).2; have := (hq_7).1; have := (hq_7).2; have := (h_9).1; have := (h_9).2; have := (hr_10).1; have := (hr_10).2; have := (h_31).1; have := (h_31).2; have := (h_34).1; have := (h_34).2; have := (h_36).1; have := (h_36).2; have := (hr_37).1; have := (hr_37).2; omega)]; exact q1)) (cwV 3 htb (gd_V kw_1040 kw_1041 kw_1042 kw_40 kw_1575) rfl rfl rfl (by decide +kernel) ⟨Nat.le_of_ble_eq_true rfl, Nat.le_of_ble_eq_true rfl⟩) hsx0_22 (by decide) (by decide) rfl rfl hl.1 rfl (Nat.le_trans cs_n (by decide)) dX5_sumFor_99 ⟨Nat.le_of_ble_eq_true rfl, Nat.le_of_ble_eq_true rfl⟩ hK hP hD hS hA hG (fun E ce q9 u_41 H locs hw hP hD hS hce hcv hcl => ?_) (fun v9 u_41 H locs hw hP hD hS => ?_)
            · exact hw.elim
            obtain ⟨r_40, rfl, rfl, hr_40⟩ := hw
            have hP : va_P (dC, dI) vwCl (cW ad cid a2 lx sg gm lg) H := hP
            have hD : va_D A (cW ad cid a2 lx sg gm lg) := hD
            refine W.eq (g2 := F0 m 102 ls [.int r_40]) rfl ?_
            refine lv_istore (i := 8) (lv' := [(8, .int r_40), (7, .int z_13), (6, eV (ad 9) r_10), (5, .int x5_22), (4, .int x4_22), (0, eV (ad 6) x), (1, eV (ad 10) b), (2, eV (ad 8) si), (3, .int dp)]) hx hb dX5_sumFor_102 hl (by decide) rfl (fun ls hl => ?_)
            refine lv_iload hx hb dX5_sumFor_104 (lv_at hl 0 rfl) ?_
            refine lv_iconst (v := (-1)) hx hb dX5_sumFor_106 (by decide) ?_
            refine lv_icmp_ne (tgt := 112) hx hb dX5_sumFor_107 (by decide) (fun c_43 => ?_) (fun c_43 => ?_)
            · have h_44 : iv 0 14 r_40 := iv_neL c_43 hr_40 (by decide)
              refine lv_iload hx hb dX5_sumFor_112 (lv_at hl 4 rfl) ?_
              refine lv_iload hx hb dX5_sumFor_114 (lv_at hl 0 rfl) ?_
              refine lv_iadd hx hb dX5_sumFor_116 ?_
              refine lv_topi (fun z_45 ez_45 => ?_)
              have hz_45 : iv 0 56 z_45 := iv_of ez_45 (iv_add hx4_22 h_44 (by decide))
              have tz_45 : z_45.toInt = (x4_22 : Int32).toInt + (r_40 : Int32).toInt := by rw [ez_45]; exact iv_addE hx4_22 h_44 (by decide)
              refine lv_istore (i := 4) (lv' := [(4, .int z_45), (8, .int r_40), (7, .int z_13), (6, eV (ad 9) r_10), (5, .int x5_22), (0, eV (ad 6) x), (1, eV (ad 10) b), (2, eV (ad 8) si), (3, .int dp)]) hx hb dX5_sumFor_117 hl (by decide) rfl (fun ls hl => ?_)
              have h_46 : iv 0 42 z_45 := ⟨by have := i32_0; have := i32_1; have := i32_2; have := i32_m1; have := (hsx0_22).1; have := (hsx0_22).2; have := (hsx1_22).1; have := (hsx1_22).2; have := (hsx2_22).1; have := (hsx2_22).2; have := (hsx3_22).1; have := (hsx3_22).2; have := (h_5).1; have := (h_5).2; have := (hx4_22).1; have := (hx4_22).2; have := (h_6).1; have := (h_6).2; have := (hq_7).1; have := (hq_7).2; have := (h_9).1; have := (h_9).2; have := (hr_10).1; have := (hr_10).2; have := (h_31).1; have := (h_31).2; have := (h_34).1; have := (h_34).2; have := (h_36).1; have := (h_36).2; have := (hr_37).1; have := (hr_37).2; have := (h_44).1; have := (h_44).2; have := (hz_45).1; have := (hz_45).2; omega, by have := i32_0; have := i32_1; have := i32_2; have := i32_m1; have := (hsx0_22).1; have := (hsx0_22).2; have := (hsx1_22).1; have := (hsx1_22).2; have := (hsx2_22).1; have := (hsx2_22).2; have := (hsx3_22).1; have := (hsx3_22).2; have := (h_5).1; have := (h_5).2; have := (hx4_22).1; have := (hx4_22).2; have := (h_6).1; have := (h_6).2; have := (hq_7).1; have := (hq_7).2; have := (h_9).1; have := (h_9).2; have := (hr_10).1; have := (hr_10).2; have := (h_31).1; have := (h_31).2; have := (h_34).1; have := (h_34).2; have := (h_36).1; have := (h_36).2; have := (hr_37).1; have := (hr_37).2; have := (h_44).1; have := (h_44).2; have := (hz_45).1; have := (hz_45).2; omega⟩
              obtain ⟨z_47, ez_47⟩ : ∃ z : Int32, z = x5_22 + 1 := ⟨_, rfl⟩
              have hz_47 : iv 1 3 z_47 := iv_of ez_47 (iv_add h_5 (iv_k (by decide) : iv 1 1 1) (by decide))
              have tz_47 : z_47.toInt = x5_22.toInt + 1 := by rw [ez_47]; exact iv_addE h_5 (iv_k (by decide) : iv 1 1 1) (by decide)
              refine lv_iinc (v := z_47) (lv' := [(5, .int z_47), (4, .int z_45), (8, .int r_40), (7, .int z_13), (6, eV (ad 9) r_10), (0, eV (ad 6) x), (1, eV (ad 10) b), (2, eV (ad 8) si), (3, .int dp)]) hx hb dX5_sumFor_119 hl (k := 4) rfl ez_47.symm (by decide) rfl (fun ls hl => ?_)
              refine lv_goto (tgt := 22) hx hb dX5_sumFor_122 (by decide) ?_
              exact ih22 _ (by rw [← hn22]; exact (iv_meas tz_47 h_5 (by decide))) z_47 z_45 rfl (iv_w hz_47 (by decide)) h_46 hsx0_22 hsx1_22 hsx2_22 hsx3_22 (by have := i32_0; have := i32_1; have := i32_2; have := i32_m1; have := (hsx0_22).1; have := (hsx0_22).2; have := (hsx1_22).1; have := (hsx1_22).2; have := (hsx2_22).1; have := (hsx2_22).2; have := (hsx3_22).1; have := (hsx3_22).2; have := (h_5).1; have := (h_5).2; have := (hx4_22).1; have := (hx4_22).2; have := (h_6).1; have := (h_6).2; have := (hq_7).1; have := (hq_7).2; have := (h_9).1; have := (h_9).2; have := (hr_10).1; have := (hr_10).2; have := (h_31).1; have := (h_31).2; have := (h_34).1; have := (h_34).2; have := (h_36).1; have := (h_36).2; have := (hr_37).1; have := (hr_37).2; have := (h_44).1; have := (h_44).2; have := (h_46).1; have := (h_46).2; have := (hz_47).1; have := (hz_47).2; omega) (hcs22) _ _ _ hP hD hS (lv_sub hl [0, 1, 5, 6, 7, 8] rfl)
            · have h_48 : iv (-1) (-1) r_40 := iv_eq c_43 hr_40 (iv_k (by decide) : iv (-1) (-1) (-1)) (by decide)
              refine lv_iconst (v := (-1)) hx hb dX5_sumFor_110 (by decide) ?_
              exact W.nb (fun hN => W.widen (k := 1) (n := 6) (by decide) (by decide) (vx_ret (W.iret (v := (-1)) hx hb hr (fun t ht hW => ⟨⟨some (.int (-1)), (sg, gm, lg), rfl, ⟨(-1), rfl, rfl, (iv_w (iv_k (by decide) : iv (-1) (-1) (-1)) (by decide)), (Or.inl rfl)⟩, by rw [ht]; exact hP, va_K.moved hW.alike hK, hD⟩, hS.F ht, by rw [ht]; exact hN⟩) hS.2.2 dX5_sumFor_111)))
          · refine lv_iconst (v := (-1)) hx hb dX5_sumFor_78 (by decide) ?_
            exact W.nb (fun hN => W.widen (k := 1) (n := 6) (by decide) (by decide) (vx_ret (W.iret (v := (-1)) hx hb hr (fun t ht hW => ⟨⟨some (.int (-1)), (sg, gm, lg), rfl, ⟨(-1), rfl, rfl, (iv_w (iv_k (by decide) : iv (-1) (-1) (-1)) (by decide)), (Or.inl rfl)⟩, by rw [ht]; exact hP, va_K.moved hW.alike hK, hD⟩, hS.F ht, by rw [ht]; exact hN⟩) hS.2.2 dX5_sumFor_79)))
  refine ec_aload_n hx hb dX5_sumFor_0 rfl (lv_at hl 2 rfl) ?_
  refine cr_get (t := 8) (j := 3) (C := RX8) (T := TX8) (N := 7) (v := .int (gm 7 si.toNatClampNeg)) hx hb htb inX8 hown hK hP hvsi (by decide) (by decide) (by decide) rfl (by decide) (htb _ kw_1113) rfl dX5_sumFor_1 ?_
  obtain ⟨z_49, ez_49⟩ : ∃ z : Int32, z = (gm 7 si.toNatClampNeg) := ⟨_, rfl⟩
  refine W.eq (g2 := F0 m 4 ls [.int z_49]) (by rw [ez_49]) ?_
  have hz_49 : iv 0 3 z_49 := iv_of ez_49 (CI_a hI 7 hvsi (by decide))
  refine ec_aload_n hx hb dX5_sumFor_4 rfl (lv_at hl 1 rfl) ?_
  obtain ⟨q_50, hq_50, nq_50, tq_50⟩ := ix_mk (3 * b.toNatClampNeg + 0) 239 (by have q1 := iv_cl hvb (by decide); have q2 := (hvb).2; omega) (by decide)
  refine cr_get (t := 10) (j := 1) (C := RX1) (T := TX1) (N := 19) (v := eV (ad 11) q_50) hx hb htb inX1 hown hK hP hvb (by decide) (by decide) (by decide) rfl (by decide) (htb _ kw_1104) (cV_c rfl hq_50.1 nq_50) dX5_sumFor_5 ?_
  refine cm_callV (t := 11) (C := RJx4a65c) (T := TJx4a65c) (N := 3) (rest := [.int z_49]) (as := []) ⟨hx, hb, hml, hown, htb⟩ (d_lsize l dC dI ad cid a2 lx sg gm lg q_50 hI hq_50) (cwV 0 htb (gd_V kw_1032 kw_791 kw_792 kw_98 kw_1511) rfl rfl rfl (by decide +kernel) ⟨Nat.le_of_ble_eq_true rfl, Nat.le_of_ble_eq_true rfl⟩) hq_50 (by decide) (by decide) rfl rfl hl.1 rfl (Nat.le_trans (cs_c (cat_i _) cs_n) (by decide)) dX5_sumFor_8 ⟨Nat.le_of_ble_eq_true rfl, Nat.le_of_ble_eq_true rfl⟩ hK hP hD hS hA hG (fun E ce q9 u_52 H locs hw hP hD hS hce hcv hcl => ?_) (fun v9 u_52 H locs hw hP hD hS => ?_)
  · exact hw.elim
  obtain ⟨r_51, rfl, rfl, hr_51, fr_r_51⟩ := hw
  have hP : va_P (dC, dI) vwCl (cW ad cid a2 lx sg gm lg) H := hP
  have hD : va_D A (cW ad cid a2 lx sg gm lg) := hD
  refine W.eq (g2 := F0 m 11 ls [.int r_51, .int z_49]) rfl ?_
  have hcn : r_51 = gm 41 (3 * b.toNatClampNeg + 0) := by rw [fr_r_51, show q_50.toNatClampNeg = 3 * b.toNatClampNeg + 0 from nq_50]
  refine lv_icmp_eq (tgt := 16) hx hb dX5_sumFor_11 (by decide) (fun c_54 => ?_) (fun c_54 => ?_)
  · have d_55 : (z_49 : Int32).toInt = (r_51 : Int32).toInt := congrArg Int32.toInt c_54
    have h_56 : iv 0 3 r_51 := iv_eq (Eq.symm c_54) hr_51 hz_49 (by decide)
    refine lv_iconst (v := 0) hx hb dX5_sumFor_16 (by decide) ?_
    refine lv_istore (i := 4) (lv' := [(4, .int 0), (0, eV (ad 6) x), (1, eV (ad 10) b), (2, eV (ad 8) si), (3, .int dp)]) hx hb dX5_sumFor_17 hl (by decide) rfl (fun ls hl => ?_)
    refine lv_iconst (v := 0) hx hb dX5_sumFor_19 (by decide) ?_
    refine lv_istore (i := 5) (lv' := [(5, .int 0), (4, .int 0), (0, eV (ad 6) x), (1, eV (ad 10) b), (2, eV (ad 8) si), (3, .int dp)]) hx hb dX5_sumFor_20 hl (by decide) rfl (fun ls hl => ?_)
    exact hj22 _ 0 0 rfl (iv_w (iv_k (by decide) : iv 0 0 0) (by decide)) (iv_w (iv_k (by decide) : iv 0 0 0) (by decide)) hvx hvb hvsi hvdp (by have := i32_0; have := i32_1; have := i32_2; have := i32_m1; have := (hvx).1; have := (hvx).2; have := (hvb).1; have := (hvb).2; have := (hvsi).1; have := (hvsi).2; have := (hvdp).1; have := (hvdp).2; have := (hz_49).1; have := (hz_49).2; have := (hq_50).1; have := (hq_50).2; have := (h_56).1; have := (h_56).2; omega) ((by have q41 := congrArg Int32.toInt hcn; rw [← ez_49]; have := i32_0; have := i32_1; have := i32_2; have := i32_m1; have := (hvx).1; have := (hvx).2; have := (hvb).1; have := (hvb).2; have := (hvsi).1; have := (hvsi).2; have := (hvdp).1; have := (hvdp).2; have := (hz_49).1; have := (hz_49).2; have := (hq_50).1; have := (hq_50).2; have := (h_56).1; have := (h_56).2; omega)) _ _ _ hP hD hS (lv_sub hl [0, 1, 2, 3, 4, 5] rfl)
  · refine lv_iconst (v := (-1)) hx hb dX5_sumFor_14 (by decide) ?_
    exact W.nb (fun hN => W.widen (k := 1) (n := 6) (by decide) (by decide) (vx_ret (W.iret (v := (-1)) hx hb hr (fun t ht hW => ⟨⟨some (.int (-1)), (sg, gm, lg), rfl, ⟨(-1), rfl, rfl, (iv_w (iv_k (by decide) : iv (-1) (-1) (-1)) (by decide)), (Or.inl rfl)⟩, by rw [ht]; exact hP, va_K.moved hW.alike hK, hD⟩, hS.F ht, by rw [ht]; exact hN⟩) hS.2.2 dX5_sumFor_15)))
