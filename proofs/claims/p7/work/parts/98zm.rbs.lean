def en7 (k : Nat) : Int := match k with | 0 => 422607679091 | 1 => 418430673267 | 2 => 1650811246 | 3 => 6386279 | 4 => 7562612 | 5 => 1818850164 | 6 => 508440638821 | 7 => 7497062 | 8 => 1853189228 | _ => 119225866483056
def kp7 (v : Int) : Nat → Int
  | 0 => 0
  | k + 1 => if v = en7 k then (k : Int) + 1 else kp7 v k
theorem kp7_e (v : Int) : kp7 v 10 = kd7 v := by
  by_cases h0 : v = 422607679091
  · subst h0; decide
  by_cases h1 : v = 418430673267
  · subst h1; decide
  by_cases h2 : v = 1650811246
  · subst h2; decide
  by_cases h3 : v = 6386279
  · subst h3; decide
  by_cases h4 : v = 7562612
  · subst h4; decide
  by_cases h5 : v = 1818850164
  · subst h5; decide
  by_cases h6 : v = 508440638821
  · subst h6; decide
  by_cases h7 : v = 7497062
  · subst h7; decide
  by_cases h8 : v = 1853189228
  · subst h8; decide
  by_cases h9 : v = 119225866483056
  · subst h9; decide
  simp only [kp7, en7, kd7, if_neg h0, if_neg h1, if_neg h2, if_neg h3, if_neg h4, if_neg h5, if_neg h6, if_neg h7, if_neg h8, if_neg h9]
theorem WRD7_0 {l0 l1 : Nat → Int64} (h : WRD7 l0 l1) {k : Nat} (hk : k < 10) : (l0 k).toInt = en7 k := by
  obtain ⟨⟨b0, b1, b2, b3, b4, b5, b6, b7, b8, b9⟩, _⟩ := h
  rcases (show k = 0 ∨ k = 1 ∨ k = 2 ∨ k = 3 ∨ k = 4 ∨ k = 5 ∨ k = 6 ∨ k = 7 ∨ k = 8 ∨ k = 9 by omega) with rfl | rfl | rfl | rfl | rfl | rfl | rfl | rfl | rfl | rfl
  · rw [b0]; decide
  · rw [b1]; decide
  · rw [b2]; decide
  · rw [b3]; decide
  · rw [b4]; decide
  · rw [b5]; decide
  · rw [b6]; decide
  · rw [b7]; decide
  · rw [b8]; decide
  · rw [b9]; decide
def SR7 (D : List El7) : Prop := (∀ x, x < D.length → GOODR D x) ∧ (D.length = 0 ∨ dKd D 0 = 1)
theorem TR_of {ch : Nat → Int} {D : List El7} {sg : Nat → Int32} {gm : Nat → Nat → Int32} {lg : Nat → Nat → Int64} (h : RDR ch D sg gm lg) (hT : TRE sg gm) (hm : ∀ x, x < D.length → -1 ≤ (gm 28 x).toInt) : TR7 D := by
  intro x hx
  have hn : (sg 24).toNatClampNeg = D.length := by have := h.1; show (sg 24).toInt.toNat = _; omega
  have a1 := (RDR_f h hx).1
  have a2 := hT.1 x (by omega)
  have a3 := hm x hx
  omega
theorem STR_of {ch : Nat → Int} {D : List El7} {sg : Nat → Int32} {gm : Nat → Nat → Int32} {lg : Nat → Nat → Int64} (hP : PD7 D) (h : RDR ch D sg gm lg) (hR : ∀ j, j < D.length → RL7 D gm lg j) (hK : KN7 D gm D.length) (hs : SR7 D) : STR sg gm lg := by
  have hn : (sg 24).toNatClampNeg = D.length := by have := h.1; show (sg 24).toInt.toNat = _; omega
  refine ⟨fun k hk => GOOD_of hP (by omega) hR hK (hs.1 k (by omega)), ?_⟩
  rcases hs.2 with q | q
  · exact Or.inl (by have := h.1; omega)
  · rcases Nat.eq_zero_or_pos D.length with z | z
    · exact Or.inl (by have := h.1; omega)
    · exact Or.inr (by rw [hK 0 z]; exact q)

set_option maxHeartbeats 4000000 in
set_option maxRecDepth 100000 in
theorem f_badStructure2 (l : Launch) (dC : Nat → ClassId) (dI : Nat → Nat → Nat) (h0 : Nat) (ad : Nat → Nat) (cid : Nat → ClassId) (sg : Nat → Int32) (gm : Nat → Nat → Int32) (lg : Nat → Nat → Int64) (ch : Nat → Int) (D : List El7) (hI : MI sg gm) (hTR : TRE sg gm) (hRD : RDR ch D sg gm lg) (hPD : PD7 D) (hwd : WRD7 (lg 0) (lg 1)) : MMi l dC dI yX13_badStructure wm_X13_badStructure ({ frames := 5, cells := 0, slots := 0, locals := 125 }) h0 ad cid [] sg gm lg (fun r v => ∃ (sg2 : Nat → Int32) (gm2 : Nat → Nat → Int32) (lg2 : Nat → Nat → Int64), v = (sg2, gm2, lg2) ∧ MI sg2 gm2 ∧ KS [] sg sg2 ∧ KS [26] gm gm2 ∧ KS [] lg lg2 ∧ (iv (-1) 79 r) ∧ (0 ≤ r.toInt ∨ STR sg2 gm2 lg2) ∧ (KN7 D gm2 D.length) ∧ ((r.toInt = -1 ∧ SR7 D) ∨ (0 ≤ r.toInt ∧ ¬ SR7 D))) := by
  intro sz
  refine Met.ofW (cc := cX13_badStructure) (maxL := 3) (ret := (some .int)) (by decide) rfl ?_
  intro p e s m args below meth c s₁ B hml hv
  obtain ⟨rfl, hsz, hP, hK, hD0⟩ := hv
  have hx := B.exec
  have hb := B.bytes
  have hr := B.returns
  have hts := atoms_spec (ws := wm_X13_badStructure) B.pre
  have htb := fun (w : Cond) (h : w ∈ tb) => hts w (List.mem_cons_of_mem _ h)
  have hown : s.vm.findClass RX13 = some m.cls := findClass_of_methodNamed B.named
  have hlocks := B.notSynchronized
  subst hsz
  have hD := hD0.self (sz := s.heap.size)
  generalize hAe : va_A (mW h0 ad cid sg gm lg) s.heap.size = A at hD ⊢
  have hA : ∀ q : Nat, s.heap.size ≤ q → A q := fun q h => by rw [← hAe]; exact Or.inr h
  have hS : va_S A s.heap s.heap [] := va_S.rf
  have hl := lv_entry ([.ref h0]) (n := 3) (Nat.le_of_ble_eq_true rfl)
  rw [lg_entry_eq]
  generalize (lg_sl ([.ref h0]) ++ List.replicate (3 - (lg_sl ([.ref h0])).length) Slot.unset).toArray = ls at hl ⊢
  have hl : lv_has ls 3 [(0, .ref h0)] := hl
  have hj103 : ∀ (gm_j103 : Nat → Nat → Int32) (x1_103 : Int32) (_ : iv 0 79 x1_103) (_ : KS [26] gm gm_j103) (_ : MI sg gm_j103) (_ : KN7 D gm_j103 D.length) (_ : ¬ SR7 D) (H : Heap) (locs : List Loc) (ls : Array Slot), va_P (dC, dI) vwCl (mW h0 ad cid sg gm_j103 lg) H → va_D A (mW h0 ad cid sg gm_j103 lg) → va_S A s.heap H locs → lv_has ls 3 [(1, .int x1_103), (0, .ref h0)] → W p l e (headSpec wm_X13_badStructure ({ frames := 5, cells := 0, slots := 0, locals := 125 })).room s m ([.ref h0] : List Value).toArray below meth c H locs 0 0 (MQ below (va_Qi (fun r v => ∃ (sg2 : Nat → Int32) (gm2 : Nat → Nat → Int32) (lg2 : Nat → Nat → Int64), v = (sg2, gm2, lg2) ∧ MI sg2 gm2 ∧ KS [] sg sg2 ∧ KS [26] gm gm2 ∧ KS [] lg lg2 ∧ (iv (-1) 79 r) ∧ (0 ≤ r.toInt ∨ STR sg2 gm2 lg2) ∧ (KN7 D gm2 D.length) ∧ ((r.toInt = -1 ∧ SR7 D) ∨ (0 ≤ r.toInt ∧ ¬ SR7 D))) (MB dC dI h0 ad cid A) A) ([.ref h0] : List Value).toArray s 0 0 A) (F0 m 103 ls []) := by
    intro gm_j103 x1_103 hx1_103 hkg_j103 hI_j103 hKN u103 H locs ls hP hD hS hl
    refine lv_iload_n hx hb dX13_badStructure_103 rfl (lv_at hl 0 rfl) ?_
    exact W.iret (v := x1_103) hx hb hr (fun t ht hW => ⟨⟨x1_103, (sg, gm_j103, lg), rfl, ⟨sg, gm_j103, lg, rfl, hI_j103, KS_rf, (KS_tr (L := [26]) KS_rf hkg_j103 (by decide)), KS_rf, (iv_w hx1_103 (by decide)), (Or.inl (hx1_103).1), (hKN), (Or.inr ⟨(hx1_103).1, u103⟩)⟩, by rw [ht]; exact hP, va_K.moved hW.alike hK, hD⟩, hS.F ht⟩) hS.2.2 dX13_badStructure_104
  have hj73 : ∀ (n : Nat) (gm_j73 : Nat → Nat → Int32) (x1_73 : Int32) (_ : (80 - x1_73.toInt).toNat = n) (_ : iv 0 80 x1_73) (_ : KS [26] gm gm_j73) (_ : MI sg gm_j73) (_ : KN7 D gm_j73 D.length) (_ : ∀ k9, k9 < x1_73.toNatClampNeg → GOODR D k9) (_ : x1_73.toInt = 0 ∨ (gm_j73 26 0).toInt = 1) (H : Heap) (locs : List Loc) (ls : Array Slot), va_P (dC, dI) vwCl (mW h0 ad cid sg gm_j73 lg) H → va_D A (mW h0 ad cid sg gm_j73 lg) → va_S A s.heap H locs → lv_has ls 3 [(1, .int x1_73), (0, .ref h0)] → W p l e (headSpec wm_X13_badStructure ({ frames := 5, cells := 0, slots := 0, locals := 125 })).room s m ([.ref h0] : List Value).toArray below meth c H locs 0 0 (MQ below (va_Qi (fun r v => ∃ (sg2 : Nat → Int32) (gm2 : Nat → Nat → Int32) (lg2 : Nat → Nat → Int64), v = (sg2, gm2, lg2) ∧ MI sg2 gm2 ∧ KS [] sg sg2 ∧ KS [26] gm gm2 ∧ KS [] lg lg2 ∧ (iv (-1) 79 r) ∧ (0 ≤ r.toInt ∨ STR sg2 gm2 lg2) ∧ (KN7 D gm2 D.length) ∧ ((r.toInt = -1 ∧ SR7 D) ∨ (0 ≤ r.toInt ∧ ¬ SR7 D))) (MB dC dI h0 ad cid A) A) ([.ref h0] : List Value).toArray s 0 0 A) (F0 m 73 ls []) := by
    intro n
    induction n using Nat.strongRecOn with
    | ind n ih73 =>
      intro gm_j73 x1_73 hn73 hx1_73 hkg_j73 hI_j73 hKN hgd7 hk0 H locs ls hP hD hS hl
      have hj95 : ∀ (gm_j95 : Nat → Nat → Int32) (_ : iv 0 79 x1_73) (_ : KS [26] gm gm_j95) (_ : MI sg gm_j95) (_ : KN7 D gm_j95 D.length) (_ : ∀ k9, k9 < x1_73.toNatClampNeg → GOODR D k9) (_ : (gm_j95 26 0).toInt = 1) (_ : x1_73.toInt < (sg 24).toInt) (H : Heap) (locs : List Loc) (ls : Array Slot), va_P (dC, dI) vwCl (mW h0 ad cid sg gm_j95 lg) H → va_D A (mW h0 ad cid sg gm_j95 lg) → va_S A s.heap H locs → lv_has ls 3 [(1, .int x1_73), (0, .ref h0)] → W p l e (headSpec wm_X13_badStructure ({ frames := 5, cells := 0, slots := 0, locals := 125 })).room s m ([.ref h0] : List Value).toArray below meth c H locs 0 0 (MQ below (va_Qi (fun r v => ∃ (sg2 : Nat → Int32) (gm2 : Nat → Nat → Int32) (lg2 : Nat → Nat → Int64), v = (sg2, gm2, lg2) ∧ MI sg2 gm2 ∧ KS [] sg sg2 ∧ KS [26] gm gm2 ∧ KS [] lg lg2 ∧ (iv (-1) 79 r) ∧ (0 ≤ r.toInt ∨ STR sg2 gm2 lg2) ∧ (KN7 D gm2 D.length) ∧ ((r.toInt = -1 ∧ SR7 D) ∨ (0 ≤ r.toInt ∧ ¬ SR7 D))) (MB dC dI h0 ad cid A) A) ([.ref h0] : List Value).toArray s 0 0 A) (F0 m 95 ls []) := by
        intro gm_j95 hsx1_95 hkg_j95 hI_j95 hKN hgd7 h95 hlt9 H locs ls hP hD hS hl
        have hRL : ∀ j, j < D.length → RL7 D gm_j95 lg j := (fun j hj => RL_of (RDR_k hRD rfl rfl (fun k hk => by rcases hk with rfl | rfl | rfl | rfl | rfl | rfl | rfl | rfl; exact (hkg_j95 27 (by decide)); exact (hkg_j95 28 (by decide)); exact (hkg_j95 30 (by decide)); exact (hkg_j95 31 (by decide)); exact (hkg_j95 32 (by decide)); exact (hkg_j95 36 (by decide)); exact (hkg_j95 37 (by decide)); exact (hkg_j95 38 (by decide))) (fun k hk => by rcases hk with rfl | rfl; exact rfl; exact rfl)) (TRE_keep hTR rfl (hkg_j95 28 (by decide)) (hkg_j95 29 (by decide))) (by have := hRD.1; have := (show iv 0 80 (sg 24) from MI_s hI 24).2; omega) hj)
        have hAv : ∀ j, j < D.length → dAb D j < (j : Int) ∧ -1 ≤ dAb D j := (fun j hj => by have := hTR.1 j (by have := hRD.1; show j < (sg 24).toInt.toNat; omega); have := (RDR_f hRD hj).1; have := (show iv (-1) 79 (gm 28 j) from hI.2 28 j (show j < 80 by have := hRD.1; have := (show iv 0 80 (sg 24) from MI_s hI 24).2; omega)).1; omega)
        have hlD : x1_73.toNatClampNeg < D.length := by have := hRD.1; have := hlt9; have := iv_cl hsx1_95 (by decide); have := i32_0; have := i32_1; have := i32_2; have := i32_m1; have := (show iv 0 80 (sg 24) from MI_s hI 24).1; have := (show iv 0 80 (sg 24) from MI_s hI 24).2; have := (hsx1_95).1; have := (hsx1_95).2; omega
        refine lv_aload_n hx hb dX13_badStructure_95 rfl (lv_at hl 1 rfl) ?_
        refine lv_iload_n hx hb dX13_badStructure_96 rfl (lv_at hl 0 rfl) ?_
        refine mr_calli (rest := []) ⟨hx, hb, hml, hown, htb⟩ (f_isGood2 l dC dI h0 ad cid sg gm_j95 lg x1_73 hI_j95 hsx1_95 (BS_hg hTR.1 (hkg_j95 28 (by decide)) h95 hsx1_95 (show iv 0 80 (sg 24) from MI_s hI 24) hlt9) (WRD7_k hwd rfl rfl)) (cwV 1 htb (gd_V kw_884 kw_885 kw_886 kw_5 kw_1538) rfl rfl rfl (by decide +kernel) ⟨Nat.le_of_ble_eq_true rfl, Nat.le_of_ble_eq_true rfl⟩) rfl hl.1 rfl (Nat.le_of_ble_eq_true rfl) dX13_badStructure_97 ⟨Nat.zero_le _, Nat.zero_le _⟩ hK hP hD hS hA (fun r_1 u_2 H locs hw hP hD hS => ?_)
        obtain ⟨hr_1, fGd_r_1, rfl⟩ := hw
        have hP : va_P (dC, dI) vwCl (mW h0 ad cid sg gm_j95 lg) H := hP
        have hD : va_D A (mW h0 ad cid sg gm_j95 lg) := hD
        refine lv_if_ne (tgt := 105) hx hb dX13_badStructure_100 (by decide) (fun c_3 => ?_) (fun c_3 => ?_)
        · have h_4 : iv 1 1 r_1 := iv_neL c_3 hr_1 (by decide)
          obtain ⟨z_5, ez_5⟩ : ∃ z : Int32, z = x1_73 + 1 := ⟨_, rfl⟩
          have hz_5 : iv 1 80 z_5 := iv_of ez_5 (iv_add hsx1_95 (iv_k (by decide) : iv 1 1 1) (by decide))
          have tz_5 : z_5.toInt = x1_73.toInt + 1 := by rw [ez_5]; exact iv_addE hsx1_95 (iv_k (by decide) : iv 1 1 1) (by decide)
          refine lv_iinc (v := z_5) (lv' := [(1, .int z_5), (0, .ref h0)]) hx hb dX13_badStructure_105 hl (k := 0) rfl ez_5.symm (by decide) rfl (fun ls hl => ?_)
          refine lv_goto (tgt := 73) hx hb dX13_badStructure_108 (by decide) ?_
          exact ih73 _ (by rw [← hn73]; exact (iv_meas tz_5 hsx1_95 (by decide))) gm_j95 z_5 rfl (iv_w hz_5 (by decide)) (KS_tr (L := [26]) KS_rf hkg_j95 (by decide)) hI_j95 (hKN) ((fun k hk => by rw [s_cl hsx1_95 (by decide) tz_5] at hk; by_cases hq : k = x1_73.toNatClampNeg; (rw [hq]; exact (GR_e hlD hRL hKN hAv).mp (fGd_r_1.resolve_right (fun w => absurd w.1 (by have := i32_0; have := i32_1; have := i32_2; have := i32_m1; have := (show iv 0 80 (sg 24) from MI_s hI 24).1; have := (show iv 0 80 (sg 24) from MI_s hI 24).2; have := (hsx1_95).1; have := (hsx1_95).2; have := (h_4).1; have := (h_4).2; have := (hz_5).1; have := (hz_5).2; omega))).2); exact hgd7 k (by omega))) (Or.inr h95) _ _ _ hP hD hS (lv_sub hl [0, 1] rfl)
        · have h_6 : iv 0 0 r_1 := iv_eq c_3 hr_1 (iv_k (by decide) : iv 0 0 0) (by decide)
          exact hj103 gm_j95 x1_73 hsx1_95 (KS_tr (L := [26]) KS_rf hkg_j95 (by decide)) hI_j95 (hKN) ((fun h => (fGd_r_1.resolve_left (fun w => absurd w.1 (by have := i32_0; have := i32_1; have := i32_2; have := i32_m1; have := (show iv 0 80 (sg 24) from MI_s hI 24).1; have := (show iv 0 80 (sg 24) from MI_s hI 24).2; have := (hsx1_95).1; have := (hsx1_95).2; have := (h_6).1; have := (h_6).2; omega))).2 ((GR_e hlD hRL hKN hAv).mpr (h.1 _ hlD)))) _ _ _ hP hD hS (lv_sub hl [0, 1] rfl)
      refine lv_iload_n hx hb dX13_badStructure_73 rfl (lv_at hl 0 rfl) ?_
      refine lv_aload_n hx hb dX13_badStructure_74 rfl (lv_at hl 1 rfl) ?_
      refine mr_get (v := .int (sg 24)) hx hb htb inX13 hown hK hP 24 (by decide) (htb _ kw_815) rfl dX13_badStructure_75 ?_
      refine lv_icmp_ge (tgt := 111) hx hb dX13_badStructure_78 (by decide) (fun c_7 => ?_) (fun c_7 => ?_)
      · have d_8 : ((sg 24) : Int32).toInt ≤ (x1_73 : Int32).toInt := Int32.le_iff_toInt_le.mp c_7
        have hRL : ∀ j, j < D.length → RL7 D gm_j73 lg j := (fun j hj => RL_of (RDR_k hRD rfl rfl (fun k hk => by rcases hk with rfl | rfl | rfl | rfl | rfl | rfl | rfl | rfl; exact (hkg_j73 27 (by decide)); exact (hkg_j73 28 (by decide)); exact (hkg_j73 30 (by decide)); exact (hkg_j73 31 (by decide)); exact (hkg_j73 32 (by decide)); exact (hkg_j73 36 (by decide)); exact (hkg_j73 37 (by decide)); exact (hkg_j73 38 (by decide))) (fun k hk => by rcases hk with rfl | rfl; exact rfl; exact rfl)) (TRE_keep hTR rfl (hkg_j73 28 (by decide)) (hkg_j73 29 (by decide))) (by have := hRD.1; have := (show iv 0 80 (sg 24) from MI_s hI 24).2; omega) hj)
        have sr9 : SR7 D := ⟨fun k hk => hgd7 k (by have := hRD.1; have := iv_cl hx1_73 (by decide); have := i32_0; have := i32_1; have := i32_2; have := i32_m1; have := (show iv 0 80 (sg 24) from MI_s hI 24).1; have := (show iv 0 80 (sg 24) from MI_s hI 24).2; have := (hx1_73).1; have := (hx1_73).2; have := ((show iv 0 80 (sg 24) from MI_s hI 24)).1; have := ((show iv 0 80 (sg 24) from MI_s hI 24)).2; omega), by rcases hk0 with q | q; (exact Or.inl (by have := hRD.1; have := iv_cl hx1_73 (by decide); have := i32_0; have := i32_1; have := i32_2; have := i32_m1; have := (show iv 0 80 (sg 24) from MI_s hI 24).1; have := (show iv 0 80 (sg 24) from MI_s hI 24).2; have := (hx1_73).1; have := (hx1_73).2; have := ((show iv 0 80 (sg 24) from MI_s hI 24)).1; have := ((show iv 0 80 (sg 24) from MI_s hI 24)).2; omega)); (rcases Nat.eq_zero_or_pos D.length with z | z; exact Or.inl z; exact Or.inr ((hKN 0 z).symm.trans q))⟩
        refine lv_iconst (v := (-1)) hx hb dX13_badStructure_111 (by decide) ?_
        exact W.iret (v := (-1)) hx hb hr (fun t ht hW => ⟨⟨(-1), (sg, gm_j73, lg), rfl, ⟨sg, gm_j73, lg, rfl, hI_j73, KS_rf, (KS_tr (L := [26]) KS_rf hkg_j73 (by decide)), KS_rf, (iv_w (iv_k (by decide) : iv (-1) (-1) (-1)) (by decide)), (Or.inr (STR_of hPD (RDR_k hRD rfl rfl (fun k hk => by rcases hk with rfl | rfl | rfl | rfl | rfl | rfl | rfl | rfl; exact (hkg_j73 27 (by decide)); exact (hkg_j73 28 (by decide)); exact (hkg_j73 30 (by decide)); exact (hkg_j73 31 (by decide)); exact (hkg_j73 32 (by decide)); exact (hkg_j73 36 (by decide)); exact (hkg_j73 37 (by decide)); exact (hkg_j73 38 (by decide))) (fun k hk => by rcases hk with rfl | rfl; exact rfl; exact rfl)) hRL hKN sr9)), (hKN), (Or.inl ⟨rfl, sr9⟩)⟩, by rw [ht]; exact hP, va_K.moved hW.alike hK, hD⟩, hS.F ht⟩) hS.2.2 dX13_badStructure_112
      · have d_9 : (x1_73 : Int32).toInt < ((sg 24) : Int32).toInt := Int32.lt_iff_toInt_lt.mp (i32_lt c_7)
        have h_10 : iv 0 79 x1_73 := iv_ltL (i32_lt c_7) hx1_73 (show iv 0 80 (sg 24) from MI_s hI 24) (by decide)
        have h_11 : iv 1 80 (sg 24) := iv_ltR (i32_lt c_7) hx1_73 (show iv 0 80 (sg 24) from MI_s hI 24) (by decide)
        refine lv_iload_n hx hb dX13_badStructure_81 rfl (lv_at hl 0 rfl) ?_
        refine lv_if_ne (tgt := 95) hx hb dX13_badStructure_82 (by decide) (fun c_12 => ?_) (fun c_12 => ?_)
        · have h_13 : iv 1 79 x1_73 := iv_neL c_12 h_10 (by decide)
          exact hj95 gm_j73 (iv_w h_13 (by decide)) (KS_tr (L := [26]) KS_rf hkg_j73 (by decide)) hI_j73 (hKN) (hgd7) (hk0.resolve_left (fun q9 => c_12 (Int32.toInt_inj.mp q9))) (by have := i32_0; have := i32_1; have := i32_2; have := i32_m1; have := (show iv 0 80 (sg 24) from MI_s hI 24).1; have := (show iv 0 80 (sg 24) from MI_s hI 24).2; have := (h_13).1; have := (h_13).2; have := (h_11).1; have := (h_11).2; omega) _ _ _ hP hD hS (lv_sub hl [0, 1] rfl)
        · have h_14 : iv 0 0 x1_73 := iv_eq c_12 h_10 (iv_k (by decide) : iv 0 0 0) (by decide)
          refine lv_aload_n hx hb dX13_badStructure_85 rfl (lv_at hl 1 rfl) ?_
          refine mr_get (v := .ref (ad 26)) hx hb htb inX13 hown hK hP 26 (by decide) (htb _ kw_182) rfl dX13_badStructure_86 ?_
          refine lv_iconst (v := 0) hx hb dX13_badStructure_89 (by decide) ?_
          refine mr_iald hx hb hK hP 19 (k := 26) rfl rfl rfl (show vp_in 0 80 from (iv_in (iv_k (by decide) : iv 0 0 0) (by decide))) dX13_badStructure_90 ?_
          refine lv_topi (fun z_15 ez_15 => ?_)
          have hz_15 : iv 0 10 z_15 := iv_of ez_15 (MI_a hI_j73 26 (iv_k (by decide) : iv 0 0 0) (by decide))
          refine lv_iconst (v := 1) hx hb dX13_badStructure_91 (by decide) ?_
          refine lv_icmp_ne (tgt := 103) hx hb dX13_badStructure_92 (by decide) (fun c_16 => ?_) (fun c_16 => ?_)
          · have d_17 : ¬ (z_15 : Int32).toInt = 1 := lv_neT c_16 rfl
            exact hj103 gm_j73 x1_73 (iv_w h_14 (by decide)) (KS_tr (L := [26]) KS_rf hkg_j73 (by decide)) hI_j73 (hKN) ((fun h => by have q8 := hKN 0 (by have := hRD.1; have := iv_cl (show iv 0 79 x1_73 from (iv_w h_14 (by decide))) (by decide); have := i32_0; have := i32_1; have := i32_2; have := i32_m1; have := (show iv 0 80 (sg 24) from MI_s hI 24).1; have := (show iv 0 80 (sg 24) from MI_s hI 24).2; have := (h_14).1; have := (h_14).2; have := (h_11).1; have := (h_11).2; have := (hz_15).1; have := (hz_15).2; omega); have q9 := congrArg Int32.toInt ez_15; rcases h.2 with q | q; (exfalso; have := hRD.1; have := iv_cl (show iv 0 79 x1_73 from (iv_w h_14 (by decide))) (by decide); have := i32_0; have := i32_1; have := i32_2; have := i32_m1; have := (show iv 0 80 (sg 24) from MI_s hI 24).1; have := (show iv 0 80 (sg 24) from MI_s hI 24).2; have := (h_14).1; have := (h_14).2; have := (h_11).1; have := (h_11).2; have := (hz_15).1; have := (hz_15).2; omega); (rw [q] at q8; exact absurd (Int32.toInt_inj.mp (q9.trans (q8.trans i32_1.symm))) c_16))) _ _ _ hP hD hS (lv_sub hl [0, 1] rfl)
          · have h_18 : iv 1 1 z_15 := iv_eq c_16 hz_15 (iv_k (by decide) : iv 1 1 1) (by decide)
            exact hj95 gm_j73 (iv_w h_14 (by decide)) (KS_tr (L := [26]) KS_rf hkg_j73 (by decide)) hI_j73 (hKN) (hgd7) (by rw [show gm_j73 26 0 = z_15 from ez_15.symm]; exact congrArg Int32.toInt c_16) (by have := i32_0; have := i32_1; have := i32_2; have := i32_m1; have := (show iv 0 80 (sg 24) from MI_s hI 24).1; have := (show iv 0 80 (sg 24) from MI_s hI 24).2; have := (h_14).1; have := (h_14).2; have := (h_11).1; have := (h_11).2; have := (h_18).1; have := (h_18).2; omega) _ _ _ hP hD hS (lv_sub hl [0, 1] rfl)
  have hj2 : ∀ (n : Nat) (gm_j2 : Nat → Nat → Int32) (x1_2 : Int32) (_ : (80 - x1_2.toInt).toNat = n) (_ : iv 0 80 x1_2) (_ : KS [26] gm gm_j2) (_ : MI sg gm_j2) (_ : ∀ k, k < x1_2.toNatClampNeg → (gm_j2 26 k).toInt = dKd D k) (H : Heap) (locs : List Loc) (ls : Array Slot), va_P (dC, dI) vwCl (mW h0 ad cid sg gm_j2 lg) H → va_D A (mW h0 ad cid sg gm_j2 lg) → va_S A s.heap H locs → lv_has ls 3 [(1, .int x1_2), (0, .ref h0)] → W p l e (headSpec wm_X13_badStructure ({ frames := 5, cells := 0, slots := 0, locals := 125 })).room s m ([.ref h0] : List Value).toArray below meth c H locs 0 0 (MQ below (va_Qi (fun r v => ∃ (sg2 : Nat → Int32) (gm2 : Nat → Nat → Int32) (lg2 : Nat → Nat → Int64), v = (sg2, gm2, lg2) ∧ MI sg2 gm2 ∧ KS [] sg sg2 ∧ KS [26] gm gm2 ∧ KS [] lg lg2 ∧ (iv (-1) 79 r) ∧ (0 ≤ r.toInt ∨ STR sg2 gm2 lg2) ∧ (KN7 D gm2 D.length) ∧ ((r.toInt = -1 ∧ SR7 D) ∨ (0 ≤ r.toInt ∧ ¬ SR7 D))) (MB dC dI h0 ad cid A) A) ([.ref h0] : List Value).toArray s 0 0 A) (F0 m 2 ls []) := by
    intro n
    induction n using Nat.strongRecOn with
    | ind n ih2 =>
      intro gm_j2 x1_2 hn2 hx1_2 hkg_j2 hI_j2 hkn H locs ls hP hD hS hl
      have hj19 : ∀ (n : Nat) (gm_j19 : Nat → Nat → Int32) (x2_19 : Int32) (_ : (10 - x2_19.toInt).toNat = n) (_ : iv 0 10 x2_19) (_ : iv 0 79 x1_2) (_ : KS [26] gm gm_j19) (_ : MI sg gm_j19) (_ : ∀ k, k < x1_2.toNatClampNeg → (gm_j19 26 k).toInt = dKd D k) (_ : (gm_j19 26 x1_2.toNatClampNeg).toInt = kp7 (lg 34 x1_2.toNatClampNeg).toInt x2_19.toNatClampNeg) (_ : x1_2.toInt < (sg 24).toInt) (H : Heap) (locs : List Loc) (ls : Array Slot), va_P (dC, dI) vwCl (mW h0 ad cid sg gm_j19 lg) H → va_D A (mW h0 ad cid sg gm_j19 lg) → va_S A s.heap H locs → lv_has ls 3 [(2, .int x2_19), (1, .int x1_2), (0, .ref h0)] → W p l e (headSpec wm_X13_badStructure ({ frames := 5, cells := 0, slots := 0, locals := 125 })).room s m ([.ref h0] : List Value).toArray below meth c H locs 0 0 (MQ below (va_Qi (fun r v => ∃ (sg2 : Nat → Int32) (gm2 : Nat → Nat → Int32) (lg2 : Nat → Nat → Int64), v = (sg2, gm2, lg2) ∧ MI sg2 gm2 ∧ KS [] sg sg2 ∧ KS [26] gm gm2 ∧ KS [] lg lg2 ∧ (iv (-1) 79 r) ∧ (0 ≤ r.toInt ∨ STR sg2 gm2 lg2) ∧ (KN7 D gm2 D.length) ∧ ((r.toInt = -1 ∧ SR7 D) ∨ (0 ≤ r.toInt ∧ ¬ SR7 D))) (MB dC dI h0 ad cid A) A) ([.ref h0] : List Value).toArray s 0 0 A) (F0 m 19 ls []) := by
        intro n
        induction n using Nat.strongRecOn with
        | ind n ih19 =>
          intro gm_j19 x2_19 hn19 hx2_19 hsx1_19 hkg_j19 hI_j19 hkn hcur hl1 H locs ls hP hD hS hl
          have hj58 : ∀ (gm_j58 : Nat → Nat → Int32) (y0_58 : Int32) (_ : iv 0 9 x2_19) (_ : iv 0 79 x1_2) (_ : iv 0 10 y0_58) (_ : iv 0 79 x1_2) (_ : KS [26] gm gm_j58) (_ : MI sg gm_j58) (_ : ∀ k, k < x1_2.toNatClampNeg → (gm_j58 26 k).toInt = dKd D k) (_ : y0_58.toInt = kp7 (lg 34 x1_2.toNatClampNeg).toInt (x2_19.toNatClampNeg + 1)) (_ : x1_2.toInt < (sg 24).toInt) (H : Heap) (locs : List Loc) (ls : Array Slot), va_P (dC, dI) vwCl (mW h0 ad cid sg gm_j58 lg) H → va_D A (mW h0 ad cid sg gm_j58 lg) → va_S A s.heap H locs → lv_has ls 3 [(2, .int x2_19), (1, .int x1_2), (0, .ref h0)] → W p l e (headSpec wm_X13_badStructure ({ frames := 5, cells := 0, slots := 0, locals := 125 })).room s m ([.ref h0] : List Value).toArray below meth c H locs 0 0 (MQ below (va_Qi (fun r v => ∃ (sg2 : Nat → Int32) (gm2 : Nat → Nat → Int32) (lg2 : Nat → Nat → Int64), v = (sg2, gm2, lg2) ∧ MI sg2 gm2 ∧ KS [] sg sg2 ∧ KS [26] gm gm2 ∧ KS [] lg lg2 ∧ (iv (-1) 79 r) ∧ (0 ≤ r.toInt ∨ STR sg2 gm2 lg2) ∧ (KN7 D gm2 D.length) ∧ ((r.toInt = -1 ∧ SR7 D) ∨ (0 ≤ r.toInt ∧ ¬ SR7 D))) (MB dC dI h0 ad cid A) A) ([.ref h0] : List Value).toArray s 0 0 A) (F0 m 58 ls [.int y0_58, .int x1_2, .ref (ad 26)]) := by
            intro gm_j58 y0_58 hsx2_58 hsx1_58 hy0_58 hsy1_58 hkg_j58 hI_j58 hkn u58 hl1 H locs ls hP hD hS hl
            refine ma_iast (x := y0_58) hx hb hK hP hD hS 19 (k := 26) rfl rfl rfl (show vp_in x1_2 80 from (iv_in hsy1_58 (by decide))) dX13_badStructure_58 (fun gm_19 H locs egm_19 hP hD hS => ?_)
            have hI_gm_19 := MI_st hI_j58 egm_19 hy0_58 (by decide)
            obtain ⟨z_20, ez_20⟩ : ∃ z : Int32, z = x2_19 + 1 := ⟨_, rfl⟩
            have hz_20 : iv 1 10 z_20 := iv_of ez_20 (iv_add hsx2_58 (iv_k (by decide) : iv 1 1 1) (by decide))
            have tz_20 : z_20.toInt = x2_19.toInt + 1 := by rw [ez_20]; exact iv_addE hsx2_58 (iv_k (by decide) : iv 1 1 1) (by decide)
            refine lv_iinc (v := z_20) (lv' := [(2, .int z_20), (1, .int x1_2), (0, .ref h0)]) hx hb dX13_badStructure_59 hl (k := 0) rfl ez_20.symm (by decide) rfl (fun ls hl => ?_)
            refine lv_goto (tgt := 19) hx hb dX13_badStructure_62 (by decide) ?_
            exact ih19 _ (by rw [← hn19]; exact (iv_meas tz_20 hsx2_58 (by decide))) gm_19 z_20 rfl (iv_w hz_20 (by decide)) hsy1_58 (KS_up (KS_tr (L := [26]) KS_rf hkg_j58 (by decide)) egm_19 (by decide)) hI_gm_19 ((fun k hk => by rw [show gm_19 26 k = _ from up_oth egm_19 (by omega)]; exact hkn k hk)) ((by rw [show gm_19 26 x1_2.toNatClampNeg = y0_58 from up_cell egm_19, s_cl hsx2_58 (by decide) tz_20]; exact u58)) (hl1) _ _ _ hP hD hS (lv_sub hl [0, 1, 2] rfl)
          refine lv_iload_n hx hb dX13_badStructure_19 rfl (lv_at hl 0 rfl) ?_
          refine lv_bipush (v := 10) hx hb dX13_badStructure_20 (by decide) ?_
          refine lv_icmp_ge (tgt := 65) hx hb dX13_badStructure_22 (by decide) (fun c_21 => ?_) (fun c_21 => ?_)
          · have h_22 : iv 10 10 x2_19 := iv_leR c_21 (iv_k (by decide) : iv 10 10 10) hx2_19 (by decide)
            obtain ⟨z_23, ez_23⟩ : ∃ z : Int32, z = x1_2 + 1 := ⟨_, rfl⟩
            have hz_23 : iv 1 80 z_23 := iv_of ez_23 (iv_add hsx1_19 (iv_k (by decide) : iv 1 1 1) (by decide))
            have tz_23 : z_23.toInt = x1_2.toInt + 1 := by rw [ez_23]; exact iv_addE hsx1_19 (iv_k (by decide) : iv 1 1 1) (by decide)
            refine lv_iinc (v := z_23) (lv' := [(1, .int z_23), (2, .int x2_19), (0, .ref h0)]) hx hb dX13_badStructure_65 hl (k := 1) rfl ez_23.symm (by decide) rfl (fun ls hl => ?_)
            refine lv_goto (tgt := 2) hx hb dX13_badStructure_68 (by decide) ?_
            exact ih2 _ (by rw [← hn2]; exact (iv_meas tz_23 hsx1_19 (by decide))) gm_j19 z_23 rfl (iv_w hz_23 (by decide)) (KS_tr (L := [26]) KS_rf hkg_j19 (by decide)) hI_j19 ((fun k hk => by rw [s_cl hsx1_19 (by decide) tz_23] at hk; by_cases hq : k = x1_2.toNatClampNeg; (rw [hq, hcur, show x2_19.toNatClampNeg = 10 from (by have := iv_cl (show iv 0 10 x2_19 from (iv_w h_22 (by decide))) (by decide); have := i32_0; have := i32_1; have := i32_2; have := i32_m1; have := (show iv 0 80 (sg 24) from MI_s hI 24).1; have := (show iv 0 80 (sg 24) from MI_s hI 24).2; have := (hsx1_19).1; have := (hsx1_19).2; have := (h_22).1; have := (h_22).2; have := (hz_23).1; have := (hz_23).2; omega), kp7_e, (RDR_f hRD (show x1_2.toNatClampNeg < D.length from (by have := hRD.1; have := iv_cl hsx1_19 (by decide); have := i32_0; have := i32_1; have := i32_2; have := i32_m1; have := (show iv 0 80 (sg 24) from MI_s hI 24).1; have := (show iv 0 80 (sg 24) from MI_s hI 24).2; have := (hsx1_19).1; have := (hsx1_19).2; have := (h_22).1; have := (h_22).2; have := (hz_23).1; have := (hz_23).2; omega))).2.2.1]; rfl); exact hkn k (by omega))) _ _ _ hP hD hS (lv_sub hl [0, 2] rfl)
          · have h_24 : iv 0 9 x2_19 := iv_ltL (i32_lt c_21) hx2_19 (iv_k (by decide) : iv 10 10 10) (by decide)
            refine lv_aload_n hx hb dX13_badStructure_25 rfl (lv_at hl 2 rfl) ?_
            refine mr_get (v := .ref (ad 26)) hx hb htb inX13 hown hK hP 26 (by decide) (htb _ kw_182) rfl dX13_badStructure_26 ?_
            refine lv_iload_n hx hb dX13_badStructure_29 rfl (lv_at hl 1 rfl) ?_
            refine lv_aload_n hx hb dX13_badStructure_30 rfl (lv_at hl 2 rfl) ?_
            refine mr_get (v := .ref (ad 34)) hx hb htb inX13 hown hK hP 34 (by decide) (htb _ kw_190) rfl dX13_badStructure_31 ?_
            refine lv_iload_n hx hb dX13_badStructure_34 rfl (lv_at hl 1 rfl) ?_
            refine mr_lald hx hb hK hP 27 (k := 34) rfl rfl rfl (show vp_in x1_2 80 from (iv_in hsx1_19 (by decide))) dX13_badStructure_35 ?_
            refine lv_topl (fun z_25 ez_25 => ?_)
            refine lv_aload_n hx hb dX13_badStructure_36 rfl (lv_at hl 2 rfl) ?_
            refine mr_get (v := .ref (ad 0)) hx hb htb inX13 hown hK hP 0 (by decide) (htb _ kw_144) rfl dX13_badStructure_37 ?_
            refine lv_iload_n hx hb dX13_badStructure_40 rfl (lv_at hl 0 rfl) ?_
            refine mr_lald hx hb hK hP 0 (k := 0) rfl rfl rfl (show vp_in x2_19 10 from (iv_in h_24 (by decide))) dX13_badStructure_41 ?_
            refine lv_topl (fun z_26 ez_26 => ?_)
            refine W.lcmp hx hb dX13_badStructure_42 ?_
            refine lv_topi (fun z_27 ez_27 => ?_)
            have hz_27 : iv (-1) 1 z_27 := iv_of ez_27 (iv_cmp _ _)
            have hl_z_27 := lg_tr7 ez_27
            refine lv_if_ne (tgt := 52) hx hb dX13_badStructure_43 (by decide) (fun c_28 => ?_) (fun c_28 => ?_)
            · have d_29 : ¬ (z_27 : Int32).toInt = 0 := lv_neT c_28 rfl
              refine lv_aload_n hx hb dX13_badStructure_52 rfl (lv_at hl 2 rfl) ?_
              refine mr_get (v := .ref (ad 26)) hx hb htb inX13 hown hK hP 26 (by decide) (htb _ kw_182) rfl dX13_badStructure_53 ?_
              refine lv_iload_n hx hb dX13_badStructure_56 rfl (lv_at hl 1 rfl) ?_
              refine mr_iald hx hb hK hP 19 (k := 26) rfl rfl rfl (show vp_in x1_2 80 from (iv_in hsx1_19 (by decide))) dX13_badStructure_57 ?_
              refine lv_topi (fun z_30 ez_30 => ?_)
              have hz_30 : iv 0 10 z_30 := iv_of ez_30 (MI_a hI_j19 26 hsx1_19 (by decide))
              exact hj58 gm_j19 z_30 h_24 hsx1_19 hz_30 hsx1_19 (KS_tr (L := [26]) KS_rf hkg_j19 (by decide)) hI_j19 (hkn) ((by have e0 := WRD7_0 hwd (k := x2_19.toNatClampNeg) (by have := iv_cl h_24 (by decide); have := i32_0; have := i32_1; have := i32_2; have := i32_m1; have := (show iv 0 80 (sg 24) from MI_s hI 24).1; have := (show iv 0 80 (sg 24) from MI_s hI 24).2; have := (hsx1_19).1; have := (hsx1_19).2; have := (h_24).1; have := (h_24).2; have := (hz_27).1; have := (hz_27).2; have := (hz_30).1; have := (hz_30).2; omega); have g3 := lg_tr7 ez_27; rw [ez_25, ez_26] at g3; rw [e0] at g3; show _ = (if (lg 34 x1_2.toNatClampNeg).toInt = en7 x2_19.toNatClampNeg then (x2_19.toNatClampNeg : Int) + 1 else kp7 (lg 34 x1_2.toNatClampNeg).toInt x2_19.toNatClampNeg); rw [if_neg (by have := i32_0; have := i32_1; have := i32_2; have := i32_m1; have := (show iv 0 80 (sg 24) from MI_s hI 24).1; have := (show iv 0 80 (sg 24) from MI_s hI 24).2; have := (hsx1_19).1; have := (hsx1_19).2; have := (h_24).1; have := (h_24).2; have := (hz_27).1; have := (hz_27).2; have := (hz_30).1; have := (hz_30).2; omega)]; rw [ez_30]; exact hcur)) (hl1) _ _ _ hP hD hS (lv_sub hl [0, 1, 2] rfl)
            · have h_31 : iv 0 0 z_27 := iv_eq c_28 hz_27 (iv_k (by decide) : iv 0 0 0) (by decide)
              refine lv_iconst (v := 1) hx hb dX13_badStructure_46 (by decide) ?_
              refine lv_iload_n hx hb dX13_badStructure_47 rfl (lv_at hl 0 rfl) ?_
              refine lv_iadd hx hb dX13_badStructure_48 ?_
              refine lv_topi (fun z_32 ez_32 => ?_)
              have hz_32 : iv 1 10 z_32 := iv_of ez_32 (iv_add (iv_k (by decide) : iv 1 1 1) h_24 (by decide))
              have tz_32 : z_32.toInt = 1 + (x2_19 : Int32).toInt := by rw [ez_32]; exact iv_addE (iv_k (by decide) : iv 1 1 1) h_24 (by decide)
              refine lv_goto (tgt := 58) hx hb dX13_badStructure_49 (by decide) ?_
              exact hj58 gm_j19 z_32 h_24 hsx1_19 (iv_w hz_32 (by decide)) hsx1_19 (KS_tr (L := [26]) KS_rf hkg_j19 (by decide)) hI_j19 (hkn) ((by have e0 := WRD7_0 hwd (k := x2_19.toNatClampNeg) (by have := iv_cl h_24 (by decide); have := i32_0; have := i32_1; have := i32_2; have := i32_m1; have := (show iv 0 80 (sg 24) from MI_s hI 24).1; have := (show iv 0 80 (sg 24) from MI_s hI 24).2; have := (hsx1_19).1; have := (hsx1_19).2; have := (h_24).1; have := (h_24).2; have := (h_31).1; have := (h_31).2; have := (hz_32).1; have := (hz_32).2; omega); have g3 := lg_tr7 ez_27; rw [ez_25, ez_26] at g3; rw [e0] at g3; show _ = (if (lg 34 x1_2.toNatClampNeg).toInt = en7 x2_19.toNatClampNeg then (x2_19.toNatClampNeg : Int) + 1 else kp7 (lg 34 x1_2.toNatClampNeg).toInt x2_19.toNatClampNeg); rw [if_pos (by have := i32_0; have := i32_1; have := i32_2; have := i32_m1; have := (show iv 0 80 (sg 24) from MI_s hI 24).1; have := (show iv 0 80 (sg 24) from MI_s hI 24).2; have := (hsx1_19).1; have := (hsx1_19).2; have := (h_24).1; have := (h_24).2; have := (h_31).1; have := (h_31).2; have := (hz_32).1; have := (hz_32).2; omega)]; have := iv_cl h_24 (by decide); have := tz_32; omega)) (hl1) _ _ _ hP hD hS (lv_sub hl [0, 1, 2] rfl)
      refine lv_iload_n hx hb dX13_badStructure_2 rfl (lv_at hl 0 rfl) ?_
      refine lv_aload_n hx hb dX13_badStructure_3 rfl (lv_at hl 1 rfl) ?_
      refine mr_get (v := .int (sg 24)) hx hb htb inX13 hown hK hP 24 (by decide) (htb _ kw_815) rfl dX13_badStructure_4 ?_
      refine lv_icmp_ge (tgt := 71) hx hb dX13_badStructure_7 (by decide) (fun c_33 => ?_) (fun c_33 => ?_)
      · have d_34 : ((sg 24) : Int32).toInt ≤ (x1_2 : Int32).toInt := Int32.le_iff_toInt_le.mp c_33
        refine lv_iconst (v := 0) hx hb dX13_badStructure_71 (by decide) ?_
        refine lv_istore_n (lv' := [(1, .int 0), (0, .ref h0)]) hx hb dX13_badStructure_72 rfl hl (by decide) rfl (fun ls hl => ?_)
        exact hj73 _ gm_j2 0 rfl (iv_w (iv_k (by decide) : iv 0 0 0) (by decide)) (KS_tr (L := [26]) KS_rf hkg_j2 (by decide)) hI_j2 ((fun k hk => hkn k (by have := hRD.1; have := iv_cl hx1_2 (by decide); have := i32_0; have := i32_1; have := i32_2; have := i32_m1; have := (show iv 0 80 (sg 24) from MI_s hI 24).1; have := (show iv 0 80 (sg 24) from MI_s hI 24).2; have := (hx1_2).1; have := (hx1_2).2; have := ((show iv 0 80 (sg 24) from MI_s hI 24)).1; have := ((show iv 0 80 (sg 24) from MI_s hI 24)).2; omega))) ((fun k9 h9 => absurd h9 (Nat.not_lt_zero _))) (Or.inl rfl) _ _ _ hP hD hS (lv_sub hl [0, 1] rfl)
      · have d_35 : (x1_2 : Int32).toInt < ((sg 24) : Int32).toInt := Int32.lt_iff_toInt_lt.mp (i32_lt c_33)
        have h_36 : iv 0 79 x1_2 := iv_ltL (i32_lt c_33) hx1_2 (show iv 0 80 (sg 24) from MI_s hI 24) (by decide)
        have h_37 : iv 1 80 (sg 24) := iv_ltR (i32_lt c_33) hx1_2 (show iv 0 80 (sg 24) from MI_s hI 24) (by decide)
        refine lv_aload_n hx hb dX13_badStructure_10 rfl (lv_at hl 1 rfl) ?_
        refine mr_get (v := .ref (ad 26)) hx hb htb inX13 hown hK hP 26 (by decide) (htb _ kw_182) rfl dX13_badStructure_11 ?_
        refine lv_iload_n hx hb dX13_badStructure_14 rfl (lv_at hl 0 rfl) ?_
        refine lv_iconst (v := 0) hx hb dX13_badStructure_15 (by decide) ?_
        refine ma_iast (x := 0) hx hb hK hP hD hS 19 (k := 26) rfl rfl rfl (show vp_in x1_2 80 from (iv_in h_36 (by decide))) dX13_badStructure_16 (fun gm_38 H locs egm_38 hP hD hS => ?_)
        have hI_gm_38 := MI_st hI_j2 egm_38 (iv_k (by decide) : iv 0 0 0) (by decide)
        refine lv_iconst (v := 0) hx hb dX13_badStructure_17 (by decide) ?_
        refine lv_istore_n (lv' := [(2, .int 0), (1, .int x1_2), (0, .ref h0)]) hx hb dX13_badStructure_18 rfl hl (by decide) rfl (fun ls hl => ?_)
        exact hj19 _ gm_38 0 rfl (iv_w (iv_k (by decide) : iv 0 0 0) (by decide)) h_36 (KS_up (KS_tr (L := [26]) KS_rf hkg_j2 (by decide)) egm_38 (by decide)) hI_gm_38 ((fun k hk => by rw [show gm_38 26 k = _ from up_oth egm_38 (by omega)]; exact hkn k hk)) ((by rw [show gm_38 26 x1_2.toNatClampNeg = 0 from up_cell egm_38]; rfl)) (by have := i32_0; have := i32_1; have := i32_2; have := i32_m1; have := (show iv 0 80 (sg 24) from MI_s hI 24).1; have := (show iv 0 80 (sg 24) from MI_s hI 24).2; have := (h_36).1; have := (h_36).2; have := (h_37).1; have := (h_37).2; omega) _ _ _ hP hD hS (lv_sub hl [0, 1, 2] rfl)
  refine lv_iconst (v := 0) hx hb dX13_badStructure_0 (by decide) ?_
  refine lv_istore_n (lv' := [(1, .int 0), (0, .ref h0)]) hx hb dX13_badStructure_1 rfl hl (by decide) rfl (fun ls hl => ?_)
  exact hj2 _ gm 0 rfl (iv_w (iv_k (by decide) : iv 0 0 0) (by decide)) KS_rf hI ((fun k hk => absurd hk (Nat.not_lt_zero _))) _ _ _ hP hD hS (lv_sub hl [0, 1] rfl)
