section
set_option maxHeartbeats 4000000 in
set_option maxRecDepth 100000 in
theorem f_badBeans2 (l : Launch) (dC : Nat → ClassId) (dI : Nat → Nat → Nat) (h0 : Nat) (ad : Nat → Nat) (cid : Nat → ClassId) (sg : Nat → Int32) (gm : Nat → Nat → Int32) (lg : Nat → Nat → Int64) (D : List El7) (hI : MI sg gm) (hRL : ∀ j, j < D.length → RL7 D gm lg j) (hKN : KN7 D gm D.length) (hn : (sg 24).toInt = (D.length : Int)) (hBN : BN7 D sg gm D.length) : MMi l dC dI yX13_badBeans wm_X13_badBeans ({ frames := 5, cells := 0, slots := 0, locals := 118 }) h0 ad cid [] sg gm lg (fun r v => (iv (-1) 79 r) ∧ (0 ≤ r.toInt ∨ BBE sg gm lg) ∧ ((r.toInt = -1 ∧ BBR D) ∨ (0 ≤ r.toInt ∧ ¬ BBR D)) ∧ v = (sg, gm, lg)) := by
  intro sz
  refine Met.ofW (cc := cX13_badBeans) (maxL := 4) (ret := (some .int)) (by decide) rfl ?_
  intro p e s m args below meth c s₁ B hml hv
  obtain ⟨rfl, hsz, hP, hK, hD0⟩ := hv
  have hx := B.exec
  have hb := B.bytes
  have hr := B.returns
  have hts := atoms_spec (ws := wm_X13_badBeans) B.pre
  have htb := fun (w : Cond) (h : w ∈ tb) => hts w (List.mem_cons_of_mem _ h)
  have hown : s.vm.findClass RX13 = some m.cls := findClass_of_methodNamed B.named
  have hlocks := B.notSynchronized
  subst hsz
  have hD := hD0.self (sz := s.heap.size)
  generalize hAe : va_A (mW h0 ad cid sg gm lg) s.heap.size = A at hD ⊢
  have hA : ∀ q : Nat, s.heap.size ≤ q → A q := fun q h => by rw [← hAe]; exact Or.inr h
  have hS : va_S A s.heap s.heap [] := va_S.rf
  have hl := lv_entry ([.ref h0]) (n := 4) (Nat.le_of_ble_eq_true rfl)
  rw [lg_entry_eq]
  generalize (lg_sl ([.ref h0]) ++ List.replicate (4 - (lg_sl ([.ref h0])).length) Slot.unset).toArray = ls at hl ⊢
  have hl : lv_has ls 4 [(0, .ref h0)] := hl
  have hj124 : ∀ (x3_124 : Int32) (x2_124 : Int32) (x1_124 : Int32) (_ : iv 0 1 x3_124) (_ : iv 0 1 x2_124) (_ : iv 1 79 x1_124) (_ : 1 ≤ x1_124.toInt ∧ x1_124.toInt < (sg 24).toInt) (_ : x1_124.toNatClampNeg < D.length) (_ : ¬ BR1 D x1_124.toNatClampNeg) (H : Heap) (locs : List Loc) (ls : Array Slot), va_P (dC, dI) vwCl (mW h0 ad cid sg gm lg) H → va_D A (mW h0 ad cid sg gm lg) → va_S A s.heap H locs → lv_has ls 4 [(3, .int x3_124), (2, .int x2_124), (1, .int x1_124), (0, .ref h0)] → W p l e (headSpec wm_X13_badBeans ({ frames := 5, cells := 0, slots := 0, locals := 118 })).room s m ([.ref h0] : List Value).toArray below meth c H locs 0 0 (MQ below (va_Qi (fun r v => (iv (-1) 79 r) ∧ (0 ≤ r.toInt ∨ BBE sg gm lg) ∧ ((r.toInt = -1 ∧ BBR D) ∨ (0 ≤ r.toInt ∧ ¬ BBR D)) ∧ v = (sg, gm, lg)) (MB dC dI h0 ad cid A) A) ([.ref h0] : List Value).toArray s 0 0 A) (F0 m 124 ls []) := by
    intro x3_124 x2_124 x1_124 hx3_124 hx2_124 hx1_124 hg1 hlD u124 H locs ls hP hD hS hl
    have hlD : x1_124.toNatClampNeg < D.length := by have := hn; have := iv_cl (show iv 0 79 x1_124 from (iv_w hx1_124 (by decide))) (by decide); have := i32_0; have := i32_1; have := i32_2; have := i32_m1; have := (show iv 0 80 (sg 24) from MI_s hI 24).1; have := (show iv 0 80 (sg 24) from MI_s hI 24).2; have := (hx3_124).1; have := (hx3_124).2; have := (hx2_124).1; have := (hx2_124).2; have := (hx1_124).1; have := (hx1_124).2; omega
    refine lv_iload_n hx hb dX13_badBeans_124 rfl (lv_at hl 2 rfl) ?_
    exact W.iret (v := x1_124) hx hb hr (fun t ht hW => ⟨⟨x1_124, (sg, gm, lg), rfl, ⟨(iv_w hx1_124 (by decide)), (Or.inl (by have := (hx1_124).1; omega)), (Or.inr ⟨(by have := (hx1_124).1; omega), fun h => u124 (h _ (by have := hg1; have := iv_cl (show iv 0 79 x1_124 from (iv_w hx1_124 (by decide))) (by decide); omega) (by have := hn; have := hg1; have := iv_cl (show iv 0 79 x1_124 from (iv_w hx1_124 (by decide))) (by decide); omega))⟩), rfl⟩, by rw [ht]; exact hP, va_K.moved hW.alike hK, hD⟩, hS.F ht⟩) hS.2.2 dX13_badBeans_125
  have hj2 : ∀ (n : Nat) (x1_2 : Int32) (_ : (80 - x1_2.toInt).toNat = n) (_ : iv 1 80 x1_2) (_ : ∀ k, 1 ≤ k → k < x1_2.toNatClampNeg → BR1 D k) (H : Heap) (locs : List Loc) (ls : Array Slot), va_P (dC, dI) vwCl (mW h0 ad cid sg gm lg) H → va_D A (mW h0 ad cid sg gm lg) → va_S A s.heap H locs → lv_has ls 4 [(1, .int x1_2), (0, .ref h0)] → W p l e (headSpec wm_X13_badBeans ({ frames := 5, cells := 0, slots := 0, locals := 118 })).room s m ([.ref h0] : List Value).toArray below meth c H locs 0 0 (MQ below (va_Qi (fun r v => (iv (-1) 79 r) ∧ (0 ≤ r.toInt ∨ BBE sg gm lg) ∧ ((r.toInt = -1 ∧ BBR D) ∨ (0 ≤ r.toInt ∧ ¬ BBR D)) ∧ v = (sg, gm, lg)) (MB dC dI h0 ad cid A) A) ([.ref h0] : List Value).toArray s 0 0 A) (F0 m 2 ls []) := by
    intro n
    induction n using Nat.strongRecOn with
    | ind n ih2 =>
      intro x1_2 hn2 hx1_2 hbr H locs ls hP hD hS hl
      have hj115 : ∀ (x2_115 : Int32) (y0_115 : Int32) (_ : iv 0 1 x2_115) (_ : iv 1 79 x1_2) (_ : iv 0 1 y0_115) (_ : 1 ≤ x1_2.toInt ∧ x1_2.toInt < (sg 24).toInt) (_ : x1_2.toNatClampNeg < D.length) (_ : (x2_115.toInt = 1 ∧ ((dAb D x1_2.toNatClampNeg = 0 ∧ USD D x1_2.toNatClampNeg (wdD D x1_2.toNatClampNeg)))) ∨ (x2_115.toInt = 0 ∧ ¬ ((dAb D x1_2.toNatClampNeg = 0 ∧ USD D x1_2.toNatClampNeg (wdD D x1_2.toNatClampNeg))))) (_ : (y0_115.toInt = 1 ∧ (PB7 D x1_2.toNatClampNeg)) ∨ (y0_115.toInt = 0 ∧ ¬ (PB7 D x1_2.toNatClampNeg))) (H : Heap) (locs : List Loc) (ls : Array Slot), va_P (dC, dI) vwCl (mW h0 ad cid sg gm lg) H → va_D A (mW h0 ad cid sg gm lg) → va_S A s.heap H locs → lv_has ls 4 [(2, .int x2_115), (1, .int x1_2), (0, .ref h0)] → W p l e (headSpec wm_X13_badBeans ({ frames := 5, cells := 0, slots := 0, locals := 118 })).room s m ([.ref h0] : List Value).toArray below meth c H locs 0 0 (MQ below (va_Qi (fun r v => (iv (-1) 79 r) ∧ (0 ≤ r.toInt ∨ BBE sg gm lg) ∧ ((r.toInt = -1 ∧ BBR D) ∨ (0 ≤ r.toInt ∧ ¬ BBR D)) ∧ v = (sg, gm, lg)) (MB dC dI h0 ad cid A) A) ([.ref h0] : List Value).toArray s 0 0 A) (F0 m 115 ls [.int y0_115]) := by
        intro x2_115 y0_115 hx2_115 hsx1_115 hy0_115 hg1 hlD v2 u115 H locs ls hP hD hS hl
        have hlD : x1_2.toNatClampNeg < D.length := by have := hn; have := iv_cl (show iv 0 79 x1_2 from (iv_w hsx1_115 (by decide))) (by decide); have := i32_0; have := i32_1; have := i32_2; have := i32_m1; have := (show iv 0 80 (sg 24) from MI_s hI 24).1; have := (show iv 0 80 (sg 24) from MI_s hI 24).2; have := (hsx1_115).1; have := (hsx1_115).2; have := (hx2_115).1; have := (hx2_115).2; have := (hy0_115).1; have := (hy0_115).2; omega
        refine lv_istore_n (lv' := [(3, .int y0_115), (2, .int x2_115), (1, .int x1_2), (0, .ref h0)]) hx hb dX13_badBeans_115 rfl hl (by decide) rfl (fun ls hl => ?_)
        refine lv_iload_n hx hb dX13_badBeans_116 rfl (lv_at hl 1 rfl) ?_
        refine lv_if_ne (tgt := 124) hx hb dX13_badBeans_117 (by decide) (fun c_1 => ?_) (fun c_1 => ?_)
        · have h_2 : iv 1 1 x2_115 := iv_neL c_1 hx2_115 (by decide)
          exact hj124 y0_115 x2_115 x1_2 hy0_115 (iv_w h_2 (by decide)) hsx1_115 ((by first | exact hg1 | (constructor <;> (have := i32_0; have := i32_1; have := i32_2; have := i32_m1; have := (show iv 0 80 (sg 24) from MI_s hI 24).1; have := (show iv 0 80 (sg 24) from MI_s hI 24).2; have := (hsx1_115).1; have := (hsx1_115).2; have := (h_2).1; have := (h_2).2; have := (hy0_115).1; have := (hy0_115).2; omega)))) (hlD) ((fun h => (BR1_e.mp h).1 (v2.resolve_right (fun w => absurd w.1 (by have := i32_0; have := i32_1; have := i32_2; have := i32_m1; have := (hsx1_115).1; have := (hsx1_115).2; have := (h_2).1; have := (h_2).2; have := (hy0_115).1; have := (hy0_115).2; omega))).2)) _ _ _ hP hD hS (lv_sub hl [0, 1, 2, 3] rfl)
        · have h_3 : iv 0 0 x2_115 := iv_eq c_1 hx2_115 (iv_k (by decide) : iv 0 0 0) (by decide)
          refine lv_iload_n hx hb dX13_badBeans_120 rfl (lv_at hl 0 rfl) ?_
          refine lv_if_eq (tgt := 126) hx hb dX13_badBeans_121 (by decide) (fun c_4 => ?_) (fun c_4 => ?_)
          · have h_5 : iv 0 0 y0_115 := iv_eq c_4 hy0_115 (iv_k (by decide) : iv 0 0 0) (by decide)
            obtain ⟨z_6, ez_6⟩ : ∃ z : Int32, z = x1_2 + 1 := ⟨_, rfl⟩
            have hz_6 : iv 2 80 z_6 := iv_of ez_6 (iv_add hsx1_115 (iv_k (by decide) : iv 1 1 1) (by decide))
            have tz_6 : z_6.toInt = x1_2.toInt + 1 := by rw [ez_6]; exact iv_addE hsx1_115 (iv_k (by decide) : iv 1 1 1) (by decide)
            refine lv_iinc (v := z_6) (lv' := [(1, .int z_6), (3, .int y0_115), (2, .int x2_115), (0, .ref h0)]) hx hb dX13_badBeans_126 hl (k := 2) rfl ez_6.symm (by decide) rfl (fun ls hl => ?_)
            refine lv_goto (tgt := 2) hx hb dX13_badBeans_129 (by decide) ?_
            exact ih2 _ (by rw [← hn2]; exact (iv_meas tz_6 hsx1_115 (by decide))) z_6 rfl (iv_w hz_6 (by decide)) ((fun k h8 h9 => by rw [s_cl (show iv 0 79 x1_2 from (iv_w hsx1_115 (by decide))) (by decide) tz_6] at h9; by_cases hq : k = x1_2.toNatClampNeg; (rw [hq]; exact BR1_e.mpr ⟨(v2.resolve_left (fun w => absurd w.1 (by have := i32_0; have := i32_1; have := i32_2; have := i32_m1; have := (hsx1_115).1; have := (hsx1_115).2; have := (h_3).1; have := (h_3).2; have := (h_5).1; have := (h_5).2; have := (hz_6).1; have := (hz_6).2; omega))).2, (u115.resolve_left (fun w => absurd w.1 (by have := i32_0; have := i32_1; have := i32_2; have := i32_m1; have := (hsx1_115).1; have := (hsx1_115).2; have := (h_3).1; have := (h_3).2; have := (h_5).1; have := (h_5).2; have := (hz_6).1; have := (hz_6).2; omega))).2⟩); exact hbr k h8 (by omega))) _ _ _ hP hD hS (lv_sub hl [0, 3] rfl)
          · have h_7 : iv 1 1 y0_115 := iv_neL c_4 hy0_115 (by decide)
            exact hj124 y0_115 x2_115 x1_2 (iv_w h_7 (by decide)) (iv_w h_3 (by decide)) hsx1_115 ((by first | exact hg1 | (constructor <;> (have := i32_0; have := i32_1; have := i32_2; have := i32_m1; have := (show iv 0 80 (sg 24) from MI_s hI 24).1; have := (show iv 0 80 (sg 24) from MI_s hI 24).2; have := (hsx1_115).1; have := (hsx1_115).2; have := (h_3).1; have := (h_3).2; have := (h_7).1; have := (h_7).2; omega)))) (hlD) ((fun h => (BR1_e.mp h).2 (u115.resolve_right (fun w => absurd w.1 (by have := i32_0; have := i32_1; have := i32_2; have := i32_m1; have := (hsx1_115).1; have := (hsx1_115).2; have := (h_3).1; have := (h_3).2; have := (h_7).1; have := (h_7).2; omega))).2)) _ _ _ hP hD hS (lv_sub hl [0, 1, 2, 3] rfl)
      have hj114 : ∀ (x2_114 : Int32) (_ : iv 0 1 x2_114) (_ : iv 1 79 x1_2) (_ : 1 ≤ x1_2.toInt ∧ x1_2.toInt < (sg 24).toInt) (_ : x1_2.toNatClampNeg < D.length) (_ : (x2_114.toInt = 1 ∧ ((dAb D x1_2.toNatClampNeg = 0 ∧ USD D x1_2.toNatClampNeg (wdD D x1_2.toNatClampNeg)))) ∨ (x2_114.toInt = 0 ∧ ¬ ((dAb D x1_2.toNatClampNeg = 0 ∧ USD D x1_2.toNatClampNeg (wdD D x1_2.toNatClampNeg))))) (_ : ¬ PB7 D x1_2.toNatClampNeg) (H : Heap) (locs : List Loc) (ls : Array Slot), va_P (dC, dI) vwCl (mW h0 ad cid sg gm lg) H → va_D A (mW h0 ad cid sg gm lg) → va_S A s.heap H locs → lv_has ls 4 [(2, .int x2_114), (1, .int x1_2), (0, .ref h0)] → W p l e (headSpec wm_X13_badBeans ({ frames := 5, cells := 0, slots := 0, locals := 118 })).room s m ([.ref h0] : List Value).toArray below meth c H locs 0 0 (MQ below (va_Qi (fun r v => (iv (-1) 79 r) ∧ (0 ≤ r.toInt ∨ BBE sg gm lg) ∧ ((r.toInt = -1 ∧ BBR D) ∨ (0 ≤ r.toInt ∧ ¬ BBR D)) ∧ v = (sg, gm, lg)) (MB dC dI h0 ad cid A) A) ([.ref h0] : List Value).toArray s 0 0 A) (F0 m 114 ls []) := by
        intro x2_114 hx2_114 hsx1_114 hg1 hlD v2 u114 H locs ls hP hD hS hl
        have hlD : x1_2.toNatClampNeg < D.length := by have := hn; have := iv_cl (show iv 0 79 x1_2 from (iv_w hsx1_114 (by decide))) (by decide); have := i32_0; have := i32_1; have := i32_2; have := i32_m1; have := (show iv 0 80 (sg 24) from MI_s hI 24).1; have := (show iv 0 80 (sg 24) from MI_s hI 24).2; have := (hsx1_114).1; have := (hsx1_114).2; have := (hx2_114).1; have := (hx2_114).2; omega
        refine lv_iconst (v := 0) hx hb dX13_badBeans_114 (by decide) ?_
        exact hj115 x2_114 0 hx2_114 hsx1_114 (iv_w (iv_k (by decide) : iv 0 0 0) (by decide)) ((by first | exact hg1 | (constructor <;> (have := i32_0; have := i32_1; have := i32_2; have := i32_m1; have := (show iv 0 80 (sg 24) from MI_s hI 24).1; have := (show iv 0 80 (sg 24) from MI_s hI 24).2; have := (hsx1_114).1; have := (hsx1_114).2; have := (hx2_114).1; have := (hx2_114).2; omega)))) (hlD) ((by first | exact v2 | exact u61)) (Or.inr ⟨rfl, u114⟩) _ _ _ hP hD hS (lv_sub hl [0, 1, 2] rfl)
      have hj110 : ∀ (x2_110 : Int32) (_ : iv 0 1 x2_110) (_ : iv 1 79 x1_2) (_ : 1 ≤ x1_2.toInt ∧ x1_2.toInt < (sg 24).toInt) (_ : x1_2.toNatClampNeg < D.length) (_ : (x2_110.toInt = 1 ∧ ((dAb D x1_2.toNatClampNeg = 0 ∧ USD D x1_2.toNatClampNeg (wdD D x1_2.toNatClampNeg)))) ∨ (x2_110.toInt = 0 ∧ ¬ ((dAb D x1_2.toNatClampNeg = 0 ∧ USD D x1_2.toNatClampNeg (wdD D x1_2.toNatClampNeg))))) (_ : PB7 D x1_2.toNatClampNeg) (H : Heap) (locs : List Loc) (ls : Array Slot), va_P (dC, dI) vwCl (mW h0 ad cid sg gm lg) H → va_D A (mW h0 ad cid sg gm lg) → va_S A s.heap H locs → lv_has ls 4 [(2, .int x2_110), (1, .int x1_2), (0, .ref h0)] → W p l e (headSpec wm_X13_badBeans ({ frames := 5, cells := 0, slots := 0, locals := 118 })).room s m ([.ref h0] : List Value).toArray below meth c H locs 0 0 (MQ below (va_Qi (fun r v => (iv (-1) 79 r) ∧ (0 ≤ r.toInt ∨ BBE sg gm lg) ∧ ((r.toInt = -1 ∧ BBR D) ∨ (0 ≤ r.toInt ∧ ¬ BBR D)) ∧ v = (sg, gm, lg)) (MB dC dI h0 ad cid A) A) ([.ref h0] : List Value).toArray s 0 0 A) (F0 m 110 ls []) := by
        intro x2_110 hx2_110 hsx1_110 hg1 hlD v2 u110 H locs ls hP hD hS hl
        have hlD : x1_2.toNatClampNeg < D.length := by have := hn; have := iv_cl (show iv 0 79 x1_2 from (iv_w hsx1_110 (by decide))) (by decide); have := i32_0; have := i32_1; have := i32_2; have := i32_m1; have := (show iv 0 80 (sg 24) from MI_s hI 24).1; have := (show iv 0 80 (sg 24) from MI_s hI 24).2; have := (hsx1_110).1; have := (hsx1_110).2; have := (hx2_110).1; have := (hx2_110).2; omega
        refine lv_iconst (v := 1) hx hb dX13_badBeans_110 (by decide) ?_
        refine lv_goto (tgt := 115) hx hb dX13_badBeans_111 (by decide) ?_
        exact hj115 x2_110 1 hx2_110 hsx1_110 (iv_w (iv_k (by decide) : iv 1 1 1) (by decide)) ((by first | exact hg1 | (constructor <;> (have := i32_0; have := i32_1; have := i32_2; have := i32_m1; have := (show iv 0 80 (sg 24) from MI_s hI 24).1; have := (show iv 0 80 (sg 24) from MI_s hI 24).2; have := (hsx1_110).1; have := (hsx1_110).2; have := (hx2_110).1; have := (hx2_110).2; omega)))) (hlD) ((by first | exact v2 | exact u61)) (Or.inl ⟨rfl, u110⟩) _ _ _ hP hD hS (lv_sub hl [0, 1, 2] rfl)
      have hj61 : ∀ (y0_61 : Int32) (_ : iv 1 79 x1_2) (_ : iv 0 1 y0_61) (_ : 1 ≤ x1_2.toInt ∧ x1_2.toInt < (sg 24).toInt) (_ : x1_2.toNatClampNeg < D.length) (_ : (y0_61.toInt = 1 ∧ ((dAb D x1_2.toNatClampNeg = 0 ∧ USD D x1_2.toNatClampNeg (wdD D x1_2.toNatClampNeg)))) ∨ (y0_61.toInt = 0 ∧ ¬ ((dAb D x1_2.toNatClampNeg = 0 ∧ USD D x1_2.toNatClampNeg (wdD D x1_2.toNatClampNeg))))) (H : Heap) (locs : List Loc) (ls : Array Slot), va_P (dC, dI) vwCl (mW h0 ad cid sg gm lg) H → va_D A (mW h0 ad cid sg gm lg) → va_S A s.heap H locs → lv_has ls 4 [(1, .int x1_2), (0, .ref h0)] → W p l e (headSpec wm_X13_badBeans ({ frames := 5, cells := 0, slots := 0, locals := 118 })).room s m ([.ref h0] : List Value).toArray below meth c H locs 0 0 (MQ below (va_Qi (fun r v => (iv (-1) 79 r) ∧ (0 ≤ r.toInt ∨ BBE sg gm lg) ∧ ((r.toInt = -1 ∧ BBR D) ∨ (0 ≤ r.toInt ∧ ¬ BBR D)) ∧ v = (sg, gm, lg)) (MB dC dI h0 ad cid A) A) ([.ref h0] : List Value).toArray s 0 0 A) (F0 m 61 ls [.int y0_61]) := by
        intro y0_61 hsx1_61 hy0_61 hg1 hlD u61 H locs ls hP hD hS hl
        have hlD : x1_2.toNatClampNeg < D.length := by have := hn; have := iv_cl (show iv 0 79 x1_2 from (iv_w hsx1_61 (by decide))) (by decide); have := i32_0; have := i32_1; have := i32_2; have := i32_m1; have := (show iv 0 80 (sg 24) from MI_s hI 24).1; have := (show iv 0 80 (sg 24) from MI_s hI 24).2; have := (hsx1_61).1; have := (hsx1_61).2; have := (hy0_61).1; have := (hy0_61).2; omega
        refine lv_istore_n (lv' := [(2, .int y0_61), (1, .int x1_2), (0, .ref h0)]) hx hb dX13_badBeans_61 rfl hl (by decide) rfl (fun ls hl => ?_)
        refine lv_aload_n hx hb dX13_badBeans_62 rfl (lv_at hl 2 rfl) ?_
        refine mr_get (v := .ref (ad 26)) hx hb htb inX13 hown hK hP 26 (by decide) (htb _ kw_182) rfl dX13_badBeans_63 ?_
        refine lv_iload_n hx hb dX13_badBeans_66 rfl (lv_at hl 1 rfl) ?_
        refine mr_iald hx hb hK hP 19 (k := 26) rfl rfl rfl (show vp_in x1_2 80 from (iv_in hsx1_61 (by decide))) dX13_badBeans_67 ?_
        refine lv_topi (fun z_8 ez_8 => ?_)
        have hz_8 : iv 0 10 z_8 := iv_of ez_8 (MI_a hI 26 hsx1_61 (by decide))
        refine lv_iconst (v := 3) hx hb dX13_badBeans_68 (by decide) ?_
        refine lv_icmp_ne (tgt := 114) hx hb dX13_badBeans_69 (by decide) (fun c_9 => ?_) (fun c_9 => ?_)
        · have d_10 : ¬ (z_8 : Int32).toInt = 3 := lv_neT c_9 rfl
          exact hj114 y0_61 hy0_61 hsx1_61 ((by first | exact hg1 | (constructor <;> (have := i32_0; have := i32_1; have := i32_2; have := i32_m1; have := (show iv 0 80 (sg 24) from MI_s hI 24).1; have := (show iv 0 80 (sg 24) from MI_s hI 24).2; have := (hsx1_61).1; have := (hsx1_61).2; have := (hy0_61).1; have := (hy0_61).2; have := (hz_8).1; have := (hz_8).2; omega)))) (hlD) ((by first | exact v2 | exact u61)) ((fun w => by (try clear v2); (try clear u61);  have := w.1; have := congrArg Int32.toInt ez_8; have := (hRL _ hlD).2.2.2.1; have := hKN _ hlD; have := i32_0; have := i32_1; have := i32_2; have := i32_m1; have := (show iv 0 80 (sg 24) from MI_s hI 24).1; have := (show iv 0 80 (sg 24) from MI_s hI 24).2; have := (hsx1_61).1; have := (hsx1_61).2; have := (hy0_61).1; have := (hy0_61).2; have := (hz_8).1; have := (hz_8).2; omega)) _ _ _ hP hD hS (lv_sub hl [0, 1, 2] rfl)
        · have h_11 : iv 3 3 z_8 := iv_eq c_9 hz_8 (iv_k (by decide) : iv 3 3 3) (by decide)
          refine lv_aload_n hx hb dX13_badBeans_72 rfl (lv_at hl 2 rfl) ?_
          refine lv_iload_n hx hb dX13_badBeans_73 rfl (lv_at hl 1 rfl) ?_
          refine lv_ldc2 (own := RX13) (v := 123563833388660) hx hb hown (htb _ kw_901) dX13_badBeans_74 ?_
          refine mr_calli (rest := []) ⟨hx, hb, hml, hown, htb⟩ (f_has l dC dI h0 ad cid sg gm lg x1_2 123563833388660 hI (iv_w hsx1_61 (by decide))) (cwV 2 htb (gd_V kw_916 kw_917 kw_918 kw_5 kw_1543) rfl rfl rfl (by decide +kernel) ⟨Nat.le_of_ble_eq_true rfl, Nat.le_of_ble_eq_true rfl⟩) rfl hl.1 rfl (Nat.le_of_ble_eq_true rfl) dX13_badBeans_77 ⟨Nat.zero_le _, Nat.zero_le _⟩ hK hP hD hS hA (fun r_12 u_13 H locs hw hP hD hS => ?_)
          obtain ⟨hr_12, fH_r_12, rfl⟩ := hw
          have hP : va_P (dC, dI) vwCl (mW h0 ad cid sg gm lg) H := hP
          have hD : va_D A (mW h0 ad cid sg gm lg) := hD
          refine lv_if_eq (tgt := 114) hx hb dX13_badBeans_80 (by decide) (fun c_14 => ?_) (fun c_14 => ?_)
          · have h_15 : iv 0 0 r_12 := iv_eq c_14 hr_12 (iv_k (by decide) : iv 0 0 0) (by decide)
            exact hj114 y0_61 hy0_61 hsx1_61 ((by first | exact hg1 | (constructor <;> (have := i32_0; have := i32_1; have := i32_2; have := i32_m1; have := (show iv 0 80 (sg 24) from MI_s hI 24).1; have := (show iv 0 80 (sg 24) from MI_s hI 24).2; have := (hsx1_61).1; have := (hsx1_61).2; have := (hy0_61).1; have := (hy0_61).2; have := (h_11).1; have := (h_11).2; have := (h_15).1; have := (h_15).2; omega)))) (hlD) ((by first | exact v2 | exact u61)) ((fun w => by (try clear v2); (try clear u61);  have := w.2.1; have := congrArg Int32.toInt fH_r_12; have := (hRL _ hlD).2.2.1 123563833388660; have := i32_0; have := i32_1; have := i32_2; have := i32_m1; have := (hsx1_61).1; have := (hsx1_61).2; have := (hy0_61).1; have := (hy0_61).2; have := (h_11).1; have := (h_11).2; have := (h_15).1; have := (h_15).2; omega)) _ _ _ hP hD hS (lv_sub hl [0, 1, 2] rfl)
          · have h_16 : iv 1 1 r_12 := iv_neL c_14 hr_12 (by decide)
            refine lv_aload_n hx hb dX13_badBeans_83 rfl (lv_at hl 2 rfl) ?_
            refine lv_aload_n hx hb dX13_badBeans_84 rfl (lv_at hl 2 rfl) ?_
            refine mr_get (v := .ref (ad 43)) hx hb htb inX13 hown hK hP 43 (by decide) (htb _ kw_197) rfl dX13_badBeans_85 ?_
            refine lv_iload_n hx hb dX13_badBeans_88 rfl (lv_at hl 1 rfl) ?_
            refine mr_iald hx hb hK hP 34 (k := 43) rfl rfl rfl (show vp_in x1_2 80 from (iv_in hsx1_61 (by decide))) dX13_badBeans_89 ?_
            refine lv_topi (fun z_17 ez_17 => ?_)
            have hz_17 : iv 0 79 z_17 := iv_of ez_17 (MI_a hI 43 hsx1_61 (by decide))
            refine mr_calli (rest := []) ⟨hx, hb, hml, hown, htb⟩ (f_parentOf l dC dI h0 ad cid sg gm lg z_17 hI hz_17) (cwV 1 htb (gd_V kw_949 kw_950 kw_951 kw_5 kw_1553) rfl rfl rfl (by decide +kernel) ⟨Nat.le_of_ble_eq_true rfl, Nat.le_of_ble_eq_true rfl⟩) rfl hl.1 rfl (Nat.le_of_ble_eq_true rfl) dX13_badBeans_90 ⟨Nat.zero_le _, Nat.zero_le _⟩ hK hP hD hS hA (fun r_18 u_19 H locs hw hP hD hS => ?_)
            obtain ⟨hr_18, fP_r_18, rfl⟩ := hw
            have hP : va_P (dC, dI) vwCl (mW h0 ad cid sg gm lg) H := hP
            have hD : va_D A (mW h0 ad cid sg gm lg) := hD
            refine lv_iconst (v := (-1)) hx hb dX13_badBeans_93 (by decide) ?_
            refine lv_icmp_eq (tgt := 110) hx hb dX13_badBeans_94 (by decide) (fun c_20 => ?_) (fun c_20 => ?_)
            · have h_21 : iv (-1) (-1) r_18 := iv_eq c_20 hr_18 (iv_k (by decide) : iv (-1) (-1) (-1)) (by decide)
              exact hj110 y0_61 hy0_61 hsx1_61 ((by first | exact hg1 | (constructor <;> (have := i32_0; have := i32_1; have := i32_2; have := i32_m1; have := (show iv 0 80 (sg 24) from MI_s hI 24).1; have := (show iv 0 80 (sg 24) from MI_s hI 24).2; have := (hsx1_61).1; have := (hsx1_61).2; have := (hy0_61).1; have := (hy0_61).2; have := (h_11).1; have := (h_11).2; have := (h_16).1; have := (h_16).2; have := (hz_17).1; have := (hz_17).2; have := (h_21).1; have := (h_21).2; omega)))) (hlD) ((by first | exact v2 | exact u61)) ((by have hk3 : dKd D x1_2.toNatClampNeg = 3 := (by (try clear v2); (try clear u61);  have := congrArg Int32.toInt ez_8; have := (hRL _ hlD).2.2.2.1; have := hKN _ hlD; have := i32_0; have := i32_1; have := i32_2; have := i32_m1; have := (show iv 0 80 (sg 24) from MI_s hI 24).1; have := (show iv 0 80 (sg 24) from MI_s hI 24).2; have := (hsx1_61).1; have := (hsx1_61).2; have := (hy0_61).1; have := (hy0_61).2; have := (h_11).1; have := (h_11).2; have := (h_16).1; have := (h_16).2; have := (hz_17).1; have := (hz_17).2; have := (h_21).1; have := (h_21).2; omega); have h80 : D.length ≤ 80 := (by have := hn; have := (show iv 0 80 (sg 24) from MI_s hI 24).2; omega); have hz9 : z_17 = nI (bsN D x1_2.toNatClampNeg).length := (by rw [ez_17]; exact BN_nI hBN h80 hlD hk3); have hb9 := elD_i hlD hk3; have hl9 := bsN_l (D := D) x1_2.toNatClampNeg; have h49 : (nI (bsN D x1_2.toNatClampNeg).length).toInt = (bsN D x1_2.toNatClampNeg).length := nI_toInt (by omega); have hc9 : (nI (bsN D x1_2.toNatClampNeg).length).toNatClampNeg < nbD D := (by show (nI (bsN D x1_2.toNatClampNeg).length).toInt.toNat < _; omega); exact ⟨hk3, (by (try clear v2); (try clear u61);  have := congrArg Int32.toInt fH_r_12; have := (hRL _ hlD).2.2.1 123563833388660; have := aH_01 (q := dAt D x1_2.toNatClampNeg) (k := 123563833388660); have := i32_0; have := i32_1; have := i32_2; have := i32_m1; have := (hsx1_61).1; have := (hsx1_61).2; have := (hy0_61).1; have := (hy0_61).2; have := (h_11).1; have := (h_11).2; have := (h_16).1; have := (h_16).2; have := (hz_17).1; have := (hz_17).2; have := (h_21).1; have := (h_21).2; omega), Or.inl (by have q2 := fP_r_18; rw [c_20, hz9, mPar_e hRL hBN hc9] at q2; exact q2.symm)⟩)) _ _ _ hP hD hS (lv_sub hl [0, 1, 2] rfl)
            · have h_22 : iv 0 79 r_18 := iv_neL c_20 hr_18 (by decide)
              refine lv_aload_n hx hb dX13_badBeans_97 rfl (lv_at hl 2 rfl) ?_
              refine lv_aload_n hx hb dX13_badBeans_98 rfl (lv_at hl 2 rfl) ?_
              refine mr_get (v := .ref (ad 43)) hx hb htb inX13 hown hK hP 43 (by decide) (htb _ kw_197) rfl dX13_badBeans_99 ?_
              refine lv_iload_n hx hb dX13_badBeans_102 rfl (lv_at hl 1 rfl) ?_
              refine mr_iald hx hb hK hP 34 (k := 43) rfl rfl rfl (show vp_in x1_2 80 from (iv_in hsx1_61 (by decide))) dX13_badBeans_103 ?_
              refine lv_topi (fun z_23 ez_23 => ?_)
              obtain rfl : z_17 = z_23 := ez_17.trans ez_23.symm
              refine mr_calli (rest := []) ⟨hx, hb, hml, hown, htb⟩ (f_comesToItself2 l dC dI h0 ad cid sg gm lg z_17 hI hz_17) (cwV 1 htb (gd_V kw_955 kw_956 kw_957 kw_5 kw_1555) rfl rfl rfl (by decide +kernel) ⟨Nat.le_of_ble_eq_true rfl, Nat.le_of_ble_eq_true rfl⟩) rfl hl.1 rfl (Nat.le_of_ble_eq_true rfl) dX13_badBeans_104 ⟨Nat.zero_le _, Nat.zero_le _⟩ hK hP hD hS hA (fun r_24 u_25 H locs hw hP hD hS => ?_)
              obtain ⟨hr_24, fC_r_24, rfl⟩ := hw
              have hP : va_P (dC, dI) vwCl (mW h0 ad cid sg gm lg) H := hP
              have hD : va_D A (mW h0 ad cid sg gm lg) := hD
              refine lv_if_eq (tgt := 114) hx hb dX13_badBeans_107 (by decide) (fun c_26 => ?_) (fun c_26 => ?_)
              · have h_27 : iv 0 0 r_24 := iv_eq c_26 hr_24 (iv_k (by decide) : iv 0 0 0) (by decide)
                exact hj114 y0_61 hy0_61 hsx1_61 ((by first | exact hg1 | (constructor <;> (have := i32_0; have := i32_1; have := i32_2; have := i32_m1; have := (show iv 0 80 (sg 24) from MI_s hI 24).1; have := (show iv 0 80 (sg 24) from MI_s hI 24).2; have := (hsx1_61).1; have := (hsx1_61).2; have := (hy0_61).1; have := (hy0_61).2; have := (h_11).1; have := (h_11).2; have := (h_16).1; have := (h_16).2; have := (hz_17).1; have := (hz_17).2; have := (h_22).1; have := (h_22).2; have := (h_27).1; have := (h_27).2; omega)))) (hlD) ((by first | exact v2 | exact u61)) ((fun w => by have hk3 : dKd D x1_2.toNatClampNeg = 3 := (by (try clear v2); (try clear u61);  have := congrArg Int32.toInt ez_8; have := (hRL _ hlD).2.2.2.1; have := hKN _ hlD; have := i32_0; have := i32_1; have := i32_2; have := i32_m1; have := (show iv 0 80 (sg 24) from MI_s hI 24).1; have := (show iv 0 80 (sg 24) from MI_s hI 24).2; have := (hsx1_61).1; have := (hsx1_61).2; have := (hy0_61).1; have := (hy0_61).2; have := (h_11).1; have := (h_11).2; have := (h_16).1; have := (h_16).2; have := (hz_17).1; have := (hz_17).2; have := (h_22).1; have := (h_22).2; have := (h_27).1; have := (h_27).2; omega); have h80 : D.length ≤ 80 := (by have := hn; have := (show iv 0 80 (sg 24) from MI_s hI 24).2; omega); have hz9 : z_17 = nI (bsN D x1_2.toNatClampNeg).length := (by rw [ez_17]; exact BN_nI hBN h80 hlD hk3); have hb9 := elD_i hlD hk3; have hl9 := bsN_l (D := D) x1_2.toNatClampNeg; have h49 : (nI (bsN D x1_2.toNatClampNeg).length).toInt = (bsN D x1_2.toNatClampNeg).length := nI_toInt (by omega); have hc9 : (nI (bsN D x1_2.toNatClampNeg).length).toNatClampNeg < nbD D := (by show (nI (bsN D x1_2.toNatClampNeg).length).toInt.toNat < _; omega); rcases w.2.2 with q | q; (have q2 := fP_r_18; rw [hz9, mPar_e hRL hBN hc9, q] at q2; exact c_20 q2); (have q2 := (fC_r_24.resolve_left (fun v => absurd v.1 (by have := i32_0; have := i32_1; have := i32_2; have := i32_m1; have := (hsx1_61).1; have := (hsx1_61).2; have := (hy0_61).1; have := (hy0_61).2; have := (h_11).1; have := (h_11).2; have := (h_16).1; have := (h_16).2; have := (hz_17).1; have := (hz_17).2; have := (h_22).1; have := (h_22).2; have := (h_27).1; have := (h_27).2; omega))).2; rw [hz9] at q2; exact q ((NR_e hRL hBN h80 (by omega) hc9).mp q2)))) _ _ _ hP hD hS (lv_sub hl [0, 1, 2] rfl)
              · have h_28 : iv 1 1 r_24 := iv_neL c_26 hr_24 (by decide)
                exact hj110 y0_61 hy0_61 hsx1_61 ((by first | exact hg1 | (constructor <;> (have := i32_0; have := i32_1; have := i32_2; have := i32_m1; have := (show iv 0 80 (sg 24) from MI_s hI 24).1; have := (show iv 0 80 (sg 24) from MI_s hI 24).2; have := (hsx1_61).1; have := (hsx1_61).2; have := (hy0_61).1; have := (hy0_61).2; have := (h_11).1; have := (h_11).2; have := (h_16).1; have := (h_16).2; have := (hz_17).1; have := (hz_17).2; have := (h_22).1; have := (h_22).2; have := (h_28).1; have := (h_28).2; omega)))) (hlD) ((by first | exact v2 | exact u61)) ((by have hk3 : dKd D x1_2.toNatClampNeg = 3 := (by (try clear v2); (try clear u61);  have := congrArg Int32.toInt ez_8; have := (hRL _ hlD).2.2.2.1; have := hKN _ hlD; have := i32_0; have := i32_1; have := i32_2; have := i32_m1; have := (show iv 0 80 (sg 24) from MI_s hI 24).1; have := (show iv 0 80 (sg 24) from MI_s hI 24).2; have := (hsx1_61).1; have := (hsx1_61).2; have := (hy0_61).1; have := (hy0_61).2; have := (h_11).1; have := (h_11).2; have := (h_16).1; have := (h_16).2; have := (hz_17).1; have := (hz_17).2; have := (h_22).1; have := (h_22).2; have := (h_28).1; have := (h_28).2; omega); have h80 : D.length ≤ 80 := (by have := hn; have := (show iv 0 80 (sg 24) from MI_s hI 24).2; omega); have hz9 : z_17 = nI (bsN D x1_2.toNatClampNeg).length := (by rw [ez_17]; exact BN_nI hBN h80 hlD hk3); have hb9 := elD_i hlD hk3; have hl9 := bsN_l (D := D) x1_2.toNatClampNeg; have h49 : (nI (bsN D x1_2.toNatClampNeg).length).toInt = (bsN D x1_2.toNatClampNeg).length := nI_toInt (by omega); have hc9 : (nI (bsN D x1_2.toNatClampNeg).length).toNatClampNeg < nbD D := (by show (nI (bsN D x1_2.toNatClampNeg).length).toInt.toNat < _; omega); exact ⟨hk3, (by (try clear v2); (try clear u61);  have := congrArg Int32.toInt fH_r_12; have := (hRL _ hlD).2.2.1 123563833388660; have := aH_01 (q := dAt D x1_2.toNatClampNeg) (k := 123563833388660); have := i32_0; have := i32_1; have := i32_2; have := i32_m1; have := (hsx1_61).1; have := (hsx1_61).2; have := (hy0_61).1; have := (hy0_61).2; have := (h_11).1; have := (h_11).2; have := (h_16).1; have := (h_16).2; have := (hz_17).1; have := (hz_17).2; have := (h_22).1; have := (h_22).2; have := (h_28).1; have := (h_28).2; omega), Or.inr (fun q => by have q2 := (fC_r_24.resolve_right (fun v => absurd v.1 (by have := i32_0; have := i32_1; have := i32_2; have := i32_m1; have := (hsx1_61).1; have := (hsx1_61).2; have := (hy0_61).1; have := (hy0_61).2; have := (h_11).1; have := (h_11).2; have := (h_16).1; have := (h_16).2; have := (hz_17).1; have := (hz_17).2; have := (h_22).1; have := (h_22).2; have := (h_28).1; have := (h_28).2; omega))).2; rw [hz9] at q2; exact q2 ((NR_e hRL hBN h80 (by omega) hc9).mpr q))⟩)) _ _ _ hP hD hS (lv_sub hl [0, 1, 2] rfl)
      have hj60 : ∀ (_ : iv 1 79 x1_2) (_ : 1 ≤ x1_2.toInt ∧ x1_2.toInt < (sg 24).toInt) (_ : x1_2.toNatClampNeg < D.length) (_ : ¬ (dAb D x1_2.toNatClampNeg = 0 ∧ USD D x1_2.toNatClampNeg (wdD D x1_2.toNatClampNeg))) (H : Heap) (locs : List Loc) (ls : Array Slot), va_P (dC, dI) vwCl (mW h0 ad cid sg gm lg) H → va_D A (mW h0 ad cid sg gm lg) → va_S A s.heap H locs → lv_has ls 4 [(1, .int x1_2), (0, .ref h0)] → W p l e (headSpec wm_X13_badBeans ({ frames := 5, cells := 0, slots := 0, locals := 118 })).room s m ([.ref h0] : List Value).toArray below meth c H locs 0 0 (MQ below (va_Qi (fun r v => (iv (-1) 79 r) ∧ (0 ≤ r.toInt ∨ BBE sg gm lg) ∧ ((r.toInt = -1 ∧ BBR D) ∨ (0 ≤ r.toInt ∧ ¬ BBR D)) ∧ v = (sg, gm, lg)) (MB dC dI h0 ad cid A) A) ([.ref h0] : List Value).toArray s 0 0 A) (F0 m 60 ls []) := by
        intro  hsx1_60 hg1 hlD u60 H locs ls hP hD hS hl
        have hlD : x1_2.toNatClampNeg < D.length := by have := hn; have := iv_cl (show iv 0 79 x1_2 from (iv_w hsx1_60 (by decide))) (by decide); have := i32_0; have := i32_1; have := i32_2; have := i32_m1; have := (show iv 0 80 (sg 24) from MI_s hI 24).1; have := (show iv 0 80 (sg 24) from MI_s hI 24).2; have := (hsx1_60).1; have := (hsx1_60).2; omega
        refine lv_iconst (v := 0) hx hb dX13_badBeans_60 (by decide) ?_
        exact hj61 0 hsx1_60 (iv_w (iv_k (by decide) : iv 0 0 0) (by decide)) ((by first | exact hg1 | (constructor <;> (have := i32_0; have := i32_1; have := i32_2; have := i32_m1; have := (show iv 0 80 (sg 24) from MI_s hI 24).1; have := (show iv 0 80 (sg 24) from MI_s hI 24).2; have := (hsx1_60).1; have := (hsx1_60).2; omega)))) (hlD) (Or.inr ⟨rfl, u60⟩) _ _ _ hP hD hS (lv_sub hl [0, 1] rfl)
      have hj50 : ∀ (y0_50 : Int64) (_ : iv 1 79 x1_2) (_ : iv 1 79 x1_2) (_ : 1 ≤ x1_2.toInt ∧ x1_2.toInt < (sg 24).toInt) (_ : x1_2.toNatClampNeg < D.length) (_ : dAb D x1_2.toNatClampNeg = 0) (_ : y0_50 = wdD D x1_2.toNatClampNeg) (H : Heap) (locs : List Loc) (ls : Array Slot), va_P (dC, dI) vwCl (mW h0 ad cid sg gm lg) H → va_D A (mW h0 ad cid sg gm lg) → va_S A s.heap H locs → lv_has ls 4 [(1, .int x1_2), (0, .ref h0)] → W p l e (headSpec wm_X13_badBeans ({ frames := 5, cells := 0, slots := 0, locals := 118 })).room s m ([.ref h0] : List Value).toArray below meth c H locs 0 0 (MQ below (va_Qi (fun r v => (iv (-1) 79 r) ∧ (0 ≤ r.toInt ∨ BBE sg gm lg) ∧ ((r.toInt = -1 ∧ BBR D) ∨ (0 ≤ r.toInt ∧ ¬ BBR D)) ∧ v = (sg, gm, lg)) (MB dC dI h0 ad cid A) A) ([.ref h0] : List Value).toArray s 0 0 A) (F0 m 50 ls [.long y0_50, .int x1_2, .ref h0]) := by
        intro y0_50 hsx1_50 hsy1_50 hg1 hlD ha0 u50 H locs ls hP hD hS hl
        have hlD : x1_2.toNatClampNeg < D.length := by have := hn; have := iv_cl (show iv 0 79 x1_2 from (iv_w hsy1_50 (by decide))) (by decide); have := i32_0; have := i32_1; have := i32_2; have := i32_m1; have := (show iv 0 80 (sg 24) from MI_s hI 24).1; have := (show iv 0 80 (sg 24) from MI_s hI 24).2; have := (hsy1_50).1; have := (hsy1_50).2; omega
        refine mr_calli (rest := []) ⟨hx, hb, hml, hown, htb⟩ (f_isUsed2 l dC dI h0 ad cid sg gm lg x1_2 y0_50 D hI (iv_w hsy1_50 (by decide)) hRL hKN hn hg1.2) (cwV 2 htb (gd_V kw_946 kw_947 kw_948 kw_5 kw_1552) rfl rfl rfl (by decide +kernel) ⟨Nat.le_of_ble_eq_true rfl, Nat.le_of_ble_eq_true rfl⟩) rfl hl.1 rfl (Nat.le_of_ble_eq_true rfl) dX13_badBeans_50 ⟨Nat.zero_le _, Nat.zero_le _⟩ hK hP hD hS hA (fun r_29 u_30 H locs hw hP hD hS => ?_)
        obtain ⟨hr_29, fU_r_29, rfl⟩ := hw
        have hP : va_P (dC, dI) vwCl (mW h0 ad cid sg gm lg) H := hP
        have hD : va_D A (mW h0 ad cid sg gm lg) := hD
        refine lv_if_eq (tgt := 60) hx hb dX13_badBeans_53 (by decide) (fun c_31 => ?_) (fun c_31 => ?_)
        · have h_32 : iv 0 0 r_29 := iv_eq c_31 hr_29 (iv_k (by decide) : iv 0 0 0) (by decide)
          exact hj60 hsy1_50 ((by first | exact hg1 | (constructor <;> (have := i32_0; have := i32_1; have := i32_2; have := i32_m1; have := (show iv 0 80 (sg 24) from MI_s hI 24).1; have := (show iv 0 80 (sg 24) from MI_s hI 24).2; have := (hsy1_50).1; have := (hsy1_50).2; have := (h_32).1; have := (h_32).2; omega)))) (hlD) ((fun w => (fU_r_29.resolve_left (fun v => absurd v.1 (by have := i32_0; have := i32_1; have := i32_2; have := i32_m1; have := (hsy1_50).1; have := (hsy1_50).2; have := (h_32).1; have := (h_32).2; omega))).2 (by rw [u50]; exact w.2))) _ _ _ hP hD hS (lv_sub hl [0, 1] rfl)
        · have h_33 : iv 1 1 r_29 := iv_neL c_31 hr_29 (by decide)
          refine lv_iconst (v := 1) hx hb dX13_badBeans_56 (by decide) ?_
          refine lv_goto (tgt := 61) hx hb dX13_badBeans_57 (by decide) ?_
          exact hj61 1 hsy1_50 (iv_w (iv_k (by decide) : iv 1 1 1) (by decide)) ((by first | exact hg1 | (constructor <;> (have := i32_0; have := i32_1; have := i32_2; have := i32_m1; have := (show iv 0 80 (sg 24) from MI_s hI 24).1; have := (show iv 0 80 (sg 24) from MI_s hI 24).2; have := (hsy1_50).1; have := (hsy1_50).2; have := (h_33).1; have := (h_33).2; omega)))) (hlD) (Or.inl ⟨rfl, ha0, (by rw [← u50]; exact (fU_r_29.resolve_right (fun v => absurd v.1 (by have := i32_0; have := i32_1; have := i32_2; have := i32_m1; have := (hsy1_50).1; have := (hsy1_50).2; have := (h_33).1; have := (h_33).2; omega))).2)⟩) _ _ _ hP hD hS (lv_sub hl [0, 1] rfl)
      refine lv_iload_n hx hb dX13_badBeans_2 rfl (lv_at hl 0 rfl) ?_
      refine lv_aload_n hx hb dX13_badBeans_3 rfl (lv_at hl 1 rfl) ?_
      refine mr_get (v := .int (sg 24)) hx hb htb inX13 hown hK hP 24 (by decide) (htb _ kw_815) rfl dX13_badBeans_4 ?_
      refine lv_icmp_ge (tgt := 132) hx hb dX13_badBeans_7 (by decide) (fun c_34 => ?_) (fun c_34 => ?_)
      · have d_35 : ((sg 24) : Int32).toInt ≤ (x1_2 : Int32).toInt := Int32.le_iff_toInt_le.mp c_34
        have hall : BBR D := fun k h8 h9 => hbr k h8 (by have := hn; have := iv_cl (show iv 0 80 x1_2 from (iv_w hx1_2 (by decide))) (by decide); have := i32_0; have := i32_1; have := i32_2; have := i32_m1; have := (show iv 0 80 (sg 24) from MI_s hI 24).1; have := (show iv 0 80 (sg 24) from MI_s hI 24).2; have := (hx1_2).1; have := (hx1_2).2; have := ((show iv 0 80 (sg 24) from MI_s hI 24)).1; have := ((show iv 0 80 (sg 24) from MI_s hI 24)).2; omega)
        refine lv_iconst (v := (-1)) hx hb dX13_badBeans_132 (by decide) ?_
        exact W.iret (v := (-1)) hx hb hr (fun t ht hW => ⟨⟨(-1), (sg, gm, lg), rfl, ⟨(iv_w (iv_k (by decide) : iv (-1) (-1) (-1)) (by decide)), (Or.inr (fun k9 h8 h9 => BB1_of hRL hKN hBN (by have := hn; have := (show iv 0 80 (sg 24) from MI_s hI 24).2; omega) (by have := hn; have : (sg 24).toNatClampNeg = (sg 24).toInt.toNat := rfl; omega) (hall k9 h8 (by have := hn; have : (sg 24).toNatClampNeg = (sg 24).toInt.toNat := rfl; omega)))), (Or.inl ⟨rfl, hall⟩), rfl⟩, by rw [ht]; exact hP, va_K.moved hW.alike hK, hD⟩, hS.F ht⟩) hS.2.2 dX13_badBeans_133
      · have d_36 : (x1_2 : Int32).toInt < ((sg 24) : Int32).toInt := Int32.lt_iff_toInt_lt.mp (i32_lt c_34)
        have h_37 : iv 1 79 x1_2 := iv_ltL (i32_lt c_34) hx1_2 (show iv 0 80 (sg 24) from MI_s hI 24) (by decide)
        have h_38 : iv 2 80 (sg 24) := iv_ltR (i32_lt c_34) hx1_2 (show iv 0 80 (sg 24) from MI_s hI 24) (by decide)
        have hlD : x1_2.toNatClampNeg < D.length := by have := hn; have := iv_cl (show iv 0 79 x1_2 from (iv_w h_37 (by decide))) (by decide); have := i32_0; have := i32_1; have := i32_2; have := i32_m1; have := (show iv 0 80 (sg 24) from MI_s hI 24).1; have := (show iv 0 80 (sg 24) from MI_s hI 24).2; have := (h_37).1; have := (h_37).2; have := (h_38).1; have := (h_38).2; omega
        refine lv_aload_n hx hb dX13_badBeans_10 rfl (lv_at hl 1 rfl) ?_
        refine mr_get (v := .ref (ad 28)) hx hb htb inX13 hown hK hP 28 (by decide) (htb _ kw_184) rfl dX13_badBeans_11 ?_
        refine lv_iload_n hx hb dX13_badBeans_14 rfl (lv_at hl 0 rfl) ?_
        refine mr_iald hx hb hK hP 21 (k := 28) rfl rfl rfl (show vp_in x1_2 80 from (iv_in h_37 (by decide))) dX13_badBeans_15 ?_
        refine lv_topi (fun z_39 ez_39 => ?_)
        have hz_39 : iv (-1) 79 z_39 := iv_of ez_39 (MI_a hI 28 h_37 (by decide))
        refine lv_if_ne (tgt := 60) hx hb dX13_badBeans_16 (by decide) (fun c_40 => ?_) (fun c_40 => ?_)
        · have d_41 : ¬ (z_39 : Int32).toInt = 0 := lv_neT c_40 rfl
          exact hj60 h_37 ((by first | exact hg1 | (constructor <;> (have := i32_0; have := i32_1; have := i32_2; have := i32_m1; have := (show iv 0 80 (sg 24) from MI_s hI 24).1; have := (show iv 0 80 (sg 24) from MI_s hI 24).2; have := (h_37).1; have := (h_37).2; have := (h_38).1; have := (h_38).2; have := (hz_39).1; have := (hz_39).2; omega)))) (hlD) ((fun w => absurd w.1 (by have := congrArg Int32.toInt ez_39; have := (hRL _ hlD).2.2.2.1; have := hKN _ hlD; have := i32_0; have := i32_1; have := i32_2; have := i32_m1; have := (show iv 0 80 (sg 24) from MI_s hI 24).1; have := (show iv 0 80 (sg 24) from MI_s hI 24).2; have := (h_37).1; have := (h_37).2; have := (h_38).1; have := (h_38).2; have := (hz_39).1; have := (hz_39).2; omega))) _ _ _ hP hD hS (lv_sub hl [0, 1] rfl)
        · have h_42 : iv 0 0 z_39 := iv_eq c_40 hz_39 (iv_k (by decide) : iv 0 0 0) (by decide)
          refine lv_aload_n hx hb dX13_badBeans_19 rfl (lv_at hl 1 rfl) ?_
          refine lv_iload_n hx hb dX13_badBeans_20 rfl (lv_at hl 0 rfl) ?_
          refine lv_aload_n hx hb dX13_badBeans_21 rfl (lv_at hl 1 rfl) ?_
          refine mr_get (v := .ref (ad 26)) hx hb htb inX13 hown hK hP 26 (by decide) (htb _ kw_182) rfl dX13_badBeans_22 ?_
          refine lv_iload_n hx hb dX13_badBeans_25 rfl (lv_at hl 0 rfl) ?_
          refine mr_iald hx hb hK hP 19 (k := 26) rfl rfl rfl (show vp_in x1_2 80 from (iv_in h_37 (by decide))) dX13_badBeans_26 ?_
          refine lv_topi (fun z_43 ez_43 => ?_)
          have hz_43 : iv 0 10 z_43 := iv_of ez_43 (MI_a hI 26 h_37 (by decide))
          refine lv_iconst (v := 3) hx hb dX13_badBeans_27 (by decide) ?_
          refine lv_icmp_ne (tgt := 42) hx hb dX13_badBeans_28 (by decide) (fun c_44 => ?_) (fun c_44 => ?_)
          · have d_45 : ¬ (z_43 : Int32).toInt = 3 := lv_neT c_44 rfl
            refine lv_aload_n hx hb dX13_badBeans_42 rfl (lv_at hl 1 rfl) ?_
            refine lv_iload_n hx hb dX13_badBeans_43 rfl (lv_at hl 0 rfl) ?_
            refine lv_ldc2 (own := RX13) (v := 29807) hx hb hown (htb _ kw_888) dX13_badBeans_44 ?_
            refine mr_calll (rest := [.int x1_2, .ref h0]) ⟨hx, hb, hml, hown, htb⟩ (f_word l dC dI h0 ad cid sg gm lg x1_2 29807 hI (iv_w h_37 (by decide))) (cwV 2 htb (gd_V kw_923 kw_924 kw_925 kw_5 kw_1545) rfl rfl rfl (by decide +kernel) ⟨Nat.le_of_ble_eq_true rfl, Nat.le_of_ble_eq_true rfl⟩) rfl hl.1 rfl (Nat.le_of_ble_eq_true rfl) dX13_badBeans_47 ⟨Nat.zero_le _, Nat.zero_le _⟩ hK hP hD hS hA (fun r_46 u_47 H locs hw hP hD hS => ?_)
            obtain ⟨fW_r_46, rfl⟩ := hw
            have hP : va_P (dC, dI) vwCl (mW h0 ad cid sg gm lg) H := hP
            have hD : va_D A (mW h0 ad cid sg gm lg) := hD
            exact hj50 r_46 h_37 h_37 ((by first | exact hg1 | (constructor <;> (have := i32_0; have := i32_1; have := i32_2; have := i32_m1; have := (show iv 0 80 (sg 24) from MI_s hI 24).1; have := (show iv 0 80 (sg 24) from MI_s hI 24).2; have := (h_37).1; have := (h_37).2; have := (h_38).1; have := (h_38).2; have := (h_42).1; have := (h_42).2; have := (hz_43).1; have := (hz_43).2; omega)))) (hlD) ((by have := congrArg Int32.toInt ez_39; have := congrArg Int32.toInt ez_43; have := (hRL _ hlD).2.2.2.1; have := hKN _ hlD; have := i32_0; have := i32_1; have := i32_2; have := i32_m1; have := (show iv 0 80 (sg 24) from MI_s hI 24).1; have := (show iv 0 80 (sg 24) from MI_s hI 24).2; have := (h_37).1; have := (h_37).2; have := (h_38).1; have := (h_38).2; have := (h_42).1; have := (h_42).2; have := (hz_43).1; have := (hz_43).2; omega)) ((by unfold wdD; rw [if_neg (by have := congrArg Int32.toInt ez_39; have := congrArg Int32.toInt ez_43; have := (hRL _ hlD).2.2.2.1; have := hKN _ hlD; have := i32_0; have := i32_1; have := i32_2; have := i32_m1; have := (show iv 0 80 (sg 24) from MI_s hI 24).1; have := (show iv 0 80 (sg 24) from MI_s hI 24).2; have := (h_37).1; have := (h_37).2; have := (h_38).1; have := (h_38).2; have := (h_42).1; have := (h_42).2; have := (hz_43).1; have := (hz_43).2; omega)]; exact fW_r_46.trans ((hRL _ hlD).1 _))) _ _ _ hP hD hS (lv_sub hl [0, 1] rfl)
          · have h_48 : iv 3 3 z_43 := iv_eq c_44 hz_43 (iv_k (by decide) : iv 3 3 3) (by decide)
            refine lv_aload_n hx hb dX13_badBeans_31 rfl (lv_at hl 1 rfl) ?_
            refine lv_iload_n hx hb dX13_badBeans_32 rfl (lv_at hl 0 rfl) ?_
            refine lv_ldc2 (own := RX13) (v := 26980) hx hb hown (htb _ kw_899) dX13_badBeans_33 ?_
            refine mr_calll (rest := [.int x1_2, .ref h0]) ⟨hx, hb, hml, hown, htb⟩ (f_word l dC dI h0 ad cid sg gm lg x1_2 26980 hI (iv_w h_37 (by decide))) (cwV 2 htb (gd_V kw_923 kw_924 kw_925 kw_5 kw_1545) rfl rfl rfl (by decide +kernel) ⟨Nat.le_of_ble_eq_true rfl, Nat.le_of_ble_eq_true rfl⟩) rfl hl.1 rfl (Nat.le_of_ble_eq_true rfl) dX13_badBeans_36 ⟨Nat.zero_le _, Nat.zero_le _⟩ hK hP hD hS hA (fun r_49 u_50 H locs hw hP hD hS => ?_)
            obtain ⟨fW_r_49, rfl⟩ := hw
            have hP : va_P (dC, dI) vwCl (mW h0 ad cid sg gm lg) H := hP
            have hD : va_D A (mW h0 ad cid sg gm lg) := hD
            refine lv_goto (tgt := 50) hx hb dX13_badBeans_39 (by decide) ?_
            exact hj50 r_49 h_37 h_37 ((by first | exact hg1 | (constructor <;> (have := i32_0; have := i32_1; have := i32_2; have := i32_m1; have := (show iv 0 80 (sg 24) from MI_s hI 24).1; have := (show iv 0 80 (sg 24) from MI_s hI 24).2; have := (h_37).1; have := (h_37).2; have := (h_38).1; have := (h_38).2; have := (h_42).1; have := (h_42).2; have := (h_48).1; have := (h_48).2; omega)))) (hlD) ((by have := congrArg Int32.toInt ez_39; have := congrArg Int32.toInt ez_43; have := (hRL _ hlD).2.2.2.1; have := hKN _ hlD; have := i32_0; have := i32_1; have := i32_2; have := i32_m1; have := (show iv 0 80 (sg 24) from MI_s hI 24).1; have := (show iv 0 80 (sg 24) from MI_s hI 24).2; have := (h_37).1; have := (h_37).2; have := (h_38).1; have := (h_38).2; have := (h_42).1; have := (h_42).2; have := (h_48).1; have := (h_48).2; omega)) ((by unfold wdD; rw [if_pos (by have := congrArg Int32.toInt ez_39; have := congrArg Int32.toInt ez_43; have := (hRL _ hlD).2.2.2.1; have := hKN _ hlD; have := i32_0; have := i32_1; have := i32_2; have := i32_m1; have := (show iv 0 80 (sg 24) from MI_s hI 24).1; have := (show iv 0 80 (sg 24) from MI_s hI 24).2; have := (h_37).1; have := (h_37).2; have := (h_38).1; have := (h_38).2; have := (h_42).1; have := (h_42).2; have := (h_48).1; have := (h_48).2; omega)]; exact fW_r_49.trans ((hRL _ hlD).1 _))) _ _ _ hP hD hS (lv_sub hl [0, 1] rfl)
  refine lv_iconst (v := 1) hx hb dX13_badBeans_0 (by decide) ?_
  refine lv_istore_n (lv' := [(1, .int 1), (0, .ref h0)]) hx hb dX13_badBeans_1 rfl hl (by decide) rfl (fun ls hl => ?_)
  exact hj2 _ 1 rfl (iv_w (iv_k (by decide) : iv 1 1 1) (by decide)) ((fun k h8 h9 => by have : (1 : Int32).toNatClampNeg = 1 := rfl; omega)) _ _ _ hP hD hS (lv_sub hl [0, 1] rfl)
end
section
/-- the list of a text, as far as it is one -/
def dD (ch : Nat → Int) (n : Nat) : List El7 := (sDoc ch n).getD []
theorem dD_s {ch : Nat → Int} {n : Nat} {D : List El7} (h : sDoc ch n = some D) : dD ch n = D := by unfold dD; rw [h]; rfl
def ACP (ch : Nat → Int) (n : Nat) : Prop := sDoc ch n = some (dD ch n) ∧ ACR (dD ch n)
def XX7 (ch : Nat → Int) (n : Nat) : Prop := ∀ D, sDoc ch n = some D → TR7 D ∧ D.length ≤ 80
theorem XX_n {ch : Nat → Int} {n : Nat} (h : sDoc ch n = none) : XX7 ch n := fun D q => by rw [h] at q; cases q
theorem XX_s {ch : Nat → Int} {n : Nat} (h : sDoc ch n = some (dD ch n)) (h1 : TR7 (dD ch n)) (h2 : (dD ch n).length ≤ 80) : XX7 ch n := fun D q => by rw [h] at q; cases q; exact ⟨h1, h2⟩
theorem ACP_n {ch : Nat → Int} {n : Nat} (h : sDoc ch n = none) : ¬ ACP ch n := fun q => by have q1 := q.1; rw [h] at q1; cases q1
theorem BN_0 {D : List El7} {sg : Nat → Int32} {gm : Nat → Nat → Int32} (h : (sg 41).toInt = 0) : BN7 D sg gm 0 := ⟨h, fun b y q => by cases q⟩
theorem BN_w {D : List El7} {sg : Nat → Int32} {gm : Nat → Nat → Int32} {n : Nat} (h : BN7 D sg gm n) (hk : ¬ dKd D n = 3) : BN7 D sg gm (n + 1) := by
  unfold BN7
  rw [bsN_f hk]
  exact h
theorem BN_s {D : List El7} {sg sg2 : Nat → Int32} {gm gm2 : Nat → Nat → Int32} {x : Int32} (hx : iv 0 79 x) (hb : iv 0 79 (sg 41)) (h : BN7 D sg gm x.toNatClampNeg) (h1 : (sg2 41).toInt = (sg 41).toInt + 1) (h43 : gm2 43 = upd (gm 43) x.toNatClampNeg (sg 41)) (h42 : gm2 42 = upd (gm 42) (sg 41).toNatClampNeg x) (hk : dKd D x.toNatClampNeg = 3) : BN7 D sg2 gm2 (x.toNatClampNeg + 1) := by
  have k1 := iv_cl hx (by decide)
  have k2 := iv_cl hb (by decide)
  have hl := h.1
  refine ⟨by rw [h1, hl, bsN_t hk, List.length_append]; rfl, fun b y q => ?_⟩
  rw [bsN_t hk] at q
  rcases Nat.lt_or_ge b (bsN D x.toNatClampNeg).length with w | w
  · rw [List.getElem?_append_left w] at q
    obtain ⟨a1, a2⟩ := h.2 b y q
    have hy := ((bsN_m _ _).mp (List.mem_of_getElem? q)).1
    rw [h42, h43, upd_ne (by omega), upd_ne (by omega)]
    exact ⟨a1, a2⟩
  · rw [List.getElem?_append_right w] at q
    have hb0 : b - (bsN D x.toNatClampNeg).length = 0 := by
      rcases Nat.eq_zero_or_pos (b - (bsN D x.toNatClampNeg).length) with z | z
      · exact z
      · rw [List.getElem?_eq_none (by show 1 ≤ _; omega)] at q; cases q
    rw [hb0] at q
    have q : some x.toNatClampNeg = some y := q
    cases q
    have hbe : b = (sg 41).toNatClampNeg := by omega
    rw [h42, h43, hbe, upd_at, upd_at]
    exact ⟨by omega, by omega⟩
theorem KN_k {D : List El7} {gm gm2 : Nat → Nat → Int32} {n : Nat} (h : KN7 D gm n) (e : gm2 26 = gm 26) : KN7 D gm2 n := by unfold KN7; rw [e]; exact h
end
section
/-- the characters of an attribute's value -/
def VW7 (gm : Nat → Nat → Int32) (a : Nat) (v : List Int) : Prop := (gm 45 a).toInt = (v.length : Int) ∧ ∀ (i : Nat) (c : Int), v[i]? = some c → (gm 46 ((gm 44 a).toNatClampNeg + i)).toInt = c
theorem gA_at : ∀ (q : At7) (i : Nat) (y : Int64 × List Int) (k : Int64), q[i]? = some y → y.1 = k → (∀ i' y', i' < i → q[i']? = some y' → ¬ y'.1 = k) → gA q k = some y.2 := by
  intro q
  induction q with
  | nil => intro i y k h; cases h
  | cons z r ih =>
    intro i y k h hk hn
    cases i with
    | zero =>
      have h : some z = some y := h
      cases h
      unfold gA
      rw [List.find?_cons_of_pos (p := fun x : Int64 × List Int => x.1 == k) (beq_iff_eq.mpr hk)]
    | succ i =>
      have h0 : ¬ z.1 = k := hn 0 z (by omega) rfl
      have h1 := ih i y k h hk (fun i' y' hi hy => hn (i' + 1) y' (by omega) hy)
      unfold gA at h1 ⊢
      rw [List.find?_cons_of_neg (p := fun x : Int64 × List Int => x.1 == k) (fun q => h0 (beq_iff_eq.mp q))]
      exact h1
theorem FND_l {A7 : At7} {gm : Nat → Nat → Int32} {lg : Nat → Nat → Int64} {j : Nat} {k : Int64} {r : Int32} {P5 P6 : Int} (h : FND gm lg j k r) (ha : ATC A7 gm lg j P5 P6) : (r.toInt = -1 ∧ gA A7 k = none) ∨ (0 ≤ r.toInt ∧ ∃ v, gA A7 k = some v ∧ VW7 gm r.toNatClampNeg v) := by
  have hn : (gm 20 j).toNatClampNeg = A7.length := by have := ha.1; show (gm 20 j).toInt.toNat = _; omega
  rcases h with ⟨a1, a2⟩ | ⟨i, a1, a2, a3, a4, a5⟩
  · refine Or.inl ⟨a1, gA_n ?_⟩
    unfold hasK
    rw [List.any_eq_false]
    intro x hx
    obtain ⟨i, hi, e⟩ := List.mem_iff_getElem.mp hx
    have q := a2 i (Nat.zero_le _) (by omega)
    have q2 := (ha.2.2.2 i _ (List.getElem?_eq_getElem hi)).1
    rw [e] at q2
    intro w
    exact q (q2.trans (beq_iff_eq.mp w))
  · have hi : i < A7.length := by omega
    have hg := List.getElem?_eq_getElem hi
    obtain ⟨b1, b2, b3, b4, b5⟩ := ha.2.2.2 i _ hg
    refine Or.inr ⟨a3, A7[i].2, gA_at A7 i _ k hg (b1.symm.trans a5) (fun i' y' h1 h2 => ?_), ?_, ?_⟩
    · have := a4 i' (Nat.zero_le _) h1
      rw [show lg 0 ((gm 19 j).toNatClampNeg + i') = y'.1 from (ha.2.2.2 i' y' h2).1] at this
      exact this
    · rw [a2]; exact b2
    · intro i2 c hc; rw [a2]; exact b5 i2 c hc
theorem one_l {v : List Int} (h : v.length = 1) : ∃ c, v = [c] := by
  cases v with
  | nil => cases h
  | cons c r => cases r with
    | nil => exact ⟨c, rfl⟩
    | cons d t => simp at h
theorem two_l {v : List Int} (h : v.length = 2) : ∃ c d, v = [c, d] := by
  cases v with
  | nil => cases h
  | cons c r => cases r with
    | nil => simp at h
    | cons d t => cases t with
      | nil => exact ⟨c, d, rfl⟩
      | cons e s => simp at h
theorem lv_n {A7 : At7} {gm : Nat → Nat → Int32} {lg : Nat → Nat → Int64} {j : Nat} {k : Int64} {r z : Int32} {P5 P6 : Int} (h : FND gm lg j k r) (ha : ATC A7 gm lg j P5 P6) (hV : (r.toInt = -1 ∧ z.toInt = 0) ∨ (0 ≤ r.toInt ∧ z = gm 45 r.toNatClampNeg)) (hl : ¬ z.toInt = 1) : lv7 A7 k = -1 ∧ pl7 A7 k = -1 := by
  rcases FND_l h ha with ⟨a1, a2⟩ | ⟨a1, v, a2, a3⟩
  · unfold lv7 pl7; rw [a2]; exact ⟨rfl, rfl⟩
  · have hz : z = gm 45 r.toNatClampNeg := (hV.resolve_left (fun q => by omega)).2
    rw [hz, a3.1] at hl
    have hl : ¬ v.length = 1 := by omega
    unfold lv7 pl7
    rw [a2]
    cases v with
    | nil => exact ⟨rfl, rfl⟩
    | cons c r => cases r with
      | nil => exact absurd rfl hl
      | cons d t => exact ⟨rfl, rfl⟩
theorem v_1 {A7 : At7} {gm : Nat → Nat → Int32} {lg : Nat → Nat → Int64} {j : Nat} {k : Int64} {r z : Int32} {P5 P6 : Int} (h : FND gm lg j k r) (ha : ATC A7 gm lg j P5 P6) (h0 : 0 ≤ r.toInt) (hl : (gm 45 r.toNatClampNeg).toInt = 1) (hc : z = gm 46 ((gm 44 r.toNatClampNeg).toNatClampNeg + (0 : Int32).toNatClampNeg)) : gA A7 k = some [z.toInt] := by
  rcases FND_l h ha with ⟨a1, a2⟩ | ⟨a1, v, a2, a3⟩
  · omega
  · rw [a3.1] at hl
    obtain ⟨c, rfl⟩ := one_l (v := v) (by omega)
    rw [a2, hc]
    have := a3.2 0 c rfl
    rw [show (0 : Int32).toNatClampNeg = 0 by decide, this]
theorem v_2 {A7 : At7} {gm : Nat → Nat → Int32} {lg : Nat → Nat → Int64} {j : Nat} {k : Int64} {r z y : Int32} {P5 P6 : Int} (h : FND gm lg j k r) (ha : ATC A7 gm lg j P5 P6) (h0 : 0 ≤ r.toInt) (hl : (gm 45 r.toNatClampNeg).toInt = 2) (hc : z = gm 46 ((gm 44 r.toNatClampNeg).toNatClampNeg + (0 : Int32).toNatClampNeg)) : ∃ d, gA A7 k = some [z.toInt, d] ∧ ∀ y : Int32, y = gm 46 ((gm 44 r.toNatClampNeg).toNatClampNeg + (1 : Int32).toNatClampNeg) → y.toInt = d := by
  rcases FND_l h ha with ⟨a1, a2⟩ | ⟨a1, v, a2, a3⟩
  · omega
  · rw [a3.1] at hl
    obtain ⟨c, d, rfl⟩ := two_l (v := v) (by omega)
    refine ⟨d, ?_, fun y hy => ?_⟩
    · rw [a2, hc, show (0 : Int32).toNatClampNeg = 0 by decide, a3.2 0 c rfl]
    · rw [hy, show (1 : Int32).toNatClampNeg = 1 by decide]; exact a3.2 1 d rfl
theorem cv_n {A7 : At7} {gm : Nat → Nat → Int32} {lg : Nat → Nat → Int64} {j : Nat} {k : Int64} {r z : Int32} {P5 P6 : Int} (h : FND gm lg j k r) (ha : ATC A7 gm lg j P5 P6) (hV : (r.toInt = -1 ∧ z.toInt = 0) ∨ (0 ≤ r.toInt ∧ z = gm 45 r.toNatClampNeg)) (hl : ¬ z.toInt = 2) : cv7 A7 k = -1 := by
  rcases FND_l h ha with ⟨a1, a2⟩ | ⟨a1, v, a2, a3⟩
  · unfold cv7; rw [a2]
  · have hz : z = gm 45 r.toNatClampNeg := (hV.resolve_left (fun q => by omega)).2
    rw [hz, a3.1] at hl
    have hl : ¬ v.length = 2 := by omega
    unfold cv7
    rw [a2]
    cases v with
    | nil => rfl
    | cons c r => cases r with
      | nil => rfl
      | cons d t => cases t with
        | nil => exact absurd rfl hl
        | cons e s => rfl
theorem lv_s {A7 : At7} {k : Int64} {x : Int} (h : gA A7 k = some [x]) : lv7 A7 k = (if 97 ≤ x ∧ x ≤ 122 then x - 97 else -1) ∧ pl7 A7 k = (if 48 ≤ x ∧ x ≤ 50 then x - 48 else -1) := by unfold lv7 pl7; rw [h]; exact ⟨rfl, rfl⟩
theorem cv_s {A7 : At7} {k : Int64} {x y : Int} (h : gA A7 k = some [x, y]) : cv7 A7 k = if x = 75 ∧ 48 ≤ y ∧ y ≤ 55 then y - 48 else -1 := by unfold cv7; rw [h]
theorem foL_ap : ∀ (u : List Int) (x : Int) (w : Int64), foL (u ++ [x]) w = (foL u w) <<< 8 ||| Int64.ofInt x := by
  intro u
  induction u with
  | nil => intro x w; rfl
  | cons c r ih => intro x w; exact ih x _
theorem allL_ap {u : List Int} {x : Int} : allL (u ++ [x]) = (allL u && decide (97 ≤ x ∧ x ≤ 122)) := by unfold allL; rw [List.all_append]; simp
theorem tk_s {gm : Nat → Nat → Int32} {a i : Nat} {v : List Int} {z : Int32} (h : VW7 gm a v) (hi : i < v.length) (hz : z = gm 46 ((gm 44 a).toNatClampNeg + i)) : v.take (i + 1) = v.take i ++ [z.toInt] := by
  rw [List.take_add_one, List.getElem?_eq_getElem hi, hz, h.2 i _ (List.getElem?_eq_getElem hi)]
  rfl
def vv7 (A7 : At7) (k : Int64) : List Int := (gA A7 k).getD []
theorem FND_v {A7 : At7} {gm : Nat → Nat → Int32} {lg : Nat → Nat → Int64} {j : Nat} {k : Int64} {r : Int32} {P5 P6 : Int} (h : FND gm lg j k r) (ha : ATC A7 gm lg j P5 P6) (h0 : 0 ≤ r.toInt) : gA A7 k = some (vv7 A7 k) ∧ VW7 gm r.toNatClampNeg (vv7 A7 k) := by
  rcases FND_l h ha with ⟨a1, a2⟩ | ⟨a1, v, a2, a3⟩
  · omega
  · have e : vv7 A7 k = v := by unfold vv7; rw [a2]; rfl
    rw [e]; exact ⟨a2, a3⟩
theorem nv_n {A7 : At7} {gm : Nat → Nat → Int32} {lg : Nat → Nat → Int64} {j : Nat} {k : Int64} {r z : Int32} {P5 P6 : Int} (h : FND gm lg j k r) (ha : ATC A7 gm lg j P5 P6) (hV : (r.toInt = -1 ∧ z.toInt = 0) ∨ (0 ≤ r.toInt ∧ z = gm 45 r.toNatClampNeg)) (hl : z.toInt < 1 ∨ 8 < z.toInt) : nv7 A7 k = 0 := by
  have hI : ¬ aI A7 k = 1 := by
    rcases FND_l h ha with ⟨a1, a2⟩ | ⟨a1, v, a2, a3⟩
    · rw [aI_n a2]; decide
    · have hz : z = gm 45 r.toNatClampNeg := (hV.resolve_left (fun q => by omega)).2
      rw [hz, a3.1] at hl
      rw [aI_s a2, if_neg (by omega)]; decide
  unfold nv7
  rw [if_neg hI]
theorem nv_x {A7 : At7} {gm : Nat → Nat → Int32} {a i : Nat} {k : Int64} {z : Int32} (h : gA A7 k = some (vv7 A7 k) ∧ VW7 gm a (vv7 A7 k)) (hi : i < (vv7 A7 k).length) (hz : z = gm 46 ((gm 44 a).toNatClampNeg + i)) (hx : z.toInt < 97 ∨ 122 < z.toInt) : nv7 A7 k = 0 := by
  have hI : ¬ aI A7 k = 1 := by
    rw [aI_s h.1, if_neg]; decide
    intro w
    have q := w.2.2
    unfold allL at q
    rw [List.all_eq_true] at q
    have q2 := q _ (List.getElem_mem hi)
    have q3 := h.2.2 i _ (List.getElem?_eq_getElem hi)
    have q4 := of_decide_eq_true q2
    rw [hz] at hx
    omega
  unfold nv7
  rw [if_neg hI]
theorem nv_e {A7 : At7} {k : Int64} (h : gA A7 k = some (vv7 A7 k)) (h1 : 1 ≤ (vv7 A7 k).length) (h8 : (vv7 A7 k).length ≤ 8) (ha : allL (vv7 A7 k) = true) : nv7 A7 k = foL (vv7 A7 k) 0 := by
  have hI : aI A7 k = 1 := by rw [aI_s h, if_pos ⟨h1, h8, ha⟩]
  unfold nv7
  rw [if_pos hI, aW_s h, if_pos h8]
theorem swT : ∀ n, n < 34 → ((((wSw.getD n 0).toInt < 1 ∨ 5 < (wSw.getD n 0).toInt) ∧ ¬ (29 ≤ n ∧ n ≤ 33)) ∨ ((wSw.getD n 0).toInt = (n : Int) - 28 ∧ 29 ≤ n)) := by decide
theorem nvH {A7 : At7} {k : Int64} (h : ¬ nv7 A7 k = 0) : hasK A7 k = true := by
  unfold nv7 at h
  by_cases hI : aI A7 k = 1
  · cases hk : hasK A7 k with
    | true => rfl
    | false => rw [aI_n (gA_n hk)] at hI; exact absurd hI (by decide)
  · rw [if_neg hI] at h; exact absurd rfl h

set_option maxHeartbeats 4000000 in
set_option maxRecDepth 100000 in
theorem d_has2 (l : Launch) (dC : Nat → ClassId) (dI : Nat → Nat → Nat) (ad : Nat → Nat → Nat) (cid : Nat → ClassId) (a2 : Nat → Nat) (lx : List Nat) (sg : Nat → Int32) (gm : Nat → Nat → Int32) (lg : Nat → Nat → Int64) (x : Int32) (o : Int32) (w : Int32) (A7 : At7) (hI : CI sg gm) (hvx : iv 0 0 x) (hvo : iv 0 79 o) (hvw : iv 0 33 w) (hFA : FA sg gm) (how : o.toInt < (sg 4).toInt) (hat : ATC A7 gm lg o.toNatClampNeg (sg 5).toInt (sg 6).toInt) : CMt dC dI ad cid a2 lx l yX6_has wm_X6_has ({ frames := 1, cells := 1, slots := 6, locals := 24 }) [eV (ad 1) x, eV (ad 9) o, eV (ad 33) w] sg gm lg (fun v u => ∃ r : Int32, v = some (.int r) ∧ u = (sg, gm, lg) ∧ (iv 0 1 r) ∧ (r.toInt = aH A7 (wKy.getD w.toNatClampNeg 0))) (fun _ _ => False) := by
  intro sz
  refine vx_ofW (cc := cX6_has) (maxL := 3) (ret := (some .boolean)) (by decide) rfl ?_
  intro p e s m args below meth c s₁ B hml hxt hv
  obtain ⟨rfl, hsz, hP, hK, hD0, hG⟩ := hv
  have hx := B.exec
  have hb := B.bytes
  have hr := B.returns
  have hts := atoms_spec (ws := wm_X6_has) B.pre
  have htb := fun (w : Cond) (h : w ∈ tb) => hts w (List.mem_cons_of_mem _ h)
  have hown : s.vm.findClass RX6 = some m.cls := findClass_of_methodNamed B.named
  have hlocks := B.notSynchronized
  subst hsz
  have hD := hD0.self (sz := s.heap.size)
  generalize hAe : va_A (cW ad cid a2 lx sg gm lg) s.heap.size = A at hD hG ⊢
  have hA : ∀ q : Nat, s.heap.size ≤ q → A q := fun q h => by rw [← hAe]; exact Or.inr h
  have hS : va_S A s.heap s.heap [] := va_S.rf
  have hl := lv_entry ([eV (ad 1) x, eV (ad 9) o, eV (ad 33) w]) (n := 3) (by rw [show (lg_sl ([eV (ad 1) x, eV (ad 9) o, eV (ad 33) w])).length = 3 from by simp [lg_sl, eV_cat, cat_i, cat_l]]; exact Nat.le_of_ble_eq_true rfl)
  rw [lg_entry_eq]
  generalize (lg_sl ([eV (ad 1) x, eV (ad 9) o, eV (ad 33) w]) ++ List.replicate (3 - (lg_sl ([eV (ad 1) x, eV (ad 9) o, eV (ad 33) w])).length) Slot.unset).toArray = ls at hl ⊢
  have hl : lv_has ls 3 [(0, eV (ad 1) x), (1, eV (ad 9) o), (2, eV (ad 33) w)] := by simp [lv_args, eV_cat, cat_i, cat_l] at hl; exact hl
  refine ec_aload_n hx hb dX6_has_0 rfl (lv_at hl 0 rfl) ?_
  refine ec_aload_n hx hb dX6_has_1 rfl (lv_at hl 1 rfl) ?_
  refine ec_aload_n hx hb dX6_has_2 rfl (lv_at hl 2 rfl) ?_
  refine cw_key hx hb hG hS hvw hown (htb _ kw_548) dX6_has_3 ?_
  refine lv_topl (fun z_1 ez_1 => ?_)
  refine cm_callV (t := 1) (C := RX6) (T := TX6) (N := 8) (rest := []) (as := [eV (ad 9) o, .long z_1]) ⟨hx, hb, hml, hown, htb⟩ (d_hasKey2 l dC dI ad cid a2 lx sg gm lg x o z_1 hI hvx hvo hFA how) (cwV 2 htb (gd_V kw_607 kw_418 kw_419 kw_20 kw_1433) rfl rfl rfl (by decide +kernel) ⟨Nat.le_of_ble_eq_true rfl, Nat.le_of_ble_eq_true rfl⟩) hvx (by decide) (by decide) rfl rfl hl.1 rfl (Nat.le_trans cs_n (by decide)) dX6_has_6 ⟨Nat.le_of_ble_eq_true rfl, Nat.le_of_ble_eq_true rfl⟩ hK hP hD hS hA hG (fun E ce q9 u_3 H locs hw hP hD hS hce hcv hcl => ?_) (fun v9 u_3 H locs hw hP hD hS => ?_)
  · exact hw.elim
  obtain ⟨r_2, rfl, rfl, hr_2, fH_r_2⟩ := hw
  have hP : va_P (dC, dI) vwCl (cW ad cid a2 lx sg gm lg) H := hP
  have hD : va_D A (cW ad cid a2 lx sg gm lg) := hD
  refine W.eq (g2 := F0 m 9 ls [.int r_2]) rfl ?_
  exact W.nb (fun hN => W.widen (k := 1) (n := 6) (by decide) (by decide) (vx_ret (W.zret (v := r_2) hx hb hr (iv_nb hr_2) (fun t ht hW => ⟨⟨some (.int r_2), (sg, gm, lg), rfl, ⟨r_2, rfl, rfl, hr_2, ((by unfold aH; rw [← ez_1]; exact fH_r_2.elim (fun q => by rw [if_pos ((hsk_h hat).mp q.2)]; exact q.1) (fun q => by rw [if_neg (fun w9 => q.2 ((hsk_h hat).mpr w9))]; exact q.1)))⟩, by rw [ht]; exact hP, va_K.moved hW.alike hK, hD⟩, hS.F ht, by rw [ht]; exact hN⟩) hS.2.2 dX6_has_9)))

set_option maxHeartbeats 4000000 in
set_option maxRecDepth 100000 in
theorem d_letterValue2 (l : Launch) (dC : Nat → ClassId) (dI : Nat → Nat → Nat) (ad : Nat → Nat → Nat) (cid : Nat → ClassId) (a2 : Nat → Nat) (lx : List Nat) (sg : Nat → Int32) (gm : Nat → Nat → Int32) (lg : Nat → Nat → Int64) (x : Int32) (o : Int32) (w : Int32) (A7 : At7) (hI : CI sg gm) (hvx : iv 0 0 x) (hvo : iv 0 79 o) (hvw : iv 0 33 w) (hFA : FA sg gm) (how : o.toInt < (sg 4).toInt) (hVS : VS sg gm) (hat : ATC A7 gm lg o.toNatClampNeg (sg 5).toInt (sg 6).toInt) : CMt dC dI ad cid a2 lx l yX6_letterValue wm_X6_letterValue ({ frames := 1, cells := 1, slots := 6, locals := 23 }) [eV (ad 1) x, eV (ad 9) o, eV (ad 33) w] sg gm lg (fun v u => ∃ r : Int32, v = some (.int r) ∧ u = (sg, gm, lg) ∧ (iv (-1) 25 r) ∧ (r.toInt = lv7 A7 (wKy.getD w.toNatClampNeg 0))) (fun _ _ => False) := by
  intro sz
  refine vx_ofW (cc := cX6_letterValue) (maxL := 5) (ret := (some .int)) (by decide) rfl ?_
  intro p e s m args below meth c s₁ B hml hxt hv
  obtain ⟨rfl, hsz, hP, hK, hD0, hG⟩ := hv
  have hx := B.exec
  have hb := B.bytes
  have hr := B.returns
  have hts := atoms_spec (ws := wm_X6_letterValue) B.pre
  have htb := fun (w : Cond) (h : w ∈ tb) => hts w (List.mem_cons_of_mem _ h)
  have hown : s.vm.findClass RX6 = some m.cls := findClass_of_methodNamed B.named
  have hlocks := B.notSynchronized
  subst hsz
  have hD := hD0.self (sz := s.heap.size)
  generalize hAe : va_A (cW ad cid a2 lx sg gm lg) s.heap.size = A at hD hG ⊢
  have hA : ∀ q : Nat, s.heap.size ≤ q → A q := fun q h => by rw [← hAe]; exact Or.inr h
  have hS : va_S A s.heap s.heap [] := va_S.rf
  have hl := lv_entry ([eV (ad 1) x, eV (ad 9) o, eV (ad 33) w]) (n := 5) (by rw [show (lg_sl ([eV (ad 1) x, eV (ad 9) o, eV (ad 33) w])).length = 3 from by simp [lg_sl, eV_cat, cat_i, cat_l]]; exact Nat.le_of_ble_eq_true rfl)
  rw [lg_entry_eq]
  generalize (lg_sl ([eV (ad 1) x, eV (ad 9) o, eV (ad 33) w]) ++ List.replicate (5 - (lg_sl ([eV (ad 1) x, eV (ad 9) o, eV (ad 33) w])).length) Slot.unset).toArray = ls at hl ⊢
  have hl : lv_has ls 5 [(0, eV (ad 1) x), (1, eV (ad 9) o), (2, eV (ad 33) w)] := by simp [lv_args, eV_cat, cat_i, cat_l] at hl; exact hl
  have hj49 : ∀ (x4_49 : Int32) (x3_49 : Int32) (y0_49 : Int32) (_ : iv 0 65535 x4_49) (_ : iv 0 239 x3_49) (_ : iv 0 0 x) (_ : iv 0 79 o) (_ : iv 0 33 w) (_ : iv (-1) 25 y0_49) (_ : y0_49.toInt = lv7 A7 (wKy.getD w.toNatClampNeg 0)) (H : Heap) (locs : List Loc) (ls : Array Slot), va_P (dC, dI) vwCl (cW ad cid a2 lx sg gm lg) H → va_D A (cW ad cid a2 lx sg gm lg) → va_S A s.heap H locs → lv_has ls 5 [(4, .int x4_49), (3, .int x3_49), (0, eV (ad 1) x), (1, eV (ad 9) o), (2, eV (ad 33) w)] → W p l e (headSpec wm_X6_letterValue ({ frames := 1, cells := 1, slots := 6, locals := 23 })).room s m ([eV (ad 1) x, eV (ad 9) o, eV (ad 33) w] : List Value).toArray below meth c H locs 0 0 (vx_MQ below (cQx dC dI ad cid a2 lx (fun v u => ∃ r : Int32, v = some (.int r) ∧ u = (sg, gm, lg) ∧ (iv (-1) 25 r) ∧ (r.toInt = lv7 A7 (wKy.getD w.toNatClampNeg 0))) A) (cX dC dI ad cid a2 lx (fun _ _ => False) A) ([eV (ad 1) x, eV (ad 9) o, eV (ad 33) w] : List Value).toArray s 1 6 A) (F0 m 49 ls [.int y0_49]) := by
    intro x4_49 x3_49 y0_49 hx4_49 hx3_49 hsx0_49 hsx1_49 hsx2_49 hy0_49 hR49 H locs ls hP hD hS hl
    exact W.nb (fun hN => W.widen (k := 1) (n := 6) (by decide) (by decide) (vx_ret (W.iret (v := y0_49) hx hb hr (fun t ht hW => ⟨⟨some (.int y0_49), (sg, gm, lg), rfl, ⟨y0_49, rfl, rfl, hy0_49, (hR49)⟩, by rw [ht]; exact hP, va_K.moved hW.alike hK, hD⟩, hS.F ht, by rw [ht]; exact hN⟩) hS.2.2 dX6_letterValue_49)))
  have hj48 : ∀ (x4_48 : Int32) (x3_48 : Int32) (_ : iv 0 65535 x4_48) (_ : iv 0 239 x3_48) (_ : iv 0 0 x) (_ : iv 0 79 o) (_ : iv 0 33 w) (_ : lv7 A7 (wKy.getD w.toNatClampNeg 0) = -1) (H : Heap) (locs : List Loc) (ls : Array Slot), va_P (dC, dI) vwCl (cW ad cid a2 lx sg gm lg) H → va_D A (cW ad cid a2 lx sg gm lg) → va_S A s.heap H locs → lv_has ls 5 [(4, .int x4_48), (3, .int x3_48), (0, eV (ad 1) x), (1, eV (ad 9) o), (2, eV (ad 33) w)] → W p l e (headSpec wm_X6_letterValue ({ frames := 1, cells := 1, slots := 6, locals := 23 })).room s m ([eV (ad 1) x, eV (ad 9) o, eV (ad 33) w] : List Value).toArray below meth c H locs 0 0 (vx_MQ below (cQx dC dI ad cid a2 lx (fun v u => ∃ r : Int32, v = some (.int r) ∧ u = (sg, gm, lg) ∧ (iv (-1) 25 r) ∧ (r.toInt = lv7 A7 (wKy.getD w.toNatClampNeg 0))) A) (cX dC dI ad cid a2 lx (fun _ _ => False) A) ([eV (ad 1) x, eV (ad 9) o, eV (ad 33) w] : List Value).toArray s 1 6 A) (F0 m 48 ls []) := by
    intro x4_48 x3_48 hx4_48 hx3_48 hsx0_48 hsx1_48 hsx2_48 hN48 H locs ls hP hD hS hl
    refine lv_iconst (v := (-1)) hx hb dX6_letterValue_48 (by decide) ?_
    exact hj49 x4_48 x3_48 (-1) hx4_48 hx3_48 hsx0_48 hsx1_48 hsx2_48 (iv_w (iv_k (by decide) : iv (-1) (-1) (-1)) (by decide)) ((by rw [hN48]; decide)) _ _ _ hP hD hS (lv_sub hl [0, 1, 2, 3, 4] rfl)
  refine ec_aload_n hx hb dX6_letterValue_0 rfl (lv_at hl 0 rfl) ?_
  refine ec_aload_n hx hb dX6_letterValue_1 rfl (lv_at hl 1 rfl) ?_
  refine ec_aload_n hx hb dX6_letterValue_2 rfl (lv_at hl 2 rfl) ?_
  refine cm_callV (t := 1) (C := RX6) (T := TX6) (N := 8) (rest := []) (as := [eV (ad 9) o, eV (ad 33) w]) ⟨hx, hb, hml, hown, htb⟩ (d_find l dC dI ad cid a2 lx sg gm lg x o w hI hvx hvo hvw hFA how) (cwV 2 htb (gd_V kw_545 kw_546 kw_547 kw_20 kw_1467) rfl rfl rfl (by decide +kernel) ⟨Nat.le_of_ble_eq_true rfl, Nat.le_of_ble_eq_true rfl⟩) hvx (by decide) (by decide) rfl rfl hl.1 rfl (Nat.le_trans cs_n (by decide)) dX6_letterValue_3 ⟨Nat.le_of_ble_eq_true rfl, Nat.le_of_ble_eq_true rfl⟩ hK hP hD hS hA hG (fun E ce q9 u_2 H locs hw hP hD hS hce hcv hcl => ?_) (fun v9 u_2 H locs hw hP hD hS => ?_)
  · exact hw.elim
  obtain ⟨r_1, rfl, rfl, hr_1, fF_r_1, fLt_r_1⟩ := hw
  have hP : va_P (dC, dI) vwCl (cW ad cid a2 lx sg gm lg) H := hP
  have hD : va_D A (cW ad cid a2 lx sg gm lg) := hD
  refine W.eq (g2 := F0 m 6 ls [.int r_1]) rfl ?_
  refine lv_istore_n (i := 3) (lv' := [(3, .int r_1), (0, eV (ad 1) x), (1, eV (ad 9) o), (2, eV (ad 33) w)]) hx hb dX6_letterValue_6 rfl hl (by decide) (by simp [List.filter, eV_cat, cat_i, cat_l]) (fun ls hl => ?_)
  refine ec_aload_n hx hb dX6_letterValue_7 rfl (lv_at hl 1 rfl) ?_
  refine lv_iload_n hx hb dX6_letterValue_8 rfl (lv_at hl 0 rfl) ?_
  refine cm_callV (t := 1) (C := RX6) (T := TX6) (N := 8) (rest := []) (as := [.int r_1]) ⟨hx, hb, hml, hown, htb⟩ (d_valueLength l dC dI ad cid a2 lx sg gm lg x r_1 hI hvx hr_1) (cwV 1 htb (gd_V kw_549 kw_550 kw_551 kw_20 kw_1468) rfl rfl rfl (by decide +kernel) ⟨Nat.le_of_ble_eq_true rfl, Nat.le_of_ble_eq_true rfl⟩) hvx (by decide) (by decide) rfl rfl hl.1 rfl (Nat.le_trans cs_n (by decide)) dX6_letterValue_9 ⟨Nat.le_of_ble_eq_true rfl, Nat.le_of_ble_eq_true rfl⟩ hK hP hD hS hA hG (fun E ce q9 u_5 H locs hw hP hD hS hce hcv hcl => ?_) (fun v9 u_5 H locs hw hP hD hS => ?_)
  · exact hw.elim
  obtain ⟨r_4, rfl, rfl, hr_4, fV_r_4⟩ := hw
  have hP : va_P (dC, dI) vwCl (cW ad cid a2 lx sg gm lg) H := hP
  have hD : va_D A (cW ad cid a2 lx sg gm lg) := hD
  refine W.eq (g2 := F0 m 12 ls [.int r_4]) rfl ?_
  refine lv_iconst (v := 1) hx hb dX6_letterValue_12 (by decide) ?_
  refine lv_icmp_eq (tgt := 18) hx hb dX6_letterValue_13 (by decide) (fun c_7 => ?_) (fun c_7 => ?_)
  · have h_8 : iv 1 1 r_4 := iv_eq c_7 hr_4 (iv_k (by decide) : iv 1 1 1) (by decide)
    obtain ⟨h9z, h9e⟩ : 0 ≤ r_1.toInt ∧ r_4 = gm 45 r_1.toNatClampNeg := fV_r_4.resolve_left (fun q9 => by have := q9.2; have := i32_0; have := i32_1; have := i32_2; have := i32_m1; have := (hvx).1; have := (hvx).2; have := (hvo).1; have := (hvo).2; have := (hvw).1; have := (hvw).2; have := (hr_1).1; have := (hr_1).2; have := (h_8).1; have := (h_8).2; omega)
    have h9p : iv 0 239 r_1 := ⟨h9z, (hr_1).2⟩
    refine ec_aload_n hx hb dX6_letterValue_18 rfl (lv_at hl 1 rfl) ?_
    refine lv_iload_n hx hb dX6_letterValue_19 rfl (lv_at hl 0 rfl) ?_
    refine lv_iconst (v := 0) hx hb dX6_letterValue_20 (by decide) ?_
    refine cm_callV (t := 1) (C := RX6) (T := TX6) (N := 8) (rest := []) (as := [.int r_1, .int 0]) ⟨hx, hb, hml, hown, htb⟩ (d_valueChar l dC dI ad cid a2 lx sg gm lg x r_1 0 hI hvx h9p (iv_w (iv_k (by decide) : iv 0 0 0) (by decide)) hVS fLt_r_1 (by rw [← h9e]; have q8 : (0 : Int32).toInt = 0 := (by decide); have := i32_0; have := i32_1; have := i32_2; have := i32_m1; have := (hvx).1; have := (hvx).2; have := (hvo).1; have := (hvo).2; have := (hvw).1; have := (hvw).2; have := (h9p).1; have := (h9p).2; have := (h_8).1; have := (h_8).2; omega)) (cwV 2 htb (gd_V kw_552 kw_553 kw_554 kw_20 kw_1469) rfl rfl rfl (by decide +kernel) ⟨Nat.le_of_ble_eq_true rfl, Nat.le_of_ble_eq_true rfl⟩) hvx (by decide) (by decide) rfl rfl hl.1 rfl (Nat.le_trans cs_n (by decide)) dX6_letterValue_21 ⟨Nat.le_of_ble_eq_true rfl, Nat.le_of_ble_eq_true rfl⟩ hK hP hD hS hA hG (fun E ce q9 u_10 H locs hw hP hD hS hce hcv hcl => ?_) (fun v9 u_10 H locs hw hP hD hS => ?_)
    · exact hw.elim
    obtain ⟨r_9, rfl, rfl, hr_9, fC_r_9⟩ := hw
    have hP : va_P (dC, dI) vwCl (cW ad cid a2 lx sg gm lg) H := hP
    have hD : va_D A (cW ad cid a2 lx sg gm lg) := hD
    refine W.eq (g2 := F0 m 24 ls [.int r_9]) rfl ?_
    refine lv_istore (i := 4) (lv' := [(4, .int r_9), (3, .int r_1), (0, eV (ad 1) x), (1, eV (ad 9) o), (2, eV (ad 33) w)]) hx hb dX6_letterValue_24 hl (by decide) rfl (fun ls hl => ?_)
    refine lv_iload hx hb dX6_letterValue_26 (lv_at hl 0 rfl) ?_
    refine lv_bipush (v := 97) hx hb dX6_letterValue_28 (by decide) ?_
    refine lv_icmp_lt (tgt := 48) hx hb dX6_letterValue_30 (by decide) (fun c_12 => ?_) (fun c_12 => ?_)
    · have h_13 : iv 0 96 r_9 := iv_ltL c_12 hr_9 (iv_k (by decide) : iv 97 97 97) (by decide)
      exact hj48 r_9 r_1 (iv_w h_13 (by decide)) h9p hvx hvo hvw ((by rw [(lv_s (v_1 fF_r_1 hat h9z (by rw [← h9e]; have := i32_0; have := i32_1; have := i32_2; have := i32_m1; have := (hvx).1; have := (hvx).2; have := (hvo).1; have := (hvo).2; have := (hvw).1; have := (hvw).2; have := (h9p).1; have := (h9p).2; have := (h_8).1; have := (h_8).2; have := (h_13).1; have := (h_13).2; omega) fC_r_9)).1, if_neg (by have := i32_0; have := i32_1; have := i32_2; have := i32_m1; have := (hvx).1; have := (hvx).2; have := (hvo).1; have := (hvo).2; have := (hvw).1; have := (hvw).2; have := (h9p).1; have := (h9p).2; have := (h_8).1; have := (h_8).2; have := (h_13).1; have := (h_13).2; omega)])) _ _ _ hP hD hS (lv_sub hl [0, 1, 2, 3, 4] rfl)
    · have h_14 : iv 97 65535 r_9 := iv_leR (i32_ge c_12) (iv_k (by decide) : iv 97 97 97) hr_9 (by decide)
      refine lv_iload hx hb dX6_letterValue_33 (lv_at hl 0 rfl) ?_
      refine lv_bipush (v := 122) hx hb dX6_letterValue_35 (by decide) ?_
      refine lv_icmp_gt (tgt := 48) hx hb dX6_letterValue_37 (by decide) (fun c_15 => ?_) (fun c_15 => ?_)
      · have h_16 : iv 123 65535 r_9 := iv_ltR c_15 (iv_k (by decide) : iv 122 122 122) h_14 (by decide)
        exact hj48 r_9 r_1 (iv_w h_16 (by decide)) h9p hvx hvo hvw ((by rw [(lv_s (v_1 fF_r_1 hat h9z (by rw [← h9e]; have := i32_0; have := i32_1; have := i32_2; have := i32_m1; have := (hvx).1; have := (hvx).2; have := (hvo).1; have := (hvo).2; have := (hvw).1; have := (hvw).2; have := (h9p).1; have := (h9p).2; have := (h_8).1; have := (h_8).2; have := (h_16).1; have := (h_16).2; omega) fC_r_9)).1, if_neg (by have := i32_0; have := i32_1; have := i32_2; have := i32_m1; have := (hvx).1; have := (hvx).2; have := (hvo).1; have := (hvo).2; have := (hvw).1; have := (hvw).2; have := (h9p).1; have := (h9p).2; have := (h_8).1; have := (h_8).2; have := (h_16).1; have := (h_16).2; omega)])) _ _ _ hP hD hS (lv_sub hl [0, 1, 2, 3, 4] rfl)
      · have h_17 : iv 97 122 r_9 := iv_leL (i32_ge c_15) h_14 (iv_k (by decide) : iv 122 122 122) (by decide)
        refine lv_iload hx hb dX6_letterValue_40 (lv_at hl 0 rfl) ?_
        refine lv_bipush (v := 97) hx hb dX6_letterValue_42 (by decide) ?_
        refine lv_isub hx hb dX6_letterValue_44 ?_
        refine lv_topi (fun z_18 ez_18 => ?_)
        have hz_18 : iv 0 25 z_18 := iv_of ez_18 (iv_sub h_17 (iv_k (by decide) : iv 97 97 97) (by decide))
        have tz_18 : z_18.toInt = (r_9 : Int32).toInt - 97 := by rw [ez_18]; exact iv_subE h_17 (iv_k (by decide) : iv 97 97 97) (by decide)
        refine lv_goto (tgt := 49) hx hb dX6_letterValue_45 (by decide) ?_
        exact hj49 r_9 r_1 z_18 (iv_w h_17 (by decide)) h9p hvx hvo hvw (iv_w hz_18 (by decide)) ((by rw [(lv_s (v_1 fF_r_1 hat h9z (by rw [← h9e]; have := i32_0; have := i32_1; have := i32_2; have := i32_m1; have := (hvx).1; have := (hvx).2; have := (hvo).1; have := (hvo).2; have := (hvw).1; have := (hvw).2; have := (h9p).1; have := (h9p).2; have := (h_8).1; have := (h_8).2; have := (h_17).1; have := (h_17).2; have := (hz_18).1; have := (hz_18).2; omega) fC_r_9)).1, if_pos ⟨(by have := i32_0; have := i32_1; have := i32_2; have := i32_m1; have := (hvx).1; have := (hvx).2; have := (hvo).1; have := (hvo).2; have := (hvw).1; have := (hvw).2; have := (h9p).1; have := (h9p).2; have := (h_8).1; have := (h_8).2; have := (h_17).1; have := (h_17).2; have := (hz_18).1; have := (hz_18).2; omega), (by have := i32_0; have := i32_1; have := i32_2; have := i32_m1; have := (hvx).1; have := (hvx).2; have := (hvo).1; have := (hvo).2; have := (hvw).1; have := (hvw).2; have := (h9p).1; have := (h9p).2; have := (h_8).1; have := (h_8).2; have := (h_17).1; have := (h_17).2; have := (hz_18).1; have := (hz_18).2; omega)⟩]; have := i32_0; have := i32_1; have := i32_2; have := i32_m1; have := (hvx).1; have := (hvx).2; have := (hvo).1; have := (hvo).2; have := (hvw).1; have := (hvw).2; have := (h9p).1; have := (h9p).2; have := (h_8).1; have := (h_8).2; have := (h_17).1; have := (h_17).2; have := (hz_18).1; have := (hz_18).2; omega)) _ _ _ hP hD hS (lv_sub hl [0, 1, 2, 3, 4] rfl)
  · have d_19 : ¬ (r_4 : Int32).toInt = 1 := lv_neT c_7 rfl
    refine lv_iconst (v := (-1)) hx hb dX6_letterValue_16 (by decide) ?_
    exact W.nb (fun hN => W.widen (k := 1) (n := 6) (by decide) (by decide) (vx_ret (W.iret (v := (-1)) hx hb hr (fun t ht hW => ⟨⟨some (.int (-1)), (sg, gm, lg), rfl, ⟨(-1), rfl, rfl, (iv_w (iv_k (by decide) : iv (-1) (-1) (-1)) (by decide)), ((by rw [(lv_n fF_r_1 hat fV_r_4 (by have := i32_0; have := i32_1; have := i32_2; have := i32_m1; have := (hvx).1; have := (hvx).2; have := (hvo).1; have := (hvo).2; have := (hvw).1; have := (hvw).2; have := (hr_1).1; have := (hr_1).2; have := (hr_4).1; have := (hr_4).2; omega)).1]; decide))⟩, by rw [ht]; exact hP, va_K.moved hW.alike hK, hD⟩, hS.F ht, by rw [ht]; exact hN⟩) hS.2.2 dX6_letterValue_17)))

set_option maxHeartbeats 4000000 in
set_option maxRecDepth 100000 in
theorem d_placeValue2 (l : Launch) (dC : Nat → ClassId) (dI : Nat → Nat → Nat) (ad : Nat → Nat → Nat) (cid : Nat → ClassId) (a2 : Nat → Nat) (lx : List Nat) (sg : Nat → Int32) (gm : Nat → Nat → Int32) (lg : Nat → Nat → Int64) (x : Int32) (o : Int32) (w : Int32) (A7 : At7) (hI : CI sg gm) (hvx : iv 0 0 x) (hvo : iv 0 79 o) (hvw : iv 0 33 w) (hFA : FA sg gm) (how : o.toInt < (sg 4).toInt) (hVS : VS sg gm) (hat : ATC A7 gm lg o.toNatClampNeg (sg 5).toInt (sg 6).toInt) : CMt dC dI ad cid a2 lx l yX6_placeValue wm_X6_placeValue ({ frames := 1, cells := 1, slots := 6, locals := 23 }) [eV (ad 1) x, eV (ad 9) o, eV (ad 33) w] sg gm lg (fun v u => ∃ r : Int32, v = some (.int r) ∧ u = (sg, gm, lg) ∧ (iv (-1) 2 r) ∧ (r.toInt = pl7 A7 (wKy.getD w.toNatClampNeg 0))) (fun _ _ => False) := by
  intro sz
  refine vx_ofW (cc := cX6_placeValue) (maxL := 5) (ret := (some .int)) (by decide) rfl ?_
  intro p e s m args below meth c s₁ B hml hxt hv
  obtain ⟨rfl, hsz, hP, hK, hD0, hG⟩ := hv
  have hx := B.exec
  have hb := B.bytes
  have hr := B.returns
  have hts := atoms_spec (ws := wm_X6_placeValue) B.pre
  have htb := fun (w : Cond) (h : w ∈ tb) => hts w (List.mem_cons_of_mem _ h)
  have hown : s.vm.findClass RX6 = some m.cls := findClass_of_methodNamed B.named
  have hlocks := B.notSynchronized
  subst hsz
  have hD := hD0.self (sz := s.heap.size)
  generalize hAe : va_A (cW ad cid a2 lx sg gm lg) s.heap.size = A at hD hG ⊢
  have hA : ∀ q : Nat, s.heap.size ≤ q → A q := fun q h => by rw [← hAe]; exact Or.inr h
  have hS : va_S A s.heap s.heap [] := va_S.rf
  have hl := lv_entry ([eV (ad 1) x, eV (ad 9) o, eV (ad 33) w]) (n := 5) (by rw [show (lg_sl ([eV (ad 1) x, eV (ad 9) o, eV (ad 33) w])).length = 3 from by simp [lg_sl, eV_cat, cat_i, cat_l]]; exact Nat.le_of_ble_eq_true rfl)
  rw [lg_entry_eq]
  generalize (lg_sl ([eV (ad 1) x, eV (ad 9) o, eV (ad 33) w]) ++ List.replicate (5 - (lg_sl ([eV (ad 1) x, eV (ad 9) o, eV (ad 33) w])).length) Slot.unset).toArray = ls at hl ⊢
  have hl : lv_has ls 5 [(0, eV (ad 1) x), (1, eV (ad 9) o), (2, eV (ad 33) w)] := by simp [lv_args, eV_cat, cat_i, cat_l] at hl; exact hl
  have hj49 : ∀ (x4_49 : Int32) (x3_49 : Int32) (y0_49 : Int32) (_ : iv 0 65535 x4_49) (_ : iv 0 239 x3_49) (_ : iv 0 0 x) (_ : iv 0 79 o) (_ : iv 0 33 w) (_ : iv (-1) 2 y0_49) (_ : y0_49.toInt = pl7 A7 (wKy.getD w.toNatClampNeg 0)) (H : Heap) (locs : List Loc) (ls : Array Slot), va_P (dC, dI) vwCl (cW ad cid a2 lx sg gm lg) H → va_D A (cW ad cid a2 lx sg gm lg) → va_S A s.heap H locs → lv_has ls 5 [(4, .int x4_49), (3, .int x3_49), (0, eV (ad 1) x), (1, eV (ad 9) o), (2, eV (ad 33) w)] → W p l e (headSpec wm_X6_placeValue ({ frames := 1, cells := 1, slots := 6, locals := 23 })).room s m ([eV (ad 1) x, eV (ad 9) o, eV (ad 33) w] : List Value).toArray below meth c H locs 0 0 (vx_MQ below (cQx dC dI ad cid a2 lx (fun v u => ∃ r : Int32, v = some (.int r) ∧ u = (sg, gm, lg) ∧ (iv (-1) 2 r) ∧ (r.toInt = pl7 A7 (wKy.getD w.toNatClampNeg 0))) A) (cX dC dI ad cid a2 lx (fun _ _ => False) A) ([eV (ad 1) x, eV (ad 9) o, eV (ad 33) w] : List Value).toArray s 1 6 A) (F0 m 49 ls [.int y0_49]) := by
    intro x4_49 x3_49 y0_49 hx4_49 hx3_49 hsx0_49 hsx1_49 hsx2_49 hy0_49 hR49 H locs ls hP hD hS hl
    exact W.nb (fun hN => W.widen (k := 1) (n := 6) (by decide) (by decide) (vx_ret (W.iret (v := y0_49) hx hb hr (fun t ht hW => ⟨⟨some (.int y0_49), (sg, gm, lg), rfl, ⟨y0_49, rfl, rfl, hy0_49, (hR49)⟩, by rw [ht]; exact hP, va_K.moved hW.alike hK, hD⟩, hS.F ht, by rw [ht]; exact hN⟩) hS.2.2 dX6_placeValue_49)))
  have hj48 : ∀ (x4_48 : Int32) (x3_48 : Int32) (_ : iv 0 65535 x4_48) (_ : iv 0 239 x3_48) (_ : iv 0 0 x) (_ : iv 0 79 o) (_ : iv 0 33 w) (_ : pl7 A7 (wKy.getD w.toNatClampNeg 0) = -1) (H : Heap) (locs : List Loc) (ls : Array Slot), va_P (dC, dI) vwCl (cW ad cid a2 lx sg gm lg) H → va_D A (cW ad cid a2 lx sg gm lg) → va_S A s.heap H locs → lv_has ls 5 [(4, .int x4_48), (3, .int x3_48), (0, eV (ad 1) x), (1, eV (ad 9) o), (2, eV (ad 33) w)] → W p l e (headSpec wm_X6_placeValue ({ frames := 1, cells := 1, slots := 6, locals := 23 })).room s m ([eV (ad 1) x, eV (ad 9) o, eV (ad 33) w] : List Value).toArray below meth c H locs 0 0 (vx_MQ below (cQx dC dI ad cid a2 lx (fun v u => ∃ r : Int32, v = some (.int r) ∧ u = (sg, gm, lg) ∧ (iv (-1) 2 r) ∧ (r.toInt = pl7 A7 (wKy.getD w.toNatClampNeg 0))) A) (cX dC dI ad cid a2 lx (fun _ _ => False) A) ([eV (ad 1) x, eV (ad 9) o, eV (ad 33) w] : List Value).toArray s 1 6 A) (F0 m 48 ls []) := by
    intro x4_48 x3_48 hx4_48 hx3_48 hsx0_48 hsx1_48 hsx2_48 hN48 H locs ls hP hD hS hl
    refine lv_iconst (v := (-1)) hx hb dX6_placeValue_48 (by decide) ?_
    exact hj49 x4_48 x3_48 (-1) hx4_48 hx3_48 hsx0_48 hsx1_48 hsx2_48 (iv_w (iv_k (by decide) : iv (-1) (-1) (-1)) (by decide)) ((by rw [hN48]; decide)) _ _ _ hP hD hS (lv_sub hl [0, 1, 2, 3, 4] rfl)
  refine ec_aload_n hx hb dX6_placeValue_0 rfl (lv_at hl 0 rfl) ?_
  refine ec_aload_n hx hb dX6_placeValue_1 rfl (lv_at hl 1 rfl) ?_
  refine ec_aload_n hx hb dX6_placeValue_2 rfl (lv_at hl 2 rfl) ?_
  refine cm_callV (t := 1) (C := RX6) (T := TX6) (N := 8) (rest := []) (as := [eV (ad 9) o, eV (ad 33) w]) ⟨hx, hb, hml, hown, htb⟩ (d_find l dC dI ad cid a2 lx sg gm lg x o w hI hvx hvo hvw hFA how) (cwV 2 htb (gd_V kw_545 kw_546 kw_547 kw_20 kw_1467) rfl rfl rfl (by decide +kernel) ⟨Nat.le_of_ble_eq_true rfl, Nat.le_of_ble_eq_true rfl⟩) hvx (by decide) (by decide) rfl rfl hl.1 rfl (Nat.le_trans cs_n (by decide)) dX6_placeValue_3 ⟨Nat.le_of_ble_eq_true rfl, Nat.le_of_ble_eq_true rfl⟩ hK hP hD hS hA hG (fun E ce q9 u_2 H locs hw hP hD hS hce hcv hcl => ?_) (fun v9 u_2 H locs hw hP hD hS => ?_)
  · exact hw.elim
  obtain ⟨r_1, rfl, rfl, hr_1, fF_r_1, fLt_r_1⟩ := hw
  have hP : va_P (dC, dI) vwCl (cW ad cid a2 lx sg gm lg) H := hP
  have hD : va_D A (cW ad cid a2 lx sg gm lg) := hD
  refine W.eq (g2 := F0 m 6 ls [.int r_1]) rfl ?_
  refine lv_istore_n (i := 3) (lv' := [(3, .int r_1), (0, eV (ad 1) x), (1, eV (ad 9) o), (2, eV (ad 33) w)]) hx hb dX6_placeValue_6 rfl hl (by decide) (by simp [List.filter, eV_cat, cat_i, cat_l]) (fun ls hl => ?_)
  refine ec_aload_n hx hb dX6_placeValue_7 rfl (lv_at hl 1 rfl) ?_
  refine lv_iload_n hx hb dX6_placeValue_8 rfl (lv_at hl 0 rfl) ?_
  refine cm_callV (t := 1) (C := RX6) (T := TX6) (N := 8) (rest := []) (as := [.int r_1]) ⟨hx, hb, hml, hown, htb⟩ (d_valueLength l dC dI ad cid a2 lx sg gm lg x r_1 hI hvx hr_1) (cwV 1 htb (gd_V kw_549 kw_550 kw_551 kw_20 kw_1468) rfl rfl rfl (by decide +kernel) ⟨Nat.le_of_ble_eq_true rfl, Nat.le_of_ble_eq_true rfl⟩) hvx (by decide) (by decide) rfl rfl hl.1 rfl (Nat.le_trans cs_n (by decide)) dX6_placeValue_9 ⟨Nat.le_of_ble_eq_true rfl, Nat.le_of_ble_eq_true rfl⟩ hK hP hD hS hA hG (fun E ce q9 u_5 H locs hw hP hD hS hce hcv hcl => ?_) (fun v9 u_5 H locs hw hP hD hS => ?_)
  · exact hw.elim
  obtain ⟨r_4, rfl, rfl, hr_4, fV_r_4⟩ := hw
  have hP : va_P (dC, dI) vwCl (cW ad cid a2 lx sg gm lg) H := hP
  have hD : va_D A (cW ad cid a2 lx sg gm lg) := hD
  refine W.eq (g2 := F0 m 12 ls [.int r_4]) rfl ?_
  refine lv_iconst (v := 1) hx hb dX6_placeValue_12 (by decide) ?_
  refine lv_icmp_eq (tgt := 18) hx hb dX6_placeValue_13 (by decide) (fun c_7 => ?_) (fun c_7 => ?_)
  · have h_8 : iv 1 1 r_4 := iv_eq c_7 hr_4 (iv_k (by decide) : iv 1 1 1) (by decide)
    obtain ⟨h9z, h9e⟩ : 0 ≤ r_1.toInt ∧ r_4 = gm 45 r_1.toNatClampNeg := fV_r_4.resolve_left (fun q9 => by have := q9.2; have := i32_0; have := i32_1; have := i32_2; have := i32_m1; have := (hvx).1; have := (hvx).2; have := (hvo).1; have := (hvo).2; have := (hvw).1; have := (hvw).2; have := (hr_1).1; have := (hr_1).2; have := (h_8).1; have := (h_8).2; omega)
    have h9p : iv 0 239 r_1 := ⟨h9z, (hr_1).2⟩
    refine ec_aload_n hx hb dX6_placeValue_18 rfl (lv_at hl 1 rfl) ?_
    refine lv_iload_n hx hb dX6_placeValue_19 rfl (lv_at hl 0 rfl) ?_
    refine lv_iconst (v := 0) hx hb dX6_placeValue_20 (by decide) ?_
    refine cm_callV (t := 1) (C := RX6) (T := TX6) (N := 8) (rest := []) (as := [.int r_1, .int 0]) ⟨hx, hb, hml, hown, htb⟩ (d_valueChar l dC dI ad cid a2 lx sg gm lg x r_1 0 hI hvx h9p (iv_w (iv_k (by decide) : iv 0 0 0) (by decide)) hVS fLt_r_1 (by rw [← h9e]; have q8 : (0 : Int32).toInt = 0 := (by decide); have := i32_0; have := i32_1; have := i32_2; have := i32_m1; have := (hvx).1; have := (hvx).2; have := (hvo).1; have := (hvo).2; have := (hvw).1; have := (hvw).2; have := (h9p).1; have := (h9p).2; have := (h_8).1; have := (h_8).2; omega)) (cwV 2 htb (gd_V kw_552 kw_553 kw_554 kw_20 kw_1469) rfl rfl rfl (by decide +kernel) ⟨Nat.le_of_ble_eq_true rfl, Nat.le_of_ble_eq_true rfl⟩) hvx (by decide) (by decide) rfl rfl hl.1 rfl (Nat.le_trans cs_n (by decide)) dX6_placeValue_21 ⟨Nat.le_of_ble_eq_true rfl, Nat.le_of_ble_eq_true rfl⟩ hK hP hD hS hA hG (fun E ce q9 u_10 H locs hw hP hD hS hce hcv hcl => ?_) (fun v9 u_10 H locs hw hP hD hS => ?_)
    · exact hw.elim
    obtain ⟨r_9, rfl, rfl, hr_9, fC_r_9⟩ := hw
    have hP : va_P (dC, dI) vwCl (cW ad cid a2 lx sg gm lg) H := hP
    have hD : va_D A (cW ad cid a2 lx sg gm lg) := hD
    refine W.eq (g2 := F0 m 24 ls [.int r_9]) rfl ?_
    refine lv_istore (i := 4) (lv' := [(4, .int r_9), (3, .int r_1), (0, eV (ad 1) x), (1, eV (ad 9) o), (2, eV (ad 33) w)]) hx hb dX6_placeValue_24 hl (by decide) rfl (fun ls hl => ?_)
    refine lv_iload hx hb dX6_placeValue_26 (lv_at hl 0 rfl) ?_
    refine lv_bipush (v := 48) hx hb dX6_placeValue_28 (by decide) ?_
    refine lv_icmp_lt (tgt := 48) hx hb dX6_placeValue_30 (by decide) (fun c_12 => ?_) (fun c_12 => ?_)
    · have h_13 : iv 0 47 r_9 := iv_ltL c_12 hr_9 (iv_k (by decide) : iv 48 48 48) (by decide)
      exact hj48 r_9 r_1 (iv_w h_13 (by decide)) h9p hvx hvo hvw ((by rw [(lv_s (v_1 fF_r_1 hat h9z (by rw [← h9e]; have := i32_0; have := i32_1; have := i32_2; have := i32_m1; have := (hvx).1; have := (hvx).2; have := (hvo).1; have := (hvo).2; have := (hvw).1; have := (hvw).2; have := (h9p).1; have := (h9p).2; have := (h_8).1; have := (h_8).2; have := (h_13).1; have := (h_13).2; omega) fC_r_9)).2, if_neg (by have := i32_0; have := i32_1; have := i32_2; have := i32_m1; have := (hvx).1; have := (hvx).2; have := (hvo).1; have := (hvo).2; have := (hvw).1; have := (hvw).2; have := (h9p).1; have := (h9p).2; have := (h_8).1; have := (h_8).2; have := (h_13).1; have := (h_13).2; omega)])) _ _ _ hP hD hS (lv_sub hl [0, 1, 2, 3, 4] rfl)
    · have h_14 : iv 48 65535 r_9 := iv_leR (i32_ge c_12) (iv_k (by decide) : iv 48 48 48) hr_9 (by decide)
      refine lv_iload hx hb dX6_placeValue_33 (lv_at hl 0 rfl) ?_
      refine lv_bipush (v := 51) hx hb dX6_placeValue_35 (by decide) ?_
      refine lv_icmp_ge (tgt := 48) hx hb dX6_placeValue_37 (by decide) (fun c_15 => ?_) (fun c_15 => ?_)
      · have h_16 : iv 51 65535 r_9 := iv_leR c_15 (iv_k (by decide) : iv 51 51 51) h_14 (by decide)
        exact hj48 r_9 r_1 (iv_w h_16 (by decide)) h9p hvx hvo hvw ((by rw [(lv_s (v_1 fF_r_1 hat h9z (by rw [← h9e]; have := i32_0; have := i32_1; have := i32_2; have := i32_m1; have := (hvx).1; have := (hvx).2; have := (hvo).1; have := (hvo).2; have := (hvw).1; have := (hvw).2; have := (h9p).1; have := (h9p).2; have := (h_8).1; have := (h_8).2; have := (h_16).1; have := (h_16).2; omega) fC_r_9)).2, if_neg (by have := i32_0; have := i32_1; have := i32_2; have := i32_m1; have := (hvx).1; have := (hvx).2; have := (hvo).1; have := (hvo).2; have := (hvw).1; have := (hvw).2; have := (h9p).1; have := (h9p).2; have := (h_8).1; have := (h_8).2; have := (h_16).1; have := (h_16).2; omega)])) _ _ _ hP hD hS (lv_sub hl [0, 1, 2, 3, 4] rfl)
      · have h_17 : iv 48 50 r_9 := iv_ltL (i32_lt c_15) h_14 (iv_k (by decide) : iv 51 51 51) (by decide)
        refine lv_iload hx hb dX6_placeValue_40 (lv_at hl 0 rfl) ?_
        refine lv_bipush (v := 48) hx hb dX6_placeValue_42 (by decide) ?_
        refine lv_isub hx hb dX6_placeValue_44 ?_
        refine lv_topi (fun z_18 ez_18 => ?_)
        have hz_18 : iv 0 2 z_18 := iv_of ez_18 (iv_sub h_17 (iv_k (by decide) : iv 48 48 48) (by decide))
        have tz_18 : z_18.toInt = (r_9 : Int32).toInt - 48 := by rw [ez_18]; exact iv_subE h_17 (iv_k (by decide) : iv 48 48 48) (by decide)
        refine lv_goto (tgt := 49) hx hb dX6_placeValue_45 (by decide) ?_
        exact hj49 r_9 r_1 z_18 (iv_w h_17 (by decide)) h9p hvx hvo hvw (iv_w hz_18 (by decide)) ((by rw [(lv_s (v_1 fF_r_1 hat h9z (by rw [← h9e]; have := i32_0; have := i32_1; have := i32_2; have := i32_m1; have := (hvx).1; have := (hvx).2; have := (hvo).1; have := (hvo).2; have := (hvw).1; have := (hvw).2; have := (h9p).1; have := (h9p).2; have := (h_8).1; have := (h_8).2; have := (h_17).1; have := (h_17).2; have := (hz_18).1; have := (hz_18).2; omega) fC_r_9)).2, if_pos ⟨(by have := i32_0; have := i32_1; have := i32_2; have := i32_m1; have := (hvx).1; have := (hvx).2; have := (hvo).1; have := (hvo).2; have := (hvw).1; have := (hvw).2; have := (h9p).1; have := (h9p).2; have := (h_8).1; have := (h_8).2; have := (h_17).1; have := (h_17).2; have := (hz_18).1; have := (hz_18).2; omega), (by have := i32_0; have := i32_1; have := i32_2; have := i32_m1; have := (hvx).1; have := (hvx).2; have := (hvo).1; have := (hvo).2; have := (hvw).1; have := (hvw).2; have := (h9p).1; have := (h9p).2; have := (h_8).1; have := (h_8).2; have := (h_17).1; have := (h_17).2; have := (hz_18).1; have := (hz_18).2; omega)⟩]; have := i32_0; have := i32_1; have := i32_2; have := i32_m1; have := (hvx).1; have := (hvx).2; have := (hvo).1; have := (hvo).2; have := (hvw).1; have := (hvw).2; have := (h9p).1; have := (h9p).2; have := (h_8).1; have := (h_8).2; have := (h_17).1; have := (h_17).2; have := (hz_18).1; have := (hz_18).2; omega)) _ _ _ hP hD hS (lv_sub hl [0, 1, 2, 3, 4] rfl)
  · have d_19 : ¬ (r_4 : Int32).toInt = 1 := lv_neT c_7 rfl
    refine lv_iconst (v := (-1)) hx hb dX6_placeValue_16 (by decide) ?_
    exact W.nb (fun hN => W.widen (k := 1) (n := 6) (by decide) (by decide) (vx_ret (W.iret (v := (-1)) hx hb hr (fun t ht hW => ⟨⟨some (.int (-1)), (sg, gm, lg), rfl, ⟨(-1), rfl, rfl, (iv_w (iv_k (by decide) : iv (-1) (-1) (-1)) (by decide)), ((by rw [(lv_n fF_r_1 hat fV_r_4 (by have := i32_0; have := i32_1; have := i32_2; have := i32_m1; have := (hvx).1; have := (hvx).2; have := (hvo).1; have := (hvo).2; have := (hvw).1; have := (hvw).2; have := (hr_1).1; have := (hr_1).2; have := (hr_4).1; have := (hr_4).2; omega)).2]; decide))⟩, by rw [ht]; exact hP, va_K.moved hW.alike hK, hD⟩, hS.F ht, by rw [ht]; exact hN⟩) hS.2.2 dX6_placeValue_17)))

set_option maxHeartbeats 4000000 in
set_option maxRecDepth 100000 in
theorem d_classValue2 (l : Launch) (dC : Nat → ClassId) (dI : Nat → Nat → Nat) (ad : Nat → Nat → Nat) (cid : Nat → ClassId) (a2 : Nat → Nat) (lx : List Nat) (sg : Nat → Int32) (gm : Nat → Nat → Int32) (lg : Nat → Nat → Int64) (x : Int32) (o : Int32) (w : Int32) (A7 : At7) (hI : CI sg gm) (hvx : iv 0 0 x) (hvo : iv 0 79 o) (hvw : iv 0 33 w) (hFA : FA sg gm) (how : o.toInt < (sg 4).toInt) (hVS : VS sg gm) (hat : ATC A7 gm lg o.toNatClampNeg (sg 5).toInt (sg 6).toInt) : CMt dC dI ad cid a2 lx l yX6_classValue wm_X6_classValue ({ frames := 1, cells := 1, slots := 6, locals := 23 }) [eV (ad 1) x, eV (ad 9) o, eV (ad 33) w] sg gm lg (fun v u => ∃ r : Int32, v = some (.int r) ∧ u = (sg, gm, lg) ∧ (iv (-1) 7 r) ∧ (r.toInt = cv7 A7 (wKy.getD w.toNatClampNeg 0))) (fun _ _ => False) := by
  intro sz
  refine vx_ofW (cc := cX6_classValue) (maxL := 5) (ret := (some .int)) (by decide) rfl ?_
  intro p e s m args below meth c s₁ B hml hxt hv
  obtain ⟨rfl, hsz, hP, hK, hD0, hG⟩ := hv
  have hx := B.exec
  have hb := B.bytes
  have hr := B.returns
  have hts := atoms_spec (ws := wm_X6_classValue) B.pre
  have htb := fun (w : Cond) (h : w ∈ tb) => hts w (List.mem_cons_of_mem _ h)
  have hown : s.vm.findClass RX6 = some m.cls := findClass_of_methodNamed B.named
  have hlocks := B.notSynchronized
  subst hsz
  have hD := hD0.self (sz := s.heap.size)
  generalize hAe : va_A (cW ad cid a2 lx sg gm lg) s.heap.size = A at hD hG ⊢
  have hA : ∀ q : Nat, s.heap.size ≤ q → A q := fun q h => by rw [← hAe]; exact Or.inr h
  have hS : va_S A s.heap s.heap [] := va_S.rf
  have hl := lv_entry ([eV (ad 1) x, eV (ad 9) o, eV (ad 33) w]) (n := 5) (by rw [show (lg_sl ([eV (ad 1) x, eV (ad 9) o, eV (ad 33) w])).length = 3 from by simp [lg_sl, eV_cat, cat_i, cat_l]]; exact Nat.le_of_ble_eq_true rfl)
  rw [lg_entry_eq]
  generalize (lg_sl ([eV (ad 1) x, eV (ad 9) o, eV (ad 33) w]) ++ List.replicate (5 - (lg_sl ([eV (ad 1) x, eV (ad 9) o, eV (ad 33) w])).length) Slot.unset).toArray = ls at hl ⊢
  have hl : lv_has ls 5 [(0, eV (ad 1) x), (1, eV (ad 9) o), (2, eV (ad 33) w)] := by simp [lv_args, eV_cat, cat_i, cat_l] at hl; exact hl
  have hj27 : ∀ (x3_27 : Int32) (_ : iv (-1) 239 x3_27) (_ : iv 0 0 x) (_ : iv 0 79 o) (_ : iv 0 33 w) (_ : cv7 A7 (wKy.getD w.toNatClampNeg 0) = -1) (H : Heap) (locs : List Loc) (ls : Array Slot), va_P (dC, dI) vwCl (cW ad cid a2 lx sg gm lg) H → va_D A (cW ad cid a2 lx sg gm lg) → va_S A s.heap H locs → lv_has ls 5 [(3, .int x3_27), (0, eV (ad 1) x), (1, eV (ad 9) o), (2, eV (ad 33) w)] → W p l e (headSpec wm_X6_classValue ({ frames := 1, cells := 1, slots := 6, locals := 23 })).room s m ([eV (ad 1) x, eV (ad 9) o, eV (ad 33) w] : List Value).toArray below meth c H locs 0 0 (vx_MQ below (cQx dC dI ad cid a2 lx (fun v u => ∃ r : Int32, v = some (.int r) ∧ u = (sg, gm, lg) ∧ (iv (-1) 7 r) ∧ (r.toInt = cv7 A7 (wKy.getD w.toNatClampNeg 0))) A) (cX dC dI ad cid a2 lx (fun _ _ => False) A) ([eV (ad 1) x, eV (ad 9) o, eV (ad 33) w] : List Value).toArray s 1 6 A) (F0 m 27 ls []) := by
    intro x3_27 hx3_27 hsx0_27 hsx1_27 hsx2_27 hN27 H locs ls hP hD hS hl
    refine lv_iconst (v := (-1)) hx hb dX6_classValue_27 (by decide) ?_
    exact W.nb (fun hN => W.widen (k := 1) (n := 6) (by decide) (by decide) (vx_ret (W.iret (v := (-1)) hx hb hr (fun t ht hW => ⟨⟨some (.int (-1)), (sg, gm, lg), rfl, ⟨(-1), rfl, rfl, (iv_w (iv_k (by decide) : iv (-1) (-1) (-1)) (by decide)), ((by rw [hN27]; decide))⟩, by rw [ht]; exact hP, va_K.moved hW.alike hK, hD⟩, hS.F ht, by rw [ht]; exact hN⟩) hS.2.2 dX6_classValue_28)))
  have hj60 : ∀ (x4_60 : Int32) (x3_60 : Int32) (y0_60 : Int32) (_ : iv 0 65535 x4_60) (_ : iv 0 239 x3_60) (_ : iv 0 0 x) (_ : iv 0 79 o) (_ : iv 0 33 w) (_ : iv (-1) 7 y0_60) (_ : y0_60.toInt = cv7 A7 (wKy.getD w.toNatClampNeg 0)) (H : Heap) (locs : List Loc) (ls : Array Slot), va_P (dC, dI) vwCl (cW ad cid a2 lx sg gm lg) H → va_D A (cW ad cid a2 lx sg gm lg) → va_S A s.heap H locs → lv_has ls 5 [(4, .int x4_60), (3, .int x3_60), (0, eV (ad 1) x), (1, eV (ad 9) o), (2, eV (ad 33) w)] → W p l e (headSpec wm_X6_classValue ({ frames := 1, cells := 1, slots := 6, locals := 23 })).room s m ([eV (ad 1) x, eV (ad 9) o, eV (ad 33) w] : List Value).toArray below meth c H locs 0 0 (vx_MQ below (cQx dC dI ad cid a2 lx (fun v u => ∃ r : Int32, v = some (.int r) ∧ u = (sg, gm, lg) ∧ (iv (-1) 7 r) ∧ (r.toInt = cv7 A7 (wKy.getD w.toNatClampNeg 0))) A) (cX dC dI ad cid a2 lx (fun _ _ => False) A) ([eV (ad 1) x, eV (ad 9) o, eV (ad 33) w] : List Value).toArray s 1 6 A) (F0 m 60 ls [.int y0_60]) := by
    intro x4_60 x3_60 y0_60 hx4_60 hx3_60 hsx0_60 hsx1_60 hsx2_60 hy0_60 hR60 H locs ls hP hD hS hl
    exact W.nb (fun hN => W.widen (k := 1) (n := 6) (by decide) (by decide) (vx_ret (W.iret (v := y0_60) hx hb hr (fun t ht hW => ⟨⟨some (.int y0_60), (sg, gm, lg), rfl, ⟨y0_60, rfl, rfl, hy0_60, (hR60)⟩, by rw [ht]; exact hP, va_K.moved hW.alike hK, hD⟩, hS.F ht, by rw [ht]; exact hN⟩) hS.2.2 dX6_classValue_60)))
  have hj59 : ∀ (x4_59 : Int32) (x3_59 : Int32) (_ : iv 0 65535 x4_59) (_ : iv 0 239 x3_59) (_ : iv 0 0 x) (_ : iv 0 79 o) (_ : iv 0 33 w) (_ : cv7 A7 (wKy.getD w.toNatClampNeg 0) = -1) (H : Heap) (locs : List Loc) (ls : Array Slot), va_P (dC, dI) vwCl (cW ad cid a2 lx sg gm lg) H → va_D A (cW ad cid a2 lx sg gm lg) → va_S A s.heap H locs → lv_has ls 5 [(4, .int x4_59), (3, .int x3_59), (0, eV (ad 1) x), (1, eV (ad 9) o), (2, eV (ad 33) w)] → W p l e (headSpec wm_X6_classValue ({ frames := 1, cells := 1, slots := 6, locals := 23 })).room s m ([eV (ad 1) x, eV (ad 9) o, eV (ad 33) w] : List Value).toArray below meth c H locs 0 0 (vx_MQ below (cQx dC dI ad cid a2 lx (fun v u => ∃ r : Int32, v = some (.int r) ∧ u = (sg, gm, lg) ∧ (iv (-1) 7 r) ∧ (r.toInt = cv7 A7 (wKy.getD w.toNatClampNeg 0))) A) (cX dC dI ad cid a2 lx (fun _ _ => False) A) ([eV (ad 1) x, eV (ad 9) o, eV (ad 33) w] : List Value).toArray s 1 6 A) (F0 m 59 ls []) := by
    intro x4_59 x3_59 hx4_59 hx3_59 hsx0_59 hsx1_59 hsx2_59 hN59 H locs ls hP hD hS hl
    refine lv_iconst (v := (-1)) hx hb dX6_classValue_59 (by decide) ?_
    exact hj60 x4_59 x3_59 (-1) hx4_59 hx3_59 hsx0_59 hsx1_59 hsx2_59 (iv_w (iv_k (by decide) : iv (-1) (-1) (-1)) (by decide)) ((by rw [hN59]; decide)) _ _ _ hP hD hS (lv_sub hl [0, 1, 2, 3, 4] rfl)
  refine ec_aload_n hx hb dX6_classValue_0 rfl (lv_at hl 0 rfl) ?_
  refine ec_aload_n hx hb dX6_classValue_1 rfl (lv_at hl 1 rfl) ?_
  refine ec_aload_n hx hb dX6_classValue_2 rfl (lv_at hl 2 rfl) ?_
  refine cm_callV (t := 1) (C := RX6) (T := TX6) (N := 8) (rest := []) (as := [eV (ad 9) o, eV (ad 33) w]) ⟨hx, hb, hml, hown, htb⟩ (d_find l dC dI ad cid a2 lx sg gm lg x o w hI hvx hvo hvw hFA how) (cwV 2 htb (gd_V kw_545 kw_546 kw_547 kw_20 kw_1467) rfl rfl rfl (by decide +kernel) ⟨Nat.le_of_ble_eq_true rfl, Nat.le_of_ble_eq_true rfl⟩) hvx (by decide) (by decide) rfl rfl hl.1 rfl (Nat.le_trans cs_n (by decide)) dX6_classValue_3 ⟨Nat.le_of_ble_eq_true rfl, Nat.le_of_ble_eq_true rfl⟩ hK hP hD hS hA hG (fun E ce q9 u_2 H locs hw hP hD hS hce hcv hcl => ?_) (fun v9 u_2 H locs hw hP hD hS => ?_)
  · exact hw.elim
  obtain ⟨r_1, rfl, rfl, hr_1, fF_r_1, fLt_r_1⟩ := hw
  have hP : va_P (dC, dI) vwCl (cW ad cid a2 lx sg gm lg) H := hP
  have hD : va_D A (cW ad cid a2 lx sg gm lg) := hD
  refine W.eq (g2 := F0 m 6 ls [.int r_1]) rfl ?_
  refine lv_istore_n (i := 3) (lv' := [(3, .int r_1), (0, eV (ad 1) x), (1, eV (ad 9) o), (2, eV (ad 33) w)]) hx hb dX6_classValue_6 rfl hl (by decide) (by simp [List.filter, eV_cat, cat_i, cat_l]) (fun ls hl => ?_)
  refine ec_aload_n hx hb dX6_classValue_7 rfl (lv_at hl 1 rfl) ?_
  refine lv_iload_n hx hb dX6_classValue_8 rfl (lv_at hl 0 rfl) ?_
  refine cm_callV (t := 1) (C := RX6) (T := TX6) (N := 8) (rest := []) (as := [.int r_1]) ⟨hx, hb, hml, hown, htb⟩ (d_valueLength l dC dI ad cid a2 lx sg gm lg x r_1 hI hvx hr_1) (cwV 1 htb (gd_V kw_549 kw_550 kw_551 kw_20 kw_1468) rfl rfl rfl (by decide +kernel) ⟨Nat.le_of_ble_eq_true rfl, Nat.le_of_ble_eq_true rfl⟩) hvx (by decide) (by decide) rfl rfl hl.1 rfl (Nat.le_trans cs_n (by decide)) dX6_classValue_9 ⟨Nat.le_of_ble_eq_true rfl, Nat.le_of_ble_eq_true rfl⟩ hK hP hD hS hA hG (fun E ce q9 u_5 H locs hw hP hD hS hce hcv hcl => ?_) (fun v9 u_5 H locs hw hP hD hS => ?_)
  · exact hw.elim
  obtain ⟨r_4, rfl, rfl, hr_4, fV_r_4⟩ := hw
  have hP : va_P (dC, dI) vwCl (cW ad cid a2 lx sg gm lg) H := hP
  have hD : va_D A (cW ad cid a2 lx sg gm lg) := hD
  refine W.eq (g2 := F0 m 12 ls [.int r_4]) rfl ?_
  refine lv_iconst (v := 2) hx hb dX6_classValue_12 (by decide) ?_
  refine lv_icmp_ne (tgt := 27) hx hb dX6_classValue_13 (by decide) (fun c_7 => ?_) (fun c_7 => ?_)
  · have d_8 : ¬ (r_4 : Int32).toInt = 2 := lv_neT c_7 rfl
    exact hj27 r_1 hr_1 hvx hvo hvw ((cv_n fF_r_1 hat fV_r_4 (by have := i32_0; have := i32_1; have := i32_2; have := i32_m1; have := (hvx).1; have := (hvx).2; have := (hvo).1; have := (hvo).2; have := (hvw).1; have := (hvw).2; have := (hr_1).1; have := (hr_1).2; have := (hr_4).1; have := (hr_4).2; omega))) _ _ _ hP hD hS (lv_sub hl [0, 1, 2, 3] rfl)
  · have h_9 : iv 2 2 r_4 := iv_eq c_7 hr_4 (iv_k (by decide) : iv 2 2 2) (by decide)
    obtain ⟨h9z, h9e⟩ : 0 ≤ r_1.toInt ∧ r_4 = gm 45 r_1.toNatClampNeg := fV_r_4.resolve_left (fun q9 => by have := q9.2; have := i32_0; have := i32_1; have := i32_2; have := i32_m1; have := (hvx).1; have := (hvx).2; have := (hvo).1; have := (hvo).2; have := (hvw).1; have := (hvw).2; have := (hr_1).1; have := (hr_1).2; have := (h_9).1; have := (h_9).2; omega)
    have h9p : iv 0 239 r_1 := ⟨h9z, (hr_1).2⟩
    refine ec_aload_n hx hb dX6_classValue_16 rfl (lv_at hl 1 rfl) ?_
    refine lv_iload_n hx hb dX6_classValue_17 rfl (lv_at hl 0 rfl) ?_
    refine lv_iconst (v := 0) hx hb dX6_classValue_18 (by decide) ?_
    refine cm_callV (t := 1) (C := RX6) (T := TX6) (N := 8) (rest := []) (as := [.int r_1, .int 0]) ⟨hx, hb, hml, hown, htb⟩ (d_valueChar l dC dI ad cid a2 lx sg gm lg x r_1 0 hI hvx h9p (iv_w (iv_k (by decide) : iv 0 0 0) (by decide)) hVS fLt_r_1 (by rw [← h9e]; have q8 : (0 : Int32).toInt = 0 := (by decide); have := i32_0; have := i32_1; have := i32_2; have := i32_m1; have := (hvx).1; have := (hvx).2; have := (hvo).1; have := (hvo).2; have := (hvw).1; have := (hvw).2; have := (h9p).1; have := (h9p).2; have := (h_9).1; have := (h_9).2; omega)) (cwV 2 htb (gd_V kw_552 kw_553 kw_554 kw_20 kw_1469) rfl rfl rfl (by decide +kernel) ⟨Nat.le_of_ble_eq_true rfl, Nat.le_of_ble_eq_true rfl⟩) hvx (by decide) (by decide) rfl rfl hl.1 rfl (Nat.le_trans cs_n (by decide)) dX6_classValue_19 ⟨Nat.le_of_ble_eq_true rfl, Nat.le_of_ble_eq_true rfl⟩ hK hP hD hS hA hG (fun E ce q9 u_11 H locs hw hP hD hS hce hcv hcl => ?_) (fun v9 u_11 H locs hw hP hD hS => ?_)
    · exact hw.elim
    obtain ⟨r_10, rfl, rfl, hr_10, fC_r_10⟩ := hw
    have hP : va_P (dC, dI) vwCl (cW ad cid a2 lx sg gm lg) H := hP
    have hD : va_D A (cW ad cid a2 lx sg gm lg) := hD
    refine W.eq (g2 := F0 m 22 ls [.int r_10]) rfl ?_
    refine lv_bipush (v := 75) hx hb dX6_classValue_22 (by decide) ?_
    refine lv_icmp_eq (tgt := 29) hx hb dX6_classValue_24 (by decide) (fun c_13 => ?_) (fun c_13 => ?_)
    · have h_14 : iv 75 75 r_10 := iv_eq c_13 hr_10 (iv_k (by decide) : iv 75 75 75) (by decide)
      refine ec_aload_n hx hb dX6_classValue_29 rfl (lv_at hl 1 rfl) ?_
      refine lv_iload_n hx hb dX6_classValue_30 rfl (lv_at hl 0 rfl) ?_
      refine lv_iconst (v := 1) hx hb dX6_classValue_31 (by decide) ?_
      refine cm_callV (t := 1) (C := RX6) (T := TX6) (N := 8) (rest := []) (as := [.int r_1, .int 1]) ⟨hx, hb, hml, hown, htb⟩ (d_valueChar l dC dI ad cid a2 lx sg gm lg x r_1 1 hI hvx h9p (iv_w (iv_k (by decide) : iv 1 1 1) (by decide)) hVS fLt_r_1 (by rw [← h9e]; have q8 : (1 : Int32).toInt = 1 := (by decide); have := i32_0; have := i32_1; have := i32_2; have := i32_m1; have := (hvx).1; have := (hvx).2; have := (hvo).1; have := (hvo).2; have := (hvw).1; have := (hvw).2; have := (h9p).1; have := (h9p).2; have := (h_9).1; have := (h_9).2; have := (h_14).1; have := (h_14).2; omega)) (cwV 2 htb (gd_V kw_552 kw_553 kw_554 kw_20 kw_1469) rfl rfl rfl (by decide +kernel) ⟨Nat.le_of_ble_eq_true rfl, Nat.le_of_ble_eq_true rfl⟩) hvx (by decide) (by decide) rfl rfl hl.1 rfl (Nat.le_trans cs_n (by decide)) dX6_classValue_32 ⟨Nat.le_of_ble_eq_true rfl, Nat.le_of_ble_eq_true rfl⟩ hK hP hD hS hA hG (fun E ce q9 u_16 H locs hw hP hD hS hce hcv hcl => ?_) (fun v9 u_16 H locs hw hP hD hS => ?_)
      · exact hw.elim
      obtain ⟨r_15, rfl, rfl, hr_15, fC_r_15⟩ := hw
      have hP : va_P (dC, dI) vwCl (cW ad cid a2 lx sg gm lg) H := hP
      have hD : va_D A (cW ad cid a2 lx sg gm lg) := hD
      refine W.eq (g2 := F0 m 35 ls [.int r_15]) rfl ?_
      refine lv_istore (i := 4) (lv' := [(4, .int r_15), (3, .int r_1), (0, eV (ad 1) x), (1, eV (ad 9) o), (2, eV (ad 33) w)]) hx hb dX6_classValue_35 hl (by decide) rfl (fun ls hl => ?_)
      refine lv_iload hx hb dX6_classValue_37 (lv_at hl 0 rfl) ?_
      refine lv_bipush (v := 48) hx hb dX6_classValue_39 (by decide) ?_
      refine lv_icmp_lt (tgt := 59) hx hb dX6_classValue_41 (by decide) (fun c_18 => ?_) (fun c_18 => ?_)
      · have h_19 : iv 0 47 r_15 := iv_ltL c_18 hr_15 (iv_k (by decide) : iv 48 48 48) (by decide)
        exact hj59 r_15 r_1 (iv_w h_19 (by decide)) h9p hvx hvo hvw ((by obtain ⟨d9, e9, f9⟩ := v_2 (y := 0) fF_r_1 hat h9z (by rw [← h9e]; have := i32_0; have := i32_1; have := i32_2; have := i32_m1; have := (hvx).1; have := (hvx).2; have := (hvo).1; have := (hvo).2; have := (hvw).1; have := (hvw).2; have := (h9p).1; have := (h9p).2; have := (h_9).1; have := (h_9).2; have := (h_14).1; have := (h_14).2; have := (h_19).1; have := (h_19).2; omega) fC_r_10; have f8 := f9 _ fC_r_15; rw [cv_s e9, if_neg (by have := i32_0; have := i32_1; have := i32_2; have := i32_m1; have := (hvx).1; have := (hvx).2; have := (hvo).1; have := (hvo).2; have := (hvw).1; have := (hvw).2; have := (h9p).1; have := (h9p).2; have := (h_9).1; have := (h_9).2; have := (h_14).1; have := (h_14).2; have := (h_19).1; have := (h_19).2; omega)])) _ _ _ hP hD hS (lv_sub hl [0, 1, 2, 3, 4] rfl)
      · have h_20 : iv 48 65535 r_15 := iv_leR (i32_ge c_18) (iv_k (by decide) : iv 48 48 48) hr_15 (by decide)
        refine lv_iload hx hb dX6_classValue_44 (lv_at hl 0 rfl) ?_
        refine lv_bipush (v := 56) hx hb dX6_classValue_46 (by decide) ?_
        refine lv_icmp_ge (tgt := 59) hx hb dX6_classValue_48 (by decide) (fun c_21 => ?_) (fun c_21 => ?_)
        · have h_22 : iv 56 65535 r_15 := iv_leR c_21 (iv_k (by decide) : iv 56 56 56) h_20 (by decide)
          exact hj59 r_15 r_1 (iv_w h_22 (by decide)) h9p hvx hvo hvw ((by obtain ⟨d9, e9, f9⟩ := v_2 (y := 0) fF_r_1 hat h9z (by rw [← h9e]; have := i32_0; have := i32_1; have := i32_2; have := i32_m1; have := (hvx).1; have := (hvx).2; have := (hvo).1; have := (hvo).2; have := (hvw).1; have := (hvw).2; have := (h9p).1; have := (h9p).2; have := (h_9).1; have := (h_9).2; have := (h_14).1; have := (h_14).2; have := (h_22).1; have := (h_22).2; omega) fC_r_10; have f8 := f9 _ fC_r_15; rw [cv_s e9, if_neg (by have := i32_0; have := i32_1; have := i32_2; have := i32_m1; have := (hvx).1; have := (hvx).2; have := (hvo).1; have := (hvo).2; have := (hvw).1; have := (hvw).2; have := (h9p).1; have := (h9p).2; have := (h_9).1; have := (h_9).2; have := (h_14).1; have := (h_14).2; have := (h_22).1; have := (h_22).2; omega)])) _ _ _ hP hD hS (lv_sub hl [0, 1, 2, 3, 4] rfl)
        · have h_23 : iv 48 55 r_15 := iv_ltL (i32_lt c_21) h_20 (iv_k (by decide) : iv 56 56 56) (by decide)
          refine lv_iload hx hb dX6_classValue_51 (lv_at hl 0 rfl) ?_
          refine lv_bipush (v := 48) hx hb dX6_classValue_53 (by decide) ?_
          refine lv_isub hx hb dX6_classValue_55 ?_
          refine lv_topi (fun z_24 ez_24 => ?_)
          have hz_24 : iv 0 7 z_24 := iv_of ez_24 (iv_sub h_23 (iv_k (by decide) : iv 48 48 48) (by decide))
          have tz_24 : z_24.toInt = (r_15 : Int32).toInt - 48 := by rw [ez_24]; exact iv_subE h_23 (iv_k (by decide) : iv 48 48 48) (by decide)
          refine lv_goto (tgt := 60) hx hb dX6_classValue_56 (by decide) ?_
          exact hj60 r_15 r_1 z_24 (iv_w h_23 (by decide)) h9p hvx hvo hvw (iv_w hz_24 (by decide)) ((by obtain ⟨d9, e9, f9⟩ := v_2 (y := 0) fF_r_1 hat h9z (by rw [← h9e]; have := i32_0; have := i32_1; have := i32_2; have := i32_m1; have := (hvx).1; have := (hvx).2; have := (hvo).1; have := (hvo).2; have := (hvw).1; have := (hvw).2; have := (h9p).1; have := (h9p).2; have := (h_9).1; have := (h_9).2; have := (h_14).1; have := (h_14).2; have := (h_23).1; have := (h_23).2; have := (hz_24).1; have := (hz_24).2; omega) fC_r_10; have f8 := f9 _ fC_r_15; rw [cv_s e9, if_pos ⟨(by have := i32_0; have := i32_1; have := i32_2; have := i32_m1; have := (hvx).1; have := (hvx).2; have := (hvo).1; have := (hvo).2; have := (hvw).1; have := (hvw).2; have := (h9p).1; have := (h9p).2; have := (h_9).1; have := (h_9).2; have := (h_14).1; have := (h_14).2; have := (h_23).1; have := (h_23).2; have := (hz_24).1; have := (hz_24).2; omega), (by have := i32_0; have := i32_1; have := i32_2; have := i32_m1; have := (hvx).1; have := (hvx).2; have := (hvo).1; have := (hvo).2; have := (hvw).1; have := (hvw).2; have := (h9p).1; have := (h9p).2; have := (h_9).1; have := (h_9).2; have := (h_14).1; have := (h_14).2; have := (h_23).1; have := (h_23).2; have := (hz_24).1; have := (hz_24).2; omega), (by have := i32_0; have := i32_1; have := i32_2; have := i32_m1; have := (hvx).1; have := (hvx).2; have := (hvo).1; have := (hvo).2; have := (hvw).1; have := (hvw).2; have := (h9p).1; have := (h9p).2; have := (h_9).1; have := (h_9).2; have := (h_14).1; have := (h_14).2; have := (h_23).1; have := (h_23).2; have := (hz_24).1; have := (hz_24).2; omega)⟩]; have := i32_0; have := i32_1; have := i32_2; have := i32_m1; have := (hvx).1; have := (hvx).2; have := (hvo).1; have := (hvo).2; have := (hvw).1; have := (hvw).2; have := (h9p).1; have := (h9p).2; have := (h_9).1; have := (h_9).2; have := (h_14).1; have := (h_14).2; have := (h_23).1; have := (h_23).2; have := (hz_24).1; have := (hz_24).2; omega)) _ _ _ hP hD hS (lv_sub hl [0, 1, 2, 3, 4] rfl)
    · have d_25 : ¬ (r_10 : Int32).toInt = 75 := lv_neT c_13 rfl
      exact hj27 r_1 (iv_w h9p (by decide)) hvx hvo hvw ((by obtain ⟨d9, e9, f9⟩ := v_2 (y := 0) fF_r_1 hat h9z (by rw [← h9e]; have := i32_0; have := i32_1; have := i32_2; have := i32_m1; have := (hvx).1; have := (hvx).2; have := (hvo).1; have := (hvo).2; have := (hvw).1; have := (hvw).2; have := (h9p).1; have := (h9p).2; have := (h_9).1; have := (h_9).2; have := (hr_10).1; have := (hr_10).2; omega) fC_r_10; rw [cv_s e9, if_neg (fun q => absurd q.1 (by have := i32_0; have := i32_1; have := i32_2; have := i32_m1; have := (hvx).1; have := (hvx).2; have := (hvo).1; have := (hvo).2; have := (hvw).1; have := (hvw).2; have := (h9p).1; have := (h9p).2; have := (h_9).1; have := (h_9).2; have := (hr_10).1; have := (hr_10).2; omega))])) _ _ _ hP hD hS (lv_sub hl [0, 1, 2, 3] rfl)

set_option maxHeartbeats 4000000 in
set_option maxRecDepth 100000 in
theorem d_nameValue3 (l : Launch) (dC : Nat → ClassId) (dI : Nat → Nat → Nat) (ad : Nat → Nat → Nat) (cid : Nat → ClassId) (a2 : Nat → Nat) (lx : List Nat) (sg : Nat → Int32) (gm : Nat → Nat → Int32) (lg : Nat → Nat → Int64) (x : Int32) (o : Int32) (w : Int32) (A7 : At7) (hI : CI sg gm) (hvx : iv 0 0 x) (hvo : iv 0 79 o) (hvw : iv 0 33 w) (hFA : FA sg gm) (how : o.toInt < (sg 4).toInt) (hVS : VS sg gm) (hat : ATC A7 gm lg o.toNatClampNeg (sg 5).toInt (sg 6).toInt) : CMt dC dI ad cid a2 lx l yX6_nameValue wm_X6_nameValue ({ frames := 1, cells := 1, slots := 6, locals := 23 }) [eV (ad 1) x, eV (ad 9) o, eV (ad 33) w] sg gm lg (fun v u => ∃ r : Int64, v = some (.long r) ∧ u = (sg, gm, lg) ∧ (r = nv7 A7 (wKy.getD w.toNatClampNeg 0)) ∧ (r = 0 ∨ HSK gm lg o.toNatClampNeg (wKy.getD w.toNatClampNeg 0))) (fun _ _ => False) := by
  intro sz
  refine vx_ofW (cc := cX6_nameValue) (maxL := 9) (ret := (some .long)) (by decide) rfl ?_
  intro p e s m args below meth c s₁ B hml hxt hv
  obtain ⟨rfl, hsz, hP, hK, hD0, hG⟩ := hv
  have hx := B.exec
  have hb := B.bytes
  have hr := B.returns
  have hts := atoms_spec (ws := wm_X6_nameValue) B.pre
  have htb := fun (w : Cond) (h : w ∈ tb) => hts w (List.mem_cons_of_mem _ h)
  have hown : s.vm.findClass RX6 = some m.cls := findClass_of_methodNamed B.named
  have hlocks := B.notSynchronized
  subst hsz
  have hD := hD0.self (sz := s.heap.size)
  generalize hAe : va_A (cW ad cid a2 lx sg gm lg) s.heap.size = A at hD hG ⊢
  have hA : ∀ q : Nat, s.heap.size ≤ q → A q := fun q h => by rw [← hAe]; exact Or.inr h
  have hS : va_S A s.heap s.heap [] := va_S.rf
  have hl := lv_entry ([eV (ad 1) x, eV (ad 9) o, eV (ad 33) w]) (n := 9) (by rw [show (lg_sl ([eV (ad 1) x, eV (ad 9) o, eV (ad 33) w])).length = 3 from by simp [lg_sl, eV_cat, cat_i, cat_l]]; exact Nat.le_of_ble_eq_true rfl)
  rw [lg_entry_eq]
  generalize (lg_sl ([eV (ad 1) x, eV (ad 9) o, eV (ad 33) w]) ++ List.replicate (9 - (lg_sl ([eV (ad 1) x, eV (ad 9) o, eV (ad 33) w])).length) Slot.unset).toArray = ls at hl ⊢
  have hl : lv_has ls 9 [(0, eV (ad 1) x), (1, eV (ad 9) o), (2, eV (ad 33) w)] := by simp [lv_args, eV_cat, cat_i, cat_l] at hl; exact hl
  have hj27 : ∀ (x4_27 : Int32) (x3_27 : Int32) (_ : iv 0 24 x4_27) (_ : iv (-1) 239 x3_27) (_ : iv 0 0 x) (_ : iv 0 79 o) (_ : iv 0 33 w) (_ : nv7 A7 (wKy.getD w.toNatClampNeg 0) = 0) (H : Heap) (locs : List Loc) (ls : Array Slot), va_P (dC, dI) vwCl (cW ad cid a2 lx sg gm lg) H → va_D A (cW ad cid a2 lx sg gm lg) → va_S A s.heap H locs → lv_has ls 9 [(4, .int x4_27), (3, .int x3_27), (0, eV (ad 1) x), (1, eV (ad 9) o), (2, eV (ad 33) w)] → W p l e (headSpec wm_X6_nameValue ({ frames := 1, cells := 1, slots := 6, locals := 23 })).room s m ([eV (ad 1) x, eV (ad 9) o, eV (ad 33) w] : List Value).toArray below meth c H locs 0 0 (vx_MQ below (cQx dC dI ad cid a2 lx (fun v u => ∃ r : Int64, v = some (.long r) ∧ u = (sg, gm, lg) ∧ (r = nv7 A7 (wKy.getD w.toNatClampNeg 0)) ∧ (r = 0 ∨ HSK gm lg o.toNatClampNeg (wKy.getD w.toNatClampNeg 0))) A) (cX dC dI ad cid a2 lx (fun _ _ => False) A) ([eV (ad 1) x, eV (ad 9) o, eV (ad 33) w] : List Value).toArray s 1 6 A) (F0 m 27 ls []) := by
    intro x4_27 x3_27 hx4_27 hx3_27 hsx0_27 hsx1_27 hsx2_27 hN27 H locs ls hP hD hS hl
    refine lv_lconst (v := 0) hx hb dX6_nameValue_27 (by decide) ?_
    exact W.nb (fun hN => W.widen (k := 1) (n := 6) (by decide) (by decide) (vx_ret (W.lret (v := 0) hx hb hr (fun t ht hW => ⟨⟨some (.long 0), (sg, gm, lg), rfl, ⟨0, rfl, rfl, (hN27.symm), ((by by_cases h9 : nv7 A7 (wKy.getD w.toNatClampNeg 0) = 0; (exact Or.inl (Eq.trans hN27.symm h9)); exact Or.inr ((hsk_h hat).mpr (nvH h9))))⟩, by rw [ht]; exact hP, va_K.moved hW.alike hK, hD⟩, hS.F ht, by rw [ht]; exact hN⟩) hS.2.2 dX6_nameValue_28)))
  have hj65 : ∀ (x8_65 : Int32) (x7_65 : Int32) (x5_65 : Int64) (x4_65 : Int32) (x3_65 : Int32) (_ : iv 0 65535 x8_65) (_ : iv 0 7 x7_65) (_ : iv 1 8 x4_65) (_ : iv 0 239 x3_65) (_ : iv 0 0 x) (_ : iv 0 79 o) (_ : iv 0 33 w) (_ : nv7 A7 (wKy.getD w.toNatClampNeg 0) = 0) (H : Heap) (locs : List Loc) (ls : Array Slot), va_P (dC, dI) vwCl (cW ad cid a2 lx sg gm lg) H → va_D A (cW ad cid a2 lx sg gm lg) → va_S A s.heap H locs → lv_has ls 9 [(8, .int x8_65), (7, .int x7_65), (5, .long x5_65), (4, .int x4_65), (3, .int x3_65), (0, eV (ad 1) x), (1, eV (ad 9) o), (2, eV (ad 33) w)] → W p l e (headSpec wm_X6_nameValue ({ frames := 1, cells := 1, slots := 6, locals := 23 })).room s m ([eV (ad 1) x, eV (ad 9) o, eV (ad 33) w] : List Value).toArray below meth c H locs 0 0 (vx_MQ below (cQx dC dI ad cid a2 lx (fun v u => ∃ r : Int64, v = some (.long r) ∧ u = (sg, gm, lg) ∧ (r = nv7 A7 (wKy.getD w.toNatClampNeg 0)) ∧ (r = 0 ∨ HSK gm lg o.toNatClampNeg (wKy.getD w.toNatClampNeg 0))) A) (cX dC dI ad cid a2 lx (fun _ _ => False) A) ([eV (ad 1) x, eV (ad 9) o, eV (ad 33) w] : List Value).toArray s 1 6 A) (F0 m 65 ls []) := by
    intro x8_65 x7_65 x5_65 x4_65 x3_65 hx8_65 hx7_65 hx4_65 hx3_65 hsx0_65 hsx1_65 hsx2_65 hN65 H locs ls hP hD hS hl
    refine lv_lconst (v := 0) hx hb dX6_nameValue_65 (by decide) ?_
    exact W.nb (fun hN => W.widen (k := 1) (n := 6) (by decide) (by decide) (vx_ret (W.lret (v := 0) hx hb hr (fun t ht hW => ⟨⟨some (.long 0), (sg, gm, lg), rfl, ⟨0, rfl, rfl, (hN65.symm), ((by by_cases h9 : nv7 A7 (wKy.getD w.toNatClampNeg 0) = 0; (exact Or.inl (Eq.trans hN65.symm h9)); exact Or.inr ((hsk_h hat).mpr (nvH h9))))⟩, by rw [ht]; exact hP, va_K.moved hW.alike hK, hD⟩, hS.F ht, by rw [ht]; exact hN⟩) hS.2.2 dX6_nameValue_66)))
  have hj35 : ∀ (n : Nat) (x7_35 : Int32) (x5_35 : Int64) (x4_35 : Int32) (x3_35 : Int32) (_ : (8 - x7_35.toInt).toNat = n) (_ : iv 0 8 x7_35) (_ : iv 1 8 x4_35) (_ : iv 0 239 x3_35) (_ : iv 0 0 x) (_ : iv 0 79 o) (_ : iv 0 33 w) (_ : 0 ≤ x3_35.toInt) (_ : x3_35.toInt < (sg 5).toInt) (_ : x4_35 = gm 45 x3_35.toNatClampNeg) (_ : gA A7 (wKy.getD w.toNatClampNeg 0) = some (vv7 A7 (wKy.getD w.toNatClampNeg 0)) ∧ VW7 gm x3_35.toNatClampNeg (vv7 A7 (wKy.getD w.toNatClampNeg 0))) (_ : x5_35 = foL ((vv7 A7 (wKy.getD w.toNatClampNeg 0)).take x7_35.toNatClampNeg) 0) (_ : allL ((vv7 A7 (wKy.getD w.toNatClampNeg 0)).take x7_35.toNatClampNeg) = true) (H : Heap) (locs : List Loc) (ls : Array Slot), va_P (dC, dI) vwCl (cW ad cid a2 lx sg gm lg) H → va_D A (cW ad cid a2 lx sg gm lg) → va_S A s.heap H locs → lv_has ls 9 [(7, .int x7_35), (5, .long x5_35), (4, .int x4_35), (3, .int x3_35), (0, eV (ad 1) x), (1, eV (ad 9) o), (2, eV (ad 33) w)] → W p l e (headSpec wm_X6_nameValue ({ frames := 1, cells := 1, slots := 6, locals := 23 })).room s m ([eV (ad 1) x, eV (ad 9) o, eV (ad 33) w] : List Value).toArray below meth c H locs 0 0 (vx_MQ below (cQx dC dI ad cid a2 lx (fun v u => ∃ r : Int64, v = some (.long r) ∧ u = (sg, gm, lg) ∧ (r = nv7 A7 (wKy.getD w.toNatClampNeg 0)) ∧ (r = 0 ∨ HSK gm lg o.toNatClampNeg (wKy.getD w.toNatClampNeg 0))) A) (cX dC dI ad cid a2 lx (fun _ _ => False) A) ([eV (ad 1) x, eV (ad 9) o, eV (ad 33) w] : List Value).toArray s 1 6 A) (F0 m 35 ls []) := by
    intro n
    induction n using Nat.strongRecOn with
    | ind n ih35 =>
      intro x7_35 x5_35 x4_35 x3_35 hn35 hx7_35 hx4_35 hx3_35 hsx0_35 hsx1_35 hsx2_35 h3p h3l h4e hvw hky hal9 H locs ls hP hD hS hl
      refine lv_iload hx hb dX6_nameValue_35 (lv_at hl 0 rfl) ?_
      refine lv_iload hx hb dX6_nameValue_37 (lv_at hl 2 rfl) ?_
      refine lv_icmp_ge (tgt := 84) hx hb dX6_nameValue_39 (by decide) (fun c_1 => ?_) (fun c_1 => ?_)
      · have d_2 : (x4_35 : Int32).toInt ≤ (x7_35 : Int32).toInt := Int32.le_iff_toInt_le.mp c_1
        have h_3 : iv 1 8 x7_35 := iv_leR c_1 hx4_35 hx7_35 (by decide)
        refine lv_lload hx hb dX6_nameValue_84 (lv_at hl 1 rfl) ?_
        exact W.nb (fun hN => W.widen (k := 1) (n := 6) (by decide) (by decide) (vx_ret (W.lret (v := x5_35) hx hb hr (fun t ht hW => ⟨⟨some (.long x5_35), (sg, gm, lg), rfl, ⟨x5_35, rfl, rfl, ((by have e9 : (vv7 A7 (wKy.getD w.toNatClampNeg 0)).take x7_35.toNatClampNeg = (vv7 A7 (wKy.getD w.toNatClampNeg 0)) := List.take_of_length_le (by have k7 : x7_35.toNatClampNeg = x7_35.toInt.toNat := rfl; have k4 := congrArg Int32.toInt h4e; have k5 := hvw.2.1; have := i32_0; have := i32_1; have := i32_2; have := i32_m1; have := (hsx0_35).1; have := (hsx0_35).2; have := (hsx1_35).1; have := (hsx1_35).2; have := (hsx2_35).1; have := (hsx2_35).2; have := (h_3).1; have := (h_3).2; have := (hx4_35).1; have := (hx4_35).2; have := (hx3_35).1; have := (hx3_35).2; omega); rw [e9] at hky hal9; rw [nv_e hvw.1 (by have k7 : x7_35.toNatClampNeg = x7_35.toInt.toNat := rfl; have k4 := congrArg Int32.toInt h4e; have k5 := hvw.2.1; have := i32_0; have := i32_1; have := i32_2; have := i32_m1; have := (hsx0_35).1; have := (hsx0_35).2; have := (hsx1_35).1; have := (hsx1_35).2; have := (hsx2_35).1; have := (hsx2_35).2; have := (h_3).1; have := (h_3).2; have := (hx4_35).1; have := (hx4_35).2; have := (hx3_35).1; have := (hx3_35).2; omega) (by have k7 : x7_35.toNatClampNeg = x7_35.toInt.toNat := rfl; have k4 := congrArg Int32.toInt h4e; have k5 := hvw.2.1; have := i32_0; have := i32_1; have := i32_2; have := i32_m1; have := (hsx0_35).1; have := (hsx0_35).2; have := (hsx1_35).1; have := (hsx1_35).2; have := (hsx2_35).1; have := (hsx2_35).2; have := (h_3).1; have := (h_3).2; have := (hx4_35).1; have := (hx4_35).2; have := (hx3_35).1; have := (hx3_35).2; omega) hal9]; exact hky)), ((by by_cases h9 : nv7 A7 (wKy.getD w.toNatClampNeg 0) = 0; (exact Or.inl (Eq.trans (by have e9 : (vv7 A7 (wKy.getD w.toNatClampNeg 0)).take x7_35.toNatClampNeg = (vv7 A7 (wKy.getD w.toNatClampNeg 0)) := List.take_of_length_le (by have k7 : x7_35.toNatClampNeg = x7_35.toInt.toNat := rfl; have k4 := congrArg Int32.toInt h4e; have k5 := hvw.2.1; have := i32_0; have := i32_1; have := i32_2; have := i32_m1; have := (hsx0_35).1; have := (hsx0_35).2; have := (hsx1_35).1; have := (hsx1_35).2; have := (hsx2_35).1; have := (hsx2_35).2; have := (h_3).1; have := (h_3).2; have := (hx4_35).1; have := (hx4_35).2; have := (hx3_35).1; have := (hx3_35).2; omega); rw [e9] at hky hal9; rw [nv_e hvw.1 (by have k7 : x7_35.toNatClampNeg = x7_35.toInt.toNat := rfl; have k4 := congrArg Int32.toInt h4e; have k5 := hvw.2.1; have := i32_0; have := i32_1; have := i32_2; have := i32_m1; have := (hsx0_35).1; have := (hsx0_35).2; have := (hsx1_35).1; have := (hsx1_35).2; have := (hsx2_35).1; have := (hsx2_35).2; have := (h_3).1; have := (h_3).2; have := (hx4_35).1; have := (hx4_35).2; have := (hx3_35).1; have := (hx3_35).2; omega) (by have k7 : x7_35.toNatClampNeg = x7_35.toInt.toNat := rfl; have k4 := congrArg Int32.toInt h4e; have k5 := hvw.2.1; have := i32_0; have := i32_1; have := i32_2; have := i32_m1; have := (hsx0_35).1; have := (hsx0_35).2; have := (hsx1_35).1; have := (hsx1_35).2; have := (hsx2_35).1; have := (hsx2_35).2; have := (h_3).1; have := (h_3).2; have := (hx4_35).1; have := (hx4_35).2; have := (hx3_35).1; have := (hx3_35).2; omega) hal9]; exact hky) h9)); exact Or.inr ((hsk_h hat).mpr (nvH h9))))⟩, by rw [ht]; exact hP, va_K.moved hW.alike hK, hD⟩, hS.F ht, by rw [ht]; exact hN⟩) hS.2.2 dX6_nameValue_86)))
      · have d_4 : (x7_35 : Int32).toInt < (x4_35 : Int32).toInt := Int32.lt_iff_toInt_lt.mp (i32_lt c_1)
        have h_5 : iv 0 7 x7_35 := iv_ltL (i32_lt c_1) hx7_35 hx4_35 (by decide)
        have h42 : iv 0 239 x3_35 := ⟨h3p, (hx3_35).2⟩
        refine ec_aload_n hx hb dX6_nameValue_42 rfl (lv_at hl 4 rfl) ?_
        refine lv_iload_n hx hb dX6_nameValue_43 rfl (lv_at hl 3 rfl) ?_
        refine lv_iload hx hb dX6_nameValue_44 (lv_at hl 0 rfl) ?_
        refine cm_callV (t := 1) (C := RX6) (T := TX6) (N := 8) (rest := []) (as := [.int x3_35, .int x7_35]) ⟨hx, hb, hml, hown, htb⟩ (d_valueChar l dC dI ad cid a2 lx sg gm lg x x3_35 x7_35 hI hsx0_35 h42 (iv_w h_5 (by decide)) hVS h3l (by rw [← h4e]; have := i32_0; have := i32_1; have := i32_2; have := i32_m1; have := (hsx0_35).1; have := (hsx0_35).2; have := (hsx1_35).1; have := (hsx1_35).2; have := (hsx2_35).1; have := (hsx2_35).2; have := (h_5).1; have := (h_5).2; have := (hx4_35).1; have := (hx4_35).2; have := (h42).1; have := (h42).2; omega)) (cwV 2 htb (gd_V kw_552 kw_553 kw_554 kw_20 kw_1469) rfl rfl rfl (by decide +kernel) ⟨Nat.le_of_ble_eq_true rfl, Nat.le_of_ble_eq_true rfl⟩) hsx0_35 (by decide) (by decide) rfl rfl hl.1 rfl (Nat.le_trans cs_n (by decide)) dX6_nameValue_46 ⟨Nat.le_of_ble_eq_true rfl, Nat.le_of_ble_eq_true rfl⟩ hK hP hD hS hA hG (fun E ce q9 u_7 H locs hw hP hD hS hce hcv hcl => ?_) (fun v9 u_7 H locs hw hP hD hS => ?_)
        · exact hw.elim
        obtain ⟨r_6, rfl, rfl, hr_6, fC_r_6⟩ := hw
        have hP : va_P (dC, dI) vwCl (cW ad cid a2 lx sg gm lg) H := hP
        have hD : va_D A (cW ad cid a2 lx sg gm lg) := hD
        refine W.eq (g2 := F0 m 49 ls [.int r_6]) rfl ?_
        refine lv_istore (i := 8) (lv' := [(8, .int r_6), (7, .int x7_35), (5, .long x5_35), (4, .int x4_35), (3, .int x3_35), (0, eV (ad 1) x), (1, eV (ad 9) o), (2, eV (ad 33) w)]) hx hb dX6_nameValue_49 hl (by decide) rfl (fun ls hl => ?_)
        refine lv_iload hx hb dX6_nameValue_51 (lv_at hl 0 rfl) ?_
        refine lv_bipush (v := 97) hx hb dX6_nameValue_53 (by decide) ?_
        refine lv_icmp_lt (tgt := 65) hx hb dX6_nameValue_55 (by decide) (fun c_9 => ?_) (fun c_9 => ?_)
        · have h_10 : iv 0 96 r_6 := iv_ltL c_9 hr_6 (iv_k (by decide) : iv 97 97 97) (by decide)
          exact hj65 r_6 x7_35 x5_35 x4_35 x3_35 (iv_w h_10 (by decide)) h_5 hx4_35 h42 hsx0_35 hsx1_35 hsx2_35 ((nv_x hvw (show x7_35.toNatClampNeg < (vv7 A7 (wKy.getD w.toNatClampNeg 0)).length from (by have k7 : x7_35.toNatClampNeg = x7_35.toInt.toNat := rfl; have k4 := congrArg Int32.toInt h4e; have k5 := hvw.2.1; have := i32_0; have := i32_1; have := i32_2; have := i32_m1; have := (hsx0_35).1; have := (hsx0_35).2; have := (hsx1_35).1; have := (hsx1_35).2; have := (hsx2_35).1; have := (hsx2_35).2; have := (h_5).1; have := (h_5).2; have := (hx4_35).1; have := (hx4_35).2; have := (h42).1; have := (h42).2; have := (h_10).1; have := (h_10).2; omega)) fC_r_6 (by have := i32_0; have := i32_1; have := i32_2; have := i32_m1; have := (hsx0_35).1; have := (hsx0_35).2; have := (hsx1_35).1; have := (hsx1_35).2; have := (hsx2_35).1; have := (hsx2_35).2; have := (h_5).1; have := (h_5).2; have := (hx4_35).1; have := (hx4_35).2; have := (h42).1; have := (h42).2; have := (h_10).1; have := (h_10).2; omega))) _ _ _ hP hD hS (lv_sub hl [0, 1, 2, 3, 4, 5, 6, 7] rfl)
        · have h_11 : iv 97 65535 r_6 := iv_leR (i32_ge c_9) (iv_k (by decide) : iv 97 97 97) hr_6 (by decide)
          refine lv_iload hx hb dX6_nameValue_58 (lv_at hl 0 rfl) ?_
          refine lv_bipush (v := 122) hx hb dX6_nameValue_60 (by decide) ?_
          refine lv_icmp_le (tgt := 67) hx hb dX6_nameValue_62 (by decide) (fun c_12 => ?_) (fun c_12 => ?_)
          · have h_13 : iv 97 122 r_6 := iv_leL c_12 h_11 (iv_k (by decide) : iv 122 122 122) (by decide)
            refine lv_lload hx hb dX6_nameValue_67 (lv_at hl 2 rfl) ?_
            refine lv_bipush (v := 8) hx hb dX6_nameValue_69 (by decide) ?_
            refine lv_lshl (v := x5_35 <<< ((8 : Int32).toInt64 &&& 63)) hx hb dX6_nameValue_71 rfl ?_
            refine lv_topl (fun z_14 ez_14 => ?_)
            refine lv_iload hx hb dX6_nameValue_72 (lv_at hl 0 rfl) ?_
            refine lv_i2l (v := (r_6 : Int32).toInt64) hx hb dX6_nameValue_74 rfl ?_
            refine lv_topl (fun z_15 ez_15 => ?_)
            refine lv_lor hx hb dX6_nameValue_75 ?_
            refine lv_topl (fun z_16 ez_16 => ?_)
            refine lv_lstore (i := 5) (lv' := [(5, .long z_16), (8, .int r_6), (7, .int x7_35), (4, .int x4_35), (3, .int x3_35), (0, eV (ad 1) x), (1, eV (ad 9) o), (2, eV (ad 33) w)]) hx hb dX6_nameValue_76 hl (by decide) rfl (fun ls hl => ?_)
            obtain ⟨z_17, ez_17⟩ : ∃ z : Int32, z = x7_35 + 1 := ⟨_, rfl⟩
            have hz_17 : iv 1 8 z_17 := iv_of ez_17 (iv_add h_5 (iv_k (by decide) : iv 1 1 1) (by decide))
            have tz_17 : z_17.toInt = x7_35.toInt + 1 := by rw [ez_17]; exact iv_addE h_5 (iv_k (by decide) : iv 1 1 1) (by decide)
            refine lv_iinc (v := z_17) (lv' := [(7, .int z_17), (5, .long z_16), (8, .int r_6), (4, .int x4_35), (3, .int x3_35), (0, eV (ad 1) x), (1, eV (ad 9) o), (2, eV (ad 33) w)]) hx hb dX6_nameValue_78 hl (k := 2) rfl ez_17.symm (by decide) rfl (fun ls hl => ?_)
            refine lv_goto (tgt := 35) hx hb dX6_nameValue_81 (by decide) ?_
            exact ih35 _ (by rw [← hn35]; exact (iv_meas tz_17 h_5 (by decide))) z_17 z_16 x4_35 x3_35 rfl (iv_w hz_17 (by decide)) hx4_35 h42 hsx0_35 hsx1_35 hsx2_35 (h3p) (h3l) (h4e) (hvw) ((by rw [s_cl h_5 (by decide) tz_17, (tk_s hvw.2 (show x7_35.toNatClampNeg < (vv7 A7 (wKy.getD w.toNatClampNeg 0)).length from (by have k7 : x7_35.toNatClampNeg = x7_35.toInt.toNat := rfl; have k4 := congrArg Int32.toInt h4e; have k5 := hvw.2.1; have := i32_0; have := i32_1; have := i32_2; have := i32_m1; have := (hsx0_35).1; have := (hsx0_35).2; have := (hsx1_35).1; have := (hsx1_35).2; have := (hsx2_35).1; have := (hsx2_35).2; have := (h_5).1; have := (h_5).2; have := (hx4_35).1; have := (hx4_35).2; have := (h42).1; have := (h42).2; have := (h_13).1; have := (h_13).2; have := (hz_17).1; have := (hz_17).2; omega)) fC_r_6), foL_ap, ← hky, ← nm_or rfl]; (try rw [← ez_14]); (try rw [← ez_15]); exact ez_16)) ((by rw [s_cl h_5 (by decide) tz_17, (tk_s hvw.2 (show x7_35.toNatClampNeg < (vv7 A7 (wKy.getD w.toNatClampNeg 0)).length from (by have k7 : x7_35.toNatClampNeg = x7_35.toInt.toNat := rfl; have k4 := congrArg Int32.toInt h4e; have k5 := hvw.2.1; have := i32_0; have := i32_1; have := i32_2; have := i32_m1; have := (hsx0_35).1; have := (hsx0_35).2; have := (hsx1_35).1; have := (hsx1_35).2; have := (hsx2_35).1; have := (hsx2_35).2; have := (h_5).1; have := (h_5).2; have := (hx4_35).1; have := (hx4_35).2; have := (h42).1; have := (h42).2; have := (h_13).1; have := (h_13).2; have := (hz_17).1; have := (hz_17).2; omega)) fC_r_6), allL_ap, hal9, decide_eq_true (show 97 ≤ r_6.toInt ∧ r_6.toInt ≤ 122 from ⟨(by have := i32_0; have := i32_1; have := i32_2; have := i32_m1; have := (hsx0_35).1; have := (hsx0_35).2; have := (hsx1_35).1; have := (hsx1_35).2; have := (hsx2_35).1; have := (hsx2_35).2; have := (h_5).1; have := (h_5).2; have := (hx4_35).1; have := (hx4_35).2; have := (h42).1; have := (h42).2; have := (h_13).1; have := (h_13).2; have := (hz_17).1; have := (hz_17).2; omega), (by have := i32_0; have := i32_1; have := i32_2; have := i32_m1; have := (hsx0_35).1; have := (hsx0_35).2; have := (hsx1_35).1; have := (hsx1_35).2; have := (hsx2_35).1; have := (hsx2_35).2; have := (h_5).1; have := (h_5).2; have := (hx4_35).1; have := (hx4_35).2; have := (h42).1; have := (h42).2; have := (h_13).1; have := (h_13).2; have := (hz_17).1; have := (hz_17).2; omega)⟩)]; rfl)) _ _ _ hP hD hS (lv_sub hl [0, 1, 3, 4, 5, 6, 7] rfl)
          · have h_18 : iv 123 65535 r_6 := iv_ltR (i32_lt c_12) (iv_k (by decide) : iv 122 122 122) h_11 (by decide)
            exact hj65 r_6 x7_35 x5_35 x4_35 x3_35 (iv_w h_18 (by decide)) h_5 hx4_35 h42 hsx0_35 hsx1_35 hsx2_35 ((nv_x hvw (show x7_35.toNatClampNeg < (vv7 A7 (wKy.getD w.toNatClampNeg 0)).length from (by have k7 : x7_35.toNatClampNeg = x7_35.toInt.toNat := rfl; have k4 := congrArg Int32.toInt h4e; have k5 := hvw.2.1; have := i32_0; have := i32_1; have := i32_2; have := i32_m1; have := (hsx0_35).1; have := (hsx0_35).2; have := (hsx1_35).1; have := (hsx1_35).2; have := (hsx2_35).1; have := (hsx2_35).2; have := (h_5).1; have := (h_5).2; have := (hx4_35).1; have := (hx4_35).2; have := (h42).1; have := (h42).2; have := (h_18).1; have := (h_18).2; omega)) fC_r_6 (by have := i32_0; have := i32_1; have := i32_2; have := i32_m1; have := (hsx0_35).1; have := (hsx0_35).2; have := (hsx1_35).1; have := (hsx1_35).2; have := (hsx2_35).1; have := (hsx2_35).2; have := (h_5).1; have := (h_5).2; have := (hx4_35).1; have := (hx4_35).2; have := (h42).1; have := (h42).2; have := (h_18).1; have := (h_18).2; omega))) _ _ _ hP hD hS (lv_sub hl [0, 1, 2, 3, 4, 5, 6, 7] rfl)
  refine ec_aload_n hx hb dX6_nameValue_0 rfl (lv_at hl 0 rfl) ?_
  refine ec_aload_n hx hb dX6_nameValue_1 rfl (lv_at hl 1 rfl) ?_
  refine ec_aload_n hx hb dX6_nameValue_2 rfl (lv_at hl 2 rfl) ?_
  refine cm_callV (t := 1) (C := RX6) (T := TX6) (N := 8) (rest := []) (as := [eV (ad 9) o, eV (ad 33) w]) ⟨hx, hb, hml, hown, htb⟩ (d_find l dC dI ad cid a2 lx sg gm lg x o w hI hvx hvo hvw hFA how) (cwV 2 htb (gd_V kw_545 kw_546 kw_547 kw_20 kw_1467) rfl rfl rfl (by decide +kernel) ⟨Nat.le_of_ble_eq_true rfl, Nat.le_of_ble_eq_true rfl⟩) hvx (by decide) (by decide) rfl rfl hl.1 rfl (Nat.le_trans cs_n (by decide)) dX6_nameValue_3 ⟨Nat.le_of_ble_eq_true rfl, Nat.le_of_ble_eq_true rfl⟩ hK hP hD hS hA hG (fun E ce q9 u_20 H locs hw hP hD hS hce hcv hcl => ?_) (fun v9 u_20 H locs hw hP hD hS => ?_)
  · exact hw.elim
  obtain ⟨r_19, rfl, rfl, hr_19, fF_r_19, fLt_r_19⟩ := hw
  have hP : va_P (dC, dI) vwCl (cW ad cid a2 lx sg gm lg) H := hP
  have hD : va_D A (cW ad cid a2 lx sg gm lg) := hD
  refine W.eq (g2 := F0 m 6 ls [.int r_19]) rfl ?_
  refine lv_istore_n (i := 3) (lv' := [(3, .int r_19), (0, eV (ad 1) x), (1, eV (ad 9) o), (2, eV (ad 33) w)]) hx hb dX6_nameValue_6 rfl hl (by decide) (by simp [List.filter, eV_cat, cat_i, cat_l]) (fun ls hl => ?_)
  refine ec_aload_n hx hb dX6_nameValue_7 rfl (lv_at hl 1 rfl) ?_
  refine lv_iload_n hx hb dX6_nameValue_8 rfl (lv_at hl 0 rfl) ?_
  refine cm_callV (t := 1) (C := RX6) (T := TX6) (N := 8) (rest := []) (as := [.int r_19]) ⟨hx, hb, hml, hown, htb⟩ (d_valueLength l dC dI ad cid a2 lx sg gm lg x r_19 hI hvx hr_19) (cwV 1 htb (gd_V kw_549 kw_550 kw_551 kw_20 kw_1468) rfl rfl rfl (by decide +kernel) ⟨Nat.le_of_ble_eq_true rfl, Nat.le_of_ble_eq_true rfl⟩) hvx (by decide) (by decide) rfl rfl hl.1 rfl (Nat.le_trans cs_n (by decide)) dX6_nameValue_9 ⟨Nat.le_of_ble_eq_true rfl, Nat.le_of_ble_eq_true rfl⟩ hK hP hD hS hA hG (fun E ce q9 u_23 H locs hw hP hD hS hce hcv hcl => ?_) (fun v9 u_23 H locs hw hP hD hS => ?_)
  · exact hw.elim
  obtain ⟨r_22, rfl, rfl, hr_22, fV_r_22⟩ := hw
  have hP : va_P (dC, dI) vwCl (cW ad cid a2 lx sg gm lg) H := hP
  have hD : va_D A (cW ad cid a2 lx sg gm lg) := hD
  refine W.eq (g2 := F0 m 12 ls [.int r_22]) rfl ?_
  refine lv_istore (i := 4) (lv' := [(4, .int r_22), (3, .int r_19), (0, eV (ad 1) x), (1, eV (ad 9) o), (2, eV (ad 33) w)]) hx hb dX6_nameValue_12 hl (by decide) rfl (fun ls hl => ?_)
  refine lv_iload hx hb dX6_nameValue_14 (lv_at hl 0 rfl) ?_
  refine lv_iconst (v := 1) hx hb dX6_nameValue_16 (by decide) ?_
  refine lv_icmp_lt (tgt := 27) hx hb dX6_nameValue_17 (by decide) (fun c_25 => ?_) (fun c_25 => ?_)
  · have h_26 : iv 0 0 r_22 := iv_ltL c_25 hr_22 (iv_k (by decide) : iv 1 1 1) (by decide)
    exact hj27 r_22 r_19 (iv_w h_26 (by decide)) hr_19 hvx hvo hvw ((nv_n fF_r_19 hat fV_r_22 (by have := i32_0; have := i32_1; have := i32_2; have := i32_m1; have := (hvx).1; have := (hvx).2; have := (hvo).1; have := (hvo).2; have := (hvw).1; have := (hvw).2; have := (hr_19).1; have := (hr_19).2; have := (h_26).1; have := (h_26).2; omega))) _ _ _ hP hD hS (lv_sub hl [0, 1, 2, 3, 4] rfl)
  · have h_27 : iv 1 24 r_22 := iv_leR (i32_ge c_25) (iv_k (by decide) : iv 1 1 1) hr_22 (by decide)
    refine lv_iload hx hb dX6_nameValue_20 (lv_at hl 0 rfl) ?_
    refine lv_bipush (v := 8) hx hb dX6_nameValue_22 (by decide) ?_
    refine lv_icmp_le (tgt := 29) hx hb dX6_nameValue_24 (by decide) (fun c_28 => ?_) (fun c_28 => ?_)
    · have h_29 : iv 1 8 r_22 := iv_leL c_28 h_27 (iv_k (by decide) : iv 8 8 8) (by decide)
      obtain ⟨h9z, h9e⟩ : 0 ≤ r_19.toInt ∧ r_22 = gm 45 r_19.toNatClampNeg := fV_r_22.resolve_left (fun q9 => by have := q9.2; have := i32_0; have := i32_1; have := i32_2; have := i32_m1; have := (hvx).1; have := (hvx).2; have := (hvo).1; have := (hvo).2; have := (hvw).1; have := (hvw).2; have := (hr_19).1; have := (hr_19).2; have := (h_29).1; have := (h_29).2; omega)
      have h9p : iv 0 239 r_19 := ⟨h9z, (hr_19).2⟩
      refine lv_lconst (v := 0) hx hb dX6_nameValue_29 (by decide) ?_
      refine lv_lstore (i := 5) (lv' := [(5, .long 0), (4, .int r_22), (3, .int r_19), (0, eV (ad 1) x), (1, eV (ad 9) o), (2, eV (ad 33) w)]) hx hb dX6_nameValue_30 hl (by decide) rfl (fun ls hl => ?_)
      refine lv_iconst (v := 0) hx hb dX6_nameValue_32 (by decide) ?_
      refine lv_istore (i := 7) (lv' := [(7, .int 0), (5, .long 0), (4, .int r_22), (3, .int r_19), (0, eV (ad 1) x), (1, eV (ad 9) o), (2, eV (ad 33) w)]) hx hb dX6_nameValue_33 hl (by decide) rfl (fun ls hl => ?_)
      exact hj35 _ 0 0 r_22 r_19 rfl (iv_w (iv_k (by decide) : iv 0 0 0) (by decide)) h_29 h9p hvx hvo hvw (h9z) (fLt_r_19) (h9e) ((FND_v fF_r_19 hat h9z)) (rfl) (rfl) _ _ _ hP hD hS (lv_sub hl [0, 1, 2, 3, 4, 5, 6] rfl)
    · have h_30 : iv 9 24 r_22 := iv_ltR (i32_lt c_28) (iv_k (by decide) : iv 8 8 8) h_27 (by decide)
      exact hj27 r_22 r_19 (iv_w h_30 (by decide)) hr_19 hvx hvo hvw ((nv_n fF_r_19 hat fV_r_22 (by have := i32_0; have := i32_1; have := i32_2; have := i32_m1; have := (hvx).1; have := (hvx).2; have := (hvo).1; have := (hvo).2; have := (hvw).1; have := (hvw).2; have := (hr_19).1; have := (hr_19).2; have := (h_30).1; have := (h_30).2; omega))) _ _ _ hP hD hS (lv_sub hl [0, 1, 2, 3, 4] rfl)
end
section
/-- a word of the class as a kind -/
def kwF (w : Int) : Int := if w = 0 then 1 else if w = 1 then 2 else if w = 2 then 3 else if w = 3 then 4 else if w = 4 then 5 else if w = 5 then 10 else if w = 6 then 6 else if w = 7 then 7 else if w = 8 then 8 else if w = 9 then 9 else 0
def KW7 (w kd : Int) : Prop := kwF w = kd
theorem kw7_n : ∀ n : Nat, n < 34 → kwF (n : Int) = kd7 (wKy.getD n 0).toInt := by decide
theorem kwF_0 {w : Int} (h : w < 0 ∨ 9 < w) : kwF w = 0 := by
  unfold kwF
  rw [if_neg (show ¬ w = 0 by omega), if_neg (show ¬ w = 1 by omega), if_neg (show ¬ w = 2 by omega), if_neg (show ¬ w = 3 by omega), if_neg (show ¬ w = 4 by omega), if_neg (show ¬ w = 5 by omega), if_neg (show ¬ w = 6 by omega), if_neg (show ¬ w = 7 by omega), if_neg (show ¬ w = 8 by omega), if_neg (show ¬ w = 9 by omega)]
def wkF (k : Int) : Int := if k = 1 then 0 else if k = 2 then 1 else if k = 3 then 2 else if k = 4 then 3 else if k = 5 then 4 else if k = 10 then 5 else if k = 6 then 6 else if k = 7 then 7 else if k = 8 then 8 else if k = 9 then 9 else -1
theorem kwF_i {w : Int} (h : 1 ≤ kwF w) : w = wkF (kwF w) := by
  by_cases h0 : w = 0
  · subst h0; decide
  by_cases h1 : w = 1
  · subst h1; decide
  by_cases h2 : w = 2
  · subst h2; decide
  by_cases h3 : w = 3
  · subst h3; decide
  by_cases h4 : w = 4
  · subst h4; decide
  by_cases h5 : w = 5
  · subst h5; decide
  by_cases h6 : w = 6
  · subst h6; decide
  by_cases h7 : w = 7
  · subst h7; decide
  by_cases h8 : w = 8
  · subst h8; decide
  by_cases h9 : w = 9
  · subst h9; decide
  rw [kwF_0 (by omega)] at h
  omega
theorem kd7_0 {k : Int} (h : ∀ j, j < 34 → ¬ (wKy.getD j 0).toInt = k) : kd7 k = 0 := by
  unfold kd7
  have a0 : ¬ k = 422607679091 := fun q => h 0 (by decide) (by rw [q]; decide)
  have a1 : ¬ k = 418430673267 := fun q => h 1 (by decide) (by rw [q]; decide)
  have a2 : ¬ k = 1650811246 := fun q => h 2 (by decide) (by rw [q]; decide)
  have a3 : ¬ k = 6386279 := fun q => h 3 (by decide) (by rw [q]; decide)
  have a4 : ¬ k = 7562612 := fun q => h 4 (by decide) (by rw [q]; decide)
  have a5 : ¬ k = 119225866483056 := fun q => h 5 (by decide) (by rw [q]; decide)
  have a6 : ¬ k = 1818850164 := fun q => h 6 (by decide) (by rw [q]; decide)
  have a7 : ¬ k = 508440638821 := fun q => h 7 (by decide) (by rw [q]; decide)
  have a8 : ¬ k = 7497062 := fun q => h 8 (by decide) (by rw [q]; decide)
  have a9 : ¬ k = 1853189228 := fun q => h 9 (by decide) (by rw [q]; decide)
  rw [if_neg a0, if_neg a1, if_neg a2, if_neg a3, if_neg a4, if_neg a6, if_neg a7, if_neg a8, if_neg a9, if_neg a5]
theorem WKR_k {r : Int32} {k : Int64} (h : WKR r k) : KW7 r.toInt (kd7 k.toInt) := by
  rcases h with ⟨a1, a2, a3⟩ | ⟨a1, a2⟩
  · have q : ((r.toNatClampNeg : Nat) : Int) = r.toInt := by show ((r.toInt.toNat : Nat) : Int) = _; omega
    have := kw7_n r.toNatClampNeg (by omega)
    rw [a3, q] at this
    exact this
  · have := kd7_0 (k := k.toInt) (fun j hj q => a2 j hj (Int64.toInt_inj.mp q))
    unfold KW7
    rw [this, kwF_0 (by omega)]
theorem cn_r {f g : Nat → Int} {e : Int} : ∀ n, (∀ j, j < n → f j = g j) → cnR f e n = cnD g e n := by
  intro n
  induction n with
  | zero => intro _; rfl
  | succ n ih =>
    intro h
    show cnR f e n + (if f n = e then 1 else 0) = cnD g e n + (if g n = e then 1 else 0)
    rw [ih (fun j hj => h j (by omega)), h n (by omega)]
/-- an element of the class by the list -/
def EV7 (D : List El7) (sg : Nat → Int32) (gm : Nat → Nat → Int32) (lg : Nat → Nat → Int64) (j : Nat) : Prop := KW7 (gm 14 j).toInt (dKd D j) ∧ ATC (dAt D j) gm lg j (sg 5).toInt (sg 6).toInt ∧ ((gm 15 j).toInt = dAb D j ∧ -1 ≤ dAb D j) ∧ (0 ≤ dAb D j → KW7 (gm 14 (gm 15 j).toNatClampNeg).toInt (dIn D j)) ∧ (gm 11 j).toInt = (dTx D j : Int) ∧ (gm 18 j).toInt = (dCn D j : Int)
theorem RDC_f {D : List El7} {sg : Nat → Int32} {gm : Nat → Nat → Int32} {lg : Nat → Nat → Int64} (h : RDC D sg gm lg) {j : Nat} (hj : j < D.length) : (gm 15 j).toInt = dAb D j ∧ WKR (gm 14 j) (dEl D j).2.2.1 ∧ ATC (dAt D j) gm lg j (sg 5).toInt (sg 6).toInt ∧ (gm 11 j).toInt = (dTx D j : Int) := by
  obtain ⟨_, a2, a3, a4, _, a6, _⟩ := h.2.2 j _ (dEl_g hj)
  exact ⟨a2, a3, a4, a6⟩
theorem RDC_n {D : List El7} {sg : Nat → Int32} {gm : Nat → Nat → Int32} {lg : Nat → Nat → Int64} (h : RDC D sg gm lg) : (sg 4).toNatClampNeg = D.length := by have := h.1; show (sg 4).toInt.toNat = _; omega
theorem EV_of {D : List El7} {sg : Nat → Int32} {gm : Nat → Nat → Int32} {lg : Nat → Nat → Int64} (h : RDC D sg gm lg) {j : Nat} (hj : j < D.length) : EV7 D sg gm lg j := by
  obtain ⟨a1, a2, a3, a4⟩ := RDC_f h hj
  have hn := RDC_n h
  obtain ⟨b1, b2, b3, b4, b5⟩ := h.2.1 j (by omega)
  refine ⟨WKR_k a2, a3, ⟨a1, by omega⟩, fun h0 => ?_, a4, ?_⟩
  · have e : (gm 15 j).toNatClampNeg = (dAb D j).toNat := by show (gm 15 j).toInt.toNat = _; rw [a1]
    rw [e]
    have := WKR_k (RDC_f h (show (dAb D j).toNat < D.length by omega)).2.1
    unfold dIn
    rw [if_neg (by omega)]
    exact this
  · rw [b5, hn]
    unfold dCn
    rw [cn_r D.length (fun i hi => (RDC_f h hi).1)]
theorem KW_f {w k k2 : Int} (h : KW7 w k) (h2 : KW7 w k2) : k = k2 := h.symm.trans h2
theorem KW_i {w w2 k : Int} (h : KW7 w k) (h2 : KW7 w2 k) (h1 : 1 ≤ k) : w = w2 := by
  unfold KW7 at h h2
  rw [kwF_i (w := w) (by omega), kwF_i (w := w2) (by omega), h, h2]
theorem KW_j {w k : Int} (h : KW7 w k) (h1 : 1 ≤ k) : w = wkF k := by
  unfold KW7 at h
  rw [kwF_i (w := w) (by omega), h]
theorem ISI_d {D : List El7} {sg : Nat → Int32} {gm : Nat → Nat → Int32} {lg : Nat → Nat → Int64} {j : Nat} (h : EV7 D sg gm lg j) {a : Int32} {K : Int} (ha : KW7 a.toInt K) (h1 : 1 ≤ K) : ISI gm j a ↔ dIn D j = K := by
  obtain ⟨_, _, ⟨b1, b2⟩, b3, _⟩ := h
  constructor
  · rintro ⟨c1, c2⟩
    have := b3 (by omega)
    rw [c2] at this
    exact KW_f this ha
  · intro e
    have h0 : 0 ≤ dAb D j := by
      by_cases q : dAb D j = -1
      · unfold dIn at e; rw [if_pos q] at e; omega
      · omega
    have := b3 h0
    rw [e] at this
    exact ⟨by omega, Int32.toInt_inj.mp (KW_i this ha h1)⟩
theorem swy {y z : Int32} (j i : Nat) (hd : ∀ n, n < 34 → (wSw.getD n 0).toInt = (i : Int) → n = j) (hy : iv 0 33 y) (e : z = wSw.getD y.toNatClampNeg 0) (h : z.toInt = (i : Int)) : y.toInt = (j : Int) := by
  have q1 := iv_cl hy (by decide)
  have q2 := hy.2
  rw [e] at h
  have := hd y.toNatClampNeg (by omega) h
  omega
theorem wkz {w : Int32} {x : Int} {j : Nat} (hw : iv 0 33 w) (h : w.toInt = (j : Int)) (e : (wKy.getD j 0).toInt = x) : (wKy.getD w.toNatClampNeg 0).toInt = x := by
  have q1 := iv_cl hw (by decide)
  rw [show w.toNatClampNeg = j by omega]
  exact e
theorem wkn {w : Int32} {x : Int} {j : Nat} (hd : ∀ n, n < 34 → (wKy.getD n 0).toInt = x → n = j) (hw : iv 0 33 w) (h : ¬ w.toInt = (j : Int)) : ¬ (wKy.getD w.toNatClampNeg 0).toInt = x := fun q => by
  have q1 := iv_cl hw (by decide)
  have q2 := hw.2
  have := hd w.toNatClampNeg (by omega) q
  omega
end
section
def BM7 (k b : Int) : Prop := ((k = 26980 ∨ k = 7017298113369039732 ∨ k = 1818327673) ∧ b = 1) ∨ (k = 427020088179 ∨ k = 123563833388660 ∨ k = 495589486693 ∨ k = 28817527407604345 ∨ k = 120282512125796 ∨ k = 1768843636 ∨ k = 28259044220366713 ∨ k = 28259031083541619)
def MK7 (k : Int) : Prop := k = 1851878757 ∨ k = 29807 ∨ k = 26980 ∨ k = 7017298113369039732 ∨ k = 1818327673 ∨ k = 427020088179 ∨ k = 123563833388660 ∨ k = 495589486693 ∨ k = 28817527407604345 ∨ k = 120282512125796 ∨ k = 1768843636 ∨ k = 28259044220366713 ∨ k = 28259031083541619 ∨ k = 24948 ∨ k = 1954115685 ∨ k = 508440638821 ∨ k = 7497062 ∨ k = 1650811246
theorem MAY_k {kd i k : Int} (h : MAY kd i k) : MK7 k := by
  unfold MAY at h
  unfold MK7
  rcases h with ⟨_, q⟩ | ⟨_, ⟨q, _⟩ | q⟩ | ⟨_, q⟩ | ⟨_, q⟩ | ⟨_, q⟩ | ⟨_, q⟩ <;> omega
theorem MAY_b {i k b kd : Int} (hk : kd = 3) (hb : (b = 1 ∧ i = 1) ∨ (b = 0 ∧ ¬ i = 1)) : MAY kd i k ↔ BM7 k b := by
  rw [hk, MAY_3]
  unfold BM7
  refine or_congr (and_congr Iff.rfl ?_) Iff.rfl
  constructor <;> intro w <;> omega
theorem rvg_L {kd : Int} {q : At7} {k : Int64} (h : PA7 q) (hk : k.toInt = 120282512125796 ∨ k.toInt = 1768843636 ∨ k.toInt = 28259044220366713) : RVL kd q k ↔ 0 ≤ lv7 q k := by
  rcases hk with e | e | e
  · obtain rfl : k = 120282512125796 := Int64.toInt_inj.mp (e.trans (by decide)); exact rv_METHOD h
  · obtain rfl : k = 1768843636 := Int64.toInt_inj.mp (e.trans (by decide)); exact rv_INIT h
  · obtain rfl : k = 28259044220366713 := Int64.toInt_inj.mp (e.trans (by decide)); exact rv_DESTROY h
theorem rvg_Y {kd : Int} {q : At7} {k : Int64} (h : PA7 q) (hk : k.toInt = 7017298113369039732 ∨ k.toInt = 1818327673) : RVL kd q k ↔ (nv7 q k = 7955827 ∨ nv7 q k = 28271) := by
  rw [nve_7955827 h, nve_28271 h]
  rcases hk with e | e
  · obtain rfl : k = 7017298113369039732 := Int64.toInt_inj.mp (e.trans (by decide)); exact rv_ABSTRACT h
  · obtain rfl : k = 1818327673 := Int64.toInt_inj.mp (e.trans (by decide)); exact rv_LAZY h
theorem rvg_O {kd : Int} {q : At7} {k : Int64} (h : PA7 q) (e : k.toInt = 495589486693) : RVL kd q k ↔ (nv7 q k = 7302757 ∨ nv7 q k = 1835101817) := by
  rw [nve_7302757 h, nve_1835101817 h]
  obtain rfl : k = 495589486693 := Int64.toInt_inj.mp (e.trans (by decide)); exact rv_SCOPE h
theorem rvg_C {kd : Int} {q : At7} {k : Int64} (h : PA7 q) (e : k.toInt = 427020088179) : RVL kd q k ↔ 0 ≤ cv7 q k := by
  obtain rfl : k = 427020088179 := Int64.toInt_inj.mp (e.trans (by decide)); exact rv_CLASS h
theorem rvg_A {kd : Int} {q : At7} {k : Int64} (h : PA7 q) (e : k.toInt = 24948) : RVL kd q k ↔ 0 ≤ pl7 q k := by
  obtain rfl : k = 24948 := Int64.toInt_inj.mp (e.trans (by decide)); exact rv_AT h
theorem rvg_V {kd : Int} {q : At7} {k : Int64} (h : PA7 q) (e : k.toInt = 508440638821) : RVL kd q k := by
  obtain rfl : k = 508440638821 := Int64.toInt_inj.mp (e.trans (by decide)); exact (rv_VALUE h).mpr trivial
theorem rvg_T {kd : Int} {q : At7} {k : Int64} (h : PA7 q) (e : k.toInt = 1954115685) : RVL kd q k ↔ ty7 q k := by
  obtain rfl : k = 1954115685 := Int64.toInt_inj.mp (e.trans (by decide))
  rw [rv_TYPE h]
  unfold ty7
  rw [nve_6909556 h, nve_500136506472 h, nve_1667785074 h, nve_1952807028 h, nve_7499639 h]
theorem rvg_N {kd : Int} {q : At7} {k : Int64} (h : PA7 q) (e : k.toInt = 1851878757) : RVL kd q k ↔ ((kd = 2 ∧ ¬ nv7 q k = 0) ∨ (¬ kd = 2 ∧ 0 ≤ lv7 q k)) := by
  rw [nv7_z h]
  obtain rfl : k = 1851878757 := Int64.toInt_inj.mp (e.trans (by decide)); exact rv_NAME h
theorem rvg_W {kd : Int} {q : At7} {k : Int64} (h : PA7 q) (hk : k.toInt = 26980 ∨ k.toInt = 123563833388660 ∨ k.toInt = 28817527407604345 ∨ k.toInt = 28259031083541619 ∨ k.toInt = 29807 ∨ k.toInt = 7497062 ∨ k.toInt = 1650811246) : RVL kd q k ↔ ¬ nv7 q k = 0 := by
  rw [nv7_z h]
  rcases hk with e | e | e | e | e | e | e
  · obtain rfl : k = 26980 := Int64.toInt_inj.mp (e.trans (by decide)); exact rv_ID h
  · obtain rfl : k = 123563833388660 := Int64.toInt_inj.mp (e.trans (by decide)); exact rv_PARENT h
  · obtain rfl : k = 28817527407604345 := Int64.toInt_inj.mp (e.trans (by decide)); exact rv_FACTORY h
  · obtain rfl : k = 28259031083541619 := Int64.toInt_inj.mp (e.trans (by decide)); exact rv_DEPENDS h
  · obtain rfl : k = 29807 := Int64.toInt_inj.mp (e.trans (by decide)); exact rv_TO h
  · obtain rfl : k = 7497062 := Int64.toInt_inj.mp (e.trans (by decide)); exact rv_REF h
  · obtain rfl : k = 1650811246 := Int64.toInt_inj.mp (e.trans (by decide)); exact rv_BEAN h
theorem ty_t {q : At7} {k : Int64} {r : Int32} {n : Nat} (hr : WKR r (nv7 q k)) (h0 : 0 ≤ r.toInt) (hn : r.toInt = (n : Int)) (h1 : 29 ≤ n) (h2 : n ≤ 33) : ty7 q k := by
  rcases hr with ⟨a1, a2, a3⟩ | ⟨a1, a2⟩
  · have e : r.toNatClampNeg = n := by show r.toInt.toNat = n; omega
    rw [e] at a3
    unfold ty7
    rcases (show n = 29 ∨ n = 30 ∨ n = 31 ∨ n = 32 ∨ n = 33 by omega) with rfl | rfl | rfl | rfl | rfl
    · exact Or.inr (Or.inl a3.symm)
    · exact Or.inr (Or.inr (Or.inl a3.symm))
    · exact Or.inr (Or.inr (Or.inr (Or.inl a3.symm)))
    · exact Or.inr (Or.inr (Or.inr (Or.inr (Or.inl a3.symm))))
    · exact Or.inr (Or.inr (Or.inr (Or.inr (Or.inr a3.symm))))
  · omega
theorem ty_f {q : At7} {k : Int64} {r : Int32} (hr : WKR r (nv7 q k)) (hc : cv7 q k = -1) (hn : ¬ (29 ≤ r.toInt ∧ r.toInt ≤ 33)) : ¬ ty7 q k := by
  have key : ∀ j, j < 34 → 29 ≤ j → (∀ a, a < 34 → wKy.getD a 0 = wKy.getD j 0 → a = j) → ¬ nv7 q k = wKy.getD j 0 := by
    intro j hj h29 inj e
    rcases hr with ⟨a1, a2, a3⟩ | ⟨a1, a2⟩
    · have := inj r.toNatClampNeg (by show r.toInt.toNat < 34; omega) (a3.trans e)
      have q : r.toNatClampNeg = r.toInt.toNat := rfl
      omega
    · exact a2 j hj e.symm
  intro w
  unfold ty7 at w
  rcases w with w | w | w | w | w | w
  · omega
  · exact key 29 (by decide) (by decide) (by decide) w
  · exact key 30 (by decide) (by decide) (by decide) w
  · exact key 31 (by decide) (by decide) (by decide) w
  · exact key 32 (by decide) (by decide) (by decide) w
  · exact key 33 (by decide) (by decide) (by decide) w
end
section
set_option maxHeartbeats 4000000 in
set_option maxRecDepth 100000 in
theorem d_isIn2 (l : Launch) (dC : Nat → ClassId) (dI : Nat → Nat → Nat) (ad : Nat → Nat → Nat) (cid : Nat → ClassId) (a2 : Nat → Nat) (lx : List Nat) (sg : Nat → Int32) (gm : Nat → Nat → Int32) (lg : Nat → Nat → Int64) (x : Int32) (a : Int32) (hI : CI sg gm) (hvx : iv 0 79 x) (hva : iv (-1) 33 a) : CMt dC dI ad cid a2 lx l yX3_isIn wm_X3_isIn ({ frames := 0, cells := 1, slots := 6, locals := 0 }) [eV (ad 9) x, eV (ad 33) a] sg gm lg (fun v u => ∃ r : Int32, v = some (.int r) ∧ u = (sg, gm, lg) ∧ (iv 0 1 r) ∧ ((r.toInt = 1 ∧ (ISI gm x.toNatClampNeg a)) ∨ (r.toInt = 0 ∧ ¬ (ISI gm x.toNatClampNeg a)))) (fun _ _ => False) := by
  intro sz
  refine vx_ofW (cc := cX3_isIn) (maxL := 2) (ret := (some .boolean)) (by decide) rfl ?_
  intro p e s m args below meth c s₁ B hml hxt hv
  obtain ⟨rfl, hsz, hP, hK, hD0, hG⟩ := hv
  have hx := B.exec
  have hb := B.bytes
  have hr := B.returns
  have hts := atoms_spec (ws := wm_X3_isIn) B.pre
  have htb := fun (w : Cond) (h : w ∈ tb) => hts w (List.mem_cons_of_mem _ h)
  have hown : s.vm.findClass RX3 = some m.cls := findClass_of_methodNamed B.named
  have hlocks := B.notSynchronized
  subst hsz
  have hD := hD0.self (sz := s.heap.size)
  generalize hAe : va_A (cW ad cid a2 lx sg gm lg) s.heap.size = A at hD hG ⊢
  have hA : ∀ q : Nat, s.heap.size ≤ q → A q := fun q h => by rw [← hAe]; exact Or.inr h
  have hS : va_S A s.heap s.heap [] := va_S.rf
  have hl := lv_entry ([eV (ad 9) x, eV (ad 33) a]) (n := 2) (by rw [show (lg_sl ([eV (ad 9) x, eV (ad 33) a])).length = 2 from by simp [lg_sl, eV_cat, cat_i, cat_l]]; exact Nat.le_of_ble_eq_true rfl)
  rw [lg_entry_eq]
  generalize (lg_sl ([eV (ad 9) x, eV (ad 33) a]) ++ List.replicate (2 - (lg_sl ([eV (ad 9) x, eV (ad 33) a])).length) Slot.unset).toArray = ls at hl ⊢
  have hl : lv_has ls 2 [(0, eV (ad 9) x), (1, eV (ad 33) a)] := by simp [lv_args, eV_cat, cat_i, cat_l] at hl; exact hl
  have hj23 : ∀ (y0_23 : Int32) (_ : iv 0 79 x) (_ : iv (-1) 33 a) (_ : iv 0 1 y0_23) (_ : (y0_23.toInt = 1 ∧ (ISI gm x.toNatClampNeg a)) ∨ (y0_23.toInt = 0 ∧ ¬ (ISI gm x.toNatClampNeg a))) (H : Heap) (locs : List Loc) (ls : Array Slot), va_P (dC, dI) vwCl (cW ad cid a2 lx sg gm lg) H → va_D A (cW ad cid a2 lx sg gm lg) → va_S A s.heap H locs → lv_has ls 2 [(0, eV (ad 9) x), (1, eV (ad 33) a)] → W p l e (headSpec wm_X3_isIn ({ frames := 0, cells := 1, slots := 6, locals := 0 })).room s m ([eV (ad 9) x, eV (ad 33) a] : List Value).toArray below meth c H locs 0 0 (vx_MQ below (cQx dC dI ad cid a2 lx (fun v u => ∃ r : Int32, v = some (.int r) ∧ u = (sg, gm, lg) ∧ (iv 0 1 r) ∧ ((r.toInt = 1 ∧ (ISI gm x.toNatClampNeg a)) ∨ (r.toInt = 0 ∧ ¬ (ISI gm x.toNatClampNeg a)))) A) (cX dC dI ad cid a2 lx (fun _ _ => False) A) ([eV (ad 9) x, eV (ad 33) a] : List Value).toArray s 1 6 A) (F0 m 23 ls [.int y0_23]) := by
    intro y0_23 hsx0_23 hsx1_23 hy0_23 u23 H locs ls hP hD hS hl
    exact W.nb (fun hN => W.widen (k := 1) (n := 6) (by decide) (by decide) (vx_ret (W.zret (v := y0_23) hx hb hr (iv_nb hy0_23) (fun t ht hW => ⟨⟨some (.int y0_23), (sg, gm, lg), rfl, ⟨y0_23, rfl, rfl, hy0_23, (u23)⟩, by rw [ht]; exact hP, va_K.moved hW.alike hK, hD⟩, hS.F ht, by rw [ht]; exact hN⟩) hS.2.2 dX3_isIn_23)))
  have hj22 : ∀ (_ : iv 0 79 x) (_ : iv (-1) 33 a) (_ : ¬ ISI gm x.toNatClampNeg a) (H : Heap) (locs : List Loc) (ls : Array Slot), va_P (dC, dI) vwCl (cW ad cid a2 lx sg gm lg) H → va_D A (cW ad cid a2 lx sg gm lg) → va_S A s.heap H locs → lv_has ls 2 [(0, eV (ad 9) x), (1, eV (ad 33) a)] → W p l e (headSpec wm_X3_isIn ({ frames := 0, cells := 1, slots := 6, locals := 0 })).room s m ([eV (ad 9) x, eV (ad 33) a] : List Value).toArray below meth c H locs 0 0 (vx_MQ below (cQx dC dI ad cid a2 lx (fun v u => ∃ r : Int32, v = some (.int r) ∧ u = (sg, gm, lg) ∧ (iv 0 1 r) ∧ ((r.toInt = 1 ∧ (ISI gm x.toNatClampNeg a)) ∨ (r.toInt = 0 ∧ ¬ (ISI gm x.toNatClampNeg a)))) A) (cX dC dI ad cid a2 lx (fun _ _ => False) A) ([eV (ad 9) x, eV (ad 33) a] : List Value).toArray s 1 6 A) (F0 m 22 ls []) := by
    intro  hsx0_22 hsx1_22 u22 H locs ls hP hD hS hl
    refine lv_iconst (v := 0) hx hb dX3_isIn_22 (by decide) ?_
    exact hj23 0 hsx0_22 hsx1_22 (iv_w (iv_k (by decide) : iv 0 0 0) (by decide)) (Or.inr ⟨rfl, u22⟩) _ _ _ hP hD hS (lv_sub hl [0, 1] rfl)
  refine ec_aload_n hx hb dX3_isIn_0 rfl (lv_at hl 0 rfl) ?_
  refine cr_get (t := 9) (j := 5) (C := RX3) (T := TX3) (N := 21) (v := eV (ad 9) (gm 15 x.toNatClampNeg)) hx hb htb inX3 hown hK hP hvx (by decide) (by decide) (by decide) rfl (by decide) (htb _ kw_385) rfl dX3_isIn_1 ?_
  obtain ⟨z_1, ez_1⟩ : ∃ z : Int32, z = (gm 15 x.toNatClampNeg) := ⟨_, rfl⟩
  refine W.eq (g2 := F0 m 4 ls [eV (ad 9) z_1]) (by rw [ez_1]) ?_
  have hz_1 : iv (-1) 79 z_1 := iv_of ez_1 (CI_a hI 15 hvx (by decide))
  refine ec_ifnull (tgt := 22) hx hb dX3_isIn_4 (by decide) (fun c_2 => ?_) (fun c_2 => ?_)
  · have h_3 : iv (-1) (-1) z_1 := ⟨(hz_1).1, by omega⟩
    exact hj22 hvx hva ((fun q9 => absurd q9.1 (by rw [← ez_1]; have := i32_0; have := i32_1; have := i32_2; have := i32_m1; have := (hvx).1; have := (hvx).2; have := (hva).1; have := (hva).2; have := (h_3).1; have := (h_3).2; omega))) _ _ _ hP hD hS (lv_sub hl [0, 1] rfl)
  · have h_4 : iv 0 79 z_1 := ⟨c_2, (hz_1).2⟩
    refine ec_aload_n hx hb dX3_isIn_7 rfl (lv_at hl 0 rfl) ?_
    refine cr_get (t := 9) (j := 5) (C := RX3) (T := TX3) (N := 21) (v := eV (ad 9) (gm 15 x.toNatClampNeg)) hx hb htb inX3 hown hK hP hvx (by decide) (by decide) (by decide) rfl (by decide) (htb _ kw_385) rfl dX3_isIn_8 ?_
    refine W.eq (g2 := F0 m 11 ls [eV (ad 9) z_1]) (by rw [show (gm 15 x.toNatClampNeg) = z_1 from ez_1.symm]) ?_
    refine cr_get (t := 9) (j := 4) (C := RX3) (T := TX3) (N := 21) (v := eV (ad 33) (gm 14 z_1.toNatClampNeg)) hx hb htb inX3 hown hK hP h_4 (by decide) (by decide) (by decide) rfl (by decide) (htb _ kw_384) rfl dX3_isIn_11 ?_
    obtain ⟨z_5, ez_5⟩ : ∃ z : Int32, z = (gm 14 z_1.toNatClampNeg) := ⟨_, rfl⟩
    refine W.eq (g2 := F0 m 14 ls [eV (ad 33) z_5]) (by rw [ez_5]) ?_
    have hz_5 : iv (-1) 33 z_5 := iv_of ez_5 (CI_a hI 14 h_4 (by decide))
    refine ec_aload_n hx hb dX3_isIn_14 rfl (lv_at hl 1 rfl) ?_
    refine ec_acmp_ne (tgt := 22) hx hb dX3_isIn_15 (by decide) (fun c_6 => ?_) (fun c_6 => ?_)
    · have wc_6 : ¬ z_5.toInt = a.toInt := fun q9 => c_6 (congrArg (er (ad 33)) (Int32.toInt_inj.mp q9))
      exact hj22 hvx hva ((fun q9 => wc_6 (by have q8 := q9.2; rw [← ez_1, ← ez_5] at q8; exact congrArg Int32.toInt q8))) _ _ _ hP hD hS (lv_sub hl [0, 1] rfl)
    · have wc_6 : z_5.toInt = a.toInt := er_wd hG hz_5 hva c_6
      refine lv_iconst (v := 1) hx hb dX3_isIn_18 (by decide) ?_
      refine lv_goto (tgt := 23) hx hb dX3_isIn_19 (by decide) ?_
      exact hj23 1 hvx hva (iv_w (iv_k (by decide) : iv 1 1 1) (by decide)) (Or.inl ⟨rfl, ⟨by rw [← ez_1]; exact (h_4).1, by rw [← ez_1, ← ez_5]; exact Int32.toInt_inj.mp wc_6⟩⟩) _ _ _ hP hD hS (lv_sub hl [0, 1] rfl)

set_option maxHeartbeats 4000000 in
set_option maxRecDepth 100000 in
theorem d_isHeld2 (l : Launch) (dC : Nat → ClassId) (dI : Nat → Nat → Nat) (ad : Nat → Nat → Nat) (cid : Nat → ClassId) (a2 : Nat → Nat) (lx : List Nat) (sg : Nat → Int32) (gm : Nat → Nat → Int32) (lg : Nat → Nat → Int64) (x : Int32) (o : Int32) (D : List El7) (hI : CI sg gm) (hvx : iv 0 0 x) (hvo : iv 0 79 o) (hEV : EV7 D sg gm lg o.toNatClampNeg) : CMt dC dI ad cid a2 lx l yX9_isHeld wm_X9_isHeld ({ frames := 1, cells := 1, slots := 6, locals := 21 }) [eV (ad 3) x, eV (ad 9) o] sg gm lg (fun v u => ∃ r : Int32, v = some (.int r) ∧ u = (sg, gm, lg) ∧ (iv 0 1 r) ∧ ((r.toInt = 1 ∧ (dIn D o.toNatClampNeg = 4 ∨ dIn D o.toNatClampNeg = 5 ∨ dIn D o.toNatClampNeg = 6)) ∨ (r.toInt = 0 ∧ ¬ (dIn D o.toNatClampNeg = 4 ∨ dIn D o.toNatClampNeg = 5 ∨ dIn D o.toNatClampNeg = 6)))) (fun _ _ => False) := by
  intro sz
  refine vx_ofW (cc := cX9_isHeld) (maxL := 2) (ret := (some .boolean)) (by decide) rfl ?_
  intro p e s m args below meth c s₁ B hml hxt hv
  obtain ⟨rfl, hsz, hP, hK, hD0, hG⟩ := hv
  have hx := B.exec
  have hb := B.bytes
  have hr := B.returns
  have hts := atoms_spec (ws := wm_X9_isHeld) B.pre
  have htb := fun (w : Cond) (h : w ∈ tb) => hts w (List.mem_cons_of_mem _ h)
  have hown : s.vm.findClass RX9 = some m.cls := findClass_of_methodNamed B.named
  have hlocks := B.notSynchronized
  subst hsz
  have hD := hD0.self (sz := s.heap.size)
  generalize hAe : va_A (cW ad cid a2 lx sg gm lg) s.heap.size = A at hD hG ⊢
  have hA : ∀ q : Nat, s.heap.size ≤ q → A q := fun q h => by rw [← hAe]; exact Or.inr h
  have hS : va_S A s.heap s.heap [] := va_S.rf
  have hl := lv_entry ([eV (ad 3) x, eV (ad 9) o]) (n := 2) (by rw [show (lg_sl ([eV (ad 3) x, eV (ad 9) o])).length = 2 from by simp [lg_sl, eV_cat, cat_i, cat_l]]; exact Nat.le_of_ble_eq_true rfl)
  rw [lg_entry_eq]
  generalize (lg_sl ([eV (ad 3) x, eV (ad 9) o]) ++ List.replicate (2 - (lg_sl ([eV (ad 3) x, eV (ad 9) o])).length) Slot.unset).toArray = ls at hl ⊢
  have hl : lv_has ls 2 [(0, eV (ad 3) x), (1, eV (ad 9) o)] := by simp [lv_args, eV_cat, cat_i, cat_l] at hl; exact hl
  have hj35 : ∀ (y0_35 : Int32) (_ : iv 0 0 x) (_ : iv 0 79 o) (_ : iv 0 1 y0_35) (_ : (y0_35.toInt = 1 ∧ (dIn D o.toNatClampNeg = 4 ∨ dIn D o.toNatClampNeg = 5 ∨ dIn D o.toNatClampNeg = 6)) ∨ (y0_35.toInt = 0 ∧ ¬ (dIn D o.toNatClampNeg = 4 ∨ dIn D o.toNatClampNeg = 5 ∨ dIn D o.toNatClampNeg = 6))) (H : Heap) (locs : List Loc) (ls : Array Slot), va_P (dC, dI) vwCl (cW ad cid a2 lx sg gm lg) H → va_D A (cW ad cid a2 lx sg gm lg) → va_S A s.heap H locs → lv_has ls 2 [(0, eV (ad 3) x), (1, eV (ad 9) o)] → W p l e (headSpec wm_X9_isHeld ({ frames := 1, cells := 1, slots := 6, locals := 21 })).room s m ([eV (ad 3) x, eV (ad 9) o] : List Value).toArray below meth c H locs 0 0 (vx_MQ below (cQx dC dI ad cid a2 lx (fun v u => ∃ r : Int32, v = some (.int r) ∧ u = (sg, gm, lg) ∧ (iv 0 1 r) ∧ ((r.toInt = 1 ∧ (dIn D o.toNatClampNeg = 4 ∨ dIn D o.toNatClampNeg = 5 ∨ dIn D o.toNatClampNeg = 6)) ∨ (r.toInt = 0 ∧ ¬ (dIn D o.toNatClampNeg = 4 ∨ dIn D o.toNatClampNeg = 5 ∨ dIn D o.toNatClampNeg = 6)))) A) (cX dC dI ad cid a2 lx (fun _ _ => False) A) ([eV (ad 3) x, eV (ad 9) o] : List Value).toArray s 1 6 A) (F0 m 35 ls [.int y0_35]) := by
    intro y0_35 hsx0_35 hsx1_35 hy0_35 u35 H locs ls hP hD hS hl
    exact W.nb (fun hN => W.widen (k := 1) (n := 6) (by decide) (by decide) (vx_ret (W.zret (v := y0_35) hx hb hr (iv_nb hy0_35) (fun t ht hW => ⟨⟨some (.int y0_35), (sg, gm, lg), rfl, ⟨y0_35, rfl, rfl, hy0_35, (u35)⟩, by rw [ht]; exact hP, va_K.moved hW.alike hK, hD⟩, hS.F ht, by rw [ht]; exact hN⟩) hS.2.2 dX9_isHeld_35)))
  have hj30 : ∀ (_ : iv 0 0 x) (_ : iv 0 79 o) (_ : dIn D o.toNatClampNeg = 4 ∨ dIn D o.toNatClampNeg = 5 ∨ dIn D o.toNatClampNeg = 6) (H : Heap) (locs : List Loc) (ls : Array Slot), va_P (dC, dI) vwCl (cW ad cid a2 lx sg gm lg) H → va_D A (cW ad cid a2 lx sg gm lg) → va_S A s.heap H locs → lv_has ls 2 [(0, eV (ad 3) x), (1, eV (ad 9) o)] → W p l e (headSpec wm_X9_isHeld ({ frames := 1, cells := 1, slots := 6, locals := 21 })).room s m ([eV (ad 3) x, eV (ad 9) o] : List Value).toArray below meth c H locs 0 0 (vx_MQ below (cQx dC dI ad cid a2 lx (fun v u => ∃ r : Int32, v = some (.int r) ∧ u = (sg, gm, lg) ∧ (iv 0 1 r) ∧ ((r.toInt = 1 ∧ (dIn D o.toNatClampNeg = 4 ∨ dIn D o.toNatClampNeg = 5 ∨ dIn D o.toNatClampNeg = 6)) ∨ (r.toInt = 0 ∧ ¬ (dIn D o.toNatClampNeg = 4 ∨ dIn D o.toNatClampNeg = 5 ∨ dIn D o.toNatClampNeg = 6)))) A) (cX dC dI ad cid a2 lx (fun _ _ => False) A) ([eV (ad 3) x, eV (ad 9) o] : List Value).toArray s 1 6 A) (F0 m 30 ls []) := by
    intro  hsx0_30 hsx1_30 u30 H locs ls hP hD hS hl
    refine lv_iconst (v := 1) hx hb dX9_isHeld_30 (by decide) ?_
    refine lv_goto (tgt := 35) hx hb dX9_isHeld_31 (by decide) ?_
    exact hj35 1 hsx0_30 hsx1_30 (iv_w (iv_k (by decide) : iv 1 1 1) (by decide)) (Or.inl ⟨rfl, u30⟩) _ _ _ hP hD hS (lv_sub hl [0, 1] rfl)
  refine ec_aload_n hx hb dX9_isHeld_0 rfl (lv_at hl 1 rfl) ?_
  refine cw_word (k := 3) (kx := 3) hx hb hG hS (by decide) rfl ⟨by decide, by decide⟩ hown (htb _ kw_518) dX9_isHeld_1 ?_
  refine cm_callV (t := 9) (C := RX3) (T := TX3) (N := 21) (rest := []) (as := [eV (ad 33) 3]) ⟨hx, hb, hml, hown, htb⟩ (d_isIn2 l dC dI ad cid a2 lx sg gm lg o 3 hI hvo (iv_w (iv_k (by decide) : iv 3 3 3) (by decide))) (cwV 1 htb (gd_V kw_526 kw_527 kw_528 kw_66 kw_1462) rfl rfl rfl (by decide +kernel) ⟨Nat.le_of_ble_eq_true rfl, Nat.le_of_ble_eq_true rfl⟩) hvo (by decide) (by decide) rfl rfl hl.1 rfl (Nat.le_trans cs_n (by decide)) dX9_isHeld_4 ⟨Nat.le_of_ble_eq_true rfl, Nat.le_of_ble_eq_true rfl⟩ hK hP hD hS hA hG (fun E ce q9 u_2 H locs hw hP hD hS hce hcv hcl => ?_) (fun v9 u_2 H locs hw hP hD hS => ?_)
  · exact hw.elim
  obtain ⟨r_1, rfl, rfl, hr_1, fI_r_1⟩ := hw
  have hP : va_P (dC, dI) vwCl (cW ad cid a2 lx sg gm lg) H := hP
  have hD : va_D A (cW ad cid a2 lx sg gm lg) := hD
  refine W.eq (g2 := F0 m 7 ls [.int r_1]) rfl ?_
  have gI_r_1 : (r_1.toInt = 1 ∧ dIn D o.toNatClampNeg = 4) ∨ (r_1.toInt = 0 ∧ ¬ dIn D o.toNatClampNeg = 4) := by rw [← ISI_d hEV (a := 3) (K := 4) (by unfold KW7; decide) (by decide)]; exact fI_r_1
  refine lv_if_ne (tgt := 30) hx hb dX9_isHeld_7 (by decide) (fun c_4 => ?_) (fun c_4 => ?_)
  · have h_5 : iv 1 1 r_1 := iv_neL c_4 hr_1 (by decide)
    exact hj30 hvx hvo (by have := i32_0; have := i32_1; have := i32_2; have := i32_m1; have := (hvx).1; have := (hvx).2; have := (hvo).1; have := (hvo).2; have := (h_5).1; have := (h_5).2; omega) _ _ _ hP hD hS (lv_sub hl [0, 1] rfl)
  · have h_6 : iv 0 0 r_1 := iv_eq c_4 hr_1 (iv_k (by decide) : iv 0 0 0) (by decide)
    refine ec_aload_n hx hb dX9_isHeld_10 rfl (lv_at hl 1 rfl) ?_
    refine cw_word (k := 4) (kx := 4) hx hb hG hS (by decide) rfl ⟨by decide, by decide⟩ hown (htb _ kw_519) dX9_isHeld_11 ?_
    refine cm_callV (t := 9) (C := RX3) (T := TX3) (N := 21) (rest := []) (as := [eV (ad 33) 4]) ⟨hx, hb, hml, hown, htb⟩ (d_isIn2 l dC dI ad cid a2 lx sg gm lg o 4 hI hvo (iv_w (iv_k (by decide) : iv 4 4 4) (by decide))) (cwV 1 htb (gd_V kw_526 kw_527 kw_528 kw_66 kw_1462) rfl rfl rfl (by decide +kernel) ⟨Nat.le_of_ble_eq_true rfl, Nat.le_of_ble_eq_true rfl⟩) hvo (by decide) (by decide) rfl rfl hl.1 rfl (Nat.le_trans cs_n (by decide)) dX9_isHeld_14 ⟨Nat.le_of_ble_eq_true rfl, Nat.le_of_ble_eq_true rfl⟩ hK hP hD hS hA hG (fun E ce q9 u_8 H locs hw hP hD hS hce hcv hcl => ?_) (fun v9 u_8 H locs hw hP hD hS => ?_)
    · exact hw.elim
    obtain ⟨r_7, rfl, rfl, hr_7, fI_r_7⟩ := hw
    have hP : va_P (dC, dI) vwCl (cW ad cid a2 lx sg gm lg) H := hP
    have hD : va_D A (cW ad cid a2 lx sg gm lg) := hD
    refine W.eq (g2 := F0 m 17 ls [.int r_7]) rfl ?_
    have gI_r_7 : (r_7.toInt = 1 ∧ dIn D o.toNatClampNeg = 5) ∨ (r_7.toInt = 0 ∧ ¬ dIn D o.toNatClampNeg = 5) := by rw [← ISI_d hEV (a := 4) (K := 5) (by unfold KW7; decide) (by decide)]; exact fI_r_7
    refine lv_if_ne (tgt := 30) hx hb dX9_isHeld_17 (by decide) (fun c_10 => ?_) (fun c_10 => ?_)
    · have h_11 : iv 1 1 r_7 := iv_neL c_10 hr_7 (by decide)
      exact hj30 hvx hvo (by have := i32_0; have := i32_1; have := i32_2; have := i32_m1; have := (hvx).1; have := (hvx).2; have := (hvo).1; have := (hvo).2; have := (h_6).1; have := (h_6).2; have := (h_11).1; have := (h_11).2; omega) _ _ _ hP hD hS (lv_sub hl [0, 1] rfl)
    · have h_12 : iv 0 0 r_7 := iv_eq c_10 hr_7 (iv_k (by decide) : iv 0 0 0) (by decide)
      refine ec_aload_n hx hb dX9_isHeld_20 rfl (lv_at hl 1 rfl) ?_
      refine cw_word (k := 6) (kx := 6) hx hb hG hS (by decide) rfl ⟨by decide, by decide⟩ hown (htb _ kw_532) dX9_isHeld_21 ?_
      refine cm_callV (t := 9) (C := RX3) (T := TX3) (N := 21) (rest := []) (as := [eV (ad 33) 6]) ⟨hx, hb, hml, hown, htb⟩ (d_isIn2 l dC dI ad cid a2 lx sg gm lg o 6 hI hvo (iv_w (iv_k (by decide) : iv 6 6 6) (by decide))) (cwV 1 htb (gd_V kw_526 kw_527 kw_528 kw_66 kw_1462) rfl rfl rfl (by decide +kernel) ⟨Nat.le_of_ble_eq_true rfl, Nat.le_of_ble_eq_true rfl⟩) hvo (by decide) (by decide) rfl rfl hl.1 rfl (Nat.le_trans cs_n (by decide)) dX9_isHeld_24 ⟨Nat.le_of_ble_eq_true rfl, Nat.le_of_ble_eq_true rfl⟩ hK hP hD hS hA hG (fun E ce q9 u_14 H locs hw hP hD hS hce hcv hcl => ?_) (fun v9 u_14 H locs hw hP hD hS => ?_)
      · exact hw.elim
      obtain ⟨r_13, rfl, rfl, hr_13, fI_r_13⟩ := hw
      have hP : va_P (dC, dI) vwCl (cW ad cid a2 lx sg gm lg) H := hP
      have hD : va_D A (cW ad cid a2 lx sg gm lg) := hD
      refine W.eq (g2 := F0 m 27 ls [.int r_13]) rfl ?_
      have gI_r_13 : (r_13.toInt = 1 ∧ dIn D o.toNatClampNeg = 6) ∨ (r_13.toInt = 0 ∧ ¬ dIn D o.toNatClampNeg = 6) := by rw [← ISI_d hEV (a := 6) (K := 6) (by unfold KW7; decide) (by decide)]; exact fI_r_13
      refine lv_if_eq (tgt := 34) hx hb dX9_isHeld_27 (by decide) (fun c_16 => ?_) (fun c_16 => ?_)
      · have h_17 : iv 0 0 r_13 := iv_eq c_16 hr_13 (iv_k (by decide) : iv 0 0 0) (by decide)
        refine lv_iconst (v := 0) hx hb dX9_isHeld_34 (by decide) ?_
        exact hj35 0 hvx hvo (iv_w (iv_k (by decide) : iv 0 0 0) (by decide)) (Or.inr ⟨rfl, by have := i32_0; have := i32_1; have := i32_2; have := i32_m1; have := (hvx).1; have := (hvx).2; have := (hvo).1; have := (hvo).2; have := (h_6).1; have := (h_6).2; have := (h_12).1; have := (h_12).2; have := (h_17).1; have := (h_17).2; omega⟩) _ _ _ hP hD hS (lv_sub hl [0, 1] rfl)
      · have h_18 : iv 1 1 r_13 := iv_neL c_16 hr_13 (by decide)
        exact hj30 hvx hvo (by have := i32_0; have := i32_1; have := i32_2; have := i32_m1; have := (hvx).1; have := (hvx).2; have := (hvo).1; have := (hvo).2; have := (h_6).1; have := (h_6).2; have := (h_12).1; have := (h_12).2; have := (h_18).1; have := (h_18).2; omega) _ _ _ hP hD hS (lv_sub hl [0, 1] rfl)

set_option maxHeartbeats 4000000 in
set_option maxRecDepth 100000 in
theorem d_valueIs2 (l : Launch) (dC : Nat → ClassId) (dI : Nat → Nat → Nat) (ad : Nat → Nat → Nat) (cid : Nat → ClassId) (a2 : Nat → Nat) (lx : List Nat) (sg : Nat → Int32) (gm : Nat → Nat → Int32) (lg : Nat → Nat → Int64) (x : Int32) (o : Int32) (w : Int32) (w2 : Int32) (A7 : At7) (hI : CI sg gm) (hvx : iv 0 0 x) (hvo : iv 0 79 o) (hvw : iv 0 33 w) (hvw2 : iv 0 33 w2) (hFA : FA sg gm) (how : o.toInt < (sg 4).toInt) (hVS : VS sg gm) (hat : ATC A7 gm lg o.toNatClampNeg (sg 5).toInt (sg 6).toInt) : CMt dC dI ad cid a2 lx l yX6_valueIs wm_X6_valueIs ({ frames := 2, cells := 1, slots := 6, locals := 51 }) [eV (ad 1) x, eV (ad 9) o, eV (ad 33) w, eV (ad 33) w2] sg gm lg (fun v u => ∃ r : Int32, v = some (.int r) ∧ u = (sg, gm, lg) ∧ (iv 0 1 r) ∧ ((r.toInt = 1 ∧ (nv7 A7 (wKy.getD w.toNatClampNeg 0) = (wKy.getD w2.toNatClampNeg 0))) ∨ (r.toInt = 0 ∧ ¬ (nv7 A7 (wKy.getD w.toNatClampNeg 0) = (wKy.getD w2.toNatClampNeg 0))))) (fun _ _ => False) := by
  intro sz
  refine vx_ofW (cc := cX6_valueIs) (maxL := 4) (ret := (some .boolean)) (by decide) rfl ?_
  intro p e s m args below meth c s₁ B hml hxt hv
  obtain ⟨rfl, hsz, hP, hK, hD0, hG⟩ := hv
  have hx := B.exec
  have hb := B.bytes
  have hr := B.returns
  have hts := atoms_spec (ws := wm_X6_valueIs) B.pre
  have htb := fun (w : Cond) (h : w ∈ tb) => hts w (List.mem_cons_of_mem _ h)
  have hown : s.vm.findClass RX6 = some m.cls := findClass_of_methodNamed B.named
  have hlocks := B.notSynchronized
  subst hsz
  have hD := hD0.self (sz := s.heap.size)
  generalize hAe : va_A (cW ad cid a2 lx sg gm lg) s.heap.size = A at hD hG ⊢
  have hA : ∀ q : Nat, s.heap.size ≤ q → A q := fun q h => by rw [← hAe]; exact Or.inr h
  have hS : va_S A s.heap s.heap [] := va_S.rf
  have hl := lv_entry ([eV (ad 1) x, eV (ad 9) o, eV (ad 33) w, eV (ad 33) w2]) (n := 4) (by rw [show (lg_sl ([eV (ad 1) x, eV (ad 9) o, eV (ad 33) w, eV (ad 33) w2])).length = 4 from by simp [lg_sl, eV_cat, cat_i, cat_l]]; exact Nat.le_of_ble_eq_true rfl)
  rw [lg_entry_eq]
  generalize (lg_sl ([eV (ad 1) x, eV (ad 9) o, eV (ad 33) w, eV (ad 33) w2]) ++ List.replicate (4 - (lg_sl ([eV (ad 1) x, eV (ad 9) o, eV (ad 33) w, eV (ad 33) w2])).length) Slot.unset).toArray = ls at hl ⊢
  have hl : lv_has ls 4 [(0, eV (ad 1) x), (1, eV (ad 9) o), (2, eV (ad 33) w), (3, eV (ad 33) w2)] := by simp [lv_args, eV_cat, cat_i, cat_l] at hl; exact hl
  have hj19 : ∀ (y0_19 : Int32) (_ : iv 0 0 x) (_ : iv 0 79 o) (_ : iv 0 33 w) (_ : iv 0 33 w2) (_ : iv 0 1 y0_19) (_ : (y0_19.toInt = 1 ∧ (nv7 A7 (wKy.getD w.toNatClampNeg 0) = (wKy.getD w2.toNatClampNeg 0))) ∨ (y0_19.toInt = 0 ∧ ¬ (nv7 A7 (wKy.getD w.toNatClampNeg 0) = (wKy.getD w2.toNatClampNeg 0)))) (H : Heap) (locs : List Loc) (ls : Array Slot), va_P (dC, dI) vwCl (cW ad cid a2 lx sg gm lg) H → va_D A (cW ad cid a2 lx sg gm lg) → va_S A s.heap H locs → lv_has ls 4 [(0, eV (ad 1) x), (1, eV (ad 9) o), (2, eV (ad 33) w), (3, eV (ad 33) w2)] → W p l e (headSpec wm_X6_valueIs ({ frames := 2, cells := 1, slots := 6, locals := 51 })).room s m ([eV (ad 1) x, eV (ad 9) o, eV (ad 33) w, eV (ad 33) w2] : List Value).toArray below meth c H locs 0 0 (vx_MQ below (cQx dC dI ad cid a2 lx (fun v u => ∃ r : Int32, v = some (.int r) ∧ u = (sg, gm, lg) ∧ (iv 0 1 r) ∧ ((r.toInt = 1 ∧ (nv7 A7 (wKy.getD w.toNatClampNeg 0) = (wKy.getD w2.toNatClampNeg 0))) ∨ (r.toInt = 0 ∧ ¬ (nv7 A7 (wKy.getD w.toNatClampNeg 0) = (wKy.getD w2.toNatClampNeg 0))))) A) (cX dC dI ad cid a2 lx (fun _ _ => False) A) ([eV (ad 1) x, eV (ad 9) o, eV (ad 33) w, eV (ad 33) w2] : List Value).toArray s 1 6 A) (F0 m 19 ls [.int y0_19]) := by
    intro y0_19 hsx0_19 hsx1_19 hsx2_19 hsx3_19 hy0_19 u19 H locs ls hP hD hS hl
    exact W.nb (fun hN => W.widen (k := 1) (n := 6) (by decide) (by decide) (vx_ret (W.zret (v := y0_19) hx hb hr (iv_nb hy0_19) (fun t ht hW => ⟨⟨some (.int y0_19), (sg, gm, lg), rfl, ⟨y0_19, rfl, rfl, hy0_19, (u19)⟩, by rw [ht]; exact hP, va_K.moved hW.alike hK, hD⟩, hS.F ht, by rw [ht]; exact hN⟩) hS.2.2 dX6_valueIs_19)))
  refine ec_aload_n hx hb dX6_valueIs_0 rfl (lv_at hl 0 rfl) ?_
  refine ec_aload_n hx hb dX6_valueIs_1 rfl (lv_at hl 1 rfl) ?_
  refine ec_aload_n hx hb dX6_valueIs_2 rfl (lv_at hl 2 rfl) ?_
  refine cm_callV (t := 1) (C := RX6) (T := TX6) (N := 8) (rest := []) (as := [eV (ad 9) o, eV (ad 33) w]) ⟨hx, hb, hml, hown, htb⟩ (d_nameValue3 l dC dI ad cid a2 lx sg gm lg x o w A7 hI hvx hvo hvw hFA how hVS hat) (cwV 2 htb (gd_V kw_591 kw_583 kw_584 kw_20 kw_1475) rfl rfl rfl (by decide +kernel) ⟨Nat.le_of_ble_eq_true rfl, Nat.le_of_ble_eq_true rfl⟩) hvx (by decide) (by decide) rfl rfl hl.1 rfl (Nat.le_trans cs_n (by decide)) dX6_valueIs_3 ⟨Nat.le_of_ble_eq_true rfl, Nat.le_of_ble_eq_true rfl⟩ hK hP hD hS hA hG (fun E ce q9 u_2 H locs hw hP hD hS hce hcv hcl => ?_) (fun v9 u_2 H locs hw hP hD hS => ?_)
  · exact hw.elim
  obtain ⟨r_1, rfl, rfl, fN_r_1, fZ_r_1⟩ := hw
  have hP : va_P (dC, dI) vwCl (cW ad cid a2 lx sg gm lg) H := hP
  have hD : va_D A (cW ad cid a2 lx sg gm lg) := hD
  refine W.eq (g2 := F0 m 6 ls [.long r_1]) rfl ?_
  refine ec_aload_n hx hb dX6_valueIs_6 rfl (lv_at hl 3 rfl) ?_
  refine cw_key hx hb hG hS hvw2 hown (htb _ kw_548) dX6_valueIs_7 ?_
  refine lv_topl (fun z_4 ez_4 => ?_)
  refine W.lcmp hx hb dX6_valueIs_10 ?_
  refine lv_topi (fun z_5 ez_5 => ?_)
  have hz_5 : iv (-1) 1 z_5 := iv_of ez_5 (iv_cmp _ _)
  refine lv_if_ne (tgt := 18) hx hb dX6_valueIs_11 (by decide) (fun c_6 => ?_) (fun c_6 => ?_)
  · have d_7 : ¬ (z_5 : Int32).toInt = 0 := lv_neT c_6 rfl
    refine lv_iconst (v := 0) hx hb dX6_valueIs_18 (by decide) ?_
    exact hj19 0 hvx hvo hvw hvw2 (iv_w (iv_k (by decide) : iv 0 0 0) (by decide)) (Or.inr ⟨rfl, (fun q9 => c_6 (by rw [ez_5, ez_4, fN_r_1, q9]; exact (lg_cmp_eq _ _).mpr rfl))⟩) _ _ _ hP hD hS (lv_sub hl [0, 1, 2, 3] rfl)
  · have h_8 : iv 0 0 z_5 := iv_eq c_6 hz_5 (iv_k (by decide) : iv 0 0 0) (by decide)
    refine lv_iconst (v := 1) hx hb dX6_valueIs_14 (by decide) ?_
    refine lv_goto (tgt := 19) hx hb dX6_valueIs_15 (by decide) ?_
    exact hj19 1 hvx hvo hvw hvw2 (iv_w (iv_k (by decide) : iv 1 1 1) (by decide)) (Or.inl ⟨rfl, (by rw [← fN_r_1, ← ez_4]; exact (lg_cmp_eq _ _).mp (by rw [← ez_5]; exact c_6))⟩) _ _ _ hP hD hS (lv_sub hl [0, 1, 2, 3] rfl)

set_option maxHeartbeats 4000000 in
set_option maxRecDepth 100000 in
theorem d_typeValue2 (l : Launch) (dC : Nat → ClassId) (dI : Nat → Nat → Nat) (ad : Nat → Nat → Nat) (cid : Nat → ClassId) (a2 : Nat → Nat) (lx : List Nat) (sg : Nat → Int32) (gm : Nat → Nat → Int32) (lg : Nat → Nat → Int64) (x : Int32) (o : Int32) (w : Int32) (A7 : At7) (hI : CI sg gm) (hvx : iv 0 0 x) (hvo : iv 0 79 o) (hvw : iv 0 33 w) (hFA : FA sg gm) (how : o.toInt < (sg 4).toInt) (hVS : VS sg gm) (hat : ATC A7 gm lg o.toNatClampNeg (sg 5).toInt (sg 6).toInt) : CMt dC dI ad cid a2 lx l yX6_typeValue wm_X6_typeValue ({ frames := 2, cells := 1, slots := 6, locals := 51 }) [eV (ad 1) x, eV (ad 9) o, eV (ad 33) w] sg gm lg (fun v u => ∃ r : Int32, v = some (.int r) ∧ u = (sg, gm, lg) ∧ (iv (-1) 15 r) ∧ ((0 ≤ r.toInt ∧ ty7 A7 (wKy.getD w.toNatClampNeg 0)) ∨ (r.toInt = -1 ∧ ¬ ty7 A7 (wKy.getD w.toNatClampNeg 0)))) (fun _ _ => False) := by
  intro sz
  refine vx_ofW (cc := cX6_typeValue) (maxL := 5) (ret := (some .int)) (by decide) rfl ?_
  intro p e s m args below meth c s₁ B hml hxt hv
  obtain ⟨rfl, hsz, hP, hK, hD0, hG⟩ := hv
  have hx := B.exec
  have hb := B.bytes
  have hr := B.returns
  have hts := atoms_spec (ws := wm_X6_typeValue) B.pre
  have htb := fun (w : Cond) (h : w ∈ tb) => hts w (List.mem_cons_of_mem _ h)
  have hown : s.vm.findClass RX6 = some m.cls := findClass_of_methodNamed B.named
  have hlocks := B.notSynchronized
  subst hsz
  have hD := hD0.self (sz := s.heap.size)
  generalize hAe : va_A (cW ad cid a2 lx sg gm lg) s.heap.size = A at hD hG ⊢
  have hA : ∀ q : Nat, s.heap.size ≤ q → A q := fun q h => by rw [← hAe]; exact Or.inr h
  have hS : va_S A s.heap s.heap [] := va_S.rf
  have hl := lv_entry ([eV (ad 1) x, eV (ad 9) o, eV (ad 33) w]) (n := 5) (by rw [show (lg_sl ([eV (ad 1) x, eV (ad 9) o, eV (ad 33) w])).length = 3 from by simp [lg_sl, eV_cat, cat_i, cat_l]]; exact Nat.le_of_ble_eq_true rfl)
  rw [lg_entry_eq]
  generalize (lg_sl ([eV (ad 1) x, eV (ad 9) o, eV (ad 33) w]) ++ List.replicate (5 - (lg_sl ([eV (ad 1) x, eV (ad 9) o, eV (ad 33) w])).length) Slot.unset).toArray = ls at hl ⊢
  have hl : lv_has ls 5 [(0, eV (ad 1) x), (1, eV (ad 9) o), (2, eV (ad 33) w)] := by simp [lv_args, eV_cat, cat_i, cat_l] at hl; exact hl
  refine ec_aload_n hx hb dX6_typeValue_0 rfl (lv_at hl 0 rfl) ?_
  refine ec_aload_n hx hb dX6_typeValue_1 rfl (lv_at hl 1 rfl) ?_
  refine ec_aload_n hx hb dX6_typeValue_2 rfl (lv_at hl 2 rfl) ?_
  refine cm_callV (t := 1) (C := RX6) (T := TX6) (N := 8) (rest := []) (as := [eV (ad 9) o, eV (ad 33) w]) ⟨hx, hb, hml, hown, htb⟩ (d_classValue2 l dC dI ad cid a2 lx sg gm lg x o w A7 hI hvx hvo hvw hFA how hVS hat) (cwV 2 htb (gd_V kw_599 kw_586 kw_587 kw_20 kw_1476) rfl rfl rfl (by decide +kernel) ⟨Nat.le_of_ble_eq_true rfl, Nat.le_of_ble_eq_true rfl⟩) hvx (by decide) (by decide) rfl rfl hl.1 rfl (Nat.le_trans cs_n (by decide)) dX6_typeValue_3 ⟨Nat.le_of_ble_eq_true rfl, Nat.le_of_ble_eq_true rfl⟩ hK hP hD hS hA hG (fun E ce q9 u_2 H locs hw hP hD hS hce hcv hcl => ?_) (fun v9 u_2 H locs hw hP hD hS => ?_)
  · exact hw.elim
  obtain ⟨r_1, rfl, rfl, hr_1, fK_r_1⟩ := hw
  have hP : va_P (dC, dI) vwCl (cW ad cid a2 lx sg gm lg) H := hP
  have hD : va_D A (cW ad cid a2 lx sg gm lg) := hD
  refine W.eq (g2 := F0 m 6 ls [.int r_1]) rfl ?_
  refine lv_istore_n (i := 3) (lv' := [(3, .int r_1), (0, eV (ad 1) x), (1, eV (ad 9) o), (2, eV (ad 33) w)]) hx hb dX6_typeValue_6 rfl hl (by decide) (by simp [List.filter, eV_cat, cat_i, cat_l]) (fun ls hl => ?_)
  refine lv_iload_n hx hb dX6_typeValue_7 rfl (lv_at hl 0 rfl) ?_
  refine lv_iconst (v := (-1)) hx hb dX6_typeValue_8 (by decide) ?_
  refine lv_icmp_eq (tgt := 17) hx hb dX6_typeValue_9 (by decide) (fun c_4 => ?_) (fun c_4 => ?_)
  · have h_5 : iv (-1) (-1) r_1 := iv_eq c_4 hr_1 (iv_k (by decide) : iv (-1) (-1) (-1)) (by decide)
    refine ec_aload_n hx hb dX6_typeValue_17 rfl (lv_at hl 1 rfl) ?_
    refine ec_aload_n hx hb dX6_typeValue_18 rfl (lv_at hl 2 rfl) ?_
    refine ec_aload_n hx hb dX6_typeValue_19 rfl (lv_at hl 3 rfl) ?_
    refine cm_callV (t := 1) (C := RX6) (T := TX6) (N := 8) (rest := []) (as := [eV (ad 9) o, eV (ad 33) w]) ⟨hx, hb, hml, hown, htb⟩ (d_nameValue3 l dC dI ad cid a2 lx sg gm lg x o w A7 hI hvx hvo hvw hFA how hVS hat) (cwV 2 htb (gd_V kw_591 kw_583 kw_584 kw_20 kw_1475) rfl rfl rfl (by decide +kernel) ⟨Nat.le_of_ble_eq_true rfl, Nat.le_of_ble_eq_true rfl⟩) hvx (by decide) (by decide) rfl rfl hl.1 rfl (Nat.le_trans cs_n (by decide)) dX6_typeValue_20 ⟨Nat.le_of_ble_eq_true rfl, Nat.le_of_ble_eq_true rfl⟩ hK hP hD hS hA hG (fun E ce q9 u_7 H locs hw hP hD hS hce hcv hcl => ?_) (fun v9 u_7 H locs hw hP hD hS => ?_)
    · exact hw.elim
    obtain ⟨r_6, rfl, rfl, fN_r_6, fZ_r_6⟩ := hw
    have hP : va_P (dC, dI) vwCl (cW ad cid a2 lx sg gm lg) H := hP
    have hD : va_D A (cW ad cid a2 lx sg gm lg) := hD
    refine W.eq (g2 := F0 m 23 ls [.long r_6]) rfl ?_
    refine cm_callS (rest := []) (as := [.long r_6]) ⟨hx, hb, hml, hown, htb⟩ (d_withKey2 l dC dI ad cid a2 lx sg gm lg r_6 hI) (va_cwS 1 htb (gd_S kw_563 kw_409 kw_410 kw_1431) rfl rfl rfl (by decide +kernel) ⟨Nat.le_of_ble_eq_true rfl, Nat.le_of_ble_eq_true rfl⟩)  rfl hl.1 rfl (Nat.le_trans cs_n (by decide)) dX6_typeValue_23 ⟨Nat.le_of_ble_eq_true rfl, Nat.le_of_ble_eq_true rfl⟩ hK hP hD hS hA hG (fun E ce q9 u_10 H locs hw hP hD hS hce hcv hcl => ?_) (fun v9 u_10 H locs hw hP hD hS => ?_)
    · exact hw.elim
    obtain ⟨r_9, rfl, rfl, hr_9, fW_r_9⟩ := hw
    have hP : va_P (dC, dI) vwCl (cW ad cid a2 lx sg gm lg) H := hP
    have hD : va_D A (cW ad cid a2 lx sg gm lg) := hD
    refine W.eq (g2 := F0 m 26 ls [eV (ad 33) r_9]) rfl ?_
    refine ec_astore (i := 4) (lv' := [(4, eV (ad 33) r_9), (3, .int r_1), (0, eV (ad 1) x), (1, eV (ad 9) o), (2, eV (ad 33) w)]) hx hb dX6_typeValue_26 hl (by decide) rfl (fun ls hl => ?_)
    refine ec_aload hx hb dX6_typeValue_28 (lv_at hl 0 rfl) ?_
    refine ec_ifnonnull (tgt := 35) hx hb dX6_typeValue_30 (by decide) (fun c_12 => ?_) (fun c_12 => ?_)
    · have h_13 : iv 0 33 r_9 := ⟨c_12, (hr_9).2⟩
      refine cw_sw hx hb hG hS hown (htb _ kw_598) dX6_typeValue_35 ?_
      refine ec_aload hx hb dX6_typeValue_38 (lv_at hl 0 rfl) ?_
      refine cw_ord ⟨hx, hb, hml, hown, htb⟩ kw_600 h_13 hl.1 (Nat.le_trans (cs_c (eV_cat _ _) cs_n) (by decide)) dX6_typeValue_40 ⟨Nat.le_of_ble_eq_true rfl, Nat.le_of_ble_eq_true rfl⟩ ⟨Nat.le_of_ble_eq_true rfl, Nat.le_of_ble_eq_true rfl⟩ hP hD hS hA hG (fun H locs hP hS => ?_)
      refine cw_swld (iv_k (by decide) : iv 0 0 0) hx hb hG hS h_13 dX6_typeValue_43 ?_
      refine lv_topi (fun z_14 ez_14 => ?_)
      have hz_14 : iv 0 29 z_14 := iv_of ez_14 (sw_iv r_9)
      by_cases c_15 : (z_14 : Int32).toInt = 1
      · refine lv_tableIn (tgt := 80) hx hb dX6_typeValue_44 (by rw [c_15]; decide) (by rw [c_15]; decide) (by rw [c_15]; rfl) (by decide) ?_
        have h_16 : iv 1 1 z_14 := iv_at c_15
        refine lv_iconst (v := 0) hx hb dX6_typeValue_80 (by decide) ?_
        exact W.nb (fun hN => W.widen (k := 1) (n := 6) (by decide) (by decide) (vx_ret (W.iret (v := 0) hx hb hr (fun t ht hW => ⟨⟨some (.int 0), (sg, gm, lg), rfl, ⟨0, rfl, rfl, (iv_w (iv_k (by decide) : iv 0 0 0) (by decide)), (Or.inl ⟨(by decide), ty_t (n := 29) (by have q9 := fW_r_9; rw [fN_r_6] at q9; exact q9) (by have := i32_0; have := i32_1; have := i32_2; have := i32_m1; have := (hvx).1; have := (hvx).2; have := (hvo).1; have := (hvo).2; have := (hvw).1; have := (hvw).2; have := (h_5).1; have := (h_5).2; have := (h_13).1; have := (h_13).2; have := (h_16).1; have := (h_16).2; omega) (swy 29 1 (by decide) (h_13) ez_14 c_15) (by decide) (by decide)⟩)⟩, by rw [ht]; exact hP, va_K.moved hW.alike hK, hD⟩, hS.F ht, by rw [ht]; exact hN⟩) hS.2.2 dX6_typeValue_81)))
      by_cases c_17 : (z_14 : Int32).toInt = 2
      · refine lv_tableIn (tgt := 82) hx hb dX6_typeValue_44 (by rw [c_17]; decide) (by rw [c_17]; decide) (by rw [c_17]; rfl) (by decide) ?_
        have h_18 : iv 2 2 z_14 := iv_at c_17
        refine lv_iconst (v := 1) hx hb dX6_typeValue_82 (by decide) ?_
        exact W.nb (fun hN => W.widen (k := 1) (n := 6) (by decide) (by decide) (vx_ret (W.iret (v := 1) hx hb hr (fun t ht hW => ⟨⟨some (.int 1), (sg, gm, lg), rfl, ⟨1, rfl, rfl, (iv_w (iv_k (by decide) : iv 1 1 1) (by decide)), (Or.inl ⟨(by decide), ty_t (n := 30) (by have q9 := fW_r_9; rw [fN_r_6] at q9; exact q9) (by have := i32_0; have := i32_1; have := i32_2; have := i32_m1; have := (hvx).1; have := (hvx).2; have := (hvo).1; have := (hvo).2; have := (hvw).1; have := (hvw).2; have := (h_5).1; have := (h_5).2; have := (h_13).1; have := (h_13).2; have := (h_18).1; have := (h_18).2; omega) (swy 30 2 (by decide) (h_13) ez_14 c_17) (by decide) (by decide)⟩)⟩, by rw [ht]; exact hP, va_K.moved hW.alike hK, hD⟩, hS.F ht, by rw [ht]; exact hN⟩) hS.2.2 dX6_typeValue_83)))
      by_cases c_19 : (z_14 : Int32).toInt = 3
      · refine lv_tableIn (tgt := 84) hx hb dX6_typeValue_44 (by rw [c_19]; decide) (by rw [c_19]; decide) (by rw [c_19]; rfl) (by decide) ?_
        have h_20 : iv 3 3 z_14 := iv_at c_19
        refine lv_iconst (v := 2) hx hb dX6_typeValue_84 (by decide) ?_
        exact W.nb (fun hN => W.widen (k := 1) (n := 6) (by decide) (by decide) (vx_ret (W.iret (v := 2) hx hb hr (fun t ht hW => ⟨⟨some (.int 2), (sg, gm, lg), rfl, ⟨2, rfl, rfl, (iv_w (iv_k (by decide) : iv 2 2 2) (by decide)), (Or.inl ⟨(by decide), ty_t (n := 31) (by have q9 := fW_r_9; rw [fN_r_6] at q9; exact q9) (by have := i32_0; have := i32_1; have := i32_2; have := i32_m1; have := (hvx).1; have := (hvx).2; have := (hvo).1; have := (hvo).2; have := (hvw).1; have := (hvw).2; have := (h_5).1; have := (h_5).2; have := (h_13).1; have := (h_13).2; have := (h_20).1; have := (h_20).2; omega) (swy 31 3 (by decide) (h_13) ez_14 c_19) (by decide) (by decide)⟩)⟩, by rw [ht]; exact hP, va_K.moved hW.alike hK, hD⟩, hS.F ht, by rw [ht]; exact hN⟩) hS.2.2 dX6_typeValue_85)))
      by_cases c_21 : (z_14 : Int32).toInt = 4
      · refine lv_tableIn (tgt := 86) hx hb dX6_typeValue_44 (by rw [c_21]; decide) (by rw [c_21]; decide) (by rw [c_21]; rfl) (by decide) ?_
        have h_22 : iv 4 4 z_14 := iv_at c_21
        refine lv_iconst (v := 3) hx hb dX6_typeValue_86 (by decide) ?_
        exact W.nb (fun hN => W.widen (k := 1) (n := 6) (by decide) (by decide) (vx_ret (W.iret (v := 3) hx hb hr (fun t ht hW => ⟨⟨some (.int 3), (sg, gm, lg), rfl, ⟨3, rfl, rfl, (iv_w (iv_k (by decide) : iv 3 3 3) (by decide)), (Or.inl ⟨(by decide), ty_t (n := 32) (by have q9 := fW_r_9; rw [fN_r_6] at q9; exact q9) (by have := i32_0; have := i32_1; have := i32_2; have := i32_m1; have := (hvx).1; have := (hvx).2; have := (hvo).1; have := (hvo).2; have := (hvw).1; have := (hvw).2; have := (h_5).1; have := (h_5).2; have := (h_13).1; have := (h_13).2; have := (h_22).1; have := (h_22).2; omega) (swy 32 4 (by decide) (h_13) ez_14 c_21) (by decide) (by decide)⟩)⟩, by rw [ht]; exact hP, va_K.moved hW.alike hK, hD⟩, hS.F ht, by rw [ht]; exact hN⟩) hS.2.2 dX6_typeValue_87)))
      by_cases c_23 : (z_14 : Int32).toInt = 5
      · refine lv_tableIn (tgt := 88) hx hb dX6_typeValue_44 (by rw [c_23]; decide) (by rw [c_23]; decide) (by rw [c_23]; rfl) (by decide) ?_
        have h_24 : iv 5 5 z_14 := iv_at c_23
        refine lv_iconst (v := 4) hx hb dX6_typeValue_88 (by decide) ?_
        exact W.nb (fun hN => W.widen (k := 1) (n := 6) (by decide) (by decide) (vx_ret (W.iret (v := 4) hx hb hr (fun t ht hW => ⟨⟨some (.int 4), (sg, gm, lg), rfl, ⟨4, rfl, rfl, (iv_w (iv_k (by decide) : iv 4 4 4) (by decide)), (Or.inl ⟨(by decide), ty_t (n := 33) (by have q9 := fW_r_9; rw [fN_r_6] at q9; exact q9) (by have := i32_0; have := i32_1; have := i32_2; have := i32_m1; have := (hvx).1; have := (hvx).2; have := (hvo).1; have := (hvo).2; have := (hvw).1; have := (hvw).2; have := (h_5).1; have := (h_5).2; have := (h_13).1; have := (h_13).2; have := (h_24).1; have := (h_24).2; omega) (swy 33 5 (by decide) (h_13) ez_14 c_23) (by decide) (by decide)⟩)⟩, by rw [ht]; exact hP, va_K.moved hW.alike hK, hD⟩, hS.F ht, by rw [ht]; exact hN⟩) hS.2.2 dX6_typeValue_89)))
      refine lv_tableOut (tgt := 90) hx hb dX6_typeValue_44 (by have q1 := (hz_14).1; have q2 := (hz_14).2; omega) (by decide) ?_
      refine lv_iconst (v := (-1)) hx hb dX6_typeValue_90 (by decide) ?_
      exact W.nb (fun hN => W.widen (k := 1) (n := 6) (by decide) (by decide) (vx_ret (W.iret (v := (-1)) hx hb hr (fun t ht hW => ⟨⟨some (.int (-1)), (sg, gm, lg), rfl, ⟨(-1), rfl, rfl, (iv_w (iv_k (by decide) : iv (-1) (-1) (-1)) (by decide)), (Or.inr ⟨rfl, ty_f (by have q9 := fW_r_9; rw [fN_r_6] at q9; exact q9) (by rw [← fK_r_1]; have := i32_0; have := i32_1; have := i32_2; have := i32_m1; have := (hvx).1; have := (hvx).2; have := (hvo).1; have := (hvo).2; have := (hvw).1; have := (hvw).2; have := (h_5).1; have := (h_5).2; have := (h_13).1; have := (h_13).2; have := (hz_14).1; have := (hz_14).2; omega) (fun q8 => by have q7 := swT r_9.toNatClampNeg (by have := q8.2; have : r_9.toNatClampNeg = r_9.toInt.toNat := rfl; omega); rw [← ez_14] at q7; have : r_9.toNatClampNeg = r_9.toInt.toNat := rfl; have := i32_0; have := i32_1; have := i32_2; have := i32_m1; have := (hvx).1; have := (hvx).2; have := (hvo).1; have := (hvo).2; have := (hvw).1; have := (hvw).2; have := (h_5).1; have := (h_5).2; have := (h_13).1; have := (h_13).2; have := (hz_14).1; have := (hz_14).2; omega)⟩)⟩, by rw [ht]; exact hP, va_K.moved hW.alike hK, hD⟩, hS.F ht, by rw [ht]; exact hN⟩) hS.2.2 dX6_typeValue_91)))
    · have h_25 : iv (-1) (-1) r_9 := ⟨(hr_9).1, by omega⟩
      refine lv_iconst (v := (-1)) hx hb dX6_typeValue_33 (by decide) ?_
      exact W.nb (fun hN => W.widen (k := 1) (n := 6) (by decide) (by decide) (vx_ret (W.iret (v := (-1)) hx hb hr (fun t ht hW => ⟨⟨some (.int (-1)), (sg, gm, lg), rfl, ⟨(-1), rfl, rfl, (iv_w (iv_k (by decide) : iv (-1) (-1) (-1)) (by decide)), (Or.inr ⟨rfl, ty_f (by have q9 := fW_r_9; rw [fN_r_6] at q9; exact q9) (by rw [← fK_r_1]; have := i32_0; have := i32_1; have := i32_2; have := i32_m1; have := (hvx).1; have := (hvx).2; have := (hvo).1; have := (hvo).2; have := (hvw).1; have := (hvw).2; have := (h_5).1; have := (h_5).2; have := (h_25).1; have := (h_25).2; omega) (by have := i32_0; have := i32_1; have := i32_2; have := i32_m1; have := (hvx).1; have := (hvx).2; have := (hvo).1; have := (hvo).2; have := (hvw).1; have := (hvw).2; have := (h_5).1; have := (h_5).2; have := (h_25).1; have := (h_25).2; omega)⟩)⟩, by rw [ht]; exact hP, va_K.moved hW.alike hK, hD⟩, hS.F ht, by rw [ht]; exact hN⟩) hS.2.2 dX6_typeValue_34)))
  · have h_26 : iv 0 7 r_1 := iv_neL c_4 hr_1 (by decide)
    refine lv_bipush (v := 8) hx hb dX6_typeValue_12 (by decide) ?_
    refine lv_iload_n hx hb dX6_typeValue_14 rfl (lv_at hl 0 rfl) ?_
    refine lv_iadd hx hb dX6_typeValue_15 ?_
    refine lv_topi (fun z_27 ez_27 => ?_)
    have hz_27 : iv 8 15 z_27 := iv_of ez_27 (iv_add (iv_k (by decide) : iv 8 8 8) h_26 (by decide))
    have tz_27 : z_27.toInt = 8 + (r_1 : Int32).toInt := by rw [ez_27]; exact iv_addE (iv_k (by decide) : iv 8 8 8) h_26 (by decide)
    exact W.nb (fun hN => W.widen (k := 1) (n := 6) (by decide) (by decide) (vx_ret (W.iret (v := z_27) hx hb hr (fun t ht hW => ⟨⟨some (.int z_27), (sg, gm, lg), rfl, ⟨z_27, rfl, rfl, (iv_w hz_27 (by decide)), (Or.inl ⟨by have := i32_0; have := i32_1; have := i32_2; have := i32_m1; have := (hvx).1; have := (hvx).2; have := (hvo).1; have := (hvo).2; have := (hvw).1; have := (hvw).2; have := (h_26).1; have := (h_26).2; have := (hz_27).1; have := (hz_27).2; omega, Or.inl (by rw [← fK_r_1]; have := i32_0; have := i32_1; have := i32_2; have := i32_m1; have := (hvx).1; have := (hvx).2; have := (hvo).1; have := (hvo).2; have := (hvw).1; have := (hvw).2; have := (h_26).1; have := (h_26).2; have := (hz_27).1; have := (hz_27).2; omega)⟩)⟩, by rw [ht]; exact hP, va_K.moved hW.alike hK, hD⟩, hS.F ht, by rw [ht]; exact hN⟩) hS.2.2 dX6_typeValue_16)))
end
