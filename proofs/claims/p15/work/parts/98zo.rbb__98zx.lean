section
set_option maxHeartbeats 4000000 in
set_option maxRecDepth 100000 in
theorem f_badBeans2 (l : Launch) (dC : Nat → ClassId) (dI : Nat → Nat → Nat) (h0 : Nat) (ad : Nat → Nat) (cid : Nat → ClassId) (sg : Nat → Int32) (gm : Nat → Nat → Int32) (lg : Nat → Nat → Int64) (D : List El7) (hI : MI sg gm) (hRL : ∀ j, j < D.length → RL7 D gm lg j) (hKN : KN7 D gm D.length) (hn : (sg 24).toInt = (D.length : Int)) (hBN : BN7 D sg gm D.length) : MMi l dC dI yX13_badBeans wm_X13_badBeans ({ frames := 5, cells := 0, slots := 0, locals := 118 }) h0 ad cid [] sg gm lg (fun r v => (iv (-1) 79 r) ∧ (0 ≤ r.toInt ∨ BBE sg gm lg) ∧ ((r.toInt = -1 ∧ BBR D) ∨ (0 ≤ r.toInt ∧ ¬ BBR D)) ∧ v = (sg, gm, lg)) := by
  intro sz
  refine Met.ofW (cc := cX13_badBeans) (maxL := 4) (ret := (some .int)) (by decide) rfl ?_
  intro p e s m args below meth c s₁ B hml hv
  obtain ⟨rfl, hsz, hP, hK, hD0⟩ := hv
  have hx := B.exec
  have hb := B.bytes
  have hr := B.returns
  have hts := atoms_spec (ws := wm_X13_badBeans) B.pre
  have htb := fun (w : Cond) (h : w ∈ tb) => hts w (List.mem_cons_of_mem _ h)
  have hown : s.vm.findClass RX13 = some m.cls := findClass_of_methodNamed B.named
  have hlocks := B.notSynchronized
  subst hsz
  have hD := hD0.self (sz := s.heap.size)
  generalize hAe : va_A (mW h0 ad cid sg gm lg) s.heap.size = A at hD ⊢
  have hA : ∀ q : Nat, s.heap.size ≤ q → A q := fun q h => by rw [← hAe]; exact Or.inr h
  have hS : va_S A s.heap s.heap [] := va_S.rf
  have hl := lv_entry ([.ref h0]) (n := 4) (Nat.le_of_ble_eq_true rfl)
  rw [lg_entry_eq]
  generalize (lg_sl ([.ref h0]) ++ List.replicate (4 - (lg_sl ([.ref h0])).length) Slot.unset).toArray = ls at hl ⊢
  have hl : lv_has ls 4 [(0, .ref h0)] := hl
  have hj124 : ∀ (x3_124 : Int32) (x2_124 : Int32) (x1_124 : Int32) (_ : iv 0 1 x3_124) (_ : iv 0 1 x2_124) (_ : iv 1 79 x1_124) (_ : 1 ≤ x1_124.toInt ∧ x1_124.toInt < (sg 24).toInt) (_ : x1_124.toNatClampNeg < D.length) (_ : ¬ BR1 D x1_124.toNatClampNeg) (H : Heap) (locs : List Loc) (ls : Array Slot), va_P (dC, dI) vwCl (mW h0 ad cid sg gm lg) H → va_D A (mW h0 ad cid sg gm lg) → va_S A s.heap H locs → lv_has ls 4 [(3, .int x3_124), (2, .int x2_124), (1, .int x1_124), (0, .ref h0)] → W p l e (headSpec wm_X13_badBeans ({ frames := 5, cells := 0, slots := 0, locals := 118 })).room s m ([.ref h0] : List Value).toArray below meth c H locs 0 0 (MQ below (va_Qi (fun r v => (iv (-1) 79 r) ∧ (0 ≤ r.toInt ∨ BBE sg gm lg) ∧ ((r.toInt = -1 ∧ BBR D) ∨ (0 ≤ r.toInt ∧ ¬ BBR D)) ∧ v = (sg, gm, lg)) (MB dC dI h0 ad cid A) A) ([.ref h0] : List Value).toArray s 0 0 A) (F0 m 124 ls []) := by
    intro x3_124 x2_124 x1_124 hx3_124 hx2_124 hx1_124 hg1 hlD u124 H locs ls hP hD hS hl
    have hlD : x1_124.toNatClampNeg < D.length := by have := hn; have := iv_cl (show iv 0 79 x1_124 from (iv_w hx1_124 (by decide))) (by decide); have := i32_0; have := i32_1; have := i32_2; have := i32_m1; have := (show iv 0 80 (sg 24) from MI_s hI 24).1; have := (show iv 0 80 (sg 24) from MI_s hI 24).2; have := (hx3_124).1; have := (hx3_124).2; have := (hx2_124).1; have := (hx2_124).2; have := (hx1_124).1; have := (hx1_124).2; omega
    refine lv_iload_n hx hb dX13_badBeans_124 rfl (lv_at hl 2 rfl) ?_
    exact W.iret (v := x1_124) hx hb hr (fun t ht hW => ⟨⟨x1_124, (sg, gm, lg), rfl, ⟨(iv_w hx1_124 (by decide)), (Or.inl (by have := (hx1_124).1; omega)), (Or.inr ⟨(by have := (hx1_124).1; omega), fun h => u124 (h _ (by have := hg1; have := iv_cl (show iv 0 79 x1_124 from (iv_w hx1_124 (by decide))) (by decide); omega) (by have := hn; have := hg1; have := iv_cl (show iv 0 79 x1_124 from (iv_w hx1_124 (by decide))) (by decide); omega))⟩), rfl⟩, by rw [ht]; exact hP, va_K.moved hW.alike hK, hD⟩, hS.F ht⟩) hS.2.2 dX13_badBeans_125
  have hj2 : ∀ (n : Nat) (x1_2 : Int32) (_ : (80 - x1_2.toInt).toNat = n) (_ : iv 1 80 x1_2) (_ : ∀ k, 1 ≤ k → k < x1_2.toNatClampNeg → BR1 D k) (H : Heap) (locs : List Loc) (ls : Array Slot), va_P (dC, dI) vwCl (mW h0 ad cid sg gm lg) H → va_D A (mW h0 ad cid sg gm lg) → va_S A s.heap H locs → lv_has ls 4 [(1, .int x1_2), (0, .ref h0)] → W p l e (headSpec wm_X13_badBeans ({ frames := 5, cells := 0, slots := 0, locals := 118 })).room s m ([.ref h0] : List Value).toArray below meth c H locs 0 0 (MQ below (va_Qi (fun r v => (iv (-1) 79 r) ∧ (0 ≤ r.toInt ∨ BBE sg gm lg) ∧ ((r.toInt = -1 ∧ BBR D) ∨ (0 ≤ r.toInt ∧ ¬ BBR D)) ∧ v = (sg, gm, lg)) (MB dC dI h0 ad cid A) A) ([.ref h0] : List Value).toArray s 0 0 A) (F0 m 2 ls []) := by
    intro n
    induction n using Nat.strongRecOn with
    | ind n ih2 =>
      intro x1_2 hn2 hx1_2 hbr H locs ls hP hD hS hl
      have hj115 : ∀ (x2_115 : Int32) (y0_115 : Int32) (_ : iv 0 1 x2_115) (_ : iv 1 79 x1_2) (_ : iv 0 1 y0_115) (_ : 1 ≤ x1_2.toInt ∧ x1_2.toInt < (sg 24).toInt) (_ : x1_2.toNatClampNeg < D.length) (_ : (x2_115.toInt = 1 ∧ ((dAb D x1_2.toNatClampNeg = 0 ∧ USD D x1_2.toNatClampNeg (wdD D x1_2.toNatClampNeg)))) ∨ (x2_115.toInt = 0 ∧ ¬ ((dAb D x1_2.toNatClampNeg = 0 ∧ USD D x1_2.toNatClampNeg (wdD D x1_2.toNatClampNeg))))) (_ : (y0_115.toInt = 1 ∧ (PB7 D x1_2.toNatClampNeg)) ∨ (y0_115.toInt = 0 ∧ ¬ (PB7 D x1_2.toNatClampNeg))) (H : Heap) (locs : List Loc) (ls : Array Slot), va_P (dC, dI) vwCl (mW h0 ad cid sg gm lg) H → va_D A (mW h0 ad cid sg gm lg) → va_S A s.heap H locs → lv_has ls 4 [(2, .int x2_115), (1, .int x1_2), (0, .ref h0)] → W p l e (headSpec wm_X13_badBeans ({ frames := 5, cells := 0, slots := 0, locals := 118 })).room s m ([.ref h0] : List Value).toArray below meth c H locs 0 0 (MQ below (va_Qi (fun r v => (iv (-1) 79 r) ∧ (0 ≤ r.toInt ∨ BBE sg gm lg) ∧ ((r.toInt = -1 ∧ BBR D) ∨ (0 ≤ r.toInt ∧ ¬ BBR D)) ∧ v = (sg, gm, lg)) (MB dC dI h0 ad cid A) A) ([.ref h0] : List Value).toArray s 0 0 A) (F0 m 115 ls [.int y0_115]) := by
        intro x2_115 y0_115 hx2_115 hsx1_115 hy0_115 hg1 hlD v2 u115 H locs ls hP hD hS hl
        have hlD : x1_2.toNatClampNeg < D.length := by have := hn; have := iv_cl (show iv 0 79 x1_2 from (iv_w hsx1_115 (by decide))) (by decide); have := i32_0; have := i32_1; have := i32_2; have := i32_m1; have := (show iv 0 80 (sg 24) from MI_s hI 24).1; have := (show iv 0 80 (sg 24) from MI_s hI 24).2; have := (hsx1_115).1; have := (hsx1_115).2; have := (hx2_115).1; have := (hx2_115).2; have := (hy0_115).1; have := (hy0_115).2; omega
        refine lv_istore_n (lv' := [(3, .int y0_115), (2, .int x2_115), (1, .int x1_2), (0, .ref h0)]) hx hb dX13_badBeans_115 rfl hl (by decide) rfl (fun ls hl => ?_)
        refine lv_iload_n hx hb dX13_badBeans_116 rfl (lv_at hl 1 rfl) ?_
        refine lv_if_ne (tgt := 124) hx hb dX13_badBeans_117 (by decide) (fun c_1 => ?_) (fun c_1 => ?_)
        · have h_2 : iv 1 1 x2_115 := iv_neL c_1 hx2_115 (by decide)
          exact hj124 y0_115 x2_115 x1_2 hy0_115 (iv_w h_2 (by decide)) hsx1_115 ((by first | exact hg1 | (constructor <;> (have := i32_0; have := i32_1; have := i32_2; have := i32_m1; have := (show iv 0 80 (sg 24) from MI_s hI 24).1; have := (show iv 0 80 (sg 24) from MI_s hI 24).2; have := (hsx1_115).1; have := (hsx1_115).2; have := (h_2).1; have := (h_2).2; have := (hy0_115).1; have := (hy0_115).2; omega)))) (hlD) ((fun h => (BR1_e.mp h).1 (v2.resolve_right (fun w => absurd w.1 (by have := i32_0; have := i32_1; have := i32_2; have := i32_m1; have := (hsx1_115).1; have := (hsx1_115).2; have := (h_2).1; have := (h_2).2; have := (hy0_115).1; have := (hy0_115).2; omega))).2)) _ _ _ hP hD hS (lv_sub hl [0, 1, 2, 3] rfl)
        · have h_3 : iv 0 0 x2_115 := iv_eq c_1 hx2_115 (iv_k (by decide) : iv 0 0 0) (by decide)
          refine lv_iload_n hx hb dX13_badBeans_120 rfl (lv_at hl 0 rfl) ?_
          refine lv_if_eq (tgt := 126) hx hb dX13_badBeans_121 (by decide) (fun c_4 => ?_) (fun c_4 => ?_)
          · have h_5 : iv 0 0 y0_115 := iv_eq c_4 hy0_115 (iv_k (by decide) : iv 0 0 0) (by decide)
            obtain ⟨z_6, ez_6⟩ : ∃ z : Int32, z = x1_2 + 1 := ⟨_, rfl⟩
            have hz_6 : iv 2 80 z_6 := iv_of ez_6 (iv_add hsx1_115 (iv_k (by decide) : iv 1 1 1) (by decide))
            have tz_6 : z_6.toInt = x1_2.toInt + 1 := by rw [ez_6]; exact iv_addE hsx1_115 (iv_k (by decide) : iv 1 1 1) (by decide)
            refine lv_iinc (v := z_6) (lv' := [(1, .int z_6), (3, .int y0_115), (2, .int x2_115), (0, .ref h0)]) hx hb dX13_badBeans_126 hl (k := 2) rfl ez_6.symm (by decide) rfl (fun ls hl => ?_)
            refine lv_goto (tgt := 2) hx hb dX13_badBeans_129 (by decide) ?_
            exact ih2 _ (by rw [← hn2]; exact (iv_meas tz_6 hsx1_115 (by decide))) z_6 rfl (iv_w hz_6 (by decide)) ((fun k h8 h9 => by rw [s_cl (show iv 0 79 x1_2 from (iv_w hsx1_115 (by decide))) (by decide) tz_6] at h9; by_cases hq : k = x1_2.toNatClampNeg; (rw [hq]; exact BR1_e.mpr ⟨(v2.resolve_left (fun w => absurd w.1 (by have := i32_0; have := i32_1; have := i32_2; have := i32_m1; have := (hsx1_115).1; have := (hsx1_115).2; have := (h_3).1; have := (h_3).2; have := (h_5).1; have := (h_5).2; have := (hz_6).1; have := (hz_6).2; omega))).2, (u115.resolve_left (fun w => absurd w.1 (by have := i32_0; have := i32_1; have := i32_2; have := i32_m1; have := (hsx1_115).1; have := (hsx1_115).2; have := (h_3).1; have := (h_3).2; have := (h_5).1; have := (h_5).2; have := (hz_6).1; have := (hz_6).2; omega))).2⟩); exact hbr k h8 (by omega))) _ _ _ hP hD hS (lv_sub hl [0, 3] rfl)
          · have h_7 : iv 1 1 y0_115 := iv_neL c_4 hy0_115 (by decide)
            exact hj124 y0_115 x2_115 x1_2 (iv_w h_7 (by decide)) (iv_w h_3 (by decide)) hsx1_115 ((by first | exact hg1 | (constructor <;> (have := i32_0; have := i32_1; have := i32_2; have := i32_m1; have := (show iv 0 80 (sg 24) from MI_s hI 24).1; have := (show iv 0 80 (sg 24) from MI_s hI 24).2; have := (hsx1_115).1; have := (hsx1_115).2; have := (h_3).1; have := (h_3).2; have := (h_7).1; have := (h_7).2; omega)))) (hlD) ((fun h => (BR1_e.mp h).2 (u115.resolve_right (fun w => absurd w.1 (by have := i32_0; have := i32_1; have := i32_2; have := i32_m1; have := (hsx1_115).1; have := (hsx1_115).2; have := (h_3).1; have := (h_3).2; have := (h_7).1; have := (h_7).2; omega))).2)) _ _ _ hP hD hS (lv_sub hl [0, 1, 2, 3] rfl)
      have hj114 : ∀ (x2_114 : Int32) (_ : iv 0 1 x2_114) (_ : iv 1 79 x1_2) (_ : 1 ≤ x1_2.toInt ∧ x1_2.toInt < (sg 24).toInt) (_ : x1_2.toNatClampNeg < D.length) (_ : (x2_114.toInt = 1 ∧ ((dAb D x1_2.toNatClampNeg = 0 ∧ USD D x1_2.toNatClampNeg (wdD D x1_2.toNatClampNeg)))) ∨ (x2_114.toInt = 0 ∧ ¬ ((dAb D x1_2.toNatClampNeg = 0 ∧ USD D x1_2.toNatClampNeg (wdD D x1_2.toNatClampNeg))))) (_ : ¬ PB7 D x1_2.toNatClampNeg) (H : Heap) (locs : List Loc) (ls : Array Slot), va_P (dC, dI) vwCl (mW h0 ad cid sg gm lg) H → va_D A (mW h0 ad cid sg gm lg) → va_S A s.heap H locs → lv_has ls 4 [(2, .int x2_114), (1, .int x1_2), (0, .ref h0)] → W p l e (headSpec wm_X13_badBeans ({ frames := 5, cells := 0, slots := 0, locals := 118 })).room s m ([.ref h0] : List Value).toArray below meth c H locs 0 0 (MQ below (va_Qi (fun r v => (iv (-1) 79 r) ∧ (0 ≤ r.toInt ∨ BBE sg gm lg) ∧ ((r.toInt = -1 ∧ BBR D) ∨ (0 ≤ r.toInt ∧ ¬ BBR D)) ∧ v = (sg, gm, lg)) (MB dC dI h0 ad cid A) A) ([.ref h0] : List Value).toArray s 0 0 A) (F0 m 114 ls []) := by
        intro x2_114 hx2_114 hsx1_114 hg1 hlD v2 u114 H locs ls hP hD hS hl
        have hlD : x1_2.toNatClampNeg < D.length := by have := hn; have := iv_cl (show iv 0 79 x1_2 from (iv_w hsx1_114 (by decide))) (by decide); have := i32_0; have := i32_1; have := i32_2; have := i32_m1; have := (show iv 0 80 (sg 24) from MI_s hI 24).1; have := (show iv 0 80 (sg 24) from MI_s hI 24).2; have := (hsx1_114).1; have := (hsx1_114).2; have := (hx2_114).1; have := (hx2_114).2; omega
        refine lv_iconst (v := 0) hx hb dX13_badBeans_114 (by decide) ?_
        exact hj115 x2_114 0 hx2_114 hsx1_114 (iv_w (iv_k (by decide) : iv 0 0 0) (by decide)) ((by first | exact hg1 | (constructor <;> (have := i32_0; have := i32_1; have := i32_2; have := i32_m1; have := (show iv 0 80 (sg 24) from MI_s hI 24).1; have := (show iv 0 80 (sg 24) from MI_s hI 24).2; have := (hsx1_114).1; have := (hsx1_114).2; have := (hx2_114).1; have := (hx2_114).2; omega)))) (hlD) ((by first | exact v2 | exact u61)) (Or.inr ⟨rfl, u114⟩) _ _ _ hP hD hS (lv_sub hl [0, 1, 2] rfl)
      have hj110 : ∀ (x2_110 : Int32) (_ : iv 0 1 x2_110) (_ : iv 1 79 x1_2) (_ : 1 ≤ x1_2.toInt ∧ x1_2.toInt < (sg 24).toInt) (_ : x1_2.toNatClampNeg < D.length) (_ : (x2_110.toInt = 1 ∧ ((dAb D x1_2.toNatClampNeg = 0 ∧ USD D x1_2.toNatClampNeg (wdD D x1_2.toNatClampNeg)))) ∨ (x2_110.toInt = 0 ∧ ¬ ((dAb D x1_2.toNatClampNeg = 0 ∧ USD D x1_2.toNatClampNeg (wdD D x1_2.toNatClampNeg))))) (_ : PB7 D x1_2.toNatClampNeg) (H : Heap) (locs : List Loc) (ls : Array Slot), va_P (dC, dI) vwCl (mW h0 ad cid sg gm lg) H → va_D A (mW h0 ad cid sg gm lg) → va_S A s.heap H locs → lv_has ls 4 [(2, .int x2_110), (1, .int x1_2), (0, .ref h0)] → W p l e (headSpec wm_X13_badBeans ({ frames := 5, cells := 0, slots := 0, locals := 118 })).room s m ([.ref h0] : List Value).toArray below meth c H locs 0 0 (MQ below (va_Qi (fun r v => (iv (-1) 79 r) ∧ (0 ≤ r.toInt ∨ BBE sg gm lg) ∧ ((r.toInt = -1 ∧ BBR D) ∨ (0 ≤ r.toInt ∧ ¬ BBR D)) ∧ v = (sg, gm, lg)) (MB dC dI h0 ad cid A) A) ([.ref h0] : List Value).toArray s 0 0 A) (F0 m 110 ls []) := by
        intro x2_110 hx2_110 hsx1_110 hg1 hlD v2 u110 H locs ls hP hD hS hl
        have hlD : x1_2.toNatClampNeg < D.length := by have := hn; have := iv_cl (show iv 0 79 x1_2 from (iv_w hsx1_110 (by decide))) (by decide); have := i32_0; have := i32_1; have := i32_2; have := i32_m1; have := (show iv 0 80 (sg 24) from MI_s hI 24).1; have := (show iv 0 80 (sg 24) from MI_s hI 24).2; have := (hsx1_110).1; have := (hsx1_110).2; have := (hx2_110).1; have := (hx2_110).2; omega
        refine lv_iconst (v := 1) hx hb dX13_badBeans_110 (by decide) ?_
        refine lv_goto (tgt := 115) hx hb dX13_badBeans_111 (by decide) ?_
        exact hj115 x2_110 1 hx2_110 hsx1_110 (iv_w (iv_k (by decide) : iv 1 1 1) (by decide)) ((by first | exact hg1 | (constructor <;> (have := i32_0; have := i32_1; have := i32_2; have := i32_m1; have := (show iv 0 80 (sg 24) from MI_s hI 24).1; have := (show iv 0 80 (sg 24) from MI_s hI 24).2; have := (hsx1_110).1; have := (hsx1_110).2; have := (hx2_110).1; have := (hx2_110).2; omega)))) (hlD) ((by first | exact v2 | exact u61)) (Or.inl ⟨rfl, u110⟩) _ _ _ hP hD hS (lv_sub hl [0, 1, 2] rfl)
      have hj61 : ∀ (y0_61 : Int32) (_ : iv 1 79 x1_2) (_ : iv 0 1 y0_61) (_ : 1 ≤ x1_2.toInt ∧ x1_2.toInt < (sg 24).toInt) (_ : x1_2.toNatClampNeg < D.length) (_ : (y0_61.toInt = 1 ∧ ((dAb D x1_2.toNatClampNeg = 0 ∧ USD D x1_2.toNatClampNeg (wdD D x1_2.toNatClampNeg)))) ∨ (y0_61.toInt = 0 ∧ ¬ ((dAb D x1_2.toNatClampNeg = 0 ∧ USD D x1_2.toNatClampNeg (wdD D x1_2.toNatClampNeg))))) (H : Heap) (locs : List Loc) (ls : Array Slot), va_P (dC, dI) vwCl (mW h0 ad cid sg gm lg) H → va_D A (mW h0 ad cid sg gm lg) → va_S A s.heap H locs → lv_has ls 4 [(1, .int x1_2), (0, .ref h0)] → W p l e (headSpec wm_X13_badBeans ({ frames := 5, cells := 0, slots := 0, locals := 118 })).room s m ([.ref h0] : List Value).toArray below meth c H locs 0 0 (MQ below (va_Qi (fun r v => (iv (-1) 79 r) ∧ (0 ≤ r.toInt ∨ BBE sg gm lg) ∧ ((r.toInt = -1 ∧ BBR D) ∨ (0 ≤ r.toInt ∧ ¬ BBR D)) ∧ v = (sg, gm, lg)) (MB dC dI h0 ad cid A) A) ([.ref h0] : List Value).toArray s 0 0 A) (F0 m 61 ls [.int y0_61]) := by
        intro y0_61 hsx1_61 hy0_61 hg1 hlD u61 H locs ls hP hD hS hl
        have hlD : x1_2.toNatClampNeg < D.length := by have := hn; have := iv_cl (show iv 0 79 x1_2 from (iv_w hsx1_61 (by decide))) (by decide); have := i32_0; have := i32_1; have := i32_2; have := i32_m1; have := (show iv 0 80 (sg 24) from MI_s hI 24).1; have := (show iv 0 80 (sg 24) from MI_s hI 24).2; have := (hsx1_61).1; have := (hsx1_61).2; have := (hy0_61).1; have := (hy0_61).2; omega
        refine lv_istore_n (lv' := [(2, .int y0_61), (1, .int x1_2), (0, .ref h0)]) hx hb dX13_badBeans_61 rfl hl (by decide) rfl (fun ls hl => ?_)
        refine lv_aload_n hx hb dX13_badBeans_62 rfl (lv_at hl 2 rfl) ?_
        refine mr_get (v := .ref (ad 26)) hx hb htb inX13 hown hK hP 26 (by decide) (htb _ kw_1053) rfl dX13_badBeans_63 ?_
        refine lv_iload_n hx hb dX13_badBeans_66 rfl (lv_at hl 1 rfl) ?_
        refine mr_iald hx hb hK hP 19 (k := 26) rfl rfl rfl (show vp_in x1_2 80 from (iv_in hsx1_61 (by decide))) dX13_badBeans_67 ?_
        refine lv_topi (fun z_8 ez_8 => ?_)
        have hz_8 : iv 0 10 z_8 := iv_of ez_8 (MI_a hI 26 hsx1_61 (by decide))
        refine lv_iconst (v := 3) hx hb dX13_badBeans_68 (by decide) ?_
        refine lv_icmp_ne (tgt := 114) hx hb dX13_badBeans_69 (by decide) (fun c_9 => ?_) (fun c_9 => ?_)
        · have d_10 : ¬ (z_8 : Int32).toInt = 3 := lv_neT c_9 rfl
          exact hj114 y0_61 hy0_61 hsx1_61 ((by first | exact hg1 | (constructor <;> (have := i32_0; have := i32_1; have := i32_2; have := i32_m1; have := (show iv 0 80 (sg 24) from MI_s hI 24).1; have := (show iv 0 80 (sg 24) from MI_s hI 24).2; have := (hsx1_61).1; have := (hsx1_61).2; have := (hy0_61).1; have := (hy0_61).2; have := (hz_8).1; have := (hz_8).2; omega)))) (hlD) ((by first | exact v2 | exact u61)) ((fun w => by (try clear v2); (try clear u61);  have := w.1; have := congrArg Int32.toInt ez_8; have := (hRL _ hlD).2.2.2.1; have := hKN _ hlD; have := i32_0; have := i32_1; have := i32_2; have := i32_m1; have := (show iv 0 80 (sg 24) from MI_s hI 24).1; have := (show iv 0 80 (sg 24) from MI_s hI 24).2; have := (hsx1_61).1; have := (hsx1_61).2; have := (hy0_61).1; have := (hy0_61).2; have := (hz_8).1; have := (hz_8).2; omega)) _ _ _ hP hD hS (lv_sub hl [0, 1, 2] rfl)
        · have h_11 : iv 3 3 z_8 := iv_eq c_9 hz_8 (iv_k (by decide) : iv 3 3 3) (by decide)
          refine lv_aload_n hx hb dX13_badBeans_72 rfl (lv_at hl 2 rfl) ?_
          refine lv_iload_n hx hb dX13_badBeans_73 rfl (lv_at hl 1 rfl) ?_
          refine lv_ldc2 (own := RX13) (v := 123563833388660) hx hb hown (htb _ kw_1182) dX13_badBeans_74 ?_
          refine mr_calli (rest := []) ⟨hx, hb, hml, hown, htb⟩ (f_has l dC dI h0 ad cid sg gm lg x1_2 123563833388660 hI (iv_w hsx1_61 (by decide))) (cwV 2 htb (gd_V kw_1197 kw_1198 kw_94 kw_160 kw_1601) rfl rfl rfl (by decide +kernel) ⟨Nat.le_of_ble_eq_true rfl, Nat.le_of_ble_eq_true rfl⟩) rfl hl.1 rfl (Nat.le_of_ble_eq_true rfl) dX13_badBeans_77 ⟨Nat.zero_le _, Nat.zero_le _⟩ hK hP hD hS hA (fun r_12 u_13 H locs hw hP hD hS => ?_)
          obtain ⟨hr_12, fH_r_12, rfl⟩ := hw
          have hP : va_P (dC, dI) vwCl (mW h0 ad cid sg gm lg) H := hP
          have hD : va_D A (mW h0 ad cid sg gm lg) := hD
          refine lv_if_eq (tgt := 114) hx hb dX13_badBeans_80 (by decide) (fun c_14 => ?_) (fun c_14 => ?_)
          · have h_15 : iv 0 0 r_12 := iv_eq c_14 hr_12 (iv_k (by decide) : iv 0 0 0) (by decide)
            exact hj114 y0_61 hy0_61 hsx1_61 ((by first | exact hg1 | (constructor <;> (have := i32_0; have := i32_1; have := i32_2; have := i32_m1; have := (show iv 0 80 (sg 24) from MI_s hI 24).1; have := (show iv 0 80 (sg 24) from MI_s hI 24).2; have := (hsx1_61).1; have := (hsx1_61).2; have := (hy0_61).1; have := (hy0_61).2; have := (h_11).1; have := (h_11).2; have := (h_15).1; have := (h_15).2; omega)))) (hlD) ((by first | exact v2 | exact u61)) ((fun w => by (try clear v2); (try clear u61);  have := w.2.1; have := congrArg Int32.toInt fH_r_12; have := (hRL _ hlD).2.2.1 123563833388660; have := i32_0; have := i32_1; have := i32_2; have := i32_m1; have := (hsx1_61).1; have := (hsx1_61).2; have := (hy0_61).1; have := (hy0_61).2; have := (h_11).1; have := (h_11).2; have := (h_15).1; have := (h_15).2; omega)) _ _ _ hP hD hS (lv_sub hl [0, 1, 2] rfl)
          · have h_16 : iv 1 1 r_12 := iv_neL c_14 hr_12 (by decide)
            refine lv_aload_n hx hb dX13_badBeans_83 rfl (lv_at hl 2 rfl) ?_
            refine lv_aload_n hx hb dX13_badBeans_84 rfl (lv_at hl 2 rfl) ?_
            refine mr_get (v := .ref (ad 43)) hx hb htb inX13 hown hK hP 43 (by decide) (htb _ kw_1070) rfl dX13_badBeans_85 ?_
            refine lv_iload_n hx hb dX13_badBeans_88 rfl (lv_at hl 1 rfl) ?_
            refine mr_iald hx hb hK hP 34 (k := 43) rfl rfl rfl (show vp_in x1_2 80 from (iv_in hsx1_61 (by decide))) dX13_badBeans_89 ?_
            refine lv_topi (fun z_17 ez_17 => ?_)
            have hz_17 : iv 0 79 z_17 := iv_of ez_17 (MI_a hI 43 hsx1_61 (by decide))
            refine mr_calli (rest := []) ⟨hx, hb, hml, hown, htb⟩ (f_parentOf l dC dI h0 ad cid sg gm lg z_17 hI hz_17) (cwV 1 htb (gd_V kw_1223 kw_1224 kw_103 kw_160 kw_1611) rfl rfl rfl (by decide +kernel) ⟨Nat.le_of_ble_eq_true rfl, Nat.le_of_ble_eq_true rfl⟩) rfl hl.1 rfl (Nat.le_of_ble_eq_true rfl) dX13_badBeans_90 ⟨Nat.zero_le _, Nat.zero_le _⟩ hK hP hD hS hA (fun r_18 u_19 H locs hw hP hD hS => ?_)
            obtain ⟨hr_18, fP_r_18, rfl⟩ := hw
            have hP : va_P (dC, dI) vwCl (mW h0 ad cid sg gm lg) H := hP
            have hD : va_D A (mW h0 ad cid sg gm lg) := hD
            refine lv_iconst (v := (-1)) hx hb dX13_badBeans_93 (by decide) ?_
            refine lv_icmp_eq (tgt := 110) hx hb dX13_badBeans_94 (by decide) (fun c_20 => ?_) (fun c_20 => ?_)
            · have h_21 : iv (-1) (-1) r_18 := iv_eq c_20 hr_18 (iv_k (by decide) : iv (-1) (-1) (-1)) (by decide)
              exact hj110 y0_61 hy0_61 hsx1_61 ((by first | exact hg1 | (constructor <;> (have := i32_0; have := i32_1; have := i32_2; have := i32_m1; have := (show iv 0 80 (sg 24) from MI_s hI 24).1; have := (show iv 0 80 (sg 24) from MI_s hI 24).2; have := (hsx1_61).1; have := (hsx1_61).2; have := (hy0_61).1; have := (hy0_61).2; have := (h_11).1; have := (h_11).2; have := (h_16).1; have := (h_16).2; have := (hz_17).1; have := (hz_17).2; have := (h_21).1; have := (h_21).2; omega)))) (hlD) ((by first | exact v2 | exact u61)) ((by have hk3 : dKd D x1_2.toNatClampNeg = 3 := (by (try clear v2); (try clear u61);  have := congrArg Int32.toInt ez_8; have := (hRL _ hlD).2.2.2.1; have := hKN _ hlD; have := i32_0; have := i32_1; have := i32_2; have := i32_m1; have := (show iv 0 80 (sg 24) from MI_s hI 24).1; have := (show iv 0 80 (sg 24) from MI_s hI 24).2; have := (hsx1_61).1; have := (hsx1_61).2; have := (hy0_61).1; have := (hy0_61).2; have := (h_11).1; have := (h_11).2; have := (h_16).1; have := (h_16).2; have := (hz_17).1; have := (hz_17).2; have := (h_21).1; have := (h_21).2; omega); have h80 : D.length ≤ 80 := (by have := hn; have := (show iv 0 80 (sg 24) from MI_s hI 24).2; omega); have hz9 : z_17 = nI (bsN D x1_2.toNatClampNeg).length := (by rw [ez_17]; exact BN_nI hBN h80 hlD hk3); have hb9 := elD_i hlD hk3; have hl9 := bsN_l (D := D) x1_2.toNatClampNeg; have h49 : (nI (bsN D x1_2.toNatClampNeg).length).toInt = (bsN D x1_2.toNatClampNeg).length := nI_toInt (by omega); have hc9 : (nI (bsN D x1_2.toNatClampNeg).length).toNatClampNeg < nbD D := (by show (nI (bsN D x1_2.toNatClampNeg).length).toInt.toNat < _; omega); exact ⟨hk3, (by (try clear v2); (try clear u61);  have := congrArg Int32.toInt fH_r_12; have := (hRL _ hlD).2.2.1 123563833388660; have := aH_01 (q := dAt D x1_2.toNatClampNeg) (k := 123563833388660); have := i32_0; have := i32_1; have := i32_2; have := i32_m1; have := (hsx1_61).1; have := (hsx1_61).2; have := (hy0_61).1; have := (hy0_61).2; have := (h_11).1; have := (h_11).2; have := (h_16).1; have := (h_16).2; have := (hz_17).1; have := (hz_17).2; have := (h_21).1; have := (h_21).2; omega), Or.inl (by have q2 := fP_r_18; rw [c_20, hz9, mPar_e hRL hBN hc9] at q2; exact q2.symm)⟩)) _ _ _ hP hD hS (lv_sub hl [0, 1, 2] rfl)
            · have h_22 : iv 0 79 r_18 := iv_neL c_20 hr_18 (by decide)
              refine lv_aload_n hx hb dX13_badBeans_97 rfl (lv_at hl 2 rfl) ?_
              refine lv_aload_n hx hb dX13_badBeans_98 rfl (lv_at hl 2 rfl) ?_
              refine mr_get (v := .ref (ad 43)) hx hb htb inX13 hown hK hP 43 (by decide) (htb _ kw_1070) rfl dX13_badBeans_99 ?_
              refine lv_iload_n hx hb dX13_badBeans_102 rfl (lv_at hl 1 rfl) ?_
              refine mr_iald hx hb hK hP 34 (k := 43) rfl rfl rfl (show vp_in x1_2 80 from (iv_in hsx1_61 (by decide))) dX13_badBeans_103 ?_
              refine lv_topi (fun z_23 ez_23 => ?_)
              obtain rfl : z_17 = z_23 := ez_17.trans ez_23.symm
              refine mr_calli (rest := []) ⟨hx, hb, hml, hown, htb⟩ (f_comesToItself2 l dC dI h0 ad cid sg gm lg z_17 hI hz_17) (cwV 1 htb (gd_V kw_1227 kw_1228 kw_105 kw_160 kw_1613) rfl rfl rfl (by decide +kernel) ⟨Nat.le_of_ble_eq_true rfl, Nat.le_of_ble_eq_true rfl⟩) rfl hl.1 rfl (Nat.le_of_ble_eq_true rfl) dX13_badBeans_104 ⟨Nat.zero_le _, Nat.zero_le _⟩ hK hP hD hS hA (fun r_24 u_25 H locs hw hP hD hS => ?_)
              obtain ⟨hr_24, fC_r_24, rfl⟩ := hw
              have hP : va_P (dC, dI) vwCl (mW h0 ad cid sg gm lg) H := hP
              have hD : va_D A (mW h0 ad cid sg gm lg) := hD
              refine lv_if_eq (tgt := 114) hx hb dX13_badBeans_107 (by decide) (fun c_26 => ?_) (fun c_26 => ?_)
              · have h_27 : iv 0 0 r_24 := iv_eq c_26 hr_24 (iv_k (by decide) : iv 0 0 0) (by decide)
                exact hj114 y0_61 hy0_61 hsx1_61 ((by first | exact hg1 | (constructor <;> (have := i32_0; have := i32_1; have := i32_2; have := i32_m1; have := (show iv 0 80 (sg 24) from MI_s hI 24).1; have := (show iv 0 80 (sg 24) from MI_s hI 24).2; have := (hsx1_61).1; have := (hsx1_61).2; have := (hy0_61).1; have := (hy0_61).2; have := (h_11).1; have := (h_11).2; have := (h_16).1; have := (h_16).2; have := (hz_17).1; have := (hz_17).2; have := (h_22).1; have := (h_22).2; have := (h_27).1; have := (h_27).2; omega)))) (hlD) ((by first | exact v2 | exact u61)) ((fun w => by have hk3 : dKd D x1_2.toNatClampNeg = 3 := (by (try clear v2); (try clear u61);  have := congrArg Int32.toInt ez_8; have := (hRL _ hlD).2.2.2.1; have := hKN _ hlD; have := i32_0; have := i32_1; have := i32_2; have := i32_m1; have := (show iv 0 80 (sg 24) from MI_s hI 24).1; have := (show iv 0 80 (sg 24) from MI_s hI 24).2; have := (hsx1_61).1; have := (hsx1_61).2; have := (hy0_61).1; have := (hy0_61).2; have := (h_11).1; have := (h_11).2; have := (h_16).1; have := (h_16).2; have := (hz_17).1; have := (hz_17).2; have := (h_22).1; have := (h_22).2; have := (h_27).1; have := (h_27).2; omega); have h80 : D.length ≤ 80 := (by have := hn; have := (show iv 0 80 (sg 24) from MI_s hI 24).2; omega); have hz9 : z_17 = nI (bsN D x1_2.toNatClampNeg).length := (by rw [ez_17]; exact BN_nI hBN h80 hlD hk3); have hb9 := elD_i hlD hk3; have hl9 := bsN_l (D := D) x1_2.toNatClampNeg; have h49 : (nI (bsN D x1_2.toNatClampNeg).length).toInt = (bsN D x1_2.toNatClampNeg).length := nI_toInt (by omega); have hc9 : (nI (bsN D x1_2.toNatClampNeg).length).toNatClampNeg < nbD D := (by show (nI (bsN D x1_2.toNatClampNeg).length).toInt.toNat < _; omega); rcases w.2.2 with q | q; (have q2 := fP_r_18; rw [hz9, mPar_e hRL hBN hc9, q] at q2; exact c_20 q2); (have q2 := (fC_r_24.resolve_left (fun v => absurd v.1 (by have := i32_0; have := i32_1; have := i32_2; have := i32_m1; have := (hsx1_61).1; have := (hsx1_61).2; have := (hy0_61).1; have := (hy0_61).2; have := (h_11).1; have := (h_11).2; have := (h_16).1; have := (h_16).2; have := (hz_17).1; have := (hz_17).2; have := (h_22).1; have := (h_22).2; have := (h_27).1; have := (h_27).2; omega))).2; rw [hz9] at q2; exact q ((NR_e hRL hBN h80 (by omega) hc9).mp q2)))) _ _ _ hP hD hS (lv_sub hl [0, 1, 2] rfl)
              · have h_28 : iv 1 1 r_24 := iv_neL c_26 hr_24 (by decide)
                exact hj110 y0_61 hy0_61 hsx1_61 ((by first | exact hg1 | (constructor <;> (have := i32_0; have := i32_1; have := i32_2; have := i32_m1; have := (show iv 0 80 (sg 24) from MI_s hI 24).1; have := (show iv 0 80 (sg 24) from MI_s hI 24).2; have := (hsx1_61).1; have := (hsx1_61).2; have := (hy0_61).1; have := (hy0_61).2; have := (h_11).1; have := (h_11).2; have := (h_16).1; have := (h_16).2; have := (hz_17).1; have := (hz_17).2; have := (h_22).1; have := (h_22).2; have := (h_28).1; have := (h_28).2; omega)))) (hlD) ((by first | exact v2 | exact u61)) ((by have hk3 : dKd D x1_2.toNatClampNeg = 3 := (by (try clear v2); (try clear u61);  have := congrArg Int32.toInt ez_8; have := (hRL _ hlD).2.2.2.1; have := hKN _ hlD; have := i32_0; have := i32_1; have := i32_2; have := i32_m1; have := (show iv 0 80 (sg 24) from MI_s hI 24).1; have := (show iv 0 80 (sg 24) from MI_s hI 24).2; have := (hsx1_61).1; have := (hsx1_61).2; have := (hy0_61).1; have := (hy0_61).2; have := (h_11).1; have := (h_11).2; have := (h_16).1; have := (h_16).2; have := (hz_17).1; have := (hz_17).2; have := (h_22).1; have := (h_22).2; have := (h_28).1; have := (h_28).2; omega); have h80 : D.length ≤ 80 := (by have := hn; have := (show iv 0 80 (sg 24) from MI_s hI 24).2; omega); have hz9 : z_17 = nI (bsN D x1_2.toNatClampNeg).length := (by rw [ez_17]; exact BN_nI hBN h80 hlD hk3); have hb9 := elD_i hlD hk3; have hl9 := bsN_l (D := D) x1_2.toNatClampNeg; have h49 : (nI (bsN D x1_2.toNatClampNeg).length).toInt = (bsN D x1_2.toNatClampNeg).length := nI_toInt (by omega); have hc9 : (nI (bsN D x1_2.toNatClampNeg).length).toNatClampNeg < nbD D := (by show (nI (bsN D x1_2.toNatClampNeg).length).toInt.toNat < _; omega); exact ⟨hk3, (by (try clear v2); (try clear u61);  have := congrArg Int32.toInt fH_r_12; have := (hRL _ hlD).2.2.1 123563833388660; have := aH_01 (q := dAt D x1_2.toNatClampNeg) (k := 123563833388660); have := i32_0; have := i32_1; have := i32_2; have := i32_m1; have := (hsx1_61).1; have := (hsx1_61).2; have := (hy0_61).1; have := (hy0_61).2; have := (h_11).1; have := (h_11).2; have := (h_16).1; have := (h_16).2; have := (hz_17).1; have := (hz_17).2; have := (h_22).1; have := (h_22).2; have := (h_28).1; have := (h_28).2; omega), Or.inr (fun q => by have q2 := (fC_r_24.resolve_right (fun v => absurd v.1 (by have := i32_0; have := i32_1; have := i32_2; have := i32_m1; have := (hsx1_61).1; have := (hsx1_61).2; have := (hy0_61).1; have := (hy0_61).2; have := (h_11).1; have := (h_11).2; have := (h_16).1; have := (h_16).2; have := (hz_17).1; have := (hz_17).2; have := (h_22).1; have := (h_22).2; have := (h_28).1; have := (h_28).2; omega))).2; rw [hz9] at q2; exact q2 ((NR_e hRL hBN h80 (by omega) hc9).mpr q))⟩)) _ _ _ hP hD hS (lv_sub hl [0, 1, 2] rfl)
      have hj60 : ∀ (_ : iv 1 79 x1_2) (_ : 1 ≤ x1_2.toInt ∧ x1_2.toInt < (sg 24).toInt) (_ : x1_2.toNatClampNeg < D.length) (_ : ¬ (dAb D x1_2.toNatClampNeg = 0 ∧ USD D x1_2.toNatClampNeg (wdD D x1_2.toNatClampNeg))) (H : Heap) (locs : List Loc) (ls : Array Slot), va_P (dC, dI) vwCl (mW h0 ad cid sg gm lg) H → va_D A (mW h0 ad cid sg gm lg) → va_S A s.heap H locs → lv_has ls 4 [(1, .int x1_2), (0, .ref h0)] → W p l e (headSpec wm_X13_badBeans ({ frames := 5, cells := 0, slots := 0, locals := 118 })).room s m ([.ref h0] : List Value).toArray below meth c H locs 0 0 (MQ below (va_Qi (fun r v => (iv (-1) 79 r) ∧ (0 ≤ r.toInt ∨ BBE sg gm lg) ∧ ((r.toInt = -1 ∧ BBR D) ∨ (0 ≤ r.toInt ∧ ¬ BBR D)) ∧ v = (sg, gm, lg)) (MB dC dI h0 ad cid A) A) ([.ref h0] : List Value).toArray s 0 0 A) (F0 m 60 ls []) := by
        intro  hsx1_60 hg1 hlD u60 H locs ls hP hD hS hl
        have hlD : x1_2.toNatClampNeg < D.length := by have := hn; have := iv_cl (show iv 0 79 x1_2 from (iv_w hsx1_60 (by decide))) (by decide); have := i32_0; have := i32_1; have := i32_2; have := i32_m1; have := (show iv 0 80 (sg 24) from MI_s hI 24).1; have := (show iv 0 80 (sg 24) from MI_s hI 24).2; have := (hsx1_60).1; have := (hsx1_60).2; omega
        refine lv_iconst (v := 0) hx hb dX13_badBeans_60 (by decide) ?_
        exact hj61 0 hsx1_60 (iv_w (iv_k (by decide) : iv 0 0 0) (by decide)) ((by first | exact hg1 | (constructor <;> (have := i32_0; have := i32_1; have := i32_2; have := i32_m1; have := (show iv 0 80 (sg 24) from MI_s hI 24).1; have := (show iv 0 80 (sg 24) from MI_s hI 24).2; have := (hsx1_60).1; have := (hsx1_60).2; omega)))) (hlD) (Or.inr ⟨rfl, u60⟩) _ _ _ hP hD hS (lv_sub hl [0, 1] rfl)
      have hj50 : ∀ (y0_50 : Int64) (_ : iv 1 79 x1_2) (_ : iv 1 79 x1_2) (_ : 1 ≤ x1_2.toInt ∧ x1_2.toInt < (sg 24).toInt) (_ : x1_2.toNatClampNeg < D.length) (_ : dAb D x1_2.toNatClampNeg = 0) (_ : y0_50 = wdD D x1_2.toNatClampNeg) (H : Heap) (locs : List Loc) (ls : Array Slot), va_P (dC, dI) vwCl (mW h0 ad cid sg gm lg) H → va_D A (mW h0 ad cid sg gm lg) → va_S A s.heap H locs → lv_has ls 4 [(1, .int x1_2), (0, .ref h0)] → W p l e (headSpec wm_X13_badBeans ({ frames := 5, cells := 0, slots := 0, locals := 118 })).room s m ([.ref h0] : List Value).toArray below meth c H locs 0 0 (MQ below (va_Qi (fun r v => (iv (-1) 79 r) ∧ (0 ≤ r.toInt ∨ BBE sg gm lg) ∧ ((r.toInt = -1 ∧ BBR D) ∨ (0 ≤ r.toInt ∧ ¬ BBR D)) ∧ v = (sg, gm, lg)) (MB dC dI h0 ad cid A) A) ([.ref h0] : List Value).toArray s 0 0 A) (F0 m 50 ls [.long y0_50, .int x1_2, .ref h0]) := by
        intro y0_50 hsx1_50 hsy1_50 hg1 hlD ha0 u50 H locs ls hP hD hS hl
        have hlD : x1_2.toNatClampNeg < D.length := by have := hn; have := iv_cl (show iv 0 79 x1_2 from (iv_w hsy1_50 (by decide))) (by decide); have := i32_0; have := i32_1; have := i32_2; have := i32_m1; have := (show iv 0 80 (sg 24) from MI_s hI 24).1; have := (show iv 0 80 (sg 24) from MI_s hI 24).2; have := (hsy1_50).1; have := (hsy1_50).2; omega
        refine mr_calli (rest := []) ⟨hx, hb, hml, hown, htb⟩ (f_isUsed2 l dC dI h0 ad cid sg gm lg x1_2 y0_50 D hI (iv_w hsy1_50 (by decide)) hRL hKN hn hg1.2) (cwV 2 htb (gd_V kw_1221 kw_1222 kw_102 kw_160 kw_1610) rfl rfl rfl (by decide +kernel) ⟨Nat.le_of_ble_eq_true rfl, Nat.le_of_ble_eq_true rfl⟩) rfl hl.1 rfl (Nat.le_of_ble_eq_true rfl) dX13_badBeans_50 ⟨Nat.zero_le _, Nat.zero_le _⟩ hK hP hD hS hA (fun r_29 u_30 H locs hw hP hD hS => ?_)
        obtain ⟨hr_29, fU_r_29, rfl⟩ := hw
        have hP : va_P (dC, dI) vwCl (mW h0 ad cid sg gm lg) H := hP
        have hD : va_D A (mW h0 ad cid sg gm lg) := hD
        refine lv_if_eq (tgt := 60) hx hb dX13_badBeans_53 (by decide) (fun c_31 => ?_) (fun c_31 => ?_)
        · have h_32 : iv 0 0 r_29 := iv_eq c_31 hr_29 (iv_k (by decide) : iv 0 0 0) (by decide)
          exact hj60 hsy1_50 ((by first | exact hg1 | (constructor <;> (have := i32_0; have := i32_1; have := i32_2; have := i32_m1; have := (show iv 0 80 (sg 24) from MI_s hI 24).1; have := (show iv 0 80 (sg 24) from MI_s hI 24).2; have := (hsy1_50).1; have := (hsy1_50).2; have := (h_32).1; have := (h_32).2; omega)))) (hlD) ((fun w => (fU_r_29.resolve_left (fun v => absurd v.1 (by have := i32_0; have := i32_1; have := i32_2; have := i32_m1; have := (hsy1_50).1; have := (hsy1_50).2; have := (h_32).1; have := (h_32).2; omega))).2 (by rw [u50]; exact w.2))) _ _ _ hP hD hS (lv_sub hl [0, 1] rfl)
        · have h_33 : iv 1 1 r_29 := iv_neL c_31 hr_29 (by decide)
          refine lv_iconst (v := 1) hx hb dX13_badBeans_56 (by decide) ?_
          refine lv_goto (tgt := 61) hx hb dX13_badBeans_57 (by decide) ?_
          exact hj61 1 hsy1_50 (iv_w (iv_k (by decide) : iv 1 1 1) (by decide)) ((by first | exact hg1 | (constructor <;> (have := i32_0; have := i32_1; have := i32_2; have := i32_m1; have := (show iv 0 80 (sg 24) from MI_s hI 24).1; have := (show iv 0 80 (sg 24) from MI_s hI 24).2; have := (hsy1_50).1; have := (hsy1_50).2; have := (h_33).1; have := (h_33).2; omega)))) (hlD) (Or.inl ⟨rfl, ha0, (by rw [← u50]; exact (fU_r_29.resolve_right (fun v => absurd v.1 (by have := i32_0; have := i32_1; have := i32_2; have := i32_m1; have := (hsy1_50).1; have := (hsy1_50).2; have := (h_33).1; have := (h_33).2; omega))).2)⟩) _ _ _ hP hD hS (lv_sub hl [0, 1] rfl)
      refine lv_iload_n hx hb dX13_badBeans_2 rfl (lv_at hl 0 rfl) ?_
      refine lv_aload_n hx hb dX13_badBeans_3 rfl (lv_at hl 1 rfl) ?_
      refine mr_get (v := .int (sg 24)) hx hb htb inX13 hown hK hP 24 (by decide) (htb _ kw_1051) rfl dX13_badBeans_4 ?_
      refine lv_icmp_ge (tgt := 132) hx hb dX13_badBeans_7 (by decide) (fun c_34 => ?_) (fun c_34 => ?_)
      · have d_35 : ((sg 24) : Int32).toInt ≤ (x1_2 : Int32).toInt := Int32.le_iff_toInt_le.mp c_34
        have hall : BBR D := fun k h8 h9 => hbr k h8 (by have := hn; have := iv_cl (show iv 0 80 x1_2 from (iv_w hx1_2 (by decide))) (by decide); have := i32_0; have := i32_1; have := i32_2; have := i32_m1; have := (show iv 0 80 (sg 24) from MI_s hI 24).1; have := (show iv 0 80 (sg 24) from MI_s hI 24).2; have := (hx1_2).1; have := (hx1_2).2; have := ((show iv 0 80 (sg 24) from MI_s hI 24)).1; have := ((show iv 0 80 (sg 24) from MI_s hI 24)).2; omega)
        refine lv_iconst (v := (-1)) hx hb dX13_badBeans_132 (by decide) ?_
        exact W.iret (v := (-1)) hx hb hr (fun t ht hW => ⟨⟨(-1), (sg, gm, lg), rfl, ⟨(iv_w (iv_k (by decide) : iv (-1) (-1) (-1)) (by decide)), (Or.inr (fun k9 h8 h9 => BB1_of hRL hKN hBN (by have := hn; have := (show iv 0 80 (sg 24) from MI_s hI 24).2; omega) (by have := hn; have : (sg 24).toNatClampNeg = (sg 24).toInt.toNat := rfl; omega) (hall k9 h8 (by have := hn; have : (sg 24).toNatClampNeg = (sg 24).toInt.toNat := rfl; omega)))), (Or.inl ⟨rfl, hall⟩), rfl⟩, by rw [ht]; exact hP, va_K.moved hW.alike hK, hD⟩, hS.F ht⟩) hS.2.2 dX13_badBeans_133
      · have d_36 : (x1_2 : Int32).toInt < ((sg 24) : Int32).toInt := Int32.lt_iff_toInt_lt.mp (i32_lt c_34)
        have h_37 : iv 1 79 x1_2 := iv_ltL (i32_lt c_34) hx1_2 (show iv 0 80 (sg 24) from MI_s hI 24) (by decide)
        have h_38 : iv 2 80 (sg 24) := iv_ltR (i32_lt c_34) hx1_2 (show iv 0 80 (sg 24) from MI_s hI 24) (by decide)
        have hlD : x1_2.toNatClampNeg < D.length := by have := hn; have := iv_cl (show iv 0 79 x1_2 from (iv_w h_37 (by decide))) (by decide); have := i32_0; have := i32_1; have := i32_2; have := i32_m1; have := (show iv 0 80 (sg 24) from MI_s hI 24).1; have := (show iv 0 80 (sg 24) from MI_s hI 24).2; have := (h_37).1; have := (h_37).2; have := (h_38).1; have := (h_38).2; omega
        refine lv_aload_n hx hb dX13_badBeans_10 rfl (lv_at hl 1 rfl) ?_
        refine mr_get (v := .ref (ad 28)) hx hb htb inX13 hown hK hP 28 (by decide) (htb _ kw_1055) rfl dX13_badBeans_11 ?_
        refine lv_iload_n hx hb dX13_badBeans_14 rfl (lv_at hl 0 rfl) ?_
        refine mr_iald hx hb hK hP 21 (k := 28) rfl rfl rfl (show vp_in x1_2 80 from (iv_in h_37 (by decide))) dX13_badBeans_15 ?_
        refine lv_topi (fun z_39 ez_39 => ?_)
        have hz_39 : iv (-1) 79 z_39 := iv_of ez_39 (MI_a hI 28 h_37 (by decide))
        refine lv_if_ne (tgt := 60) hx hb dX13_badBeans_16 (by decide) (fun c_40 => ?_) (fun c_40 => ?_)
        · have d_41 : ¬ (z_39 : Int32).toInt = 0 := lv_neT c_40 rfl
          exact hj60 h_37 ((by first | exact hg1 | (constructor <;> (have := i32_0; have := i32_1; have := i32_2; have := i32_m1; have := (show iv 0 80 (sg 24) from MI_s hI 24).1; have := (show iv 0 80 (sg 24) from MI_s hI 24).2; have := (h_37).1; have := (h_37).2; have := (h_38).1; have := (h_38).2; have := (hz_39).1; have := (hz_39).2; omega)))) (hlD) ((fun w => absurd w.1 (by have := congrArg Int32.toInt ez_39; have := (hRL _ hlD).2.2.2.1; have := hKN _ hlD; have := i32_0; have := i32_1; have := i32_2; have := i32_m1; have := (show iv 0 80 (sg 24) from MI_s hI 24).1; have := (show iv 0 80 (sg 24) from MI_s hI 24).2; have := (h_37).1; have := (h_37).2; have := (h_38).1; have := (h_38).2; have := (hz_39).1; have := (hz_39).2; omega))) _ _ _ hP hD hS (lv_sub hl [0, 1] rfl)
        · have h_42 : iv 0 0 z_39 := iv_eq c_40 hz_39 (iv_k (by decide) : iv 0 0 0) (by decide)
          refine lv_aload_n hx hb dX13_badBeans_19 rfl (lv_at hl 1 rfl) ?_
          refine lv_iload_n hx hb dX13_badBeans_20 rfl (lv_at hl 0 rfl) ?_
          refine lv_aload_n hx hb dX13_badBeans_21 rfl (lv_at hl 1 rfl) ?_
          refine mr_get (v := .ref (ad 26)) hx hb htb inX13 hown hK hP 26 (by decide) (htb _ kw_1053) rfl dX13_badBeans_22 ?_
          refine lv_iload_n hx hb dX13_badBeans_25 rfl (lv_at hl 0 rfl) ?_
          refine mr_iald hx hb hK hP 19 (k := 26) rfl rfl rfl (show vp_in x1_2 80 from (iv_in h_37 (by decide))) dX13_badBeans_26 ?_
          refine lv_topi (fun z_43 ez_43 => ?_)
          have hz_43 : iv 0 10 z_43 := iv_of ez_43 (MI_a hI 26 h_37 (by decide))
          refine lv_iconst (v := 3) hx hb dX13_badBeans_27 (by decide) ?_
          refine lv_icmp_ne (tgt := 42) hx hb dX13_badBeans_28 (by decide) (fun c_44 => ?_) (fun c_44 => ?_)
          · have d_45 : ¬ (z_43 : Int32).toInt = 3 := lv_neT c_44 rfl
            refine lv_aload_n hx hb dX13_badBeans_42 rfl (lv_at hl 1 rfl) ?_
            refine lv_iload_n hx hb dX13_badBeans_43 rfl (lv_at hl 0 rfl) ?_
            refine lv_ldc2 (own := RX13) (v := 29807) hx hb hown (htb _ kw_1179) dX13_badBeans_44 ?_
            refine mr_calll (rest := [.int x1_2, .ref h0]) ⟨hx, hb, hml, hown, htb⟩ (f_word l dC dI h0 ad cid sg gm lg x1_2 29807 hI (iv_w h_37 (by decide))) (cwV 2 htb (gd_V kw_1201 kw_1202 kw_96 kw_160 kw_1603) rfl rfl rfl (by decide +kernel) ⟨Nat.le_of_ble_eq_true rfl, Nat.le_of_ble_eq_true rfl⟩) rfl hl.1 rfl (Nat.le_of_ble_eq_true rfl) dX13_badBeans_47 ⟨Nat.zero_le _, Nat.zero_le _⟩ hK hP hD hS hA (fun r_46 u_47 H locs hw hP hD hS => ?_)
            obtain ⟨fW_r_46, rfl⟩ := hw
            have hP : va_P (dC, dI) vwCl (mW h0 ad cid sg gm lg) H := hP
            have hD : va_D A (mW h0 ad cid sg gm lg) := hD
            exact hj50 r_46 h_37 h_37 ((by first | exact hg1 | (constructor <;> (have := i32_0; have := i32_1; have := i32_2; have := i32_m1; have := (show iv 0 80 (sg 24) from MI_s hI 24).1; have := (show iv 0 80 (sg 24) from MI_s hI 24).2; have := (h_37).1; have := (h_37).2; have := (h_38).1; have := (h_38).2; have := (h_42).1; have := (h_42).2; have := (hz_43).1; have := (hz_43).2; omega)))) (hlD) ((by have := congrArg Int32.toInt ez_39; have := congrArg Int32.toInt ez_43; have := (hRL _ hlD).2.2.2.1; have := hKN _ hlD; have := i32_0; have := i32_1; have := i32_2; have := i32_m1; have := (show iv 0 80 (sg 24) from MI_s hI 24).1; have := (show iv 0 80 (sg 24) from MI_s hI 24).2; have := (h_37).1; have := (h_37).2; have := (h_38).1; have := (h_38).2; have := (h_42).1; have := (h_42).2; have := (hz_43).1; have := (hz_43).2; omega)) ((by unfold wdD; rw [if_neg (by have := congrArg Int32.toInt ez_39; have := congrArg Int32.toInt ez_43; have := (hRL _ hlD).2.2.2.1; have := hKN _ hlD; have := i32_0; have := i32_1; have := i32_2; have := i32_m1; have := (show iv 0 80 (sg 24) from MI_s hI 24).1; have := (show iv 0 80 (sg 24) from MI_s hI 24).2; have := (h_37).1; have := (h_37).2; have := (h_38).1; have := (h_38).2; have := (h_42).1; have := (h_42).2; have := (hz_43).1; have := (hz_43).2; omega)]; exact fW_r_46.trans ((hRL _ hlD).1 _))) _ _ _ hP hD hS (lv_sub hl [0, 1] rfl)
          · have h_48 : iv 3 3 z_43 := iv_eq c_44 hz_43 (iv_k (by decide) : iv 3 3 3) (by decide)
            refine lv_aload_n hx hb dX13_badBeans_31 rfl (lv_at hl 1 rfl) ?_
            refine lv_iload_n hx hb dX13_badBeans_32 rfl (lv_at hl 0 rfl) ?_
            refine lv_ldc2 (own := RX13) (v := 26980) hx hb hown (htb _ kw_1180) dX13_badBeans_33 ?_
            refine mr_calll (rest := [.int x1_2, .ref h0]) ⟨hx, hb, hml, hown, htb⟩ (f_word l dC dI h0 ad cid sg gm lg x1_2 26980 hI (iv_w h_37 (by decide))) (cwV 2 htb (gd_V kw_1201 kw_1202 kw_96 kw_160 kw_1603) rfl rfl rfl (by decide +kernel) ⟨Nat.le_of_ble_eq_true rfl, Nat.le_of_ble_eq_true rfl⟩) rfl hl.1 rfl (Nat.le_of_ble_eq_true rfl) dX13_badBeans_36 ⟨Nat.zero_le _, Nat.zero_le _⟩ hK hP hD hS hA (fun r_49 u_50 H locs hw hP hD hS => ?_)
            obtain ⟨fW_r_49, rfl⟩ := hw
            have hP : va_P (dC, dI) vwCl (mW h0 ad cid sg gm lg) H := hP
            have hD : va_D A (mW h0 ad cid sg gm lg) := hD
            refine lv_goto (tgt := 50) hx hb dX13_badBeans_39 (by decide) ?_
            exact hj50 r_49 h_37 h_37 ((by first | exact hg1 | (constructor <;> (have := i32_0; have := i32_1; have := i32_2; have := i32_m1; have := (show iv 0 80 (sg 24) from MI_s hI 24).1; have := (show iv 0 80 (sg 24) from MI_s hI 24).2; have := (h_37).1; have := (h_37).2; have := (h_38).1; have := (h_38).2; have := (h_42).1; have := (h_42).2; have := (h_48).1; have := (h_48).2; omega)))) (hlD) ((by have := congrArg Int32.toInt ez_39; have := congrArg Int32.toInt ez_43; have := (hRL _ hlD).2.2.2.1; have := hKN _ hlD; have := i32_0; have := i32_1; have := i32_2; have := i32_m1; have := (show iv 0 80 (sg 24) from MI_s hI 24).1; have := (show iv 0 80 (sg 24) from MI_s hI 24).2; have := (h_37).1; have := (h_37).2; have := (h_38).1; have := (h_38).2; have := (h_42).1; have := (h_42).2; have := (h_48).1; have := (h_48).2; omega)) ((by unfold wdD; rw [if_pos (by have := congrArg Int32.toInt ez_39; have := congrArg Int32.toInt ez_43; have := (hRL _ hlD).2.2.2.1; have := hKN _ hlD; have := i32_0; have := i32_1; have := i32_2; have := i32_m1; have := (show iv 0 80 (sg 24) from MI_s hI 24).1; have := (show iv 0 80 (sg 24) from MI_s hI 24).2; have := (h_37).1; have := (h_37).2; have := (h_38).1; have := (h_38).2; have := (h_42).1; have := (h_42).2; have := (h_48).1; have := (h_48).2; omega)]; exact fW_r_49.trans ((hRL _ hlD).1 _))) _ _ _ hP hD hS (lv_sub hl [0, 1] rfl)
  refine lv_iconst (v := 1) hx hb dX13_badBeans_0 (by decide) ?_
  refine lv_istore_n (lv' := [(1, .int 1), (0, .ref h0)]) hx hb dX13_badBeans_1 rfl hl (by decide) rfl (fun ls hl => ?_)
  exact hj2 _ 1 rfl (iv_w (iv_k (by decide) : iv 1 1 1) (by decide)) ((fun k h8 h9 => by have : (1 : Int32).toNatClampNeg = 1 := rfl; omega)) _ _ _ hP hD hS (lv_sub hl [0, 1] rfl)
end
section
/-- the list of a text, as far as it is one -/
def dD (ch : Nat → Int) (n : Nat) : List El7 := (sDoc ch n).getD []
theorem dD_s {ch : Nat → Int} {n : Nat} {D : List El7} (h : sDoc ch n = some D) : dD ch n = D := by unfold dD; rw [h]; rfl
def ACP (ch : Nat → Int) (n : Nat) : Prop := sDoc ch n = some (dD ch n) ∧ ACR (dD ch n)
def XX7 (ch : Nat → Int) (n : Nat) : Prop := ∀ D, sDoc ch n = some D → TR7 D ∧ D.length ≤ 80
theorem XX_n {ch : Nat → Int} {n : Nat} (h : sDoc ch n = none) : XX7 ch n := fun D q => by rw [h] at q; cases q
theorem XX_s {ch : Nat → Int} {n : Nat} (h : sDoc ch n = some (dD ch n)) (h1 : TR7 (dD ch n)) (h2 : (dD ch n).length ≤ 80) : XX7 ch n := fun D q => by rw [h] at q; cases q; exact ⟨h1, h2⟩
theorem ACP_n {ch : Nat → Int} {n : Nat} (h : sDoc ch n = none) : ¬ ACP ch n := fun q => by have q1 := q.1; rw [h] at q1; cases q1
theorem BN_0 {D : List El7} {sg : Nat → Int32} {gm : Nat → Nat → Int32} (h : (sg 41).toInt = 0) : BN7 D sg gm 0 := ⟨h, fun b y q => by cases q⟩
theorem BN_w {D : List El7} {sg : Nat → Int32} {gm : Nat → Nat → Int32} {n : Nat} (h : BN7 D sg gm n) (hk : ¬ dKd D n = 3) : BN7 D sg gm (n + 1) := by
  unfold BN7
  rw [bsN_f hk]
  exact h
theorem BN_s {D : List El7} {sg sg2 : Nat → Int32} {gm gm2 : Nat → Nat → Int32} {x : Int32} (hx : iv 0 79 x) (hb : iv 0 79 (sg 41)) (h : BN7 D sg gm x.toNatClampNeg) (h1 : (sg2 41).toInt = (sg 41).toInt + 1) (h43 : gm2 43 = upd (gm 43) x.toNatClampNeg (sg 41)) (h42 : gm2 42 = upd (gm 42) (sg 41).toNatClampNeg x) (hk : dKd D x.toNatClampNeg = 3) : BN7 D sg2 gm2 (x.toNatClampNeg + 1) := by
  have k1 := iv_cl hx (by decide)
  have k2 := iv_cl hb (by decide)
  have hl := h.1
  refine ⟨by rw [h1, hl, bsN_t hk, List.length_append]; rfl, fun b y q => ?_⟩
  rw [bsN_t hk] at q
  rcases Nat.lt_or_ge b (bsN D x.toNatClampNeg).length with w | w
  · rw [List.getElem?_append_left w] at q
    obtain ⟨a1, a2⟩ := h.2 b y q
    have hy := ((bsN_m _ _).mp (List.mem_of_getElem? q)).1
    rw [h42, h43, upd_ne (by omega), upd_ne (by omega)]
    exact ⟨a1, a2⟩
  · rw [List.getElem?_append_right w] at q
    have hb0 : b - (bsN D x.toNatClampNeg).length = 0 := by
      rcases Nat.eq_zero_or_pos (b - (bsN D x.toNatClampNeg).length) with z | z
      · exact z
      · rw [List.getElem?_eq_none (by show 1 ≤ _; omega)] at q; cases q
    rw [hb0] at q
    have q : some x.toNatClampNeg = some y := q
    cases q
    have hbe : b = (sg 41).toNatClampNeg := by omega
    rw [h42, h43, hbe, upd_at, upd_at]
    exact ⟨by omega, by omega⟩
theorem KN_k {D : List El7} {gm gm2 : Nat → Nat → Int32} {n : Nat} (h : KN7 D gm n) (e : gm2 26 = gm 26) : KN7 D gm2 n := by unfold KN7; rw [e]; exact h
end
section
/-- the characters of an attribute's value -/
def VW7 (gm : Nat → Nat → Int32) (a : Nat) (v : List Int) : Prop := (gm 45 a).toInt = (v.length : Int) ∧ ∀ (i : Nat) (c : Int), v[i]? = some c → (gm 46 ((gm 44 a).toNatClampNeg + i)).toInt = c
theorem gA_at : ∀ (q : At7) (i : Nat) (y : Int64 × List Int) (k : Int64), q[i]? = some y → y.1 = k → (∀ i' y', i' < i → q[i']? = some y' → ¬ y'.1 = k) → gA q k = some y.2 := by
  intro q
  induction q with
  | nil => intro i y k h; cases h
  | cons z r ih =>
    intro i y k h hk hn
    cases i with
    | zero =>
      have h : some z = some y := h
      cases h
      unfold gA
      rw [List.find?_cons_of_pos (p := fun x : Int64 × List Int => x.1 == k) (beq_iff_eq.mpr hk)]
    | succ i =>
      have h0 : ¬ z.1 = k := hn 0 z (by omega) rfl
      have h1 := ih i y k h hk (fun i' y' hi hy => hn (i' + 1) y' (by omega) hy)
      unfold gA at h1 ⊢
      rw [List.find?_cons_of_neg (p := fun x : Int64 × List Int => x.1 == k) (fun q => h0 (beq_iff_eq.mp q))]
      exact h1
theorem FND_l {A7 : At7} {gm : Nat → Nat → Int32} {lg : Nat → Nat → Int64} {j : Nat} {k : Int64} {r : Int32} {P5 P6 : Int} (h : FND gm lg j k r) (ha : ATC A7 gm lg j P5 P6) : (r.toInt = -1 ∧ gA A7 k = none) ∨ (0 ≤ r.toInt ∧ ∃ v, gA A7 k = some v ∧ VW7 gm r.toNatClampNeg v) := by
  have hn : (gm 20 j).toNatClampNeg = A7.length := by have := ha.1; show (gm 20 j).toInt.toNat = _; omega
  rcases h with ⟨a1, a2⟩ | ⟨i, a1, a2, a3, a4, a5⟩
  · refine Or.inl ⟨a1, gA_n ?_⟩
    unfold hasK
    rw [List.any_eq_false]
    intro x hx
    obtain ⟨i, hi, e⟩ := List.mem_iff_getElem.mp hx
    have q := a2 i (Nat.zero_le _) (by omega)
    have q2 := (ha.2.2.2 i _ (List.getElem?_eq_getElem hi)).1
    rw [e] at q2
    intro w
    exact q (q2.trans (beq_iff_eq.mp w))
  · have hi : i < A7.length := by omega
    have hg := List.getElem?_eq_getElem hi
    obtain ⟨b1, b2, b3, b4, b5⟩ := ha.2.2.2 i _ hg
    refine Or.inr ⟨a3, A7[i].2, gA_at A7 i _ k hg (b1.symm.trans a5) (fun i' y' h1 h2 => ?_), ?_, ?_⟩
    · have := a4 i' (Nat.zero_le _) h1
      rw [show lg 0 ((gm 19 j).toNatClampNeg + i') = y'.1 from (ha.2.2.2 i' y' h2).1] at this
      exact this
    · rw [a2]; exact b2
    · intro i2 c hc; rw [a2]; exact b5 i2 c hc
theorem one_l {v : List Int} (h : v.length = 1) : ∃ c, v = [c] := by
  cases v with
  | nil => cases h
  | cons c r => cases r with
    | nil => exact ⟨c, rfl⟩
    | cons d t => simp at h
theorem two_l {v : List Int} (h : v.length = 2) : ∃ c d, v = [c, d] := by
  cases v with
  | nil => cases h
  | cons c r => cases r with
    | nil => simp at h
    | cons d t => cases t with
      | nil => exact ⟨c, d, rfl⟩
      | cons e s => simp at h
theorem lv_n {A7 : At7} {gm : Nat → Nat → Int32} {lg : Nat → Nat → Int64} {j : Nat} {k : Int64} {r z : Int32} {P5 P6 : Int} (h : FND gm lg j k r) (ha : ATC A7 gm lg j P5 P6) (hV : (r.toInt = -1 ∧ z.toInt = 0) ∨ (0 ≤ r.toInt ∧ z = gm 45 r.toNatClampNeg)) (hl : ¬ z.toInt = 1) : lv7 A7 k = -1 ∧ pl7 A7 k = -1 := by
  rcases FND_l h ha with ⟨a1, a2⟩ | ⟨a1, v, a2, a3⟩
  · unfold lv7 pl7; rw [a2]; exact ⟨rfl, rfl⟩
  · have hz : z = gm 45 r.toNatClampNeg := (hV.resolve_left (fun q => by omega)).2
    rw [hz, a3.1] at hl
    have hl : ¬ v.length = 1 := by omega
    unfold lv7 pl7
    rw [a2]
    cases v with
    | nil => exact ⟨rfl, rfl⟩
    | cons c r => cases r with
      | nil => exact absurd rfl hl
      | cons d t => exact ⟨rfl, rfl⟩
theorem v_1 {A7 : At7} {gm : Nat → Nat → Int32} {lg : Nat → Nat → Int64} {j : Nat} {k : Int64} {r z : Int32} {P5 P6 : Int} (h : FND gm lg j k r) (ha : ATC A7 gm lg j P5 P6) (h0 : 0 ≤ r.toInt) (hl : (gm 45 r.toNatClampNeg).toInt = 1) (hc : z = gm 46 ((gm 44 r.toNatClampNeg).toNatClampNeg + (0 : Int32).toNatClampNeg)) : gA A7 k = some [z.toInt] := by
  rcases FND_l h ha with ⟨a1, a2⟩ | ⟨a1, v, a2, a3⟩
  · omega
  · rw [a3.1] at hl
    obtain ⟨c, rfl⟩ := one_l (v := v) (by omega)
    rw [a2, hc]
    have := a3.2 0 c rfl
    rw [show (0 : Int32).toNatClampNeg = 0 by decide, this]
theorem v_2 {A7 : At7} {gm : Nat → Nat → Int32} {lg : Nat → Nat → Int64} {j : Nat} {k : Int64} {r z y : Int32} {P5 P6 : Int} (h : FND gm lg j k r) (ha : ATC A7 gm lg j P5 P6) (h0 : 0 ≤ r.toInt) (hl : (gm 45 r.toNatClampNeg).toInt = 2) (hc : z = gm 46 ((gm 44 r.toNatClampNeg).toNatClampNeg + (0 : Int32).toNatClampNeg)) : ∃ d, gA A7 k = some [z.toInt, d] ∧ ∀ y : Int32, y = gm 46 ((gm 44 r.toNatClampNeg).toNatClampNeg + (1 : Int32).toNatClampNeg) → y.toInt = d := by
  rcases FND_l h ha with ⟨a1, a2⟩ | ⟨a1, v, a2, a3⟩
  · omega
  · rw [a3.1] at hl
    obtain ⟨c, d, rfl⟩ := two_l (v := v) (by omega)
    refine ⟨d, ?_, fun y hy => ?_⟩
    · rw [a2, hc, show (0 : Int32).toNatClampNeg = 0 by decide, a3.2 0 c rfl]
    · rw [hy, show (1 : Int32).toNatClampNeg = 1 by decide]; exact a3.2 1 d rfl
theorem cv_n {A7 : At7} {gm : Nat → Nat → Int32} {lg : Nat → Nat → Int64} {j : Nat} {k : Int64} {r z : Int32} {P5 P6 : Int} (h : FND gm lg j k r) (ha : ATC A7 gm lg j P5 P6) (hV : (r.toInt = -1 ∧ z.toInt = 0) ∨ (0 ≤ r.toInt ∧ z = gm 45 r.toNatClampNeg)) (hl : ¬ z.toInt = 2) : cv7 A7 k = -1 := by
  rcases FND_l h ha with ⟨a1, a2⟩ | ⟨a1, v, a2, a3⟩
  · unfold cv7; rw [a2]
  · have hz : z = gm 45 r.toNatClampNeg := (hV.resolve_left (fun q => by omega)).2
    rw [hz, a3.1] at hl
    have hl : ¬ v.length = 2 := by omega
    unfold cv7
    rw [a2]
    cases v with
    | nil => rfl
    | cons c r => cases r with
      | nil => rfl
      | cons d t => cases t with
        | nil => exact absurd rfl hl
        | cons e s => rfl
theorem lv_s {A7 : At7} {k : Int64} {x : Int} (h : gA A7 k = some [x]) : lv7 A7 k = (if 97 ≤ x ∧ x ≤ 122 then x - 97 else -1) ∧ pl7 A7 k = (if 48 ≤ x ∧ x ≤ 50 then x - 48 else -1) := by unfold lv7 pl7; rw [h]; exact ⟨rfl, rfl⟩
theorem cv_s {A7 : At7} {k : Int64} {x y : Int} (h : gA A7 k = some [x, y]) : cv7 A7 k = if x = 75 ∧ 48 ≤ y ∧ y ≤ 55 then y - 48 else -1 := by unfold cv7; rw [h]
theorem foL_ap : ∀ (u : List Int) (x : Int) (w : Int64), foL (u ++ [x]) w = (foL u w) <<< 8 ||| Int64.ofInt x := by
  intro u
  induction u with
  | nil => intro x w; rfl
  | cons c r ih => intro x w; exact ih x _
theorem allL_ap {u : List Int} {x : Int} : allL (u ++ [x]) = (allL u && decide (97 ≤ x ∧ x ≤ 122)) := by unfold allL; rw [List.all_append]; simp
theorem tk_s {gm : Nat → Nat → Int32} {a i : Nat} {v : List Int} {z : Int32} (h : VW7 gm a v) (hi : i < v.length) (hz : z = gm 46 ((gm 44 a).toNatClampNeg + i)) : v.take (i + 1) = v.take i ++ [z.toInt] := by
  rw [List.take_add_one, List.getElem?_eq_getElem hi, hz, h.2 i _ (List.getElem?_eq_getElem hi)]
  rfl
def vv7 (A7 : At7) (k : Int64) : List Int := (gA A7 k).getD []
theorem FND_v {A7 : At7} {gm : Nat → Nat → Int32} {lg : Nat → Nat → Int64} {j : Nat} {k : Int64} {r : Int32} {P5 P6 : Int} (h : FND gm lg j k r) (ha : ATC A7 gm lg j P5 P6) (h0 : 0 ≤ r.toInt) : gA A7 k = some (vv7 A7 k) ∧ VW7 gm r.toNatClampNeg (vv7 A7 k) := by
  rcases FND_l h ha with ⟨a1, a2⟩ | ⟨a1, v, a2, a3⟩
  · omega
  · have e : vv7 A7 k = v := by unfold vv7; rw [a2]; rfl
    rw [e]; exact ⟨a2, a3⟩
theorem nv_n {A7 : At7} {gm : Nat → Nat → Int32} {lg : Nat → Nat → Int64} {j : Nat} {k : Int64} {r z : Int32} {P5 P6 : Int} (h : FND gm lg j k r) (ha : ATC A7 gm lg j P5 P6) (hV : (r.toInt = -1 ∧ z.toInt = 0) ∨ (0 ≤ r.toInt ∧ z = gm 45 r.toNatClampNeg)) (hl : z.toInt < 1 ∨ 8 < z.toInt) : nv7 A7 k = 0 := by
  have hI : ¬ aI A7 k = 1 := by
    rcases FND_l h ha with ⟨a1, a2⟩ | ⟨a1, v, a2, a3⟩
    · rw [aI_n a2]; decide
    · have hz : z = gm 45 r.toNatClampNeg := (hV.resolve_left (fun q => by omega)).2
      rw [hz, a3.1] at hl
      rw [aI_s a2, if_neg (by omega)]; decide
  unfold nv7
  rw [if_neg hI]
theorem nv_x {A7 : At7} {gm : Nat → Nat → Int32} {a i : Nat} {k : Int64} {z : Int32} (h : gA A7 k = some (vv7 A7 k) ∧ VW7 gm a (vv7 A7 k)) (hi : i < (vv7 A7 k).length) (hz : z = gm 46 ((gm 44 a).toNatClampNeg + i)) (hx : z.toInt < 97 ∨ 122 < z.toInt) : nv7 A7 k = 0 := by
  have hI : ¬ aI A7 k = 1 := by
    rw [aI_s h.1, if_neg]; decide
    intro w
    have q := w.2.2
    unfold allL at q
    rw [List.all_eq_true] at q
    have q2 := q _ (List.getElem_mem hi)
    have q3 := h.2.2 i _ (List.getElem?_eq_getElem hi)
    have q4 := of_decide_eq_true q2
    rw [hz] at hx
    omega
  unfold nv7
  rw [if_neg hI]
theorem nv_e {A7 : At7} {k : Int64} (h : gA A7 k = some (vv7 A7 k)) (h1 : 1 ≤ (vv7 A7 k).length) (h8 : (vv7 A7 k).length ≤ 8) (ha : allL (vv7 A7 k) = true) : nv7 A7 k = foL (vv7 A7 k) 0 := by
  have hI : aI A7 k = 1 := by rw [aI_s h, if_pos ⟨h1, h8, ha⟩]
  unfold nv7
  rw [if_pos hI, aW_s h, if_pos h8]
theorem swT : ∀ n, n < 34 → ((((wSw.getD n 0).toInt < 1 ∨ 5 < (wSw.getD n 0).toInt) ∧ ¬ (29 ≤ n ∧ n ≤ 33)) ∨ ((wSw.getD n 0).toInt = (n : Int) - 28 ∧ 29 ≤ n)) := by decide
theorem nvH {A7 : At7} {k : Int64} (h : ¬ nv7 A7 k = 0) : hasK A7 k = true := by
  unfold nv7 at h
  by_cases hI : aI A7 k = 1
  · cases hk : hasK A7 k with
    | true => rfl
    | false => rw [aI_n (gA_n hk)] at hI; exact absurd hI (by decide)
  · rw [if_neg hI] at h; exact absurd rfl h

set_option maxHeartbeats 4000000 in
set_option maxRecDepth 100000 in
theorem d_has2 (l : Launch) (dC : Nat → ClassId) (dI : Nat → Nat → Nat) (ad : Nat → Nat → Nat) (cid : Nat → ClassId) (a2 : Nat → Nat) (lx : List Nat) (sg : Nat → Int32) (gm : Nat → Nat → Int32) (lg : Nat → Nat → Int64) (x : Int32) (o : Int32) (w : Int32) (A7 : At7) (hI : CI sg gm) (hvx : iv 0 0 x) (hvo : iv 0 79 o) (hvw : iv 0 33 w) (hFA : FA sg gm) (how : o.toInt < (sg 4).toInt) (hat : ATC A7 gm lg o.toNatClampNeg (sg 5).toInt (sg 6).toInt) : CMt dC dI ad cid a2 lx l yX6_has wm_X6_has ({ frames := 1, cells := 1, slots := 6, locals := 24 }) [eV (ad 1) x, eV (ad 9) o, eV (ad 33) w] sg gm lg (fun v u => ∃ r : Int32, v = some (.int r) ∧ u = (sg, gm, lg) ∧ (iv 0 1 r) ∧ (r.toInt = aH A7 (wKy.getD w.toNatClampNeg 0))) (fun _ _ => False) := by
  intro sz
  refine vx_ofW (cc := cX6_has) (maxL := 3) (ret := (some .boolean)) (by decide) rfl ?_
  intro p e s m args below meth c s₁ B hml hxt hv
  obtain ⟨rfl, hsz, hP, hK, hD0, hG⟩ := hv
  have hx := B.exec
  have hb := B.bytes
  have hr := B.returns
  have hts := atoms_spec (ws := wm_X6_has) B.pre
  have htb := fun (w : Cond) (h : w ∈ tb) => hts w (List.mem_cons_of_mem _ h)
  have hown : s.vm.findClass RX6 = some m.cls := findClass_of_methodNamed B.named
  have hlocks := B.notSynchronized
  subst hsz
  have hD := hD0.self (sz := s.heap.size)
  generalize hAe : va_A (cW ad cid a2 lx sg gm lg) s.heap.size = A at hD hG ⊢
  have hA : ∀ q : Nat, s.heap.size ≤ q → A q := fun q h => by rw [← hAe]; exact Or.inr h
  have hS : va_S A s.heap s.heap [] := va_S.rf
  have hl := lv_entry ([eV (ad 1) x, eV (ad 9) o, eV (ad 33) w]) (n := 3) (by rw [show (lg_sl ([eV (ad 1) x, eV (ad 9) o, eV (ad 33) w])).length = 3 from by simp [lg_sl, eV_cat, cat_i, cat_l]]; exact Nat.le_of_ble_eq_true rfl)
  rw [lg_entry_eq]
  generalize (lg_sl ([eV (ad 1) x, eV (ad 9) o, eV (ad 33) w]) ++ List.replicate (3 - (lg_sl ([eV (ad 1) x, eV (ad 9) o, eV (ad 33) w])).length) Slot.unset).toArray = ls at hl ⊢
  have hl : lv_has ls 3 [(0, eV (ad 1) x), (1, eV (ad 9) o), (2, eV (ad 33) w)] := by simp [lv_args, eV_cat, cat_i, cat_l] at hl; exact hl
  refine ec_aload_n hx hb dX6_has_0 rfl (lv_at hl 0 rfl) ?_
  refine ec_aload_n hx hb dX6_has_1 rfl (lv_at hl 1 rfl) ?_
  refine ec_aload_n hx hb dX6_has_2 rfl (lv_at hl 2 rfl) ?_
  refine cw_key hx hb hG hS hvw hown (htb _ kw_1347) dX6_has_3 ?_
  refine lv_topl (fun z_1 ez_1 => ?_)
  refine cm_callV (t := 1) (C := RX6) (T := TX6) (N := 8) (rest := []) (as := [eV (ad 9) o, .long z_1]) ⟨hx, hb, hml, hown, htb⟩ (d_hasKey2 l dC dI ad cid a2 lx sg gm lg x o z_1 hI hvx hvo hFA how) (cwV 2 htb (gd_V kw_735 kw_588 kw_589 kw_149 kw_1440) rfl rfl rfl (by decide +kernel) ⟨Nat.le_of_ble_eq_true rfl, Nat.le_of_ble_eq_true rfl⟩) hvx (by decide) (by decide) rfl rfl hl.1 rfl (Nat.le_trans cs_n (by decide)) dX6_has_6 ⟨Nat.le_of_ble_eq_true rfl, Nat.le_of_ble_eq_true rfl⟩ hK hP hD hS hA hG (fun E ce q9 u_3 H locs hw hP hD hS hce hcv hcl => ?_) (fun v9 u_3 H locs hw hP hD hS => ?_)
  · exact hw.elim
  obtain ⟨r_2, rfl, rfl, hr_2, fH_r_2⟩ := hw
  have hP : va_P (dC, dI) vwCl (cW ad cid a2 lx sg gm lg) H := hP
  have hD : va_D A (cW ad cid a2 lx sg gm lg) := hD
  refine W.eq (g2 := F0 m 9 ls [.int r_2]) rfl ?_
  exact W.nb (fun hN => W.widen (k := 1) (n := 6) (by decide) (by decide) (vx_ret (W.zret (v := r_2) hx hb hr (iv_nb hr_2) (fun t ht hW => ⟨⟨some (.int r_2), (sg, gm, lg), rfl, ⟨r_2, rfl, rfl, hr_2, ((by unfold aH; rw [← ez_1]; exact fH_r_2.elim (fun q => by rw [if_pos ((hsk_h hat).mp q.2)]; exact q.1) (fun q => by rw [if_neg (fun w9 => q.2 ((hsk_h hat).mpr w9))]; exact q.1)))⟩, by rw [ht]; exact hP, va_K.moved hW.alike hK, hD⟩, hS.F ht, by rw [ht]; exact hN⟩) hS.2.2 dX6_has_9)))

set_option maxHeartbeats 4000000 in
set_option maxRecDepth 100000 in
theorem d_letterValue2 (l : Launch) (dC : Nat → ClassId) (dI : Nat → Nat → Nat) (ad : Nat → Nat → Nat) (cid : Nat → ClassId) (a2 : Nat → Nat) (lx : List Nat) (sg : Nat → Int32) (gm : Nat → Nat → Int32) (lg : Nat → Nat → Int64) (x : Int32) (o : Int32) (w : Int32) (A7 : At7) (hI : CI sg gm) (hvx : iv 0 0 x) (hvo : iv 0 79 o) (hvw : iv 0 33 w) (hFA : FA sg gm) (how : o.toInt < (sg 4).toInt) (hVS : VS sg gm) (hat : ATC A7 gm lg o.toNatClampNeg (sg 5).toInt (sg 6).toInt) : CMt dC dI ad cid a2 lx l yX6_letterValue wm_X6_letterValue ({ frames := 1, cells := 1, slots := 6, locals := 23 }) [eV (ad 1) x, eV (ad 9) o, eV (ad 33) w] sg gm lg (fun v u => ∃ r : Int32, v = some (.int r) ∧ u = (sg, gm, lg) ∧ (iv (-1) 25 r) ∧ (r.toInt = lv7 A7 (wKy.getD w.toNatClampNeg 0))) (fun _ _ => False) := by
  intro sz
  refine vx_ofW (cc := cX6_letterValue) (maxL := 5) (ret := (some .int)) (by decide) rfl ?_
  intro p e s m args below meth c s₁ B hml hxt hv
  obtain ⟨rfl, hsz, hP, hK, hD0, hG⟩ := hv
  have hx := B.exec
  have hb := B.bytes
  have hr := B.returns
  have hts := atoms_spec (ws := wm_X6_letterValue) B.pre
  have htb := fun (w : Cond) (h : w ∈ tb) => hts w (List.mem_cons_of_mem _ h)
  have hown : s.vm.findClass RX6 = some m.cls := findClass_of_methodNamed B.named
  have hlocks := B.notSynchronized
  subst hsz
  have hD := hD0.self (sz := s.heap.size)
  generalize hAe : va_A (cW ad cid a2 lx sg gm lg) s.heap.size = A at hD hG ⊢
  have hA : ∀ q : Nat, s.heap.size ≤ q → A q := fun q h => by rw [← hAe]; exact Or.inr h
  have hS : va_S A s.heap s.heap [] := va_S.rf
  have hl := lv_entry ([eV (ad 1) x, eV (ad 9) o, eV (ad 33) w]) (n := 5) (by rw [show (lg_sl ([eV (ad 1) x, eV (ad 9) o, eV (ad 33) w])).length = 3 from by simp [lg_sl, eV_cat, cat_i, cat_l]]; exact Nat.le_of_ble_eq_true rfl)
  rw [lg_entry_eq]
  generalize (lg_sl ([eV (ad 1) x, eV (ad 9) o, eV (ad 33) w]) ++ List.replicate (5 - (lg_sl ([eV (ad 1) x, eV (ad 9) o, eV (ad 33) w])).length) Slot.unset).toArray = ls at hl ⊢
  have hl : lv_has ls 5 [(0, eV (ad 1) x), (1, eV (ad 9) o), (2, eV (ad 33) w)] := by simp [lv_args, eV_cat, cat_i, cat_l] at hl; exact hl
  have hj49 : ∀ (x4_49 : Int32) (x3_49 : Int32) (y0_49 : Int32) (_ : iv 0 65535 x4_49) (_ : iv 0 239 x3_49) (_ : iv 0 0 x) (_ : iv 0 79 o) (_ : iv 0 33 w) (_ : iv (-1) 25 y0_49) (_ : y0_49.toInt = lv7 A7 (wKy.getD w.toNatClampNeg 0)) (H : Heap) (locs : List Loc) (ls : Array Slot), va_P (dC, dI) vwCl (cW ad cid a2 lx sg gm lg) H → va_D A (cW ad cid a2 lx sg gm lg) → va_S A s.heap H locs → lv_has ls 5 [(4, .int x4_49), (3, .int x3_49), (0, eV (ad 1) x), (1, eV (ad 9) o), (2, eV (ad 33) w)] → W p l e (headSpec wm_X6_letterValue ({ frames := 1, cells := 1, slots := 6, locals := 23 })).room s m ([eV (ad 1) x, eV (ad 9) o, eV (ad 33) w] : List Value).toArray below meth c H locs 0 0 (vx_MQ below (cQx dC dI ad cid a2 lx (fun v u => ∃ r : Int32, v = some (.int r) ∧ u = (sg, gm, lg) ∧ (iv (-1) 25 r) ∧ (r.toInt = lv7 A7 (wKy.getD w.toNatClampNeg 0))) A) (cX dC dI ad cid a2 lx (fun _ _ => False) A) ([eV (ad 1) x, eV (ad 9) o, eV (ad 33) w] : List Value).toArray s 1 6 A) (F0 m 49 ls [.int y0_49]) := by
    intro x4_49 x3_49 y0_49 hx4_49 hx3_49 hsx0_49 hsx1_49 hsx2_49 hy0_49 hR49 H locs ls hP hD hS hl
    exact W.nb (fun hN => W.widen (k := 1) (n := 6) (by decide) (by decide) (vx_ret (W.iret (v := y0_49) hx hb hr (fun t ht hW => ⟨⟨some (.int y0_49), (sg, gm, lg), rfl, ⟨y0_49, rfl, rfl, hy0_49, (hR49)⟩, by rw [ht]; exact hP, va_K.moved hW.alike hK, hD⟩, hS.F ht, by rw [ht]; exact hN⟩) hS.2.2 dX6_letterValue_49)))
  have hj48 : ∀ (x4_48 : Int32) (x3_48 : Int32) (_ : iv 0 65535 x4_48) (_ : iv 0 239 x3_48) (_ : iv 0 0 x) (_ : iv 0 79 o) (_ : iv 0 33 w) (_ : lv7 A7 (wKy.getD w.toNatClampNeg 0) = -1) (H : Heap) (locs : List Loc) (ls : Array Slot), va_P (dC, dI) vwCl (cW ad cid a2 lx sg gm lg) H → va_D A (cW ad cid a2 lx sg gm lg) → va_S A s.heap H locs → lv_has ls 5 [(4, .int x4_48), (3, .int x3_48), (0, eV (ad 1) x), (1, eV (ad 9) o), (2, eV (ad 33) w)] → W p l e (headSpec wm_X6_letterValue ({ frames := 1, cells := 1, slots := 6, locals := 23 })).room s m ([eV (ad 1) x, eV (ad 9) o, eV (ad 33) w] : List Value).toArray below meth c H locs 0 0 (vx_MQ below (cQx dC dI ad cid a2 lx (fun v u => ∃ r : Int32, v = some (.int r) ∧ u = (sg, gm, lg) ∧ (iv (-1) 25 r) ∧ (r.toInt = lv7 A7 (wKy.getD w.toNatClampNeg 0))) A) (cX dC dI ad cid a2 lx (fun _ _ => False) A) ([eV (ad 1) x, eV (ad 9) o, eV (ad 33) w] : List Value).toArray s 1 6 A) (F0 m 48 ls []) := by
    intro x4_48 x3_48 hx4_48 hx3_48 hsx0_48 hsx1_48 hsx2_48 hN48 H locs ls hP hD hS hl
    refine lv_iconst (v := (-1)) hx hb dX6_letterValue_48 (by decide) ?_
    exact hj49 x4_48 x3_48 (-1) hx4_48 hx3_48 hsx0_48 hsx1_48 hsx2_48 (iv_w (iv_k (by decide) : iv (-1) (-1) (-1)) (by decide)) ((by rw [hN48]; decide)) _ _ _ hP hD hS (lv_sub hl [0, 1, 2, 3, 4] rfl)
  refine ec_aload_n hx hb dX6_letterValue_0 rfl (lv_at hl 0 rfl) ?_
  refine ec_aload_n hx hb dX6_letterValue_1 rfl (lv_at hl 1 rfl) ?_
  refine ec_aload_n hx hb dX6_letterValue_2 rfl (lv_at hl 2 rfl) ?_
  refine cm_callV (t := 1) (C := RX6) (T := TX6) (N := 8) (rest := []) (as := [eV (ad 9) o, eV (ad 33) w]) ⟨hx, hb, hml, hown, htb⟩ (d_find l dC dI ad cid a2 lx sg gm lg x o w hI hvx hvo hvw hFA how) (cwV 2 htb (gd_V kw_683 kw_684 kw_25 kw_149 kw_1474) rfl rfl rfl (by decide +kernel) ⟨Nat.le_of_ble_eq_true rfl, Nat.le_of_ble_eq_true rfl⟩) hvx (by decide) (by decide) rfl rfl hl.1 rfl (Nat.le_trans cs_n (by decide)) dX6_letterValue_3 ⟨Nat.le_of_ble_eq_true rfl, Nat.le_of_ble_eq_true rfl⟩ hK hP hD hS hA hG (fun E ce q9 u_2 H locs hw hP hD hS hce hcv hcl => ?_) (fun v9 u_2 H locs hw hP hD hS => ?_)
  · exact hw.elim
  obtain ⟨r_1, rfl, rfl, hr_1, fF_r_1, fLt_r_1⟩ := hw
  have hP : va_P (dC, dI) vwCl (cW ad cid a2 lx sg gm lg) H := hP
  have hD : va_D A (cW ad cid a2 lx sg gm lg) := hD
  refine W.eq (g2 := F0 m 6 ls [.int r_1]) rfl ?_
  refine lv_istore_n (i := 3) (lv' := [(3, .int r_1), (0, eV (ad 1) x), (1, eV (ad 9) o), (2, eV (ad 33) w)]) hx hb dX6_letterValue_6 rfl hl (by decide) (by simp [List.filter, eV_cat, cat_i, cat_l]) (fun ls hl => ?_)
  refine ec_aload_n hx hb dX6_letterValue_7 rfl (lv_at hl 1 rfl) ?_
  refine lv_iload_n hx hb dX6_letterValue_8 rfl (lv_at hl 0 rfl) ?_
  refine cm_callV (t := 1) (C := RX6) (T := TX6) (N := 8) (rest := []) (as := [.int r_1]) ⟨hx, hb, hml, hown, htb⟩ (d_valueLength l dC dI ad cid a2 lx sg gm lg x r_1 hI hvx hr_1) (cwV 1 htb (gd_V kw_685 kw_686 kw_26 kw_149 kw_1475) rfl rfl rfl (by decide +kernel) ⟨Nat.le_of_ble_eq_true rfl, Nat.le_of_ble_eq_true rfl⟩) hvx (by decide) (by decide) rfl rfl hl.1 rfl (Nat.le_trans cs_n (by decide)) dX6_letterValue_9 ⟨Nat.le_of_ble_eq_true rfl, Nat.le_of_ble_eq_true rfl⟩ hK hP hD hS hA hG (fun E ce q9 u_5 H locs hw hP hD hS hce hcv hcl => ?_) (fun v9 u_5 H locs hw hP hD hS => ?_)
  · exact hw.elim
  obtain ⟨r_4, rfl, rfl, hr_4, fV_r_4⟩ := hw
  have hP : va_P (dC, dI) vwCl (cW ad cid a2 lx sg gm lg) H := hP
  have hD : va_D A (cW ad cid a2 lx sg gm lg) := hD
  refine W.eq (g2 := F0 m 12 ls [.int r_4]) rfl ?_
  refine lv_iconst (v := 1) hx hb dX6_letterValue_12 (by decide) ?_
  refine lv_icmp_eq (tgt := 18) hx hb dX6_letterValue_13 (by decide) (fun c_7 => ?_) (fun c_7 => ?_)
  · have h_8 : iv 1 1 r_4 := iv_eq c_7 hr_4 (iv_k (by decide) : iv 1 1 1) (by decide)
    obtain ⟨h9z, h9e⟩ : 0 ≤ r_1.toInt ∧ r_4 = gm 45 r_1.toNatClampNeg := fV_r_4.resolve_left (fun q9 => by have := q9.2; have := i32_0; have := i32_1; have := i32_2; have := i32_m1; have := (hvx).1; have := (hvx).2; have := (hvo).1; have := (hvo).2; have := (hvw).1; have := (hvw).2; have := (hr_1).1; have := (hr_1).2; have := (h_8).1; have := (h_8).2; omega)
    have h9p : iv 0 239 r_1 := ⟨h9z, (hr_1).2⟩
    refine ec_aload_n hx hb dX6_letterValue_18 rfl (lv_at hl 1 rfl) ?_
    refine lv_iload_n hx hb dX6_letterValue_19 rfl (lv_at hl 0 rfl) ?_
    refine lv_iconst (v := 0) hx hb dX6_letterValue_20 (by decide) ?_
    refine cm_callV (t := 1) (C := RX6) (T := TX6) (N := 8) (rest := []) (as := [.int r_1, .int 0]) ⟨hx, hb, hml, hown, htb⟩ (d_valueChar l dC dI ad cid a2 lx sg gm lg x r_1 0 hI hvx h9p (iv_w (iv_k (by decide) : iv 0 0 0) (by decide)) hVS fLt_r_1 (by rw [← h9e]; have q8 : (0 : Int32).toInt = 0 := (by decide); have := i32_0; have := i32_1; have := i32_2; have := i32_m1; have := (hvx).1; have := (hvx).2; have := (hvo).1; have := (hvo).2; have := (hvw).1; have := (hvw).2; have := (h9p).1; have := (h9p).2; have := (h_8).1; have := (h_8).2; omega)) (cwV 2 htb (gd_V kw_687 kw_688 kw_27 kw_149 kw_1476) rfl rfl rfl (by decide +kernel) ⟨Nat.le_of_ble_eq_true rfl, Nat.le_of_ble_eq_true rfl⟩) hvx (by decide) (by decide) rfl rfl hl.1 rfl (Nat.le_trans cs_n (by decide)) dX6_letterValue_21 ⟨Nat.le_of_ble_eq_true rfl, Nat.le_of_ble_eq_true rfl⟩ hK hP hD hS hA hG (fun E ce q9 u_10 H locs hw hP hD hS hce hcv hcl => ?_) (fun v9 u_10 H locs hw hP hD hS => ?_)
    · exact hw.elim
    obtain ⟨r_9, rfl, rfl, hr_9, fC_r_9⟩ := hw
    have hP : va_P (dC, dI) vwCl (cW ad cid a2 lx sg gm lg) H := hP
    have hD : va_D A (cW ad cid a2 lx sg gm lg) := hD
    refine W.eq (g2 := F0 m 24 ls [.int r_9]) rfl ?_
    refine lv_istore (i := 4) (lv' := [(4, .int r_9), (3, .int r_1), (0, eV (ad 1) x), (1, eV (ad 9) o), (2, eV (ad 33) w)]) hx hb dX6_letterValue_24 hl (by decide) rfl (fun ls hl => ?_)
    refine lv_iload hx hb dX6_letterValue_26 (lv_at hl 0 rfl) ?_
    refine lv_bipush (v := 97) hx hb dX6_letterValue_28 (by decide) ?_
    refine lv_icmp_lt (tgt := 48) hx hb dX6_letterValue_30 (by decide) (fun c_12 => ?_) (fun c_12 => ?_)
    · have h_13 : iv 0 96 r_9 := iv_ltL c_12 hr_9 (iv_k (by decide) : iv 97 97 97) (by decide)
      exact hj48 r_9 r_1 (iv_w h_13 (by decide)) h9p hvx hvo hvw ((by rw [(lv_s (v_1 fF_r_1 hat h9z (by rw [← h9e]; have := i32_0; have := i32_1; have := i32_2; have := i32_m1; have := (hvx).1; have := (hvx).2; have := (hvo).1; have := (hvo).2; have := (hvw).1; have := (hvw).2; have := (h9p).1; have := (h9p).2; have := (h_8).1; have := (h_8).2; have := (h_13).1; have := (h_13).2; omega) fC_r_9)).1, if_neg (by have := i32_0; have := i32_1; have := i32_2; have := i32_m1; have := (hvx).1; have := (hvx).2; have := (hvo).1; have := (hvo).2; have := (hvw).1; have := (hvw).2; have := (h9p).1; have := (h9p).2; have := (h_8).1; have := (h_8).2; have := (h_13).1; have := (h_13).2; omega)])) _ _ _ hP hD hS (lv_sub hl [0, 1, 2, 3, 4] rfl)
    · have h_14 : iv 97 65535 r_9 := iv_leR (i32_ge c_12) (iv_k (by decide) : iv 97 97 97) hr_9 (by decide)
      refine lv_iload hx hb dX6_letterValue_33 (lv_at hl 0 rfl) ?_
      refine lv_bipush (v := 122) hx hb dX6_letterValue_35 (by decide) ?_
      refine lv_icmp_gt (tgt := 48) hx hb dX6_letterValue_37 (by decide) (fun c_15 => ?_) (fun c_15 => ?_)
      · have h_16 : iv 123 65535 r_9 := iv_ltR c_15 (iv_k (by decide) : iv 122 122 122) h_14 (by decide)
        exact hj48 r_9 r_1 (iv_w h_16 (by decide)) h9p hvx hvo hvw ((by rw [(lv_s (v_1 fF_r_1 hat h9z (by rw [← h9e]; have := i32_0; have := i32_1; have := i32_2; have := i32_m1; have := (hvx).1; have := (hvx).2; have := (hvo).1; have := (hvo).2; have := (hvw).1; have := (hvw).2; have := (h9p).1; have := (h9p).2; have := (h_8).1; have := (h_8).2; have := (h_16).1; have := (h_16).2; omega) fC_r_9)).1, if_neg (by have := i32_0; have := i32_1; have := i32_2; have := i32_m1; have := (hvx).1; have := (hvx).2; have := (hvo).1; have := (hvo).2; have := (hvw).1; have := (hvw).2; have := (h9p).1; have := (h9p).2; have := (h_8).1; have := (h_8).2; have := (h_16).1; have := (h_16).2; omega)])) _ _ _ hP hD hS (lv_sub hl [0, 1, 2, 3, 4] rfl)
      · have h_17 : iv 97 122 r_9 := iv_leL (i32_ge c_15) h_14 (iv_k (by decide) : iv 122 122 122) (by decide)
        refine lv_iload hx hb dX6_letterValue_40 (lv_at hl 0 rfl) ?_
        refine lv_bipush (v := 97) hx hb dX6_letterValue_42 (by decide) ?_
        refine lv_isub hx hb dX6_letterValue_44 ?_
        refine lv_topi (fun z_18 ez_18 => ?_)
        have hz_18 : iv 0 25 z_18 := iv_of ez_18 (iv_sub h_17 (iv_k (by decide) : iv 97 97 97) (by decide))
        have tz_18 : z_18.toInt = (r_9 : Int32).toInt - 97 := by rw [ez_18]; exact iv_subE h_17 (iv_k (by decide) : iv 97 97 97) (by decide)
        refine lv_goto (tgt := 49) hx hb dX6_letterValue_45 (by decide) ?_
        exact hj49 r_9 r_1 z_18 (iv_w h_17 (by decide)) h9p hvx hvo hvw (iv_w hz_18 (by decide)) ((by rw [(lv_s (v_1 fF_r_1 hat h9z (by rw [← h9e]; have := i32_0; have := i32_1; have := i32_2; have := i32_m1; have := (hvx).1; have := (hvx).2; have := (hvo).1; have := (hvo).2; have := (hvw).1; have := (hvw).2; have := (h9p).1; have := (h9p).2; have := (h_8).1; have := (h_8).2; have := (h_17).1; have := (h_17).2; have := (hz_18).1; have := (hz_18).2; omega) fC_r_9)).1, if_pos ⟨(by have := i32_0; have := i32_1; have := i32_2; have := i32_m1; have := (hvx).1; have := (hvx).2; have := (hvo).1; have := (hvo).2; have := (hvw).1; have := (hvw).2; have := (h9p).1; have := (h9p).2; have := (h_8).1; have := (h_8).2; have := (h_17).1; have := (h_17).2; have := (hz_18).1; have := (hz_18).2; omega), (by have := i32_0; have := i32_1; have := i32_2; have := i32_m1; have := (hvx).1; have := (hvx).2; have := (hvo).1; have := (hvo).2; have := (hvw).1; have := (hvw).2; have := (h9p).1; have := (h9p).2; have := (h_8).1; have := (h_8).2; have := (h_17).1; have := (h_17).2; have := (hz_18).1; have := (hz_18).2; omega)⟩]; have := i32_0; have := i32_1; have := i32_2; have := i32_m1; have := (hvx).1; have := (hvx).2; have := (hvo).1; have := (hvo).2; have := (hvw).1; have := (hvw).2; have := (h9p).1; have := (h9p).2; have := (h_8).1; have := (h_8).2; have := (h_17).1; have := (h_17).2; have := (hz_18).1; have := (hz_18).2; omega)) _ _ _ hP hD hS (lv_sub hl [0, 1, 2, 3, 4] rfl)
  · have d_19 : ¬ (r_4 : Int32).toInt = 1 := lv_neT c_7 rfl
    refine lv_iconst (v := (-1)) hx hb dX6_letterValue_16 (by decide) ?_
    exact W.nb (fun hN => W.widen (k := 1) (n := 6) (by decide) (by decide) (vx_ret (W.iret (v := (-1)) hx hb hr (fun t ht hW => ⟨⟨some (.int (-1)), (sg, gm, lg), rfl, ⟨(-1), rfl, rfl, (iv_w (iv_k (by decide) : iv (-1) (-1) (-1)) (by decide)), ((by rw [(lv_n fF_r_1 hat fV_r_4 (by have := i32_0; have := i32_1; have := i32_2; have := i32_m1; have := (hvx).1; have := (hvx).2; have := (hvo).1; have := (hvo).2; have := (hvw).1; have := (hvw).2; have := (hr_1).1; have := (hr_1).2; have := (hr_4).1; have := (hr_4).2; omega)).1]; decide))⟩, by rw [ht]; exact hP, va_K.moved hW.alike hK, hD⟩, hS.F ht, by rw [ht]; exact hN⟩) hS.2.2 dX6_letterValue_17)))

set_option maxHeartbeats 4000000 in
set_option maxRecDepth 100000 in
theorem d_placeValue2 (l : Launch) (dC : Nat → ClassId) (dI : Nat → Nat → Nat) (ad : Nat → Nat → Nat) (cid : Nat → ClassId) (a2 : Nat → Nat) (lx : List Nat) (sg : Nat → Int32) (gm : Nat → Nat → Int32) (lg : Nat → Nat → Int64) (x : Int32) (o : Int32) (w : Int32) (A7 : At7) (hI : CI sg gm) (hvx : iv 0 0 x) (hvo : iv 0 79 o) (hvw : iv 0 33 w) (hFA : FA sg gm) (how : o.toInt < (sg 4).toInt) (hVS : VS sg gm) (hat : ATC A7 gm lg o.toNatClampNeg (sg 5).toInt (sg 6).toInt) : CMt dC dI ad cid a2 lx l yX6_placeValue wm_X6_placeValue ({ frames := 1, cells := 1, slots := 6, locals := 23 }) [eV (ad 1) x, eV (ad 9) o, eV (ad 33) w] sg gm lg (fun v u => ∃ r : Int32, v = some (.int r) ∧ u = (sg, gm, lg) ∧ (iv (-1) 2 r) ∧ (r.toInt = pl7 A7 (wKy.getD w.toNatClampNeg 0))) (fun _ _ => False) := by
  intro sz
  refine vx_ofW (cc := cX6_placeValue) (maxL := 5) (ret := (some .int)) (by decide) rfl ?_
  intro p e s m args below meth c s₁ B hml hxt hv
  obtain ⟨rfl, hsz, hP, hK, hD0, hG⟩ := hv
  have hx := B.exec
  have hb := B.bytes
  have hr := B.returns
  have hts := atoms_spec (ws := wm_X6_placeValue) B.pre
  have htb := fun (w : Cond) (h : w ∈ tb) => hts w (List.mem_cons_of_mem _ h)
  have hown : s.vm.findClass RX6 = some m.cls := findClass_of_methodNamed B.named
  have hlocks := B.notSynchronized
  subst hsz
  have hD := hD0.self (sz := s.heap.size)
  generalize hAe : va_A (cW ad cid a2 lx sg gm lg) s.heap.size = A at hD hG ⊢
  have hA : ∀ q : Nat, s.heap.size ≤ q → A q := fun q h => by rw [← hAe]; exact Or.inr h
  have hS : va_S A s.heap s.heap [] := va_S.rf
  have hl := lv_entry ([eV (ad 1) x, eV (ad 9) o, eV (ad 33) w]) (n := 5) (by rw [show (lg_sl ([eV (ad 1) x, eV (ad 9) o, eV (ad 33) w])).length = 3 from by simp [lg_sl, eV_cat, cat_i, cat_l]]; exact Nat.le_of_ble_eq_true rfl)
  rw [lg_entry_eq]
  generalize (lg_sl ([eV (ad 1) x, eV (ad 9) o, eV (ad 33) w]) ++ List.replicate (5 - (lg_sl ([eV (ad 1) x, eV (ad 9) o, eV (ad 33) w])).length) Slot.unset).toArray = ls at hl ⊢
  have hl : lv_has ls 5 [(0, eV (ad 1) x), (1, eV (ad 9) o), (2, eV (ad 33) w)] := by simp [lv_args, eV_cat, cat_i, cat_l] at hl; exact hl
  have hj49 : ∀ (x4_49 : Int32) (x3_49 : Int32) (y0_49 : Int32) (_ : iv 0 65535 x4_49) (_ : iv 0 239 x3_49) (_ : iv 0 0 x) (_ : iv 0 79 o) (_ : iv 0 33 w) (_ : iv (-1) 2 y0_49) (_ : y0_49.toInt = pl7 A7 (wKy.getD w.toNatClampNeg 0)) (H : Heap) (locs : List Loc) (ls : Array Slot), va_P (dC, dI) vwCl (cW ad cid a2 lx sg gm lg) H → va_D A (cW ad cid a2 lx sg gm lg) → va_S A s.heap H locs → lv_has ls 5 [(4, .int x4_49), (3, .int x3_49), (0, eV (ad 1) x), (1, eV (ad 9) o), (2, eV (ad 33) w)] → W p l e (headSpec wm_X6_placeValue ({ frames := 1, cells := 1, slots := 6, locals := 23 })).room s m ([eV (ad 1) x, eV (ad 9) o, eV (ad 33) w] : List Value).toArray below meth c H locs 0 0 (vx_MQ below (cQx dC dI ad cid a2 lx (fun v u => ∃ r : Int32, v = some (.int r) ∧ u = (sg, gm, lg) ∧ (iv (-1) 2 r) ∧ (r.toInt = pl7 A7 (wKy.getD w.toNatClampNeg 0))) A) (cX dC dI ad cid a2 lx (fun _ _ => False) A) ([eV (ad 1) x, eV (ad 9) o, eV (ad 33) w] : List Value).toArray s 1 6 A) (F0 m 49 ls [.int y0_49]) := by
    intro x4_49 x3_49 y0_49 hx4_49 hx3_49 hsx0_49 hsx1_49 hsx2_49 hy0_49 hR49 H locs ls hP hD hS hl
    exact W.nb (fun hN => W.widen (k := 1) (n := 6) (by decide) (by decide) (vx_ret (W.iret (v := y0_49) hx hb hr (fun t ht hW => ⟨⟨some (.int y0_49), (sg, gm, lg), rfl, ⟨y0_49, rfl, rfl, hy0_49, (hR49)⟩, by rw [ht]; exact hP, va_K.moved hW.alike hK, hD⟩, hS.F ht, by rw [ht]; exact hN⟩) hS.2.2 dX6_placeValue_49)))
  have hj48 : ∀ (x4_48 : Int32) (x3_48 : Int32) (_ : iv 0 65535 x4_48) (_ : iv 0 239 x3_48) (_ : iv 0 0 x) (_ : iv 0 79 o) (_ : iv 0 33 w) (_ : pl7 A7 (wKy.getD w.toNatClampNeg 0) = -1) (H : Heap) (locs : List Loc) (ls : Array Slot), va_P (dC, dI) vwCl (cW ad cid a2 lx sg gm lg) H → va_D A (cW ad cid a2 lx sg gm lg) → va_S A s.heap H locs → lv_has ls 5 [(4, .int x4_48), (3, .int x3_48), (0, eV (ad 1) x), (1, eV (ad 9) o), (2, eV (ad 33) w)] → W p l e (headSpec wm_X6_placeValue ({ frames := 1, cells := 1, slots := 6, locals := 23 })).room s m ([eV (ad 1) x, eV (ad 9) o, eV (ad 33) w] : List Value).toArray below meth c H locs 0 0 (vx_MQ below (cQx dC dI ad cid a2 lx (fun v u => ∃ r : Int32, v = some (.int r) ∧ u = (sg, gm, lg) ∧ (iv (-1) 2 r) ∧ (r.toInt = pl7 A7 (wKy.getD w.toNatClampNeg 0))) A) (cX dC dI ad cid a2 lx (fun _ _ => False) A) ([eV (ad 1) x, eV (ad 9) o, eV (ad 33) w] : List Value).toArray s 1 6 A) (F0 m 48 ls []) := by
    intro x4_48 x3_48 hx4_48 hx3_48 hsx0_48 hsx1_48 hsx2_48 hN48 H locs ls hP hD hS hl
    refine lv_iconst (v := (-1)) hx hb dX6_placeValue_48 (by decide) ?_
    exact hj49 x4_48 x3_48 (-1) hx4_48 hx3_48 hsx0_48 hsx1_48 hsx2_48 (iv_w (iv_k (by decide) : iv (-1) (-1) (-1)) (by decide)) ((by rw [hN48]; decide)) _ _ _ hP hD hS (lv_sub hl [0, 1, 2, 3, 4] rfl)
  refine ec_aload_n hx hb dX6_placeValue_0 rfl (lv_at hl 0 rfl) ?_
  refine ec_aload_n hx hb dX6_placeValue_1 rfl (lv_at hl 1 rfl) ?_
  refine ec_aload_n hx hb dX6_placeValue_2 rfl (lv_at hl 2 rfl) ?_
  refine cm_callV (t := 1) (C := RX6) (T := TX6) (N := 8) (rest := []) (as := [eV (ad 9) o, eV (ad 33) w]) ⟨hx, hb, hml, hown, htb⟩ (d_find l dC dI ad cid a2 lx sg gm lg x o w hI hvx hvo hvw hFA how) (cwV 2 htb (gd_V kw_683 kw_684 kw_25 kw_149 kw_1474) rfl rfl rfl (by decide +kernel) ⟨Nat.le_of_ble_eq_true rfl, Nat.le_of_ble_eq_true rfl⟩) hvx (by decide) (by decide) rfl rfl hl.1 rfl (Nat.le_trans cs_n (by decide)) dX6_placeValue_3 ⟨Nat.le_of_ble_eq_true rfl, Nat.le_of_ble_eq_true rfl⟩ hK hP hD hS hA hG (fun E ce q9 u_2 H locs hw hP hD hS hce hcv hcl => ?_) (fun v9 u_2 H locs hw hP hD hS => ?_)
  · exact hw.elim
  obtain ⟨r_1, rfl, rfl, hr_1, fF_r_1, fLt_r_1⟩ := hw
  have hP : va_P (dC, dI) vwCl (cW ad cid a2 lx sg gm lg) H := hP
  have hD : va_D A (cW ad cid a2 lx sg gm lg) := hD
  refine W.eq (g2 := F0 m 6 ls [.int r_1]) rfl ?_
  refine lv_istore_n (i := 3) (lv' := [(3, .int r_1), (0, eV (ad 1) x), (1, eV (ad 9) o), (2, eV (ad 33) w)]) hx hb dX6_placeValue_6 rfl hl (by decide) (by simp [List.filter, eV_cat, cat_i, cat_l]) (fun ls hl => ?_)
  refine ec_aload_n hx hb dX6_placeValue_7 rfl (lv_at hl 1 rfl) ?_
  refine lv_iload_n hx hb dX6_placeValue_8 rfl (lv_at hl 0 rfl) ?_
  refine cm_callV (t := 1) (C := RX6) (T := TX6) (N := 8) (rest := []) (as := [.int r_1]) ⟨hx, hb, hml, hown, htb⟩ (d_valueLength l dC dI ad cid a2 lx sg gm lg x r_1 hI hvx hr_1) (cwV 1 htb (gd_V kw_685 kw_686 kw_26 kw_149 kw_1475) rfl rfl rfl (by decide +kernel) ⟨Nat.le_of_ble_eq_true rfl, Nat.le_of_ble_eq_true rfl⟩) hvx (by decide) (by decide) rfl rfl hl.1 rfl (Nat.le_trans cs_n (by decide)) dX6_placeValue_9 ⟨Nat.le_of_ble_eq_true rfl, Nat.le_of_ble_eq_true rfl⟩ hK hP hD hS hA hG (fun E ce q9 u_5 H locs hw hP hD hS hce hcv hcl => ?_) (fun v9 u_5 H locs hw hP hD hS => ?_)
  · exact hw.elim
  obtain ⟨r_4, rfl, rfl, hr_4, fV_r_4⟩ := hw
  have hP : va_P (dC, dI) vwCl (cW ad cid a2 lx sg gm lg) H := hP
  have hD : va_D A (cW ad cid a2 lx sg gm lg) := hD
  refine W.eq (g2 := F0 m 12 ls [.int r_4]) rfl ?_
  refine lv_iconst (v := 1) hx hb dX6_placeValue_12 (by decide) ?_
  refine lv_icmp_eq (tgt := 18) hx hb dX6_placeValue_13 (by decide) (fun c_7 => ?_) (fun c_7 => ?_)
  · have h_8 : iv 1 1 r_4 := iv_eq c_7 hr_4 (iv_k (by decide) : iv 1 1 1) (by decide)
    obtain ⟨h9z, h9e⟩ : 0 ≤ r_1.toInt ∧ r_4 = gm 45 r_1.toNatClampNeg := fV_r_4.resolve_left (fun q9 => by have := q9.2; have := i32_0; have := i32_1; have := i32_2; have := i32_m1; have := (hvx).1; have := (hvx).2; have := (hvo).1; have := (hvo).2; have := (hvw).1; have := (hvw).2; have := (hr_1).1; have := (hr_1).2; have := (h_8).1; have := (h_8).2; omega)
    have h9p : iv 0 239 r_1 := ⟨h9z, (hr_1).2⟩
    refine ec_aload_n hx hb dX6_placeValue_18 rfl (lv_at hl 1 rfl) ?_
    refine lv_iload_n hx hb dX6_placeValue_19 rfl (lv_at hl 0 rfl) ?_
    refine lv_iconst (v := 0) hx hb dX6_placeValue_20 (by decide) ?_
    refine cm_callV (t := 1) (C := RX6) (T := TX6) (N := 8) (rest := []) (as := [.int r_1, .int 0]) ⟨hx, hb, hml, hown, htb⟩ (d_valueChar l dC dI ad cid a2 lx sg gm lg x r_1 0 hI hvx h9p (iv_w (iv_k (by decide) : iv 0 0 0) (by decide)) hVS fLt_r_1 (by rw [← h9e]; have q8 : (0 : Int32).toInt = 0 := (by decide); have := i32_0; have := i32_1; have := i32_2; have := i32_m1; have := (hvx).1; have := (hvx).2; have := (hvo).1; have := (hvo).2; have := (hvw).1; have := (hvw).2; have := (h9p).1; have := (h9p).2; have := (h_8).1; have := (h_8).2; omega)) (cwV 2 htb (gd_V kw_687 kw_688 kw_27 kw_149 kw_1476) rfl rfl rfl (by decide +kernel) ⟨Nat.le_of_ble_eq_true rfl, Nat.le_of_ble_eq_true rfl⟩) hvx (by decide) (by decide) rfl rfl hl.1 rfl (Nat.le_trans cs_n (by decide)) dX6_placeValue_21 ⟨Nat.le_of_ble_eq_true rfl, Nat.le_of_ble_eq_true rfl⟩ hK hP hD hS hA hG (fun E ce q9 u_10 H locs hw hP hD hS hce hcv hcl => ?_) (fun v9 u_10 H locs hw hP hD hS => ?_)
    · exact hw.elim
    obtain ⟨r_9, rfl, rfl, hr_9, fC_r_9⟩ := hw
    have hP : va_P (dC, dI) vwCl (cW ad cid a2 lx sg gm lg) H := hP
    have hD : va_D A (cW ad cid a2 lx sg gm lg) := hD
    refine W.eq (g2 := F0 m 24 ls [.int r_9]) rfl ?_
    refine lv_istore (i := 4) (lv' := [(4, .int r_9), (3, .int r_1), (0, eV (ad 1) x), (1, eV (ad 9) o), (2, eV (ad 33) w)]) hx hb dX6_placeValue_24 hl (by decide) rfl (fun ls hl => ?_)
    refine lv_iload hx hb dX6_placeValue_26 (lv_at hl 0 rfl) ?_
    refine lv_bipush (v := 48) hx hb dX6_placeValue_28 (by decide) ?_
    refine lv_icmp_lt (tgt := 48) hx hb dX6_placeValue_30 (by decide) (fun c_12 => ?_) (fun c_12 => ?_)
    · have h_13 : iv 0 47 r_9 := iv_ltL c_12 hr_9 (iv_k (by decide) : iv 48 48 48) (by decide)
      exact hj48 r_9 r_1 (iv_w h_13 (by decide)) h9p hvx hvo hvw ((by rw [(lv_s (v_1 fF_r_1 hat h9z (by rw [← h9e]; have := i32_0; have := i32_1; have := i32_2; have := i32_m1; have := (hvx).1; have := (hvx).2; have := (hvo).1; have := (hvo).2; have := (hvw).1; have := (hvw).2; have := (h9p).1; have := (h9p).2; have := (h_8).1; have := (h_8).2; have := (h_13).1; have := (h_13).2; omega) fC_r_9)).2, if_neg (by have := i32_0; have := i32_1; have := i32_2; have := i32_m1; have := (hvx).1; have := (hvx).2; have := (hvo).1; have := (hvo).2; have := (hvw).1; have := (hvw).2; have := (h9p).1; have := (h9p).2; have := (h_8).1; have := (h_8).2; have := (h_13).1; have := (h_13).2; omega)])) _ _ _ hP hD hS (lv_sub hl [0, 1, 2, 3, 4] rfl)
    · have h_14 : iv 48 65535 r_9 := iv_leR (i32_ge c_12) (iv_k (by decide) : iv 48 48 48) hr_9 (by decide)
      refine lv_iload hx hb dX6_placeValue_33 (lv_at hl 0 rfl) ?_
      refine lv_bipush (v := 51) hx hb dX6_placeValue_35 (by decide) ?_
      refine lv_icmp_ge (tgt := 48) hx hb dX6_placeValue_37 (by decide) (fun c_15 => ?_) (fun c_15 => ?_)
      · have h_16 : iv 51 65535 r_9 := iv_leR c_15 (iv_k (by decide) : iv 51 51 51) h_14 (by decide)
        exact hj48 r_9 r_1 (iv_w h_16 (by decide)) h9p hvx hvo hvw ((by rw [(lv_s (v_1 fF_r_1 hat h9z (by rw [← h9e]; have := i32_0; have := i32_1; have := i32_2; have := i32_m1; have := (hvx).1; have := (hvx).2; have := (hvo).1; have := (hvo).2; have := (hvw).1; have := (hvw).2; have := (h9p).1; have := (h9p).2; have := (h_8).1; have := (h_8).2; have := (h_16).1; have := (h_16).2; omega) fC_r_9)).2, if_neg (by have := i32_0; have := i32_1; have := i32_2; have := i32_m1; have := (hvx).1; have := (hvx).2; have := (hvo).1; have := (hvo).2; have := (hvw).1; have := (hvw).2; have := (h9p).1; have := (h9p).2; have := (h_8).1; have := (h_8).2; have := (h_16).1; have := (h_16).2; omega)])) _ _ _ hP hD hS (lv_sub hl [0, 1, 2, 3, 4] rfl)
      · have h_17 : iv 48 50 r_9 := iv_ltL (i32_lt c_15) h_14 (iv_k (by decide) : iv 51 51 51) (by decide)
        refine lv_iload hx hb dX6_placeValue_40 (lv_at hl 0 rfl) ?_
        refine lv_bipush (v := 48) hx hb dX6_placeValue_42 (by decide) ?_
        refine lv_isub hx hb dX6_placeValue_44 ?_
        refine lv_topi (fun z_18 ez_18 => ?_)
        have hz_18 : iv 0 2 z_18 := iv_of ez_18 (iv_sub h_17 (iv_k (by decide) : iv 48 48 48) (by decide))
        have tz_18 : z_18.toInt = (r_9 : Int32).toInt - 48 := by rw [ez_18]; exact iv_subE h_17 (iv_k (by decide) : iv 48 48 48) (by decide)
        refine lv_goto (tgt := 49) hx hb dX6_placeValue_45 (by decide) ?_
        exact hj49 r_9 r_1 z_18 (iv_w h_17 (by decide)) h9p hvx hvo hvw (iv_w hz_18 (by decide)) ((by rw [(lv_s (v_1 fF_r_1 hat h9z (by rw [← h9e]; have := i32_0; have := i32_1; have := i32_2; have := i32_m1; have := (hvx).1; have := (hvx).2; have := (hvo).1; have := (hvo).2; have := (hvw).1; have := (hvw).2; have := (h9p).1; have := (h9p).2; have := (h_8).1; have := (h_8).2; have := (h_17).1; have := (h_17).2; have := (hz_18).1; have := (hz_18).2; omega) fC_r_9)).2, if_pos ⟨(by have := i32_0; have := i32_1; have := i32_2; have := i32_m1; have := (hvx).1; have := (hvx).2; have := (hvo).1; have := (hvo).2; have := (hvw).1; have := (hvw).2; have := (h9p).1; have := (h9p).2; have := (h_8).1; have := (h_8).2; have := (h_17).1; have := (h_17).2; have := (hz_18).1; have := (hz_18).2; omega), (by have := i32_0; have := i32_1; have := i32_2; have := i32_m1; have := (hvx).1; have := (hvx).2; have := (hvo).1; have := (hvo).2; have := (hvw).1; have := (hvw).2; have := (h9p).1; have := (h9p).2; have := (h_8).1; have := (h_8).2; have := (h_17).1; have := (h_17).2; have := (hz_18).1; have := (hz_18).2; omega)⟩]; have := i32_0; have := i32_1; have := i32_2; have := i32_m1; have := (hvx).1; have := (hvx).2; have := (hvo).1; have := (hvo).2; have := (hvw).1; have := (hvw).2; have := (h9p).1; have := (h9p).2; have := (h_8).1; have := (h_8).2; have := (h_17).1; have := (h_17).2; have := (hz_18).1; have := (hz_18).2; omega)) _ _ _ hP hD hS (lv_sub hl [0, 1, 2, 3, 4] rfl)
  · have d_19 : ¬ (r_4 : Int32).toInt = 1 := lv_neT c_7 rfl
    refine lv_iconst (v := (-1)) hx hb dX6_placeValue_16 (by decide) ?_
    exact W.nb (fun hN => W.widen (k := 1) (n := 6) (by decide) (by decide) (vx_ret (W.iret (v := (-1)) hx hb hr (fun t ht hW => ⟨⟨some (.int (-1)), (sg, gm, lg), rfl, ⟨(-1), rfl, rfl, (iv_w (iv_k (by decide) : iv (-1) (-1) (-1)) (by decide)), ((by rw [(lv_n fF_r_1 hat fV_r_4 (by have := i32_0; have := i32_1; have := i32_2; have := i32_m1; have := (hvx).1; have := (hvx).2; have := (hvo).1; have := (hvo).2; have := (hvw).1; have := (hvw).2; have := (hr_1).1; have := (hr_1).2; have := (hr_4).1; have := (hr_4).2; omega)).2]; decide))⟩, by rw [ht]; exact hP, va_K.moved hW.alike hK, hD⟩, hS.F ht, by rw [ht]; exact hN⟩) hS.2.2 dX6_placeValue_17)))

set_option maxHeartbeats 4000000 in
set_option maxRecDepth 100000 in
theorem d_classValue2 (l : Launch) (dC : Nat → ClassId) (dI : Nat → Nat → Nat) (ad : Nat → Nat → Nat) (cid : Nat → ClassId) (a2 : Nat → Nat) (lx : List Nat) (sg : Nat → Int32) (gm : Nat → Nat → Int32) (lg : Nat → Nat → Int64) (x : Int32) (o : Int32) (w : Int32) (A7 : At7) (hI : CI sg gm) (hvx : iv 0 0 x) (hvo : iv 0 79 o) (hvw : iv 0 33 w) (hFA : FA sg gm) (how : o.toInt < (sg 4).toInt) (hVS : VS sg gm) (hat : ATC A7 gm lg o.toNatClampNeg (sg 5).toInt (sg 6).toInt) : CMt dC dI ad cid a2 lx l yX6_classValue wm_X6_classValue ({ frames := 1, cells := 1, slots := 6, locals := 23 }) [eV (ad 1) x, eV (ad 9) o, eV (ad 33) w] sg gm lg (fun v u => ∃ r : Int32, v = some (.int r) ∧ u = (sg, gm, lg) ∧ (iv (-1) 7 r) ∧ (r.toInt = cv7 A7 (wKy.getD w.toNatClampNeg 0))) (fun _ _ => False) := by
  intro sz
  refine vx_ofW (cc := cX6_classValue) (maxL := 5) (ret := (some .int)) (by decide) rfl ?_
  intro p e s m args below meth c s₁ B hml hxt hv
  obtain ⟨rfl, hsz, hP, hK, hD0, hG⟩ := hv
  have hx := B.exec
  have hb := B.bytes
  have hr := B.returns
  have hts := atoms_spec (ws := wm_X6_classValue) B.pre
  have htb := fun (w : Cond) (h : w ∈ tb) => hts w (List.mem_cons_of_mem _ h)
  have hown : s.vm.findClass RX6 = some m.cls := findClass_of_methodNamed B.named
  have hlocks := B.notSynchronized
  subst hsz
  have hD := hD0.self (sz := s.heap.size)
  generalize hAe : va_A (cW ad cid a2 lx sg gm lg) s.heap.size = A at hD hG ⊢
  have hA : ∀ q : Nat, s.heap.size ≤ q → A q := fun q h => by rw [← hAe]; exact Or.inr h
  have hS : va_S A s.heap s.heap [] := va_S.rf
  have hl := lv_entry ([eV (ad 1) x, eV (ad 9) o, eV (ad 33) w]) (n := 5) (by rw [show (lg_sl ([eV (ad 1) x, eV (ad 9) o, eV (ad 33) w])).length = 3 from by simp [lg_sl, eV_cat, cat_i, cat_l]]; exact Nat.le_of_ble_eq_true rfl)
  rw [lg_entry_eq]
  generalize (lg_sl ([eV (ad 1) x, eV (ad 9) o, eV (ad 33) w]) ++ List.replicate (5 - (lg_sl ([eV (ad 1) x, eV (ad 9) o, eV (ad 33) w])).length) Slot.unset).toArray = ls at hl ⊢
  have hl : lv_has ls 5 [(0, eV (ad 1) x), (1, eV (ad 9) o), (2, eV (ad 33) w)] := by simp [lv_args, eV_cat, cat_i, cat_l] at hl; exact hl
  have hj27 : ∀ (x3_27 : Int32) (_ : iv (-1) 239 x3_27) (_ : iv 0 0 x) (_ : iv 0 79 o) (_ : iv 0 33 w) (_ : cv7 A7 (wKy.getD w.toNatClampNeg 0) = -1) (H : Heap) (locs : List Loc) (ls : Array Slot), va_P (dC, dI) vwCl (cW ad cid a2 lx sg gm lg) H → va_D A (cW ad cid a2 lx sg gm lg) → va_S A s.heap H locs → lv_has ls 5 [(3, .int x3_27), (0, eV (ad 1) x), (1, eV (ad 9) o), (2, eV (ad 33) w)] → W p l e (headSpec wm_X6_classValue ({ frames := 1, cells := 1, slots := 6, locals := 23 })).room s m ([eV (ad 1) x, eV (ad 9) o, eV (ad 33) w] : List Value).toArray below meth c H locs 0 0 (vx_MQ below (cQx dC dI ad cid a2 lx (fun v u => ∃ r : Int32, v = some (.int r) ∧ u = (sg, gm, lg) ∧ (iv (-1) 7 r) ∧ (r.toInt = cv7 A7 (wKy.getD w.toNatClampNeg 0))) A) (cX dC dI ad cid a2 lx (fun _ _ => False) A) ([eV (ad 1) x, eV (ad 9) o, eV (ad 33) w] : List Value).toArray s 1 6 A) (F0 m 27 ls []) := by
    intro x3_27 hx3_27 hsx0_27 hsx1_27 hsx2_27 hN27 H locs ls hP hD hS hl
    refine lv_iconst (v := (-1)) hx hb dX6_classValue_27 (by decide) ?_
    exact W.nb (fun hN => W.widen (k := 1) (n := 6) (by decide) (by decide) (vx_ret (W.iret (v := (-1)) hx hb hr (fun t ht hW => ⟨⟨some (.int (-1)), (sg, gm, lg), rfl, ⟨(-1), rfl, rfl, (iv_w (iv_k (by decide) : iv (-1) (-1) (-1)) (by decide)), ((by rw [hN27]; decide))⟩, by rw [ht]; exact hP, va_K.moved hW.alike hK, hD⟩, hS.F ht, by rw [ht]; exact hN⟩) hS.2.2 dX6_classValue_28)))
  have hj60 : ∀ (x4_60 : Int32) (x3_60 : Int32) (y0_60 : Int32) (_ : iv 0 65535 x4_60) (_ : iv 0 239 x3_60) (_ : iv 0 0 x) (_ : iv 0 79 o) (_ : iv 0 33 w) (_ : iv (-1) 7 y0_60) (_ : y0_60.toInt = cv7 A7 (wKy.getD w.toNatClampNeg 0)) (H : Heap) (locs : List Loc) (ls : Array Slot), va_P (dC, dI) vwCl (cW ad cid a2 lx sg gm lg) H → va_D A (cW ad cid a2 lx sg gm lg) → va_S A s.heap H locs → lv_has ls 5 [(4, .int x4_60), (3, .int x3_60), (0, eV (ad 1) x), (1, eV (ad 9) o), (2, eV (ad 33) w)] → W p l e (headSpec wm_X6_classValue ({ frames := 1, cells := 1, slots := 6, locals := 23 })).room s m ([eV (ad 1) x, eV (ad 9) o, eV (ad 33) w] : List Value).toArray below meth c H locs 0 0 (vx_MQ below (cQx dC dI ad cid a2 lx (fun v u => ∃ r : Int32, v = some (.int r) ∧ u = (sg, gm, lg) ∧ (iv (-1) 7 r) ∧ (r.toInt = cv7 A7 (wKy.getD w.toNatClampNeg 0))) A) (cX dC dI ad cid a2 lx (fun _ _ => False) A) ([eV (ad 1) x, eV (ad 9) o, eV (ad 33) w] : List Value).toArray s 1 6 A) (F0 m 60 ls [.int y0_60]) := by
    intro x4_60 x3_60 y0_60 hx4_60 hx3_60 hsx0_60 hsx1_60 hsx2_60 hy0_60 hR60 H locs ls hP hD hS hl
    exact W.nb (fun hN => W.widen (k := 1) (n := 6) (by decide) (by decide) (vx_ret (W.iret (v := y0_60) hx hb hr (fun t ht hW => ⟨⟨some (.int y0_60), (sg, gm, lg), rfl, ⟨y0_60, rfl, rfl, hy0_60, (hR60)⟩, by rw [ht]; exact hP, va_K.moved hW.alike hK, hD⟩, hS.F ht, by rw [ht]; exact hN⟩) hS.2.2 dX6_classValue_60)))
  have hj59 : ∀ (x4_59 : Int32) (x3_59 : Int32) (_ : iv 0 65535 x4_59) (_ : iv 0 239 x3_59) (_ : iv 0 0 x) (_ : iv 0 79 o) (_ : iv 0 33 w) (_ : cv7 A7 (wKy.getD w.toNatClampNeg 0) = -1) (H : Heap) (locs : List Loc) (ls : Array Slot), va_P (dC, dI) vwCl (cW ad cid a2 lx sg gm lg) H → va_D A (cW ad cid a2 lx sg gm lg) → va_S A s.heap H locs → lv_has ls 5 [(4, .int x4_59), (3, .int x3_59), (0, eV (ad 1) x), (1, eV (ad 9) o), (2, eV (ad 33) w)] → W p l e (headSpec wm_X6_classValue ({ frames := 1, cells := 1, slots := 6, locals := 23 })).room s m ([eV (ad 1) x, eV (ad 9) o, eV (ad 33) w] : List Value).toArray below meth c H locs 0 0 (vx_MQ below (cQx dC dI ad cid a2 lx (fun v u => ∃ r : Int32, v = some (.int r) ∧ u = (sg, gm, lg) ∧ (iv (-1) 7 r) ∧ (r.toInt = cv7 A7 (wKy.getD w.toNatClampNeg 0))) A) (cX dC dI ad cid a2 lx (fun _ _ => False) A) ([eV (ad 1) x, eV (ad 9) o, eV (ad 33) w] : List Value).toArray s 1 6 A) (F0 m 59 ls []) := by
    intro x4_59 x3_59 hx4_59 hx3_59 hsx0_59 hsx1_59 hsx2_59 hN59 H locs ls hP hD hS hl
    refine lv_iconst (v := (-1)) hx hb dX6_classValue_59 (by decide) ?_
    exact hj60 x4_59 x3_59 (-1) hx4_59 hx3_59 hsx0_59 hsx1_59 hsx2_59 (iv_w (iv_k (by decide) : iv (-1) (-1) (-1)) (by decide)) ((by rw [hN59]; decide)) _ _ _ hP hD hS (lv_sub hl [0, 1, 2, 3, 4] rfl)
  refine ec_aload_n hx hb dX6_classValue_0 rfl (lv_at hl 0 rfl) ?_
  refine ec_aload_n hx hb dX6_classValue_1 rfl (lv_at hl 1 rfl) ?_
  refine ec_aload_n hx hb dX6_classValue_2 rfl (lv_at hl 2 rfl) ?_
  refine cm_callV (t := 1) (C := RX6) (T := TX6) (N := 8) (rest := []) (as := [eV (ad 9) o, eV (ad 33) w]) ⟨hx, hb, hml, hown, htb⟩ (d_find l dC dI ad cid a2 lx sg gm lg x o w hI hvx hvo hvw hFA how) (cwV 2 htb (gd_V kw_683 kw_684 kw_25 kw_149 kw_1474) rfl rfl rfl (by decide +kernel) ⟨Nat.le_of_ble_eq_true rfl, Nat.le_of_ble_eq_true rfl⟩) hvx (by decide) (by decide) rfl rfl hl.1 rfl (Nat.le_trans cs_n (by decide)) dX6_classValue_3 ⟨Nat.le_of_ble_eq_true rfl, Nat.le_of_ble_eq_true rfl⟩ hK hP hD hS hA hG (fun E ce q9 u_2 H locs hw hP hD hS hce hcv hcl => ?_) (fun v9 u_2 H locs hw hP hD hS => ?_)
  · exact hw.elim
  obtain ⟨r_1, rfl, rfl, hr_1, fF_r_1, fLt_r_1⟩ := hw
  have hP : va_P (dC, dI) vwCl (cW ad cid a2 lx sg gm lg) H := hP
  have hD : va_D A (cW ad cid a2 lx sg gm lg) := hD
  refine W.eq (g2 := F0 m 6 ls [.int r_1]) rfl ?_
  refine lv_istore_n (i := 3) (lv' := [(3, .int r_1), (0, eV (ad 1) x), (1, eV (ad 9) o), (2, eV (ad 33) w)]) hx hb dX6_classValue_6 rfl hl (by decide) (by simp [List.filter, eV_cat, cat_i, cat_l]) (fun ls hl => ?_)
  refine ec_aload_n hx hb dX6_classValue_7 rfl (lv_at hl 1 rfl) ?_
  refine lv_iload_n hx hb dX6_classValue_8 rfl (lv_at hl 0 rfl) ?_
  refine cm_callV (t := 1) (C := RX6) (T := TX6) (N := 8) (rest := []) (as := [.int r_1]) ⟨hx, hb, hml, hown, htb⟩ (d_valueLength l dC dI ad cid a2 lx sg gm lg x r_1 hI hvx hr_1) (cwV 1 htb (gd_V kw_685 kw_686 kw_26 kw_149 kw_1475) rfl rfl rfl (by decide +kernel) ⟨Nat.le_of_ble_eq_true rfl, Nat.le_of_ble_eq_true rfl⟩) hvx (by decide) (by decide) rfl rfl hl.1 rfl (Nat.le_trans cs_n (by decide)) dX6_classValue_9 ⟨Nat.le_of_ble_eq_true rfl, Nat.le_of_ble_eq_true rfl⟩ hK hP hD hS hA hG (fun E ce q9 u_5 H locs hw hP hD hS hce hcv hcl => ?_) (fun v9 u_5 H locs hw hP hD hS => ?_)
  · exact hw.elim
  obtain ⟨r_4, rfl, rfl, hr_4, fV_r_4⟩ := hw
  have hP : va_P (dC, dI) vwCl (cW ad cid a2 lx sg gm lg) H := hP
  have hD : va_D A (cW ad cid a2 lx sg gm lg) := hD
  refine W.eq (g2 := F0 m 12 ls [.int r_4]) rfl ?_
  refine lv_iconst (v := 2) hx hb dX6_classValue_12 (by decide) ?_
  refine lv_icmp_ne (tgt := 27) hx hb dX6_classValue_13 (by decide) (fun c_7 => ?_) (fun c_7 => ?_)
  · have d_8 : ¬ (r_4 : Int32).toInt = 2 := lv_neT c_7 rfl
    exact hj27 r_1 hr_1 hvx hvo hvw ((cv_n fF_r_1 hat fV_r_4 (by have := i32_0; have := i32_1; have := i32_2; have := i32_m1; have := (hvx).1; have := (hvx).2; have := (hvo).1; have := (hvo).2; have := (hvw).1; have := (hvw).2; have := (hr_1).1; have := (hr_1).2; have := (hr_4).1; have := (hr_4).2; omega))) _ _ _ hP hD hS (lv_sub hl [0, 1, 2, 3] rfl)
  · have h_9 : iv 2 2 r_4 := iv_eq c_7 hr_4 (iv_k (by decide) : iv 2 2 2) (by decide)
    obtain ⟨h9z, h9e⟩ : 0 ≤ r_1.toInt ∧ r_4 = gm 45 r_1.toNatClampNeg := fV_r_4.resolve_left (fun q9 => by have := q9.2; have := i32_0; have := i32_1; have := i32_2; have := i32_m1; have := (hvx).1; have := (hvx).2; have := (hvo).1; have := (hvo).2; have := (hvw).1; have := (hvw).2; have := (hr_1).1; have := (hr_1).2; have := (h_9).1; have := (h_9).2; omega)
    have h9p : iv 0 239 r_1 := ⟨h9z, (hr_1).2⟩
    refine ec_aload_n hx hb dX6_classValue_16 rfl (lv_at hl 1 rfl) ?_
    refine lv_iload_n hx hb dX6_classValue_17 rfl (lv_at hl 0 rfl) ?_
    refine lv_iconst (v := 0) hx hb dX6_classValue_18 (by decide) ?_
    refine cm_callV (t := 1) (C := RX6) (T := TX6) (N := 8) (rest := []) (as := [.int r_1, .int 0]) ⟨hx, hb, hml, hown, htb⟩ (d_valueChar l dC dI ad cid a2 lx sg gm lg x r_1 0 hI hvx h9p (iv_w (iv_k (by decide) : iv 0 0 0) (by decide)) hVS fLt_r_1 (by rw [← h9e]; have q8 : (0 : Int32).toInt = 0 := (by decide); have := i32_0; have := i32_1; have := i32_2; have := i32_m1; have := (hvx).1; have := (hvx).2; have := (hvo).1; have := (hvo).2; have := (hvw).1; have := (hvw).2; have := (h9p).1; have := (h9p).2; have := (h_9).1; have := (h_9).2; omega)) (cwV 2 htb (gd_V kw_687 kw_688 kw_27 kw_149 kw_1476) rfl rfl rfl (by decide +kernel) ⟨Nat.le_of_ble_eq_true rfl, Nat.le_of_ble_eq_true rfl⟩) hvx (by decide) (by decide) rfl rfl hl.1 rfl (Nat.le_trans cs_n (by decide)) dX6_classValue_19 ⟨Nat.le_of_ble_eq_true rfl, Nat.le_of_ble_eq_true rfl⟩ hK hP hD hS hA hG (fun E ce q9 u_11 H locs hw hP hD hS hce hcv hcl => ?_) (fun v9 u_11 H locs hw hP hD hS => ?_)
    · exact hw.elim
    obtain ⟨r_10, rfl, rfl, hr_10, fC_r_10⟩ := hw
    have hP : va_P (dC, dI) vwCl (cW ad cid a2 lx sg gm lg) H := hP
    have hD : va_D A (cW ad cid a2 lx sg gm lg) := hD
    refine W.eq (g2 := F0 m 22 ls [.int r_10]) rfl ?_
    refine lv_bipush (v := 75) hx hb dX6_classValue_22 (by decide) ?_
    refine lv_icmp_eq (tgt := 29) hx hb dX6_classValue_24 (by decide) (fun c_13 => ?_) (fun c_13 => ?_)
    · have h_14 : iv 75 75 r_10 := iv_eq c_13 hr_10 (iv_k (by decide) : iv 75 75 75) (by decide)
      refine ec_aload_n hx hb dX6_classValue_29 rfl (lv_at hl 1 rfl) ?_
      refine lv_iload_n hx hb dX6_classValue_30 rfl (lv_at hl 0 rfl) ?_
      refine lv_iconst (v := 1) hx hb dX6_classValue_31 (by decide) ?_
      refine cm_callV (t := 1) (C := RX6) (T := TX6) (N := 8) (rest := []) (as := [.int r_1, .int 1]) ⟨hx, hb, hml, hown, htb⟩ (d_valueChar l dC dI ad cid a2 lx sg gm lg x r_1 1 hI hvx h9p (iv_w (iv_k (by decide) : iv 1 1 1) (by decide)) hVS fLt_r_1 (by rw [← h9e]; have q8 : (1 : Int32).toInt = 1 := (by decide); have := i32_0; have := i32_1; have := i32_2; have := i32_m1; have := (hvx).1; have := (hvx).2; have := (hvo).1; have := (hvo).2; have := (hvw).1; have := (hvw).2; have := (h9p).1; have := (h9p).2; have := (h_9).1; have := (h_9).2; have := (h_14).1; have := (h_14).2; omega)) (cwV 2 htb (gd_V kw_687 kw_688 kw_27 kw_149 kw_1476) rfl rfl rfl (by decide +kernel) ⟨Nat.le_of_ble_eq_true rfl, Nat.le_of_ble_eq_true rfl⟩) hvx (by decide) (by decide) rfl rfl hl.1 rfl (Nat.le_trans cs_n (by decide)) dX6_classValue_32 ⟨Nat.le_of_ble_eq_true rfl, Nat.le_of_ble_eq_true rfl⟩ hK hP hD hS hA hG (fun E ce q9 u_16 H locs hw hP hD hS hce hcv hcl => ?_) (fun v9 u_16 H locs hw hP hD hS => ?_)
      · exact hw.elim
      obtain ⟨r_15, rfl, rfl, hr_15, fC_r_15⟩ := hw
      have hP : va_P (dC, dI) vwCl (cW ad cid a2 lx sg gm lg) H := hP
      have hD : va_D A (cW ad cid a2 lx sg gm lg) := hD
      refine W.eq (g2 := F0 m 35 ls [.int r_15]) rfl ?_
      refine lv_istore (i := 4) (lv' := [(4, .int r_15), (3, .int r_1), (0, eV (ad 1) x), (1, eV (ad 9) o), (2, eV (ad 33) w)]) hx hb dX6_classValue_35 hl (by decide) rfl (fun ls hl => ?_)
      refine lv_iload hx hb dX6_classValue_37 (lv_at hl 0 rfl) ?_
      refine lv_bipush (v := 48) hx hb dX6_classValue_39 (by decide) ?_
      refine lv_icmp_lt (tgt := 59) hx hb dX6_classValue_41 (by decide) (fun c_18 => ?_) (fun c_18 => ?_)
      · have h_19 : iv 0 47 r_15 := iv_ltL c_18 hr_15 (iv_k (by decide) : iv 48 48 48) (by decide)
        exact hj59 r_15 r_1 (iv_w h_19 (by decide)) h9p hvx hvo hvw ((by obtain ⟨d9, e9, f9⟩ := v_2 (y := 0) fF_r_1 hat h9z (by rw [← h9e]; have := i32_0; have := i32_1; have := i32_2; have := i32_m1; have := (hvx).1; have := (hvx).2; have := (hvo).1; have := (hvo).2; have := (hvw).1; have := (hvw).2; have := (h9p).1; have := (h9p).2; have := (h_9).1; have := (h_9).2; have := (h_14).1; have := (h_14).2; have := (h_19).1; have := (h_19).2; omega) fC_r_10; have f8 := f9 _ fC_r_15; rw [cv_s e9, if_neg (by have := i32_0; have := i32_1; have := i32_2; have := i32_m1; have := (hvx).1; have := (hvx).2; have := (hvo).1; have := (hvo).2; have := (hvw).1; have := (hvw).2; have := (h9p).1; have := (h9p).2; have := (h_9).1; have := (h_9).2; have := (h_14).1; have := (h_14).2; have := (h_19).1; have := (h_19).2; omega)])) _ _ _ hP hD hS (lv_sub hl [0, 1, 2, 3, 4] rfl)
      · have h_20 : iv 48 65535 r_15 := iv_leR (i32_ge c_18) (iv_k (by decide) : iv 48 48 48) hr_15 (by decide)
        refine lv_iload hx hb dX6_classValue_44 (lv_at hl 0 rfl) ?_
        refine lv_bipush (v := 56) hx hb dX6_classValue_46 (by decide) ?_
        refine lv_icmp_ge (tgt := 59) hx hb dX6_classValue_48 (by decide) (fun c_21 => ?_) (fun c_21 => ?_)
        · have h_22 : iv 56 65535 r_15 := iv_leR c_21 (iv_k (by decide) : iv 56 56 56) h_20 (by decide)
          exact hj59 r_15 r_1 (iv_w h_22 (by decide)) h9p hvx hvo hvw ((by obtain ⟨d9, e9, f9⟩ := v_2 (y := 0) fF_r_1 hat h9z (by rw [← h9e]; have := i32_0; have := i32_1; have := i32_2; have := i32_m1; have := (hvx).1; have := (hvx).2; have := (hvo).1; have := (hvo).2; have := (hvw).1; have := (hvw).2; have := (h9p).1; have := (h9p).2; have := (h_9).1; have := (h_9).2; have := (h_14).1; have := (h_14).2; have := (h_22).1; have := (h_22).2; omega) fC_r_10; have f8 := f9 _ fC_r_15; rw [cv_s e9, if_neg (by have := i32_0; have := i32_1; have := i32_2; have := i32_m1; have := (hvx).1; have := (hvx).2; have := (hvo).1; have := (hvo).2; have := (hvw).1; have := (hvw).2; have := (h9p).1; have := (h9p).2; have := (h_9).1; have := (h_9).2; have := (h_14).1; have := (h_14).2; have := (h_22).1; have := (h_22).2; omega)])) _ _ _ hP hD hS (lv_sub hl [0, 1, 2, 3, 4] rfl)
        · have h_23 : iv 48 55 r_15 := iv_ltL (i32_lt c_21) h_20 (iv_k (by decide) : iv 56 56 56) (by decide)
          refine lv_iload hx hb dX6_classValue_51 (lv_at hl 0 rfl) ?_
          refine lv_bipush (v := 48) hx hb dX6_classValue_53 (by decide) ?_
          refine lv_isub hx hb dX6_classValue_55 ?_
          refine lv_topi (fun z_24 ez_24 => ?_)
          have hz_24 : iv 0 7 z_24 := iv_of ez_24 (iv_sub h_23 (iv_k (by decide) : iv 48 48 48) (by decide))
          have tz_24 : z_24.toInt = (r_15 : Int32).toInt - 48 := by rw [ez_24]; exact iv_subE h_23 (iv_k (by decide) : iv 48 48 48) (by decide)
          refine lv_goto (tgt := 60) hx hb dX6_classValue_56 (by decide) ?_
          exact hj60 r_15 r_1 z_24 (iv_w h_23 (by decide)) h9p hvx hvo hvw (iv_w hz_24 (by decide)) ((by obtain ⟨d9, e9, f9⟩ := v_2 (y := 0) fF_r_1 hat h9z (by rw [← h9e]; have := i32_0; have := i32_1; have := i32_2; have := i32_m1; have := (hvx).1; have := (hvx).2; have := (hvo).1; have := (hvo).2; have := (hvw).1; have := (hvw).2; have := (h9p).1; have := (h9p).2; have := (h_9).1; have := (h_9).2; have := (h_14).1; have := (h_14).2; have := (h_23).1; have := (h_23).2; have := (hz_24).1; have := (hz_24).2; omega) fC_r_10; have f8 := f9 _ fC_r_15; rw [cv_s e9, if_pos ⟨(by have := i32_0; have := i32_1; have := i32_2; have := i32_m1; have := (hvx).1; have := (hvx).2; have := (hvo).1; have := (hvo).2; have := (hvw).1; have := (hvw).2; have := (h9p).1; have := (h9p).2; have := (h_9).1; have := (h_9).2; have := (h_14).1; have := (h_14).2; have := (h_23).1; have := (h_23).2; have := (hz_24).1; have := (hz_24).2; omega), (by have := i32_0; have := i32_1; have := i32_2; have := i32_m1; have := (hvx).1; have := (hvx).2; have := (hvo).1; have := (hvo).2; have := (hvw).1; have := (hvw).2; have := (h9p).1; have := (h9p).2; have := (h_9).1; have := (h_9).2; have := (h_14).1; have := (h_14).2; have := (h_23).1; have := (h_23).2; have := (hz_24).1; have := (hz_24).2; omega), (by have := i32_0; have := i32_1; have := i32_2; have := i32_m1; have := (hvx).1; have := (hvx).2; have := (hvo).1; have := (hvo).2; have := (hvw).1; have := (hvw).2; have := (h9p).1; have := (h9p).2; have := (h_9).1; have := (h_9).2; have := (h_14).1; have := (h_14).2; have := (h_23).1; have := (h_23).2; have := (hz_24).1; have := (hz_24).2; omega)⟩]; have := i32_0; have := i32_1; have := i32_2; have := i32_m1; have := (hvx).1; have := (hvx).2; have := (hvo).1; have := (hvo).2; have := (hvw).1; have := (hvw).2; have := (h9p).1; have := (h9p).2; have := (h_9).1; have := (h_9).2; have := (h_14).1; have := (h_14).2; have := (h_23).1; have := (h_23).2; have := (hz_24).1; have := (hz_24).2; omega)) _ _ _ hP hD hS (lv_sub hl [0, 1, 2, 3, 4] rfl)
    · have d_25 : ¬ (r_10 : Int32).toInt = 75 := lv_neT c_13 rfl
      exact hj27 r_1 (iv_w h9p (by decide)) hvx hvo hvw ((by obtain ⟨d9, e9, f9⟩ := v_2 (y := 0) fF_r_1 hat h9z (by rw [← h9e]; have := i32_0; have := i32_1; have := i32_2; have := i32_m1; have := (hvx).1; have := (hvx).2; have := (hvo).1; have := (hvo).2; have := (hvw).1; have := (hvw).2; have := (h9p).1; have := (h9p).2; have := (h_9).1; have := (h_9).2; have := (hr_10).1; have := (hr_10).2; omega) fC_r_10; rw [cv_s e9, if_neg (fun q => absurd q.1 (by have := i32_0; have := i32_1; have := i32_2; have := i32_m1; have := (hvx).1; have := (hvx).2; have := (hvo).1; have := (hvo).2; have := (hvw).1; have := (hvw).2; have := (h9p).1; have := (h9p).2; have := (h_9).1; have := (h_9).2; have := (hr_10).1; have := (hr_10).2; omega))])) _ _ _ hP hD hS (lv_sub hl [0, 1, 2, 3] rfl)

set_option maxHeartbeats 4000000 in
set_option maxRecDepth 100000 in
theorem d_nameValue3 (l : Launch) (dC : Nat → ClassId) (dI : Nat → Nat → Nat) (ad : Nat → Nat → Nat) (cid : Nat → ClassId) (a2 : Nat → Nat) (lx : List Nat) (sg : Nat → Int32) (gm : Nat → Nat → Int32) (lg : Nat → Nat → Int64) (x : Int32) (o : Int32) (w : Int32) (A7 : At7) (hI : CI sg gm) (hvx : iv 0 0 x) (hvo : iv 0 79 o) (hvw : iv 0 33 w) (hFA : FA sg gm) (how : o.toInt < (sg 4).toInt) (hVS : VS sg gm) (hat : ATC A7 gm lg o.toNatClampNeg (sg 5).toInt (sg 6).toInt) : CMt dC dI ad cid a2 lx l yX6_nameValue wm_X6_nameValue ({ frames := 1, cells := 1, slots := 6, locals := 23 }) [eV (ad 1) x, eV (ad 9) o, eV (ad 33) w] sg gm lg (fun v u => ∃ r : Int64, v = some (.long r) ∧ u = (sg, gm, lg) ∧ (r = nv7 A7 (wKy.getD w.toNatClampNeg 0)) ∧ (r = 0 ∨ HSK gm lg o.toNatClampNeg (wKy.getD w.toNatClampNeg 0))) (fun _ _ => False) := by
  intro sz
  refine vx_ofW (cc := cX6_nameValue) (maxL := 9) (ret := (some .long)) (by decide) rfl ?_
  intro p e s m args below meth c s₁ B hml hxt hv
  obtain ⟨rfl, hsz, hP, hK, hD0, hG⟩ := hv
  have hx := B.exec
  have hb := B.bytes
  have hr := B.returns
  have hts := atoms_spec (ws := wm_X6_nameValue) B.pre
  have htb := fun (w : Cond) (h : w ∈ tb) => hts w (List.mem_cons_of_mem _ h)
  have hown : s.vm.findClass RX6 = some m.cls := findClass_of_methodNamed B.named
  have hlocks := B.notSynchronized
  subst hsz
  have hD := hD0.self (sz := s.heap.size)
  generalize hAe : va_A (cW ad cid a2 lx sg gm lg) s.heap.size = A at hD hG ⊢
  have hA : ∀ q : Nat, s.heap.size ≤ q → A q := fun q h => by rw [← hAe]; exact Or.inr h
  have hS : va_S A s.heap s.heap [] := va_S.rf
  have hl := lv_entry ([eV (ad 1) x, eV (ad 9) o, eV (ad 33) w]) (n := 9) (by rw [show (lg_sl ([eV (ad 1) x, eV (ad 9) o, eV (ad 33) w])).length = 3 from by simp [lg_sl, eV_cat, cat_i, cat_l]]; exact Nat.le_of_ble_eq_true rfl)
  rw [lg_entry_eq]
  generalize (lg_sl ([eV (ad 1) x, eV (ad 9) o, eV (ad 33) w]) ++ List.replicate (9 - (lg_sl ([eV (ad 1) x, eV (ad 9) o, eV (ad 33) w])).length) Slot.unset).toArray = ls at hl ⊢
  have hl : lv_has ls 9 [(0, eV (ad 1) x), (1, eV (ad 9) o), (2, eV (ad 33) w)] := by simp [lv_args, eV_cat, cat_i, cat_l] at hl; exact hl
  have hj27 : ∀ (x4_27 : Int32) (x3_27 : Int32) (_ : iv 0 24 x4_27) (_ : iv (-1) 239 x3_27) (_ : iv 0 0 x) (_ : iv 0 79 o) (_ : iv 0 33 w) (_ : nv7 A7 (wKy.getD w.toNatClampNeg 0) = 0) (H : Heap) (locs : List Loc) (ls : Array Slot), va_P (dC, dI) vwCl (cW ad cid a2 lx sg gm lg) H → va_D A (cW ad cid a2 lx sg gm lg) → va_S A s.heap H locs → lv_has ls 9 [(4, .int x4_27), (3, .int x3_27), (0, eV (ad 1) x), (1, eV (ad 9) o), (2, eV (ad 33) w)] → W p l e (headSpec wm_X6_nameValue ({ frames := 1, cells := 1, slots := 6, locals := 23 })).room s m ([eV (ad 1) x, eV (ad 9) o, eV (ad 33) w] : List Value).toArray below meth c H locs 0 0 (vx_MQ below (cQx dC dI ad cid a2 lx (fun v u => ∃ r : Int64, v = some (.long r) ∧ u = (sg, gm, lg) ∧ (r = nv7 A7 (wKy.getD w.toNatClampNeg 0)) ∧ (r = 0 ∨ HSK gm lg o.toNatClampNeg (wKy.getD w.toNatClampNeg 0))) A) (cX dC dI ad cid a2 lx (fun _ _ => False) A) ([eV (ad 1) x, eV (ad 9) o, eV (ad 33) w] : List Value).toArray s 1 6 A) (F0 m 27 ls []) := by
    intro x4_27 x3_27 hx4_27 hx3_27 hsx0_27 hsx1_27 hsx2_27 hN27 H locs ls hP hD hS hl
    refine lv_lconst (v := 0) hx hb dX6_nameValue_27 (by decide) ?_
    exact W.nb (fun hN => W.widen (k := 1) (n := 6) (by decide) (by decide) (vx_ret (W.lret (v := 0) hx hb hr (fun t ht hW => ⟨⟨some (.long 0), (sg, gm, lg), rfl, ⟨0, rfl, rfl, (hN27.symm), ((by by_cases h9 : nv7 A7 (wKy.getD w.toNatClampNeg 0) = 0; (exact Or.inl (Eq.trans hN27.symm h9)); exact Or.inr ((hsk_h hat).mpr (nvH h9))))⟩, by rw [ht]; exact hP, va_K.moved hW.alike hK, hD⟩, hS.F ht, by rw [ht]; exact hN⟩) hS.2.2 dX6_nameValue_28)))
  have hj65 : ∀ (x8_65 : Int32) (x7_65 : Int32) (x5_65 : Int64) (x4_65 : Int32) (x3_65 : Int32) (_ : iv 0 65535 x8_65) (_ : iv 0 7 x7_65) (_ : iv 1 8 x4_65) (_ : iv 0 239 x3_65) (_ : iv 0 0 x) (_ : iv 0 79 o) (_ : iv 0 33 w) (_ : nv7 A7 (wKy.getD w.toNatClampNeg 0) = 0) (H : Heap) (locs : List Loc) (ls : Array Slot), va_P (dC, dI) vwCl (cW ad cid a2 lx sg gm lg) H → va_D A (cW ad cid a2 lx sg gm lg) → va_S A s.heap H locs → lv_has ls 9 [(8, .int x8_65), (7, .int x7_65), (5, .long x5_65), (4, .int x4_65), (3, .int x3_65), (0, eV (ad 1) x), (1, eV (ad 9) o), (2, eV (ad 33) w)] → W p l e (headSpec wm_X6_nameValue ({ frames := 1, cells := 1, slots := 6, locals := 23 })).room s m ([eV (ad 1) x, eV (ad 9) o, eV (ad 33) w] : List Value).toArray below meth c H locs 0 0 (vx_MQ below (cQx dC dI ad cid a2 lx (fun v u => ∃ r : Int64, v = some (.long r) ∧ u = (sg, gm, lg) ∧ (r = nv7 A7 (wKy.getD w.toNatClampNeg 0)) ∧ (r = 0 ∨ HSK gm lg o.toNatClampNeg (wKy.getD w.toNatClampNeg 0))) A) (cX dC dI ad cid a2 lx (fun _ _ => False) A) ([eV (ad 1) x, eV (ad 9) o, eV (ad 33) w] : List Value).toArray s 1 6 A) (F0 m 65 ls []) := by
    intro x8_65 x7_65 x5_65 x4_65 x3_65 hx8_65 hx7_65 hx4_65 hx3_65 hsx0_65 hsx1_65 hsx2_65 hN65 H locs ls hP hD hS hl
    refine lv_lconst (v := 0) hx hb dX6_nameValue_65 (by decide) ?_
    exact W.nb (fun hN => W.widen (k := 1) (n := 6) (by decide) (by decide) (vx_ret (W.lret (v := 0) hx hb hr (fun t ht hW => ⟨⟨some (.long 0), (sg, gm, lg), rfl, ⟨0, rfl, rfl, (hN65.symm), ((by by_cases h9 : nv7 A7 (wKy.getD w.toNatClampNeg 0) = 0; (exact Or.inl (Eq.trans hN65.symm h9)); exact Or.inr ((hsk_h hat).mpr (nvH h9))))⟩, by rw [ht]; exact hP, va_K.moved hW.alike hK, hD⟩, hS.F ht, by rw [ht]; exact hN⟩) hS.2.2 dX6_nameValue_66)))
  have hj35 : ∀ (n : Nat) (x7_35 : Int32) (x5_35 : Int64) (x4_35 : Int32) (x3_35 : Int32) (_ : (8 - x7_35.toInt).toNat = n) (_ : iv 0 8 x7_35) (_ : iv 1 8 x4_35) (_ : iv 0 239 x3_35) (_ : iv 0 0 x) (_ : iv 0 79 o) (_ : iv 0 33 w) (_ : 0 ≤ x3_35.toInt) (_ : x3_35.toInt < (sg 5).toInt) (_ : x4_35 = gm 45 x3_35.toNatClampNeg) (_ : gA A7 (wKy.getD w.toNatClampNeg 0) = some (vv7 A7 (wKy.getD w.toNatClampNeg 0)) ∧ VW7 gm x3_35.toNatClampNeg (vv7 A7 (wKy.getD w.toNatClampNeg 0))) (_ : x5_35 = foL ((vv7 A7 (wKy.getD w.toNatClampNeg 0)).take x7_35.toNatClampNeg) 0) (_ : allL ((vv7 A7 (wKy.getD w.toNatClampNeg 0)).take x7_35.toNatClampNeg) = true) (H : Heap) (locs : List Loc) (ls : Array Slot), va_P (dC, dI) vwCl (cW ad cid a2 lx sg gm lg) H → va_D A (cW ad cid a2 lx sg gm lg) → va_S A s.heap H locs → lv_has ls 9 [(7, .int x7_35), (5, .long x5_35), (4, .int x4_35), (3, .int x3_35), (0, eV (ad 1) x), (1, eV (ad 9) o), (2, eV (ad 33) w)] → W p l e (headSpec wm_X6_nameValue ({ frames := 1, cells := 1, slots := 6, locals := 23 })).room s m ([eV (ad 1) x, eV (ad 9) o, eV (ad 33) w] : List Value).toArray below meth c H locs 0 0 (vx_MQ below (cQx dC dI ad cid a2 lx (fun v u => ∃ r : Int64, v = some (.long r) ∧ u = (sg, gm, lg) ∧ (r = nv7 A7 (wKy.getD w.toNatClampNeg 0)) ∧ (r = 0 ∨ HSK gm lg o.toNatClampNeg (wKy.getD w.toNatClampNeg 0))) A) (cX dC dI ad cid a2 lx (fun _ _ => False) A) ([eV (ad 1) x, eV (ad 9) o, eV (ad 33) w] : List Value).toArray s 1 6 A) (F0 m 35 ls []) := by
    intro n
    induction n using Nat.strongRecOn with
    | ind n ih35 =>
      intro x7_35 x5_35 x4_35 x3_35 hn35 hx7_35 hx4_35 hx3_35 hsx0_35 hsx1_35 hsx2_35 h3p h3l h4e hvw hky hal9 H locs ls hP hD hS hl
      refine lv_iload hx hb dX6_nameValue_35 (lv_at hl 0 rfl) ?_
      refine lv_iload hx hb dX6_nameValue_37 (lv_at hl 2 rfl) ?_
      refine lv_icmp_ge (tgt := 84) hx hb dX6_nameValue_39 (by decide) (fun c_1 => ?_) (fun c_1 => ?_)
      · have d_2 : (x4_35 : Int32).toInt ≤ (x7_35 : Int32).toInt := Int32.le_iff_toInt_le.mp c_1
        have h_3 : iv 1 8 x7_35 := iv_leR c_1 hx4_35 hx7_35 (by decide)
        refine lv_lload hx hb dX6_nameValue_84 (lv_at hl 1 rfl) ?_
        exact W.nb (fun hN => W.widen (k := 1) (n := 6) (by decide) (by decide) (vx_ret (W.lret (v := x5_35) hx hb hr (fun t ht hW => ⟨⟨some (.long x5_35), (sg, gm, lg), rfl, ⟨x5_35, rfl, rfl, ((by have e9 : (vv7 A7 (wKy.getD w.toNatClampNeg 0)).take x7_35.toNatClampNeg = (vv7 A7 (wKy.getD w.toNatClampNeg 0)) := List.take_of_length_le (by have k7 : x7_35.toNatClampNeg = x7_35.toInt.toNat := rfl; have k4 := congrArg Int32.toInt h4e; have k5 := hvw.2.1; have := i32_0; have := i32_1; have := i32_2; have := i32_m1; have := (hsx0_35).1; have := (hsx0_35).2; have := (hsx1_35).1; have := (hsx1_35).2; have := (hsx2_35).1; have := (hsx2_35).2; have := (h_3).1; have := (h_3).2; have := (hx4_35).1; have := (hx4_35).2; have := (hx3_35).1; have := (hx3_35).2; omega); rw [e9] at hky hal9; rw [nv_e hvw.1 (by have k7 : x7_35.toNatClampNeg = x7_35.toInt.toNat := rfl; have k4 := congrArg Int32.toInt h4e; have k5 := hvw.2.1; have := i32_0; have := i32_1; have := i32_2; have := i32_m1; have := (hsx0_35).1; have := (hsx0_35).2; have := (hsx1_35).1; have := (hsx1_35).2; have := (hsx2_35).1; have := (hsx2_35).2; have := (h_3).1; have := (h_3).2; have := (hx4_35).1; have := (hx4_35).2; have := (hx3_35).1; have := (hx3_35).2; omega) (by have k7 : x7_35.toNatClampNeg = x7_35.toInt.toNat := rfl; have k4 := congrArg Int32.toInt h4e; have k5 := hvw.2.1; have := i32_0; have := i32_1; have := i32_2; have := i32_m1; have := (hsx0_35).1; have := (hsx0_35).2; have := (hsx1_35).1; have := (hsx1_35).2; have := (hsx2_35).1; have := (hsx2_35).2; have := (h_3).1; have := (h_3).2; have := (hx4_35).1; have := (hx4_35).2; have := (hx3_35).1; have := (hx3_35).2; omega) hal9]; exact hky)), ((by by_cases h9 : nv7 A7 (wKy.getD w.toNatClampNeg 0) = 0; (exact Or.inl (Eq.trans (by have e9 : (vv7 A7 (wKy.getD w.toNatClampNeg 0)).take x7_35.toNatClampNeg = (vv7 A7 (wKy.getD w.toNatClampNeg 0)) := List.take_of_length_le (by have k7 : x7_35.toNatClampNeg = x7_35.toInt.toNat := rfl; have k4 := congrArg Int32.toInt h4e; have k5 := hvw.2.1; have := i32_0; have := i32_1; have := i32_2; have := i32_m1; have := (hsx0_35).1; have := (hsx0_35).2; have := (hsx1_35).1; have := (hsx1_35).2; have := (hsx2_35).1; have := (hsx2_35).2; have := (h_3).1; have := (h_3).2; have := (hx4_35).1; have := (hx4_35).2; have := (hx3_35).1; have := (hx3_35).2; omega); rw [e9] at hky hal9; rw [nv_e hvw.1 (by have k7 : x7_35.toNatClampNeg = x7_35.toInt.toNat := rfl; have k4 := congrArg Int32.toInt h4e; have k5 := hvw.2.1; have := i32_0; have := i32_1; have := i32_2; have := i32_m1; have := (hsx0_35).1; have := (hsx0_35).2; have := (hsx1_35).1; have := (hsx1_35).2; have := (hsx2_35).1; have := (hsx2_35).2; have := (h_3).1; have := (h_3).2; have := (hx4_35).1; have := (hx4_35).2; have := (hx3_35).1; have := (hx3_35).2; omega) (by have k7 : x7_35.toNatClampNeg = x7_35.toInt.toNat := rfl; have k4 := congrArg Int32.toInt h4e; have k5 := hvw.2.1; have := i32_0; have := i32_1; have := i32_2; have := i32_m1; have := (hsx0_35).1; have := (hsx0_35).2; have := (hsx1_35).1; have := (hsx1_35).2; have := (hsx2_35).1; have := (hsx2_35).2; have := (h_3).1; have := (h_3).2; have := (hx4_35).1; have := (hx4_35).2; have := (hx3_35).1; have := (hx3_35).2; omega) hal9]; exact hky) h9)); exact Or.inr ((hsk_h hat).mpr (nvH h9))))⟩, by rw [ht]; exact hP, va_K.moved hW.alike hK, hD⟩, hS.F ht, by rw [ht]; exact hN⟩) hS.2.2 dX6_nameValue_86)))
      · have d_4 : (x7_35 : Int32).toInt < (x4_35 : Int32).toInt := Int32.lt_iff_toInt_lt.mp (i32_lt c_1)
        have h_5 : iv 0 7 x7_35 := iv_ltL (i32_lt c_1) hx7_35 hx4_35 (by decide)
        have h42 : iv 0 239 x3_35 := ⟨h3p, (hx3_35).2⟩
        refine ec_aload_n hx hb dX6_nameValue_42 rfl (lv_at hl 4 rfl) ?_
        refine lv_iload_n hx hb dX6_nameValue_43 rfl (lv_at hl 3 rfl) ?_
        refine lv_iload hx hb dX6_nameValue_44 (lv_at hl 0 rfl) ?_
        refine cm_callV (t := 1) (C := RX6) (T := TX6) (N := 8) (rest := []) (as := [.int x3_35, .int x7_35]) ⟨hx, hb, hml, hown, htb⟩ (d_valueChar l dC dI ad cid a2 lx sg gm lg x x3_35 x7_35 hI hsx0_35 h42 (iv_w h_5 (by decide)) hVS h3l (by rw [← h4e]; have := i32_0; have := i32_1; have := i32_2; have := i32_m1; have := (hsx0_35).1; have := (hsx0_35).2; have := (hsx1_35).1; have := (hsx1_35).2; have := (hsx2_35).1; have := (hsx2_35).2; have := (h_5).1; have := (h_5).2; have := (hx4_35).1; have := (hx4_35).2; have := (h42).1; have := (h42).2; omega)) (cwV 2 htb (gd_V kw_687 kw_688 kw_27 kw_149 kw_1476) rfl rfl rfl (by decide +kernel) ⟨Nat.le_of_ble_eq_true rfl, Nat.le_of_ble_eq_true rfl⟩) hsx0_35 (by decide) (by decide) rfl rfl hl.1 rfl (Nat.le_trans cs_n (by decide)) dX6_nameValue_46 ⟨Nat.le_of_ble_eq_true rfl, Nat.le_of_ble_eq_true rfl⟩ hK hP hD hS hA hG (fun E ce q9 u_7 H locs hw hP hD hS hce hcv hcl => ?_) (fun v9 u_7 H locs hw hP hD hS => ?_)
        · exact hw.elim
        obtain ⟨r_6, rfl, rfl, hr_6, fC_r_6⟩ := hw
        have hP : va_P (dC, dI) vwCl (cW ad cid a2 lx sg gm lg) H := hP
        have hD : va_D A (cW ad cid a2 lx sg gm lg) := hD
        refine W.eq (g2 := F0 m 49 ls [.int r_6]) rfl ?_
        refine lv_istore (i := 8) (lv' := [(8, .int r_6), (7, .int x7_35), (5, .long x5_35), (4, .int x4_35), (3, .int x3_35), (0, eV (ad 1) x), (1, eV (ad 9) o), (2, eV (ad 33) w)]) hx hb dX6_nameValue_49 hl (by decide) rfl (fun ls hl => ?_)
        refine lv_iload hx hb dX6_nameValue_51 (lv_at hl 0 rfl) ?_
        refine lv_bipush (v := 97) hx hb dX6_nameValue_53 (by decide) ?_
        refine lv_icmp_lt (tgt := 65) hx hb dX6_nameValue_55 (by decide) (fun c_9 => ?_) (fun c_9 => ?_)
        · have h_10 : iv 0 96 r_6 := iv_ltL c_9 hr_6 (iv_k (by decide) : iv 97 97 97) (by decide)
          exact hj65 r_6 x7_35 x5_35 x4_35 x3_35 (iv_w h_10 (by decide)) h_5 hx4_35 h42 hsx0_35 hsx1_35 hsx2_35 ((nv_x hvw (show x7_35.toNatClampNeg < (vv7 A7 (wKy.getD w.toNatClampNeg 0)).length from (by have k7 : x7_35.toNatClampNeg = x7_35.toInt.toNat := rfl; have k4 := congrArg Int32.toInt h4e; have k5 := hvw.2.1; have := i32_0; have := i32_1; have := i32_2; have := i32_m1; have := (hsx0_35).1; have := (hsx0_35).2; have := (hsx1_35).1; have := (hsx1_35).2; have := (hsx2_35).1; have := (hsx2_35).2; have := (h_5).1; have := (h_5).2; have := (hx4_35).1; have := (hx4_35).2; have := (h42).1; have := (h42).2; have := (h_10).1; have := (h_10).2; omega)) fC_r_6 (by have := i32_0; have := i32_1; have := i32_2; have := i32_m1; have := (hsx0_35).1; have := (hsx0_35).2; have := (hsx1_35).1; have := (hsx1_35).2; have := (hsx2_35).1; have := (hsx2_35).2; have := (h_5).1; have := (h_5).2; have := (hx4_35).1; have := (hx4_35).2; have := (h42).1; have := (h42).2; have := (h_10).1; have := (h_10).2; omega))) _ _ _ hP hD hS (lv_sub hl [0, 1, 2, 3, 4, 5, 6, 7] rfl)
        · have h_11 : iv 97 65535 r_6 := iv_leR (i32_ge c_9) (iv_k (by decide) : iv 97 97 97) hr_6 (by decide)
          refine lv_iload hx hb dX6_nameValue_58 (lv_at hl 0 rfl) ?_
          refine lv_bipush (v := 122) hx hb dX6_nameValue_60 (by decide) ?_
          refine lv_icmp_le (tgt := 67) hx hb dX6_nameValue_62 (by decide) (fun c_12 => ?_) (fun c_12 => ?_)
          · have h_13 : iv 97 122 r_6 := iv_leL c_12 h_11 (iv_k (by decide) : iv 122 122 122) (by decide)
            refine lv_lload hx hb dX6_nameValue_67 (lv_at hl 2 rfl) ?_
            refine lv_bipush (v := 8) hx hb dX6_nameValue_69 (by decide) ?_
            refine lv_lshl (v := x5_35 <<< ((8 : Int32).toInt64 &&& 63)) hx hb dX6_nameValue_71 rfl ?_
            refine lv_topl (fun z_14 ez_14 => ?_)
            refine lv_iload hx hb dX6_nameValue_72 (lv_at hl 0 rfl) ?_
            refine lv_i2l (v := (r_6 : Int32).toInt64) hx hb dX6_nameValue_74 rfl ?_
            refine lv_topl (fun z_15 ez_15 => ?_)
            refine lv_lor hx hb dX6_nameValue_75 ?_
            refine lv_topl (fun z_16 ez_16 => ?_)
            refine lv_lstore (i := 5) (lv' := [(5, .long z_16), (8, .int r_6), (7, .int x7_35), (4, .int x4_35), (3, .int x3_35), (0, eV (ad 1) x), (1, eV (ad 9) o), (2, eV (ad 33) w)]) hx hb dX6_nameValue_76 hl (by decide) rfl (fun ls hl => ?_)
            obtain ⟨z_17, ez_17⟩ : ∃ z : Int32, z = x7_35 + 1 := ⟨_, rfl⟩
            have hz_17 : iv 1 8 z_17 := iv_of ez_17 (iv_add h_5 (iv_k (by decide) : iv 1 1 1) (by decide))
            have tz_17 : z_17.toInt = x7_35.toInt + 1 := by rw [ez_17]; exact iv_addE h_5 (iv_k (by decide) : iv 1 1 1) (by decide)
            refine lv_iinc (v := z_17) (lv' := [(7, .int z_17), (5, .long z_16), (8, .int r_6), (4, .int x4_35), (3, .int x3_35), (0, eV (ad 1) x), (1, eV (ad 9) o), (2, eV (ad 33) w)]) hx hb dX6_nameValue_78 hl (k := 2) rfl ez_17.symm (by decide) rfl (fun ls hl => ?_)
            refine lv_goto (tgt := 35) hx hb dX6_nameValue_81 (by decide) ?_
            exact ih35 _ (by rw [← hn35]; exact (iv_meas tz_17 h_5 (by decide))) z_17 z_16 x4_35 x3_35 rfl (iv_w hz_17 (by decide)) hx4_35 h42 hsx0_35 hsx1_35 hsx2_35 (h3p) (h3l) (h4e) (hvw) ((by rw [s_cl h_5 (by decide) tz_17, (tk_s hvw.2 (show x7_35.toNatClampNeg < (vv7 A7 (wKy.getD w.toNatClampNeg 0)).length from (by have k7 : x7_35.toNatClampNeg = x7_35.toInt.toNat := rfl; have k4 := congrArg Int32.toInt h4e; have k5 := hvw.2.1; have := i32_0; have := i32_1; have := i32_2; have := i32_m1; have := (hsx0_35).1; have := (hsx0_35).2; have := (hsx1_35).1; have := (hsx1_35).2; have := (hsx2_35).1; have := (hsx2_35).2; have := (h_5).1; have := (h_5).2; have := (hx4_35).1; have := (hx4_35).2; have := (h42).1; have := (h42).2; have := (h_13).1; have := (h_13).2; have := (hz_17).1; have := (hz_17).2; omega)) fC_r_6), foL_ap, ← hky, ← nm_or rfl]; (try rw [← ez_14]); (try rw [← ez_15]); exact ez_16)) ((by rw [s_cl h_5 (by decide) tz_17, (tk_s hvw.2 (show x7_35.toNatClampNeg < (vv7 A7 (wKy.getD w.toNatClampNeg 0)).length from (by have k7 : x7_35.toNatClampNeg = x7_35.toInt.toNat := rfl; have k4 := congrArg Int32.toInt h4e; have k5 := hvw.2.1; have := i32_0; have := i32_1; have := i32_2; have := i32_m1; have := (hsx0_35).1; have := (hsx0_35).2; have := (hsx1_35).1; have := (hsx1_35).2; have := (hsx2_35).1; have := (hsx2_35).2; have := (h_5).1; have := (h_5).2; have := (hx4_35).1; have := (hx4_35).2; have := (h42).1; have := (h42).2; have := (h_13).1; have := (h_13).2; have := (hz_17).1; have := (hz_17).2; omega)) fC_r_6), allL_ap, hal9, decide_eq_true (show 97 ≤ r_6.toInt ∧ r_6.toInt ≤ 122 from ⟨(by have := i32_0; have := i32_1; have := i32_2; have := i32_m1; have := (hsx0_35).1; have := (hsx0_35).2; have := (hsx1_35).1; have := (hsx1_35).2; have := (hsx2_35).1; have := (hsx2_35).2; have := (h_5).1; have := (h_5).2; have := (hx4_35).1; have := (hx4_35).2; have := (h42).1; have := (h42).2; have := (h_13).1; have := (h_13).2; have := (hz_17).1; have := (hz_17).2; omega), (by have := i32_0; have := i32_1; have := i32_2; have := i32_m1; have := (hsx0_35).1; have := (hsx0_35).2; have := (hsx1_35).1; have := (hsx1_35).2; have := (hsx2_35).1; have := (hsx2_35).2; have := (h_5).1; have := (h_5).2; have := (hx4_35).1; have := (hx4_35).2; have := (h42).1; have := (h42).2; have := (h_13).1; have := (h_13).2; have := (hz_17).1; have := (hz_17).2; omega)⟩)]; rfl)) _ _ _ hP hD hS (lv_sub hl [0, 1, 3, 4, 5, 6, 7] rfl)
          · have h_18 : iv 123 65535 r_6 := iv_ltR (i32_lt c_12) (iv_k (by decide) : iv 122 122 122) h_11 (by decide)
            exact hj65 r_6 x7_35 x5_35 x4_35 x3_35 (iv_w h_18 (by decide)) h_5 hx4_35 h42 hsx0_35 hsx1_35 hsx2_35 ((nv_x hvw (show x7_35.toNatClampNeg < (vv7 A7 (wKy.getD w.toNatClampNeg 0)).length from (by have k7 : x7_35.toNatClampNeg = x7_35.toInt.toNat := rfl; have k4 := congrArg Int32.toInt h4e; have k5 := hvw.2.1; have := i32_0; have := i32_1; have := i32_2; have := i32_m1; have := (hsx0_35).1; have := (hsx0_35).2; have := (hsx1_35).1; have := (hsx1_35).2; have := (hsx2_35).1; have := (hsx2_35).2; have := (h_5).1; have := (h_5).2; have := (hx4_35).1; have := (hx4_35).2; have := (h42).1; have := (h42).2; have := (h_18).1; have := (h_18).2; omega)) fC_r_6 (by have := i32_0; have := i32_1; have := i32_2; have := i32_m1; have := (hsx0_35).1; have := (hsx0_35).2; have := (hsx1_35).1; have := (hsx1_35).2; have := (hsx2_35).1; have := (hsx2_35).2; have := (h_5).1; have := (h_5).2; have := (hx4_35).1; have := (hx4_35).2; have := (h42).1; have := (h42).2; have := (h_18).1; have := (h_18).2; omega))) _ _ _ hP hD hS (lv_sub hl [0, 1, 2, 3, 4, 5, 6, 7] rfl)
  refine ec_aload_n hx hb dX6_nameValue_0 rfl (lv_at hl 0 rfl) ?_
  refine ec_aload_n hx hb dX6_nameValue_1 rfl (lv_at hl 1 rfl) ?_
  refine ec_aload_n hx hb dX6_nameValue_2 rfl (lv_at hl 2 rfl) ?_
  refine cm_callV (t := 1) (C := RX6) (T := TX6) (N := 8) (rest := []) (as := [eV (ad 9) o, eV (ad 33) w]) ⟨hx, hb, hml, hown, htb⟩ (d_find l dC dI ad cid a2 lx sg gm lg x o w hI hvx hvo hvw hFA how) (cwV 2 htb (gd_V kw_683 kw_684 kw_25 kw_149 kw_1474) rfl rfl rfl (by decide +kernel) ⟨Nat.le_of_ble_eq_true rfl, Nat.le_of_ble_eq_true rfl⟩) hvx (by decide) (by decide) rfl rfl hl.1 rfl (Nat.le_trans cs_n (by decide)) dX6_nameValue_3 ⟨Nat.le_of_ble_eq_true rfl, Nat.le_of_ble_eq_true rfl⟩ hK hP hD hS hA hG (fun E ce q9 u_20 H locs hw hP hD hS hce hcv hcl => ?_) (fun v9 u_20 H locs hw hP hD hS => ?_)
  · exact hw.elim
  obtain ⟨r_19, rfl, rfl, hr_19, fF_r_19, fLt_r_19⟩ := hw
  have hP : va_P (dC, dI) vwCl (cW ad cid a2 lx sg gm lg) H := hP
  have hD : va_D A (cW ad cid a2 lx sg gm lg) := hD
  refine W.eq (g2 := F0 m 6 ls [.int r_19]) rfl ?_
  refine lv_istore_n (i := 3) (lv' := [(3, .int r_19), (0, eV (ad 1) x), (1, eV (ad 9) o), (2, eV (ad 33) w)]) hx hb dX6_nameValue_6 rfl hl (by decide) (by simp [List.filter, eV_cat, cat_i, cat_l]) (fun ls hl => ?_)
  refine ec_aload_n hx hb dX6_nameValue_7 rfl (lv_at hl 1 rfl) ?_
  refine lv_iload_n hx hb dX6_nameValue_8 rfl (lv_at hl 0 rfl) ?_
  refine cm_callV (t := 1) (C := RX6) (T := TX6) (N := 8) (rest := []) (as := [.int r_19]) ⟨hx, hb, hml, hown, htb⟩ (d_valueLength l dC dI ad cid a2 lx sg gm lg x r_19 hI hvx hr_19) (cwV 1 htb (gd_V kw_685 kw_686 kw_26 kw_149 kw_1475) rfl rfl rfl (by decide +kernel) ⟨Nat.le_of_ble_eq_true rfl, Nat.le_of_ble_eq_true rfl⟩) hvx (by decide) (by decide) rfl rfl hl.1 rfl (Nat.le_trans cs_n (by decide)) dX6_nameValue_9 ⟨Nat.le_of_ble_eq_true rfl, Nat.le_of_ble_eq_true rfl⟩ hK hP hD hS hA hG (fun E ce q9 u_23 H locs hw hP hD hS hce hcv hcl => ?_) (fun v9 u_23 H locs hw hP hD hS => ?_)
  · exact hw.elim
  obtain ⟨r_22, rfl, rfl, hr_22, fV_r_22⟩ := hw
  have hP : va_P (dC, dI) vwCl (cW ad cid a2 lx sg gm lg) H := hP
  have hD : va_D A (cW ad cid a2 lx sg gm lg) := hD
  refine W.eq (g2 := F0 m 12 ls [.int r_22]) rfl ?_
  refine lv_istore (i := 4) (lv' := [(4, .int r_22), (3, .int r_19), (0, eV (ad 1) x), (1, eV (ad 9) o), (2, eV (ad 33) w)]) hx hb dX6_nameValue_12 hl (by decide) rfl (fun ls hl => ?_)
  refine lv_iload hx hb dX6_nameValue_14 (lv_at hl 0 rfl) ?_
  refine lv_iconst (v := 1) hx hb dX6_nameValue_16 (by decide) ?_
  refine lv_icmp_lt (tgt := 27) hx hb dX6_nameValue_17 (by decide) (fun c_25 => ?_) (fun c_25 => ?_)
  · have h_26 : iv 0 0 r_22 := iv_ltL c_25 hr_22 (iv_k (by decide) : iv 1 1 1) (by decide)
    exact hj27 r_22 r_19 (iv_w h_26 (by decide)) hr_19 hvx hvo hvw ((nv_n fF_r_19 hat fV_r_22 (by have := i32_0; have := i32_1; have := i32_2; have := i32_m1; have := (hvx).1; have := (hvx).2; have := (hvo).1; have := (hvo).2; have := (hvw).1; have := (hvw).2; have := (hr_19).1; have := (hr_19).2; have := (h_26).1; have := (h_26).2; omega))) _ _ _ hP hD hS (lv_sub hl [0, 1, 2, 3, 4] rfl)
  · have h_27 : iv 1 24 r_22 := iv_leR (i32_ge c_25) (iv_k (by decide) : iv 1 1 1) hr_22 (by decide)
    refine lv_iload hx hb dX6_nameValue_20 (lv_at hl 0 rfl) ?_
    refine lv_bipush (v := 8) hx hb dX6_nameValue_22 (by decide) ?_
    refine lv_icmp_le (tgt := 29) hx hb dX6_nameValue_24 (by decide) (fun c_28 => ?_) (fun c_28 => ?_)
    · have h_29 : iv 1 8 r_22 := iv_leL c_28 h_27 (iv_k (by decide) : iv 8 8 8) (by decide)
      obtain ⟨h9z, h9e⟩ : 0 ≤ r_19.toInt ∧ r_22 = gm 45 r_19.toNatClampNeg := fV_r_22.resolve_left (fun q9 => by have := q9.2; have := i32_0; have := i32_1; have := i32_2; have := i32_m1; have := (hvx).1; have := (hvx).2; have := (hvo).1; have := (hvo).2; have := (hvw).1; have := (hvw).2; have := (hr_19).1; have := (hr_19).2; have := (h_29).1; have := (h_29).2; omega)
      have h9p : iv 0 239 r_19 := ⟨h9z, (hr_19).2⟩
      refine lv_lconst (v := 0) hx hb dX6_nameValue_29 (by decide) ?_
      refine lv_lstore (i := 5) (lv' := [(5, .long 0), (4, .int r_22), (3, .int r_19), (0, eV (ad 1) x), (1, eV (ad 9) o), (2, eV (ad 33) w)]) hx hb dX6_nameValue_30 hl (by decide) rfl (fun ls hl => ?_)
      refine lv_iconst (v := 0) hx hb dX6_nameValue_32 (by decide) ?_
      refine lv_istore (i := 7) (lv' := [(7, .int 0), (5, .long 0), (4, .int r_22), (3, .int r_19), (0, eV (ad 1) x), (1, eV (ad 9) o), (2, eV (ad 33) w)]) hx hb dX6_nameValue_33 hl (by decide) rfl (fun ls hl => ?_)
      exact hj35 _ 0 0 r_22 r_19 rfl (iv_w (iv_k (by decide) : iv 0 0 0) (by decide)) h_29 h9p hvx hvo hvw (h9z) (fLt_r_19) (h9e) ((FND_v fF_r_19 hat h9z)) (rfl) (rfl) _ _ _ hP hD hS (lv_sub hl [0, 1, 2, 3, 4, 5, 6] rfl)
    · have h_30 : iv 9 24 r_22 := iv_ltR (i32_lt c_28) (iv_k (by decide) : iv 8 8 8) h_27 (by decide)
      exact hj27 r_22 r_19 (iv_w h_30 (by decide)) hr_19 hvx hvo hvw ((nv_n fF_r_19 hat fV_r_22 (by have := i32_0; have := i32_1; have := i32_2; have := i32_m1; have := (hvx).1; have := (hvx).2; have := (hvo).1; have := (hvo).2; have := (hvw).1; have := (hvw).2; have := (hr_19).1; have := (hr_19).2; have := (h_30).1; have := (h_30).2; omega))) _ _ _ hP hD hS (lv_sub hl [0, 1, 2, 3, 4] rfl)
end
section
/-- a word of the class as a kind -/
def kwF (w : Int) : Int := if w = 0 then 1 else if w = 1 then 2 else if w = 2 then 3 else if w = 3 then 4 else if w = 4 then 5 else if w = 5 then 10 else if w = 6 then 6 else if w = 7 then 7 else if w = 8 then 8 else if w = 9 then 9 else 0
def KW7 (w kd : Int) : Prop := kwF w = kd
theorem kw7_n : ∀ n : Nat, n < 34 → kwF (n : Int) = kd7 (wKy.getD n 0).toInt := by decide
theorem kwF_0 {w : Int} (h : w < 0 ∨ 9 < w) : kwF w = 0 := by
  unfold kwF
  rw [if_neg (show ¬ w = 0 by omega), if_neg (show ¬ w = 1 by omega), if_neg (show ¬ w = 2 by omega), if_neg (show ¬ w = 3 by omega), if_neg (show ¬ w = 4 by omega), if_neg (show ¬ w = 5 by omega), if_neg (show ¬ w = 6 by omega), if_neg (show ¬ w = 7 by omega), if_neg (show ¬ w = 8 by omega), if_neg (show ¬ w = 9 by omega)]
def wkF (k : Int) : Int := if k = 1 then 0 else if k = 2 then 1 else if k = 3 then 2 else if k = 4 then 3 else if k = 5 then 4 else if k = 10 then 5 else if k = 6 then 6 else if k = 7 then 7 else if k = 8 then 8 else if k = 9 then 9 else -1
theorem kwF_i {w : Int} (h : 1 ≤ kwF w) : w = wkF (kwF w) := by
  by_cases h0 : w = 0
  · subst h0; decide
  by_cases h1 : w = 1
  · subst h1; decide
  by_cases h2 : w = 2
  · subst h2; decide
  by_cases h3 : w = 3
  · subst h3; decide
  by_cases h4 : w = 4
  · subst h4; decide
  by_cases h5 : w = 5
  · subst h5; decide
  by_cases h6 : w = 6
  · subst h6; decide
  by_cases h7 : w = 7
  · subst h7; decide
  by_cases h8 : w = 8
  · subst h8; decide
  by_cases h9 : w = 9
  · subst h9; decide
  rw [kwF_0 (by omega)] at h
  omega
theorem kd7_0 {k : Int} (h : ∀ j, j < 34 → ¬ (wKy.getD j 0).toInt = k) : kd7 k = 0 := by
  unfold kd7
  have a0 : ¬ k = 422607679091 := fun q => h 0 (by decide) (by rw [q]; decide)
  have a1 : ¬ k = 418430673267 := fun q => h 1 (by decide) (by rw [q]; decide)
  have a2 : ¬ k = 1650811246 := fun q => h 2 (by decide) (by rw [q]; decide)
  have a3 : ¬ k = 6386279 := fun q => h 3 (by decide) (by rw [q]; decide)
  have a4 : ¬ k = 7562612 := fun q => h 4 (by decide) (by rw [q]; decide)
  have a5 : ¬ k = 119225866483056 := fun q => h 5 (by decide) (by rw [q]; decide)
  have a6 : ¬ k = 1818850164 := fun q => h 6 (by decide) (by rw [q]; decide)
  have a7 : ¬ k = 508440638821 := fun q => h 7 (by decide) (by rw [q]; decide)
  have a8 : ¬ k = 7497062 := fun q => h 8 (by decide) (by rw [q]; decide)
  have a9 : ¬ k = 1853189228 := fun q => h 9 (by decide) (by rw [q]; decide)
  rw [if_neg a0, if_neg a1, if_neg a2, if_neg a3, if_neg a4, if_neg a6, if_neg a7, if_neg a8, if_neg a9, if_neg a5]
theorem WKR_k {r : Int32} {k : Int64} (h : WKR r k) : KW7 r.toInt (kd7 k.toInt) := by
  rcases h with ⟨a1, a2, a3⟩ | ⟨a1, a2⟩
  · have q : ((r.toNatClampNeg : Nat) : Int) = r.toInt := by show ((r.toInt.toNat : Nat) : Int) = _; omega
    have := kw7_n r.toNatClampNeg (by omega)
    rw [a3, q] at this
    exact this
  · have := kd7_0 (k := k.toInt) (fun j hj q => a2 j hj (Int64.toInt_inj.mp q))
    unfold KW7
    rw [this, kwF_0 (by omega)]
theorem cn_r {f g : Nat → Int} {e : Int} : ∀ n, (∀ j, j < n → f j = g j) → cnR f e n = cnD g e n := by
  intro n
  induction n with
  | zero => intro _; rfl
  | succ n ih =>
    intro h
    show cnR f e n + (if f n = e then 1 else 0) = cnD g e n + (if g n = e then 1 else 0)
    rw [ih (fun j hj => h j (by omega)), h n (by omega)]
/-- an element of the class by the list -/
def EV7 (D : List El7) (sg : Nat → Int32) (gm : Nat → Nat → Int32) (lg : Nat → Nat → Int64) (j : Nat) : Prop := KW7 (gm 14 j).toInt (dKd D j) ∧ ATC (dAt D j) gm lg j (sg 5).toInt (sg 6).toInt ∧ ((gm 15 j).toInt = dAb D j ∧ -1 ≤ dAb D j) ∧ (0 ≤ dAb D j → KW7 (gm 14 (gm 15 j).toNatClampNeg).toInt (dIn D j)) ∧ (gm 11 j).toInt = (dTx D j : Int) ∧ (gm 18 j).toInt = (dCn D j : Int)
theorem RDC_f {D : List El7} {sg : Nat → Int32} {gm : Nat → Nat → Int32} {lg : Nat → Nat → Int64} (h : RDC D sg gm lg) {j : Nat} (hj : j < D.length) : (gm 15 j).toInt = dAb D j ∧ WKR (gm 14 j) (dEl D j).2.2.1 ∧ ATC (dAt D j) gm lg j (sg 5).toInt (sg 6).toInt ∧ (gm 11 j).toInt = (dTx D j : Int) := by
  obtain ⟨_, a2, a3, a4, _, a6, _⟩ := h.2.2 j _ (dEl_g hj)
  exact ⟨a2, a3, a4, a6⟩
theorem RDC_n {D : List El7} {sg : Nat → Int32} {gm : Nat → Nat → Int32} {lg : Nat → Nat → Int64} (h : RDC D sg gm lg) : (sg 4).toNatClampNeg = D.length := by have := h.1; show (sg 4).toInt.toNat = _; omega
theorem EV_of {D : List El7} {sg : Nat → Int32} {gm : Nat → Nat → Int32} {lg : Nat → Nat → Int64} (h : RDC D sg gm lg) {j : Nat} (hj : j < D.length) : EV7 D sg gm lg j := by
  obtain ⟨a1, a2, a3, a4⟩ := RDC_f h hj
  have hn := RDC_n h
  obtain ⟨b1, b2, b3, b4, b5⟩ := h.2.1 j (by omega)
  refine ⟨WKR_k a2, a3, ⟨a1, by omega⟩, fun h0 => ?_, a4, ?_⟩
  · have e : (gm 15 j).toNatClampNeg = (dAb D j).toNat := by show (gm 15 j).toInt.toNat = _; rw [a1]
    rw [e]
    have := WKR_k (RDC_f h (show (dAb D j).toNat < D.length by omega)).2.1
    unfold dIn
    rw [if_neg (by omega)]
    exact this
  · rw [b5, hn]
    unfold dCn
    rw [cn_r D.length (fun i hi => (RDC_f h hi).1)]
theorem KW_f {w k k2 : Int} (h : KW7 w k) (h2 : KW7 w k2) : k = k2 := h.symm.trans h2
theorem KW_i {w w2 k : Int} (h : KW7 w k) (h2 : KW7 w2 k) (h1 : 1 ≤ k) : w = w2 := by
  unfold KW7 at h h2
  rw [kwF_i (w := w) (by omega), kwF_i (w := w2) (by omega), h, h2]
theorem KW_j {w k : Int} (h : KW7 w k) (h1 : 1 ≤ k) : w = wkF k := by
  unfold KW7 at h
  rw [kwF_i (w := w) (by omega), h]
theorem ISI_d {D : List El7} {sg : Nat → Int32} {gm : Nat → Nat → Int32} {lg : Nat → Nat → Int64} {j : Nat} (h : EV7 D sg gm lg j) {a : Int32} {K : Int} (ha : KW7 a.toInt K) (h1 : 1 ≤ K) : ISI gm j a ↔ dIn D j = K := by
  obtain ⟨_, _, ⟨b1, b2⟩, b3, _⟩ := h
  constructor
  · rintro ⟨c1, c2⟩
    have := b3 (by omega)
    rw [c2] at this
    exact KW_f this ha
  · intro e
    have h0 : 0 ≤ dAb D j := by
      by_cases q : dAb D j = -1
      · unfold dIn at e; rw [if_pos q] at e; omega
      · omega
    have := b3 h0
    rw [e] at this
    exact ⟨by omega, Int32.toInt_inj.mp (KW_i this ha h1)⟩
theorem swy {y z : Int32} (j i : Nat) (hd : ∀ n, n < 34 → (wSw.getD n 0).toInt = (i : Int) → n = j) (hy : iv 0 33 y) (e : z = wSw.getD y.toNatClampNeg 0) (h : z.toInt = (i : Int)) : y.toInt = (j : Int) := by
  have q1 := iv_cl hy (by decide)
  have q2 := hy.2
  rw [e] at h
  have := hd y.toNatClampNeg (by omega) h
  omega
theorem wkz {w : Int32} {x : Int} {j : Nat} (hw : iv 0 33 w) (h : w.toInt = (j : Int)) (e : (wKy.getD j 0).toInt = x) : (wKy.getD w.toNatClampNeg 0).toInt = x := by
  have q1 := iv_cl hw (by decide)
  rw [show w.toNatClampNeg = j by omega]
  exact e
theorem wkn {w : Int32} {x : Int} {j : Nat} (hd : ∀ n, n < 34 → (wKy.getD n 0).toInt = x → n = j) (hw : iv 0 33 w) (h : ¬ w.toInt = (j : Int)) : ¬ (wKy.getD w.toNatClampNeg 0).toInt = x := fun q => by
  have q1 := iv_cl hw (by decide)
  have q2 := hw.2
  have := hd w.toNatClampNeg (by omega) q
  omega
end
section
def BM7 (k b : Int) : Prop := ((k = 26980 ∨ k = 7017298113369039732 ∨ k = 1818327673) ∧ b = 1) ∨ (k = 427020088179 ∨ k = 123563833388660 ∨ k = 495589486693 ∨ k = 28817527407604345 ∨ k = 120282512125796 ∨ k = 1768843636 ∨ k = 28259044220366713 ∨ k = 28259031083541619)
def MK7 (k : Int) : Prop := k = 1851878757 ∨ k = 29807 ∨ k = 26980 ∨ k = 7017298113369039732 ∨ k = 1818327673 ∨ k = 427020088179 ∨ k = 123563833388660 ∨ k = 495589486693 ∨ k = 28817527407604345 ∨ k = 120282512125796 ∨ k = 1768843636 ∨ k = 28259044220366713 ∨ k = 28259031083541619 ∨ k = 24948 ∨ k = 1954115685 ∨ k = 508440638821 ∨ k = 7497062 ∨ k = 1650811246
theorem MAY_k {kd i k : Int} (h : MAY kd i k) : MK7 k := by
  unfold MAY at h
  unfold MK7
  rcases h with ⟨_, q⟩ | ⟨_, ⟨q, _⟩ | q⟩ | ⟨_, q⟩ | ⟨_, q⟩ | ⟨_, q⟩ | ⟨_, q⟩ <;> omega
theorem MAY_b {i k b kd : Int} (hk : kd = 3) (hb : (b = 1 ∧ i = 1) ∨ (b = 0 ∧ ¬ i = 1)) : MAY kd i k ↔ BM7 k b := by
  rw [hk, MAY_3]
  unfold BM7
  refine or_congr (and_congr Iff.rfl ?_) Iff.rfl
  constructor <;> intro w <;> omega
theorem rvg_L {kd : Int} {q : At7} {k : Int64} (h : PA7 q) (hk : k.toInt = 120282512125796 ∨ k.toInt = 1768843636 ∨ k.toInt = 28259044220366713) : RVL kd q k ↔ 0 ≤ lv7 q k := by
  rcases hk with e | e | e
  · obtain rfl : k = 120282512125796 := Int64.toInt_inj.mp (e.trans (by decide)); exact rv_METHOD h
  · obtain rfl : k = 1768843636 := Int64.toInt_inj.mp (e.trans (by decide)); exact rv_INIT h
  · obtain rfl : k = 28259044220366713 := Int64.toInt_inj.mp (e.trans (by decide)); exact rv_DESTROY h
theorem rvg_Y {kd : Int} {q : At7} {k : Int64} (h : PA7 q) (hk : k.toInt = 7017298113369039732 ∨ k.toInt = 1818327673) : RVL kd q k ↔ (nv7 q k = 7955827 ∨ nv7 q k = 28271) := by
  rw [nve_7955827 h, nve_28271 h]
  rcases hk with e | e
  · obtain rfl : k = 7017298113369039732 := Int64.toInt_inj.mp (e.trans (by decide)); exact rv_ABSTRACT h
  · obtain rfl : k = 1818327673 := Int64.toInt_inj.mp (e.trans (by decide)); exact rv_LAZY h
theorem rvg_O {kd : Int} {q : At7} {k : Int64} (h : PA7 q) (e : k.toInt = 495589486693) : RVL kd q k ↔ (nv7 q k = 7302757 ∨ nv7 q k = 1835101817) := by
  rw [nve_7302757 h, nve_1835101817 h]
  obtain rfl : k = 495589486693 := Int64.toInt_inj.mp (e.trans (by decide)); exact rv_SCOPE h
theorem rvg_C {kd : Int} {q : At7} {k : Int64} (h : PA7 q) (e : k.toInt = 427020088179) : RVL kd q k ↔ 0 ≤ cv7 q k := by
  obtain rfl : k = 427020088179 := Int64.toInt_inj.mp (e.trans (by decide)); exact rv_CLASS h
theorem rvg_A {kd : Int} {q : At7} {k : Int64} (h : PA7 q) (e : k.toInt = 24948) : RVL kd q k ↔ 0 ≤ pl7 q k := by
  obtain rfl : k = 24948 := Int64.toInt_inj.mp (e.trans (by decide)); exact rv_AT h
theorem rvg_V {kd : Int} {q : At7} {k : Int64} (h : PA7 q) (e : k.toInt = 508440638821) : RVL kd q k := by
  obtain rfl : k = 508440638821 := Int64.toInt_inj.mp (e.trans (by decide)); exact (rv_VALUE h).mpr trivial
theorem rvg_T {kd : Int} {q : At7} {k : Int64} (h : PA7 q) (e : k.toInt = 1954115685) : RVL kd q k ↔ ty7 q k := by
  obtain rfl : k = 1954115685 := Int64.toInt_inj.mp (e.trans (by decide))
  rw [rv_TYPE h]
  unfold ty7
  rw [nve_6909556 h, nve_500136506472 h, nve_1667785074 h, nve_1952807028 h, nve_7499639 h]
theorem rvg_N {kd : Int} {q : At7} {k : Int64} (h : PA7 q) (e : k.toInt = 1851878757) : RVL kd q k ↔ ((kd = 2 ∧ ¬ nv7 q k = 0) ∨ (¬ kd = 2 ∧ 0 ≤ lv7 q k)) := by
  rw [nv7_z h]
  obtain rfl : k = 1851878757 := Int64.toInt_inj.mp (e.trans (by decide)); exact rv_NAME h
theorem rvg_W {kd : Int} {q : At7} {k : Int64} (h : PA7 q) (hk : k.toInt = 26980 ∨ k.toInt = 123563833388660 ∨ k.toInt = 28817527407604345 ∨ k.toInt = 28259031083541619 ∨ k.toInt = 29807 ∨ k.toInt = 7497062 ∨ k.toInt = 1650811246) : RVL kd q k ↔ ¬ nv7 q k = 0 := by
  rw [nv7_z h]
  rcases hk with e | e | e | e | e | e | e
  · obtain rfl : k = 26980 := Int64.toInt_inj.mp (e.trans (by decide)); exact rv_ID h
  · obtain rfl : k = 123563833388660 := Int64.toInt_inj.mp (e.trans (by decide)); exact rv_PARENT h
  · obtain rfl : k = 28817527407604345 := Int64.toInt_inj.mp (e.trans (by decide)); exact rv_FACTORY h
  · obtain rfl : k = 28259031083541619 := Int64.toInt_inj.mp (e.trans (by decide)); exact rv_DEPENDS h
  · obtain rfl : k = 29807 := Int64.toInt_inj.mp (e.trans (by decide)); exact rv_TO h
  · obtain rfl : k = 7497062 := Int64.toInt_inj.mp (e.trans (by decide)); exact rv_REF h
  · obtain rfl : k = 1650811246 := Int64.toInt_inj.mp (e.trans (by decide)); exact rv_BEAN h
theorem ty_t {q : At7} {k : Int64} {r : Int32} {n : Nat} (hr : WKR r (nv7 q k)) (h0 : 0 ≤ r.toInt) (hn : r.toInt = (n : Int)) (h1 : 29 ≤ n) (h2 : n ≤ 33) : ty7 q k := by
  rcases hr with ⟨a1, a2, a3⟩ | ⟨a1, a2⟩
  · have e : r.toNatClampNeg = n := by show r.toInt.toNat = n; omega
    rw [e] at a3
    unfold ty7
    rcases (show n = 29 ∨ n = 30 ∨ n = 31 ∨ n = 32 ∨ n = 33 by omega) with rfl | rfl | rfl | rfl | rfl
    · exact Or.inr (Or.inl a3.symm)
    · exact Or.inr (Or.inr (Or.inl a3.symm))
    · exact Or.inr (Or.inr (Or.inr (Or.inl a3.symm)))
    · exact Or.inr (Or.inr (Or.inr (Or.inr (Or.inl a3.symm))))
    · exact Or.inr (Or.inr (Or.inr (Or.inr (Or.inr a3.symm))))
  · omega
theorem ty_f {q : At7} {k : Int64} {r : Int32} (hr : WKR r (nv7 q k)) (hc : cv7 q k = -1) (hn : ¬ (29 ≤ r.toInt ∧ r.toInt ≤ 33)) : ¬ ty7 q k := by
  have key : ∀ j, j < 34 → 29 ≤ j → (∀ a, a < 34 → wKy.getD a 0 = wKy.getD j 0 → a = j) → ¬ nv7 q k = wKy.getD j 0 := by
    intro j hj h29 inj e
    rcases hr with ⟨a1, a2, a3⟩ | ⟨a1, a2⟩
    · have := inj r.toNatClampNeg (by show r.toInt.toNat < 34; omega) (a3.trans e)
      have q : r.toNatClampNeg = r.toInt.toNat := rfl
      omega
    · exact a2 j hj e.symm
  intro w
  unfold ty7 at w
  rcases w with w | w | w | w | w | w
  · omega
  · exact key 29 (by decide) (by decide) (by decide) w
  · exact key 30 (by decide) (by decide) (by decide) w
  · exact key 31 (by decide) (by decide) (by decide) w
  · exact key 32 (by decide) (by decide) (by decide) w
  · exact key 33 (by decide) (by decide) (by decide) w
end
section
set_option maxHeartbeats 4000000 in
set_option maxRecDepth 100000 in
theorem d_isIn2 (l : Launch) (dC : Nat → ClassId) (dI : Nat → Nat → Nat) (ad : Nat → Nat → Nat) (cid : Nat → ClassId) (a2 : Nat → Nat) (lx : List Nat) (sg : Nat → Int32) (gm : Nat → Nat → Int32) (lg : Nat → Nat → Int64) (x : Int32) (a : Int32) (hI : CI sg gm) (hvx : iv 0 79 x) (hva : iv (-1) 33 a) : CMt dC dI ad cid a2 lx l yX3_isIn wm_X3_isIn ({ frames := 0, cells := 1, slots := 6, locals := 0 }) [eV (ad 9) x, eV (ad 33) a] sg gm lg (fun v u => ∃ r : Int32, v = some (.int r) ∧ u = (sg, gm, lg) ∧ (iv 0 1 r) ∧ ((r.toInt = 1 ∧ (ISI gm x.toNatClampNeg a)) ∨ (r.toInt = 0 ∧ ¬ (ISI gm x.toNatClampNeg a)))) (fun _ _ => False) := by
  intro sz
  refine vx_ofW (cc := cX3_isIn) (maxL := 2) (ret := (some .boolean)) (by decide) rfl ?_
  intro p e s m args below meth c s₁ B hml hxt hv
  obtain ⟨rfl, hsz, hP, hK, hD0, hG⟩ := hv
  have hx := B.exec
  have hb := B.bytes
  have hr := B.returns
  have hts := atoms_spec (ws := wm_X3_isIn) B.pre
  have htb := fun (w : Cond) (h : w ∈ tb) => hts w (List.mem_cons_of_mem _ h)
  have hown : s.vm.findClass RX3 = some m.cls := findClass_of_methodNamed B.named
  have hlocks := B.notSynchronized
  subst hsz
  have hD := hD0.self (sz := s.heap.size)
  generalize hAe : va_A (cW ad cid a2 lx sg gm lg) s.heap.size = A at hD hG ⊢
  have hA : ∀ q : Nat, s.heap.size ≤ q → A q := fun q h => by rw [← hAe]; exact Or.inr h
  have hS : va_S A s.heap s.heap [] := va_S.rf
  have hl := lv_entry ([eV (ad 9) x, eV (ad 33) a]) (n := 2) (by rw [show (lg_sl ([eV (ad 9) x, eV (ad 33) a])).length = 2 from by simp [lg_sl, eV_cat, cat_i, cat_l]]; exact Nat.le_of_ble_eq_true rfl)
  rw [lg_entry_eq]
  generalize (lg_sl ([eV (ad 9) x, eV (ad 33) a]) ++ List.replicate (2 - (lg_sl ([eV (ad 9) x, eV (ad 33) a])).length) Slot.unset).toArray = ls at hl ⊢
  have hl : lv_has ls 2 [(0, eV (ad 9) x), (1, eV (ad 33) a)] := by simp [lv_args, eV_cat, cat_i, cat_l] at hl; exact hl
  have hj23 : ∀ (y0_23 : Int32) (_ : iv 0 79 x) (_ : iv (-1) 33 a) (_ : iv 0 1 y0_23) (_ : (y0_23.toInt = 1 ∧ (ISI gm x.toNatClampNeg a)) ∨ (y0_23.toInt = 0 ∧ ¬ (ISI gm x.toNatClampNeg a))) (H : Heap) (locs : List Loc) (ls : Array Slot), va_P (dC, dI) vwCl (cW ad cid a2 lx sg gm lg) H → va_D A (cW ad cid a2 lx sg gm lg) → va_S A s.heap H locs → lv_has ls 2 [(0, eV (ad 9) x), (1, eV (ad 33) a)] → W p l e (headSpec wm_X3_isIn ({ frames := 0, cells := 1, slots := 6, locals := 0 })).room s m ([eV (ad 9) x, eV (ad 33) a] : List Value).toArray below meth c H locs 0 0 (vx_MQ below (cQx dC dI ad cid a2 lx (fun v u => ∃ r : Int32, v = some (.int r) ∧ u = (sg, gm, lg) ∧ (iv 0 1 r) ∧ ((r.toInt = 1 ∧ (ISI gm x.toNatClampNeg a)) ∨ (r.toInt = 0 ∧ ¬ (ISI gm x.toNatClampNeg a)))) A) (cX dC dI ad cid a2 lx (fun _ _ => False) A) ([eV (ad 9) x, eV (ad 33) a] : List Value).toArray s 1 6 A) (F0 m 23 ls [.int y0_23]) := by
    intro y0_23 hsx0_23 hsx1_23 hy0_23 u23 H locs ls hP hD hS hl
    exact W.nb (fun hN => W.widen (k := 1) (n := 6) (by decide) (by decide) (vx_ret (W.zret (v := y0_23) hx hb hr (iv_nb hy0_23) (fun t ht hW => ⟨⟨some (.int y0_23), (sg, gm, lg), rfl, ⟨y0_23, rfl, rfl, hy0_23, (u23)⟩, by rw [ht]; exact hP, va_K.moved hW.alike hK, hD⟩, hS.F ht, by rw [ht]; exact hN⟩) hS.2.2 dX3_isIn_23)))
  have hj22 : ∀ (_ : iv 0 79 x) (_ : iv (-1) 33 a) (_ : ¬ ISI gm x.toNatClampNeg a) (H : Heap) (locs : List Loc) (ls : Array Slot), va_P (dC, dI) vwCl (cW ad cid a2 lx sg gm lg) H → va_D A (cW ad cid a2 lx sg gm lg) → va_S A s.heap H locs → lv_has ls 2 [(0, eV (ad 9) x), (1, eV (ad 33) a)] → W p l e (headSpec wm_X3_isIn ({ frames := 0, cells := 1, slots := 6, locals := 0 })).room s m ([eV (ad 9) x, eV (ad 33) a] : List Value).toArray below meth c H locs 0 0 (vx_MQ below (cQx dC dI ad cid a2 lx (fun v u => ∃ r : Int32, v = some (.int r) ∧ u = (sg, gm, lg) ∧ (iv 0 1 r) ∧ ((r.toInt = 1 ∧ (ISI gm x.toNatClampNeg a)) ∨ (r.toInt = 0 ∧ ¬ (ISI gm x.toNatClampNeg a)))) A) (cX dC dI ad cid a2 lx (fun _ _ => False) A) ([eV (ad 9) x, eV (ad 33) a] : List Value).toArray s 1 6 A) (F0 m 22 ls []) := by
    intro  hsx0_22 hsx1_22 u22 H locs ls hP hD hS hl
    refine lv_iconst (v := 0) hx hb dX3_isIn_22 (by decide) ?_
    exact hj23 0 hsx0_22 hsx1_22 (iv_w (iv_k (by decide) : iv 0 0 0) (by decide)) (Or.inr ⟨rfl, u22⟩) _ _ _ hP hD hS (lv_sub hl [0, 1] rfl)
  refine ec_aload_n hx hb dX3_isIn_0 rfl (lv_at hl 0 rfl) ?_
  refine cr_get (t := 9) (j := 5) (C := RX3) (T := TX3) (N := 21) (v := eV (ad 9) (gm 15 x.toNatClampNeg)) hx hb htb inX3 hown hK hP hvx (by decide) (by decide) (by decide) rfl (by decide) (htb _ kw_246) rfl dX3_isIn_1 ?_
  obtain ⟨z_1, ez_1⟩ : ∃ z : Int32, z = (gm 15 x.toNatClampNeg) := ⟨_, rfl⟩
  refine W.eq (g2 := F0 m 4 ls [eV (ad 9) z_1]) (by rw [ez_1]) ?_
  have hz_1 : iv (-1) 79 z_1 := iv_of ez_1 (CI_a hI 15 hvx (by decide))
  refine ec_ifnull (tgt := 22) hx hb dX3_isIn_4 (by decide) (fun c_2 => ?_) (fun c_2 => ?_)
  · have h_3 : iv (-1) (-1) z_1 := ⟨(hz_1).1, by omega⟩
    exact hj22 hvx hva ((fun q9 => absurd q9.1 (by rw [← ez_1]; have := i32_0; have := i32_1; have := i32_2; have := i32_m1; have := (hvx).1; have := (hvx).2; have := (hva).1; have := (hva).2; have := (h_3).1; have := (h_3).2; omega))) _ _ _ hP hD hS (lv_sub hl [0, 1] rfl)
  · have h_4 : iv 0 79 z_1 := ⟨c_2, (hz_1).2⟩
    refine ec_aload_n hx hb dX3_isIn_7 rfl (lv_at hl 0 rfl) ?_
    refine cr_get (t := 9) (j := 5) (C := RX3) (T := TX3) (N := 21) (v := eV (ad 9) (gm 15 x.toNatClampNeg)) hx hb htb inX3 hown hK hP hvx (by decide) (by decide) (by decide) rfl (by decide) (htb _ kw_246) rfl dX3_isIn_8 ?_
    refine W.eq (g2 := F0 m 11 ls [eV (ad 9) z_1]) (by rw [show (gm 15 x.toNatClampNeg) = z_1 from ez_1.symm]) ?_
    refine cr_get (t := 9) (j := 4) (C := RX3) (T := TX3) (N := 21) (v := eV (ad 33) (gm 14 z_1.toNatClampNeg)) hx hb htb inX3 hown hK hP h_4 (by decide) (by decide) (by decide) rfl (by decide) (htb _ kw_241) rfl dX3_isIn_11 ?_
    obtain ⟨z_5, ez_5⟩ : ∃ z : Int32, z = (gm 14 z_1.toNatClampNeg) := ⟨_, rfl⟩
    refine W.eq (g2 := F0 m 14 ls [eV (ad 33) z_5]) (by rw [ez_5]) ?_
    have hz_5 : iv (-1) 33 z_5 := iv_of ez_5 (CI_a hI 14 h_4 (by decide))
    refine ec_aload_n hx hb dX3_isIn_14 rfl (lv_at hl 1 rfl) ?_
    refine ec_acmp_ne (tgt := 22) hx hb dX3_isIn_15 (by decide) (fun c_6 => ?_) (fun c_6 => ?_)
    · have wc_6 : ¬ z_5.toInt = a.toInt := fun q9 => c_6 (congrArg (er (ad 33)) (Int32.toInt_inj.mp q9))
      exact hj22 hvx hva ((fun q9 => wc_6 (by have q8 := q9.2; rw [← ez_1, ← ez_5] at q8; exact congrArg Int32.toInt q8))) _ _ _ hP hD hS (lv_sub hl [0, 1] rfl)
    · have wc_6 : z_5.toInt = a.toInt := er_wd hG hz_5 hva c_6
      refine lv_iconst (v := 1) hx hb dX3_isIn_18 (by decide) ?_
      refine lv_goto (tgt := 23) hx hb dX3_isIn_19 (by decide) ?_
      exact hj23 1 hvx hva (iv_w (iv_k (by decide) : iv 1 1 1) (by decide)) (Or.inl ⟨rfl, ⟨by rw [← ez_1]; exact (h_4).1, by rw [← ez_1, ← ez_5]; exact Int32.toInt_inj.mp wc_6⟩⟩) _ _ _ hP hD hS (lv_sub hl [0, 1] rfl)

set_option maxHeartbeats 4000000 in
set_option maxRecDepth 100000 in
theorem d_isHeld2 (l : Launch) (dC : Nat → ClassId) (dI : Nat → Nat → Nat) (ad : Nat → Nat → Nat) (cid : Nat → ClassId) (a2 : Nat → Nat) (lx : List Nat) (sg : Nat → Int32) (gm : Nat → Nat → Int32) (lg : Nat → Nat → Int64) (x : Int32) (o : Int32) (D : List El7) (hI : CI sg gm) (hvx : iv 0 0 x) (hvo : iv 0 79 o) (hEV : EV7 D sg gm lg o.toNatClampNeg) : CMt dC dI ad cid a2 lx l yX9_isHeld wm_X9_isHeld ({ frames := 1, cells := 1, slots := 6, locals := 21 }) [eV (ad 3) x, eV (ad 9) o] sg gm lg (fun v u => ∃ r : Int32, v = some (.int r) ∧ u = (sg, gm, lg) ∧ (iv 0 1 r) ∧ ((r.toInt = 1 ∧ (dIn D o.toNatClampNeg = 4 ∨ dIn D o.toNatClampNeg = 5 ∨ dIn D o.toNatClampNeg = 6)) ∨ (r.toInt = 0 ∧ ¬ (dIn D o.toNatClampNeg = 4 ∨ dIn D o.toNatClampNeg = 5 ∨ dIn D o.toNatClampNeg = 6)))) (fun _ _ => False) := by
  intro sz
  refine vx_ofW (cc := cX9_isHeld) (maxL := 2) (ret := (some .boolean)) (by decide) rfl ?_
  intro p e s m args below meth c s₁ B hml hxt hv
  obtain ⟨rfl, hsz, hP, hK, hD0, hG⟩ := hv
  have hx := B.exec
  have hb := B.bytes
  have hr := B.returns
  have hts := atoms_spec (ws := wm_X9_isHeld) B.pre
  have htb := fun (w : Cond) (h : w ∈ tb) => hts w (List.mem_cons_of_mem _ h)
  have hown : s.vm.findClass RX9 = some m.cls := findClass_of_methodNamed B.named
  have hlocks := B.notSynchronized
  subst hsz
  have hD := hD0.self (sz := s.heap.size)
  generalize hAe : va_A (cW ad cid a2 lx sg gm lg) s.heap.size = A at hD hG ⊢
  have hA : ∀ q : Nat, s.heap.size ≤ q → A q := fun q h => by rw [← hAe]; exact Or.inr h
  have hS : va_S A s.heap s.heap [] := va_S.rf
  have hl := lv_entry ([eV (ad 3) x, eV (ad 9) o]) (n := 2) (by rw [show (lg_sl ([eV (ad 3) x, eV (ad 9) o])).length = 2 from by simp [lg_sl, eV_cat, cat_i, cat_l]]; exact Nat.le_of_ble_eq_true rfl)
  rw [lg_entry_eq]
  generalize (lg_sl ([eV (ad 3) x, eV (ad 9) o]) ++ List.replicate (2 - (lg_sl ([eV (ad 3) x, eV (ad 9) o])).length) Slot.unset).toArray = ls at hl ⊢
  have hl : lv_has ls 2 [(0, eV (ad 3) x), (1, eV (ad 9) o)] := by simp [lv_args, eV_cat, cat_i, cat_l] at hl; exact hl
  have hj35 : ∀ (y0_35 : Int32) (_ : iv 0 0 x) (_ : iv 0 79 o) (_ : iv 0 1 y0_35) (_ : (y0_35.toInt = 1 ∧ (dIn D o.toNatClampNeg = 4 ∨ dIn D o.toNatClampNeg = 5 ∨ dIn D o.toNatClampNeg = 6)) ∨ (y0_35.toInt = 0 ∧ ¬ (dIn D o.toNatClampNeg = 4 ∨ dIn D o.toNatClampNeg = 5 ∨ dIn D o.toNatClampNeg = 6))) (H : Heap) (locs : List Loc) (ls : Array Slot), va_P (dC, dI) vwCl (cW ad cid a2 lx sg gm lg) H → va_D A (cW ad cid a2 lx sg gm lg) → va_S A s.heap H locs → lv_has ls 2 [(0, eV (ad 3) x), (1, eV (ad 9) o)] → W p l e (headSpec wm_X9_isHeld ({ frames := 1, cells := 1, slots := 6, locals := 21 })).room s m ([eV (ad 3) x, eV (ad 9) o] : List Value).toArray below meth c H locs 0 0 (vx_MQ below (cQx dC dI ad cid a2 lx (fun v u => ∃ r : Int32, v = some (.int r) ∧ u = (sg, gm, lg) ∧ (iv 0 1 r) ∧ ((r.toInt = 1 ∧ (dIn D o.toNatClampNeg = 4 ∨ dIn D o.toNatClampNeg = 5 ∨ dIn D o.toNatClampNeg = 6)) ∨ (r.toInt = 0 ∧ ¬ (dIn D o.toNatClampNeg = 4 ∨ dIn D o.toNatClampNeg = 5 ∨ dIn D o.toNatClampNeg = 6)))) A) (cX dC dI ad cid a2 lx (fun _ _ => False) A) ([eV (ad 3) x, eV (ad 9) o] : List Value).toArray s 1 6 A) (F0 m 35 ls [.int y0_35]) := by
    intro y0_35 hsx0_35 hsx1_35 hy0_35 u35 H locs ls hP hD hS hl
    exact W.nb (fun hN => W.widen (k := 1) (n := 6) (by decide) (by decide) (vx_ret (W.zret (v := y0_35) hx hb hr (iv_nb hy0_35) (fun t ht hW => ⟨⟨some (.int y0_35), (sg, gm, lg), rfl, ⟨y0_35, rfl, rfl, hy0_35, (u35)⟩, by rw [ht]; exact hP, va_K.moved hW.alike hK, hD⟩, hS.F ht, by rw [ht]; exact hN⟩) hS.2.2 dX9_isHeld_35)))
  have hj30 : ∀ (_ : iv 0 0 x) (_ : iv 0 79 o) (_ : dIn D o.toNatClampNeg = 4 ∨ dIn D o.toNatClampNeg = 5 ∨ dIn D o.toNatClampNeg = 6) (H : Heap) (locs : List Loc) (ls : Array Slot), va_P (dC, dI) vwCl (cW ad cid a2 lx sg gm lg) H → va_D A (cW ad cid a2 lx sg gm lg) → va_S A s.heap H locs → lv_has ls 2 [(0, eV (ad 3) x), (1, eV (ad 9) o)] → W p l e (headSpec wm_X9_isHeld ({ frames := 1, cells := 1, slots := 6, locals := 21 })).room s m ([eV (ad 3) x, eV (ad 9) o] : List Value).toArray below meth c H locs 0 0 (vx_MQ below (cQx dC dI ad cid a2 lx (fun v u => ∃ r : Int32, v = some (.int r) ∧ u = (sg, gm, lg) ∧ (iv 0 1 r) ∧ ((r.toInt = 1 ∧ (dIn D o.toNatClampNeg = 4 ∨ dIn D o.toNatClampNeg = 5 ∨ dIn D o.toNatClampNeg = 6)) ∨ (r.toInt = 0 ∧ ¬ (dIn D o.toNatClampNeg = 4 ∨ dIn D o.toNatClampNeg = 5 ∨ dIn D o.toNatClampNeg = 6)))) A) (cX dC dI ad cid a2 lx (fun _ _ => False) A) ([eV (ad 3) x, eV (ad 9) o] : List Value).toArray s 1 6 A) (F0 m 30 ls []) := by
    intro  hsx0_30 hsx1_30 u30 H locs ls hP hD hS hl
    refine lv_iconst (v := 1) hx hb dX9_isHeld_30 (by decide) ?_
    refine lv_goto (tgt := 35) hx hb dX9_isHeld_31 (by decide) ?_
    exact hj35 1 hsx0_30 hsx1_30 (iv_w (iv_k (by decide) : iv 1 1 1) (by decide)) (Or.inl ⟨rfl, u30⟩) _ _ _ hP hD hS (lv_sub hl [0, 1] rfl)
  refine ec_aload_n hx hb dX9_isHeld_0 rfl (lv_at hl 1 rfl) ?_
  refine cw_word (k := 3) (kx := 3) hx hb hG hS (by decide) rfl ⟨by decide, by decide⟩ hown (htb _ kw_671) dX9_isHeld_1 ?_
  refine cm_callV (t := 9) (C := RX3) (T := TX3) (N := 21) (rest := []) (as := [eV (ad 33) 3]) ⟨hx, hb, hml, hown, htb⟩ (d_isIn2 l dC dI ad cid a2 lx sg gm lg o 3 hI hvo (iv_w (iv_k (by decide) : iv 3 3 3) (by decide))) (cwV 1 htb (gd_V kw_666 kw_667 kw_668 kw_150 kw_1469) rfl rfl rfl (by decide +kernel) ⟨Nat.le_of_ble_eq_true rfl, Nat.le_of_ble_eq_true rfl⟩) hvo (by decide) (by decide) rfl rfl hl.1 rfl (Nat.le_trans cs_n (by decide)) dX9_isHeld_4 ⟨Nat.le_of_ble_eq_true rfl, Nat.le_of_ble_eq_true rfl⟩ hK hP hD hS hA hG (fun E ce q9 u_2 H locs hw hP hD hS hce hcv hcl => ?_) (fun v9 u_2 H locs hw hP hD hS => ?_)
  · exact hw.elim
  obtain ⟨r_1, rfl, rfl, hr_1, fI_r_1⟩ := hw
  have hP : va_P (dC, dI) vwCl (cW ad cid a2 lx sg gm lg) H := hP
  have hD : va_D A (cW ad cid a2 lx sg gm lg) := hD
  refine W.eq (g2 := F0 m 7 ls [.int r_1]) rfl ?_
  have gI_r_1 : (r_1.toInt = 1 ∧ dIn D o.toNatClampNeg = 4) ∨ (r_1.toInt = 0 ∧ ¬ dIn D o.toNatClampNeg = 4) := by rw [← ISI_d hEV (a := 3) (K := 4) (by unfold KW7; decide) (by decide)]; exact fI_r_1
  refine lv_if_ne (tgt := 30) hx hb dX9_isHeld_7 (by decide) (fun c_4 => ?_) (fun c_4 => ?_)
  · have h_5 : iv 1 1 r_1 := iv_neL c_4 hr_1 (by decide)
    exact hj30 hvx hvo (by have := i32_0; have := i32_1; have := i32_2; have := i32_m1; have := (hvx).1; have := (hvx).2; have := (hvo).1; have := (hvo).2; have := (h_5).1; have := (h_5).2; omega) _ _ _ hP hD hS (lv_sub hl [0, 1] rfl)
  · have h_6 : iv 0 0 r_1 := iv_eq c_4 hr_1 (iv_k (by decide) : iv 0 0 0) (by decide)
    refine ec_aload_n hx hb dX9_isHeld_10 rfl (lv_at hl 1 rfl) ?_
    refine cw_word (k := 4) (kx := 4) hx hb hG hS (by decide) rfl ⟨by decide, by decide⟩ hown (htb _ kw_672) dX9_isHeld_11 ?_
    refine cm_callV (t := 9) (C := RX3) (T := TX3) (N := 21) (rest := []) (as := [eV (ad 33) 4]) ⟨hx, hb, hml, hown, htb⟩ (d_isIn2 l dC dI ad cid a2 lx sg gm lg o 4 hI hvo (iv_w (iv_k (by decide) : iv 4 4 4) (by decide))) (cwV 1 htb (gd_V kw_666 kw_667 kw_668 kw_150 kw_1469) rfl rfl rfl (by decide +kernel) ⟨Nat.le_of_ble_eq_true rfl, Nat.le_of_ble_eq_true rfl⟩) hvo (by decide) (by decide) rfl rfl hl.1 rfl (Nat.le_trans cs_n (by decide)) dX9_isHeld_14 ⟨Nat.le_of_ble_eq_true rfl, Nat.le_of_ble_eq_true rfl⟩ hK hP hD hS hA hG (fun E ce q9 u_8 H locs hw hP hD hS hce hcv hcl => ?_) (fun v9 u_8 H locs hw hP hD hS => ?_)
    · exact hw.elim
    obtain ⟨r_7, rfl, rfl, hr_7, fI_r_7⟩ := hw
    have hP : va_P (dC, dI) vwCl (cW ad cid a2 lx sg gm lg) H := hP
    have hD : va_D A (cW ad cid a2 lx sg gm lg) := hD
    refine W.eq (g2 := F0 m 17 ls [.int r_7]) rfl ?_
    have gI_r_7 : (r_7.toInt = 1 ∧ dIn D o.toNatClampNeg = 5) ∨ (r_7.toInt = 0 ∧ ¬ dIn D o.toNatClampNeg = 5) := by rw [← ISI_d hEV (a := 4) (K := 5) (by unfold KW7; decide) (by decide)]; exact fI_r_7
    refine lv_if_ne (tgt := 30) hx hb dX9_isHeld_17 (by decide) (fun c_10 => ?_) (fun c_10 => ?_)
    · have h_11 : iv 1 1 r_7 := iv_neL c_10 hr_7 (by decide)
      exact hj30 hvx hvo (by have := i32_0; have := i32_1; have := i32_2; have := i32_m1; have := (hvx).1; have := (hvx).2; have := (hvo).1; have := (hvo).2; have := (h_6).1; have := (h_6).2; have := (h_11).1; have := (h_11).2; omega) _ _ _ hP hD hS (lv_sub hl [0, 1] rfl)
    · have h_12 : iv 0 0 r_7 := iv_eq c_10 hr_7 (iv_k (by decide) : iv 0 0 0) (by decide)
      refine ec_aload_n hx hb dX9_isHeld_20 rfl (lv_at hl 1 rfl) ?_
      refine cw_word (k := 6) (kx := 6) hx hb hG hS (by decide) rfl ⟨by decide, by decide⟩ hown (htb _ kw_673) dX9_isHeld_21 ?_
      refine cm_callV (t := 9) (C := RX3) (T := TX3) (N := 21) (rest := []) (as := [eV (ad 33) 6]) ⟨hx, hb, hml, hown, htb⟩ (d_isIn2 l dC dI ad cid a2 lx sg gm lg o 6 hI hvo (iv_w (iv_k (by decide) : iv 6 6 6) (by decide))) (cwV 1 htb (gd_V kw_666 kw_667 kw_668 kw_150 kw_1469) rfl rfl rfl (by decide +kernel) ⟨Nat.le_of_ble_eq_true rfl, Nat.le_of_ble_eq_true rfl⟩) hvo (by decide) (by decide) rfl rfl hl.1 rfl (Nat.le_trans cs_n (by decide)) dX9_isHeld_24 ⟨Nat.le_of_ble_eq_true rfl, Nat.le_of_ble_eq_true rfl⟩ hK hP hD hS hA hG (fun E ce q9 u_14 H locs hw hP hD hS hce hcv hcl => ?_) (fun v9 u_14 H locs hw hP hD hS => ?_)
      · exact hw.elim
      obtain ⟨r_13, rfl, rfl, hr_13, fI_r_13⟩ := hw
      have hP : va_P (dC, dI) vwCl (cW ad cid a2 lx sg gm lg) H := hP
      have hD : va_D A (cW ad cid a2 lx sg gm lg) := hD
      refine W.eq (g2 := F0 m 27 ls [.int r_13]) rfl ?_
      have gI_r_13 : (r_13.toInt = 1 ∧ dIn D o.toNatClampNeg = 6) ∨ (r_13.toInt = 0 ∧ ¬ dIn D o.toNatClampNeg = 6) := by rw [← ISI_d hEV (a := 6) (K := 6) (by unfold KW7; decide) (by decide)]; exact fI_r_13
      refine lv_if_eq (tgt := 34) hx hb dX9_isHeld_27 (by decide) (fun c_16 => ?_) (fun c_16 => ?_)
      · have h_17 : iv 0 0 r_13 := iv_eq c_16 hr_13 (iv_k (by decide) : iv 0 0 0) (by decide)
        refine lv_iconst (v := 0) hx hb dX9_isHeld_34 (by decide) ?_
        exact hj35 0 hvx hvo (iv_w (iv_k (by decide) : iv 0 0 0) (by decide)) (Or.inr ⟨rfl, by have := i32_0; have := i32_1; have := i32_2; have := i32_m1; have := (hvx).1; have := (hvx).2; have := (hvo).1; have := (hvo).2; have := (h_6).1; have := (h_6).2; have := (h_12).1; have := (h_12).2; have := (h_17).1; have := (h_17).2; omega⟩) _ _ _ hP hD hS (lv_sub hl [0, 1] rfl)
      · have h_18 : iv 1 1 r_13 := iv_neL c_16 hr_13 (by decide)
        exact hj30 hvx hvo (by have := i32_0; have := i32_1; have := i32_2; have := i32_m1; have := (hvx).1; have := (hvx).2; have := (hvo).1; have := (hvo).2; have := (h_6).1; have := (h_6).2; have := (h_12).1; have := (h_12).2; have := (h_18).1; have := (h_18).2; omega) _ _ _ hP hD hS (lv_sub hl [0, 1] rfl)

set_option maxHeartbeats 4000000 in
set_option maxRecDepth 100000 in
theorem d_valueIs2 (l : Launch) (dC : Nat → ClassId) (dI : Nat → Nat → Nat) (ad : Nat → Nat → Nat) (cid : Nat → ClassId) (a2 : Nat → Nat) (lx : List Nat) (sg : Nat → Int32) (gm : Nat → Nat → Int32) (lg : Nat → Nat → Int64) (x : Int32) (o : Int32) (w : Int32) (w2 : Int32) (A7 : At7) (hI : CI sg gm) (hvx : iv 0 0 x) (hvo : iv 0 79 o) (hvw : iv 0 33 w) (hvw2 : iv 0 33 w2) (hFA : FA sg gm) (how : o.toInt < (sg 4).toInt) (hVS : VS sg gm) (hat : ATC A7 gm lg o.toNatClampNeg (sg 5).toInt (sg 6).toInt) : CMt dC dI ad cid a2 lx l yX6_valueIs wm_X6_valueIs ({ frames := 2, cells := 1, slots := 6, locals := 51 }) [eV (ad 1) x, eV (ad 9) o, eV (ad 33) w, eV (ad 33) w2] sg gm lg (fun v u => ∃ r : Int32, v = some (.int r) ∧ u = (sg, gm, lg) ∧ (iv 0 1 r) ∧ ((r.toInt = 1 ∧ (nv7 A7 (wKy.getD w.toNatClampNeg 0) = (wKy.getD w2.toNatClampNeg 0))) ∨ (r.toInt = 0 ∧ ¬ (nv7 A7 (wKy.getD w.toNatClampNeg 0) = (wKy.getD w2.toNatClampNeg 0))))) (fun _ _ => False) := by
  intro sz
  refine vx_ofW (cc := cX6_valueIs) (maxL := 4) (ret := (some .boolean)) (by decide) rfl ?_
  intro p e s m args below meth c s₁ B hml hxt hv
  obtain ⟨rfl, hsz, hP, hK, hD0, hG⟩ := hv
  have hx := B.exec
  have hb := B.bytes
  have hr := B.returns
  have hts := atoms_spec (ws := wm_X6_valueIs) B.pre
  have htb := fun (w : Cond) (h : w ∈ tb) => hts w (List.mem_cons_of_mem _ h)
  have hown : s.vm.findClass RX6 = some m.cls := findClass_of_methodNamed B.named
  have hlocks := B.notSynchronized
  subst hsz
  have hD := hD0.self (sz := s.heap.size)
  generalize hAe : va_A (cW ad cid a2 lx sg gm lg) s.heap.size = A at hD hG ⊢
  have hA : ∀ q : Nat, s.heap.size ≤ q → A q := fun q h => by rw [← hAe]; exact Or.inr h
  have hS : va_S A s.heap s.heap [] := va_S.rf
  have hl := lv_entry ([eV (ad 1) x, eV (ad 9) o, eV (ad 33) w, eV (ad 33) w2]) (n := 4) (by rw [show (lg_sl ([eV (ad 1) x, eV (ad 9) o, eV (ad 33) w, eV (ad 33) w2])).length = 4 from by simp [lg_sl, eV_cat, cat_i, cat_l]]; exact Nat.le_of_ble_eq_true rfl)
  rw [lg_entry_eq]
  generalize (lg_sl ([eV (ad 1) x, eV (ad 9) o, eV (ad 33) w, eV (ad 33) w2]) ++ List.replicate (4 - (lg_sl ([eV (ad 1) x, eV (ad 9) o, eV (ad 33) w, eV (ad 33) w2])).length) Slot.unset).toArray = ls at hl ⊢
  have hl : lv_has ls 4 [(0, eV (ad 1) x), (1, eV (ad 9) o), (2, eV (ad 33) w), (3, eV (ad 33) w2)] := by simp [lv_args, eV_cat, cat_i, cat_l] at hl; exact hl
  have hj19 : ∀ (y0_19 : Int32) (_ : iv 0 0 x) (_ : iv 0 79 o) (_ : iv 0 33 w) (_ : iv 0 33 w2) (_ : iv 0 1 y0_19) (_ : (y0_19.toInt = 1 ∧ (nv7 A7 (wKy.getD w.toNatClampNeg 0) = (wKy.getD w2.toNatClampNeg 0))) ∨ (y0_19.toInt = 0 ∧ ¬ (nv7 A7 (wKy.getD w.toNatClampNeg 0) = (wKy.getD w2.toNatClampNeg 0)))) (H : Heap) (locs : List Loc) (ls : Array Slot), va_P (dC, dI) vwCl (cW ad cid a2 lx sg gm lg) H → va_D A (cW ad cid a2 lx sg gm lg) → va_S A s.heap H locs → lv_has ls 4 [(0, eV (ad 1) x), (1, eV (ad 9) o), (2, eV (ad 33) w), (3, eV (ad 33) w2)] → W p l e (headSpec wm_X6_valueIs ({ frames := 2, cells := 1, slots := 6, locals := 51 })).room s m ([eV (ad 1) x, eV (ad 9) o, eV (ad 33) w, eV (ad 33) w2] : List Value).toArray below meth c H locs 0 0 (vx_MQ below (cQx dC dI ad cid a2 lx (fun v u => ∃ r : Int32, v = some (.int r) ∧ u = (sg, gm, lg) ∧ (iv 0 1 r) ∧ ((r.toInt = 1 ∧ (nv7 A7 (wKy.getD w.toNatClampNeg 0) = (wKy.getD w2.toNatClampNeg 0))) ∨ (r.toInt = 0 ∧ ¬ (nv7 A7 (wKy.getD w.toNatClampNeg 0) = (wKy.getD w2.toNatClampNeg 0))))) A) (cX dC dI ad cid a2 lx (fun _ _ => False) A) ([eV (ad 1) x, eV (ad 9) o, eV (ad 33) w, eV (ad 33) w2] : List Value).toArray s 1 6 A) (F0 m 19 ls [.int y0_19]) := by
    intro y0_19 hsx0_19 hsx1_19 hsx2_19 hsx3_19 hy0_19 u19 H locs ls hP hD hS hl
    exact W.nb (fun hN => W.widen (k := 1) (n := 6) (by decide) (by decide) (vx_ret (W.zret (v := y0_19) hx hb hr (iv_nb hy0_19) (fun t ht hW => ⟨⟨some (.int y0_19), (sg, gm, lg), rfl, ⟨y0_19, rfl, rfl, hy0_19, (u19)⟩, by rw [ht]; exact hP, va_K.moved hW.alike hK, hD⟩, hS.F ht, by rw [ht]; exact hN⟩) hS.2.2 dX6_valueIs_19)))
  refine ec_aload_n hx hb dX6_valueIs_0 rfl (lv_at hl 0 rfl) ?_
  refine ec_aload_n hx hb dX6_valueIs_1 rfl (lv_at hl 1 rfl) ?_
  refine ec_aload_n hx hb dX6_valueIs_2 rfl (lv_at hl 2 rfl) ?_
  refine cm_callV (t := 1) (C := RX6) (T := TX6) (N := 8) (rest := []) (as := [eV (ad 9) o, eV (ad 33) w]) ⟨hx, hb, hml, hown, htb⟩ (d_nameValue3 l dC dI ad cid a2 lx sg gm lg x o w A7 hI hvx hvo hvw hFA how hVS hat) (cwV 2 htb (gd_V kw_717 kw_708 kw_709 kw_149 kw_1482) rfl rfl rfl (by decide +kernel) ⟨Nat.le_of_ble_eq_true rfl, Nat.le_of_ble_eq_true rfl⟩) hvx (by decide) (by decide) rfl rfl hl.1 rfl (Nat.le_trans cs_n (by decide)) dX6_valueIs_3 ⟨Nat.le_of_ble_eq_true rfl, Nat.le_of_ble_eq_true rfl⟩ hK hP hD hS hA hG (fun E ce q9 u_2 H locs hw hP hD hS hce hcv hcl => ?_) (fun v9 u_2 H locs hw hP hD hS => ?_)
  · exact hw.elim
  obtain ⟨r_1, rfl, rfl, fN_r_1, fZ_r_1⟩ := hw
  have hP : va_P (dC, dI) vwCl (cW ad cid a2 lx sg gm lg) H := hP
  have hD : va_D A (cW ad cid a2 lx sg gm lg) := hD
  refine W.eq (g2 := F0 m 6 ls [.long r_1]) rfl ?_
  refine ec_aload_n hx hb dX6_valueIs_6 rfl (lv_at hl 3 rfl) ?_
  refine cw_key hx hb hG hS hvw2 hown (htb _ kw_1347) dX6_valueIs_7 ?_
  refine lv_topl (fun z_4 ez_4 => ?_)
  refine W.lcmp hx hb dX6_valueIs_10 ?_
  refine lv_topi (fun z_5 ez_5 => ?_)
  have hz_5 : iv (-1) 1 z_5 := iv_of ez_5 (iv_cmp _ _)
  refine lv_if_ne (tgt := 18) hx hb dX6_valueIs_11 (by decide) (fun c_6 => ?_) (fun c_6 => ?_)
  · have d_7 : ¬ (z_5 : Int32).toInt = 0 := lv_neT c_6 rfl
    refine lv_iconst (v := 0) hx hb dX6_valueIs_18 (by decide) ?_
    exact hj19 0 hvx hvo hvw hvw2 (iv_w (iv_k (by decide) : iv 0 0 0) (by decide)) (Or.inr ⟨rfl, (fun q9 => c_6 (by rw [ez_5, ez_4, fN_r_1, q9]; exact (lg_cmp_eq _ _).mpr rfl))⟩) _ _ _ hP hD hS (lv_sub hl [0, 1, 2, 3] rfl)
  · have h_8 : iv 0 0 z_5 := iv_eq c_6 hz_5 (iv_k (by decide) : iv 0 0 0) (by decide)
    refine lv_iconst (v := 1) hx hb dX6_valueIs_14 (by decide) ?_
    refine lv_goto (tgt := 19) hx hb dX6_valueIs_15 (by decide) ?_
    exact hj19 1 hvx hvo hvw hvw2 (iv_w (iv_k (by decide) : iv 1 1 1) (by decide)) (Or.inl ⟨rfl, (by rw [← fN_r_1, ← ez_4]; exact (lg_cmp_eq _ _).mp (by rw [← ez_5]; exact c_6))⟩) _ _ _ hP hD hS (lv_sub hl [0, 1, 2, 3] rfl)

set_option maxHeartbeats 4000000 in
set_option maxRecDepth 100000 in
theorem d_typeValue2 (l : Launch) (dC : Nat → ClassId) (dI : Nat → Nat → Nat) (ad : Nat → Nat → Nat) (cid : Nat → ClassId) (a2 : Nat → Nat) (lx : List Nat) (sg : Nat → Int32) (gm : Nat → Nat → Int32) (lg : Nat → Nat → Int64) (x : Int32) (o : Int32) (w : Int32) (A7 : At7) (hI : CI sg gm) (hvx : iv 0 0 x) (hvo : iv 0 79 o) (hvw : iv 0 33 w) (hFA : FA sg gm) (how : o.toInt < (sg 4).toInt) (hVS : VS sg gm) (hat : ATC A7 gm lg o.toNatClampNeg (sg 5).toInt (sg 6).toInt) : CMt dC dI ad cid a2 lx l yX6_typeValue wm_X6_typeValue ({ frames := 2, cells := 1, slots := 6, locals := 51 }) [eV (ad 1) x, eV (ad 9) o, eV (ad 33) w] sg gm lg (fun v u => ∃ r : Int32, v = some (.int r) ∧ u = (sg, gm, lg) ∧ (iv (-1) 15 r) ∧ ((0 ≤ r.toInt ∧ ty7 A7 (wKy.getD w.toNatClampNeg 0)) ∨ (r.toInt = -1 ∧ ¬ ty7 A7 (wKy.getD w.toNatClampNeg 0)))) (fun _ _ => False) := by
  intro sz
  refine vx_ofW (cc := cX6_typeValue) (maxL := 5) (ret := (some .int)) (by decide) rfl ?_
  intro p e s m args below meth c s₁ B hml hxt hv
  obtain ⟨rfl, hsz, hP, hK, hD0, hG⟩ := hv
  have hx := B.exec
  have hb := B.bytes
  have hr := B.returns
  have hts := atoms_spec (ws := wm_X6_typeValue) B.pre
  have htb := fun (w : Cond) (h : w ∈ tb) => hts w (List.mem_cons_of_mem _ h)
  have hown : s.vm.findClass RX6 = some m.cls := findClass_of_methodNamed B.named
  have hlocks := B.notSynchronized
  subst hsz
  have hD := hD0.self (sz := s.heap.size)
  generalize hAe : va_A (cW ad cid a2 lx sg gm lg) s.heap.size = A at hD hG ⊢
  have hA : ∀ q : Nat, s.heap.size ≤ q → A q := fun q h => by rw [← hAe]; exact Or.inr h
  have hS : va_S A s.heap s.heap [] := va_S.rf
  have hl := lv_entry ([eV (ad 1) x, eV (ad 9) o, eV (ad 33) w]) (n := 5) (by rw [show (lg_sl ([eV (ad 1) x, eV (ad 9) o, eV (ad 33) w])).length = 3 from by simp [lg_sl, eV_cat, cat_i, cat_l]]; exact Nat.le_of_ble_eq_true rfl)
  rw [lg_entry_eq]
  generalize (lg_sl ([eV (ad 1) x, eV (ad 9) o, eV (ad 33) w]) ++ List.replicate (5 - (lg_sl ([eV (ad 1) x, eV (ad 9) o, eV (ad 33) w])).length) Slot.unset).toArray = ls at hl ⊢
  have hl : lv_has ls 5 [(0, eV (ad 1) x), (1, eV (ad 9) o), (2, eV (ad 33) w)] := by simp [lv_args, eV_cat, cat_i, cat_l] at hl; exact hl
  refine ec_aload_n hx hb dX6_typeValue_0 rfl (lv_at hl 0 rfl) ?_
  refine ec_aload_n hx hb dX6_typeValue_1 rfl (lv_at hl 1 rfl) ?_
  refine ec_aload_n hx hb dX6_typeValue_2 rfl (lv_at hl 2 rfl) ?_
  refine cm_callV (t := 1) (C := RX6) (T := TX6) (N := 8) (rest := []) (as := [eV (ad 9) o, eV (ad 33) w]) ⟨hx, hb, hml, hown, htb⟩ (d_classValue2 l dC dI ad cid a2 lx sg gm lg x o w A7 hI hvx hvo hvw hFA how hVS hat) (cwV 2 htb (gd_V kw_727 kw_711 kw_712 kw_149 kw_1483) rfl rfl rfl (by decide +kernel) ⟨Nat.le_of_ble_eq_true rfl, Nat.le_of_ble_eq_true rfl⟩) hvx (by decide) (by decide) rfl rfl hl.1 rfl (Nat.le_trans cs_n (by decide)) dX6_typeValue_3 ⟨Nat.le_of_ble_eq_true rfl, Nat.le_of_ble_eq_true rfl⟩ hK hP hD hS hA hG (fun E ce q9 u_2 H locs hw hP hD hS hce hcv hcl => ?_) (fun v9 u_2 H locs hw hP hD hS => ?_)
  · exact hw.elim
  obtain ⟨r_1, rfl, rfl, hr_1, fK_r_1⟩ := hw
  have hP : va_P (dC, dI) vwCl (cW ad cid a2 lx sg gm lg) H := hP
  have hD : va_D A (cW ad cid a2 lx sg gm lg) := hD
  refine W.eq (g2 := F0 m 6 ls [.int r_1]) rfl ?_
  refine lv_istore_n (i := 3) (lv' := [(3, .int r_1), (0, eV (ad 1) x), (1, eV (ad 9) o), (2, eV (ad 33) w)]) hx hb dX6_typeValue_6 rfl hl (by decide) (by simp [List.filter, eV_cat, cat_i, cat_l]) (fun ls hl => ?_)
  refine lv_iload_n hx hb dX6_typeValue_7 rfl (lv_at hl 0 rfl) ?_
  refine lv_iconst (v := (-1)) hx hb dX6_typeValue_8 (by decide) ?_
  refine lv_icmp_eq (tgt := 17) hx hb dX6_typeValue_9 (by decide) (fun c_4 => ?_) (fun c_4 => ?_)
  · have h_5 : iv (-1) (-1) r_1 := iv_eq c_4 hr_1 (iv_k (by decide) : iv (-1) (-1) (-1)) (by decide)
    refine ec_aload_n hx hb dX6_typeValue_17 rfl (lv_at hl 1 rfl) ?_
    refine ec_aload_n hx hb dX6_typeValue_18 rfl (lv_at hl 2 rfl) ?_
    refine ec_aload_n hx hb dX6_typeValue_19 rfl (lv_at hl 3 rfl) ?_
    refine cm_callV (t := 1) (C := RX6) (T := TX6) (N := 8) (rest := []) (as := [eV (ad 9) o, eV (ad 33) w]) ⟨hx, hb, hml, hown, htb⟩ (d_nameValue3 l dC dI ad cid a2 lx sg gm lg x o w A7 hI hvx hvo hvw hFA how hVS hat) (cwV 2 htb (gd_V kw_717 kw_708 kw_709 kw_149 kw_1482) rfl rfl rfl (by decide +kernel) ⟨Nat.le_of_ble_eq_true rfl, Nat.le_of_ble_eq_true rfl⟩) hvx (by decide) (by decide) rfl rfl hl.1 rfl (Nat.le_trans cs_n (by decide)) dX6_typeValue_20 ⟨Nat.le_of_ble_eq_true rfl, Nat.le_of_ble_eq_true rfl⟩ hK hP hD hS hA hG (fun E ce q9 u_7 H locs hw hP hD hS hce hcv hcl => ?_) (fun v9 u_7 H locs hw hP hD hS => ?_)
    · exact hw.elim
    obtain ⟨r_6, rfl, rfl, fN_r_6, fZ_r_6⟩ := hw
    have hP : va_P (dC, dI) vwCl (cW ad cid a2 lx sg gm lg) H := hP
    have hD : va_D A (cW ad cid a2 lx sg gm lg) := hD
    refine W.eq (g2 := F0 m 23 ls [.long r_6]) rfl ?_
    refine cm_callS (rest := []) (as := [.long r_6]) ⟨hx, hb, hml, hown, htb⟩ (d_withKey2 l dC dI ad cid a2 lx sg gm lg r_6 hI) (va_cwS 1 htb (gd_S kw_694 kw_583 kw_163 kw_1438) rfl rfl rfl (by decide +kernel) ⟨Nat.le_of_ble_eq_true rfl, Nat.le_of_ble_eq_true rfl⟩)  rfl hl.1 rfl (Nat.le_trans cs_n (by decide)) dX6_typeValue_23 ⟨Nat.le_of_ble_eq_true rfl, Nat.le_of_ble_eq_true rfl⟩ hK hP hD hS hA hG (fun E ce q9 u_10 H locs hw hP hD hS hce hcv hcl => ?_) (fun v9 u_10 H locs hw hP hD hS => ?_)
    · exact hw.elim
    obtain ⟨r_9, rfl, rfl, hr_9, fW_r_9⟩ := hw
    have hP : va_P (dC, dI) vwCl (cW ad cid a2 lx sg gm lg) H := hP
    have hD : va_D A (cW ad cid a2 lx sg gm lg) := hD
    refine W.eq (g2 := F0 m 26 ls [eV (ad 33) r_9]) rfl ?_
    refine ec_astore (i := 4) (lv' := [(4, eV (ad 33) r_9), (3, .int r_1), (0, eV (ad 1) x), (1, eV (ad 9) o), (2, eV (ad 33) w)]) hx hb dX6_typeValue_26 hl (by decide) rfl (fun ls hl => ?_)
    refine ec_aload hx hb dX6_typeValue_28 (lv_at hl 0 rfl) ?_
    refine ec_ifnonnull (tgt := 35) hx hb dX6_typeValue_30 (by decide) (fun c_12 => ?_) (fun c_12 => ?_)
    · have h_13 : iv 0 33 r_9 := ⟨c_12, (hr_9).2⟩
      refine cw_sw hx hb hG hS hown (htb _ kw_728) dX6_typeValue_35 ?_
      refine ec_aload hx hb dX6_typeValue_38 (lv_at hl 0 rfl) ?_
      refine cw_ord ⟨hx, hb, hml, hown, htb⟩ kw_729 h_13 hl.1 (Nat.le_trans (cs_c (eV_cat _ _) cs_n) (by decide)) dX6_typeValue_40 ⟨Nat.le_of_ble_eq_true rfl, Nat.le_of_ble_eq_true rfl⟩ ⟨Nat.le_of_ble_eq_true rfl, Nat.le_of_ble_eq_true rfl⟩ hP hD hS hA hG (fun H locs hP hS => ?_)
      refine cw_swld (iv_k (by decide) : iv 0 0 0) hx hb hG hS h_13 dX6_typeValue_43 ?_
      refine lv_topi (fun z_14 ez_14 => ?_)
      have hz_14 : iv 0 29 z_14 := iv_of ez_14 (sw_iv r_9)
      by_cases c_15 : (z_14 : Int32).toInt = 1
      · refine lv_tableIn (tgt := 80) hx hb dX6_typeValue_44 (by rw [c_15]; decide) (by rw [c_15]; decide) (by rw [c_15]; rfl) (by decide) ?_
        have h_16 : iv 1 1 z_14 := iv_at c_15
        refine lv_iconst (v := 0) hx hb dX6_typeValue_80 (by decide) ?_
        exact W.nb (fun hN => W.widen (k := 1) (n := 6) (by decide) (by decide) (vx_ret (W.iret (v := 0) hx hb hr (fun t ht hW => ⟨⟨some (.int 0), (sg, gm, lg), rfl, ⟨0, rfl, rfl, (iv_w (iv_k (by decide) : iv 0 0 0) (by decide)), (Or.inl ⟨(by decide), ty_t (n := 29) (by have q9 := fW_r_9; rw [fN_r_6] at q9; exact q9) (by have := i32_0; have := i32_1; have := i32_2; have := i32_m1; have := (hvx).1; have := (hvx).2; have := (hvo).1; have := (hvo).2; have := (hvw).1; have := (hvw).2; have := (h_5).1; have := (h_5).2; have := (h_13).1; have := (h_13).2; have := (h_16).1; have := (h_16).2; omega) (swy 29 1 (by decide) (h_13) ez_14 c_15) (by decide) (by decide)⟩)⟩, by rw [ht]; exact hP, va_K.moved hW.alike hK, hD⟩, hS.F ht, by rw [ht]; exact hN⟩) hS.2.2 dX6_typeValue_81)))
      by_cases c_17 : (z_14 : Int32).toInt = 2
      · refine lv_tableIn (tgt := 82) hx hb dX6_typeValue_44 (by rw [c_17]; decide) (by rw [c_17]; decide) (by rw [c_17]; rfl) (by decide) ?_
        have h_18 : iv 2 2 z_14 := iv_at c_17
        refine lv_iconst (v := 1) hx hb dX6_typeValue_82 (by decide) ?_
        exact W.nb (fun hN => W.widen (k := 1) (n := 6) (by decide) (by decide) (vx_ret (W.iret (v := 1) hx hb hr (fun t ht hW => ⟨⟨some (.int 1), (sg, gm, lg), rfl, ⟨1, rfl, rfl, (iv_w (iv_k (by decide) : iv 1 1 1) (by decide)), (Or.inl ⟨(by decide), ty_t (n := 30) (by have q9 := fW_r_9; rw [fN_r_6] at q9; exact q9) (by have := i32_0; have := i32_1; have := i32_2; have := i32_m1; have := (hvx).1; have := (hvx).2; have := (hvo).1; have := (hvo).2; have := (hvw).1; have := (hvw).2; have := (h_5).1; have := (h_5).2; have := (h_13).1; have := (h_13).2; have := (h_18).1; have := (h_18).2; omega) (swy 30 2 (by decide) (h_13) ez_14 c_17) (by decide) (by decide)⟩)⟩, by rw [ht]; exact hP, va_K.moved hW.alike hK, hD⟩, hS.F ht, by rw [ht]; exact hN⟩) hS.2.2 dX6_typeValue_83)))
      by_cases c_19 : (z_14 : Int32).toInt = 3
      · refine lv_tableIn (tgt := 84) hx hb dX6_typeValue_44 (by rw [c_19]; decide) (by rw [c_19]; decide) (by rw [c_19]; rfl) (by decide) ?_
        have h_20 : iv 3 3 z_14 := iv_at c_19
        refine lv_iconst (v := 2) hx hb dX6_typeValue_84 (by decide) ?_
        exact W.nb (fun hN => W.widen (k := 1) (n := 6) (by decide) (by decide) (vx_ret (W.iret (v := 2) hx hb hr (fun t ht hW => ⟨⟨some (.int 2), (sg, gm, lg), rfl, ⟨2, rfl, rfl, (iv_w (iv_k (by decide) : iv 2 2 2) (by decide)), (Or.inl ⟨(by decide), ty_t (n := 31) (by have q9 := fW_r_9; rw [fN_r_6] at q9; exact q9) (by have := i32_0; have := i32_1; have := i32_2; have := i32_m1; have := (hvx).1; have := (hvx).2; have := (hvo).1; have := (hvo).2; have := (hvw).1; have := (hvw).2; have := (h_5).1; have := (h_5).2; have := (h_13).1; have := (h_13).2; have := (h_20).1; have := (h_20).2; omega) (swy 31 3 (by decide) (h_13) ez_14 c_19) (by decide) (by decide)⟩)⟩, by rw [ht]; exact hP, va_K.moved hW.alike hK, hD⟩, hS.F ht, by rw [ht]; exact hN⟩) hS.2.2 dX6_typeValue_85)))
      by_cases c_21 : (z_14 : Int32).toInt = 4
      · refine lv_tableIn (tgt := 86) hx hb dX6_typeValue_44 (by rw [c_21]; decide) (by rw [c_21]; decide) (by rw [c_21]; rfl) (by decide) ?_
        have h_22 : iv 4 4 z_14 := iv_at c_21
        refine lv_iconst (v := 3) hx hb dX6_typeValue_86 (by decide) ?_
        exact W.nb (fun hN => W.widen (k := 1) (n := 6) (by decide) (by decide) (vx_ret (W.iret (v := 3) hx hb hr (fun t ht hW => ⟨⟨some (.int 3), (sg, gm, lg), rfl, ⟨3, rfl, rfl, (iv_w (iv_k (by decide) : iv 3 3 3) (by decide)), (Or.inl ⟨(by decide), ty_t (n := 32) (by have q9 := fW_r_9; rw [fN_r_6] at q9; exact q9) (by have := i32_0; have := i32_1; have := i32_2; have := i32_m1; have := (hvx).1; have := (hvx).2; have := (hvo).1; have := (hvo).2; have := (hvw).1; have := (hvw).2; have := (h_5).1; have := (h_5).2; have := (h_13).1; have := (h_13).2; have := (h_22).1; have := (h_22).2; omega) (swy 32 4 (by decide) (h_13) ez_14 c_21) (by decide) (by decide)⟩)⟩, by rw [ht]; exact hP, va_K.moved hW.alike hK, hD⟩, hS.F ht, by rw [ht]; exact hN⟩) hS.2.2 dX6_typeValue_87)))
      by_cases c_23 : (z_14 : Int32).toInt = 5
      · refine lv_tableIn (tgt := 88) hx hb dX6_typeValue_44 (by rw [c_23]; decide) (by rw [c_23]; decide) (by rw [c_23]; rfl) (by decide) ?_
        have h_24 : iv 5 5 z_14 := iv_at c_23
        refine lv_iconst (v := 4) hx hb dX6_typeValue_88 (by decide) ?_
        exact W.nb (fun hN => W.widen (k := 1) (n := 6) (by decide) (by decide) (vx_ret (W.iret (v := 4) hx hb hr (fun t ht hW => ⟨⟨some (.int 4), (sg, gm, lg), rfl, ⟨4, rfl, rfl, (iv_w (iv_k (by decide) : iv 4 4 4) (by decide)), (Or.inl ⟨(by decide), ty_t (n := 33) (by have q9 := fW_r_9; rw [fN_r_6] at q9; exact q9) (by have := i32_0; have := i32_1; have := i32_2; have := i32_m1; have := (hvx).1; have := (hvx).2; have := (hvo).1; have := (hvo).2; have := (hvw).1; have := (hvw).2; have := (h_5).1; have := (h_5).2; have := (h_13).1; have := (h_13).2; have := (h_24).1; have := (h_24).2; omega) (swy 33 5 (by decide) (h_13) ez_14 c_23) (by decide) (by decide)⟩)⟩, by rw [ht]; exact hP, va_K.moved hW.alike hK, hD⟩, hS.F ht, by rw [ht]; exact hN⟩) hS.2.2 dX6_typeValue_89)))
      refine lv_tableOut (tgt := 90) hx hb dX6_typeValue_44 (by have q1 := (hz_14).1; have q2 := (hz_14).2; omega) (by decide) ?_
      refine lv_iconst (v := (-1)) hx hb dX6_typeValue_90 (by decide) ?_
      exact W.nb (fun hN => W.widen (k := 1) (n := 6) (by decide) (by decide) (vx_ret (W.iret (v := (-1)) hx hb hr (fun t ht hW => ⟨⟨some (.int (-1)), (sg, gm, lg), rfl, ⟨(-1), rfl, rfl, (iv_w (iv_k (by decide) : iv (-1) (-1) (-1)) (by decide)), (Or.inr ⟨rfl, ty_f (by have q9 := fW_r_9; rw [fN_r_6] at q9; exact q9) (by rw [← fK_r_1]; have := i32_0; have := i32_1; have := i32_2; have := i32_m1; have := (hvx).1; have := (hvx).2; have := (hvo).1; have := (hvo).2; have := (hvw).1; have := (hvw).2; have := (h_5).1; have := (h_5).2; have := (h_13).1; have := (h_13).2; have := (hz_14).1; have := (hz_14).2; omega) (fun q8 => by have q7 := swT r_9.toNatClampNeg (by have := q8.2; have : r_9.toNatClampNeg = r_9.toInt.toNat := rfl; omega); rw [← ez_14] at q7; have : r_9.toNatClampNeg = r_9.toInt.toNat := rfl; have := i32_0; have := i32_1; have := i32_2; have := i32_m1; have := (hvx).1; have := (hvx).2; have := (hvo).1; have := (hvo).2; have := (hvw).1; have := (hvw).2; have := (h_5).1; have := (h_5).2; have := (h_13).1; have := (h_13).2; have := (hz_14).1; have := (hz_14).2; omega)⟩)⟩, by rw [ht]; exact hP, va_K.moved hW.alike hK, hD⟩, hS.F ht, by rw [ht]; exact hN⟩) hS.2.2 dX6_typeValue_91)))
    · have h_25 : iv (-1) (-1) r_9 := ⟨(hr_9).1, by omega⟩
      refine lv_iconst (v := (-1)) hx hb dX6_typeValue_33 (by decide) ?_
      exact W.nb (fun hN => W.widen (k := 1) (n := 6) (by decide) (by decide) (vx_ret (W.iret (v := (-1)) hx hb hr (fun t ht hW => ⟨⟨some (.int (-1)), (sg, gm, lg), rfl, ⟨(-1), rfl, rfl, (iv_w (iv_k (by decide) : iv (-1) (-1) (-1)) (by decide)), (Or.inr ⟨rfl, ty_f (by have q9 := fW_r_9; rw [fN_r_6] at q9; exact q9) (by rw [← fK_r_1]; have := i32_0; have := i32_1; have := i32_2; have := i32_m1; have := (hvx).1; have := (hvx).2; have := (hvo).1; have := (hvo).2; have := (hvw).1; have := (hvw).2; have := (h_5).1; have := (h_5).2; have := (h_25).1; have := (h_25).2; omega) (by have := i32_0; have := i32_1; have := i32_2; have := i32_m1; have := (hvx).1; have := (hvx).2; have := (hvo).1; have := (hvo).2; have := (hvw).1; have := (hvw).2; have := (h_5).1; have := (h_5).2; have := (h_25).1; have := (h_25).2; omega)⟩)⟩, by rw [ht]; exact hP, va_K.moved hW.alike hK, hD⟩, hS.F ht, by rw [ht]; exact hN⟩) hS.2.2 dX6_typeValue_34)))
  · have h_26 : iv 0 7 r_1 := iv_neL c_4 hr_1 (by decide)
    refine lv_bipush (v := 8) hx hb dX6_typeValue_12 (by decide) ?_
    refine lv_iload_n hx hb dX6_typeValue_14 rfl (lv_at hl 0 rfl) ?_
    refine lv_iadd hx hb dX6_typeValue_15 ?_
    refine lv_topi (fun z_27 ez_27 => ?_)
    have hz_27 : iv 8 15 z_27 := iv_of ez_27 (iv_add (iv_k (by decide) : iv 8 8 8) h_26 (by decide))
    have tz_27 : z_27.toInt = 8 + (r_1 : Int32).toInt := by rw [ez_27]; exact iv_addE (iv_k (by decide) : iv 8 8 8) h_26 (by decide)
    exact W.nb (fun hN => W.widen (k := 1) (n := 6) (by decide) (by decide) (vx_ret (W.iret (v := z_27) hx hb hr (fun t ht hW => ⟨⟨some (.int z_27), (sg, gm, lg), rfl, ⟨z_27, rfl, rfl, (iv_w hz_27 (by decide)), (Or.inl ⟨by have := i32_0; have := i32_1; have := i32_2; have := i32_m1; have := (hvx).1; have := (hvx).2; have := (hvo).1; have := (hvo).2; have := (hvw).1; have := (hvw).2; have := (h_26).1; have := (h_26).2; have := (hz_27).1; have := (hz_27).2; omega, Or.inl (by rw [← fK_r_1]; have := i32_0; have := i32_1; have := i32_2; have := i32_m1; have := (hvx).1; have := (hvx).2; have := (hvo).1; have := (hvo).2; have := (hvw).1; have := (hvw).2; have := (h_26).1; have := (h_26).2; have := (hz_27).1; have := (hz_27).2; omega)⟩)⟩, by rw [ht]; exact hP, va_K.moved hW.alike hK, hD⟩, hS.F ht, by rw [ht]; exact hN⟩) hS.2.2 dX6_typeValue_16)))
end
section
set_option maxHeartbeats 4000000 in
set_option maxRecDepth 100000 in
theorem d_beanMayHave2 (l : Launch) (dC : Nat → ClassId) (dI : Nat → Nat → Nat) (ad : Nat → Nat → Nat) (cid : Nat → ClassId) (a2 : Nat → Nat) (lx : List Nat) (sg : Nat → Int32) (gm : Nat → Nat → Int32) (lg : Nat → Nat → Int64) (x : Int32) (w : Int32) (b : Int32) (hI : CI sg gm) (hvx : iv 0 0 x) (hvw : iv 0 33 w) (hvb : iv 0 1 b) : CMt dC dI ad cid a2 lx l yX9_beanMayHave wm_X9_beanMayHave ({ frames := 1, cells := 1, slots := 6, locals := 20 }) [eV (ad 3) x, eV (ad 33) w, .int b] sg gm lg (fun v u => ∃ r : Int32, v = some (.int r) ∧ u = (sg, gm, lg) ∧ (iv 0 1 r) ∧ ((r.toInt = 1 ∧ (BM7 (wKy.getD w.toNatClampNeg 0).toInt b.toInt)) ∨ (r.toInt = 0 ∧ ¬ (BM7 (wKy.getD w.toNatClampNeg 0).toInt b.toInt)))) (fun _ _ => False) := by
  intro sz
  refine vx_ofW (cc := cX9_beanMayHave) (maxL := 3) (ret := (some .boolean)) (by decide) rfl ?_
  intro p e s m args below meth c s₁ B hml hxt hv
  obtain ⟨rfl, hsz, hP, hK, hD0, hG⟩ := hv
  have hx := B.exec
  have hb := B.bytes
  have hr := B.returns
  have hts := atoms_spec (ws := wm_X9_beanMayHave) B.pre
  have htb := fun (w : Cond) (h : w ∈ tb) => hts w (List.mem_cons_of_mem _ h)
  have hown : s.vm.findClass RX9 = some m.cls := findClass_of_methodNamed B.named
  have hlocks := B.notSynchronized
  subst hsz
  have hD := hD0.self (sz := s.heap.size)
  generalize hAe : va_A (cW ad cid a2 lx sg gm lg) s.heap.size = A at hD hG ⊢
  have hA : ∀ q : Nat, s.heap.size ≤ q → A q := fun q h => by rw [← hAe]; exact Or.inr h
  have hS : va_S A s.heap s.heap [] := va_S.rf
  have hl := lv_entry ([eV (ad 3) x, eV (ad 33) w, .int b]) (n := 3) (by rw [show (lg_sl ([eV (ad 3) x, eV (ad 33) w, .int b])).length = 3 from by simp [lg_sl, eV_cat, cat_i, cat_l]]; exact Nat.le_of_ble_eq_true rfl)
  rw [lg_entry_eq]
  generalize (lg_sl ([eV (ad 3) x, eV (ad 33) w, .int b]) ++ List.replicate (3 - (lg_sl ([eV (ad 3) x, eV (ad 33) w, .int b])).length) Slot.unset).toArray = ls at hl ⊢
  have hl : lv_has ls 3 [(0, eV (ad 3) x), (1, eV (ad 33) w), (2, .int b)] := by simp [lv_args, eV_cat, cat_i, cat_l] at hl; exact hl
  have hj68 : ∀ (_ : iv 0 0 x) (_ : iv 0 33 w) (_ : iv 0 1 b) (_ : (wKy.getD w.toNatClampNeg 0).toInt = 26980 ∨ (wKy.getD w.toNatClampNeg 0).toInt = 7017298113369039732 ∨ (wKy.getD w.toNatClampNeg 0).toInt = 1818327673) (H : Heap) (locs : List Loc) (ls : Array Slot), va_P (dC, dI) vwCl (cW ad cid a2 lx sg gm lg) H → va_D A (cW ad cid a2 lx sg gm lg) → va_S A s.heap H locs → lv_has ls 3 [(0, eV (ad 3) x), (1, eV (ad 33) w), (2, .int b)] → W p l e (headSpec wm_X9_beanMayHave ({ frames := 1, cells := 1, slots := 6, locals := 20 })).room s m ([eV (ad 3) x, eV (ad 33) w, .int b] : List Value).toArray below meth c H locs 0 0 (vx_MQ below (cQx dC dI ad cid a2 lx (fun v u => ∃ r : Int32, v = some (.int r) ∧ u = (sg, gm, lg) ∧ (iv 0 1 r) ∧ ((r.toInt = 1 ∧ (BM7 (wKy.getD w.toNatClampNeg 0).toInt b.toInt)) ∨ (r.toInt = 0 ∧ ¬ (BM7 (wKy.getD w.toNatClampNeg 0).toInt b.toInt)))) A) (cX dC dI ad cid a2 lx (fun _ _ => False) A) ([eV (ad 3) x, eV (ad 33) w, .int b] : List Value).toArray s 1 6 A) (F0 m 68 ls []) := by
    intro  hsx0_68 hsx1_68 hsx2_68 u68 H locs ls hP hD hS hl
    refine lv_iload_n hx hb dX9_beanMayHave_68 rfl (lv_at hl 2 rfl) ?_
    exact W.nb (fun hN => W.widen (k := 1) (n := 6) (by decide) (by decide) (vx_ret (W.zret (v := b) hx hb hr (iv_nb hsx2_68) (fun t ht hW => ⟨⟨some (.int b), (sg, gm, lg), rfl, ⟨b, rfl, rfl, hsx2_68, ((by have := hvb.1; have := hvb.2; unfold BM7; omega))⟩, by rw [ht]; exact hP, va_K.moved hW.alike hK, hD⟩, hS.F ht, by rw [ht]; exact hN⟩) hS.2.2 dX9_beanMayHave_69)))
  have hj70 : ∀ (_ : iv 0 0 x) (_ : iv 0 33 w) (_ : iv 0 1 b) (_ : (wKy.getD w.toNatClampNeg 0).toInt = 427020088179 ∨ (wKy.getD w.toNatClampNeg 0).toInt = 123563833388660 ∨ (wKy.getD w.toNatClampNeg 0).toInt = 495589486693 ∨ (wKy.getD w.toNatClampNeg 0).toInt = 28817527407604345 ∨ (wKy.getD w.toNatClampNeg 0).toInt = 120282512125796 ∨ (wKy.getD w.toNatClampNeg 0).toInt = 1768843636 ∨ (wKy.getD w.toNatClampNeg 0).toInt = 28259044220366713 ∨ (wKy.getD w.toNatClampNeg 0).toInt = 28259031083541619) (H : Heap) (locs : List Loc) (ls : Array Slot), va_P (dC, dI) vwCl (cW ad cid a2 lx sg gm lg) H → va_D A (cW ad cid a2 lx sg gm lg) → va_S A s.heap H locs → lv_has ls 3 [(0, eV (ad 3) x), (1, eV (ad 33) w), (2, .int b)] → W p l e (headSpec wm_X9_beanMayHave ({ frames := 1, cells := 1, slots := 6, locals := 20 })).room s m ([eV (ad 3) x, eV (ad 33) w, .int b] : List Value).toArray below meth c H locs 0 0 (vx_MQ below (cQx dC dI ad cid a2 lx (fun v u => ∃ r : Int32, v = some (.int r) ∧ u = (sg, gm, lg) ∧ (iv 0 1 r) ∧ ((r.toInt = 1 ∧ (BM7 (wKy.getD w.toNatClampNeg 0).toInt b.toInt)) ∨ (r.toInt = 0 ∧ ¬ (BM7 (wKy.getD w.toNatClampNeg 0).toInt b.toInt)))) A) (cX dC dI ad cid a2 lx (fun _ _ => False) A) ([eV (ad 3) x, eV (ad 33) w, .int b] : List Value).toArray s 1 6 A) (F0 m 70 ls []) := by
    intro  hsx0_70 hsx1_70 hsx2_70 u70 H locs ls hP hD hS hl
    refine lv_iconst (v := 1) hx hb dX9_beanMayHave_70 (by decide) ?_
    exact W.nb (fun hN => W.widen (k := 1) (n := 6) (by decide) (by decide) (vx_ret (W.zret (v := 1) hx hb hr (iv_nb (iv_w (iv_k (by decide) : iv 1 1 1) (by decide))) (fun t ht hW => ⟨⟨some (.int 1), (sg, gm, lg), rfl, ⟨1, rfl, rfl, (iv_w (iv_k (by decide) : iv 1 1 1) (by decide)), (Or.inl ⟨rfl, Or.inr u70⟩)⟩, by rw [ht]; exact hP, va_K.moved hW.alike hK, hD⟩, hS.F ht, by rw [ht]; exact hN⟩) hS.2.2 dX9_beanMayHave_71)))
  refine cw_sw hx hb hG hS hown (htb _ kw_660) dX9_beanMayHave_0 ?_
  refine ec_aload_n hx hb dX9_beanMayHave_3 rfl (lv_at hl 1 rfl) ?_
  refine cw_ord ⟨hx, hb, hml, hown, htb⟩ kw_661 hvw hl.1 (Nat.le_trans (cs_c (eV_cat _ _) cs_n) (by decide)) dX9_beanMayHave_4 ⟨Nat.le_of_ble_eq_true rfl, Nat.le_of_ble_eq_true rfl⟩ ⟨Nat.le_of_ble_eq_true rfl, Nat.le_of_ble_eq_true rfl⟩ hP hD hS hA hG (fun H locs hP hS => ?_)
  refine cw_swld (iv_k (by decide) : iv 0 0 0) hx hb hG hS hvw dX9_beanMayHave_7 ?_
  refine lv_topi (fun z_1 ez_1 => ?_)
  have hz_1 : iv 0 29 z_1 := iv_of ez_1 (sw_iv w)
  by_cases c_2 : (z_1 : Int32).toInt = 16
  · refine lv_tableIn (tgt := 68) hx hb dX9_beanMayHave_8 (by rw [c_2]; decide) (by rw [c_2]; decide) (by rw [c_2]; rfl) (by decide) ?_
    have h_3 : iv 16 16 z_1 := iv_at c_2
    exact hj68 hvx hvw hvb ((by have hK9 : (wKy.getD w.toNatClampNeg 0).toInt = 26980 := wkz (j := 10) hvw (swy 10 16 (by decide) hvw ez_1 c_2) (by decide); omega)) _ _ _ hP hD hS (lv_sub hl [0, 1, 2] rfl)
  by_cases c_4 : (z_1 : Int32).toInt = 17
  · refine lv_tableIn (tgt := 68) hx hb dX9_beanMayHave_8 (by rw [c_4]; decide) (by rw [c_4]; decide) (by rw [c_4]; rfl) (by decide) ?_
    have h_5 : iv 17 17 z_1 := iv_at c_4
    exact hj68 hvx hvw hvb ((by have hK9 : (wKy.getD w.toNatClampNeg 0).toInt = 7017298113369039732 := wkz (j := 13) hvw (swy 13 17 (by decide) hvw ez_1 c_4) (by decide); omega)) _ _ _ hP hD hS (lv_sub hl [0, 1, 2] rfl)
  by_cases c_6 : (z_1 : Int32).toInt = 18
  · refine lv_tableIn (tgt := 68) hx hb dX9_beanMayHave_8 (by rw [c_6]; decide) (by rw [c_6]; decide) (by rw [c_6]; rfl) (by decide) ?_
    have h_7 : iv 18 18 z_1 := iv_at c_6
    exact hj68 hvx hvw hvb ((by have hK9 : (wKy.getD w.toNatClampNeg 0).toInt = 1818327673 := wkz (j := 15) hvw (swy 15 18 (by decide) hvw ez_1 c_6) (by decide); omega)) _ _ _ hP hD hS (lv_sub hl [0, 1, 2] rfl)
  by_cases c_8 : (z_1 : Int32).toInt = 19
  · refine lv_tableIn (tgt := 70) hx hb dX9_beanMayHave_8 (by rw [c_8]; decide) (by rw [c_8]; decide) (by rw [c_8]; rfl) (by decide) ?_
    have h_9 : iv 19 19 z_1 := iv_at c_8
    exact hj70 hvx hvw hvb ((by have hK9 : (wKy.getD w.toNatClampNeg 0).toInt = 427020088179 := wkz (j := 11) hvw (swy 11 19 (by decide) hvw ez_1 c_8) (by decide); omega)) _ _ _ hP hD hS (lv_sub hl [0, 1, 2] rfl)
  by_cases c_10 : (z_1 : Int32).toInt = 20
  · refine lv_tableIn (tgt := 70) hx hb dX9_beanMayHave_8 (by rw [c_10]; decide) (by rw [c_10]; decide) (by rw [c_10]; rfl) (by decide) ?_
    have h_11 : iv 20 20 z_1 := iv_at c_10
    exact hj70 hvx hvw hvb ((by have hK9 : (wKy.getD w.toNatClampNeg 0).toInt = 123563833388660 := wkz (j := 12) hvw (swy 12 20 (by decide) hvw ez_1 c_10) (by decide); omega)) _ _ _ hP hD hS (lv_sub hl [0, 1, 2] rfl)
  by_cases c_12 : (z_1 : Int32).toInt = 21
  · refine lv_tableIn (tgt := 70) hx hb dX9_beanMayHave_8 (by rw [c_12]; decide) (by rw [c_12]; decide) (by rw [c_12]; rfl) (by decide) ?_
    have h_13 : iv 21 21 z_1 := iv_at c_12
    exact hj70 hvx hvw hvb ((by have hK9 : (wKy.getD w.toNatClampNeg 0).toInt = 495589486693 := wkz (j := 14) hvw (swy 14 21 (by decide) hvw ez_1 c_12) (by decide); omega)) _ _ _ hP hD hS (lv_sub hl [0, 1, 2] rfl)
  by_cases c_14 : (z_1 : Int32).toInt = 22
  · refine lv_tableIn (tgt := 70) hx hb dX9_beanMayHave_8 (by rw [c_14]; decide) (by rw [c_14]; decide) (by rw [c_14]; rfl) (by decide) ?_
    have h_15 : iv 22 22 z_1 := iv_at c_14
    exact hj70 hvx hvw hvb ((by have hK9 : (wKy.getD w.toNatClampNeg 0).toInt = 28817527407604345 := wkz (j := 16) hvw (swy 16 22 (by decide) hvw ez_1 c_14) (by decide); omega)) _ _ _ hP hD hS (lv_sub hl [0, 1, 2] rfl)
  by_cases c_16 : (z_1 : Int32).toInt = 23
  · refine lv_tableIn (tgt := 70) hx hb dX9_beanMayHave_8 (by rw [c_16]; decide) (by rw [c_16]; decide) (by rw [c_16]; rfl) (by decide) ?_
    have h_17 : iv 23 23 z_1 := iv_at c_16
    exact hj70 hvx hvw hvb ((by have hK9 : (wKy.getD w.toNatClampNeg 0).toInt = 120282512125796 := wkz (j := 17) hvw (swy 17 23 (by decide) hvw ez_1 c_16) (by decide); omega)) _ _ _ hP hD hS (lv_sub hl [0, 1, 2] rfl)
  by_cases c_18 : (z_1 : Int32).toInt = 24
  · refine lv_tableIn (tgt := 70) hx hb dX9_beanMayHave_8 (by rw [c_18]; decide) (by rw [c_18]; decide) (by rw [c_18]; rfl) (by decide) ?_
    have h_19 : iv 24 24 z_1 := iv_at c_18
    exact hj70 hvx hvw hvb ((by have hK9 : (wKy.getD w.toNatClampNeg 0).toInt = 1768843636 := wkz (j := 18) hvw (swy 18 24 (by decide) hvw ez_1 c_18) (by decide); omega)) _ _ _ hP hD hS (lv_sub hl [0, 1, 2] rfl)
  by_cases c_20 : (z_1 : Int32).toInt = 25
  · refine lv_tableIn (tgt := 70) hx hb dX9_beanMayHave_8 (by rw [c_20]; decide) (by rw [c_20]; decide) (by rw [c_20]; rfl) (by decide) ?_
    have h_21 : iv 25 25 z_1 := iv_at c_20
    exact hj70 hvx hvw hvb ((by have hK9 : (wKy.getD w.toNatClampNeg 0).toInt = 28259044220366713 := wkz (j := 19) hvw (swy 19 25 (by decide) hvw ez_1 c_20) (by decide); omega)) _ _ _ hP hD hS (lv_sub hl [0, 1, 2] rfl)
  by_cases c_22 : (z_1 : Int32).toInt = 26
  · refine lv_tableIn (tgt := 70) hx hb dX9_beanMayHave_8 (by rw [c_22]; decide) (by rw [c_22]; decide) (by rw [c_22]; rfl) (by decide) ?_
    have h_23 : iv 26 26 z_1 := iv_at c_22
    exact hj70 hvx hvw hvb ((by have hK9 : (wKy.getD w.toNatClampNeg 0).toInt = 28259031083541619 := wkz (j := 20) hvw (swy 20 26 (by decide) hvw ez_1 c_22) (by decide); omega)) _ _ _ hP hD hS (lv_sub hl [0, 1, 2] rfl)
  refine lv_tableOut (tgt := 72) hx hb dX9_beanMayHave_8 (by have q1 := (hz_1).1; have q2 := (hz_1).2; omega) (by decide) ?_
  refine lv_iconst (v := 0) hx hb dX9_beanMayHave_72 (by decide) ?_
  exact W.nb (fun hN => W.widen (k := 1) (n := 6) (by decide) (by decide) (vx_ret (W.zret (v := 0) hx hb hr (iv_nb (iv_w (iv_k (by decide) : iv 0 0 0) (by decide))) (fun t ht hW => ⟨⟨some (.int 0), (sg, gm, lg), rfl, ⟨0, rfl, rfl, (iv_w (iv_k (by decide) : iv 0 0 0) (by decide)), (Or.inr ⟨rfl, fun h => by have n_ID := wkn (x := 26980) (j := 10) (by decide) hvw (swx 10 16 (by decide) hvw ez_1 (by omega)); have n_ABSTRACT := wkn (x := 7017298113369039732) (j := 13) (by decide) hvw (swx 13 17 (by decide) hvw ez_1 (by omega)); have n_LAZY := wkn (x := 1818327673) (j := 15) (by decide) hvw (swx 15 18 (by decide) hvw ez_1 (by omega)); have n_CLASS := wkn (x := 427020088179) (j := 11) (by decide) hvw (swx 11 19 (by decide) hvw ez_1 (by omega)); have n_PARENT := wkn (x := 123563833388660) (j := 12) (by decide) hvw (swx 12 20 (by decide) hvw ez_1 (by omega)); have n_SCOPE := wkn (x := 495589486693) (j := 14) (by decide) hvw (swx 14 21 (by decide) hvw ez_1 (by omega)); have n_FACTORY := wkn (x := 28817527407604345) (j := 16) (by decide) hvw (swx 16 22 (by decide) hvw ez_1 (by omega)); have n_METHOD := wkn (x := 120282512125796) (j := 17) (by decide) hvw (swx 17 23 (by decide) hvw ez_1 (by omega)); have n_INIT := wkn (x := 1768843636) (j := 18) (by decide) hvw (swx 18 24 (by decide) hvw ez_1 (by omega)); have n_DESTROY := wkn (x := 28259044220366713) (j := 19) (by decide) hvw (swx 19 25 (by decide) hvw ez_1 (by omega)); have n_DEPENDS := wkn (x := 28259031083541619) (j := 20) (by decide) hvw (swx 20 26 (by decide) hvw ez_1 (by omega)); unfold BM7 at h; omega⟩)⟩, by rw [ht]; exact hP, va_K.moved hW.alike hK, hD⟩, hS.F ht, by rw [ht]; exact hN⟩) hS.2.2 dX9_beanMayHave_73)))

set_option maxHeartbeats 4000000 in
set_option maxRecDepth 100000 in
theorem d_mayHave2 (l : Launch) (dC : Nat → ClassId) (dI : Nat → Nat → Nat) (ad : Nat → Nat → Nat) (cid : Nat → ClassId) (a2 : Nat → Nat) (lx : List Nat) (sg : Nat → Int32) (gm : Nat → Nat → Int32) (lg : Nat → Nat → Int64) (x : Int32) (o : Int32) (w : Int32) (D : List El7) (hI : CI sg gm) (hvx : iv 0 0 x) (hvo : iv 0 79 o) (hvw : iv 0 33 w) (hw0 : 0 ≤ (gm 14 o.toNatClampNeg).toInt) (hEV : EV7 D sg gm lg o.toNatClampNeg) : CMt dC dI ad cid a2 lx l yX9_mayHave wm_X9_mayHave ({ frames := 2, cells := 1, slots := 6, locals := 42 }) [eV (ad 3) x, eV (ad 9) o, eV (ad 33) w] sg gm lg (fun v u => ∃ r : Int32, v = some (.int r) ∧ u = (sg, gm, lg) ∧ (iv 0 1 r) ∧ ((r.toInt = 1 ∧ (MAY (dKd D o.toNatClampNeg) (dIn D o.toNatClampNeg) (wKy.getD w.toNatClampNeg 0).toInt)) ∨ (r.toInt = 0 ∧ ¬ (MAY (dKd D o.toNatClampNeg) (dIn D o.toNatClampNeg) (wKy.getD w.toNatClampNeg 0).toInt)))) (fun _ _ => False) := by
  intro sz
  refine vx_ofW (cc := cX9_mayHave) (maxL := 3) (ret := (some .boolean)) (by decide) rfl ?_
  intro p e s m args below meth c s₁ B hml hxt hv
  obtain ⟨rfl, hsz, hP, hK, hD0, hG⟩ := hv
  have hx := B.exec
  have hb := B.bytes
  have hr := B.returns
  have hts := atoms_spec (ws := wm_X9_mayHave) B.pre
  have htb := fun (w : Cond) (h : w ∈ tb) => hts w (List.mem_cons_of_mem _ h)
  have hown : s.vm.findClass RX9 = some m.cls := findClass_of_methodNamed B.named
  have hlocks := B.notSynchronized
  subst hsz
  have hD := hD0.self (sz := s.heap.size)
  generalize hAe : va_A (cW ad cid a2 lx sg gm lg) s.heap.size = A at hD hG ⊢
  have hA : ∀ q : Nat, s.heap.size ≤ q → A q := fun q h => by rw [← hAe]; exact Or.inr h
  have hS : va_S A s.heap s.heap [] := va_S.rf
  have hl := lv_entry ([eV (ad 3) x, eV (ad 9) o, eV (ad 33) w]) (n := 3) (by rw [show (lg_sl ([eV (ad 3) x, eV (ad 9) o, eV (ad 33) w])).length = 3 from by simp [lg_sl, eV_cat, cat_i, cat_l]]; exact Nat.le_of_ble_eq_true rfl)
  rw [lg_entry_eq]
  generalize (lg_sl ([eV (ad 3) x, eV (ad 9) o, eV (ad 33) w]) ++ List.replicate (3 - (lg_sl ([eV (ad 3) x, eV (ad 9) o, eV (ad 33) w])).length) Slot.unset).toArray = ls at hl ⊢
  have hl : lv_has ls 3 [(0, eV (ad 3) x), (1, eV (ad 9) o), (2, eV (ad 33) w)] := by simp [lv_args, eV_cat, cat_i, cat_l] at hl; exact hl
  have hj75 : ∀ (y0_75 : Int32) (_ : iv 0 0 x) (_ : iv 0 79 o) (_ : iv 0 33 w) (_ : iv 0 1 y0_75) (_ : (y0_75.toInt = 1 ∧ (MAY (dKd D o.toNatClampNeg) (dIn D o.toNatClampNeg) (wKy.getD w.toNatClampNeg 0).toInt)) ∨ (y0_75.toInt = 0 ∧ ¬ (MAY (dKd D o.toNatClampNeg) (dIn D o.toNatClampNeg) (wKy.getD w.toNatClampNeg 0).toInt))) (H : Heap) (locs : List Loc) (ls : Array Slot), va_P (dC, dI) vwCl (cW ad cid a2 lx sg gm lg) H → va_D A (cW ad cid a2 lx sg gm lg) → va_S A s.heap H locs → lv_has ls 3 [(0, eV (ad 3) x), (1, eV (ad 9) o), (2, eV (ad 33) w)] → W p l e (headSpec wm_X9_mayHave ({ frames := 2, cells := 1, slots := 6, locals := 42 })).room s m ([eV (ad 3) x, eV (ad 9) o, eV (ad 33) w] : List Value).toArray below meth c H locs 0 0 (vx_MQ below (cQx dC dI ad cid a2 lx (fun v u => ∃ r : Int32, v = some (.int r) ∧ u = (sg, gm, lg) ∧ (iv 0 1 r) ∧ ((r.toInt = 1 ∧ (MAY (dKd D o.toNatClampNeg) (dIn D o.toNatClampNeg) (wKy.getD w.toNatClampNeg 0).toInt)) ∨ (r.toInt = 0 ∧ ¬ (MAY (dKd D o.toNatClampNeg) (dIn D o.toNatClampNeg) (wKy.getD w.toNatClampNeg 0).toInt)))) A) (cX dC dI ad cid a2 lx (fun _ _ => False) A) ([eV (ad 3) x, eV (ad 9) o, eV (ad 33) w] : List Value).toArray s 1 6 A) (F0 m 75 ls [.int y0_75]) := by
    intro y0_75 hsx0_75 hsx1_75 hsx2_75 hy0_75 u75 H locs ls hP hD hS hl
    exact W.nb (fun hN => W.widen (k := 1) (n := 6) (by decide) (by decide) (vx_ret (W.zret (v := y0_75) hx hb hr (iv_nb hy0_75) (fun t ht hW => ⟨⟨some (.int y0_75), (sg, gm, lg), rfl, ⟨y0_75, rfl, rfl, hy0_75, (u75)⟩, by rw [ht]; exact hP, va_K.moved hW.alike hK, hD⟩, hS.F ht, by rw [ht]; exact hN⟩) hS.2.2 dX9_mayHave_75)))
  have hj70 : ∀ (_ : iv 0 0 x) (_ : iv 0 79 o) (_ : iv 0 33 w) (_ : MAY (dKd D o.toNatClampNeg) (dIn D o.toNatClampNeg) (wKy.getD w.toNatClampNeg 0).toInt) (H : Heap) (locs : List Loc) (ls : Array Slot), va_P (dC, dI) vwCl (cW ad cid a2 lx sg gm lg) H → va_D A (cW ad cid a2 lx sg gm lg) → va_S A s.heap H locs → lv_has ls 3 [(0, eV (ad 3) x), (1, eV (ad 9) o), (2, eV (ad 33) w)] → W p l e (headSpec wm_X9_mayHave ({ frames := 2, cells := 1, slots := 6, locals := 42 })).room s m ([eV (ad 3) x, eV (ad 9) o, eV (ad 33) w] : List Value).toArray below meth c H locs 0 0 (vx_MQ below (cQx dC dI ad cid a2 lx (fun v u => ∃ r : Int32, v = some (.int r) ∧ u = (sg, gm, lg) ∧ (iv 0 1 r) ∧ ((r.toInt = 1 ∧ (MAY (dKd D o.toNatClampNeg) (dIn D o.toNatClampNeg) (wKy.getD w.toNatClampNeg 0).toInt)) ∨ (r.toInt = 0 ∧ ¬ (MAY (dKd D o.toNatClampNeg) (dIn D o.toNatClampNeg) (wKy.getD w.toNatClampNeg 0).toInt)))) A) (cX dC dI ad cid a2 lx (fun _ _ => False) A) ([eV (ad 3) x, eV (ad 9) o, eV (ad 33) w] : List Value).toArray s 1 6 A) (F0 m 70 ls []) := by
    intro  hsx0_70 hsx1_70 hsx2_70 u70 H locs ls hP hD hS hl
    refine lv_iconst (v := 1) hx hb dX9_mayHave_70 (by decide) ?_
    refine lv_goto (tgt := 75) hx hb dX9_mayHave_71 (by decide) ?_
    exact hj75 1 hsx0_70 hsx1_70 hsx2_70 (iv_w (iv_k (by decide) : iv 1 1 1) (by decide)) (Or.inl ⟨rfl, u70⟩) _ _ _ hP hD hS (lv_sub hl [0, 1, 2] rfl)
  have hj122 : ∀ (y0_122 : Int32) (_ : iv 0 0 x) (_ : iv 0 79 o) (_ : iv 0 33 w) (_ : iv 0 1 y0_122) (_ : (y0_122.toInt = 1 ∧ (MAY (dKd D o.toNatClampNeg) (dIn D o.toNatClampNeg) (wKy.getD w.toNatClampNeg 0).toInt)) ∨ (y0_122.toInt = 0 ∧ ¬ (MAY (dKd D o.toNatClampNeg) (dIn D o.toNatClampNeg) (wKy.getD w.toNatClampNeg 0).toInt))) (H : Heap) (locs : List Loc) (ls : Array Slot), va_P (dC, dI) vwCl (cW ad cid a2 lx sg gm lg) H → va_D A (cW ad cid a2 lx sg gm lg) → va_S A s.heap H locs → lv_has ls 3 [(0, eV (ad 3) x), (1, eV (ad 9) o), (2, eV (ad 33) w)] → W p l e (headSpec wm_X9_mayHave ({ frames := 2, cells := 1, slots := 6, locals := 42 })).room s m ([eV (ad 3) x, eV (ad 9) o, eV (ad 33) w] : List Value).toArray below meth c H locs 0 0 (vx_MQ below (cQx dC dI ad cid a2 lx (fun v u => ∃ r : Int32, v = some (.int r) ∧ u = (sg, gm, lg) ∧ (iv 0 1 r) ∧ ((r.toInt = 1 ∧ (MAY (dKd D o.toNatClampNeg) (dIn D o.toNatClampNeg) (wKy.getD w.toNatClampNeg 0).toInt)) ∨ (r.toInt = 0 ∧ ¬ (MAY (dKd D o.toNatClampNeg) (dIn D o.toNatClampNeg) (wKy.getD w.toNatClampNeg 0).toInt)))) A) (cX dC dI ad cid a2 lx (fun _ _ => False) A) ([eV (ad 3) x, eV (ad 9) o, eV (ad 33) w] : List Value).toArray s 1 6 A) (F0 m 122 ls [.int y0_122]) := by
    intro y0_122 hsx0_122 hsx1_122 hsx2_122 hy0_122 u122 H locs ls hP hD hS hl
    exact W.nb (fun hN => W.widen (k := 1) (n := 6) (by decide) (by decide) (vx_ret (W.zret (v := y0_122) hx hb hr (iv_nb hy0_122) (fun t ht hW => ⟨⟨some (.int y0_122), (sg, gm, lg), rfl, ⟨y0_122, rfl, rfl, hy0_122, (u122)⟩, by rw [ht]; exact hP, va_K.moved hW.alike hK, hD⟩, hS.F ht, by rw [ht]; exact hN⟩) hS.2.2 dX9_mayHave_122)))
  have hj117 : ∀ (_ : iv 0 0 x) (_ : iv 0 79 o) (_ : iv 0 33 w) (_ : MAY (dKd D o.toNatClampNeg) (dIn D o.toNatClampNeg) (wKy.getD w.toNatClampNeg 0).toInt) (H : Heap) (locs : List Loc) (ls : Array Slot), va_P (dC, dI) vwCl (cW ad cid a2 lx sg gm lg) H → va_D A (cW ad cid a2 lx sg gm lg) → va_S A s.heap H locs → lv_has ls 3 [(0, eV (ad 3) x), (1, eV (ad 9) o), (2, eV (ad 33) w)] → W p l e (headSpec wm_X9_mayHave ({ frames := 2, cells := 1, slots := 6, locals := 42 })).room s m ([eV (ad 3) x, eV (ad 9) o, eV (ad 33) w] : List Value).toArray below meth c H locs 0 0 (vx_MQ below (cQx dC dI ad cid a2 lx (fun v u => ∃ r : Int32, v = some (.int r) ∧ u = (sg, gm, lg) ∧ (iv 0 1 r) ∧ ((r.toInt = 1 ∧ (MAY (dKd D o.toNatClampNeg) (dIn D o.toNatClampNeg) (wKy.getD w.toNatClampNeg 0).toInt)) ∨ (r.toInt = 0 ∧ ¬ (MAY (dKd D o.toNatClampNeg) (dIn D o.toNatClampNeg) (wKy.getD w.toNatClampNeg 0).toInt)))) A) (cX dC dI ad cid a2 lx (fun _ _ => False) A) ([eV (ad 3) x, eV (ad 9) o, eV (ad 33) w] : List Value).toArray s 1 6 A) (F0 m 117 ls []) := by
    intro  hsx0_117 hsx1_117 hsx2_117 u117 H locs ls hP hD hS hl
    refine lv_iconst (v := 1) hx hb dX9_mayHave_117 (by decide) ?_
    refine lv_goto (tgt := 122) hx hb dX9_mayHave_118 (by decide) ?_
    exact hj122 1 hsx0_117 hsx1_117 hsx2_117 (iv_w (iv_k (by decide) : iv 1 1 1) (by decide)) (Or.inl ⟨rfl, u117⟩) _ _ _ hP hD hS (lv_sub hl [0, 1, 2] rfl)
  have hj149 : ∀ (y0_149 : Int32) (_ : iv 0 0 x) (_ : iv 0 79 o) (_ : iv 0 33 w) (_ : iv 0 1 y0_149) (_ : (y0_149.toInt = 1 ∧ (MAY (dKd D o.toNatClampNeg) (dIn D o.toNatClampNeg) (wKy.getD w.toNatClampNeg 0).toInt)) ∨ (y0_149.toInt = 0 ∧ ¬ (MAY (dKd D o.toNatClampNeg) (dIn D o.toNatClampNeg) (wKy.getD w.toNatClampNeg 0).toInt))) (H : Heap) (locs : List Loc) (ls : Array Slot), va_P (dC, dI) vwCl (cW ad cid a2 lx sg gm lg) H → va_D A (cW ad cid a2 lx sg gm lg) → va_S A s.heap H locs → lv_has ls 3 [(0, eV (ad 3) x), (1, eV (ad 9) o), (2, eV (ad 33) w)] → W p l e (headSpec wm_X9_mayHave ({ frames := 2, cells := 1, slots := 6, locals := 42 })).room s m ([eV (ad 3) x, eV (ad 9) o, eV (ad 33) w] : List Value).toArray below meth c H locs 0 0 (vx_MQ below (cQx dC dI ad cid a2 lx (fun v u => ∃ r : Int32, v = some (.int r) ∧ u = (sg, gm, lg) ∧ (iv 0 1 r) ∧ ((r.toInt = 1 ∧ (MAY (dKd D o.toNatClampNeg) (dIn D o.toNatClampNeg) (wKy.getD w.toNatClampNeg 0).toInt)) ∨ (r.toInt = 0 ∧ ¬ (MAY (dKd D o.toNatClampNeg) (dIn D o.toNatClampNeg) (wKy.getD w.toNatClampNeg 0).toInt)))) A) (cX dC dI ad cid a2 lx (fun _ _ => False) A) ([eV (ad 3) x, eV (ad 9) o, eV (ad 33) w] : List Value).toArray s 1 6 A) (F0 m 149 ls [.int y0_149]) := by
    intro y0_149 hsx0_149 hsx1_149 hsx2_149 hy0_149 u149 H locs ls hP hD hS hl
    exact W.nb (fun hN => W.widen (k := 1) (n := 6) (by decide) (by decide) (vx_ret (W.zret (v := y0_149) hx hb hr (iv_nb hy0_149) (fun t ht hW => ⟨⟨some (.int y0_149), (sg, gm, lg), rfl, ⟨y0_149, rfl, rfl, hy0_149, (u149)⟩, by rw [ht]; exact hP, va_K.moved hW.alike hK, hD⟩, hS.F ht, by rw [ht]; exact hN⟩) hS.2.2 dX9_mayHave_149)))
  have hj144 : ∀ (_ : iv 0 0 x) (_ : iv 0 79 o) (_ : iv 0 33 w) (_ : MAY (dKd D o.toNatClampNeg) (dIn D o.toNatClampNeg) (wKy.getD w.toNatClampNeg 0).toInt) (H : Heap) (locs : List Loc) (ls : Array Slot), va_P (dC, dI) vwCl (cW ad cid a2 lx sg gm lg) H → va_D A (cW ad cid a2 lx sg gm lg) → va_S A s.heap H locs → lv_has ls 3 [(0, eV (ad 3) x), (1, eV (ad 9) o), (2, eV (ad 33) w)] → W p l e (headSpec wm_X9_mayHave ({ frames := 2, cells := 1, slots := 6, locals := 42 })).room s m ([eV (ad 3) x, eV (ad 9) o, eV (ad 33) w] : List Value).toArray below meth c H locs 0 0 (vx_MQ below (cQx dC dI ad cid a2 lx (fun v u => ∃ r : Int32, v = some (.int r) ∧ u = (sg, gm, lg) ∧ (iv 0 1 r) ∧ ((r.toInt = 1 ∧ (MAY (dKd D o.toNatClampNeg) (dIn D o.toNatClampNeg) (wKy.getD w.toNatClampNeg 0).toInt)) ∨ (r.toInt = 0 ∧ ¬ (MAY (dKd D o.toNatClampNeg) (dIn D o.toNatClampNeg) (wKy.getD w.toNatClampNeg 0).toInt)))) A) (cX dC dI ad cid a2 lx (fun _ _ => False) A) ([eV (ad 3) x, eV (ad 9) o, eV (ad 33) w] : List Value).toArray s 1 6 A) (F0 m 144 ls []) := by
    intro  hsx0_144 hsx1_144 hsx2_144 u144 H locs ls hP hD hS hl
    refine lv_iconst (v := 1) hx hb dX9_mayHave_144 (by decide) ?_
    refine lv_goto (tgt := 149) hx hb dX9_mayHave_145 (by decide) ?_
    exact hj149 1 hsx0_144 hsx1_144 hsx2_144 (iv_w (iv_k (by decide) : iv 1 1 1) (by decide)) (Or.inl ⟨rfl, u144⟩) _ _ _ hP hD hS (lv_sub hl [0, 1, 2] rfl)
  have hj182 : ∀ (y0_182 : Int32) (_ : iv 0 0 x) (_ : iv 0 79 o) (_ : iv 0 33 w) (_ : iv 0 1 y0_182) (_ : (y0_182.toInt = 1 ∧ (MAY (dKd D o.toNatClampNeg) (dIn D o.toNatClampNeg) (wKy.getD w.toNatClampNeg 0).toInt)) ∨ (y0_182.toInt = 0 ∧ ¬ (MAY (dKd D o.toNatClampNeg) (dIn D o.toNatClampNeg) (wKy.getD w.toNatClampNeg 0).toInt))) (H : Heap) (locs : List Loc) (ls : Array Slot), va_P (dC, dI) vwCl (cW ad cid a2 lx sg gm lg) H → va_D A (cW ad cid a2 lx sg gm lg) → va_S A s.heap H locs → lv_has ls 3 [(0, eV (ad 3) x), (1, eV (ad 9) o), (2, eV (ad 33) w)] → W p l e (headSpec wm_X9_mayHave ({ frames := 2, cells := 1, slots := 6, locals := 42 })).room s m ([eV (ad 3) x, eV (ad 9) o, eV (ad 33) w] : List Value).toArray below meth c H locs 0 0 (vx_MQ below (cQx dC dI ad cid a2 lx (fun v u => ∃ r : Int32, v = some (.int r) ∧ u = (sg, gm, lg) ∧ (iv 0 1 r) ∧ ((r.toInt = 1 ∧ (MAY (dKd D o.toNatClampNeg) (dIn D o.toNatClampNeg) (wKy.getD w.toNatClampNeg 0).toInt)) ∨ (r.toInt = 0 ∧ ¬ (MAY (dKd D o.toNatClampNeg) (dIn D o.toNatClampNeg) (wKy.getD w.toNatClampNeg 0).toInt)))) A) (cX dC dI ad cid a2 lx (fun _ _ => False) A) ([eV (ad 3) x, eV (ad 9) o, eV (ad 33) w] : List Value).toArray s 1 6 A) (F0 m 182 ls [.int y0_182]) := by
    intro y0_182 hsx0_182 hsx1_182 hsx2_182 hy0_182 u182 H locs ls hP hD hS hl
    exact W.nb (fun hN => W.widen (k := 1) (n := 6) (by decide) (by decide) (vx_ret (W.zret (v := y0_182) hx hb hr (iv_nb hy0_182) (fun t ht hW => ⟨⟨some (.int y0_182), (sg, gm, lg), rfl, ⟨y0_182, rfl, rfl, hy0_182, (u182)⟩, by rw [ht]; exact hP, va_K.moved hW.alike hK, hD⟩, hS.F ht, by rw [ht]; exact hN⟩) hS.2.2 dX9_mayHave_182)))
  have hj177 : ∀ (_ : iv 0 0 x) (_ : iv 0 79 o) (_ : iv 0 33 w) (_ : MAY (dKd D o.toNatClampNeg) (dIn D o.toNatClampNeg) (wKy.getD w.toNatClampNeg 0).toInt) (H : Heap) (locs : List Loc) (ls : Array Slot), va_P (dC, dI) vwCl (cW ad cid a2 lx sg gm lg) H → va_D A (cW ad cid a2 lx sg gm lg) → va_S A s.heap H locs → lv_has ls 3 [(0, eV (ad 3) x), (1, eV (ad 9) o), (2, eV (ad 33) w)] → W p l e (headSpec wm_X9_mayHave ({ frames := 2, cells := 1, slots := 6, locals := 42 })).room s m ([eV (ad 3) x, eV (ad 9) o, eV (ad 33) w] : List Value).toArray below meth c H locs 0 0 (vx_MQ below (cQx dC dI ad cid a2 lx (fun v u => ∃ r : Int32, v = some (.int r) ∧ u = (sg, gm, lg) ∧ (iv 0 1 r) ∧ ((r.toInt = 1 ∧ (MAY (dKd D o.toNatClampNeg) (dIn D o.toNatClampNeg) (wKy.getD w.toNatClampNeg 0).toInt)) ∨ (r.toInt = 0 ∧ ¬ (MAY (dKd D o.toNatClampNeg) (dIn D o.toNatClampNeg) (wKy.getD w.toNatClampNeg 0).toInt)))) A) (cX dC dI ad cid a2 lx (fun _ _ => False) A) ([eV (ad 3) x, eV (ad 9) o, eV (ad 33) w] : List Value).toArray s 1 6 A) (F0 m 177 ls []) := by
    intro  hsx0_177 hsx1_177 hsx2_177 u177 H locs ls hP hD hS hl
    refine lv_iconst (v := 1) hx hb dX9_mayHave_177 (by decide) ?_
    refine lv_goto (tgt := 182) hx hb dX9_mayHave_178 (by decide) ?_
    exact hj182 1 hsx0_177 hsx1_177 hsx2_177 (iv_w (iv_k (by decide) : iv 1 1 1) (by decide)) (Or.inl ⟨rfl, u177⟩) _ _ _ hP hD hS (lv_sub hl [0, 1, 2] rfl)
  have hj183 : ∀ (_ : iv 0 0 x) (_ : iv 0 79 o) (_ : iv 0 33 w) (_ : ¬ MAY (dKd D o.toNatClampNeg) (dIn D o.toNatClampNeg) (wKy.getD w.toNatClampNeg 0).toInt) (H : Heap) (locs : List Loc) (ls : Array Slot), va_P (dC, dI) vwCl (cW ad cid a2 lx sg gm lg) H → va_D A (cW ad cid a2 lx sg gm lg) → va_S A s.heap H locs → lv_has ls 3 [(0, eV (ad 3) x), (1, eV (ad 9) o), (2, eV (ad 33) w)] → W p l e (headSpec wm_X9_mayHave ({ frames := 2, cells := 1, slots := 6, locals := 42 })).room s m ([eV (ad 3) x, eV (ad 9) o, eV (ad 33) w] : List Value).toArray below meth c H locs 0 0 (vx_MQ below (cQx dC dI ad cid a2 lx (fun v u => ∃ r : Int32, v = some (.int r) ∧ u = (sg, gm, lg) ∧ (iv 0 1 r) ∧ ((r.toInt = 1 ∧ (MAY (dKd D o.toNatClampNeg) (dIn D o.toNatClampNeg) (wKy.getD w.toNatClampNeg 0).toInt)) ∨ (r.toInt = 0 ∧ ¬ (MAY (dKd D o.toNatClampNeg) (dIn D o.toNatClampNeg) (wKy.getD w.toNatClampNeg 0).toInt)))) A) (cX dC dI ad cid a2 lx (fun _ _ => False) A) ([eV (ad 3) x, eV (ad 9) o, eV (ad 33) w] : List Value).toArray s 1 6 A) (F0 m 183 ls []) := by
    intro  hsx0_183 hsx1_183 hsx2_183 u183 H locs ls hP hD hS hl
    refine lv_iconst (v := 0) hx hb dX9_mayHave_183 (by decide) ?_
    exact W.nb (fun hN => W.widen (k := 1) (n := 6) (by decide) (by decide) (vx_ret (W.zret (v := 0) hx hb hr (iv_nb (iv_w (iv_k (by decide) : iv 0 0 0) (by decide))) (fun t ht hW => ⟨⟨some (.int 0), (sg, gm, lg), rfl, ⟨0, rfl, rfl, (iv_w (iv_k (by decide) : iv 0 0 0) (by decide)), (Or.inr ⟨rfl, u183⟩)⟩, by rw [ht]; exact hP, va_K.moved hW.alike hK, hD⟩, hS.F ht, by rw [ht]; exact hN⟩) hS.2.2 dX9_mayHave_184)))
  have hj162 : ∀ (y0_162 : Int32) (_ : iv 0 0 x) (_ : iv 0 79 o) (_ : iv 0 33 w) (_ : iv 0 1 y0_162) (_ : (y0_162.toInt = 1 ∧ (MAY (dKd D o.toNatClampNeg) (dIn D o.toNatClampNeg) (wKy.getD w.toNatClampNeg 0).toInt)) ∨ (y0_162.toInt = 0 ∧ ¬ (MAY (dKd D o.toNatClampNeg) (dIn D o.toNatClampNeg) (wKy.getD w.toNatClampNeg 0).toInt))) (H : Heap) (locs : List Loc) (ls : Array Slot), va_P (dC, dI) vwCl (cW ad cid a2 lx sg gm lg) H → va_D A (cW ad cid a2 lx sg gm lg) → va_S A s.heap H locs → lv_has ls 3 [(0, eV (ad 3) x), (1, eV (ad 9) o), (2, eV (ad 33) w)] → W p l e (headSpec wm_X9_mayHave ({ frames := 2, cells := 1, slots := 6, locals := 42 })).room s m ([eV (ad 3) x, eV (ad 9) o, eV (ad 33) w] : List Value).toArray below meth c H locs 0 0 (vx_MQ below (cQx dC dI ad cid a2 lx (fun v u => ∃ r : Int32, v = some (.int r) ∧ u = (sg, gm, lg) ∧ (iv 0 1 r) ∧ ((r.toInt = 1 ∧ (MAY (dKd D o.toNatClampNeg) (dIn D o.toNatClampNeg) (wKy.getD w.toNatClampNeg 0).toInt)) ∨ (r.toInt = 0 ∧ ¬ (MAY (dKd D o.toNatClampNeg) (dIn D o.toNatClampNeg) (wKy.getD w.toNatClampNeg 0).toInt)))) A) (cX dC dI ad cid a2 lx (fun _ _ => False) A) ([eV (ad 3) x, eV (ad 9) o, eV (ad 33) w] : List Value).toArray s 1 6 A) (F0 m 162 ls [.int y0_162]) := by
    intro y0_162 hsx0_162 hsx1_162 hsx2_162 hy0_162 u162 H locs ls hP hD hS hl
    exact W.nb (fun hN => W.widen (k := 1) (n := 6) (by decide) (by decide) (vx_ret (W.zret (v := y0_162) hx hb hr (iv_nb hy0_162) (fun t ht hW => ⟨⟨some (.int y0_162), (sg, gm, lg), rfl, ⟨y0_162, rfl, rfl, hy0_162, (u162)⟩, by rw [ht]; exact hP, va_K.moved hW.alike hK, hD⟩, hS.F ht, by rw [ht]; exact hN⟩) hS.2.2 dX9_mayHave_162)))
  refine cw_sw hx hb hG hS hown (htb _ kw_660) dX9_mayHave_0 ?_
  refine ec_aload_n hx hb dX9_mayHave_3 rfl (lv_at hl 1 rfl) ?_
  refine cr_get (t := 9) (j := 4) (C := RX3) (T := TX3) (N := 21) (v := eV (ad 33) (gm 14 o.toNatClampNeg)) hx hb htb inX3 hown hK hP hvo (by decide) (by decide) (by decide) rfl (by decide) (htb _ kw_242) rfl dX9_mayHave_4 ?_
  obtain ⟨z_1, ez_1⟩ : ∃ z : Int32, z = (gm 14 o.toNatClampNeg) := ⟨_, rfl⟩
  refine W.eq (g2 := F0 m 7 ls [eV (ad 33) z_1, eV (ad 36) 0]) (by rw [ez_1]) ?_
  have hz_1 : iv (-1) 33 z_1 := iv_of ez_1 (CI_a hI 14 hvo (by decide))
  have h_2 : iv 0 33 z_1 := ⟨by rw [ez_1]; exact hw0, (hz_1).2⟩
  refine cw_ord ⟨hx, hb, hml, hown, htb⟩ kw_661 h_2 hl.1 (Nat.le_trans (cs_c (eV_cat _ _) cs_n) (by decide)) dX9_mayHave_7 ⟨Nat.le_of_ble_eq_true rfl, Nat.le_of_ble_eq_true rfl⟩ ⟨Nat.le_of_ble_eq_true rfl, Nat.le_of_ble_eq_true rfl⟩ hP hD hS hA hG (fun H locs hP hS => ?_)
  refine cw_swld (iv_k (by decide) : iv 0 0 0) hx hb hG hS h_2 dX9_mayHave_10 ?_
  refine lv_topi (fun z_3 ez_3 => ?_)
  have hz_3 : iv 0 29 z_3 := iv_of ez_3 (sw_iv z_1)
  by_cases c_4 : (z_3 : Int32).toInt = 7
  · refine lv_tableIn (tgt := 56) hx hb dX9_mayHave_11 (by rw [c_4]; decide) (by rw [c_4]; decide) (by rw [c_4]; rfl) (by decide) ?_
    have h_5 : iv 7 7 z_3 := iv_at c_4
    refine ec_aload_n hx hb dX9_mayHave_56 rfl (lv_at hl 2 rfl) ?_
    refine cw_word (k := 21) (kx := 21) hx hb hG hS (by decide) rfl ⟨by decide, by decide⟩ hown (htb _ kw_679) dX9_mayHave_57 ?_
    refine ec_acmp_eq (tgt := 70) hx hb dX9_mayHave_60 (by decide) (fun c_6 => ?_) (fun c_6 => ?_)
    · have wc_6 : w.toInt = (21 : Int) := er_wd hG (iv_w hvw (by decide)) (iv_w (iv_k (by decide) : iv 21 21 21) (by decide)) c_6
      exact hj70 hvx hvo hvw ((by have hkd : dKd D o.toNatClampNeg = 2 := KW_f hEV.1 (by unfold KW7; rw [show (gm 14 o.toNatClampNeg).toInt = (1 : Int) from (by rw [← ez_1]; exact swy 1 7 (by decide) (h_2) ez_3 c_4)]; decide); rw [hkd, MAY_2]; have k_NAME := wkz (w := w) (j := 21) (x := 1851878757) hvw (by have := wc_6; omega) (by decide); omega)) _ _ _ hP hD hS (lv_sub hl [0, 1, 2] rfl)
    · have wc_6 : ¬ w.toInt = (21 : Int) := fun q9 => c_6 (congrArg (er (ad 33)) (Int32.toInt_inj.mp q9))
      refine ec_aload_n hx hb dX9_mayHave_63 rfl (lv_at hl 2 rfl) ?_
      refine cw_word (k := 22) (kx := 22) hx hb hG hS (by decide) rfl ⟨by decide, by decide⟩ hown (htb _ kw_697) dX9_mayHave_64 ?_
      refine ec_acmp_ne (tgt := 74) hx hb dX9_mayHave_67 (by decide) (fun c_7 => ?_) (fun c_7 => ?_)
      · have wc_7 : ¬ w.toInt = (22 : Int) := fun q9 => c_7 (congrArg (er (ad 33)) (Int32.toInt_inj.mp q9))
        refine lv_iconst (v := 0) hx hb dX9_mayHave_74 (by decide) ?_
        exact hj75 0 hvx hvo hvw (iv_w (iv_k (by decide) : iv 0 0 0) (by decide)) (Or.inr ⟨rfl, (fun q9 => by have hkd : dKd D o.toNatClampNeg = 2 := KW_f hEV.1 (by unfold KW7; rw [show (gm 14 o.toNatClampNeg).toInt = (1 : Int) from (by rw [← ez_1]; exact swy 1 7 (by decide) (h_2) ez_3 c_4)]; decide); rw [hkd, MAY_2] at q9; have k_NAME := wkn (w := w) (x := 1851878757) (j := 21) (by decide) hvw (by have := wc_6; omega); have k_TO := wkn (w := w) (x := 29807) (j := 22) (by decide) hvw (by have := wc_7; omega); omega)⟩) _ _ _ hP hD hS (lv_sub hl [0, 1, 2] rfl)
      · have wc_7 : w.toInt = (22 : Int) := er_wd hG (iv_w hvw (by decide)) (iv_w (iv_k (by decide) : iv 22 22 22) (by decide)) c_7
        exact hj70 hvx hvo hvw ((by have hkd : dKd D o.toNatClampNeg = 2 := KW_f hEV.1 (by unfold KW7; rw [show (gm 14 o.toNatClampNeg).toInt = (1 : Int) from (by rw [← ez_1]; exact swy 1 7 (by decide) (h_2) ez_3 c_4)]; decide); rw [hkd, MAY_2]; have k_NAME := wkn (w := w) (x := 1851878757) (j := 21) (by decide) hvw (by have := wc_6; omega); have k_TO := wkz (w := w) (j := 22) (x := 29807) hvw (by have := wc_7; omega) (by decide); omega)) _ _ _ hP hD hS (lv_sub hl [0, 1, 2] rfl)
  by_cases c_8 : (z_3 : Int32).toInt = 8
  · refine lv_tableIn (tgt := 76) hx hb dX9_mayHave_11 (by rw [c_8]; decide) (by rw [c_8]; decide) (by rw [c_8]; rfl) (by decide) ?_
    have h_9 : iv 8 8 z_3 := iv_at c_8
    refine ec_aload_n hx hb dX9_mayHave_76 rfl (lv_at hl 0 rfl) ?_
    refine ec_aload_n hx hb dX9_mayHave_77 rfl (lv_at hl 2 rfl) ?_
    refine ec_aload_n hx hb dX9_mayHave_78 rfl (lv_at hl 1 rfl) ?_
    refine cw_word (k := 0) (kx := 0) hx hb hG hS (by decide) rfl ⟨by decide, by decide⟩ hown (htb _ kw_665) dX9_mayHave_79 ?_
    refine cm_callV (t := 9) (C := RX3) (T := TX3) (N := 21) (rest := [eV (ad 33) w, eV (ad 3) x]) (as := [eV (ad 33) 0]) ⟨hx, hb, hml, hown, htb⟩ (d_isIn2 l dC dI ad cid a2 lx sg gm lg o 0 hI hvo (iv_w (iv_k (by decide) : iv 0 0 0) (by decide))) (cwV 1 htb (gd_V kw_666 kw_667 kw_668 kw_150 kw_1469) rfl rfl rfl (by decide +kernel) ⟨Nat.le_of_ble_eq_true rfl, Nat.le_of_ble_eq_true rfl⟩) hvo (by decide) (by decide) rfl rfl hl.1 rfl (Nat.le_trans (cs_c (eV_cat _ _) (cs_c (eV_cat _ _) cs_n)) (by decide)) dX9_mayHave_82 ⟨Nat.le_of_ble_eq_true rfl, Nat.le_of_ble_eq_true rfl⟩ hK hP hD hS hA hG (fun E ce q9 u_11 H locs hw hP hD hS hce hcv hcl => ?_) (fun v9 u_11 H locs hw hP hD hS => ?_)
    · exact hw.elim
    obtain ⟨r_10, rfl, rfl, hr_10, fI_r_10⟩ := hw
    have hP : va_P (dC, dI) vwCl (cW ad cid a2 lx sg gm lg) H := hP
    have hD : va_D A (cW ad cid a2 lx sg gm lg) := hD
    refine W.eq (g2 := F0 m 85 ls [.int r_10, eV (ad 33) w, eV (ad 3) x]) rfl ?_
    have gI_r_10 : (r_10.toInt = 1 ∧ dIn D o.toNatClampNeg = 1) ∨ (r_10.toInt = 0 ∧ ¬ dIn D o.toNatClampNeg = 1) := by rw [← ISI_d hEV (a := 0) (K := 1) (by unfold KW7; decide) (by decide)]; exact fI_r_10
    refine cm_callV (t := 3) (C := RX9) (T := TX9) (N := 1) (rest := []) (as := [eV (ad 33) w, .int r_10]) ⟨hx, hb, hml, hown, htb⟩ (d_beanMayHave2 l dC dI ad cid a2 lx sg gm lg x w r_10 hI hvx hvw hr_10) (cwV 2 htb (gd_V kw_698 kw_699 kw_30 kw_152 kw_1480) rfl rfl rfl (by decide +kernel) ⟨Nat.le_of_ble_eq_true rfl, Nat.le_of_ble_eq_true rfl⟩) hvx (by decide) (by decide) rfl rfl hl.1 rfl (Nat.le_trans cs_n (by decide)) dX9_mayHave_85 ⟨Nat.le_of_ble_eq_true rfl, Nat.le_of_ble_eq_true rfl⟩ hK hP hD hS hA hG (fun E ce q9 u_14 H locs hw hP hD hS hce hcv hcl => ?_) (fun v9 u_14 H locs hw hP hD hS => ?_)
    · exact hw.elim
    obtain ⟨r_13, rfl, rfl, hr_13, fB_r_13⟩ := hw
    have hP : va_P (dC, dI) vwCl (cW ad cid a2 lx sg gm lg) H := hP
    have hD : va_D A (cW ad cid a2 lx sg gm lg) := hD
    refine W.eq (g2 := F0 m 88 ls [.int r_13]) rfl ?_
    exact W.nb (fun hN => W.widen (k := 1) (n := 6) (by decide) (by decide) (vx_ret (W.zret (v := r_13) hx hb hr (iv_nb hr_13) (fun t ht hW => ⟨⟨some (.int r_13), (sg, gm, lg), rfl, ⟨r_13, rfl, rfl, hr_13, ((by have hkd : dKd D o.toNatClampNeg = 3 := KW_f hEV.1 (by unfold KW7; rw [show (gm 14 o.toNatClampNeg).toInt = (2 : Int) from (by rw [← ez_1]; exact swy 2 8 (by decide) (h_2) ez_3 c_8)]; decide); rw [MAY_b hkd gI_r_10]; exact fB_r_13))⟩, by rw [ht]; exact hP, va_K.moved hW.alike hK, hD⟩, hS.F ht, by rw [ht]; exact hN⟩) hS.2.2 dX9_mayHave_88)))
  by_cases c_16 : (z_3 : Int32).toInt = 9
  · refine lv_tableIn (tgt := 89) hx hb dX9_mayHave_11 (by rw [c_16]; decide) (by rw [c_16]; decide) (by rw [c_16]; rfl) (by decide) ?_
    have h_17 : iv 9 9 z_3 := iv_at c_16
    refine ec_aload_n hx hb dX9_mayHave_89 rfl (lv_at hl 2 rfl) ?_
    refine cw_word (k := 23) (kx := 23) hx hb hG hS (by decide) rfl ⟨by decide, by decide⟩ hown (htb _ kw_700) dX9_mayHave_90 ?_
    refine ec_acmp_eq (tgt := 117) hx hb dX9_mayHave_93 (by decide) (fun c_18 => ?_) (fun c_18 => ?_)
    · have wc_18 : w.toInt = (23 : Int) := er_wd hG (iv_w hvw (by decide)) (iv_w (iv_k (by decide) : iv 23 23 23) (by decide)) c_18
      exact hj117 hvx hvo hvw ((by have hkd : dKd D o.toNatClampNeg = 4 := KW_f hEV.1 (by unfold KW7; rw [show (gm 14 o.toNatClampNeg).toInt = (3 : Int) from (by rw [← ez_1]; exact swy 3 9 (by decide) (h_2) ez_3 c_16)]; decide); rw [hkd, MAY_4]; have k_AT := wkz (w := w) (j := 23) (x := 24948) hvw (by have := wc_18; omega) (by decide); omega)) _ _ _ hP hD hS (lv_sub hl [0, 1, 2] rfl)
    · have wc_18 : ¬ w.toInt = (23 : Int) := fun q9 => c_18 (congrArg (er (ad 33)) (Int32.toInt_inj.mp q9))
      refine ec_aload_n hx hb dX9_mayHave_96 rfl (lv_at hl 2 rfl) ?_
      refine cw_word (k := 24) (kx := 24) hx hb hG hS (by decide) rfl ⟨by decide, by decide⟩ hown (htb _ kw_701) dX9_mayHave_97 ?_
      refine ec_acmp_eq (tgt := 117) hx hb dX9_mayHave_100 (by decide) (fun c_19 => ?_) (fun c_19 => ?_)
      · have wc_19 : w.toInt = (24 : Int) := er_wd hG (iv_w hvw (by decide)) (iv_w (iv_k (by decide) : iv 24 24 24) (by decide)) c_19
        exact hj117 hvx hvo hvw ((by have hkd : dKd D o.toNatClampNeg = 4 := KW_f hEV.1 (by unfold KW7; rw [show (gm 14 o.toNatClampNeg).toInt = (3 : Int) from (by rw [← ez_1]; exact swy 3 9 (by decide) (h_2) ez_3 c_16)]; decide); rw [hkd, MAY_4]; have k_AT := wkn (w := w) (x := 24948) (j := 23) (by decide) hvw (by have := wc_18; omega); have k_TYPE := wkz (w := w) (j := 24) (x := 1954115685) hvw (by have := wc_19; omega) (by decide); omega)) _ _ _ hP hD hS (lv_sub hl [0, 1, 2] rfl)
      · have wc_19 : ¬ w.toInt = (24 : Int) := fun q9 => c_19 (congrArg (er (ad 33)) (Int32.toInt_inj.mp q9))
        refine ec_aload_n hx hb dX9_mayHave_103 rfl (lv_at hl 2 rfl) ?_
        refine cw_word (k := 7) (kx := 7) hx hb hG hS (by decide) rfl ⟨by decide, by decide⟩ hown (htb _ kw_702) dX9_mayHave_104 ?_
        refine ec_acmp_eq (tgt := 117) hx hb dX9_mayHave_107 (by decide) (fun c_20 => ?_) (fun c_20 => ?_)
        · have wc_20 : w.toInt = (7 : Int) := er_wd hG (iv_w hvw (by decide)) (iv_w (iv_k (by decide) : iv 7 7 7) (by decide)) c_20
          exact hj117 hvx hvo hvw ((by have hkd : dKd D o.toNatClampNeg = 4 := KW_f hEV.1 (by unfold KW7; rw [show (gm 14 o.toNatClampNeg).toInt = (3 : Int) from (by rw [← ez_1]; exact swy 3 9 (by decide) (h_2) ez_3 c_16)]; decide); rw [hkd, MAY_4]; have k_AT := wkn (w := w) (x := 24948) (j := 23) (by decide) hvw (by have := wc_18; omega); have k_TYPE := wkn (w := w) (x := 1954115685) (j := 24) (by decide) hvw (by have := wc_19; omega); have k_VALUE := wkz (w := w) (j := 7) (x := 508440638821) hvw (by have := wc_20; omega) (by decide); omega)) _ _ _ hP hD hS (lv_sub hl [0, 1, 2] rfl)
        · have wc_20 : ¬ w.toInt = (7 : Int) := fun q9 => c_20 (congrArg (er (ad 33)) (Int32.toInt_inj.mp q9))
          refine ec_aload_n hx hb dX9_mayHave_110 rfl (lv_at hl 2 rfl) ?_
          refine cw_word (k := 8) (kx := 8) hx hb hG hS (by decide) rfl ⟨by decide, by decide⟩ hown (htb _ kw_703) dX9_mayHave_111 ?_
          refine ec_acmp_ne (tgt := 121) hx hb dX9_mayHave_114 (by decide) (fun c_21 => ?_) (fun c_21 => ?_)
          · have wc_21 : ¬ w.toInt = (8 : Int) := fun q9 => c_21 (congrArg (er (ad 33)) (Int32.toInt_inj.mp q9))
            refine lv_iconst (v := 0) hx hb dX9_mayHave_121 (by decide) ?_
            exact hj122 0 hvx hvo hvw (iv_w (iv_k (by decide) : iv 0 0 0) (by decide)) (Or.inr ⟨rfl, (fun q9 => by have hkd : dKd D o.toNatClampNeg = 4 := KW_f hEV.1 (by unfold KW7; rw [show (gm 14 o.toNatClampNeg).toInt = (3 : Int) from (by rw [← ez_1]; exact swy 3 9 (by decide) (h_2) ez_3 c_16)]; decide); rw [hkd, MAY_4] at q9; have k_AT := wkn (w := w) (x := 24948) (j := 23) (by decide) hvw (by have := wc_18; omega); have k_TYPE := wkn (w := w) (x := 1954115685) (j := 24) (by decide) hvw (by have := wc_19; omega); have k_VALUE := wkn (w := w) (x := 508440638821) (j := 7) (by decide) hvw (by have := wc_20; omega); have k_REF := wkn (w := w) (x := 7497062) (j := 8) (by decide) hvw (by have := wc_21; omega); omega)⟩) _ _ _ hP hD hS (lv_sub hl [0, 1, 2] rfl)
          · have wc_21 : w.toInt = (8 : Int) := er_wd hG (iv_w hvw (by decide)) (iv_w (iv_k (by decide) : iv 8 8 8) (by decide)) c_21
            exact hj117 hvx hvo hvw ((by have hkd : dKd D o.toNatClampNeg = 4 := KW_f hEV.1 (by unfold KW7; rw [show (gm 14 o.toNatClampNeg).toInt = (3 : Int) from (by rw [← ez_1]; exact swy 3 9 (by decide) (h_2) ez_3 c_16)]; decide); rw [hkd, MAY_4]; have k_AT := wkn (w := w) (x := 24948) (j := 23) (by decide) hvw (by have := wc_18; omega); have k_TYPE := wkn (w := w) (x := 1954115685) (j := 24) (by decide) hvw (by have := wc_19; omega); have k_VALUE := wkn (w := w) (x := 508440638821) (j := 7) (by decide) hvw (by have := wc_20; omega); have k_REF := wkz (w := w) (j := 8) (x := 7497062) hvw (by have := wc_21; omega) (by decide); omega)) _ _ _ hP hD hS (lv_sub hl [0, 1, 2] rfl)
  by_cases c_22 : (z_3 : Int32).toInt = 10
  · refine lv_tableIn (tgt := 123) hx hb dX9_mayHave_11 (by rw [c_22]; decide) (by rw [c_22]; decide) (by rw [c_22]; rfl) (by decide) ?_
    have h_23 : iv 10 10 z_3 := iv_at c_22
    refine ec_aload_n hx hb dX9_mayHave_123 rfl (lv_at hl 2 rfl) ?_
    refine cw_word (k := 21) (kx := 21) hx hb hG hS (by decide) rfl ⟨by decide, by decide⟩ hown (htb _ kw_679) dX9_mayHave_124 ?_
    refine ec_acmp_eq (tgt := 144) hx hb dX9_mayHave_127 (by decide) (fun c_24 => ?_) (fun c_24 => ?_)
    · have wc_24 : w.toInt = (21 : Int) := er_wd hG (iv_w hvw (by decide)) (iv_w (iv_k (by decide) : iv 21 21 21) (by decide)) c_24
      exact hj144 hvx hvo hvw ((by have hkd : dKd D o.toNatClampNeg = 5 := KW_f hEV.1 (by unfold KW7; rw [show (gm 14 o.toNatClampNeg).toInt = (4 : Int) from (by rw [← ez_1]; exact swy 4 10 (by decide) (h_2) ez_3 c_22)]; decide); rw [hkd, MAY_5]; have k_NAME := wkz (w := w) (j := 21) (x := 1851878757) hvw (by have := wc_24; omega) (by decide); omega)) _ _ _ hP hD hS (lv_sub hl [0, 1, 2] rfl)
    · have wc_24 : ¬ w.toInt = (21 : Int) := fun q9 => c_24 (congrArg (er (ad 33)) (Int32.toInt_inj.mp q9))
      refine ec_aload_n hx hb dX9_mayHave_130 rfl (lv_at hl 2 rfl) ?_
      refine cw_word (k := 7) (kx := 7) hx hb hG hS (by decide) rfl ⟨by decide, by decide⟩ hown (htb _ kw_702) dX9_mayHave_131 ?_
      refine ec_acmp_eq (tgt := 144) hx hb dX9_mayHave_134 (by decide) (fun c_25 => ?_) (fun c_25 => ?_)
      · have wc_25 : w.toInt = (7 : Int) := er_wd hG (iv_w hvw (by decide)) (iv_w (iv_k (by decide) : iv 7 7 7) (by decide)) c_25
        exact hj144 hvx hvo hvw ((by have hkd : dKd D o.toNatClampNeg = 5 := KW_f hEV.1 (by unfold KW7; rw [show (gm 14 o.toNatClampNeg).toInt = (4 : Int) from (by rw [← ez_1]; exact swy 4 10 (by decide) (h_2) ez_3 c_22)]; decide); rw [hkd, MAY_5]; have k_NAME := wkn (w := w) (x := 1851878757) (j := 21) (by decide) hvw (by have := wc_24; omega); have k_VALUE := wkz (w := w) (j := 7) (x := 508440638821) hvw (by have := wc_25; omega) (by decide); omega)) _ _ _ hP hD hS (lv_sub hl [0, 1, 2] rfl)
      · have wc_25 : ¬ w.toInt = (7 : Int) := fun q9 => c_25 (congrArg (er (ad 33)) (Int32.toInt_inj.mp q9))
        refine ec_aload_n hx hb dX9_mayHave_137 rfl (lv_at hl 2 rfl) ?_
        refine cw_word (k := 8) (kx := 8) hx hb hG hS (by decide) rfl ⟨by decide, by decide⟩ hown (htb _ kw_703) dX9_mayHave_138 ?_
        refine ec_acmp_ne (tgt := 148) hx hb dX9_mayHave_141 (by decide) (fun c_26 => ?_) (fun c_26 => ?_)
        · have wc_26 : ¬ w.toInt = (8 : Int) := fun q9 => c_26 (congrArg (er (ad 33)) (Int32.toInt_inj.mp q9))
          refine lv_iconst (v := 0) hx hb dX9_mayHave_148 (by decide) ?_
          exact hj149 0 hvx hvo hvw (iv_w (iv_k (by decide) : iv 0 0 0) (by decide)) (Or.inr ⟨rfl, (fun q9 => by have hkd : dKd D o.toNatClampNeg = 5 := KW_f hEV.1 (by unfold KW7; rw [show (gm 14 o.toNatClampNeg).toInt = (4 : Int) from (by rw [← ez_1]; exact swy 4 10 (by decide) (h_2) ez_3 c_22)]; decide); rw [hkd, MAY_5] at q9; have k_NAME := wkn (w := w) (x := 1851878757) (j := 21) (by decide) hvw (by have := wc_24; omega); have k_VALUE := wkn (w := w) (x := 508440638821) (j := 7) (by decide) hvw (by have := wc_25; omega); have k_REF := wkn (w := w) (x := 7497062) (j := 8) (by decide) hvw (by have := wc_26; omega); omega)⟩) _ _ _ hP hD hS (lv_sub hl [0, 1, 2] rfl)
        · have wc_26 : w.toInt = (8 : Int) := er_wd hG (iv_w hvw (by decide)) (iv_w (iv_k (by decide) : iv 8 8 8) (by decide)) c_26
          exact hj144 hvx hvo hvw ((by have hkd : dKd D o.toNatClampNeg = 5 := KW_f hEV.1 (by unfold KW7; rw [show (gm 14 o.toNatClampNeg).toInt = (4 : Int) from (by rw [← ez_1]; exact swy 4 10 (by decide) (h_2) ez_3 c_22)]; decide); rw [hkd, MAY_5]; have k_NAME := wkn (w := w) (x := 1851878757) (j := 21) (by decide) hvw (by have := wc_24; omega); have k_VALUE := wkn (w := w) (x := 508440638821) (j := 7) (by decide) hvw (by have := wc_25; omega); have k_REF := wkz (w := w) (j := 8) (x := 7497062) hvw (by have := wc_26; omega) (by decide); omega)) _ _ _ hP hD hS (lv_sub hl [0, 1, 2] rfl)
  by_cases c_27 : (z_3 : Int32).toInt = 11
  · refine lv_tableIn (tgt := 163) hx hb dX9_mayHave_11 (by rw [c_27]; decide) (by rw [c_27]; decide) (by rw [c_27]; rfl) (by decide) ?_
    have h_28 : iv 11 11 z_3 := iv_at c_27
    refine ec_aload_n hx hb dX9_mayHave_163 rfl (lv_at hl 2 rfl) ?_
    refine cw_word (k := 21) (kx := 21) hx hb hG hS (by decide) rfl ⟨by decide, by decide⟩ hown (htb _ kw_679) dX9_mayHave_164 ?_
    refine ec_acmp_eq (tgt := 177) hx hb dX9_mayHave_167 (by decide) (fun c_29 => ?_) (fun c_29 => ?_)
    · have wc_29 : w.toInt = (21 : Int) := er_wd hG (iv_w hvw (by decide)) (iv_w (iv_k (by decide) : iv 21 21 21) (by decide)) c_29
      exact hj177 hvx hvo hvw ((by have hkd : dKd D o.toNatClampNeg = 10 := KW_f hEV.1 (by unfold KW7; rw [show (gm 14 o.toNatClampNeg).toInt = (5 : Int) from (by rw [← ez_1]; exact swy 5 11 (by decide) (h_2) ez_3 c_27)]; decide); rw [hkd, MAY_10]; have k_NAME := wkz (w := w) (j := 21) (x := 1851878757) hvw (by have := wc_29; omega) (by decide); omega)) _ _ _ hP hD hS (lv_sub hl [0, 1, 2] rfl)
    · have wc_29 : ¬ w.toInt = (21 : Int) := fun q9 => c_29 (congrArg (er (ad 33)) (Int32.toInt_inj.mp q9))
      refine ec_aload_n hx hb dX9_mayHave_170 rfl (lv_at hl 2 rfl) ?_
      refine cw_word (k := 2) (kx := 2) hx hb hG hS (by decide) rfl ⟨by decide, by decide⟩ hown (htb _ kw_674) dX9_mayHave_171 ?_
      refine ec_acmp_ne (tgt := 181) hx hb dX9_mayHave_174 (by decide) (fun c_30 => ?_) (fun c_30 => ?_)
      · have wc_30 : ¬ w.toInt = (2 : Int) := fun q9 => c_30 (congrArg (er (ad 33)) (Int32.toInt_inj.mp q9))
        refine lv_iconst (v := 0) hx hb dX9_mayHave_181 (by decide) ?_
        exact hj182 0 hvx hvo hvw (iv_w (iv_k (by decide) : iv 0 0 0) (by decide)) (Or.inr ⟨rfl, (fun q9 => by have hkd : dKd D o.toNatClampNeg = 10 := KW_f hEV.1 (by unfold KW7; rw [show (gm 14 o.toNatClampNeg).toInt = (5 : Int) from (by rw [← ez_1]; exact swy 5 11 (by decide) (h_2) ez_3 c_27)]; decide); rw [hkd, MAY_10] at q9; have k_NAME := wkn (w := w) (x := 1851878757) (j := 21) (by decide) hvw (by have := wc_29; omega); have k_BEAN := wkn (w := w) (x := 1650811246) (j := 2) (by decide) hvw (by have := wc_30; omega); omega)⟩) _ _ _ hP hD hS (lv_sub hl [0, 1, 2] rfl)
      · have wc_30 : w.toInt = (2 : Int) := er_wd hG (iv_w hvw (by decide)) (iv_w (iv_k (by decide) : iv 2 2 2) (by decide)) c_30
        exact hj177 hvx hvo hvw ((by have hkd : dKd D o.toNatClampNeg = 10 := KW_f hEV.1 (by unfold KW7; rw [show (gm 14 o.toNatClampNeg).toInt = (5 : Int) from (by rw [← ez_1]; exact swy 5 11 (by decide) (h_2) ez_3 c_27)]; decide); rw [hkd, MAY_10]; have k_NAME := wkn (w := w) (x := 1851878757) (j := 21) (by decide) hvw (by have := wc_29; omega); have k_BEAN := wkz (w := w) (j := 2) (x := 1650811246) hvw (by have := wc_30; omega) (by decide); omega)) _ _ _ hP hD hS (lv_sub hl [0, 1, 2] rfl)
  by_cases c_31 : (z_3 : Int32).toInt = 12
  · refine lv_tableIn (tgt := 183) hx hb dX9_mayHave_11 (by rw [c_31]; decide) (by rw [c_31]; decide) (by rw [c_31]; rfl) (by decide) ?_
    have h_32 : iv 12 12 z_3 := iv_at c_31
    exact hj183 hvx hvo hvw ((fun q9 => by have hkd : dKd D o.toNatClampNeg = 6 := KW_f hEV.1 (by unfold KW7; rw [show (gm 14 o.toNatClampNeg).toInt = (6 : Int) from (by rw [← ez_1]; exact swy 6 12 (by decide) (h_2) ez_3 c_31)]; decide); rw [hkd, MAY_6] at q9; exact q9)) _ _ _ hP hD hS (lv_sub hl [0, 1, 2] rfl)
  by_cases c_33 : (z_3 : Int32).toInt = 13
  · refine lv_tableIn (tgt := 183) hx hb dX9_mayHave_11 (by rw [c_33]; decide) (by rw [c_33]; decide) (by rw [c_33]; rfl) (by decide) ?_
    have h_34 : iv 13 13 z_3 := iv_at c_33
    exact hj183 hvx hvo hvw ((fun q9 => by have hkd : dKd D o.toNatClampNeg = 7 := KW_f hEV.1 (by unfold KW7; rw [show (gm 14 o.toNatClampNeg).toInt = (7 : Int) from (by rw [← ez_1]; exact swy 7 13 (by decide) (h_2) ez_3 c_33)]; decide); rw [hkd, MAY_7] at q9; exact q9)) _ _ _ hP hD hS (lv_sub hl [0, 1, 2] rfl)
  by_cases c_35 : (z_3 : Int32).toInt = 14
  · refine lv_tableIn (tgt := 150) hx hb dX9_mayHave_11 (by rw [c_35]; decide) (by rw [c_35]; decide) (by rw [c_35]; rfl) (by decide) ?_
    have h_36 : iv 14 14 z_3 := iv_at c_35
    refine ec_aload_n hx hb dX9_mayHave_150 rfl (lv_at hl 2 rfl) ?_
    refine cw_word (k := 2) (kx := 2) hx hb hG hS (by decide) rfl ⟨by decide, by decide⟩ hown (htb _ kw_674) dX9_mayHave_151 ?_
    refine ec_acmp_ne (tgt := 161) hx hb dX9_mayHave_154 (by decide) (fun c_37 => ?_) (fun c_37 => ?_)
    · have wc_37 : ¬ w.toInt = (2 : Int) := fun q9 => c_37 (congrArg (er (ad 33)) (Int32.toInt_inj.mp q9))
      refine lv_iconst (v := 0) hx hb dX9_mayHave_161 (by decide) ?_
      exact hj162 0 hvx hvo hvw (iv_w (iv_k (by decide) : iv 0 0 0) (by decide)) (Or.inr ⟨rfl, (fun q9 => by have hkd : dKd D o.toNatClampNeg = 8 := KW_f hEV.1 (by unfold KW7; rw [show (gm 14 o.toNatClampNeg).toInt = (8 : Int) from (by rw [← ez_1]; exact swy 8 14 (by decide) (h_2) ez_3 c_35)]; decide); rw [hkd, MAY_8] at q9; have k_BEAN := wkn (w := w) (x := 1650811246) (j := 2) (by decide) hvw (by have := wc_37; omega); omega)⟩) _ _ _ hP hD hS (lv_sub hl [0, 1, 2] rfl)
    · have wc_37 : w.toInt = (2 : Int) := er_wd hG (iv_w hvw (by decide)) (iv_w (iv_k (by decide) : iv 2 2 2) (by decide)) c_37
      refine lv_iconst (v := 1) hx hb dX9_mayHave_157 (by decide) ?_
      refine lv_goto (tgt := 162) hx hb dX9_mayHave_158 (by decide) ?_
      exact hj162 1 hvx hvo hvw (iv_w (iv_k (by decide) : iv 1 1 1) (by decide)) (Or.inl ⟨rfl, (by have hkd : dKd D o.toNatClampNeg = 8 := KW_f hEV.1 (by unfold KW7; rw [show (gm 14 o.toNatClampNeg).toInt = (8 : Int) from (by rw [← ez_1]; exact swy 8 14 (by decide) (h_2) ez_3 c_35)]; decide); rw [hkd, MAY_8]; have k_BEAN := wkz (w := w) (j := 2) (x := 1650811246) hvw (by have := wc_37; omega) (by decide); omega)⟩) _ _ _ hP hD hS (lv_sub hl [0, 1, 2] rfl)
  refine lv_tableOut (tgt := 183) hx hb dX9_mayHave_11 (by have q1 := (hz_3).1; have q2 := (hz_3).2; omega) (by decide) ?_
  exact hj183 hvx hvo hvw ((fun q9 => by have n2 : ¬ dKd D o.toNatClampNeg = 2 := fun q8 => absurd (KW_j (q8 ▸ hEV.1 : KW7 (gm 14 o.toNatClampNeg).toInt 2) (by decide)) (by rw [show wkF 2 = 1 by decide]; have n9 := swx (y := z_1) 1 7 (by decide) (h_2) ez_3 (by omega); rw [ez_1] at n9; exact n9); have n3 : ¬ dKd D o.toNatClampNeg = 3 := fun q8 => absurd (KW_j (q8 ▸ hEV.1 : KW7 (gm 14 o.toNatClampNeg).toInt 3) (by decide)) (by rw [show wkF 3 = 2 by decide]; have n9 := swx (y := z_1) 2 8 (by decide) (h_2) ez_3 (by omega); rw [ez_1] at n9; exact n9); have n4 : ¬ dKd D o.toNatClampNeg = 4 := fun q8 => absurd (KW_j (q8 ▸ hEV.1 : KW7 (gm 14 o.toNatClampNeg).toInt 4) (by decide)) (by rw [show wkF 4 = 3 by decide]; have n9 := swx (y := z_1) 3 9 (by decide) (h_2) ez_3 (by omega); rw [ez_1] at n9; exact n9); have n5 : ¬ dKd D o.toNatClampNeg = 5 := fun q8 => absurd (KW_j (q8 ▸ hEV.1 : KW7 (gm 14 o.toNatClampNeg).toInt 5) (by decide)) (by rw [show wkF 5 = 4 by decide]; have n9 := swx (y := z_1) 4 10 (by decide) (h_2) ez_3 (by omega); rw [ez_1] at n9; exact n9); have n10 : ¬ dKd D o.toNatClampNeg = 10 := fun q8 => absurd (KW_j (q8 ▸ hEV.1 : KW7 (gm 14 o.toNatClampNeg).toInt 10) (by decide)) (by rw [show wkF 10 = 5 by decide]; have n9 := swx (y := z_1) 5 11 (by decide) (h_2) ez_3 (by omega); rw [ez_1] at n9; exact n9); have n8 : ¬ dKd D o.toNatClampNeg = 8 := fun q8 => absurd (KW_j (q8 ▸ hEV.1 : KW7 (gm 14 o.toNatClampNeg).toInt 8) (by decide)) (by rw [show wkF 8 = 8 by decide]; have n9 := swx (y := z_1) 8 14 (by decide) (h_2) ez_3 (by omega); rw [ez_1] at n9; exact n9); unfold MAY at q9; omega)) _ _ _ hP hD hS (lv_sub hl [0, 1, 2] rfl)
end
section
set_option maxHeartbeats 4000000 in
set_option maxRecDepth 100000 in
theorem d_hasRightValue2 (l : Launch) (dC : Nat → ClassId) (dI : Nat → Nat → Nat) (ad : Nat → Nat → Nat) (cid : Nat → ClassId) (a2 : Nat → Nat) (lx : List Nat) (sg : Nat → Int32) (gm : Nat → Nat → Int32) (lg : Nat → Nat → Int64) (x : Int32) (o : Int32) (w : Int32) (D : List El7) (hI : CI sg gm) (hvx : iv 0 0 x) (hvo : iv 0 79 o) (hvw : iv 0 33 w) (hFA : FA sg gm) (how : o.toInt < (sg 4).toInt) (hVS : VS sg gm) (hw0 : 0 ≤ (gm 14 o.toNatClampNeg).toInt) (hEV : EV7 D sg gm lg o.toNatClampNeg) (hPA : PA7 (dAt D o.toNatClampNeg)) (hMK : MK7 (wKy.getD w.toNatClampNeg 0).toInt) : CMt dC dI ad cid a2 lx l yX9_hasRightValue wm_X9_hasRightValue ({ frames := 3, cells := 1, slots := 6, locals := 75 }) [eV (ad 3) x, eV (ad 9) o, eV (ad 33) w] sg gm lg (fun v u => ∃ r : Int32, v = some (.int r) ∧ u = (sg, gm, lg) ∧ (iv 0 1 r) ∧ ((r.toInt = 1 ∧ (RVL (dKd D o.toNatClampNeg) (dAt D o.toNatClampNeg) (wKy.getD w.toNatClampNeg 0))) ∨ (r.toInt = 0 ∧ ¬ (RVL (dKd D o.toNatClampNeg) (dAt D o.toNatClampNeg) (wKy.getD w.toNatClampNeg 0))))) (fun _ _ => False) := by
  intro sz
  refine vx_ofW (cc := cX9_hasRightValue) (maxL := 3) (ret := (some .boolean)) (by decide) rfl ?_
  intro p e s m args below meth c s₁ B hml hxt hv
  obtain ⟨rfl, hsz, hP, hK, hD0, hG⟩ := hv
  have hx := B.exec
  have hb := B.bytes
  have hr := B.returns
  have hts := atoms_spec (ws := wm_X9_hasRightValue) B.pre
  have htb := fun (w : Cond) (h : w ∈ tb) => hts w (List.mem_cons_of_mem _ h)
  have hown : s.vm.findClass RX9 = some m.cls := findClass_of_methodNamed B.named
  have hlocks := B.notSynchronized
  subst hsz
  have hD := hD0.self (sz := s.heap.size)
  generalize hAe : va_A (cW ad cid a2 lx sg gm lg) s.heap.size = A at hD hG ⊢
  have hA : ∀ q : Nat, s.heap.size ≤ q → A q := fun q h => by rw [← hAe]; exact Or.inr h
  have hS : va_S A s.heap s.heap [] := va_S.rf
  have hl := lv_entry ([eV (ad 3) x, eV (ad 9) o, eV (ad 33) w]) (n := 3) (by rw [show (lg_sl ([eV (ad 3) x, eV (ad 9) o, eV (ad 33) w])).length = 3 from by simp [lg_sl, eV_cat, cat_i, cat_l]]; exact Nat.le_of_ble_eq_true rfl)
  rw [lg_entry_eq]
  generalize (lg_sl ([eV (ad 3) x, eV (ad 9) o, eV (ad 33) w]) ++ List.replicate (3 - (lg_sl ([eV (ad 3) x, eV (ad 9) o, eV (ad 33) w])).length) Slot.unset).toArray = ls at hl ⊢
  have hl : lv_has ls 3 [(0, eV (ad 3) x), (1, eV (ad 9) o), (2, eV (ad 33) w)] := by simp [lv_args, eV_cat, cat_i, cat_l] at hl; exact hl
  have hj312 : ∀ (y0_312 : Int32) (_ : iv 0 0 x) (_ : iv 0 79 o) (_ : iv 0 33 w) (_ : iv 0 1 y0_312) (_ : (y0_312.toInt = 1 ∧ (RVL (dKd D o.toNatClampNeg) (dAt D o.toNatClampNeg) (wKy.getD w.toNatClampNeg 0))) ∨ (y0_312.toInt = 0 ∧ ¬ (RVL (dKd D o.toNatClampNeg) (dAt D o.toNatClampNeg) (wKy.getD w.toNatClampNeg 0)))) (H : Heap) (locs : List Loc) (ls : Array Slot), va_P (dC, dI) vwCl (cW ad cid a2 lx sg gm lg) H → va_D A (cW ad cid a2 lx sg gm lg) → va_S A s.heap H locs → lv_has ls 3 [(0, eV (ad 3) x), (1, eV (ad 9) o), (2, eV (ad 33) w)] → W p l e (headSpec wm_X9_hasRightValue ({ frames := 3, cells := 1, slots := 6, locals := 75 })).room s m ([eV (ad 3) x, eV (ad 9) o, eV (ad 33) w] : List Value).toArray below meth c H locs 0 0 (vx_MQ below (cQx dC dI ad cid a2 lx (fun v u => ∃ r : Int32, v = some (.int r) ∧ u = (sg, gm, lg) ∧ (iv 0 1 r) ∧ ((r.toInt = 1 ∧ (RVL (dKd D o.toNatClampNeg) (dAt D o.toNatClampNeg) (wKy.getD w.toNatClampNeg 0))) ∨ (r.toInt = 0 ∧ ¬ (RVL (dKd D o.toNatClampNeg) (dAt D o.toNatClampNeg) (wKy.getD w.toNatClampNeg 0))))) A) (cX dC dI ad cid a2 lx (fun _ _ => False) A) ([eV (ad 3) x, eV (ad 9) o, eV (ad 33) w] : List Value).toArray s 1 6 A) (F0 m 312 ls [.int y0_312]) := by
    intro y0_312 hsx0_312 hsx1_312 hsx2_312 hy0_312 u312 H locs ls hP hD hS hl
    exact W.nb (fun hN => W.widen (k := 1) (n := 6) (by decide) (by decide) (vx_ret (W.zret (v := y0_312) hx hb hr (iv_nb hy0_312) (fun t ht hW => ⟨⟨some (.int y0_312), (sg, gm, lg), rfl, ⟨y0_312, rfl, rfl, hy0_312, (u312)⟩, by rw [ht]; exact hP, va_K.moved hW.alike hK, hD⟩, hS.F ht, by rw [ht]; exact hN⟩) hS.2.2 dX9_hasRightValue_312)))
  have hj293 : ∀ (_ : iv 0 0 x) (_ : iv 0 79 o) (_ : iv 0 33 w) (_ : (wKy.getD w.toNatClampNeg 0).toInt = 26980 ∨ (wKy.getD w.toNatClampNeg 0).toInt = 123563833388660 ∨ (wKy.getD w.toNatClampNeg 0).toInt = 28817527407604345 ∨ (wKy.getD w.toNatClampNeg 0).toInt = 28259031083541619 ∨ (wKy.getD w.toNatClampNeg 0).toInt = 29807 ∨ (wKy.getD w.toNatClampNeg 0).toInt = 7497062 ∨ (wKy.getD w.toNatClampNeg 0).toInt = 1650811246) (H : Heap) (locs : List Loc) (ls : Array Slot), va_P (dC, dI) vwCl (cW ad cid a2 lx sg gm lg) H → va_D A (cW ad cid a2 lx sg gm lg) → va_S A s.heap H locs → lv_has ls 3 [(0, eV (ad 3) x), (1, eV (ad 9) o), (2, eV (ad 33) w)] → W p l e (headSpec wm_X9_hasRightValue ({ frames := 3, cells := 1, slots := 6, locals := 75 })).room s m ([eV (ad 3) x, eV (ad 9) o, eV (ad 33) w] : List Value).toArray below meth c H locs 0 0 (vx_MQ below (cQx dC dI ad cid a2 lx (fun v u => ∃ r : Int32, v = some (.int r) ∧ u = (sg, gm, lg) ∧ (iv 0 1 r) ∧ ((r.toInt = 1 ∧ (RVL (dKd D o.toNatClampNeg) (dAt D o.toNatClampNeg) (wKy.getD w.toNatClampNeg 0))) ∨ (r.toInt = 0 ∧ ¬ (RVL (dKd D o.toNatClampNeg) (dAt D o.toNatClampNeg) (wKy.getD w.toNatClampNeg 0))))) A) (cX dC dI ad cid a2 lx (fun _ _ => False) A) ([eV (ad 3) x, eV (ad 9) o, eV (ad 33) w] : List Value).toArray s 1 6 A) (F0 m 293 ls []) := by
    intro  hsx0_293 hsx1_293 hsx2_293 uK H locs ls hP hD hS hl
    refine ec_aload_n hx hb dX9_hasRightValue_293 rfl (lv_at hl 0 rfl) ?_
    refine cr_get (t := 3) (j := 0) (C := RX9) (T := TX9) (N := 1) (v := eV (ad 1) 0) hx hb htb inX9 hown hK hP hsx0_293 (by decide) (by decide) (by decide) rfl (by decide) (htb _ kw_323) (cV_c rfl (by decide) (by rw [show cMu 3 0 = 0 from rfl, Nat.zero_mul]; rfl)) dX9_hasRightValue_294 ?_
    refine ec_aload_n hx hb dX9_hasRightValue_297 rfl (lv_at hl 1 rfl) ?_
    refine ec_aload_n hx hb dX9_hasRightValue_298 rfl (lv_at hl 2 rfl) ?_
    refine cm_callV (t := 1) (C := RX6) (T := TX6) (N := 8) (rest := []) (as := [eV (ad 9) o, eV (ad 33) w]) ⟨hx, hb, hml, hown, htb⟩ (d_nameValue3 l dC dI ad cid a2 lx sg gm lg 0 o w (dAt D o.toNatClampNeg) hI (iv_k (by decide) : iv 0 0 0) hsx1_293 hsx2_293 hFA how hVS hEV.2.1) (cwV 2 htb (gd_V kw_707 kw_708 kw_709 kw_149 kw_1482) rfl rfl rfl (by decide +kernel) ⟨Nat.le_of_ble_eq_true rfl, Nat.le_of_ble_eq_true rfl⟩) (iv_k (by decide) : iv 0 0 0) (by decide) (by decide) rfl rfl hl.1 rfl (Nat.le_trans cs_n (by decide)) dX9_hasRightValue_299 ⟨Nat.le_of_ble_eq_true rfl, Nat.le_of_ble_eq_true rfl⟩ hK hP hD hS hA hG (fun E ce q9 u_2 H locs hw hP hD hS hce hcv hcl => ?_) (fun v9 u_2 H locs hw hP hD hS => ?_)
    · exact hw.elim
    obtain ⟨r_1, rfl, rfl, fN_r_1, fZ_r_1⟩ := hw
    have hP : va_P (dC, dI) vwCl (cW ad cid a2 lx sg gm lg) H := hP
    have hD : va_D A (cW ad cid a2 lx sg gm lg) := hD
    refine W.eq (g2 := F0 m 302 ls [.long r_1]) rfl ?_
    refine lv_lconst (v := 0) hx hb dX9_hasRightValue_302 (by decide) ?_
    refine W.lcmp hx hb dX9_hasRightValue_303 ?_
    refine lv_topi (fun z_4 ez_4 => ?_)
    have hz_4 : iv (-1) 1 z_4 := iv_of ez_4 (iv_cmp _ _)
    refine lv_if_eq (tgt := 311) hx hb dX9_hasRightValue_304 (by decide) (fun c_5 => ?_) (fun c_5 => ?_)
    · have h_6 : iv 0 0 z_4 := iv_eq c_5 hz_4 (iv_k (by decide) : iv 0 0 0) (by decide)
      refine lv_iconst (v := 0) hx hb dX9_hasRightValue_311 (by decide) ?_
      exact hj312 0 hsx0_293 hsx1_293 hsx2_293 (iv_w (iv_k (by decide) : iv 0 0 0) (by decide)) (Or.inr ⟨rfl, fun q9 => (rvg_W hPA uK).mp q9 (by rw [← fN_r_1]; exact (lg_cmp_eq _ _).mp (by rw [← ez_4]; exact c_5))⟩) _ _ _ hP hD hS (lv_sub hl [0, 1, 2] rfl)
    · have d_7 : ¬ (z_4 : Int32).toInt = 0 := lv_neT c_5 rfl
      refine lv_iconst (v := 1) hx hb dX9_hasRightValue_307 (by decide) ?_
      refine lv_goto (tgt := 312) hx hb dX9_hasRightValue_308 (by decide) ?_
      exact hj312 1 hsx0_293 hsx1_293 hsx2_293 (iv_w (iv_k (by decide) : iv 1 1 1) (by decide)) (Or.inl ⟨rfl, (rvg_W hPA uK).mpr (fun q9 => c_5 (by rw [ez_4, fN_r_1, q9]; exact (lg_cmp_eq _ _).mpr rfl))⟩) _ _ _ hP hD hS (lv_sub hl [0, 1, 2] rfl)
  have hj197 : ∀ (y0_197 : Int32) (_ : iv 0 0 x) (_ : iv 0 79 o) (_ : iv 0 33 w) (_ : iv 0 1 y0_197) (_ : (y0_197.toInt = 1 ∧ (RVL (dKd D o.toNatClampNeg) (dAt D o.toNatClampNeg) (wKy.getD w.toNatClampNeg 0))) ∨ (y0_197.toInt = 0 ∧ ¬ (RVL (dKd D o.toNatClampNeg) (dAt D o.toNatClampNeg) (wKy.getD w.toNatClampNeg 0)))) (H : Heap) (locs : List Loc) (ls : Array Slot), va_P (dC, dI) vwCl (cW ad cid a2 lx sg gm lg) H → va_D A (cW ad cid a2 lx sg gm lg) → va_S A s.heap H locs → lv_has ls 3 [(0, eV (ad 3) x), (1, eV (ad 9) o), (2, eV (ad 33) w)] → W p l e (headSpec wm_X9_hasRightValue ({ frames := 3, cells := 1, slots := 6, locals := 75 })).room s m ([eV (ad 3) x, eV (ad 9) o, eV (ad 33) w] : List Value).toArray below meth c H locs 0 0 (vx_MQ below (cQx dC dI ad cid a2 lx (fun v u => ∃ r : Int32, v = some (.int r) ∧ u = (sg, gm, lg) ∧ (iv 0 1 r) ∧ ((r.toInt = 1 ∧ (RVL (dKd D o.toNatClampNeg) (dAt D o.toNatClampNeg) (wKy.getD w.toNatClampNeg 0))) ∨ (r.toInt = 0 ∧ ¬ (RVL (dKd D o.toNatClampNeg) (dAt D o.toNatClampNeg) (wKy.getD w.toNatClampNeg 0))))) A) (cX dC dI ad cid a2 lx (fun _ _ => False) A) ([eV (ad 3) x, eV (ad 9) o, eV (ad 33) w] : List Value).toArray s 1 6 A) (F0 m 197 ls [.int y0_197]) := by
    intro y0_197 hsx0_197 hsx1_197 hsx2_197 hy0_197 u197 H locs ls hP hD hS hl
    exact W.nb (fun hN => W.widen (k := 1) (n := 6) (by decide) (by decide) (vx_ret (W.zret (v := y0_197) hx hb hr (iv_nb hy0_197) (fun t ht hW => ⟨⟨some (.int y0_197), (sg, gm, lg), rfl, ⟨y0_197, rfl, rfl, hy0_197, (u197)⟩, by rw [ht]; exact hP, va_K.moved hW.alike hK, hD⟩, hS.F ht, by rw [ht]; exact hN⟩) hS.2.2 dX9_hasRightValue_197)))
  have hj192 : ∀ (_ : iv 0 0 x) (_ : iv 0 79 o) (_ : iv 0 33 w) (_ : RVL (dKd D o.toNatClampNeg) (dAt D o.toNatClampNeg) (wKy.getD w.toNatClampNeg 0)) (H : Heap) (locs : List Loc) (ls : Array Slot), va_P (dC, dI) vwCl (cW ad cid a2 lx sg gm lg) H → va_D A (cW ad cid a2 lx sg gm lg) → va_S A s.heap H locs → lv_has ls 3 [(0, eV (ad 3) x), (1, eV (ad 9) o), (2, eV (ad 33) w)] → W p l e (headSpec wm_X9_hasRightValue ({ frames := 3, cells := 1, slots := 6, locals := 75 })).room s m ([eV (ad 3) x, eV (ad 9) o, eV (ad 33) w] : List Value).toArray below meth c H locs 0 0 (vx_MQ below (cQx dC dI ad cid a2 lx (fun v u => ∃ r : Int32, v = some (.int r) ∧ u = (sg, gm, lg) ∧ (iv 0 1 r) ∧ ((r.toInt = 1 ∧ (RVL (dKd D o.toNatClampNeg) (dAt D o.toNatClampNeg) (wKy.getD w.toNatClampNeg 0))) ∨ (r.toInt = 0 ∧ ¬ (RVL (dKd D o.toNatClampNeg) (dAt D o.toNatClampNeg) (wKy.getD w.toNatClampNeg 0))))) A) (cX dC dI ad cid a2 lx (fun _ _ => False) A) ([eV (ad 3) x, eV (ad 9) o, eV (ad 33) w] : List Value).toArray s 1 6 A) (F0 m 192 ls []) := by
    intro  hsx0_192 hsx1_192 hsx2_192 u192 H locs ls hP hD hS hl
    refine lv_iconst (v := 1) hx hb dX9_hasRightValue_192 (by decide) ?_
    refine lv_goto (tgt := 197) hx hb dX9_hasRightValue_193 (by decide) ?_
    exact hj197 1 hsx0_192 hsx1_192 hsx2_192 (iv_w (iv_k (by decide) : iv 1 1 1) (by decide)) (Or.inl ⟨rfl, u192⟩) _ _ _ hP hD hS (lv_sub hl [0, 1, 2] rfl)
  have hj162 : ∀ (_ : iv 0 0 x) (_ : iv 0 79 o) (_ : iv 0 33 w) (_ : (wKy.getD w.toNatClampNeg 0).toInt = 7017298113369039732 ∨ (wKy.getD w.toNatClampNeg 0).toInt = 1818327673) (H : Heap) (locs : List Loc) (ls : Array Slot), va_P (dC, dI) vwCl (cW ad cid a2 lx sg gm lg) H → va_D A (cW ad cid a2 lx sg gm lg) → va_S A s.heap H locs → lv_has ls 3 [(0, eV (ad 3) x), (1, eV (ad 9) o), (2, eV (ad 33) w)] → W p l e (headSpec wm_X9_hasRightValue ({ frames := 3, cells := 1, slots := 6, locals := 75 })).room s m ([eV (ad 3) x, eV (ad 9) o, eV (ad 33) w] : List Value).toArray below meth c H locs 0 0 (vx_MQ below (cQx dC dI ad cid a2 lx (fun v u => ∃ r : Int32, v = some (.int r) ∧ u = (sg, gm, lg) ∧ (iv 0 1 r) ∧ ((r.toInt = 1 ∧ (RVL (dKd D o.toNatClampNeg) (dAt D o.toNatClampNeg) (wKy.getD w.toNatClampNeg 0))) ∨ (r.toInt = 0 ∧ ¬ (RVL (dKd D o.toNatClampNeg) (dAt D o.toNatClampNeg) (wKy.getD w.toNatClampNeg 0))))) A) (cX dC dI ad cid a2 lx (fun _ _ => False) A) ([eV (ad 3) x, eV (ad 9) o, eV (ad 33) w] : List Value).toArray s 1 6 A) (F0 m 162 ls []) := by
    intro  hsx0_162 hsx1_162 hsx2_162 uK H locs ls hP hD hS hl
    refine ec_aload_n hx hb dX9_hasRightValue_162 rfl (lv_at hl 0 rfl) ?_
    refine cr_get (t := 3) (j := 0) (C := RX9) (T := TX9) (N := 1) (v := eV (ad 1) 0) hx hb htb inX9 hown hK hP hsx0_162 (by decide) (by decide) (by decide) rfl (by decide) (htb _ kw_323) (cV_c rfl (by decide) (by rw [show cMu 3 0 = 0 from rfl, Nat.zero_mul]; rfl)) dX9_hasRightValue_163 ?_
    refine ec_aload_n hx hb dX9_hasRightValue_166 rfl (lv_at hl 1 rfl) ?_
    refine ec_aload_n hx hb dX9_hasRightValue_167 rfl (lv_at hl 2 rfl) ?_
    refine cw_word (k := 25) (kx := 25) hx hb hG hS (by decide) rfl ⟨by decide, by decide⟩ hown (htb _ kw_713) dX9_hasRightValue_168 ?_
    refine cm_callV (t := 1) (C := RX6) (T := TX6) (N := 8) (rest := []) (as := [eV (ad 9) o, eV (ad 33) w, eV (ad 33) 25]) ⟨hx, hb, hml, hown, htb⟩ (d_valueIs2 l dC dI ad cid a2 lx sg gm lg 0 o w 25 (dAt D o.toNatClampNeg) hI (iv_k (by decide) : iv 0 0 0) hsx1_162 hsx2_162 (iv_w (iv_k (by decide) : iv 25 25 25) (by decide)) hFA how hVS hEV.2.1) (cwV 3 htb (gd_V kw_714 kw_715 kw_716 kw_149 kw_1484) rfl rfl rfl (by decide +kernel) ⟨Nat.le_of_ble_eq_true rfl, Nat.le_of_ble_eq_true rfl⟩) (iv_k (by decide) : iv 0 0 0) (by decide) (by decide) rfl rfl hl.1 rfl (Nat.le_trans cs_n (by decide)) dX9_hasRightValue_171 ⟨Nat.le_of_ble_eq_true rfl, Nat.le_of_ble_eq_true rfl⟩ hK hP hD hS hA hG (fun E ce q9 u_9 H locs hw hP hD hS hce hcv hcl => ?_) (fun v9 u_9 H locs hw hP hD hS => ?_)
    · exact hw.elim
    obtain ⟨r_8, rfl, rfl, hr_8, fV_r_8⟩ := hw
    have hP : va_P (dC, dI) vwCl (cW ad cid a2 lx sg gm lg) H := hP
    have hD : va_D A (cW ad cid a2 lx sg gm lg) := hD
    refine W.eq (g2 := F0 m 174 ls [.int r_8]) rfl ?_
    refine lv_if_ne (tgt := 192) hx hb dX9_hasRightValue_174 (by decide) (fun c_11 => ?_) (fun c_11 => ?_)
    · have h_12 : iv 1 1 r_8 := iv_neL c_11 hr_8 (by decide)
      exact hj192 hsx0_162 hsx1_162 hsx2_162 ((rvg_Y hPA uK).mpr (Or.inl (fV_r_8.resolve_right (fun q8 => absurd q8.1 (by have := i32_0; have := i32_1; have := i32_2; have := i32_m1; have := (hsx0_162).1; have := (hsx0_162).2; have := (hsx1_162).1; have := (hsx1_162).2; have := (hsx2_162).1; have := (hsx2_162).2; have := (h_12).1; have := (h_12).2; omega))).2)) _ _ _ hP hD hS (lv_sub hl [0, 1, 2] rfl)
    · have h_13 : iv 0 0 r_8 := iv_eq c_11 hr_8 (iv_k (by decide) : iv 0 0 0) (by decide)
      refine ec_aload_n hx hb dX9_hasRightValue_177 rfl (lv_at hl 0 rfl) ?_
      refine cr_get (t := 3) (j := 0) (C := RX9) (T := TX9) (N := 1) (v := eV (ad 1) 0) hx hb htb inX9 hown hK hP hsx0_162 (by decide) (by decide) (by decide) rfl (by decide) (htb _ kw_323) (cV_c rfl (by decide) (by rw [show cMu 3 0 = 0 from rfl, Nat.zero_mul]; rfl)) dX9_hasRightValue_178 ?_
      refine ec_aload_n hx hb dX9_hasRightValue_181 rfl (lv_at hl 1 rfl) ?_
      refine ec_aload_n hx hb dX9_hasRightValue_182 rfl (lv_at hl 2 rfl) ?_
      refine cw_word (k := 26) (kx := 26) hx hb hG hS (by decide) rfl ⟨by decide, by decide⟩ hown (htb _ kw_718) dX9_hasRightValue_183 ?_
      refine cm_callV (t := 1) (C := RX6) (T := TX6) (N := 8) (rest := []) (as := [eV (ad 9) o, eV (ad 33) w, eV (ad 33) 26]) ⟨hx, hb, hml, hown, htb⟩ (d_valueIs2 l dC dI ad cid a2 lx sg gm lg 0 o w 26 (dAt D o.toNatClampNeg) hI (iv_k (by decide) : iv 0 0 0) hsx1_162 hsx2_162 (iv_w (iv_k (by decide) : iv 26 26 26) (by decide)) hFA how hVS hEV.2.1) (cwV 3 htb (gd_V kw_714 kw_715 kw_716 kw_149 kw_1484) rfl rfl rfl (by decide +kernel) ⟨Nat.le_of_ble_eq_true rfl, Nat.le_of_ble_eq_true rfl⟩) (iv_k (by decide) : iv 0 0 0) (by decide) (by decide) rfl rfl hl.1 rfl (Nat.le_trans cs_n (by decide)) dX9_hasRightValue_186 ⟨Nat.le_of_ble_eq_true rfl, Nat.le_of_ble_eq_true rfl⟩ hK hP hD hS hA hG (fun E ce q9 u_15 H locs hw hP hD hS hce hcv hcl => ?_) (fun v9 u_15 H locs hw hP hD hS => ?_)
      · exact hw.elim
      obtain ⟨r_14, rfl, rfl, hr_14, fV_r_14⟩ := hw
      have hP : va_P (dC, dI) vwCl (cW ad cid a2 lx sg gm lg) H := hP
      have hD : va_D A (cW ad cid a2 lx sg gm lg) := hD
      refine W.eq (g2 := F0 m 189 ls [.int r_14]) rfl ?_
      refine lv_if_eq (tgt := 196) hx hb dX9_hasRightValue_189 (by decide) (fun c_17 => ?_) (fun c_17 => ?_)
      · have h_18 : iv 0 0 r_14 := iv_eq c_17 hr_14 (iv_k (by decide) : iv 0 0 0) (by decide)
        refine lv_iconst (v := 0) hx hb dX9_hasRightValue_196 (by decide) ?_
        exact hj197 0 hsx0_162 hsx1_162 hsx2_162 (iv_w (iv_k (by decide) : iv 0 0 0) (by decide)) (Or.inr ⟨rfl, fun q9 => ((rvg_Y hPA uK).mp q9).elim (fV_r_8.resolve_left (fun q8 => absurd q8.1 (by have := i32_0; have := i32_1; have := i32_2; have := i32_m1; have := (hsx0_162).1; have := (hsx0_162).2; have := (hsx1_162).1; have := (hsx1_162).2; have := (hsx2_162).1; have := (hsx2_162).2; have := (h_13).1; have := (h_13).2; have := (h_18).1; have := (h_18).2; omega))).2 (fV_r_14.resolve_left (fun q8 => absurd q8.1 (by have := i32_0; have := i32_1; have := i32_2; have := i32_m1; have := (hsx0_162).1; have := (hsx0_162).2; have := (hsx1_162).1; have := (hsx1_162).2; have := (hsx2_162).1; have := (hsx2_162).2; have := (h_13).1; have := (h_13).2; have := (h_18).1; have := (h_18).2; omega))).2⟩) _ _ _ hP hD hS (lv_sub hl [0, 1, 2] rfl)
      · have h_19 : iv 1 1 r_14 := iv_neL c_17 hr_14 (by decide)
        exact hj192 hsx0_162 hsx1_162 hsx2_162 ((rvg_Y hPA uK).mpr (Or.inr (fV_r_14.resolve_right (fun q8 => absurd q8.1 (by have := i32_0; have := i32_1; have := i32_2; have := i32_m1; have := (hsx0_162).1; have := (hsx0_162).2; have := (hsx1_162).1; have := (hsx1_162).2; have := (hsx2_162).1; have := (hsx2_162).2; have := (h_13).1; have := (h_13).2; have := (h_19).1; have := (h_19).2; omega))).2)) _ _ _ hP hD hS (lv_sub hl [0, 1, 2] rfl)
  have hj161 : ∀ (y0_161 : Int32) (_ : iv 0 0 x) (_ : iv 0 79 o) (_ : iv 0 33 w) (_ : iv 0 1 y0_161) (_ : (y0_161.toInt = 1 ∧ (RVL (dKd D o.toNatClampNeg) (dAt D o.toNatClampNeg) (wKy.getD w.toNatClampNeg 0))) ∨ (y0_161.toInt = 0 ∧ ¬ (RVL (dKd D o.toNatClampNeg) (dAt D o.toNatClampNeg) (wKy.getD w.toNatClampNeg 0)))) (H : Heap) (locs : List Loc) (ls : Array Slot), va_P (dC, dI) vwCl (cW ad cid a2 lx sg gm lg) H → va_D A (cW ad cid a2 lx sg gm lg) → va_S A s.heap H locs → lv_has ls 3 [(0, eV (ad 3) x), (1, eV (ad 9) o), (2, eV (ad 33) w)] → W p l e (headSpec wm_X9_hasRightValue ({ frames := 3, cells := 1, slots := 6, locals := 75 })).room s m ([eV (ad 3) x, eV (ad 9) o, eV (ad 33) w] : List Value).toArray below meth c H locs 0 0 (vx_MQ below (cQx dC dI ad cid a2 lx (fun v u => ∃ r : Int32, v = some (.int r) ∧ u = (sg, gm, lg) ∧ (iv 0 1 r) ∧ ((r.toInt = 1 ∧ (RVL (dKd D o.toNatClampNeg) (dAt D o.toNatClampNeg) (wKy.getD w.toNatClampNeg 0))) ∨ (r.toInt = 0 ∧ ¬ (RVL (dKd D o.toNatClampNeg) (dAt D o.toNatClampNeg) (wKy.getD w.toNatClampNeg 0))))) A) (cX dC dI ad cid a2 lx (fun _ _ => False) A) ([eV (ad 3) x, eV (ad 9) o, eV (ad 33) w] : List Value).toArray s 1 6 A) (F0 m 161 ls [.int y0_161]) := by
    intro y0_161 hsx0_161 hsx1_161 hsx2_161 hy0_161 u161 H locs ls hP hD hS hl
    exact W.nb (fun hN => W.widen (k := 1) (n := 6) (by decide) (by decide) (vx_ret (W.zret (v := y0_161) hx hb hr (iv_nb hy0_161) (fun t ht hW => ⟨⟨some (.int y0_161), (sg, gm, lg), rfl, ⟨y0_161, rfl, rfl, hy0_161, (u161)⟩, by rw [ht]; exact hP, va_K.moved hW.alike hK, hD⟩, hS.F ht, by rw [ht]; exact hN⟩) hS.2.2 dX9_hasRightValue_161)))
  have hj233 : ∀ (y0_233 : Int32) (_ : iv 0 0 x) (_ : iv 0 79 o) (_ : iv 0 33 w) (_ : iv 0 1 y0_233) (_ : (y0_233.toInt = 1 ∧ (RVL (dKd D o.toNatClampNeg) (dAt D o.toNatClampNeg) (wKy.getD w.toNatClampNeg 0))) ∨ (y0_233.toInt = 0 ∧ ¬ (RVL (dKd D o.toNatClampNeg) (dAt D o.toNatClampNeg) (wKy.getD w.toNatClampNeg 0)))) (H : Heap) (locs : List Loc) (ls : Array Slot), va_P (dC, dI) vwCl (cW ad cid a2 lx sg gm lg) H → va_D A (cW ad cid a2 lx sg gm lg) → va_S A s.heap H locs → lv_has ls 3 [(0, eV (ad 3) x), (1, eV (ad 9) o), (2, eV (ad 33) w)] → W p l e (headSpec wm_X9_hasRightValue ({ frames := 3, cells := 1, slots := 6, locals := 75 })).room s m ([eV (ad 3) x, eV (ad 9) o, eV (ad 33) w] : List Value).toArray below meth c H locs 0 0 (vx_MQ below (cQx dC dI ad cid a2 lx (fun v u => ∃ r : Int32, v = some (.int r) ∧ u = (sg, gm, lg) ∧ (iv 0 1 r) ∧ ((r.toInt = 1 ∧ (RVL (dKd D o.toNatClampNeg) (dAt D o.toNatClampNeg) (wKy.getD w.toNatClampNeg 0))) ∨ (r.toInt = 0 ∧ ¬ (RVL (dKd D o.toNatClampNeg) (dAt D o.toNatClampNeg) (wKy.getD w.toNatClampNeg 0))))) A) (cX dC dI ad cid a2 lx (fun _ _ => False) A) ([eV (ad 3) x, eV (ad 9) o, eV (ad 33) w] : List Value).toArray s 1 6 A) (F0 m 233 ls [.int y0_233]) := by
    intro y0_233 hsx0_233 hsx1_233 hsx2_233 hy0_233 u233 H locs ls hP hD hS hl
    exact W.nb (fun hN => W.widen (k := 1) (n := 6) (by decide) (by decide) (vx_ret (W.zret (v := y0_233) hx hb hr (iv_nb hy0_233) (fun t ht hW => ⟨⟨some (.int y0_233), (sg, gm, lg), rfl, ⟨y0_233, rfl, rfl, hy0_233, (u233)⟩, by rw [ht]; exact hP, va_K.moved hW.alike hK, hD⟩, hS.F ht, by rw [ht]; exact hN⟩) hS.2.2 dX9_hasRightValue_233)))
  have hj228 : ∀ (_ : iv 0 0 x) (_ : iv 0 79 o) (_ : iv 0 33 w) (_ : RVL (dKd D o.toNatClampNeg) (dAt D o.toNatClampNeg) (wKy.getD w.toNatClampNeg 0)) (H : Heap) (locs : List Loc) (ls : Array Slot), va_P (dC, dI) vwCl (cW ad cid a2 lx sg gm lg) H → va_D A (cW ad cid a2 lx sg gm lg) → va_S A s.heap H locs → lv_has ls 3 [(0, eV (ad 3) x), (1, eV (ad 9) o), (2, eV (ad 33) w)] → W p l e (headSpec wm_X9_hasRightValue ({ frames := 3, cells := 1, slots := 6, locals := 75 })).room s m ([eV (ad 3) x, eV (ad 9) o, eV (ad 33) w] : List Value).toArray below meth c H locs 0 0 (vx_MQ below (cQx dC dI ad cid a2 lx (fun v u => ∃ r : Int32, v = some (.int r) ∧ u = (sg, gm, lg) ∧ (iv 0 1 r) ∧ ((r.toInt = 1 ∧ (RVL (dKd D o.toNatClampNeg) (dAt D o.toNatClampNeg) (wKy.getD w.toNatClampNeg 0))) ∨ (r.toInt = 0 ∧ ¬ (RVL (dKd D o.toNatClampNeg) (dAt D o.toNatClampNeg) (wKy.getD w.toNatClampNeg 0))))) A) (cX dC dI ad cid a2 lx (fun _ _ => False) A) ([eV (ad 3) x, eV (ad 9) o, eV (ad 33) w] : List Value).toArray s 1 6 A) (F0 m 228 ls []) := by
    intro  hsx0_228 hsx1_228 hsx2_228 u228 H locs ls hP hD hS hl
    refine lv_iconst (v := 1) hx hb dX9_hasRightValue_228 (by decide) ?_
    refine lv_goto (tgt := 233) hx hb dX9_hasRightValue_229 (by decide) ?_
    exact hj233 1 hsx0_228 hsx1_228 hsx2_228 (iv_w (iv_k (by decide) : iv 1 1 1) (by decide)) (Or.inl ⟨rfl, u228⟩) _ _ _ hP hD hS (lv_sub hl [0, 1, 2] rfl)
  have hj252 : ∀ (y0_252 : Int32) (_ : iv 0 0 x) (_ : iv 0 79 o) (_ : iv 0 33 w) (_ : iv 0 1 y0_252) (_ : (y0_252.toInt = 1 ∧ (RVL (dKd D o.toNatClampNeg) (dAt D o.toNatClampNeg) (wKy.getD w.toNatClampNeg 0))) ∨ (y0_252.toInt = 0 ∧ ¬ (RVL (dKd D o.toNatClampNeg) (dAt D o.toNatClampNeg) (wKy.getD w.toNatClampNeg 0)))) (H : Heap) (locs : List Loc) (ls : Array Slot), va_P (dC, dI) vwCl (cW ad cid a2 lx sg gm lg) H → va_D A (cW ad cid a2 lx sg gm lg) → va_S A s.heap H locs → lv_has ls 3 [(0, eV (ad 3) x), (1, eV (ad 9) o), (2, eV (ad 33) w)] → W p l e (headSpec wm_X9_hasRightValue ({ frames := 3, cells := 1, slots := 6, locals := 75 })).room s m ([eV (ad 3) x, eV (ad 9) o, eV (ad 33) w] : List Value).toArray below meth c H locs 0 0 (vx_MQ below (cQx dC dI ad cid a2 lx (fun v u => ∃ r : Int32, v = some (.int r) ∧ u = (sg, gm, lg) ∧ (iv 0 1 r) ∧ ((r.toInt = 1 ∧ (RVL (dKd D o.toNatClampNeg) (dAt D o.toNatClampNeg) (wKy.getD w.toNatClampNeg 0))) ∨ (r.toInt = 0 ∧ ¬ (RVL (dKd D o.toNatClampNeg) (dAt D o.toNatClampNeg) (wKy.getD w.toNatClampNeg 0))))) A) (cX dC dI ad cid a2 lx (fun _ _ => False) A) ([eV (ad 3) x, eV (ad 9) o, eV (ad 33) w] : List Value).toArray s 1 6 A) (F0 m 252 ls [.int y0_252]) := by
    intro y0_252 hsx0_252 hsx1_252 hsx2_252 hy0_252 u252 H locs ls hP hD hS hl
    exact W.nb (fun hN => W.widen (k := 1) (n := 6) (by decide) (by decide) (vx_ret (W.zret (v := y0_252) hx hb hr (iv_nb hy0_252) (fun t ht hW => ⟨⟨some (.int y0_252), (sg, gm, lg), rfl, ⟨y0_252, rfl, rfl, hy0_252, (u252)⟩, by rw [ht]; exact hP, va_K.moved hW.alike hK, hD⟩, hS.F ht, by rw [ht]; exact hN⟩) hS.2.2 dX9_hasRightValue_252)))
  have hj234 : ∀ (_ : iv 0 0 x) (_ : iv 0 79 o) (_ : iv 0 33 w) (_ : (wKy.getD w.toNatClampNeg 0).toInt = 120282512125796 ∨ (wKy.getD w.toNatClampNeg 0).toInt = 1768843636 ∨ (wKy.getD w.toNatClampNeg 0).toInt = 28259044220366713) (H : Heap) (locs : List Loc) (ls : Array Slot), va_P (dC, dI) vwCl (cW ad cid a2 lx sg gm lg) H → va_D A (cW ad cid a2 lx sg gm lg) → va_S A s.heap H locs → lv_has ls 3 [(0, eV (ad 3) x), (1, eV (ad 9) o), (2, eV (ad 33) w)] → W p l e (headSpec wm_X9_hasRightValue ({ frames := 3, cells := 1, slots := 6, locals := 75 })).room s m ([eV (ad 3) x, eV (ad 9) o, eV (ad 33) w] : List Value).toArray below meth c H locs 0 0 (vx_MQ below (cQx dC dI ad cid a2 lx (fun v u => ∃ r : Int32, v = some (.int r) ∧ u = (sg, gm, lg) ∧ (iv 0 1 r) ∧ ((r.toInt = 1 ∧ (RVL (dKd D o.toNatClampNeg) (dAt D o.toNatClampNeg) (wKy.getD w.toNatClampNeg 0))) ∨ (r.toInt = 0 ∧ ¬ (RVL (dKd D o.toNatClampNeg) (dAt D o.toNatClampNeg) (wKy.getD w.toNatClampNeg 0))))) A) (cX dC dI ad cid a2 lx (fun _ _ => False) A) ([eV (ad 3) x, eV (ad 9) o, eV (ad 33) w] : List Value).toArray s 1 6 A) (F0 m 234 ls []) := by
    intro  hsx0_234 hsx1_234 hsx2_234 uK H locs ls hP hD hS hl
    refine ec_aload_n hx hb dX9_hasRightValue_234 rfl (lv_at hl 0 rfl) ?_
    refine cr_get (t := 3) (j := 0) (C := RX9) (T := TX9) (N := 1) (v := eV (ad 1) 0) hx hb htb inX9 hown hK hP hsx0_234 (by decide) (by decide) (by decide) rfl (by decide) (htb _ kw_323) (cV_c rfl (by decide) (by rw [show cMu 3 0 = 0 from rfl, Nat.zero_mul]; rfl)) dX9_hasRightValue_235 ?_
    refine ec_aload_n hx hb dX9_hasRightValue_238 rfl (lv_at hl 1 rfl) ?_
    refine ec_aload_n hx hb dX9_hasRightValue_239 rfl (lv_at hl 2 rfl) ?_
    refine cm_callV (t := 1) (C := RX6) (T := TX6) (N := 8) (rest := []) (as := [eV (ad 9) o, eV (ad 33) w]) ⟨hx, hb, hml, hown, htb⟩ (d_letterValue2 l dC dI ad cid a2 lx sg gm lg 0 o w (dAt D o.toNatClampNeg) hI (iv_k (by decide) : iv 0 0 0) hsx1_234 hsx2_234 hFA how hVS hEV.2.1) (cwV 2 htb (gd_V kw_680 kw_681 kw_682 kw_149 kw_1473) rfl rfl rfl (by decide +kernel) ⟨Nat.le_of_ble_eq_true rfl, Nat.le_of_ble_eq_true rfl⟩) (iv_k (by decide) : iv 0 0 0) (by decide) (by decide) rfl rfl hl.1 rfl (Nat.le_trans cs_n (by decide)) dX9_hasRightValue_240 ⟨Nat.le_of_ble_eq_true rfl, Nat.le_of_ble_eq_true rfl⟩ hK hP hD hS hA hG (fun E ce q9 u_21 H locs hw hP hD hS hce hcv hcl => ?_) (fun v9 u_21 H locs hw hP hD hS => ?_)
    · exact hw.elim
    obtain ⟨r_20, rfl, rfl, hr_20, fL_r_20⟩ := hw
    have hP : va_P (dC, dI) vwCl (cW ad cid a2 lx sg gm lg) H := hP
    have hD : va_D A (cW ad cid a2 lx sg gm lg) := hD
    refine W.eq (g2 := F0 m 243 ls [.int r_20]) rfl ?_
    refine lv_iconst (v := (-1)) hx hb dX9_hasRightValue_243 (by decide) ?_
    refine lv_icmp_eq (tgt := 251) hx hb dX9_hasRightValue_244 (by decide) (fun c_23 => ?_) (fun c_23 => ?_)
    · have h_24 : iv (-1) (-1) r_20 := iv_eq c_23 hr_20 (iv_k (by decide) : iv (-1) (-1) (-1)) (by decide)
      refine lv_iconst (v := 0) hx hb dX9_hasRightValue_251 (by decide) ?_
      exact hj252 0 hsx0_234 hsx1_234 hsx2_234 (iv_w (iv_k (by decide) : iv 0 0 0) (by decide)) (Or.inr ⟨rfl, fun q9 => by have := (rvg_L hPA uK).mp q9; have := fL_r_20; have := i32_0; have := i32_1; have := i32_2; have := i32_m1; have := (hsx0_234).1; have := (hsx0_234).2; have := (hsx1_234).1; have := (hsx1_234).2; have := (hsx2_234).1; have := (hsx2_234).2; have := (h_24).1; have := (h_24).2; omega⟩) _ _ _ hP hD hS (lv_sub hl [0, 1, 2] rfl)
    · have h_25 : iv 0 25 r_20 := iv_neL c_23 hr_20 (by decide)
      refine lv_iconst (v := 1) hx hb dX9_hasRightValue_247 (by decide) ?_
      refine lv_goto (tgt := 252) hx hb dX9_hasRightValue_248 (by decide) ?_
      exact hj252 1 hsx0_234 hsx1_234 hsx2_234 (iv_w (iv_k (by decide) : iv 1 1 1) (by decide)) (Or.inl ⟨rfl, (rvg_L hPA uK).mpr (by have := fL_r_20; have := i32_0; have := i32_1; have := i32_2; have := i32_m1; have := (hsx0_234).1; have := (hsx0_234).2; have := (hsx1_234).1; have := (hsx1_234).2; have := (hsx2_234).1; have := (hsx2_234).2; have := (h_25).1; have := (h_25).2; omega)⟩) _ _ _ hP hD hS (lv_sub hl [0, 1, 2] rfl)
  have hj142 : ∀ (y0_142 : Int32) (_ : iv 0 0 x) (_ : iv 0 79 o) (_ : iv 0 33 w) (_ : iv 0 1 y0_142) (_ : (y0_142.toInt = 1 ∧ (RVL (dKd D o.toNatClampNeg) (dAt D o.toNatClampNeg) (wKy.getD w.toNatClampNeg 0))) ∨ (y0_142.toInt = 0 ∧ ¬ (RVL (dKd D o.toNatClampNeg) (dAt D o.toNatClampNeg) (wKy.getD w.toNatClampNeg 0)))) (H : Heap) (locs : List Loc) (ls : Array Slot), va_P (dC, dI) vwCl (cW ad cid a2 lx sg gm lg) H → va_D A (cW ad cid a2 lx sg gm lg) → va_S A s.heap H locs → lv_has ls 3 [(0, eV (ad 3) x), (1, eV (ad 9) o), (2, eV (ad 33) w)] → W p l e (headSpec wm_X9_hasRightValue ({ frames := 3, cells := 1, slots := 6, locals := 75 })).room s m ([eV (ad 3) x, eV (ad 9) o, eV (ad 33) w] : List Value).toArray below meth c H locs 0 0 (vx_MQ below (cQx dC dI ad cid a2 lx (fun v u => ∃ r : Int32, v = some (.int r) ∧ u = (sg, gm, lg) ∧ (iv 0 1 r) ∧ ((r.toInt = 1 ∧ (RVL (dKd D o.toNatClampNeg) (dAt D o.toNatClampNeg) (wKy.getD w.toNatClampNeg 0))) ∨ (r.toInt = 0 ∧ ¬ (RVL (dKd D o.toNatClampNeg) (dAt D o.toNatClampNeg) (wKy.getD w.toNatClampNeg 0))))) A) (cX dC dI ad cid a2 lx (fun _ _ => False) A) ([eV (ad 3) x, eV (ad 9) o, eV (ad 33) w] : List Value).toArray s 1 6 A) (F0 m 142 ls [.int y0_142]) := by
    intro y0_142 hsx0_142 hsx1_142 hsx2_142 hy0_142 u142 H locs ls hP hD hS hl
    exact W.nb (fun hN => W.widen (k := 1) (n := 6) (by decide) (by decide) (vx_ret (W.zret (v := y0_142) hx hb hr (iv_nb hy0_142) (fun t ht hW => ⟨⟨some (.int y0_142), (sg, gm, lg), rfl, ⟨y0_142, rfl, rfl, hy0_142, (u142)⟩, by rw [ht]; exact hP, va_K.moved hW.alike hK, hD⟩, hS.F ht, by rw [ht]; exact hN⟩) hS.2.2 dX9_hasRightValue_142)))
  have hj271 : ∀ (y0_271 : Int32) (_ : iv 0 0 x) (_ : iv 0 79 o) (_ : iv 0 33 w) (_ : iv 0 1 y0_271) (_ : (y0_271.toInt = 1 ∧ (RVL (dKd D o.toNatClampNeg) (dAt D o.toNatClampNeg) (wKy.getD w.toNatClampNeg 0))) ∨ (y0_271.toInt = 0 ∧ ¬ (RVL (dKd D o.toNatClampNeg) (dAt D o.toNatClampNeg) (wKy.getD w.toNatClampNeg 0)))) (H : Heap) (locs : List Loc) (ls : Array Slot), va_P (dC, dI) vwCl (cW ad cid a2 lx sg gm lg) H → va_D A (cW ad cid a2 lx sg gm lg) → va_S A s.heap H locs → lv_has ls 3 [(0, eV (ad 3) x), (1, eV (ad 9) o), (2, eV (ad 33) w)] → W p l e (headSpec wm_X9_hasRightValue ({ frames := 3, cells := 1, slots := 6, locals := 75 })).room s m ([eV (ad 3) x, eV (ad 9) o, eV (ad 33) w] : List Value).toArray below meth c H locs 0 0 (vx_MQ below (cQx dC dI ad cid a2 lx (fun v u => ∃ r : Int32, v = some (.int r) ∧ u = (sg, gm, lg) ∧ (iv 0 1 r) ∧ ((r.toInt = 1 ∧ (RVL (dKd D o.toNatClampNeg) (dAt D o.toNatClampNeg) (wKy.getD w.toNatClampNeg 0))) ∨ (r.toInt = 0 ∧ ¬ (RVL (dKd D o.toNatClampNeg) (dAt D o.toNatClampNeg) (wKy.getD w.toNatClampNeg 0))))) A) (cX dC dI ad cid a2 lx (fun _ _ => False) A) ([eV (ad 3) x, eV (ad 9) o, eV (ad 33) w] : List Value).toArray s 1 6 A) (F0 m 271 ls [.int y0_271]) := by
    intro y0_271 hsx0_271 hsx1_271 hsx2_271 hy0_271 u271 H locs ls hP hD hS hl
    exact W.nb (fun hN => W.widen (k := 1) (n := 6) (by decide) (by decide) (vx_ret (W.zret (v := y0_271) hx hb hr (iv_nb hy0_271) (fun t ht hW => ⟨⟨some (.int y0_271), (sg, gm, lg), rfl, ⟨y0_271, rfl, rfl, hy0_271, (u271)⟩, by rw [ht]; exact hP, va_K.moved hW.alike hK, hD⟩, hS.F ht, by rw [ht]; exact hN⟩) hS.2.2 dX9_hasRightValue_271)))
  have hj290 : ∀ (y0_290 : Int32) (_ : iv 0 0 x) (_ : iv 0 79 o) (_ : iv 0 33 w) (_ : iv 0 1 y0_290) (_ : (y0_290.toInt = 1 ∧ (RVL (dKd D o.toNatClampNeg) (dAt D o.toNatClampNeg) (wKy.getD w.toNatClampNeg 0))) ∨ (y0_290.toInt = 0 ∧ ¬ (RVL (dKd D o.toNatClampNeg) (dAt D o.toNatClampNeg) (wKy.getD w.toNatClampNeg 0)))) (H : Heap) (locs : List Loc) (ls : Array Slot), va_P (dC, dI) vwCl (cW ad cid a2 lx sg gm lg) H → va_D A (cW ad cid a2 lx sg gm lg) → va_S A s.heap H locs → lv_has ls 3 [(0, eV (ad 3) x), (1, eV (ad 9) o), (2, eV (ad 33) w)] → W p l e (headSpec wm_X9_hasRightValue ({ frames := 3, cells := 1, slots := 6, locals := 75 })).room s m ([eV (ad 3) x, eV (ad 9) o, eV (ad 33) w] : List Value).toArray below meth c H locs 0 0 (vx_MQ below (cQx dC dI ad cid a2 lx (fun v u => ∃ r : Int32, v = some (.int r) ∧ u = (sg, gm, lg) ∧ (iv 0 1 r) ∧ ((r.toInt = 1 ∧ (RVL (dKd D o.toNatClampNeg) (dAt D o.toNatClampNeg) (wKy.getD w.toNatClampNeg 0))) ∨ (r.toInt = 0 ∧ ¬ (RVL (dKd D o.toNatClampNeg) (dAt D o.toNatClampNeg) (wKy.getD w.toNatClampNeg 0))))) A) (cX dC dI ad cid a2 lx (fun _ _ => False) A) ([eV (ad 3) x, eV (ad 9) o, eV (ad 33) w] : List Value).toArray s 1 6 A) (F0 m 290 ls [.int y0_290]) := by
    intro y0_290 hsx0_290 hsx1_290 hsx2_290 hy0_290 u290 H locs ls hP hD hS hl
    exact W.nb (fun hN => W.widen (k := 1) (n := 6) (by decide) (by decide) (vx_ret (W.zret (v := y0_290) hx hb hr (iv_nb hy0_290) (fun t ht hW => ⟨⟨some (.int y0_290), (sg, gm, lg), rfl, ⟨y0_290, rfl, rfl, hy0_290, (u290)⟩, by rw [ht]; exact hP, va_K.moved hW.alike hK, hD⟩, hS.F ht, by rw [ht]; exact hN⟩) hS.2.2 dX9_hasRightValue_290)))
  refine cw_sw hx hb hG hS hown (htb _ kw_660) dX9_hasRightValue_0 ?_
  refine ec_aload_n hx hb dX9_hasRightValue_3 rfl (lv_at hl 2 rfl) ?_
  refine cw_ord ⟨hx, hb, hml, hown, htb⟩ kw_661 hvw hl.1 (Nat.le_trans (cs_c (eV_cat _ _) cs_n) (by decide)) dX9_hasRightValue_4 ⟨Nat.le_of_ble_eq_true rfl, Nat.le_of_ble_eq_true rfl⟩ ⟨Nat.le_of_ble_eq_true rfl, Nat.le_of_ble_eq_true rfl⟩ hP hD hS hA hG (fun H locs hP hS => ?_)
  refine cw_swld (iv_k (by decide) : iv 0 0 0) hx hb hG hS hvw dX9_hasRightValue_7 ?_
  refine lv_topi (fun z_26 ez_26 => ?_)
  have hz_26 : iv 0 29 z_26 := iv_of ez_26 (sw_iv w)
  by_cases c_27 : (z_26 : Int32).toInt = 13
  · refine lv_tableIn (tgt := 291) hx hb dX9_hasRightValue_8 (by rw [c_27]; decide) (by rw [c_27]; decide) (by rw [c_27]; rfl) (by decide) ?_
    have h_28 : iv 13 13 z_26 := iv_at c_27
    refine lv_iconst (v := 1) hx hb dX9_hasRightValue_291 (by decide) ?_
    exact W.nb (fun hN => W.widen (k := 1) (n := 6) (by decide) (by decide) (vx_ret (W.zret (v := 1) hx hb hr (iv_nb (iv_w (iv_k (by decide) : iv 1 1 1) (by decide))) (fun t ht hW => ⟨⟨some (.int 1), (sg, gm, lg), rfl, ⟨1, rfl, rfl, (iv_w (iv_k (by decide) : iv 1 1 1) (by decide)), (Or.inl ⟨rfl, rvg_V hPA (by have hK9 : (wKy.getD w.toNatClampNeg 0).toInt = 508440638821 := wkz (j := 7) hvw (swy 7 13 (by decide) hvw ez_26 c_27) (by decide); omega)⟩)⟩, by rw [ht]; exact hP, va_K.moved hW.alike hK, hD⟩, hS.F ht, by rw [ht]; exact hN⟩) hS.2.2 dX9_hasRightValue_292)))
  by_cases c_29 : (z_26 : Int32).toInt = 14
  · refine lv_tableIn (tgt := 293) hx hb dX9_hasRightValue_8 (by rw [c_29]; decide) (by rw [c_29]; decide) (by rw [c_29]; rfl) (by decide) ?_
    have h_30 : iv 14 14 z_26 := iv_at c_29
    exact hj293 hvx hvo hvw ((by have hK9 : (wKy.getD w.toNatClampNeg 0).toInt = 7497062 := wkz (j := 8) hvw (swy 8 14 (by decide) hvw ez_26 c_29) (by decide); omega)) _ _ _ hP hD hS (lv_sub hl [0, 1, 2] rfl)
  by_cases c_31 : (z_26 : Int32).toInt = 15
  · refine lv_tableIn (tgt := 293) hx hb dX9_hasRightValue_8 (by rw [c_31]; decide) (by rw [c_31]; decide) (by rw [c_31]; rfl) (by decide) ?_
    have h_32 : iv 15 15 z_26 := iv_at c_31
    exact hj293 hvx hvo hvw ((by have hK9 : (wKy.getD w.toNatClampNeg 0).toInt = 1853189228 := wkz (j := 9) hvw (swy 9 15 (by decide) hvw ez_26 c_31) (by decide); have := hMK; unfold MK7 at this; omega)) _ _ _ hP hD hS (lv_sub hl [0, 1, 2] rfl)
  by_cases c_33 : (z_26 : Int32).toInt = 16
  · refine lv_tableIn (tgt := 293) hx hb dX9_hasRightValue_8 (by rw [c_33]; decide) (by rw [c_33]; decide) (by rw [c_33]; rfl) (by decide) ?_
    have h_34 : iv 16 16 z_26 := iv_at c_33
    exact hj293 hvx hvo hvw ((by have hK9 : (wKy.getD w.toNatClampNeg 0).toInt = 26980 := wkz (j := 10) hvw (swy 10 16 (by decide) hvw ez_26 c_33) (by decide); omega)) _ _ _ hP hD hS (lv_sub hl [0, 1, 2] rfl)
  by_cases c_35 : (z_26 : Int32).toInt = 17
  · refine lv_tableIn (tgt := 162) hx hb dX9_hasRightValue_8 (by rw [c_35]; decide) (by rw [c_35]; decide) (by rw [c_35]; rfl) (by decide) ?_
    have h_36 : iv 17 17 z_26 := iv_at c_35
    exact hj162 hvx hvo hvw ((by have hK9 : (wKy.getD w.toNatClampNeg 0).toInt = 7017298113369039732 := wkz (j := 13) hvw (swy 13 17 (by decide) hvw ez_26 c_35) (by decide); omega)) _ _ _ hP hD hS (lv_sub hl [0, 1, 2] rfl)
  by_cases c_37 : (z_26 : Int32).toInt = 18
  · refine lv_tableIn (tgt := 162) hx hb dX9_hasRightValue_8 (by rw [c_37]; decide) (by rw [c_37]; decide) (by rw [c_37]; rfl) (by decide) ?_
    have h_38 : iv 18 18 z_26 := iv_at c_37
    exact hj162 hvx hvo hvw ((by have hK9 : (wKy.getD w.toNatClampNeg 0).toInt = 1818327673 := wkz (j := 15) hvw (swy 15 18 (by decide) hvw ez_26 c_37) (by decide); omega)) _ _ _ hP hD hS (lv_sub hl [0, 1, 2] rfl)
  by_cases c_39 : (z_26 : Int32).toInt = 19
  · refine lv_tableIn (tgt := 143) hx hb dX9_hasRightValue_8 (by rw [c_39]; decide) (by rw [c_39]; decide) (by rw [c_39]; rfl) (by decide) ?_
    have h_40 : iv 19 19 z_26 := iv_at c_39
    refine ec_aload_n hx hb dX9_hasRightValue_143 rfl (lv_at hl 0 rfl) ?_
    refine cr_get (t := 3) (j := 0) (C := RX9) (T := TX9) (N := 1) (v := eV (ad 1) 0) hx hb htb inX9 hown hK hP hvx (by decide) (by decide) (by decide) rfl (by decide) (htb _ kw_323) (cV_c rfl (by decide) (by rw [show cMu 3 0 = 0 from rfl, Nat.zero_mul]; rfl)) dX9_hasRightValue_144 ?_
    refine ec_aload_n hx hb dX9_hasRightValue_147 rfl (lv_at hl 1 rfl) ?_
    refine ec_aload_n hx hb dX9_hasRightValue_148 rfl (lv_at hl 2 rfl) ?_
    refine cm_callV (t := 1) (C := RX6) (T := TX6) (N := 8) (rest := []) (as := [eV (ad 9) o, eV (ad 33) w]) ⟨hx, hb, hml, hown, htb⟩ (d_classValue2 l dC dI ad cid a2 lx sg gm lg 0 o w (dAt D o.toNatClampNeg) hI (iv_k (by decide) : iv 0 0 0) hvo hvw hFA how hVS hEV.2.1) (cwV 2 htb (gd_V kw_710 kw_711 kw_712 kw_149 kw_1483) rfl rfl rfl (by decide +kernel) ⟨Nat.le_of_ble_eq_true rfl, Nat.le_of_ble_eq_true rfl⟩) (iv_k (by decide) : iv 0 0 0) (by decide) (by decide) rfl rfl hl.1 rfl (Nat.le_trans cs_n (by decide)) dX9_hasRightValue_149 ⟨Nat.le_of_ble_eq_true rfl, Nat.le_of_ble_eq_true rfl⟩ hK hP hD hS hA hG (fun E ce q9 u_42 H locs hw hP hD hS hce hcv hcl => ?_) (fun v9 u_42 H locs hw hP hD hS => ?_)
    · exact hw.elim
    obtain ⟨r_41, rfl, rfl, hr_41, fK_r_41⟩ := hw
    have hP : va_P (dC, dI) vwCl (cW ad cid a2 lx sg gm lg) H := hP
    have hD : va_D A (cW ad cid a2 lx sg gm lg) := hD
    refine W.eq (g2 := F0 m 152 ls [.int r_41]) rfl ?_
    refine lv_iconst (v := (-1)) hx hb dX9_hasRightValue_152 (by decide) ?_
    refine lv_icmp_eq (tgt := 160) hx hb dX9_hasRightValue_153 (by decide) (fun c_44 => ?_) (fun c_44 => ?_)
    · have h_45 : iv (-1) (-1) r_41 := iv_eq c_44 hr_41 (iv_k (by decide) : iv (-1) (-1) (-1)) (by decide)
      refine lv_iconst (v := 0) hx hb dX9_hasRightValue_160 (by decide) ?_
      exact hj161 0 hvx hvo hvw (iv_w (iv_k (by decide) : iv 0 0 0) (by decide)) (Or.inr ⟨rfl, fun q9 => by have := (rvg_C hPA (by have hK9 : (wKy.getD w.toNatClampNeg 0).toInt = 427020088179 := wkz (j := 11) hvw (swy 11 19 (by decide) hvw ez_26 c_39) (by decide); omega)).mp q9; have := fK_r_41; have := i32_0; have := i32_1; have := i32_2; have := i32_m1; have := (hvx).1; have := (hvx).2; have := (hvo).1; have := (hvo).2; have := (hvw).1; have := (hvw).2; have := (h_40).1; have := (h_40).2; have := (h_45).1; have := (h_45).2; omega⟩) _ _ _ hP hD hS (lv_sub hl [0, 1, 2] rfl)
    · have h_46 : iv 0 7 r_41 := iv_neL c_44 hr_41 (by decide)
      refine lv_iconst (v := 1) hx hb dX9_hasRightValue_156 (by decide) ?_
      refine lv_goto (tgt := 161) hx hb dX9_hasRightValue_157 (by decide) ?_
      exact hj161 1 hvx hvo hvw (iv_w (iv_k (by decide) : iv 1 1 1) (by decide)) (Or.inl ⟨rfl, (rvg_C hPA (by have hK9 : (wKy.getD w.toNatClampNeg 0).toInt = 427020088179 := wkz (j := 11) hvw (swy 11 19 (by decide) hvw ez_26 c_39) (by decide); omega)).mpr (by have := fK_r_41; have := i32_0; have := i32_1; have := i32_2; have := i32_m1; have := (hvx).1; have := (hvx).2; have := (hvo).1; have := (hvo).2; have := (hvw).1; have := (hvw).2; have := (h_40).1; have := (h_40).2; have := (h_46).1; have := (h_46).2; omega)⟩) _ _ _ hP hD hS (lv_sub hl [0, 1, 2] rfl)
  by_cases c_47 : (z_26 : Int32).toInt = 20
  · refine lv_tableIn (tgt := 293) hx hb dX9_hasRightValue_8 (by rw [c_47]; decide) (by rw [c_47]; decide) (by rw [c_47]; rfl) (by decide) ?_
    have h_48 : iv 20 20 z_26 := iv_at c_47
    exact hj293 hvx hvo hvw ((by have hK9 : (wKy.getD w.toNatClampNeg 0).toInt = 123563833388660 := wkz (j := 12) hvw (swy 12 20 (by decide) hvw ez_26 c_47) (by decide); omega)) _ _ _ hP hD hS (lv_sub hl [0, 1, 2] rfl)
  by_cases c_49 : (z_26 : Int32).toInt = 21
  · refine lv_tableIn (tgt := 198) hx hb dX9_hasRightValue_8 (by rw [c_49]; decide) (by rw [c_49]; decide) (by rw [c_49]; rfl) (by decide) ?_
    have h_50 : iv 21 21 z_26 := iv_at c_49
    refine ec_aload_n hx hb dX9_hasRightValue_198 rfl (lv_at hl 0 rfl) ?_
    refine cr_get (t := 3) (j := 0) (C := RX9) (T := TX9) (N := 1) (v := eV (ad 1) 0) hx hb htb inX9 hown hK hP hvx (by decide) (by decide) (by decide) rfl (by decide) (htb _ kw_323) (cV_c rfl (by decide) (by rw [show cMu 3 0 = 0 from rfl, Nat.zero_mul]; rfl)) dX9_hasRightValue_199 ?_
    refine ec_aload_n hx hb dX9_hasRightValue_202 rfl (lv_at hl 1 rfl) ?_
    refine ec_aload_n hx hb dX9_hasRightValue_203 rfl (lv_at hl 2 rfl) ?_
    refine cw_word (k := 27) (kx := 27) hx hb hG hS (by decide) rfl ⟨by decide, by decide⟩ hown (htb _ kw_719) dX9_hasRightValue_204 ?_
    refine cm_callV (t := 1) (C := RX6) (T := TX6) (N := 8) (rest := []) (as := [eV (ad 9) o, eV (ad 33) w, eV (ad 33) 27]) ⟨hx, hb, hml, hown, htb⟩ (d_valueIs2 l dC dI ad cid a2 lx sg gm lg 0 o w 27 (dAt D o.toNatClampNeg) hI (iv_k (by decide) : iv 0 0 0) hvo hvw (iv_w (iv_k (by decide) : iv 27 27 27) (by decide)) hFA how hVS hEV.2.1) (cwV 3 htb (gd_V kw_714 kw_715 kw_716 kw_149 kw_1484) rfl rfl rfl (by decide +kernel) ⟨Nat.le_of_ble_eq_true rfl, Nat.le_of_ble_eq_true rfl⟩) (iv_k (by decide) : iv 0 0 0) (by decide) (by decide) rfl rfl hl.1 rfl (Nat.le_trans cs_n (by decide)) dX9_hasRightValue_207 ⟨Nat.le_of_ble_eq_true rfl, Nat.le_of_ble_eq_true rfl⟩ hK hP hD hS hA hG (fun E ce q9 u_52 H locs hw hP hD hS hce hcv hcl => ?_) (fun v9 u_52 H locs hw hP hD hS => ?_)
    · exact hw.elim
    obtain ⟨r_51, rfl, rfl, hr_51, fV_r_51⟩ := hw
    have hP : va_P (dC, dI) vwCl (cW ad cid a2 lx sg gm lg) H := hP
    have hD : va_D A (cW ad cid a2 lx sg gm lg) := hD
    refine W.eq (g2 := F0 m 210 ls [.int r_51]) rfl ?_
    refine lv_if_ne (tgt := 228) hx hb dX9_hasRightValue_210 (by decide) (fun c_54 => ?_) (fun c_54 => ?_)
    · have h_55 : iv 1 1 r_51 := iv_neL c_54 hr_51 (by decide)
      exact hj228 hvx hvo hvw ((rvg_O hPA (by have hK9 : (wKy.getD w.toNatClampNeg 0).toInt = 495589486693 := wkz (j := 14) hvw (swy 14 21 (by decide) hvw ez_26 c_49) (by decide); omega)).mpr (Or.inl (fV_r_51.resolve_right (fun q8 => absurd q8.1 (by have := i32_0; have := i32_1; have := i32_2; have := i32_m1; have := (hvx).1; have := (hvx).2; have := (hvo).1; have := (hvo).2; have := (hvw).1; have := (hvw).2; have := (h_50).1; have := (h_50).2; have := (h_55).1; have := (h_55).2; omega))).2)) _ _ _ hP hD hS (lv_sub hl [0, 1, 2] rfl)
    · have h_56 : iv 0 0 r_51 := iv_eq c_54 hr_51 (iv_k (by decide) : iv 0 0 0) (by decide)
      refine ec_aload_n hx hb dX9_hasRightValue_213 rfl (lv_at hl 0 rfl) ?_
      refine cr_get (t := 3) (j := 0) (C := RX9) (T := TX9) (N := 1) (v := eV (ad 1) 0) hx hb htb inX9 hown hK hP hvx (by decide) (by decide) (by decide) rfl (by decide) (htb _ kw_323) (cV_c rfl (by decide) (by rw [show cMu 3 0 = 0 from rfl, Nat.zero_mul]; rfl)) dX9_hasRightValue_214 ?_
      refine ec_aload_n hx hb dX9_hasRightValue_217 rfl (lv_at hl 1 rfl) ?_
      refine ec_aload_n hx hb dX9_hasRightValue_218 rfl (lv_at hl 2 rfl) ?_
      refine cw_word (k := 28) (kx := 28) hx hb hG hS (by decide) rfl ⟨by decide, by decide⟩ hown (htb _ kw_720) dX9_hasRightValue_219 ?_
      refine cm_callV (t := 1) (C := RX6) (T := TX6) (N := 8) (rest := []) (as := [eV (ad 9) o, eV (ad 33) w, eV (ad 33) 28]) ⟨hx, hb, hml, hown, htb⟩ (d_valueIs2 l dC dI ad cid a2 lx sg gm lg 0 o w 28 (dAt D o.toNatClampNeg) hI (iv_k (by decide) : iv 0 0 0) hvo hvw (iv_w (iv_k (by decide) : iv 28 28 28) (by decide)) hFA how hVS hEV.2.1) (cwV 3 htb (gd_V kw_714 kw_715 kw_716 kw_149 kw_1484) rfl rfl rfl (by decide +kernel) ⟨Nat.le_of_ble_eq_true rfl, Nat.le_of_ble_eq_true rfl⟩) (iv_k (by decide) : iv 0 0 0) (by decide) (by decide) rfl rfl hl.1 rfl (Nat.le_trans cs_n (by decide)) dX9_hasRightValue_222 ⟨Nat.le_of_ble_eq_true rfl, Nat.le_of_ble_eq_true rfl⟩ hK hP hD hS hA hG (fun E ce q9 u_58 H locs hw hP hD hS hce hcv hcl => ?_) (fun v9 u_58 H locs hw hP hD hS => ?_)
      · exact hw.elim
      obtain ⟨r_57, rfl, rfl, hr_57, fV_r_57⟩ := hw
      have hP : va_P (dC, dI) vwCl (cW ad cid a2 lx sg gm lg) H := hP
      have hD : va_D A (cW ad cid a2 lx sg gm lg) := hD
      refine W.eq (g2 := F0 m 225 ls [.int r_57]) rfl ?_
      refine lv_if_eq (tgt := 232) hx hb dX9_hasRightValue_225 (by decide) (fun c_60 => ?_) (fun c_60 => ?_)
      · have h_61 : iv 0 0 r_57 := iv_eq c_60 hr_57 (iv_k (by decide) : iv 0 0 0) (by decide)
        refine lv_iconst (v := 0) hx hb dX9_hasRightValue_232 (by decide) ?_
        exact hj233 0 hvx hvo hvw (iv_w (iv_k (by decide) : iv 0 0 0) (by decide)) (Or.inr ⟨rfl, fun q9 => ((rvg_O hPA (by have hK9 : (wKy.getD w.toNatClampNeg 0).toInt = 495589486693 := wkz (j := 14) hvw (swy 14 21 (by decide) hvw ez_26 c_49) (by decide); omega)).mp q9).elim (fV_r_51.resolve_left (fun q8 => absurd q8.1 (by have := i32_0; have := i32_1; have := i32_2; have := i32_m1; have := (hvx).1; have := (hvx).2; have := (hvo).1; have := (hvo).2; have := (hvw).1; have := (hvw).2; have := (h_50).1; have := (h_50).2; have := (h_56).1; have := (h_56).2; have := (h_61).1; have := (h_61).2; omega))).2 (fV_r_57.resolve_left (fun q8 => absurd q8.1 (by have := i32_0; have := i32_1; have := i32_2; have := i32_m1; have := (hvx).1; have := (hvx).2; have := (hvo).1; have := (hvo).2; have := (hvw).1; have := (hvw).2; have := (h_50).1; have := (h_50).2; have := (h_56).1; have := (h_56).2; have := (h_61).1; have := (h_61).2; omega))).2⟩) _ _ _ hP hD hS (lv_sub hl [0, 1, 2] rfl)
      · have h_62 : iv 1 1 r_57 := iv_neL c_60 hr_57 (by decide)
        exact hj228 hvx hvo hvw ((rvg_O hPA (by have hK9 : (wKy.getD w.toNatClampNeg 0).toInt = 495589486693 := wkz (j := 14) hvw (swy 14 21 (by decide) hvw ez_26 c_49) (by decide); omega)).mpr (Or.inr (fV_r_57.resolve_right (fun q8 => absurd q8.1 (by have := i32_0; have := i32_1; have := i32_2; have := i32_m1; have := (hvx).1; have := (hvx).2; have := (hvo).1; have := (hvo).2; have := (hvw).1; have := (hvw).2; have := (h_50).1; have := (h_50).2; have := (h_56).1; have := (h_56).2; have := (h_62).1; have := (h_62).2; omega))).2)) _ _ _ hP hD hS (lv_sub hl [0, 1, 2] rfl)
  by_cases c_63 : (z_26 : Int32).toInt = 22
  · refine lv_tableIn (tgt := 293) hx hb dX9_hasRightValue_8 (by rw [c_63]; decide) (by rw [c_63]; decide) (by rw [c_63]; rfl) (by decide) ?_
    have h_64 : iv 22 22 z_26 := iv_at c_63
    exact hj293 hvx hvo hvw ((by have hK9 : (wKy.getD w.toNatClampNeg 0).toInt = 28817527407604345 := wkz (j := 16) hvw (swy 16 22 (by decide) hvw ez_26 c_63) (by decide); omega)) _ _ _ hP hD hS (lv_sub hl [0, 1, 2] rfl)
  by_cases c_65 : (z_26 : Int32).toInt = 23
  · refine lv_tableIn (tgt := 234) hx hb dX9_hasRightValue_8 (by rw [c_65]; decide) (by rw [c_65]; decide) (by rw [c_65]; rfl) (by decide) ?_
    have h_66 : iv 23 23 z_26 := iv_at c_65
    exact hj234 hvx hvo hvw ((by have hK9 : (wKy.getD w.toNatClampNeg 0).toInt = 120282512125796 := wkz (j := 17) hvw (swy 17 23 (by decide) hvw ez_26 c_65) (by decide); omega)) _ _ _ hP hD hS (lv_sub hl [0, 1, 2] rfl)
  by_cases c_67 : (z_26 : Int32).toInt = 24
  · refine lv_tableIn (tgt := 234) hx hb dX9_hasRightValue_8 (by rw [c_67]; decide) (by rw [c_67]; decide) (by rw [c_67]; rfl) (by decide) ?_
    have h_68 : iv 24 24 z_26 := iv_at c_67
    exact hj234 hvx hvo hvw ((by have hK9 : (wKy.getD w.toNatClampNeg 0).toInt = 1768843636 := wkz (j := 18) hvw (swy 18 24 (by decide) hvw ez_26 c_67) (by decide); omega)) _ _ _ hP hD hS (lv_sub hl [0, 1, 2] rfl)
  by_cases c_69 : (z_26 : Int32).toInt = 25
  · refine lv_tableIn (tgt := 234) hx hb dX9_hasRightValue_8 (by rw [c_69]; decide) (by rw [c_69]; decide) (by rw [c_69]; rfl) (by decide) ?_
    have h_70 : iv 25 25 z_26 := iv_at c_69
    exact hj234 hvx hvo hvw ((by have hK9 : (wKy.getD w.toNatClampNeg 0).toInt = 28259044220366713 := wkz (j := 19) hvw (swy 19 25 (by decide) hvw ez_26 c_69) (by decide); omega)) _ _ _ hP hD hS (lv_sub hl [0, 1, 2] rfl)
  by_cases c_71 : (z_26 : Int32).toInt = 26
  · refine lv_tableIn (tgt := 293) hx hb dX9_hasRightValue_8 (by rw [c_71]; decide) (by rw [c_71]; decide) (by rw [c_71]; rfl) (by decide) ?_
    have h_72 : iv 26 26 z_26 := iv_at c_71
    exact hj293 hvx hvo hvw ((by have hK9 : (wKy.getD w.toNatClampNeg 0).toInt = 28259031083541619 := wkz (j := 20) hvw (swy 20 26 (by decide) hvw ez_26 c_71) (by decide); omega)) _ _ _ hP hD hS (lv_sub hl [0, 1, 2] rfl)
  by_cases c_73 : (z_26 : Int32).toInt = 27
  · refine lv_tableIn (tgt := 92) hx hb dX9_hasRightValue_8 (by rw [c_73]; decide) (by rw [c_73]; decide) (by rw [c_73]; rfl) (by decide) ?_
    have h_74 : iv 27 27 z_26 := iv_at c_73
    refine ec_aload_n hx hb dX9_hasRightValue_92 rfl (lv_at hl 1 rfl) ?_
    refine cr_get (t := 9) (j := 4) (C := RX3) (T := TX3) (N := 21) (v := eV (ad 33) (gm 14 o.toNatClampNeg)) hx hb htb inX3 hown hK hP hvo (by decide) (by decide) (by decide) rfl (by decide) (htb _ kw_242) rfl dX9_hasRightValue_93 ?_
    obtain ⟨z_75, ez_75⟩ : ∃ z : Int32, z = (gm 14 o.toNatClampNeg) := ⟨_, rfl⟩
    refine W.eq (g2 := F0 m 96 ls [eV (ad 33) z_75]) (by rw [ez_75]) ?_
    have hz_75 : iv (-1) 33 z_75 := iv_of ez_75 (CI_a hI 14 hvo (by decide))
    refine cw_word (k := 1) (kx := 1) hx hb hG hS (by decide) rfl ⟨by decide, by decide⟩ hown (htb _ kw_706) dX9_hasRightValue_96 ?_
    refine ec_acmp_ne (tgt := 124) hx hb dX9_hasRightValue_99 (by decide) (fun c_76 => ?_) (fun c_76 => ?_)
    · have wc_76 : ¬ z_75.toInt = (1 : Int) := fun q9 => c_76 (congrArg (er (ad 33)) (Int32.toInt_inj.mp q9))
      refine ec_aload_n hx hb dX9_hasRightValue_124 rfl (lv_at hl 0 rfl) ?_
      refine cr_get (t := 3) (j := 0) (C := RX9) (T := TX9) (N := 1) (v := eV (ad 1) 0) hx hb htb inX9 hown hK hP hvx (by decide) (by decide) (by decide) rfl (by decide) (htb _ kw_323) (cV_c rfl (by decide) (by rw [show cMu 3 0 = 0 from rfl, Nat.zero_mul]; rfl)) dX9_hasRightValue_125 ?_
      refine ec_aload_n hx hb dX9_hasRightValue_128 rfl (lv_at hl 1 rfl) ?_
      refine ec_aload_n hx hb dX9_hasRightValue_129 rfl (lv_at hl 2 rfl) ?_
      refine cm_callV (t := 1) (C := RX6) (T := TX6) (N := 8) (rest := []) (as := [eV (ad 9) o, eV (ad 33) w]) ⟨hx, hb, hml, hown, htb⟩ (d_letterValue2 l dC dI ad cid a2 lx sg gm lg 0 o w (dAt D o.toNatClampNeg) hI (iv_k (by decide) : iv 0 0 0) hvo hvw hFA how hVS hEV.2.1) (cwV 2 htb (gd_V kw_680 kw_681 kw_682 kw_149 kw_1473) rfl rfl rfl (by decide +kernel) ⟨Nat.le_of_ble_eq_true rfl, Nat.le_of_ble_eq_true rfl⟩) (iv_k (by decide) : iv 0 0 0) (by decide) (by decide) rfl rfl hl.1 rfl (Nat.le_trans cs_n (by decide)) dX9_hasRightValue_130 ⟨Nat.le_of_ble_eq_true rfl, Nat.le_of_ble_eq_true rfl⟩ hK hP hD hS hA hG (fun E ce q9 u_78 H locs hw hP hD hS hce hcv hcl => ?_) (fun v9 u_78 H locs hw hP hD hS => ?_)
      · exact hw.elim
      obtain ⟨r_77, rfl, rfl, hr_77, fL_r_77⟩ := hw
      have hP : va_P (dC, dI) vwCl (cW ad cid a2 lx sg gm lg) H := hP
      have hD : va_D A (cW ad cid a2 lx sg gm lg) := hD
      refine W.eq (g2 := F0 m 133 ls [.int r_77]) rfl ?_
      refine lv_iconst (v := (-1)) hx hb dX9_hasRightValue_133 (by decide) ?_
      refine lv_icmp_eq (tgt := 141) hx hb dX9_hasRightValue_134 (by decide) (fun c_80 => ?_) (fun c_80 => ?_)
      · have h_81 : iv (-1) (-1) r_77 := iv_eq c_80 hr_77 (iv_k (by decide) : iv (-1) (-1) (-1)) (by decide)
        refine lv_iconst (v := 0) hx hb dX9_hasRightValue_141 (by decide) ?_
        exact hj142 0 hvx hvo hvw (iv_w (iv_k (by decide) : iv 0 0 0) (by decide)) (Or.inr ⟨rfl, fun q9 => by have h2 : ¬ dKd D o.toNatClampNeg = 2 := fun q6 => absurd (KW_j (q6 ▸ hEV.1 : KW7 (gm 14 o.toNatClampNeg).toInt 2) (by decide)) (by rw [show wkF 2 = 1 by decide]; have q7 : (gm 14 o.toNatClampNeg).toInt = z_75.toInt := (by rw [← ez_75]); have := wc_76; omega); exact ((rvg_N hPA (by have hK9 : (wKy.getD w.toNatClampNeg 0).toInt = 1851878757 := wkz (j := 21) hvw (swy 21 27 (by decide) hvw ez_26 c_73) (by decide); omega)).mp q9).elim (fun q8 => h2 q8.1) (fun q8 => by have := q8.2; have := fL_r_77; have := i32_0; have := i32_1; have := i32_2; have := i32_m1; have := (hvx).1; have := (hvx).2; have := (hvo).1; have := (hvo).2; have := (hvw).1; have := (hvw).2; have := (h_74).1; have := (h_74).2; have := (hz_75).1; have := (hz_75).2; have := (h_81).1; have := (h_81).2; omega)⟩) _ _ _ hP hD hS (lv_sub hl [0, 1, 2] rfl)
      · have h_82 : iv 0 25 r_77 := iv_neL c_80 hr_77 (by decide)
        refine lv_iconst (v := 1) hx hb dX9_hasRightValue_137 (by decide) ?_
        refine lv_goto (tgt := 142) hx hb dX9_hasRightValue_138 (by decide) ?_
        exact hj142 1 hvx hvo hvw (iv_w (iv_k (by decide) : iv 1 1 1) (by decide)) (Or.inl ⟨rfl, (by have h2 : ¬ dKd D o.toNatClampNeg = 2 := fun q6 => absurd (KW_j (q6 ▸ hEV.1 : KW7 (gm 14 o.toNatClampNeg).toInt 2) (by decide)) (by rw [show wkF 2 = 1 by decide]; have q7 : (gm 14 o.toNatClampNeg).toInt = z_75.toInt := (by rw [← ez_75]); have := wc_76; omega); exact (rvg_N hPA (by have hK9 : (wKy.getD w.toNatClampNeg 0).toInt = 1851878757 := wkz (j := 21) hvw (swy 21 27 (by decide) hvw ez_26 c_73) (by decide); omega)).mpr (Or.inr ⟨h2, (by have := fL_r_77; have := i32_0; have := i32_1; have := i32_2; have := i32_m1; have := (hvx).1; have := (hvx).2; have := (hvo).1; have := (hvo).2; have := (hvw).1; have := (hvw).2; have := (h_74).1; have := (h_74).2; have := (hz_75).1; have := (hz_75).2; have := (h_82).1; have := (h_82).2; omega)⟩))⟩) _ _ _ hP hD hS (lv_sub hl [0, 1, 2] rfl)
    · have wc_76 : z_75.toInt = (1 : Int) := er_wd hG hz_75 (iv_w (iv_k (by decide) : iv 1 1 1) (by decide)) c_76
      refine ec_aload_n hx hb dX9_hasRightValue_102 rfl (lv_at hl 0 rfl) ?_
      refine cr_get (t := 3) (j := 0) (C := RX9) (T := TX9) (N := 1) (v := eV (ad 1) 0) hx hb htb inX9 hown hK hP hvx (by decide) (by decide) (by decide) rfl (by decide) (htb _ kw_323) (cV_c rfl (by decide) (by rw [show cMu 3 0 = 0 from rfl, Nat.zero_mul]; rfl)) dX9_hasRightValue_103 ?_
      refine ec_aload_n hx hb dX9_hasRightValue_106 rfl (lv_at hl 1 rfl) ?_
      refine ec_aload_n hx hb dX9_hasRightValue_107 rfl (lv_at hl 2 rfl) ?_
      refine cm_callV (t := 1) (C := RX6) (T := TX6) (N := 8) (rest := []) (as := [eV (ad 9) o, eV (ad 33) w]) ⟨hx, hb, hml, hown, htb⟩ (d_nameValue3 l dC dI ad cid a2 lx sg gm lg 0 o w (dAt D o.toNatClampNeg) hI (iv_k (by decide) : iv 0 0 0) hvo hvw hFA how hVS hEV.2.1) (cwV 2 htb (gd_V kw_707 kw_708 kw_709 kw_149 kw_1482) rfl rfl rfl (by decide +kernel) ⟨Nat.le_of_ble_eq_true rfl, Nat.le_of_ble_eq_true rfl⟩) (iv_k (by decide) : iv 0 0 0) (by decide) (by decide) rfl rfl hl.1 rfl (Nat.le_trans cs_n (by decide)) dX9_hasRightValue_108 ⟨Nat.le_of_ble_eq_true rfl, Nat.le_of_ble_eq_true rfl⟩ hK hP hD hS hA hG (fun E ce q9 u_84 H locs hw hP hD hS hce hcv hcl => ?_) (fun v9 u_84 H locs hw hP hD hS => ?_)
      · exact hw.elim
      obtain ⟨r_83, rfl, rfl, fN_r_83, fZ_r_83⟩ := hw
      have hP : va_P (dC, dI) vwCl (cW ad cid a2 lx sg gm lg) H := hP
      have hD : va_D A (cW ad cid a2 lx sg gm lg) := hD
      refine W.eq (g2 := F0 m 111 ls [.long r_83]) rfl ?_
      refine lv_lconst (v := 0) hx hb dX9_hasRightValue_111 (by decide) ?_
      refine W.lcmp hx hb dX9_hasRightValue_112 ?_
      refine lv_topi (fun z_86 ez_86 => ?_)
      have hz_86 : iv (-1) 1 z_86 := iv_of ez_86 (iv_cmp _ _)
      refine lv_if_eq (tgt := 120) hx hb dX9_hasRightValue_113 (by decide) (fun c_87 => ?_) (fun c_87 => ?_)
      · have h_88 : iv 0 0 z_86 := iv_eq c_87 hz_86 (iv_k (by decide) : iv 0 0 0) (by decide)
        refine lv_iconst (v := 0) hx hb dX9_hasRightValue_120 (by decide) ?_
        refine lv_goto (tgt := 142) hx hb dX9_hasRightValue_121 (by decide) ?_
        exact hj142 0 hvx hvo hvw (iv_w (iv_k (by decide) : iv 0 0 0) (by decide)) (Or.inr ⟨rfl, fun q9 => by have h2 : dKd D o.toNatClampNeg = 2 := KW_f hEV.1 (by unfold KW7; rw [show (gm 14 o.toNatClampNeg).toInt = 1 from (by have q7 : (gm 14 o.toNatClampNeg).toInt = z_75.toInt := (by rw [← ez_75]); have := wc_76; omega)]; decide); exact ((rvg_N hPA (by have hK9 : (wKy.getD w.toNatClampNeg 0).toInt = 1851878757 := wkz (j := 21) hvw (swy 21 27 (by decide) hvw ez_26 c_73) (by decide); omega)).mp q9).elim (fun q8 => q8.2 (by rw [← fN_r_83]; exact (lg_cmp_eq _ _).mp (by rw [← ez_86]; exact c_87))) (fun q8 => q8.1 h2)⟩) _ _ _ hP hD hS (lv_sub hl [0, 1, 2] rfl)
      · have d_89 : ¬ (z_86 : Int32).toInt = 0 := lv_neT c_87 rfl
        refine lv_iconst (v := 1) hx hb dX9_hasRightValue_116 (by decide) ?_
        refine lv_goto (tgt := 142) hx hb dX9_hasRightValue_117 (by decide) ?_
        exact hj142 1 hvx hvo hvw (iv_w (iv_k (by decide) : iv 1 1 1) (by decide)) (Or.inl ⟨rfl, (by have h2 : dKd D o.toNatClampNeg = 2 := KW_f hEV.1 (by unfold KW7; rw [show (gm 14 o.toNatClampNeg).toInt = 1 from (by have q7 : (gm 14 o.toNatClampNeg).toInt = z_75.toInt := (by rw [← ez_75]); have := wc_76; omega)]; decide); exact (rvg_N hPA (by have hK9 : (wKy.getD w.toNatClampNeg 0).toInt = 1851878757 := wkz (j := 21) hvw (swy 21 27 (by decide) hvw ez_26 c_73) (by decide); omega)).mpr (Or.inl ⟨h2, fun q9 => c_87 (by rw [ez_86, fN_r_83, q9]; exact (lg_cmp_eq _ _).mpr rfl)⟩))⟩) _ _ _ hP hD hS (lv_sub hl [0, 1, 2] rfl)
  by_cases c_90 : (z_26 : Int32).toInt = 28
  · refine lv_tableIn (tgt := 253) hx hb dX9_hasRightValue_8 (by rw [c_90]; decide) (by rw [c_90]; decide) (by rw [c_90]; rfl) (by decide) ?_
    have h_91 : iv 28 28 z_26 := iv_at c_90
    refine ec_aload_n hx hb dX9_hasRightValue_253 rfl (lv_at hl 0 rfl) ?_
    refine cr_get (t := 3) (j := 0) (C := RX9) (T := TX9) (N := 1) (v := eV (ad 1) 0) hx hb htb inX9 hown hK hP hvx (by decide) (by decide) (by decide) rfl (by decide) (htb _ kw_323) (cV_c rfl (by decide) (by rw [show cMu 3 0 = 0 from rfl, Nat.zero_mul]; rfl)) dX9_hasRightValue_254 ?_
    refine ec_aload_n hx hb dX9_hasRightValue_257 rfl (lv_at hl 1 rfl) ?_
    refine ec_aload_n hx hb dX9_hasRightValue_258 rfl (lv_at hl 2 rfl) ?_
    refine cm_callV (t := 1) (C := RX6) (T := TX6) (N := 8) (rest := []) (as := [eV (ad 9) o, eV (ad 33) w]) ⟨hx, hb, hml, hown, htb⟩ (d_placeValue2 l dC dI ad cid a2 lx sg gm lg 0 o w (dAt D o.toNatClampNeg) hI (iv_k (by decide) : iv 0 0 0) hvo hvw hFA how hVS hEV.2.1) (cwV 2 htb (gd_V kw_721 kw_722 kw_723 kw_149 kw_1485) rfl rfl rfl (by decide +kernel) ⟨Nat.le_of_ble_eq_true rfl, Nat.le_of_ble_eq_true rfl⟩) (iv_k (by decide) : iv 0 0 0) (by decide) (by decide) rfl rfl hl.1 rfl (Nat.le_trans cs_n (by decide)) dX9_hasRightValue_259 ⟨Nat.le_of_ble_eq_true rfl, Nat.le_of_ble_eq_true rfl⟩ hK hP hD hS hA hG (fun E ce q9 u_93 H locs hw hP hD hS hce hcv hcl => ?_) (fun v9 u_93 H locs hw hP hD hS => ?_)
    · exact hw.elim
    obtain ⟨r_92, rfl, rfl, hr_92, fL_r_92⟩ := hw
    have hP : va_P (dC, dI) vwCl (cW ad cid a2 lx sg gm lg) H := hP
    have hD : va_D A (cW ad cid a2 lx sg gm lg) := hD
    refine W.eq (g2 := F0 m 262 ls [.int r_92]) rfl ?_
    refine lv_iconst (v := (-1)) hx hb dX9_hasRightValue_262 (by decide) ?_
    refine lv_icmp_eq (tgt := 270) hx hb dX9_hasRightValue_263 (by decide) (fun c_95 => ?_) (fun c_95 => ?_)
    · have h_96 : iv (-1) (-1) r_92 := iv_eq c_95 hr_92 (iv_k (by decide) : iv (-1) (-1) (-1)) (by decide)
      refine lv_iconst (v := 0) hx hb dX9_hasRightValue_270 (by decide) ?_
      exact hj271 0 hvx hvo hvw (iv_w (iv_k (by decide) : iv 0 0 0) (by decide)) (Or.inr ⟨rfl, fun q9 => by have := (rvg_A hPA (by have hK9 : (wKy.getD w.toNatClampNeg 0).toInt = 24948 := wkz (j := 23) hvw (swy 23 28 (by decide) hvw ez_26 c_90) (by decide); omega)).mp q9; have := fL_r_92; have := i32_0; have := i32_1; have := i32_2; have := i32_m1; have := (hvx).1; have := (hvx).2; have := (hvo).1; have := (hvo).2; have := (hvw).1; have := (hvw).2; have := (h_91).1; have := (h_91).2; have := (h_96).1; have := (h_96).2; omega⟩) _ _ _ hP hD hS (lv_sub hl [0, 1, 2] rfl)
    · have h_97 : iv 0 2 r_92 := iv_neL c_95 hr_92 (by decide)
      refine lv_iconst (v := 1) hx hb dX9_hasRightValue_266 (by decide) ?_
      refine lv_goto (tgt := 271) hx hb dX9_hasRightValue_267 (by decide) ?_
      exact hj271 1 hvx hvo hvw (iv_w (iv_k (by decide) : iv 1 1 1) (by decide)) (Or.inl ⟨rfl, (rvg_A hPA (by have hK9 : (wKy.getD w.toNatClampNeg 0).toInt = 24948 := wkz (j := 23) hvw (swy 23 28 (by decide) hvw ez_26 c_90) (by decide); omega)).mpr (by have := fL_r_92; have := i32_0; have := i32_1; have := i32_2; have := i32_m1; have := (hvx).1; have := (hvx).2; have := (hvo).1; have := (hvo).2; have := (hvw).1; have := (hvw).2; have := (h_91).1; have := (h_91).2; have := (h_97).1; have := (h_97).2; omega)⟩) _ _ _ hP hD hS (lv_sub hl [0, 1, 2] rfl)
  by_cases c_98 : (z_26 : Int32).toInt = 29
  · refine lv_tableIn (tgt := 272) hx hb dX9_hasRightValue_8 (by rw [c_98]; decide) (by rw [c_98]; decide) (by rw [c_98]; rfl) (by decide) ?_
    have h_99 : iv 29 29 z_26 := iv_at c_98
    refine ec_aload_n hx hb dX9_hasRightValue_272 rfl (lv_at hl 0 rfl) ?_
    refine cr_get (t := 3) (j := 0) (C := RX9) (T := TX9) (N := 1) (v := eV (ad 1) 0) hx hb htb inX9 hown hK hP hvx (by decide) (by decide) (by decide) rfl (by decide) (htb _ kw_323) (cV_c rfl (by decide) (by rw [show cMu 3 0 = 0 from rfl, Nat.zero_mul]; rfl)) dX9_hasRightValue_273 ?_
    refine ec_aload_n hx hb dX9_hasRightValue_276 rfl (lv_at hl 1 rfl) ?_
    refine ec_aload_n hx hb dX9_hasRightValue_277 rfl (lv_at hl 2 rfl) ?_
    refine cm_callV (t := 1) (C := RX6) (T := TX6) (N := 8) (rest := []) (as := [eV (ad 9) o, eV (ad 33) w]) ⟨hx, hb, hml, hown, htb⟩ (d_typeValue2 l dC dI ad cid a2 lx sg gm lg 0 o w (dAt D o.toNatClampNeg) hI (iv_k (by decide) : iv 0 0 0) hvo hvw hFA how hVS hEV.2.1) (cwV 2 htb (gd_V kw_724 kw_725 kw_726 kw_149 kw_1486) rfl rfl rfl (by decide +kernel) ⟨Nat.le_of_ble_eq_true rfl, Nat.le_of_ble_eq_true rfl⟩) (iv_k (by decide) : iv 0 0 0) (by decide) (by decide) rfl rfl hl.1 rfl (Nat.le_trans cs_n (by decide)) dX9_hasRightValue_278 ⟨Nat.le_of_ble_eq_true rfl, Nat.le_of_ble_eq_true rfl⟩ hK hP hD hS hA hG (fun E ce q9 u_101 H locs hw hP hD hS hce hcv hcl => ?_) (fun v9 u_101 H locs hw hP hD hS => ?_)
    · exact hw.elim
    obtain ⟨r_100, rfl, rfl, hr_100, fT_r_100⟩ := hw
    have hP : va_P (dC, dI) vwCl (cW ad cid a2 lx sg gm lg) H := hP
    have hD : va_D A (cW ad cid a2 lx sg gm lg) := hD
    refine W.eq (g2 := F0 m 281 ls [.int r_100]) rfl ?_
    refine lv_iconst (v := (-1)) hx hb dX9_hasRightValue_281 (by decide) ?_
    refine lv_icmp_eq (tgt := 289) hx hb dX9_hasRightValue_282 (by decide) (fun c_103 => ?_) (fun c_103 => ?_)
    · have h_104 : iv (-1) (-1) r_100 := iv_eq c_103 hr_100 (iv_k (by decide) : iv (-1) (-1) (-1)) (by decide)
      refine lv_iconst (v := 0) hx hb dX9_hasRightValue_289 (by decide) ?_
      exact hj290 0 hvx hvo hvw (iv_w (iv_k (by decide) : iv 0 0 0) (by decide)) (Or.inr ⟨rfl, fun q9 => (fT_r_100.resolve_left (fun q8 => absurd q8.1 (by have := i32_0; have := i32_1; have := i32_2; have := i32_m1; have := (hvx).1; have := (hvx).2; have := (hvo).1; have := (hvo).2; have := (hvw).1; have := (hvw).2; have := (h_99).1; have := (h_99).2; have := (h_104).1; have := (h_104).2; omega))).2 ((rvg_T hPA (by have hK9 : (wKy.getD w.toNatClampNeg 0).toInt = 1954115685 := wkz (j := 24) hvw (swy 24 29 (by decide) hvw ez_26 c_98) (by decide); omega)).mp q9)⟩) _ _ _ hP hD hS (lv_sub hl [0, 1, 2] rfl)
    · have h_105 : iv 0 15 r_100 := iv_neL c_103 hr_100 (by decide)
      refine lv_iconst (v := 1) hx hb dX9_hasRightValue_285 (by decide) ?_
      refine lv_goto (tgt := 290) hx hb dX9_hasRightValue_286 (by decide) ?_
      exact hj290 1 hvx hvo hvw (iv_w (iv_k (by decide) : iv 1 1 1) (by decide)) (Or.inl ⟨rfl, (rvg_T hPA (by have hK9 : (wKy.getD w.toNatClampNeg 0).toInt = 1954115685 := wkz (j := 24) hvw (swy 24 29 (by decide) hvw ez_26 c_98) (by decide); omega)).mpr (fT_r_100.resolve_right (fun q8 => absurd q8.1 (by have := i32_0; have := i32_1; have := i32_2; have := i32_m1; have := (hvx).1; have := (hvx).2; have := (hvo).1; have := (hvo).2; have := (hvw).1; have := (hvw).2; have := (h_99).1; have := (h_99).2; have := (h_105).1; have := (h_105).2; omega))).2⟩) _ _ _ hP hD hS (lv_sub hl [0, 1, 2] rfl)
  refine lv_tableOut (tgt := 293) hx hb dX9_hasRightValue_8 (by have q1 := (hz_26).1; have q2 := (hz_26).2; omega) (by decide) ?_
  have h_106 : iv 0 12 z_26 := ⟨by have q1 := (hz_26).1; have q2 := (hz_26).2; omega, by have q1 := (hz_26).1; have q2 := (hz_26).2; omega⟩
  exact hj293 hvx hvo hvw ((by have q9 := hMK; unfold MK7 at q9; have n_CLASS := wkn (x := 427020088179) (j := 11) (by decide) hvw (swx 11 19 (by decide) hvw ez_26 (by omega)); have n_ABSTRACT := wkn (x := 7017298113369039732) (j := 13) (by decide) hvw (swx 13 17 (by decide) hvw ez_26 (by omega)); have n_SCOPE := wkn (x := 495589486693) (j := 14) (by decide) hvw (swx 14 21 (by decide) hvw ez_26 (by omega)); have n_LAZY := wkn (x := 1818327673) (j := 15) (by decide) hvw (swx 15 18 (by decide) hvw ez_26 (by omega)); have n_METHOD := wkn (x := 120282512125796) (j := 17) (by decide) hvw (swx 17 23 (by decide) hvw ez_26 (by omega)); have n_INIT := wkn (x := 1768843636) (j := 18) (by decide) hvw (swx 18 24 (by decide) hvw ez_26 (by omega)); have n_DESTROY := wkn (x := 28259044220366713) (j := 19) (by decide) hvw (swx 19 25 (by decide) hvw ez_26 (by omega)); have n_NAME := wkn (x := 1851878757) (j := 21) (by decide) hvw (swx 21 27 (by decide) hvw ez_26 (by omega)); have n_AT := wkn (x := 24948) (j := 23) (by decide) hvw (swx 23 28 (by decide) hvw ez_26 (by omega)); have n_TYPE := wkn (x := 1954115685) (j := 24) (by decide) hvw (swx 24 29 (by decide) hvw ez_26 (by omega)); have n_VALUE := wkn (x := 508440638821) (j := 7) (by decide) hvw (swx 7 13 (by decide) hvw ez_26 (by omega)); omega)) _ _ _ hP hD hS (lv_sub hl [0, 1, 2] rfl)
end
section
theorem MK_w {k : Int64} (h : MK7 k.toInt) : ∃ j, j < 34 ∧ wKy.getD j 0 = k := by
  unfold MK7 at h
  have key : ∀ (x : Int64) (j : Nat), j < 34 → wKy.getD j 0 = x → k.toInt = x.toInt → ∃ j, j < 34 ∧ wKy.getD j 0 = k := fun x j hj hx e => ⟨j, hj, hx.trans (Int64.toInt_inj.mp e).symm⟩
  rcases h with e | e | e | e | e | e | e | e | e | e | e | e | e | e | e | e | e | e
  · exact key 1851878757 21 (by decide) (by decide) (e.trans (by decide))
  · exact key 29807 22 (by decide) (by decide) (e.trans (by decide))
  · exact key 26980 10 (by decide) (by decide) (e.trans (by decide))
  · exact key 7017298113369039732 13 (by decide) (by decide) (e.trans (by decide))
  · exact key 1818327673 15 (by decide) (by decide) (e.trans (by decide))
  · exact key 427020088179 11 (by decide) (by decide) (e.trans (by decide))
  · exact key 123563833388660 12 (by decide) (by decide) (e.trans (by decide))
  · exact key 495589486693 14 (by decide) (by decide) (e.trans (by decide))
  · exact key 28817527407604345 16 (by decide) (by decide) (e.trans (by decide))
  · exact key 120282512125796 17 (by decide) (by decide) (e.trans (by decide))
  · exact key 1768843636 18 (by decide) (by decide) (e.trans (by decide))
  · exact key 28259044220366713 19 (by decide) (by decide) (e.trans (by decide))
  · exact key 28259031083541619 20 (by decide) (by decide) (e.trans (by decide))
  · exact key 24948 23 (by decide) (by decide) (e.trans (by decide))
  · exact key 1954115685 24 (by decide) (by decide) (e.trans (by decide))
  · exact key 508440638821 7 (by decide) (by decide) (e.trans (by decide))
  · exact key 7497062 8 (by decide) (by decide) (e.trans (by decide))
  · exact key 1650811246 2 (by decide) (by decide) (e.trans (by decide))
theorem NEE_2 {D : List El7} {x : Nat} (h : dKd D x = 2) : NEE D x ↔ (aH (dAt D x) 1851878757 = 1 ∧ aH (dAt D x) 29807 = 1) := ⟨fun q => q.1.resolve_left (fun v => v h), fun p => ⟨Or.inr p, Or.inl (by omega), Or.inl (by omega), Or.inl (by omega), Or.inl (by omega)⟩⟩
theorem NEE_3 {D : List El7} {x : Nat} (h : dKd D x = 3) : NEE D x ↔ NBE D x := ⟨fun q => q.2.1.resolve_left (fun v => v h), fun p => ⟨Or.inl (by omega), Or.inr p, Or.inl (by omega), Or.inl (by omega), Or.inl (by omega)⟩⟩
theorem NEE_5 {D : List El7} {x : Nat} (h : dKd D x = 5) : NEE D x ↔ aH (dAt D x) 1851878757 = 1 := ⟨fun q => q.2.2.1.resolve_left (fun v => v h), fun p => ⟨Or.inl (by omega), Or.inl (by omega), Or.inr p, Or.inl (by omega), Or.inl (by omega)⟩⟩
theorem NEE_8 {D : List El7} {x : Nat} (h : dKd D x = 8) : NEE D x ↔ aH (dAt D x) 1650811246 = 1 := ⟨fun q => q.2.2.2.1.resolve_left (fun v => v h), fun p => ⟨Or.inl (by omega), Or.inl (by omega), Or.inl (by omega), Or.inr p, Or.inl (by omega)⟩⟩
theorem NEE_10 {D : List El7} {x : Nat} (h : dKd D x = 10) : NEE D x ↔ (aH (dAt D x) 1851878757 = 1 ∧ aH (dAt D x) 1650811246 = 1) := ⟨fun q => q.2.2.2.2.resolve_left (fun v => v h), fun p => ⟨Or.inl (by omega), Or.inl (by omega), Or.inl (by omega), Or.inl (by omega), Or.inr p⟩⟩
theorem NEE_0 {D : List El7} {x : Nat} (h : ¬ dKd D x = 2 ∧ ¬ dKd D x = 3 ∧ ¬ dKd D x = 5 ∧ ¬ dKd D x = 8 ∧ ¬ dKd D x = 10) : NEE D x := ⟨Or.inl h.1, Or.inl h.2.1, Or.inl h.2.2.1, Or.inl h.2.2.2.1, Or.inl h.2.2.2.2⟩

set_option maxHeartbeats 4000000 in
set_option maxRecDepth 100000 in
theorem d_attributeWord2 (l : Launch) (dC : Nat → ClassId) (dI : Nat → Nat → Nat) (ad : Nat → Nat → Nat) (cid : Nat → ClassId) (a2 : Nat → Nat) (lx : List Nat) (sg : Nat → Int32) (gm : Nat → Nat → Int32) (lg : Nat → Nat → Int64) (x : Int32) (i : Int32) (hI : CI sg gm) (hvx : iv 0 0 x) (hvi : iv 0 239 i) : CMt dC dI ad cid a2 lx l yX6_attributeWord wm_X6_attributeWord ({ frames := 1, cells := 1, slots := 6, locals := 25 }) [eV (ad 1) x, .int i] sg gm lg (fun v u => ∃ r : Int32, v = some (eV (ad 33) r) ∧ u = (sg, gm, lg) ∧ (iv (-1) 33 r) ∧ (WKR r (lg 0 i.toNatClampNeg))) (fun _ _ => False) := by
  intro sz
  refine vx_ofW (cc := cX6_attributeWord) (maxL := 2) (ret := (some (.object "WiredBeans$Word"))) (by decide) rfl ?_
  intro p e s m args below meth c s₁ B hml hxt hv
  obtain ⟨rfl, hsz, hP, hK, hD0, hG⟩ := hv
  have hx := B.exec
  have hb := B.bytes
  have hr := B.returns
  have hts := atoms_spec (ws := wm_X6_attributeWord) B.pre
  have htb := fun (w : Cond) (h : w ∈ tb) => hts w (List.mem_cons_of_mem _ h)
  have hown : s.vm.findClass RX6 = some m.cls := findClass_of_methodNamed B.named
  have hlocks := B.notSynchronized
  subst hsz
  have hD := hD0.self (sz := s.heap.size)
  generalize hAe : va_A (cW ad cid a2 lx sg gm lg) s.heap.size = A at hD hG ⊢
  have hA : ∀ q : Nat, s.heap.size ≤ q → A q := fun q h => by rw [← hAe]; exact Or.inr h
  have hS : va_S A s.heap s.heap [] := va_S.rf
  have hl := lv_entry ([eV (ad 1) x, .int i]) (n := 2) (by rw [show (lg_sl ([eV (ad 1) x, .int i])).length = 2 from by simp [lg_sl, eV_cat, cat_i, cat_l]]; exact Nat.le_of_ble_eq_true rfl)
  rw [lg_entry_eq]
  generalize (lg_sl ([eV (ad 1) x, .int i]) ++ List.replicate (2 - (lg_sl ([eV (ad 1) x, .int i])).length) Slot.unset).toArray = ls at hl ⊢
  have hl : lv_has ls 2 [(0, eV (ad 1) x), (1, .int i)] := by simp [lv_args, eV_cat, cat_i, cat_l] at hl; exact hl
  refine ec_aload_n hx hb dX6_attributeWord_0 rfl (lv_at hl 0 rfl) ?_
  refine cr_get (t := 1) (j := 1) (C := RX6) (T := TX6) (N := 8) (v := eV (ad 15) 0) hx hb htb inX6 hown hK hP hvx (by decide) (by decide) (by decide) rfl (by decide) (htb _ kw_299) (cV_c rfl (by decide) (by rw [show cMu 1 1 = 0 from rfl, Nat.zero_mul]; rfl)) dX6_attributeWord_1 ?_
  refine lv_iload_n hx hb dX6_attributeWord_4 rfl (lv_at hl 1 rfl) ?_
  refine cr_lald hx hb hK hP (iv_k (by decide) : iv 0 0 0) (show vp_in i 240 from (iv_in hvi (by decide))) dX6_attributeWord_5 ?_
  refine lv_topl (fun z_1 ez_1 => ?_)
  refine cm_callS (rest := []) (as := [.long z_1]) ⟨hx, hb, hml, hown, htb⟩ (d_withKey2 l dC dI ad cid a2 lx sg gm lg z_1 hI) (va_cwS 1 htb (gd_S kw_694 kw_583 kw_163 kw_1438) rfl rfl rfl (by decide +kernel) ⟨Nat.le_of_ble_eq_true rfl, Nat.le_of_ble_eq_true rfl⟩)  rfl hl.1 rfl (Nat.le_trans cs_n (by decide)) dX6_attributeWord_6 ⟨Nat.le_of_ble_eq_true rfl, Nat.le_of_ble_eq_true rfl⟩ hK hP hD hS hA hG (fun E ce q9 u_3 H locs hw hP hD hS hce hcv hcl => ?_) (fun v9 u_3 H locs hw hP hD hS => ?_)
  · exact hw.elim
  obtain ⟨r_2, rfl, rfl, hr_2, fW_r_2⟩ := hw
  have hP : va_P (dC, dI) vwCl (cW ad cid a2 lx sg gm lg) H := hP
  have hD : va_D A (cW ad cid a2 lx sg gm lg) := hD
  refine W.eq (g2 := F0 m 9 ls [eV (ad 33) r_2]) rfl ?_
  exact W.nb (fun hN => W.widen (k := 1) (n := 6) (by decide) (by decide) (vx_ret (W.aret (v := eV (ad 33) r_2) hx hb hr (Or.inl ⟨_, rfl⟩) (eV_is _ _) (fun t ht hW => ⟨⟨some (eV (ad 33) r_2), (sg, gm, lg), rfl, ⟨r_2, rfl, rfl, hr_2, ((by rw [← ez_1]; exact fW_r_2))⟩, by rw [ht]; exact hP, va_K.moved hW.alike hK, hD⟩, hS.F ht, by rw [ht]; exact hN⟩) hS.2.2 dX6_attributeWord_9)))

set_option maxHeartbeats 4000000 in
set_option maxRecDepth 100000 in
theorem d_hasRightAttributes2 (l : Launch) (dC : Nat → ClassId) (dI : Nat → Nat → Nat) (ad : Nat → Nat → Nat) (cid : Nat → ClassId) (a2 : Nat → Nat) (lx : List Nat) (sg : Nat → Int32) (gm : Nat → Nat → Int32) (lg : Nat → Nat → Int64) (x : Int32) (o : Int32) (D : List El7) (hI : CI sg gm) (hvx : iv 0 0 x) (hvo : iv 0 79 o) (hFA : FA sg gm) (how : o.toInt < (sg 4).toInt) (hVS : VS sg gm) (hw0 : 0 ≤ (gm 14 o.toNatClampNeg).toInt) (hEV : EV7 D sg gm lg o.toNatClampNeg) (hPA : PA7 (dAt D o.toNatClampNeg)) : CMt dC dI ad cid a2 lx l yX9_hasRightAttributes wm_X9_hasRightAttributes ({ frames := 4, cells := 1, slots := 6, locals := 97 }) [eV (ad 3) x, eV (ad 9) o] sg gm lg (fun v u => ∃ r : Int32, v = some (.int r) ∧ u = (sg, gm, lg) ∧ (iv 0 1 r) ∧ ((r.toInt = 1 ∧ (ATN D o.toNatClampNeg)) ∨ (r.toInt = 0 ∧ ¬ (ATN D o.toNatClampNeg)))) (fun _ _ => False) := by
  intro sz
  refine vx_ofW (cc := cX9_hasRightAttributes) (maxL := 4) (ret := (some .boolean)) (by decide) rfl ?_
  intro p e s m args below meth c s₁ B hml hxt hv
  obtain ⟨rfl, hsz, hP, hK, hD0, hG⟩ := hv
  have hx := B.exec
  have hb := B.bytes
  have hr := B.returns
  have hts := atoms_spec (ws := wm_X9_hasRightAttributes) B.pre
  have htb := fun (w : Cond) (h : w ∈ tb) => hts w (List.mem_cons_of_mem _ h)
  have hown : s.vm.findClass RX9 = some m.cls := findClass_of_methodNamed B.named
  have hlocks := B.notSynchronized
  subst hsz
  have hD := hD0.self (sz := s.heap.size)
  generalize hAe : va_A (cW ad cid a2 lx sg gm lg) s.heap.size = A at hD hG ⊢
  have hA : ∀ q : Nat, s.heap.size ≤ q → A q := fun q h => by rw [← hAe]; exact Or.inr h
  have hS : va_S A s.heap s.heap [] := va_S.rf
  have hl := lv_entry ([eV (ad 3) x, eV (ad 9) o]) (n := 4) (by rw [show (lg_sl ([eV (ad 3) x, eV (ad 9) o])).length = 2 from by simp [lg_sl, eV_cat, cat_i, cat_l]]; exact Nat.le_of_ble_eq_true rfl)
  rw [lg_entry_eq]
  generalize (lg_sl ([eV (ad 3) x, eV (ad 9) o]) ++ List.replicate (4 - (lg_sl ([eV (ad 3) x, eV (ad 9) o])).length) Slot.unset).toArray = ls at hl ⊢
  have hl : lv_has ls 4 [(0, eV (ad 3) x), (1, eV (ad 9) o)] := by simp [lv_args, eV_cat, cat_i, cat_l] at hl; exact hl
  have hj46 : ∀ (x3_46 : Int32) (x2_46 : Int32) (_ : iv (-1) 33 x3_46) (_ : iv 0 11 x2_46) (_ : iv 0 0 x) (_ : iv 0 79 o) (_ : ¬ ATN D o.toNatClampNeg) (H : Heap) (locs : List Loc) (ls : Array Slot), va_P (dC, dI) vwCl (cW ad cid a2 lx sg gm lg) H → va_D A (cW ad cid a2 lx sg gm lg) → va_S A s.heap H locs → lv_has ls 4 [(3, eV (ad 33) x3_46), (2, .int x2_46), (0, eV (ad 3) x), (1, eV (ad 9) o)] → W p l e (headSpec wm_X9_hasRightAttributes ({ frames := 4, cells := 1, slots := 6, locals := 97 })).room s m ([eV (ad 3) x, eV (ad 9) o] : List Value).toArray below meth c H locs 0 0 (vx_MQ below (cQx dC dI ad cid a2 lx (fun v u => ∃ r : Int32, v = some (.int r) ∧ u = (sg, gm, lg) ∧ (iv 0 1 r) ∧ ((r.toInt = 1 ∧ (ATN D o.toNatClampNeg)) ∨ (r.toInt = 0 ∧ ¬ (ATN D o.toNatClampNeg)))) A) (cX dC dI ad cid a2 lx (fun _ _ => False) A) ([eV (ad 3) x, eV (ad 9) o] : List Value).toArray s 1 6 A) (F0 m 46 ls []) := by
    intro x3_46 x2_46 hx3_46 hx2_46 hsx0_46 hsx1_46 u46 H locs ls hP hD hS hl
    refine lv_iconst (v := 0) hx hb dX9_hasRightAttributes_46 (by decide) ?_
    exact W.nb (fun hN => W.widen (k := 1) (n := 6) (by decide) (by decide) (vx_ret (W.zret (v := 0) hx hb hr (iv_nb (iv_w (iv_k (by decide) : iv 0 0 0) (by decide))) (fun t ht hW => ⟨⟨some (.int 0), (sg, gm, lg), rfl, ⟨0, rfl, rfl, (iv_w (iv_k (by decide) : iv 0 0 0) (by decide)), (Or.inr ⟨rfl, u46⟩)⟩, by rw [ht]; exact hP, va_K.moved hW.alike hK, hD⟩, hS.F ht, by rw [ht]; exact hN⟩) hS.2.2 dX9_hasRightAttributes_47)))
  have hj2 : ∀ (n : Nat) (x2_2 : Int32) (_ : (12 - x2_2.toInt).toNat = n) (_ : iv 0 12 x2_2) (_ : iv 0 0 x) (_ : iv 0 79 o) (_ : ∀ (i : Nat) (y : Int64 × List Int), i < x2_2.toNatClampNeg → (dAt D o.toNatClampNeg)[i]? = some y → MAY (dKd D o.toNatClampNeg) (dIn D o.toNatClampNeg) y.1.toInt ∧ RVL (dKd D o.toNatClampNeg) (dAt D o.toNatClampNeg) y.1) (H : Heap) (locs : List Loc) (ls : Array Slot), va_P (dC, dI) vwCl (cW ad cid a2 lx sg gm lg) H → va_D A (cW ad cid a2 lx sg gm lg) → va_S A s.heap H locs → lv_has ls 4 [(2, .int x2_2), (0, eV (ad 3) x), (1, eV (ad 9) o)] → W p l e (headSpec wm_X9_hasRightAttributes ({ frames := 4, cells := 1, slots := 6, locals := 97 })).room s m ([eV (ad 3) x, eV (ad 9) o] : List Value).toArray below meth c H locs 0 0 (vx_MQ below (cQx dC dI ad cid a2 lx (fun v u => ∃ r : Int32, v = some (.int r) ∧ u = (sg, gm, lg) ∧ (iv 0 1 r) ∧ ((r.toInt = 1 ∧ (ATN D o.toNatClampNeg)) ∨ (r.toInt = 0 ∧ ¬ (ATN D o.toNatClampNeg)))) A) (cX dC dI ad cid a2 lx (fun _ _ => False) A) ([eV (ad 3) x, eV (ad 9) o] : List Value).toArray s 1 6 A) (F0 m 2 ls []) := by
    intro n
    induction n using Nat.strongRecOn with
    | ind n ih2 =>
      intro x2_2 hn2 hx2_2 hsx0_2 hsx1_2 hA9 H locs ls hP hD hS hl
      refine lv_iload_n hx hb dX9_hasRightAttributes_2 rfl (lv_at hl 0 rfl) ?_
      refine ec_aload_n hx hb dX9_hasRightAttributes_3 rfl (lv_at hl 2 rfl) ?_
      refine cr_get (t := 9) (j := 10) (C := RX3) (T := TX3) (N := 21) (v := .int (gm 20 o.toNatClampNeg)) hx hb htb inX3 hown hK hP hsx1_2 (by decide) (by decide) (by decide) rfl (by decide) (htb _ kw_266) rfl dX9_hasRightAttributes_4 ?_
      obtain ⟨z_1, ez_1⟩ : ∃ z : Int32, z = (gm 20 o.toNatClampNeg) := ⟨_, rfl⟩
      refine W.eq (g2 := F0 m 7 ls [.int z_1, .int x2_2]) (by rw [ez_1]) ?_
      have hz_1 : iv 0 12 z_1 := iv_of ez_1 (CI_a hI 20 hsx1_2 (by decide))
      refine lv_icmp_ge (tgt := 54) hx hb dX9_hasRightAttributes_7 (by decide) (fun c_2 => ?_) (fun c_2 => ?_)
      · have d_3 : (z_1 : Int32).toInt ≤ (x2_2 : Int32).toInt := Int32.le_iff_toInt_le.mp c_2
        refine lv_iconst (v := 1) hx hb dX9_hasRightAttributes_54 (by decide) ?_
        exact W.nb (fun hN => W.widen (k := 1) (n := 6) (by decide) (by decide) (vx_ret (W.zret (v := 1) hx hb hr (iv_nb (iv_w (iv_k (by decide) : iv 1 1 1) (by decide))) (fun t ht hW => ⟨⟨some (.int 1), (sg, gm, lg), rfl, ⟨1, rfl, rfl, (iv_w (iv_k (by decide) : iv 1 1 1) (by decide)), (Or.inl ⟨rfl, fun y hy => by obtain ⟨i, hi, he⟩ := List.mem_iff_getElem.mp hy; exact hA9 i y (by have := hEV.2.1.1; have := iv_cl hx2_2 (by decide); have := congrArg Int32.toInt ez_1; have := i32_0; have := i32_1; have := i32_2; have := i32_m1; have := (hsx0_2).1; have := (hsx0_2).2; have := (hsx1_2).1; have := (hsx1_2).2; have := (hx2_2).1; have := (hx2_2).2; have := (hz_1).1; have := (hz_1).2; omega) (by rw [List.getElem?_eq_getElem hi, he])⟩)⟩, by rw [ht]; exact hP, va_K.moved hW.alike hK, hD⟩, hS.F ht, by rw [ht]; exact hN⟩) hS.2.2 dX9_hasRightAttributes_55)))
      · have d_4 : (x2_2 : Int32).toInt < (z_1 : Int32).toInt := Int32.lt_iff_toInt_lt.mp (i32_lt c_2)
        have h_5 : iv 0 11 x2_2 := iv_ltL (i32_lt c_2) hx2_2 hz_1 (by decide)
        have h_6 : iv 1 12 z_1 := iv_ltR (i32_lt c_2) hx2_2 hz_1 (by decide)
        refine ec_aload_n hx hb dX9_hasRightAttributes_10 rfl (lv_at hl 1 rfl) ?_
        refine cr_get (t := 3) (j := 0) (C := RX9) (T := TX9) (N := 1) (v := eV (ad 1) 0) hx hb htb inX9 hown hK hP hsx0_2 (by decide) (by decide) (by decide) rfl (by decide) (htb _ kw_323) (cV_c rfl (by decide) (by rw [show cMu 3 0 = 0 from rfl, Nat.zero_mul]; rfl)) dX9_hasRightAttributes_11 ?_
        refine ec_aload_n hx hb dX9_hasRightAttributes_14 rfl (lv_at hl 2 rfl) ?_
        refine cr_get (t := 9) (j := 9) (C := RX3) (T := TX3) (N := 21) (v := .int (gm 19 o.toNatClampNeg)) hx hb htb inX3 hown hK hP hsx1_2 (by decide) (by decide) (by decide) rfl (by decide) (htb _ kw_262) rfl dX9_hasRightAttributes_15 ?_
        obtain ⟨z_7, ez_7⟩ : ∃ z : Int32, z = (gm 19 o.toNatClampNeg) := ⟨_, rfl⟩
        refine W.eq (g2 := F0 m 18 ls [.int z_7, eV (ad 1) 0]) (by rw [ez_7]) ?_
        have hz_7 : iv 0 240 z_7 := iv_of ez_7 (CI_a hI 19 hsx1_2 (by decide))
        refine lv_iload_n hx hb dX9_hasRightAttributes_18 rfl (lv_at hl 0 rfl) ?_
        have hfa9 : (z_7 : Int32).toInt + (z_1 : Int32).toInt ≤ (sg 5).toInt := by rw [ez_7, ez_1]; exact hFA _ (lt_cl hvo (show iv 0 80 (sg 4) from CI_s hI 4) (by decide) (by decide) how)
        refine lv_iadd hx hb dX9_hasRightAttributes_19 ?_
        refine lv_topi (fun z_8 ez_8 => ?_)
        have hz_8 : iv 0 251 z_8 := iv_of ez_8 (iv_add hz_7 h_5 (by decide))
        have tz_8 : z_8.toInt = (z_7 : Int32).toInt + (x2_2 : Int32).toInt := by rw [ez_8]; exact iv_addE hz_7 h_5 (by decide)
        have h_9 : iv 0 239 z_8 := ⟨by have := i32_0; have := i32_1; have := i32_2; have := i32_m1; have := (show iv 0 240 (sg 5) from CI_s hI 5).1; have := (show iv 0 240 (sg 5) from CI_s hI 5).2; have := (hsx0_2).1; have := (hsx0_2).2; have := (hsx1_2).1; have := (hsx1_2).2; have := (h_5).1; have := (h_5).2; have := (h_6).1; have := (h_6).2; have := (hz_7).1; have := (hz_7).2; have := (hz_8).1; have := (hz_8).2; omega, by have := i32_0; have := i32_1; have := i32_2; have := i32_m1; have := (show iv 0 240 (sg 5) from CI_s hI 5).1; have := (show iv 0 240 (sg 5) from CI_s hI 5).2; have := (hsx0_2).1; have := (hsx0_2).2; have := (hsx1_2).1; have := (hsx1_2).2; have := (h_5).1; have := (h_5).2; have := (h_6).1; have := (h_6).2; have := (hz_7).1; have := (hz_7).2; have := (hz_8).1; have := (hz_8).2; omega⟩
        refine cm_callV (t := 1) (C := RX6) (T := TX6) (N := 8) (rest := []) (as := [.int z_8]) ⟨hx, hb, hml, hown, htb⟩ (d_attributeWord2 l dC dI ad cid a2 lx sg gm lg 0 z_8 hI (iv_k (by decide) : iv 0 0 0) h_9) (cwV 1 htb (gd_V kw_691 kw_692 kw_693 kw_149 kw_1478) rfl rfl rfl (by decide +kernel) ⟨Nat.le_of_ble_eq_true rfl, Nat.le_of_ble_eq_true rfl⟩) (iv_k (by decide) : iv 0 0 0) (by decide) (by decide) rfl rfl hl.1 rfl (Nat.le_trans cs_n (by decide)) dX9_hasRightAttributes_20 ⟨Nat.le_of_ble_eq_true rfl, Nat.le_of_ble_eq_true rfl⟩ hK hP hD hS hA hG (fun E ce q9 u_11 H locs hw hP hD hS hce hcv hcl => ?_) (fun v9 u_11 H locs hw hP hD hS => ?_)
        · exact hw.elim
        obtain ⟨r_10, rfl, rfl, hr_10, fA_r_10⟩ := hw
        have hP : va_P (dC, dI) vwCl (cW ad cid a2 lx sg gm lg) H := hP
        have hD : va_D A (cW ad cid a2 lx sg gm lg) := hD
        refine W.eq (g2 := F0 m 23 ls [eV (ad 33) r_10]) rfl ?_
        refine ec_astore_n (i := 3) (lv' := [(3, eV (ad 33) r_10), (2, .int x2_2), (0, eV (ad 3) x), (1, eV (ad 9) o)]) hx hb dX9_hasRightAttributes_23 rfl hl (by decide) rfl (fun ls hl => ?_)
        obtain ⟨yy, hyy⟩ : ∃ y, (dAt D o.toNatClampNeg)[x2_2.toNatClampNeg]? = some y := ⟨_, List.getElem?_eq_getElem (show x2_2.toNatClampNeg < (dAt D o.toNatClampNeg).length from (by have := hEV.2.1.1; have := iv_cl h_5 (by decide); have := congrArg Int32.toInt ez_1; have := i32_0; have := i32_1; have := i32_2; have := i32_m1; have := (hsx0_2).1; have := (hsx0_2).2; have := (hsx1_2).1; have := (hsx1_2).2; have := (h_5).1; have := (h_5).2; have := (h_6).1; have := (h_6).2; have := (hz_7).1; have := (hz_7).2; have := (h_9).1; have := (h_9).2; have := (hr_10).1; have := (hr_10).2; omega))⟩
        have hwk : WKR r_10 yy.1 := by have q9 := fA_r_10; rw [cl_add hz_7 h_5 (by decide) (by decide) tz_8, ez_7] at q9; rw [show lg 0 ((gm 19 o.toNatClampNeg).toNatClampNeg + x2_2.toNatClampNeg) = yy.1 from (hEV.2.1.2.2.2 _ _ hyy).1] at q9; exact q9
        refine ec_aload_n hx hb dX9_hasRightAttributes_24 rfl (lv_at hl 0 rfl) ?_
        refine ec_ifnull (tgt := 46) hx hb dX9_hasRightAttributes_25 (by decide) (fun c_13 => ?_) (fun c_13 => ?_)
        · have h_14 : iv (-1) (-1) r_10 := ⟨(hr_10).1, by omega⟩
          exact hj46 r_10 x2_2 (iv_w h_14 (by decide)) h_5 hsx0_2 hsx1_2 ((fun h => by have q9 := (hwk.resolve_left (fun q8 => absurd q8.1 (by have := i32_0; have := i32_1; have := i32_2; have := i32_m1; have := (hsx0_2).1; have := (hsx0_2).2; have := (hsx1_2).1; have := (hsx1_2).2; have := (h_5).1; have := (h_5).2; have := (h_6).1; have := (h_6).2; have := (hz_7).1; have := (hz_7).2; have := (h_9).1; have := (h_9).2; have := (h_14).1; have := (h_14).2; omega))).2; obtain ⟨j, j1, j2⟩ := MK_w (MAY_k (h yy (List.mem_of_getElem? hyy)).1); exact q9 j j1 j2)) _ _ _ hP hD hS (lv_sub hl [0, 1, 2, 3] rfl)
        · have h_15 : iv 0 33 r_10 := ⟨c_13, (hr_10).2⟩
          refine ec_aload_n hx hb dX9_hasRightAttributes_28 rfl (lv_at hl 2 rfl) ?_
          refine ec_aload_n hx hb dX9_hasRightAttributes_29 rfl (lv_at hl 3 rfl) ?_
          refine ec_aload_n hx hb dX9_hasRightAttributes_30 rfl (lv_at hl 0 rfl) ?_
          refine cm_callV (t := 3) (C := RX9) (T := TX9) (N := 1) (rest := []) (as := [eV (ad 9) o, eV (ad 33) r_10]) ⟨hx, hb, hml, hown, htb⟩ (d_mayHave2 l dC dI ad cid a2 lx sg gm lg x o r_10 D hI hsx0_2 hsx1_2 h_15 (by first | assumption | decide) hEV) (cwV 2 htb (gd_V kw_695 kw_696 kw_29 kw_152 kw_1479) rfl rfl rfl (by decide +kernel) ⟨Nat.le_of_ble_eq_true rfl, Nat.le_of_ble_eq_true rfl⟩) hsx0_2 (by decide) (by decide) rfl rfl hl.1 rfl (Nat.le_trans cs_n (by decide)) dX9_hasRightAttributes_31 ⟨Nat.le_of_ble_eq_true rfl, Nat.le_of_ble_eq_true rfl⟩ hK hP hD hS hA hG (fun E ce q9 u_17 H locs hw hP hD hS hce hcv hcl => ?_) (fun v9 u_17 H locs hw hP hD hS => ?_)
          · exact hw.elim
          obtain ⟨r_16, rfl, rfl, hr_16, fM_r_16⟩ := hw
          have hP : va_P (dC, dI) vwCl (cW ad cid a2 lx sg gm lg) H := hP
          have hD : va_D A (cW ad cid a2 lx sg gm lg) := hD
          refine W.eq (g2 := F0 m 34 ls [.int r_16]) rfl ?_
          refine lv_if_eq (tgt := 46) hx hb dX9_hasRightAttributes_34 (by decide) (fun c_19 => ?_) (fun c_19 => ?_)
          · have h_20 : iv 0 0 r_16 := iv_eq c_19 hr_16 (iv_k (by decide) : iv 0 0 0) (by decide)
            exact hj46 r_10 x2_2 (iv_w h_15 (by decide)) h_5 hsx0_2 hsx1_2 ((fun h => (fM_r_16.resolve_left (fun q8 => absurd q8.1 (by have := i32_0; have := i32_1; have := i32_2; have := i32_m1; have := (hsx0_2).1; have := (hsx0_2).2; have := (hsx1_2).1; have := (hsx1_2).2; have := (h_5).1; have := (h_5).2; have := (h_6).1; have := (h_6).2; have := (hz_7).1; have := (hz_7).2; have := (h_9).1; have := (h_9).2; have := (h_15).1; have := (h_15).2; have := (h_20).1; have := (h_20).2; omega))).2 (by rw [(hwk.resolve_right (fun q8 => absurd q8.1 (by have := i32_0; have := i32_1; have := i32_2; have := i32_m1; have := (hsx0_2).1; have := (hsx0_2).2; have := (hsx1_2).1; have := (hsx1_2).2; have := (h_5).1; have := (h_5).2; have := (h_6).1; have := (h_6).2; have := (hz_7).1; have := (hz_7).2; have := (h_9).1; have := (h_9).2; have := (h_15).1; have := (h_15).2; have := (h_20).1; have := (h_20).2; omega))).2.2]; exact (h yy (List.mem_of_getElem? hyy)).1))) _ _ _ hP hD hS (lv_sub hl [0, 1, 2, 3] rfl)
          · have h_21 : iv 1 1 r_16 := iv_neL c_19 hr_16 (by decide)
            refine ec_aload_n hx hb dX9_hasRightAttributes_37 rfl (lv_at hl 2 rfl) ?_
            refine ec_aload_n hx hb dX9_hasRightAttributes_38 rfl (lv_at hl 3 rfl) ?_
            refine ec_aload_n hx hb dX9_hasRightAttributes_39 rfl (lv_at hl 0 rfl) ?_
            refine cm_callV (t := 3) (C := RX9) (T := TX9) (N := 1) (rest := []) (as := [eV (ad 9) o, eV (ad 33) r_10]) ⟨hx, hb, hml, hown, htb⟩ (d_hasRightValue2 l dC dI ad cid a2 lx sg gm lg x o r_10 D hI hsx0_2 hsx1_2 h_15 hFA how hVS (by first | assumption | decide) hEV hPA (MAY_k (fM_r_16.resolve_right (fun q8 => absurd q8.1 (by have := i32_0; have := i32_1; have := i32_2; have := i32_m1; have := (hsx0_2).1; have := (hsx0_2).2; have := (hsx1_2).1; have := (hsx1_2).2; have := (h_5).1; have := (h_5).2; have := (h_6).1; have := (h_6).2; have := (hz_7).1; have := (hz_7).2; have := (h_9).1; have := (h_9).2; have := (h_15).1; have := (h_15).2; have := (h_21).1; have := (h_21).2; omega))).2)) (cwV 2 htb (gd_V kw_704 kw_705 kw_31 kw_152 kw_1481) rfl rfl rfl (by decide +kernel) ⟨Nat.le_of_ble_eq_true rfl, Nat.le_of_ble_eq_true rfl⟩) hsx0_2 (by decide) (by decide) rfl rfl hl.1 rfl (Nat.le_trans cs_n (by decide)) dX9_hasRightAttributes_40 ⟨Nat.le_of_ble_eq_true rfl, Nat.le_of_ble_eq_true rfl⟩ hK hP hD hS hA hG (fun E ce q9 u_23 H locs hw hP hD hS hce hcv hcl => ?_) (fun v9 u_23 H locs hw hP hD hS => ?_)
            · exact hw.elim
            obtain ⟨r_22, rfl, rfl, hr_22, fV_r_22⟩ := hw
            have hP : va_P (dC, dI) vwCl (cW ad cid a2 lx sg gm lg) H := hP
            have hD : va_D A (cW ad cid a2 lx sg gm lg) := hD
            refine W.eq (g2 := F0 m 43 ls [.int r_22]) rfl ?_
            refine lv_if_ne (tgt := 48) hx hb dX9_hasRightAttributes_43 (by decide) (fun c_25 => ?_) (fun c_25 => ?_)
            · have h_26 : iv 1 1 r_22 := iv_neL c_25 hr_22 (by decide)
              obtain ⟨z_27, ez_27⟩ : ∃ z : Int32, z = x2_2 + 1 := ⟨_, rfl⟩
              have hz_27 : iv 1 12 z_27 := iv_of ez_27 (iv_add h_5 (iv_k (by decide) : iv 1 1 1) (by decide))
              have tz_27 : z_27.toInt = x2_2.toInt + 1 := by rw [ez_27]; exact iv_addE h_5 (iv_k (by decide) : iv 1 1 1) (by decide)
              refine lv_iinc (v := z_27) (lv' := [(2, .int z_27), (3, eV (ad 33) r_10), (0, eV (ad 3) x), (1, eV (ad 9) o)]) hx hb dX9_hasRightAttributes_48 hl (k := 1) rfl ez_27.symm (by decide) (by simp [List.filter, eV_cat, cat_i, cat_l]) (fun ls hl => ?_)
              refine lv_goto (tgt := 2) hx hb dX9_hasRightAttributes_51 (by decide) ?_
              exact ih2 _ (by rw [← hn2]; exact (iv_meas tz_27 h_5 (by decide))) z_27 rfl (iv_w hz_27 (by decide)) hsx0_2 hsx1_2 ((fun i y hi hy => by rw [s_cl h_5 (by decide) tz_27] at hi; by_cases hq : i = x2_2.toNatClampNeg; (rw [hq, hyy] at hy; cases hy; rw [← (hwk.resolve_right (fun q8 => absurd q8.1 (by have := i32_0; have := i32_1; have := i32_2; have := i32_m1; have := (hsx0_2).1; have := (hsx0_2).2; have := (hsx1_2).1; have := (hsx1_2).2; have := (h_5).1; have := (h_5).2; have := (h_6).1; have := (h_6).2; have := (hz_7).1; have := (hz_7).2; have := (h_9).1; have := (h_9).2; have := (h_15).1; have := (h_15).2; have := (h_21).1; have := (h_21).2; have := (h_26).1; have := (h_26).2; have := (hz_27).1; have := (hz_27).2; omega))).2.2]; exact ⟨(fM_r_16.resolve_right (fun q8 => absurd q8.1 (by have := i32_0; have := i32_1; have := i32_2; have := i32_m1; have := (hsx0_2).1; have := (hsx0_2).2; have := (hsx1_2).1; have := (hsx1_2).2; have := (h_5).1; have := (h_5).2; have := (h_6).1; have := (h_6).2; have := (hz_7).1; have := (hz_7).2; have := (h_9).1; have := (h_9).2; have := (h_15).1; have := (h_15).2; have := (h_21).1; have := (h_21).2; have := (h_26).1; have := (h_26).2; have := (hz_27).1; have := (hz_27).2; omega))).2, (fV_r_22.resolve_right (fun q8 => absurd q8.1 (by have := i32_0; have := i32_1; have := i32_2; have := i32_m1; have := (hsx0_2).1; have := (hsx0_2).2; have := (hsx1_2).1; have := (hsx1_2).2; have := (h_5).1; have := (h_5).2; have := (h_6).1; have := (h_6).2; have := (hz_7).1; have := (hz_7).2; have := (h_9).1; have := (h_9).2; have := (h_15).1; have := (h_15).2; have := (h_21).1; have := (h_21).2; have := (h_26).1; have := (h_26).2; have := (hz_27).1; have := (hz_27).2; omega))).2⟩); exact hA9 i y (by omega) hy)) _ _ _ hP hD hS (lv_sub hl [0, 2, 3] rfl)
            · have h_28 : iv 0 0 r_22 := iv_eq c_25 hr_22 (iv_k (by decide) : iv 0 0 0) (by decide)
              exact hj46 r_10 x2_2 (iv_w h_15 (by decide)) h_5 hsx0_2 hsx1_2 ((fun h => (fV_r_22.resolve_left (fun q8 => absurd q8.1 (by have := i32_0; have := i32_1; have := i32_2; have := i32_m1; have := (hsx0_2).1; have := (hsx0_2).2; have := (hsx1_2).1; have := (hsx1_2).2; have := (h_5).1; have := (h_5).2; have := (h_6).1; have := (h_6).2; have := (hz_7).1; have := (hz_7).2; have := (h_9).1; have := (h_9).2; have := (h_15).1; have := (h_15).2; have := (h_21).1; have := (h_21).2; have := (h_28).1; have := (h_28).2; omega))).2 (by rw [(hwk.resolve_right (fun q8 => absurd q8.1 (by have := i32_0; have := i32_1; have := i32_2; have := i32_m1; have := (hsx0_2).1; have := (hsx0_2).2; have := (hsx1_2).1; have := (hsx1_2).2; have := (h_5).1; have := (h_5).2; have := (h_6).1; have := (h_6).2; have := (hz_7).1; have := (hz_7).2; have := (h_9).1; have := (h_9).2; have := (h_15).1; have := (h_15).2; have := (h_21).1; have := (h_21).2; have := (h_28).1; have := (h_28).2; omega))).2.2]; exact (h yy (List.mem_of_getElem? hyy)).2))) _ _ _ hP hD hS (lv_sub hl [0, 1, 2, 3] rfl)
  refine lv_iconst (v := 0) hx hb dX9_hasRightAttributes_0 (by decide) ?_
  refine lv_istore_n (i := 2) (lv' := [(2, .int 0), (0, eV (ad 3) x), (1, eV (ad 9) o)]) hx hb dX9_hasRightAttributes_1 rfl hl (by decide) (by simp [List.filter, eV_cat, cat_i, cat_l]) (fun ls hl => ?_)
  exact hj2 _ 0 rfl (iv_w (iv_k (by decide) : iv 0 0 0) (by decide)) hvx hvo ((fun i y hi => absurd hi (Nat.not_lt_zero _))) _ _ _ hP hD hS (lv_sub hl [0, 1, 2] rfl)
end
section
set_option maxHeartbeats 4000000 in
set_option maxRecDepth 100000 in
theorem d_beanHas2 (l : Launch) (dC : Nat → ClassId) (dI : Nat → Nat → Nat) (ad : Nat → Nat → Nat) (cid : Nat → ClassId) (a2 : Nat → Nat) (lx : List Nat) (sg : Nat → Int32) (gm : Nat → Nat → Int32) (lg : Nat → Nat → Int64) (x : Int32) (o : Int32) (D : List El7) (hI : CI sg gm) (hvx : iv 0 0 x) (hvo : iv 0 79 o) (hFA : FA sg gm) (how : o.toInt < (sg 4).toInt) (hVS : VS sg gm) (hEV : EV7 D sg gm lg o.toNatClampNeg) : CMt dC dI ad cid a2 lx l yX9_beanHasWhatItNeeds wm_X9_beanHasWhatItNeeds ({ frames := 3, cells := 1, slots := 6, locals := 74 }) [eV (ad 3) x, eV (ad 9) o] sg gm lg (fun v u => ∃ r : Int32, v = some (.int r) ∧ u = (sg, gm, lg) ∧ (iv 0 1 r) ∧ ((r.toInt = 1 ∧ (NBE D o.toNatClampNeg)) ∨ (r.toInt = 0 ∧ ¬ (NBE D o.toNatClampNeg)))) (fun _ _ => False) := by
  intro sz
  refine vx_ofW (cc := cX9_beanHasWhatItNeeds) (maxL := 2) (ret := (some .boolean)) (by decide) rfl ?_
  intro p e s m args below meth c s₁ B hml hxt hv
  obtain ⟨rfl, hsz, hP, hK, hD0, hG⟩ := hv
  have hx := B.exec
  have hb := B.bytes
  have hr := B.returns
  have hts := atoms_spec (ws := wm_X9_beanHasWhatItNeeds) B.pre
  have htb := fun (w : Cond) (h : w ∈ tb) => hts w (List.mem_cons_of_mem _ h)
  have hown : s.vm.findClass RX9 = some m.cls := findClass_of_methodNamed B.named
  have hlocks := B.notSynchronized
  subst hsz
  have hD := hD0.self (sz := s.heap.size)
  generalize hAe : va_A (cW ad cid a2 lx sg gm lg) s.heap.size = A at hD hG ⊢
  have hA : ∀ q : Nat, s.heap.size ≤ q → A q := fun q h => by rw [← hAe]; exact Or.inr h
  have hS : va_S A s.heap s.heap [] := va_S.rf
  have hl := lv_entry ([eV (ad 3) x, eV (ad 9) o]) (n := 2) (by rw [show (lg_sl ([eV (ad 3) x, eV (ad 9) o])).length = 2 from by simp [lg_sl, eV_cat, cat_i, cat_l]]; exact Nat.le_of_ble_eq_true rfl)
  rw [lg_entry_eq]
  generalize (lg_sl ([eV (ad 3) x, eV (ad 9) o]) ++ List.replicate (2 - (lg_sl ([eV (ad 3) x, eV (ad 9) o])).length) Slot.unset).toArray = ls at hl ⊢
  have hl : lv_has ls 2 [(0, eV (ad 3) x), (1, eV (ad 9) o)] := by simp [lv_args, eV_cat, cat_i, cat_l] at hl; exact hl
  have hj120 : ∀ (y0_120 : Int32) (_ : iv 0 0 x) (_ : iv 0 79 o) (_ : iv 0 1 y0_120) (_ : (y0_120.toInt = 1 ∧ (NBE D o.toNatClampNeg)) ∨ (y0_120.toInt = 0 ∧ ¬ (NBE D o.toNatClampNeg))) (H : Heap) (locs : List Loc) (ls : Array Slot), va_P (dC, dI) vwCl (cW ad cid a2 lx sg gm lg) H → va_D A (cW ad cid a2 lx sg gm lg) → va_S A s.heap H locs → lv_has ls 2 [(0, eV (ad 3) x), (1, eV (ad 9) o)] → W p l e (headSpec wm_X9_beanHasWhatItNeeds ({ frames := 3, cells := 1, slots := 6, locals := 74 })).room s m ([eV (ad 3) x, eV (ad 9) o] : List Value).toArray below meth c H locs 0 0 (vx_MQ below (cQx dC dI ad cid a2 lx (fun v u => ∃ r : Int32, v = some (.int r) ∧ u = (sg, gm, lg) ∧ (iv 0 1 r) ∧ ((r.toInt = 1 ∧ (NBE D o.toNatClampNeg)) ∨ (r.toInt = 0 ∧ ¬ (NBE D o.toNatClampNeg)))) A) (cX dC dI ad cid a2 lx (fun _ _ => False) A) ([eV (ad 3) x, eV (ad 9) o] : List Value).toArray s 1 6 A) (F0 m 120 ls [.int y0_120]) := by
    intro y0_120 hsx0_120 hsx1_120 hy0_120 u120 H locs ls hP hD hS hl
    exact W.nb (fun hN => W.widen (k := 1) (n := 6) (by decide) (by decide) (vx_ret (W.zret (v := y0_120) hx hb hr (iv_nb hy0_120) (fun t ht hW => ⟨⟨some (.int y0_120), (sg, gm, lg), rfl, ⟨y0_120, rfl, rfl, hy0_120, (u120)⟩, by rw [ht]; exact hP, va_K.moved hW.alike hK, hD⟩, hS.F ht, by rw [ht]; exact hN⟩) hS.2.2 dX9_beanHasWhatItNeeds_120)))
  have hj115 : ∀ (_ : iv 0 0 x) (_ : iv 0 79 o) (_ : (¬ dIn D o.toNatClampNeg = 1 ∨ aH (dAt D o.toNatClampNeg) 26980 = 1)) (_ : (aH (dAt D o.toNatClampNeg) 28817527407604345 = 0 ∨ aH (dAt D o.toNatClampNeg) 120282512125796 = 1)) (_ : (nv7 (dAt D o.toNatClampNeg) 7017298113369039732 = 7955827 ∨ aH (dAt D o.toNatClampNeg) 427020088179 = 1 ∨ aH (dAt D o.toNatClampNeg) 123563833388660 = 1 ∨ aH (dAt D o.toNatClampNeg) 28817527407604345 = 1)) (H : Heap) (locs : List Loc) (ls : Array Slot), va_P (dC, dI) vwCl (cW ad cid a2 lx sg gm lg) H → va_D A (cW ad cid a2 lx sg gm lg) → va_S A s.heap H locs → lv_has ls 2 [(0, eV (ad 3) x), (1, eV (ad 9) o)] → W p l e (headSpec wm_X9_beanHasWhatItNeeds ({ frames := 3, cells := 1, slots := 6, locals := 74 })).room s m ([eV (ad 3) x, eV (ad 9) o] : List Value).toArray below meth c H locs 0 0 (vx_MQ below (cQx dC dI ad cid a2 lx (fun v u => ∃ r : Int32, v = some (.int r) ∧ u = (sg, gm, lg) ∧ (iv 0 1 r) ∧ ((r.toInt = 1 ∧ (NBE D o.toNatClampNeg)) ∨ (r.toInt = 0 ∧ ¬ (NBE D o.toNatClampNeg)))) A) (cX dC dI ad cid a2 lx (fun _ _ => False) A) ([eV (ad 3) x, eV (ad 9) o] : List Value).toArray s 1 6 A) (F0 m 115 ls []) := by
    intro  hsx0_115 hsx1_115 u26 u56 u115 H locs ls hP hD hS hl
    refine lv_iconst (v := 1) hx hb dX9_beanHasWhatItNeeds_115 (by decide) ?_
    refine lv_goto (tgt := 120) hx hb dX9_beanHasWhatItNeeds_116 (by decide) ?_
    exact hj120 1 hsx0_115 hsx1_115 (iv_w (iv_k (by decide) : iv 1 1 1) (by decide)) (Or.inl ⟨rfl, u26, u56, u115⟩) _ _ _ hP hD hS (lv_sub hl [0, 1] rfl)
  have hj56 : ∀ (_ : iv 0 0 x) (_ : iv 0 79 o) (_ : (¬ dIn D o.toNatClampNeg = 1 ∨ aH (dAt D o.toNatClampNeg) 26980 = 1)) (_ : (aH (dAt D o.toNatClampNeg) 28817527407604345 = 0 ∨ aH (dAt D o.toNatClampNeg) 120282512125796 = 1)) (H : Heap) (locs : List Loc) (ls : Array Slot), va_P (dC, dI) vwCl (cW ad cid a2 lx sg gm lg) H → va_D A (cW ad cid a2 lx sg gm lg) → va_S A s.heap H locs → lv_has ls 2 [(0, eV (ad 3) x), (1, eV (ad 9) o)] → W p l e (headSpec wm_X9_beanHasWhatItNeeds ({ frames := 3, cells := 1, slots := 6, locals := 74 })).room s m ([eV (ad 3) x, eV (ad 9) o] : List Value).toArray below meth c H locs 0 0 (vx_MQ below (cQx dC dI ad cid a2 lx (fun v u => ∃ r : Int32, v = some (.int r) ∧ u = (sg, gm, lg) ∧ (iv 0 1 r) ∧ ((r.toInt = 1 ∧ (NBE D o.toNatClampNeg)) ∨ (r.toInt = 0 ∧ ¬ (NBE D o.toNatClampNeg)))) A) (cX dC dI ad cid a2 lx (fun _ _ => False) A) ([eV (ad 3) x, eV (ad 9) o] : List Value).toArray s 1 6 A) (F0 m 56 ls []) := by
    intro  hsx0_56 hsx1_56 u26 u56 H locs ls hP hD hS hl
    refine ec_aload_n hx hb dX9_beanHasWhatItNeeds_56 rfl (lv_at hl 0 rfl) ?_
    refine cr_get (t := 3) (j := 0) (C := RX9) (T := TX9) (N := 1) (v := eV (ad 1) 0) hx hb htb inX9 hown hK hP hsx0_56 (by decide) (by decide) (by decide) rfl (by decide) (htb _ kw_323) (cV_c rfl (by decide) (by rw [show cMu 3 0 = 0 from rfl, Nat.zero_mul]; rfl)) dX9_beanHasWhatItNeeds_57 ?_
    refine ec_aload_n hx hb dX9_beanHasWhatItNeeds_60 rfl (lv_at hl 1 rfl) ?_
    refine cw_word (k := 13) (kx := 13) hx hb hG hS (by decide) rfl ⟨by decide, by decide⟩ hown (htb _ kw_741) dX9_beanHasWhatItNeeds_61 ?_
    refine cw_word (k := 25) (kx := 25) hx hb hG hS (by decide) rfl ⟨by decide, by decide⟩ hown (htb _ kw_713) dX9_beanHasWhatItNeeds_64 ?_
    refine cm_callV (t := 1) (C := RX6) (T := TX6) (N := 8) (rest := []) (as := [eV (ad 9) o, eV (ad 33) 13, eV (ad 33) 25]) ⟨hx, hb, hml, hown, htb⟩ (d_valueIs2 l dC dI ad cid a2 lx sg gm lg 0 o 13 25 (dAt D o.toNatClampNeg) hI (iv_k (by decide) : iv 0 0 0) hsx1_56 (iv_w (iv_k (by decide) : iv 13 13 13) (by decide)) (iv_w (iv_k (by decide) : iv 25 25 25) (by decide)) hFA how hVS hEV.2.1) (cwV 3 htb (gd_V kw_714 kw_715 kw_716 kw_149 kw_1484) rfl rfl rfl (by decide +kernel) ⟨Nat.le_of_ble_eq_true rfl, Nat.le_of_ble_eq_true rfl⟩) (iv_k (by decide) : iv 0 0 0) (by decide) (by decide) rfl rfl hl.1 rfl (Nat.le_trans cs_n (by decide)) dX9_beanHasWhatItNeeds_67 ⟨Nat.le_of_ble_eq_true rfl, Nat.le_of_ble_eq_true rfl⟩ hK hP hD hS hA hG (fun E ce q9 u_2 H locs hw hP hD hS hce hcv hcl => ?_) (fun v9 u_2 H locs hw hP hD hS => ?_)
    · exact hw.elim
    obtain ⟨r_1, rfl, rfl, hr_1, fV_r_1⟩ := hw
    have hP : va_P (dC, dI) vwCl (cW ad cid a2 lx sg gm lg) H := hP
    have hD : va_D A (cW ad cid a2 lx sg gm lg) := hD
    refine W.eq (g2 := F0 m 70 ls [.int r_1]) rfl ?_
    have hV_r_1 : (r_1.toInt = 1 ∧ nv7 (dAt D o.toNatClampNeg) 7017298113369039732 = 7955827) ∨ (r_1.toInt = 0 ∧ ¬ nv7 (dAt D o.toNatClampNeg) 7017298113369039732 = 7955827) := by have q9 := fV_r_1; rw [show wKy.getD (13 : Int32).toNatClampNeg 0 = 7017298113369039732 from by decide, show wKy.getD (25 : Int32).toNatClampNeg 0 = 7955827 from by decide] at q9; exact q9
    refine lv_if_ne (tgt := 115) hx hb dX9_beanHasWhatItNeeds_70 (by decide) (fun c_4 => ?_) (fun c_4 => ?_)
    · have h_5 : iv 1 1 r_1 := iv_neL c_4 hr_1 (by decide)
      exact hj115 hsx0_56 hsx1_56 (u26) (u56) (Or.inl (hV_r_1.resolve_right (fun q8 => absurd q8.1 (by have := i32_0; have := i32_1; have := i32_2; have := i32_m1; have := (hsx0_56).1; have := (hsx0_56).2; have := (hsx1_56).1; have := (hsx1_56).2; have := (h_5).1; have := (h_5).2; omega))).2) _ _ _ hP hD hS (lv_sub hl [0, 1] rfl)
    · have h_6 : iv 0 0 r_1 := iv_eq c_4 hr_1 (iv_k (by decide) : iv 0 0 0) (by decide)
      refine ec_aload_n hx hb dX9_beanHasWhatItNeeds_73 rfl (lv_at hl 0 rfl) ?_
      refine cr_get (t := 3) (j := 0) (C := RX9) (T := TX9) (N := 1) (v := eV (ad 1) 0) hx hb htb inX9 hown hK hP hsx0_56 (by decide) (by decide) (by decide) rfl (by decide) (htb _ kw_323) (cV_c rfl (by decide) (by rw [show cMu 3 0 = 0 from rfl, Nat.zero_mul]; rfl)) dX9_beanHasWhatItNeeds_74 ?_
      refine ec_aload_n hx hb dX9_beanHasWhatItNeeds_77 rfl (lv_at hl 1 rfl) ?_
      refine cw_word (k := 11) (kx := 11) hx hb hG hS (by decide) rfl ⟨by decide, by decide⟩ hown (htb _ kw_742) dX9_beanHasWhatItNeeds_78 ?_
      refine cm_callV (t := 1) (C := RX6) (T := TX6) (N := 8) (rest := []) (as := [eV (ad 9) o, eV (ad 33) 11]) ⟨hx, hb, hml, hown, htb⟩ (d_has2 l dC dI ad cid a2 lx sg gm lg 0 o 11 (dAt D o.toNatClampNeg) hI (iv_k (by decide) : iv 0 0 0) hsx1_56 (iv_w (iv_k (by decide) : iv 11 11 11) (by decide)) hFA how hEV.2.1) (cwV 2 htb (gd_V kw_732 kw_733 kw_734 kw_149 kw_1488) rfl rfl rfl (by decide +kernel) ⟨Nat.le_of_ble_eq_true rfl, Nat.le_of_ble_eq_true rfl⟩) (iv_k (by decide) : iv 0 0 0) (by decide) (by decide) rfl rfl hl.1 rfl (Nat.le_trans cs_n (by decide)) dX9_beanHasWhatItNeeds_81 ⟨Nat.le_of_ble_eq_true rfl, Nat.le_of_ble_eq_true rfl⟩ hK hP hD hS hA hG (fun E ce q9 u_8 H locs hw hP hD hS hce hcv hcl => ?_) (fun v9 u_8 H locs hw hP hD hS => ?_)
      · exact hw.elim
      obtain ⟨r_7, rfl, rfl, hr_7, fH_r_7⟩ := hw
      have hP : va_P (dC, dI) vwCl (cW ad cid a2 lx sg gm lg) H := hP
      have hD : va_D A (cW ad cid a2 lx sg gm lg) := hD
      refine W.eq (g2 := F0 m 84 ls [.int r_7]) rfl ?_
      have hH_r_7 : r_7.toInt = aH (dAt D o.toNatClampNeg) 427020088179 := by have q9 := fH_r_7; rw [show wKy.getD (11 : Int32).toNatClampNeg 0 = 427020088179 from by decide] at q9; exact q9
      refine lv_if_ne (tgt := 115) hx hb dX9_beanHasWhatItNeeds_84 (by decide) (fun c_10 => ?_) (fun c_10 => ?_)
      · have h_11 : iv 1 1 r_7 := iv_neL c_10 hr_7 (by decide)
        exact hj115 hsx0_56 hsx1_56 (u26) (u56) (Or.inr (Or.inl (by rw [← hH_r_7]; have := i32_0; have := i32_1; have := i32_2; have := i32_m1; have := (hsx0_56).1; have := (hsx0_56).2; have := (hsx1_56).1; have := (hsx1_56).2; have := (h_6).1; have := (h_6).2; have := (h_11).1; have := (h_11).2; omega))) _ _ _ hP hD hS (lv_sub hl [0, 1] rfl)
      · have h_12 : iv 0 0 r_7 := iv_eq c_10 hr_7 (iv_k (by decide) : iv 0 0 0) (by decide)
        refine ec_aload_n hx hb dX9_beanHasWhatItNeeds_87 rfl (lv_at hl 0 rfl) ?_
        refine cr_get (t := 3) (j := 0) (C := RX9) (T := TX9) (N := 1) (v := eV (ad 1) 0) hx hb htb inX9 hown hK hP hsx0_56 (by decide) (by decide) (by decide) rfl (by decide) (htb _ kw_323) (cV_c rfl (by decide) (by rw [show cMu 3 0 = 0 from rfl, Nat.zero_mul]; rfl)) dX9_beanHasWhatItNeeds_88 ?_
        refine ec_aload_n hx hb dX9_beanHasWhatItNeeds_91 rfl (lv_at hl 1 rfl) ?_
        refine cw_word (k := 12) (kx := 12) hx hb hG hS (by decide) rfl ⟨by decide, by decide⟩ hown (htb _ kw_743) dX9_beanHasWhatItNeeds_92 ?_
        refine cm_callV (t := 1) (C := RX6) (T := TX6) (N := 8) (rest := []) (as := [eV (ad 9) o, eV (ad 33) 12]) ⟨hx, hb, hml, hown, htb⟩ (d_has2 l dC dI ad cid a2 lx sg gm lg 0 o 12 (dAt D o.toNatClampNeg) hI (iv_k (by decide) : iv 0 0 0) hsx1_56 (iv_w (iv_k (by decide) : iv 12 12 12) (by decide)) hFA how hEV.2.1) (cwV 2 htb (gd_V kw_732 kw_733 kw_734 kw_149 kw_1488) rfl rfl rfl (by decide +kernel) ⟨Nat.le_of_ble_eq_true rfl, Nat.le_of_ble_eq_true rfl⟩) (iv_k (by decide) : iv 0 0 0) (by decide) (by decide) rfl rfl hl.1 rfl (Nat.le_trans cs_n (by decide)) dX9_beanHasWhatItNeeds_95 ⟨Nat.le_of_ble_eq_true rfl, Nat.le_of_ble_eq_true rfl⟩ hK hP hD hS hA hG (fun E ce q9 u_14 H locs hw hP hD hS hce hcv hcl => ?_) (fun v9 u_14 H locs hw hP hD hS => ?_)
        · exact hw.elim
        obtain ⟨r_13, rfl, rfl, hr_13, fH_r_13⟩ := hw
        have hP : va_P (dC, dI) vwCl (cW ad cid a2 lx sg gm lg) H := hP
        have hD : va_D A (cW ad cid a2 lx sg gm lg) := hD
        refine W.eq (g2 := F0 m 98 ls [.int r_13]) rfl ?_
        have hH_r_13 : r_13.toInt = aH (dAt D o.toNatClampNeg) 123563833388660 := by have q9 := fH_r_13; rw [show wKy.getD (12 : Int32).toNatClampNeg 0 = 123563833388660 from by decide] at q9; exact q9
        refine lv_if_ne (tgt := 115) hx hb dX9_beanHasWhatItNeeds_98 (by decide) (fun c_16 => ?_) (fun c_16 => ?_)
        · have h_17 : iv 1 1 r_13 := iv_neL c_16 hr_13 (by decide)
          exact hj115 hsx0_56 hsx1_56 (u26) (u56) (Or.inr (Or.inr (Or.inl (by rw [← hH_r_13]; have := i32_0; have := i32_1; have := i32_2; have := i32_m1; have := (hsx0_56).1; have := (hsx0_56).2; have := (hsx1_56).1; have := (hsx1_56).2; have := (h_6).1; have := (h_6).2; have := (h_12).1; have := (h_12).2; have := (h_17).1; have := (h_17).2; omega)))) _ _ _ hP hD hS (lv_sub hl [0, 1] rfl)
        · have h_18 : iv 0 0 r_13 := iv_eq c_16 hr_13 (iv_k (by decide) : iv 0 0 0) (by decide)
          refine ec_aload_n hx hb dX9_beanHasWhatItNeeds_101 rfl (lv_at hl 0 rfl) ?_
          refine cr_get (t := 3) (j := 0) (C := RX9) (T := TX9) (N := 1) (v := eV (ad 1) 0) hx hb htb inX9 hown hK hP hsx0_56 (by decide) (by decide) (by decide) rfl (by decide) (htb _ kw_323) (cV_c rfl (by decide) (by rw [show cMu 3 0 = 0 from rfl, Nat.zero_mul]; rfl)) dX9_beanHasWhatItNeeds_102 ?_
          refine ec_aload_n hx hb dX9_beanHasWhatItNeeds_105 rfl (lv_at hl 1 rfl) ?_
          refine cw_word (k := 16) (kx := 16) hx hb hG hS (by decide) rfl ⟨by decide, by decide⟩ hown (htb _ kw_739) dX9_beanHasWhatItNeeds_106 ?_
          refine cm_callV (t := 1) (C := RX6) (T := TX6) (N := 8) (rest := []) (as := [eV (ad 9) o, eV (ad 33) 16]) ⟨hx, hb, hml, hown, htb⟩ (d_has2 l dC dI ad cid a2 lx sg gm lg 0 o 16 (dAt D o.toNatClampNeg) hI (iv_k (by decide) : iv 0 0 0) hsx1_56 (iv_w (iv_k (by decide) : iv 16 16 16) (by decide)) hFA how hEV.2.1) (cwV 2 htb (gd_V kw_732 kw_733 kw_734 kw_149 kw_1488) rfl rfl rfl (by decide +kernel) ⟨Nat.le_of_ble_eq_true rfl, Nat.le_of_ble_eq_true rfl⟩) (iv_k (by decide) : iv 0 0 0) (by decide) (by decide) rfl rfl hl.1 rfl (Nat.le_trans cs_n (by decide)) dX9_beanHasWhatItNeeds_109 ⟨Nat.le_of_ble_eq_true rfl, Nat.le_of_ble_eq_true rfl⟩ hK hP hD hS hA hG (fun E ce q9 u_20 H locs hw hP hD hS hce hcv hcl => ?_) (fun v9 u_20 H locs hw hP hD hS => ?_)
          · exact hw.elim
          obtain ⟨r_19, rfl, rfl, hr_19, fH_r_19⟩ := hw
          have hP : va_P (dC, dI) vwCl (cW ad cid a2 lx sg gm lg) H := hP
          have hD : va_D A (cW ad cid a2 lx sg gm lg) := hD
          refine W.eq (g2 := F0 m 112 ls [.int r_19]) rfl ?_
          have hH_r_19 : r_19.toInt = aH (dAt D o.toNatClampNeg) 28817527407604345 := by have q9 := fH_r_19; rw [show wKy.getD (16 : Int32).toNatClampNeg 0 = 28817527407604345 from by decide] at q9; exact q9
          refine lv_if_eq (tgt := 119) hx hb dX9_beanHasWhatItNeeds_112 (by decide) (fun c_22 => ?_) (fun c_22 => ?_)
          · have h_23 : iv 0 0 r_19 := iv_eq c_22 hr_19 (iv_k (by decide) : iv 0 0 0) (by decide)
            refine lv_iconst (v := 0) hx hb dX9_beanHasWhatItNeeds_119 (by decide) ?_
            exact hj120 0 hsx0_56 hsx1_56 (iv_w (iv_k (by decide) : iv 0 0 0) (by decide)) (Or.inr ⟨rfl, fun h => by rcases h.2.2 with q | q | q | q; (exact (hV_r_1.resolve_left (fun q8 => absurd q8.1 (by have := i32_0; have := i32_1; have := i32_2; have := i32_m1; have := (hsx0_56).1; have := (hsx0_56).2; have := (hsx1_56).1; have := (hsx1_56).2; have := (h_6).1; have := (h_6).2; have := (h_12).1; have := (h_12).2; have := (h_18).1; have := (h_18).2; have := (h_23).1; have := (h_23).2; omega))).2 q); (rw [← hH_r_7] at q; have := i32_0; have := i32_1; have := i32_2; have := i32_m1; have := (hsx0_56).1; have := (hsx0_56).2; have := (hsx1_56).1; have := (hsx1_56).2; have := (h_6).1; have := (h_6).2; have := (h_12).1; have := (h_12).2; have := (h_18).1; have := (h_18).2; have := (h_23).1; have := (h_23).2; omega); (rw [← hH_r_13] at q; have := i32_0; have := i32_1; have := i32_2; have := i32_m1; have := (hsx0_56).1; have := (hsx0_56).2; have := (hsx1_56).1; have := (hsx1_56).2; have := (h_6).1; have := (h_6).2; have := (h_12).1; have := (h_12).2; have := (h_18).1; have := (h_18).2; have := (h_23).1; have := (h_23).2; omega); (rw [← hH_r_19] at q; have := i32_0; have := i32_1; have := i32_2; have := i32_m1; have := (hsx0_56).1; have := (hsx0_56).2; have := (hsx1_56).1; have := (hsx1_56).2; have := (h_6).1; have := (h_6).2; have := (h_12).1; have := (h_12).2; have := (h_18).1; have := (h_18).2; have := (h_23).1; have := (h_23).2; omega)⟩) _ _ _ hP hD hS (lv_sub hl [0, 1] rfl)
          · have h_24 : iv 1 1 r_19 := iv_neL c_22 hr_19 (by decide)
            exact hj115 hsx0_56 hsx1_56 (u26) (u56) (Or.inr (Or.inr (Or.inr (by rw [← hH_r_19]; have := i32_0; have := i32_1; have := i32_2; have := i32_m1; have := (hsx0_56).1; have := (hsx0_56).2; have := (hsx1_56).1; have := (hsx1_56).2; have := (h_6).1; have := (h_6).2; have := (h_12).1; have := (h_12).2; have := (h_18).1; have := (h_18).2; have := (h_24).1; have := (h_24).2; omega)))) _ _ _ hP hD hS (lv_sub hl [0, 1] rfl)
  have hj26 : ∀ (_ : iv 0 0 x) (_ : iv 0 79 o) (_ : (¬ dIn D o.toNatClampNeg = 1 ∨ aH (dAt D o.toNatClampNeg) 26980 = 1)) (H : Heap) (locs : List Loc) (ls : Array Slot), va_P (dC, dI) vwCl (cW ad cid a2 lx sg gm lg) H → va_D A (cW ad cid a2 lx sg gm lg) → va_S A s.heap H locs → lv_has ls 2 [(0, eV (ad 3) x), (1, eV (ad 9) o)] → W p l e (headSpec wm_X9_beanHasWhatItNeeds ({ frames := 3, cells := 1, slots := 6, locals := 74 })).room s m ([eV (ad 3) x, eV (ad 9) o] : List Value).toArray below meth c H locs 0 0 (vx_MQ below (cQx dC dI ad cid a2 lx (fun v u => ∃ r : Int32, v = some (.int r) ∧ u = (sg, gm, lg) ∧ (iv 0 1 r) ∧ ((r.toInt = 1 ∧ (NBE D o.toNatClampNeg)) ∨ (r.toInt = 0 ∧ ¬ (NBE D o.toNatClampNeg)))) A) (cX dC dI ad cid a2 lx (fun _ _ => False) A) ([eV (ad 3) x, eV (ad 9) o] : List Value).toArray s 1 6 A) (F0 m 26 ls []) := by
    intro  hsx0_26 hsx1_26 u26 H locs ls hP hD hS hl
    refine ec_aload_n hx hb dX9_beanHasWhatItNeeds_26 rfl (lv_at hl 0 rfl) ?_
    refine cr_get (t := 3) (j := 0) (C := RX9) (T := TX9) (N := 1) (v := eV (ad 1) 0) hx hb htb inX9 hown hK hP hsx0_26 (by decide) (by decide) (by decide) rfl (by decide) (htb _ kw_323) (cV_c rfl (by decide) (by rw [show cMu 3 0 = 0 from rfl, Nat.zero_mul]; rfl)) dX9_beanHasWhatItNeeds_27 ?_
    refine ec_aload_n hx hb dX9_beanHasWhatItNeeds_30 rfl (lv_at hl 1 rfl) ?_
    refine cw_word (k := 16) (kx := 16) hx hb hG hS (by decide) rfl ⟨by decide, by decide⟩ hown (htb _ kw_739) dX9_beanHasWhatItNeeds_31 ?_
    refine cm_callV (t := 1) (C := RX6) (T := TX6) (N := 8) (rest := []) (as := [eV (ad 9) o, eV (ad 33) 16]) ⟨hx, hb, hml, hown, htb⟩ (d_has2 l dC dI ad cid a2 lx sg gm lg 0 o 16 (dAt D o.toNatClampNeg) hI (iv_k (by decide) : iv 0 0 0) hsx1_26 (iv_w (iv_k (by decide) : iv 16 16 16) (by decide)) hFA how hEV.2.1) (cwV 2 htb (gd_V kw_732 kw_733 kw_734 kw_149 kw_1488) rfl rfl rfl (by decide +kernel) ⟨Nat.le_of_ble_eq_true rfl, Nat.le_of_ble_eq_true rfl⟩) (iv_k (by decide) : iv 0 0 0) (by decide) (by decide) rfl rfl hl.1 rfl (Nat.le_trans cs_n (by decide)) dX9_beanHasWhatItNeeds_34 ⟨Nat.le_of_ble_eq_true rfl, Nat.le_of_ble_eq_true rfl⟩ hK hP hD hS hA hG (fun E ce q9 u_26 H locs hw hP hD hS hce hcv hcl => ?_) (fun v9 u_26 H locs hw hP hD hS => ?_)
    · exact hw.elim
    obtain ⟨r_25, rfl, rfl, hr_25, fH_r_25⟩ := hw
    have hP : va_P (dC, dI) vwCl (cW ad cid a2 lx sg gm lg) H := hP
    have hD : va_D A (cW ad cid a2 lx sg gm lg) := hD
    refine W.eq (g2 := F0 m 37 ls [.int r_25]) rfl ?_
    have hH_r_25 : r_25.toInt = aH (dAt D o.toNatClampNeg) 28817527407604345 := by have q9 := fH_r_25; rw [show wKy.getD (16 : Int32).toNatClampNeg 0 = 28817527407604345 from by decide] at q9; exact q9
    refine lv_if_eq (tgt := 56) hx hb dX9_beanHasWhatItNeeds_37 (by decide) (fun c_28 => ?_) (fun c_28 => ?_)
    · have h_29 : iv 0 0 r_25 := iv_eq c_28 hr_25 (iv_k (by decide) : iv 0 0 0) (by decide)
      exact hj56 hsx0_26 hsx1_26 (u26) ((by have := hH_r_25; have := i32_0; have := i32_1; have := i32_2; have := i32_m1; have := (hsx0_26).1; have := (hsx0_26).2; have := (hsx1_26).1; have := (hsx1_26).2; have := (h_29).1; have := (h_29).2; omega)) _ _ _ hP hD hS (lv_sub hl [0, 1] rfl)
    · have h_30 : iv 1 1 r_25 := iv_neL c_28 hr_25 (by decide)
      refine ec_aload_n hx hb dX9_beanHasWhatItNeeds_40 rfl (lv_at hl 0 rfl) ?_
      refine cr_get (t := 3) (j := 0) (C := RX9) (T := TX9) (N := 1) (v := eV (ad 1) 0) hx hb htb inX9 hown hK hP hsx0_26 (by decide) (by decide) (by decide) rfl (by decide) (htb _ kw_323) (cV_c rfl (by decide) (by rw [show cMu 3 0 = 0 from rfl, Nat.zero_mul]; rfl)) dX9_beanHasWhatItNeeds_41 ?_
      refine ec_aload_n hx hb dX9_beanHasWhatItNeeds_44 rfl (lv_at hl 1 rfl) ?_
      refine cw_word (k := 17) (kx := 17) hx hb hG hS (by decide) rfl ⟨by decide, by decide⟩ hown (htb _ kw_740) dX9_beanHasWhatItNeeds_45 ?_
      refine cm_callV (t := 1) (C := RX6) (T := TX6) (N := 8) (rest := []) (as := [eV (ad 9) o, eV (ad 33) 17]) ⟨hx, hb, hml, hown, htb⟩ (d_has2 l dC dI ad cid a2 lx sg gm lg 0 o 17 (dAt D o.toNatClampNeg) hI (iv_k (by decide) : iv 0 0 0) hsx1_26 (iv_w (iv_k (by decide) : iv 17 17 17) (by decide)) hFA how hEV.2.1) (cwV 2 htb (gd_V kw_732 kw_733 kw_734 kw_149 kw_1488) rfl rfl rfl (by decide +kernel) ⟨Nat.le_of_ble_eq_true rfl, Nat.le_of_ble_eq_true rfl⟩) (iv_k (by decide) : iv 0 0 0) (by decide) (by decide) rfl rfl hl.1 rfl (Nat.le_trans cs_n (by decide)) dX9_beanHasWhatItNeeds_48 ⟨Nat.le_of_ble_eq_true rfl, Nat.le_of_ble_eq_true rfl⟩ hK hP hD hS hA hG (fun E ce q9 u_32 H locs hw hP hD hS hce hcv hcl => ?_) (fun v9 u_32 H locs hw hP hD hS => ?_)
      · exact hw.elim
      obtain ⟨r_31, rfl, rfl, hr_31, fH_r_31⟩ := hw
      have hP : va_P (dC, dI) vwCl (cW ad cid a2 lx sg gm lg) H := hP
      have hD : va_D A (cW ad cid a2 lx sg gm lg) := hD
      refine W.eq (g2 := F0 m 51 ls [.int r_31]) rfl ?_
      have hH_r_31 : r_31.toInt = aH (dAt D o.toNatClampNeg) 120282512125796 := by have q9 := fH_r_31; rw [show wKy.getD (17 : Int32).toNatClampNeg 0 = 120282512125796 from by decide] at q9; exact q9
      refine lv_if_ne (tgt := 56) hx hb dX9_beanHasWhatItNeeds_51 (by decide) (fun c_34 => ?_) (fun c_34 => ?_)
      · have h_35 : iv 1 1 r_31 := iv_neL c_34 hr_31 (by decide)
        exact hj56 hsx0_26 hsx1_26 (u26) ((by have := hH_r_25; have := hH_r_31; have := i32_0; have := i32_1; have := i32_2; have := i32_m1; have := (hsx0_26).1; have := (hsx0_26).2; have := (hsx1_26).1; have := (hsx1_26).2; have := (h_30).1; have := (h_30).2; have := (h_35).1; have := (h_35).2; omega)) _ _ _ hP hD hS (lv_sub hl [0, 1] rfl)
      · have h_36 : iv 0 0 r_31 := iv_eq c_34 hr_31 (iv_k (by decide) : iv 0 0 0) (by decide)
        refine lv_iconst (v := 0) hx hb dX9_beanHasWhatItNeeds_54 (by decide) ?_
        exact W.nb (fun hN => W.widen (k := 1) (n := 6) (by decide) (by decide) (vx_ret (W.zret (v := 0) hx hb hr (iv_nb (iv_w (iv_k (by decide) : iv 0 0 0) (by decide))) (fun t ht hW => ⟨⟨some (.int 0), (sg, gm, lg), rfl, ⟨0, rfl, rfl, (iv_w (iv_k (by decide) : iv 0 0 0) (by decide)), (Or.inr ⟨rfl, fun h => by have q := h.2.1; have := hH_r_25; have := hH_r_31; have := i32_0; have := i32_1; have := i32_2; have := i32_m1; have := (hsx0_26).1; have := (hsx0_26).2; have := (hsx1_26).1; have := (hsx1_26).2; have := (h_30).1; have := (h_30).2; have := (h_36).1; have := (h_36).2; omega⟩)⟩, by rw [ht]; exact hP, va_K.moved hW.alike hK, hD⟩, hS.F ht, by rw [ht]; exact hN⟩) hS.2.2 dX9_beanHasWhatItNeeds_55)))
  refine ec_aload_n hx hb dX9_beanHasWhatItNeeds_0 rfl (lv_at hl 1 rfl) ?_
  refine cw_word (k := 0) (kx := 0) hx hb hG hS (by decide) rfl ⟨by decide, by decide⟩ hown (htb _ kw_665) dX9_beanHasWhatItNeeds_1 ?_
  refine cm_callV (t := 9) (C := RX3) (T := TX3) (N := 21) (rest := []) (as := [eV (ad 33) 0]) ⟨hx, hb, hml, hown, htb⟩ (d_isIn2 l dC dI ad cid a2 lx sg gm lg o 0 hI hvo (iv_w (iv_k (by decide) : iv 0 0 0) (by decide))) (cwV 1 htb (gd_V kw_666 kw_667 kw_668 kw_150 kw_1469) rfl rfl rfl (by decide +kernel) ⟨Nat.le_of_ble_eq_true rfl, Nat.le_of_ble_eq_true rfl⟩) hvo (by decide) (by decide) rfl rfl hl.1 rfl (Nat.le_trans cs_n (by decide)) dX9_beanHasWhatItNeeds_4 ⟨Nat.le_of_ble_eq_true rfl, Nat.le_of_ble_eq_true rfl⟩ hK hP hD hS hA hG (fun E ce q9 u_38 H locs hw hP hD hS hce hcv hcl => ?_) (fun v9 u_38 H locs hw hP hD hS => ?_)
  · exact hw.elim
  obtain ⟨r_37, rfl, rfl, hr_37, fI_r_37⟩ := hw
  have hP : va_P (dC, dI) vwCl (cW ad cid a2 lx sg gm lg) H := hP
  have hD : va_D A (cW ad cid a2 lx sg gm lg) := hD
  refine W.eq (g2 := F0 m 7 ls [.int r_37]) rfl ?_
  have gI_r_37 : (r_37.toInt = 1 ∧ dIn D o.toNatClampNeg = 1) ∨ (r_37.toInt = 0 ∧ ¬ dIn D o.toNatClampNeg = 1) := by rw [← ISI_d hEV (a := 0) (K := 1) (by unfold KW7; decide) (by decide)]; exact fI_r_37
  refine lv_if_eq (tgt := 26) hx hb dX9_beanHasWhatItNeeds_7 (by decide) (fun c_40 => ?_) (fun c_40 => ?_)
  · have h_41 : iv 0 0 r_37 := iv_eq c_40 hr_37 (iv_k (by decide) : iv 0 0 0) (by decide)
    exact hj26 hvx hvo ((by have := gI_r_37; have := i32_0; have := i32_1; have := i32_2; have := i32_m1; have := (hvx).1; have := (hvx).2; have := (hvo).1; have := (hvo).2; have := (h_41).1; have := (h_41).2; omega)) _ _ _ hP hD hS (lv_sub hl [0, 1] rfl)
  · have h_42 : iv 1 1 r_37 := iv_neL c_40 hr_37 (by decide)
    refine ec_aload_n hx hb dX9_beanHasWhatItNeeds_10 rfl (lv_at hl 0 rfl) ?_
    refine cr_get (t := 3) (j := 0) (C := RX9) (T := TX9) (N := 1) (v := eV (ad 1) 0) hx hb htb inX9 hown hK hP hvx (by decide) (by decide) (by decide) rfl (by decide) (htb _ kw_323) (cV_c rfl (by decide) (by rw [show cMu 3 0 = 0 from rfl, Nat.zero_mul]; rfl)) dX9_beanHasWhatItNeeds_11 ?_
    refine ec_aload_n hx hb dX9_beanHasWhatItNeeds_14 rfl (lv_at hl 1 rfl) ?_
    refine cw_word (k := 10) (kx := 10) hx hb hG hS (by decide) rfl ⟨by decide, by decide⟩ hown (htb _ kw_738) dX9_beanHasWhatItNeeds_15 ?_
    refine cm_callV (t := 1) (C := RX6) (T := TX6) (N := 8) (rest := []) (as := [eV (ad 9) o, eV (ad 33) 10]) ⟨hx, hb, hml, hown, htb⟩ (d_has2 l dC dI ad cid a2 lx sg gm lg 0 o 10 (dAt D o.toNatClampNeg) hI (iv_k (by decide) : iv 0 0 0) hvo (iv_w (iv_k (by decide) : iv 10 10 10) (by decide)) hFA how hEV.2.1) (cwV 2 htb (gd_V kw_732 kw_733 kw_734 kw_149 kw_1488) rfl rfl rfl (by decide +kernel) ⟨Nat.le_of_ble_eq_true rfl, Nat.le_of_ble_eq_true rfl⟩) (iv_k (by decide) : iv 0 0 0) (by decide) (by decide) rfl rfl hl.1 rfl (Nat.le_trans cs_n (by decide)) dX9_beanHasWhatItNeeds_18 ⟨Nat.le_of_ble_eq_true rfl, Nat.le_of_ble_eq_true rfl⟩ hK hP hD hS hA hG (fun E ce q9 u_44 H locs hw hP hD hS hce hcv hcl => ?_) (fun v9 u_44 H locs hw hP hD hS => ?_)
    · exact hw.elim
    obtain ⟨r_43, rfl, rfl, hr_43, fH_r_43⟩ := hw
    have hP : va_P (dC, dI) vwCl (cW ad cid a2 lx sg gm lg) H := hP
    have hD : va_D A (cW ad cid a2 lx sg gm lg) := hD
    refine W.eq (g2 := F0 m 21 ls [.int r_43]) rfl ?_
    have hH_r_43 : r_43.toInt = aH (dAt D o.toNatClampNeg) 26980 := by have q9 := fH_r_43; rw [show wKy.getD (10 : Int32).toNatClampNeg 0 = 26980 from by decide] at q9; exact q9
    refine lv_if_ne (tgt := 26) hx hb dX9_beanHasWhatItNeeds_21 (by decide) (fun c_46 => ?_) (fun c_46 => ?_)
    · have h_47 : iv 1 1 r_43 := iv_neL c_46 hr_43 (by decide)
      exact hj26 hvx hvo ((by have := gI_r_37; have := hH_r_43; have := i32_0; have := i32_1; have := i32_2; have := i32_m1; have := (hvx).1; have := (hvx).2; have := (hvo).1; have := (hvo).2; have := (h_42).1; have := (h_42).2; have := (h_47).1; have := (h_47).2; omega)) _ _ _ hP hD hS (lv_sub hl [0, 1] rfl)
    · have h_48 : iv 0 0 r_43 := iv_eq c_46 hr_43 (iv_k (by decide) : iv 0 0 0) (by decide)
      refine lv_iconst (v := 0) hx hb dX9_beanHasWhatItNeeds_24 (by decide) ?_
      exact W.nb (fun hN => W.widen (k := 1) (n := 6) (by decide) (by decide) (vx_ret (W.zret (v := 0) hx hb hr (iv_nb (iv_w (iv_k (by decide) : iv 0 0 0) (by decide))) (fun t ht hW => ⟨⟨some (.int 0), (sg, gm, lg), rfl, ⟨0, rfl, rfl, (iv_w (iv_k (by decide) : iv 0 0 0) (by decide)), (Or.inr ⟨rfl, fun h => by have q := h.1; have := gI_r_37; have := hH_r_43; have := aH_01 (q := dAt D o.toNatClampNeg) (k := 26980); have := i32_0; have := i32_1; have := i32_2; have := i32_m1; have := (hvx).1; have := (hvx).2; have := (hvo).1; have := (hvo).2; have := (h_42).1; have := (h_42).2; have := (h_48).1; have := (h_48).2; omega⟩)⟩, by rw [ht]; exact hP, va_K.moved hW.alike hK, hD⟩, hS.F ht, by rw [ht]; exact hN⟩) hS.2.2 dX9_beanHasWhatItNeeds_25)))

set_option maxHeartbeats 4000000 in
set_option maxRecDepth 100000 in
theorem d_hasWhat2 (l : Launch) (dC : Nat → ClassId) (dI : Nat → Nat → Nat) (ad : Nat → Nat → Nat) (cid : Nat → ClassId) (a2 : Nat → Nat) (lx : List Nat) (sg : Nat → Int32) (gm : Nat → Nat → Int32) (lg : Nat → Nat → Int64) (x : Int32) (o : Int32) (D : List El7) (hI : CI sg gm) (hvx : iv 0 0 x) (hvo : iv 0 79 o) (hFA : FA sg gm) (how : o.toInt < (sg 4).toInt) (hVS : VS sg gm) (hw0 : 0 ≤ (gm 14 o.toNatClampNeg).toInt) (hEV : EV7 D sg gm lg o.toNatClampNeg) : CMt dC dI ad cid a2 lx l yX9_hasWhatItNeeds wm_X9_hasWhatItNeeds ({ frames := 4, cells := 1, slots := 6, locals := 95 }) [eV (ad 3) x, eV (ad 9) o] sg gm lg (fun v u => ∃ r : Int32, v = some (.int r) ∧ u = (sg, gm, lg) ∧ (iv 0 1 r) ∧ ((r.toInt = 1 ∧ (NEE D o.toNatClampNeg)) ∨ (r.toInt = 0 ∧ ¬ (NEE D o.toNatClampNeg)))) (fun _ _ => False) := by
  intro sz
  refine vx_ofW (cc := cX9_hasWhatItNeeds) (maxL := 2) (ret := (some .boolean)) (by decide) rfl ?_
  intro p e s m args below meth c s₁ B hml hxt hv
  obtain ⟨rfl, hsz, hP, hK, hD0, hG⟩ := hv
  have hx := B.exec
  have hb := B.bytes
  have hr := B.returns
  have hts := atoms_spec (ws := wm_X9_hasWhatItNeeds) B.pre
  have htb := fun (w : Cond) (h : w ∈ tb) => hts w (List.mem_cons_of_mem _ h)
  have hown : s.vm.findClass RX9 = some m.cls := findClass_of_methodNamed B.named
  have hlocks := B.notSynchronized
  subst hsz
  have hD := hD0.self (sz := s.heap.size)
  generalize hAe : va_A (cW ad cid a2 lx sg gm lg) s.heap.size = A at hD hG ⊢
  have hA : ∀ q : Nat, s.heap.size ≤ q → A q := fun q h => by rw [← hAe]; exact Or.inr h
  have hS : va_S A s.heap s.heap [] := va_S.rf
  have hl := lv_entry ([eV (ad 3) x, eV (ad 9) o]) (n := 2) (by rw [show (lg_sl ([eV (ad 3) x, eV (ad 9) o])).length = 2 from by simp [lg_sl, eV_cat, cat_i, cat_l]]; exact Nat.le_of_ble_eq_true rfl)
  rw [lg_entry_eq]
  generalize (lg_sl ([eV (ad 3) x, eV (ad 9) o]) ++ List.replicate (2 - (lg_sl ([eV (ad 3) x, eV (ad 9) o])).length) Slot.unset).toArray = ls at hl ⊢
  have hl : lv_has ls 2 [(0, eV (ad 3) x), (1, eV (ad 9) o)] := by simp [lv_args, eV_cat, cat_i, cat_l] at hl; exact hl
  have hj89 : ∀ (y0_89 : Int32) (_ : iv 0 0 x) (_ : iv 0 79 o) (_ : iv 0 1 y0_89) (_ : (y0_89.toInt = 1 ∧ (NEE D o.toNatClampNeg)) ∨ (y0_89.toInt = 0 ∧ ¬ (NEE D o.toNatClampNeg))) (H : Heap) (locs : List Loc) (ls : Array Slot), va_P (dC, dI) vwCl (cW ad cid a2 lx sg gm lg) H → va_D A (cW ad cid a2 lx sg gm lg) → va_S A s.heap H locs → lv_has ls 2 [(0, eV (ad 3) x), (1, eV (ad 9) o)] → W p l e (headSpec wm_X9_hasWhatItNeeds ({ frames := 4, cells := 1, slots := 6, locals := 95 })).room s m ([eV (ad 3) x, eV (ad 9) o] : List Value).toArray below meth c H locs 0 0 (vx_MQ below (cQx dC dI ad cid a2 lx (fun v u => ∃ r : Int32, v = some (.int r) ∧ u = (sg, gm, lg) ∧ (iv 0 1 r) ∧ ((r.toInt = 1 ∧ (NEE D o.toNatClampNeg)) ∨ (r.toInt = 0 ∧ ¬ (NEE D o.toNatClampNeg)))) A) (cX dC dI ad cid a2 lx (fun _ _ => False) A) ([eV (ad 3) x, eV (ad 9) o] : List Value).toArray s 1 6 A) (F0 m 89 ls [.int y0_89]) := by
    intro y0_89 hsx0_89 hsx1_89 hy0_89 u89 H locs ls hP hD hS hl
    exact W.nb (fun hN => W.widen (k := 1) (n := 6) (by decide) (by decide) (vx_ret (W.zret (v := y0_89) hx hb hr (iv_nb hy0_89) (fun t ht hW => ⟨⟨some (.int y0_89), (sg, gm, lg), rfl, ⟨y0_89, rfl, rfl, hy0_89, (u89)⟩, by rw [ht]; exact hP, va_K.moved hW.alike hK, hD⟩, hS.F ht, by rw [ht]; exact hN⟩) hS.2.2 dX9_hasWhatItNeeds_89)))
  have hj88 : ∀ (_ : iv 0 0 x) (_ : iv 0 79 o) (_ : ¬ NEE D o.toNatClampNeg) (H : Heap) (locs : List Loc) (ls : Array Slot), va_P (dC, dI) vwCl (cW ad cid a2 lx sg gm lg) H → va_D A (cW ad cid a2 lx sg gm lg) → va_S A s.heap H locs → lv_has ls 2 [(0, eV (ad 3) x), (1, eV (ad 9) o)] → W p l e (headSpec wm_X9_hasWhatItNeeds ({ frames := 4, cells := 1, slots := 6, locals := 95 })).room s m ([eV (ad 3) x, eV (ad 9) o] : List Value).toArray below meth c H locs 0 0 (vx_MQ below (cQx dC dI ad cid a2 lx (fun v u => ∃ r : Int32, v = some (.int r) ∧ u = (sg, gm, lg) ∧ (iv 0 1 r) ∧ ((r.toInt = 1 ∧ (NEE D o.toNatClampNeg)) ∨ (r.toInt = 0 ∧ ¬ (NEE D o.toNatClampNeg)))) A) (cX dC dI ad cid a2 lx (fun _ _ => False) A) ([eV (ad 3) x, eV (ad 9) o] : List Value).toArray s 1 6 A) (F0 m 88 ls []) := by
    intro  hsx0_88 hsx1_88 u88 H locs ls hP hD hS hl
    refine lv_iconst (v := 0) hx hb dX9_hasWhatItNeeds_88 (by decide) ?_
    exact hj89 0 hsx0_88 hsx1_88 (iv_w (iv_k (by decide) : iv 0 0 0) (by decide)) (Or.inr ⟨rfl, u88⟩) _ _ _ hP hD hS (lv_sub hl [0, 1] rfl)
  have hj154 : ∀ (_ : iv 0 0 x) (_ : iv 0 79 o) (_ : NEE D o.toNatClampNeg) (H : Heap) (locs : List Loc) (ls : Array Slot), va_P (dC, dI) vwCl (cW ad cid a2 lx sg gm lg) H → va_D A (cW ad cid a2 lx sg gm lg) → va_S A s.heap H locs → lv_has ls 2 [(0, eV (ad 3) x), (1, eV (ad 9) o)] → W p l e (headSpec wm_X9_hasWhatItNeeds ({ frames := 4, cells := 1, slots := 6, locals := 95 })).room s m ([eV (ad 3) x, eV (ad 9) o] : List Value).toArray below meth c H locs 0 0 (vx_MQ below (cQx dC dI ad cid a2 lx (fun v u => ∃ r : Int32, v = some (.int r) ∧ u = (sg, gm, lg) ∧ (iv 0 1 r) ∧ ((r.toInt = 1 ∧ (NEE D o.toNatClampNeg)) ∨ (r.toInt = 0 ∧ ¬ (NEE D o.toNatClampNeg)))) A) (cX dC dI ad cid a2 lx (fun _ _ => False) A) ([eV (ad 3) x, eV (ad 9) o] : List Value).toArray s 1 6 A) (F0 m 154 ls []) := by
    intro  hsx0_154 hsx1_154 u154 H locs ls hP hD hS hl
    refine lv_iconst (v := 1) hx hb dX9_hasWhatItNeeds_154 (by decide) ?_
    exact W.nb (fun hN => W.widen (k := 1) (n := 6) (by decide) (by decide) (vx_ret (W.zret (v := 1) hx hb hr (iv_nb (iv_w (iv_k (by decide) : iv 1 1 1) (by decide))) (fun t ht hW => ⟨⟨some (.int 1), (sg, gm, lg), rfl, ⟨1, rfl, rfl, (iv_w (iv_k (by decide) : iv 1 1 1) (by decide)), (Or.inl ⟨rfl, u154⟩)⟩, by rw [ht]; exact hP, va_K.moved hW.alike hK, hD⟩, hS.F ht, by rw [ht]; exact hN⟩) hS.2.2 dX9_hasWhatItNeeds_155)))
  have hj153 : ∀ (y0_153 : Int32) (_ : iv 0 0 x) (_ : iv 0 79 o) (_ : iv 0 1 y0_153) (_ : (y0_153.toInt = 1 ∧ (NEE D o.toNatClampNeg)) ∨ (y0_153.toInt = 0 ∧ ¬ (NEE D o.toNatClampNeg))) (H : Heap) (locs : List Loc) (ls : Array Slot), va_P (dC, dI) vwCl (cW ad cid a2 lx sg gm lg) H → va_D A (cW ad cid a2 lx sg gm lg) → va_S A s.heap H locs → lv_has ls 2 [(0, eV (ad 3) x), (1, eV (ad 9) o)] → W p l e (headSpec wm_X9_hasWhatItNeeds ({ frames := 4, cells := 1, slots := 6, locals := 95 })).room s m ([eV (ad 3) x, eV (ad 9) o] : List Value).toArray below meth c H locs 0 0 (vx_MQ below (cQx dC dI ad cid a2 lx (fun v u => ∃ r : Int32, v = some (.int r) ∧ u = (sg, gm, lg) ∧ (iv 0 1 r) ∧ ((r.toInt = 1 ∧ (NEE D o.toNatClampNeg)) ∨ (r.toInt = 0 ∧ ¬ (NEE D o.toNatClampNeg)))) A) (cX dC dI ad cid a2 lx (fun _ _ => False) A) ([eV (ad 3) x, eV (ad 9) o] : List Value).toArray s 1 6 A) (F0 m 153 ls [.int y0_153]) := by
    intro y0_153 hsx0_153 hsx1_153 hy0_153 u153 H locs ls hP hD hS hl
    exact W.nb (fun hN => W.widen (k := 1) (n := 6) (by decide) (by decide) (vx_ret (W.zret (v := y0_153) hx hb hr (iv_nb hy0_153) (fun t ht hW => ⟨⟨some (.int y0_153), (sg, gm, lg), rfl, ⟨y0_153, rfl, rfl, hy0_153, (u153)⟩, by rw [ht]; exact hP, va_K.moved hW.alike hK, hD⟩, hS.F ht, by rw [ht]; exact hN⟩) hS.2.2 dX9_hasWhatItNeeds_153)))
  have hj152 : ∀ (_ : iv 0 0 x) (_ : iv 0 79 o) (_ : ¬ NEE D o.toNatClampNeg) (H : Heap) (locs : List Loc) (ls : Array Slot), va_P (dC, dI) vwCl (cW ad cid a2 lx sg gm lg) H → va_D A (cW ad cid a2 lx sg gm lg) → va_S A s.heap H locs → lv_has ls 2 [(0, eV (ad 3) x), (1, eV (ad 9) o)] → W p l e (headSpec wm_X9_hasWhatItNeeds ({ frames := 4, cells := 1, slots := 6, locals := 95 })).room s m ([eV (ad 3) x, eV (ad 9) o] : List Value).toArray below meth c H locs 0 0 (vx_MQ below (cQx dC dI ad cid a2 lx (fun v u => ∃ r : Int32, v = some (.int r) ∧ u = (sg, gm, lg) ∧ (iv 0 1 r) ∧ ((r.toInt = 1 ∧ (NEE D o.toNatClampNeg)) ∨ (r.toInt = 0 ∧ ¬ (NEE D o.toNatClampNeg)))) A) (cX dC dI ad cid a2 lx (fun _ _ => False) A) ([eV (ad 3) x, eV (ad 9) o] : List Value).toArray s 1 6 A) (F0 m 152 ls []) := by
    intro  hsx0_152 hsx1_152 u152 H locs ls hP hD hS hl
    refine lv_iconst (v := 0) hx hb dX9_hasWhatItNeeds_152 (by decide) ?_
    exact hj153 0 hsx0_152 hsx1_152 (iv_w (iv_k (by decide) : iv 0 0 0) (by decide)) (Or.inr ⟨rfl, u152⟩) _ _ _ hP hD hS (lv_sub hl [0, 1] rfl)
  refine cw_sw hx hb hG hS hown (htb _ kw_660) dX9_hasWhatItNeeds_0 ?_
  refine ec_aload_n hx hb dX9_hasWhatItNeeds_3 rfl (lv_at hl 1 rfl) ?_
  refine cr_get (t := 9) (j := 4) (C := RX3) (T := TX3) (N := 21) (v := eV (ad 33) (gm 14 o.toNatClampNeg)) hx hb htb inX3 hown hK hP hvo (by decide) (by decide) (by decide) rfl (by decide) (htb _ kw_242) rfl dX9_hasWhatItNeeds_4 ?_
  obtain ⟨z_1, ez_1⟩ : ∃ z : Int32, z = (gm 14 o.toNatClampNeg) := ⟨_, rfl⟩
  refine W.eq (g2 := F0 m 7 ls [eV (ad 33) z_1, eV (ad 36) 0]) (by rw [ez_1]) ?_
  have hz_1 : iv (-1) 33 z_1 := iv_of ez_1 (CI_a hI 14 hvo (by decide))
  have h_2 : iv 0 33 z_1 := ⟨by rw [ez_1]; exact hw0, (hz_1).2⟩
  refine cw_ord ⟨hx, hb, hml, hown, htb⟩ kw_661 h_2 hl.1 (Nat.le_trans (cs_c (eV_cat _ _) cs_n) (by decide)) dX9_hasWhatItNeeds_7 ⟨Nat.le_of_ble_eq_true rfl, Nat.le_of_ble_eq_true rfl⟩ ⟨Nat.le_of_ble_eq_true rfl, Nat.le_of_ble_eq_true rfl⟩ hP hD hS hA hG (fun H locs hP hS => ?_)
  refine cw_swld (iv_k (by decide) : iv 0 0 0) hx hb hG hS h_2 dX9_hasWhatItNeeds_10 ?_
  refine lv_topi (fun z_3 ez_3 => ?_)
  have hz_3 : iv 0 29 z_3 := iv_of ez_3 (sw_iv z_1)
  by_cases c_4 : (z_3 : Int32).toInt = 7
  · refine lv_tableIn (tgt := 56) hx hb dX9_hasWhatItNeeds_11 (by rw [c_4]; decide) (by rw [c_4]; decide) (by rw [c_4]; rfl) (by decide) ?_
    have h_5 : iv 7 7 z_3 := iv_at c_4
    refine ec_aload_n hx hb dX9_hasWhatItNeeds_56 rfl (lv_at hl 0 rfl) ?_
    refine cr_get (t := 3) (j := 0) (C := RX9) (T := TX9) (N := 1) (v := eV (ad 1) 0) hx hb htb inX9 hown hK hP hvx (by decide) (by decide) (by decide) rfl (by decide) (htb _ kw_323) (cV_c rfl (by decide) (by rw [show cMu 3 0 = 0 from rfl, Nat.zero_mul]; rfl)) dX9_hasWhatItNeeds_57 ?_
    refine ec_aload_n hx hb dX9_hasWhatItNeeds_60 rfl (lv_at hl 1 rfl) ?_
    refine cw_word (k := 21) (kx := 21) hx hb hG hS (by decide) rfl ⟨by decide, by decide⟩ hown (htb _ kw_679) dX9_hasWhatItNeeds_61 ?_
    refine cm_callV (t := 1) (C := RX6) (T := TX6) (N := 8) (rest := []) (as := [eV (ad 9) o, eV (ad 33) 21]) ⟨hx, hb, hml, hown, htb⟩ (d_has2 l dC dI ad cid a2 lx sg gm lg 0 o 21 (dAt D o.toNatClampNeg) hI (iv_k (by decide) : iv 0 0 0) hvo (iv_w (iv_k (by decide) : iv 21 21 21) (by decide)) hFA how hEV.2.1) (cwV 2 htb (gd_V kw_732 kw_733 kw_734 kw_149 kw_1488) rfl rfl rfl (by decide +kernel) ⟨Nat.le_of_ble_eq_true rfl, Nat.le_of_ble_eq_true rfl⟩) (iv_k (by decide) : iv 0 0 0) (by decide) (by decide) rfl rfl hl.1 rfl (Nat.le_trans cs_n (by decide)) dX9_hasWhatItNeeds_64 ⟨Nat.le_of_ble_eq_true rfl, Nat.le_of_ble_eq_true rfl⟩ hK hP hD hS hA hG (fun E ce q9 u_7 H locs hw hP hD hS hce hcv hcl => ?_) (fun v9 u_7 H locs hw hP hD hS => ?_)
    · exact hw.elim
    obtain ⟨r_6, rfl, rfl, hr_6, fH_r_6⟩ := hw
    have hP : va_P (dC, dI) vwCl (cW ad cid a2 lx sg gm lg) H := hP
    have hD : va_D A (cW ad cid a2 lx sg gm lg) := hD
    refine W.eq (g2 := F0 m 67 ls [.int r_6]) rfl ?_
    have hH_r_6 : r_6.toInt = aH (dAt D o.toNatClampNeg) 1851878757 := by have q9 := fH_r_6; rw [show wKy.getD (21 : Int32).toNatClampNeg 0 = 1851878757 from by decide] at q9; exact q9
    refine lv_if_eq (tgt := 88) hx hb dX9_hasWhatItNeeds_67 (by decide) (fun c_9 => ?_) (fun c_9 => ?_)
    · have h_10 : iv 0 0 r_6 := iv_eq c_9 hr_6 (iv_k (by decide) : iv 0 0 0) (by decide)
      exact hj88 hvx hvo ((fun q9 => by have hkd : dKd D o.toNatClampNeg = 2 := KW_f hEV.1 (by unfold KW7; rw [show (gm 14 o.toNatClampNeg).toInt = (1 : Int) from (by rw [← ez_1]; exact swy 1 7 (by decide) (h_2) ez_3 c_4)]; decide); have q8 := (NEE_2 hkd).mp q9; have := hH_r_6; have := i32_0; have := i32_1; have := i32_2; have := i32_m1; have := (hvx).1; have := (hvx).2; have := (hvo).1; have := (hvo).2; have := (h_2).1; have := (h_2).2; have := (h_5).1; have := (h_5).2; have := (h_10).1; have := (h_10).2; omega)) _ _ _ hP hD hS (lv_sub hl [0, 1] rfl)
    · have h_11 : iv 1 1 r_6 := iv_neL c_9 hr_6 (by decide)
      refine ec_aload_n hx hb dX9_hasWhatItNeeds_70 rfl (lv_at hl 0 rfl) ?_
      refine cr_get (t := 3) (j := 0) (C := RX9) (T := TX9) (N := 1) (v := eV (ad 1) 0) hx hb htb inX9 hown hK hP hvx (by decide) (by decide) (by decide) rfl (by decide) (htb _ kw_323) (cV_c rfl (by decide) (by rw [show cMu 3 0 = 0 from rfl, Nat.zero_mul]; rfl)) dX9_hasWhatItNeeds_71 ?_
      refine ec_aload_n hx hb dX9_hasWhatItNeeds_74 rfl (lv_at hl 1 rfl) ?_
      refine cw_word (k := 22) (kx := 22) hx hb hG hS (by decide) rfl ⟨by decide, by decide⟩ hown (htb _ kw_697) dX9_hasWhatItNeeds_75 ?_
      refine cm_callV (t := 1) (C := RX6) (T := TX6) (N := 8) (rest := []) (as := [eV (ad 9) o, eV (ad 33) 22]) ⟨hx, hb, hml, hown, htb⟩ (d_has2 l dC dI ad cid a2 lx sg gm lg 0 o 22 (dAt D o.toNatClampNeg) hI (iv_k (by decide) : iv 0 0 0) hvo (iv_w (iv_k (by decide) : iv 22 22 22) (by decide)) hFA how hEV.2.1) (cwV 2 htb (gd_V kw_732 kw_733 kw_734 kw_149 kw_1488) rfl rfl rfl (by decide +kernel) ⟨Nat.le_of_ble_eq_true rfl, Nat.le_of_ble_eq_true rfl⟩) (iv_k (by decide) : iv 0 0 0) (by decide) (by decide) rfl rfl hl.1 rfl (Nat.le_trans cs_n (by decide)) dX9_hasWhatItNeeds_78 ⟨Nat.le_of_ble_eq_true rfl, Nat.le_of_ble_eq_true rfl⟩ hK hP hD hS hA hG (fun E ce q9 u_13 H locs hw hP hD hS hce hcv hcl => ?_) (fun v9 u_13 H locs hw hP hD hS => ?_)
      · exact hw.elim
      obtain ⟨r_12, rfl, rfl, hr_12, fH_r_12⟩ := hw
      have hP : va_P (dC, dI) vwCl (cW ad cid a2 lx sg gm lg) H := hP
      have hD : va_D A (cW ad cid a2 lx sg gm lg) := hD
      refine W.eq (g2 := F0 m 81 ls [.int r_12]) rfl ?_
      have hH_r_12 : r_12.toInt = aH (dAt D o.toNatClampNeg) 29807 := by have q9 := fH_r_12; rw [show wKy.getD (22 : Int32).toNatClampNeg 0 = 29807 from by decide] at q9; exact q9
      refine lv_if_eq (tgt := 88) hx hb dX9_hasWhatItNeeds_81 (by decide) (fun c_15 => ?_) (fun c_15 => ?_)
      · have h_16 : iv 0 0 r_12 := iv_eq c_15 hr_12 (iv_k (by decide) : iv 0 0 0) (by decide)
        exact hj88 hvx hvo ((fun q9 => by have hkd : dKd D o.toNatClampNeg = 2 := KW_f hEV.1 (by unfold KW7; rw [show (gm 14 o.toNatClampNeg).toInt = (1 : Int) from (by rw [← ez_1]; exact swy 1 7 (by decide) (h_2) ez_3 c_4)]; decide); have q8 := (NEE_2 hkd).mp q9; have := hH_r_6; have := hH_r_12; have := i32_0; have := i32_1; have := i32_2; have := i32_m1; have := (hvx).1; have := (hvx).2; have := (hvo).1; have := (hvo).2; have := (h_2).1; have := (h_2).2; have := (h_5).1; have := (h_5).2; have := (h_11).1; have := (h_11).2; have := (h_16).1; have := (h_16).2; omega)) _ _ _ hP hD hS (lv_sub hl [0, 1] rfl)
      · have h_17 : iv 1 1 r_12 := iv_neL c_15 hr_12 (by decide)
        refine lv_iconst (v := 1) hx hb dX9_hasWhatItNeeds_84 (by decide) ?_
        refine lv_goto (tgt := 89) hx hb dX9_hasWhatItNeeds_85 (by decide) ?_
        exact hj89 1 hvx hvo (iv_w (iv_k (by decide) : iv 1 1 1) (by decide)) (Or.inl ⟨rfl, (by have hkd : dKd D o.toNatClampNeg = 2 := KW_f hEV.1 (by unfold KW7; rw [show (gm 14 o.toNatClampNeg).toInt = (1 : Int) from (by rw [← ez_1]; exact swy 1 7 (by decide) (h_2) ez_3 c_4)]; decide); exact (NEE_2 hkd).mpr ⟨(by rw [← hH_r_6]; have := i32_0; have := i32_1; have := i32_2; have := i32_m1; have := (hvx).1; have := (hvx).2; have := (hvo).1; have := (hvo).2; have := (h_2).1; have := (h_2).2; have := (h_5).1; have := (h_5).2; have := (h_11).1; have := (h_11).2; have := (h_17).1; have := (h_17).2; omega), (by rw [← hH_r_12]; have := i32_0; have := i32_1; have := i32_2; have := i32_m1; have := (hvx).1; have := (hvx).2; have := (hvo).1; have := (hvo).2; have := (h_2).1; have := (h_2).2; have := (h_5).1; have := (h_5).2; have := (h_11).1; have := (h_11).2; have := (h_17).1; have := (h_17).2; omega)⟩)⟩) _ _ _ hP hD hS (lv_sub hl [0, 1] rfl)
  by_cases c_18 : (z_3 : Int32).toInt = 8
  · refine lv_tableIn (tgt := 90) hx hb dX9_hasWhatItNeeds_11 (by rw [c_18]; decide) (by rw [c_18]; decide) (by rw [c_18]; rfl) (by decide) ?_
    have h_19 : iv 8 8 z_3 := iv_at c_18
    refine ec_aload_n hx hb dX9_hasWhatItNeeds_90 rfl (lv_at hl 0 rfl) ?_
    refine ec_aload_n hx hb dX9_hasWhatItNeeds_91 rfl (lv_at hl 1 rfl) ?_
    refine cm_callV (t := 3) (C := RX9) (T := TX9) (N := 1) (rest := []) (as := [eV (ad 9) o]) ⟨hx, hb, hml, hown, htb⟩ (d_beanHas2 l dC dI ad cid a2 lx sg gm lg x o D hI hvx hvo hFA how hVS hEV) (cwV 1 htb (gd_V kw_736 kw_737 kw_33 kw_152 kw_1489) rfl rfl rfl (by decide +kernel) ⟨Nat.le_of_ble_eq_true rfl, Nat.le_of_ble_eq_true rfl⟩) hvx (by decide) (by decide) rfl rfl hl.1 rfl (Nat.le_trans cs_n (by decide)) dX9_hasWhatItNeeds_92 ⟨Nat.le_of_ble_eq_true rfl, Nat.le_of_ble_eq_true rfl⟩ hK hP hD hS hA hG (fun E ce q9 u_21 H locs hw hP hD hS hce hcv hcl => ?_) (fun v9 u_21 H locs hw hP hD hS => ?_)
    · exact hw.elim
    obtain ⟨r_20, rfl, rfl, hr_20, fN_r_20⟩ := hw
    have hP : va_P (dC, dI) vwCl (cW ad cid a2 lx sg gm lg) H := hP
    have hD : va_D A (cW ad cid a2 lx sg gm lg) := hD
    refine W.eq (g2 := F0 m 95 ls [.int r_20]) rfl ?_
    exact W.nb (fun hN => W.widen (k := 1) (n := 6) (by decide) (by decide) (vx_ret (W.zret (v := r_20) hx hb hr (iv_nb hr_20) (fun t ht hW => ⟨⟨some (.int r_20), (sg, gm, lg), rfl, ⟨r_20, rfl, rfl, hr_20, ((by have hkd : dKd D o.toNatClampNeg = 3 := KW_f hEV.1 (by unfold KW7; rw [show (gm 14 o.toNatClampNeg).toInt = (2 : Int) from (by rw [← ez_1]; exact swy 2 8 (by decide) (h_2) ez_3 c_18)]; decide); rw [NEE_3 hkd]; exact fN_r_20))⟩, by rw [ht]; exact hP, va_K.moved hW.alike hK, hD⟩, hS.F ht, by rw [ht]; exact hN⟩) hS.2.2 dX9_hasWhatItNeeds_95)))
  by_cases c_23 : (z_3 : Int32).toInt = 9
  · refine lv_tableIn (tgt := 154) hx hb dX9_hasWhatItNeeds_11 (by rw [c_23]; decide) (by rw [c_23]; decide) (by rw [c_23]; rfl) (by decide) ?_
    have h_24 : iv 9 9 z_3 := iv_at c_23
    exact hj154 hvx hvo ((by have hkd : dKd D o.toNatClampNeg = 4 := KW_f hEV.1 (by unfold KW7; rw [show (gm 14 o.toNatClampNeg).toInt = (3 : Int) from (by rw [← ez_1]; exact swy 3 9 (by decide) (h_2) ez_3 c_23)]; decide); exact NEE_0 (by omega))) _ _ _ hP hD hS (lv_sub hl [0, 1] rfl)
  by_cases c_25 : (z_3 : Int32).toInt = 10
  · refine lv_tableIn (tgt := 96) hx hb dX9_hasWhatItNeeds_11 (by rw [c_25]; decide) (by rw [c_25]; decide) (by rw [c_25]; rfl) (by decide) ?_
    have h_26 : iv 10 10 z_3 := iv_at c_25
    refine ec_aload_n hx hb dX9_hasWhatItNeeds_96 rfl (lv_at hl 0 rfl) ?_
    refine cr_get (t := 3) (j := 0) (C := RX9) (T := TX9) (N := 1) (v := eV (ad 1) 0) hx hb htb inX9 hown hK hP hvx (by decide) (by decide) (by decide) rfl (by decide) (htb _ kw_323) (cV_c rfl (by decide) (by rw [show cMu 3 0 = 0 from rfl, Nat.zero_mul]; rfl)) dX9_hasWhatItNeeds_97 ?_
    refine ec_aload_n hx hb dX9_hasWhatItNeeds_100 rfl (lv_at hl 1 rfl) ?_
    refine cw_word (k := 21) (kx := 21) hx hb hG hS (by decide) rfl ⟨by decide, by decide⟩ hown (htb _ kw_679) dX9_hasWhatItNeeds_101 ?_
    refine cm_callV (t := 1) (C := RX6) (T := TX6) (N := 8) (rest := []) (as := [eV (ad 9) o, eV (ad 33) 21]) ⟨hx, hb, hml, hown, htb⟩ (d_has2 l dC dI ad cid a2 lx sg gm lg 0 o 21 (dAt D o.toNatClampNeg) hI (iv_k (by decide) : iv 0 0 0) hvo (iv_w (iv_k (by decide) : iv 21 21 21) (by decide)) hFA how hEV.2.1) (cwV 2 htb (gd_V kw_732 kw_733 kw_734 kw_149 kw_1488) rfl rfl rfl (by decide +kernel) ⟨Nat.le_of_ble_eq_true rfl, Nat.le_of_ble_eq_true rfl⟩) (iv_k (by decide) : iv 0 0 0) (by decide) (by decide) rfl rfl hl.1 rfl (Nat.le_trans cs_n (by decide)) dX9_hasWhatItNeeds_104 ⟨Nat.le_of_ble_eq_true rfl, Nat.le_of_ble_eq_true rfl⟩ hK hP hD hS hA hG (fun E ce q9 u_28 H locs hw hP hD hS hce hcv hcl => ?_) (fun v9 u_28 H locs hw hP hD hS => ?_)
    · exact hw.elim
    obtain ⟨r_27, rfl, rfl, hr_27, fH_r_27⟩ := hw
    have hP : va_P (dC, dI) vwCl (cW ad cid a2 lx sg gm lg) H := hP
    have hD : va_D A (cW ad cid a2 lx sg gm lg) := hD
    refine W.eq (g2 := F0 m 107 ls [.int r_27]) rfl ?_
    have hH_r_27 : r_27.toInt = aH (dAt D o.toNatClampNeg) 1851878757 := by have q9 := fH_r_27; rw [show wKy.getD (21 : Int32).toNatClampNeg 0 = 1851878757 from by decide] at q9; exact q9
    exact W.nb (fun hN => W.widen (k := 1) (n := 6) (by decide) (by decide) (vx_ret (W.zret (v := r_27) hx hb hr (iv_nb hr_27) (fun t ht hW => ⟨⟨some (.int r_27), (sg, gm, lg), rfl, ⟨r_27, rfl, rfl, hr_27, ((by have hkd : dKd D o.toNatClampNeg = 5 := KW_f hEV.1 (by unfold KW7; rw [show (gm 14 o.toNatClampNeg).toInt = (4 : Int) from (by rw [← ez_1]; exact swy 4 10 (by decide) (h_2) ez_3 c_25)]; decide); rw [NEE_5 hkd, ← hH_r_27]; have := aH_01 (q := dAt D o.toNatClampNeg) (k := 1851878757); have := hH_r_27; omega))⟩, by rw [ht]; exact hP, va_K.moved hW.alike hK, hD⟩, hS.F ht, by rw [ht]; exact hN⟩) hS.2.2 dX9_hasWhatItNeeds_107)))
  by_cases c_30 : (z_3 : Int32).toInt = 11
  · refine lv_tableIn (tgt := 120) hx hb dX9_hasWhatItNeeds_11 (by rw [c_30]; decide) (by rw [c_30]; decide) (by rw [c_30]; rfl) (by decide) ?_
    have h_31 : iv 11 11 z_3 := iv_at c_30
    refine ec_aload_n hx hb dX9_hasWhatItNeeds_120 rfl (lv_at hl 0 rfl) ?_
    refine cr_get (t := 3) (j := 0) (C := RX9) (T := TX9) (N := 1) (v := eV (ad 1) 0) hx hb htb inX9 hown hK hP hvx (by decide) (by decide) (by decide) rfl (by decide) (htb _ kw_323) (cV_c rfl (by decide) (by rw [show cMu 3 0 = 0 from rfl, Nat.zero_mul]; rfl)) dX9_hasWhatItNeeds_121 ?_
    refine ec_aload_n hx hb dX9_hasWhatItNeeds_124 rfl (lv_at hl 1 rfl) ?_
    refine cw_word (k := 21) (kx := 21) hx hb hG hS (by decide) rfl ⟨by decide, by decide⟩ hown (htb _ kw_679) dX9_hasWhatItNeeds_125 ?_
    refine cm_callV (t := 1) (C := RX6) (T := TX6) (N := 8) (rest := []) (as := [eV (ad 9) o, eV (ad 33) 21]) ⟨hx, hb, hml, hown, htb⟩ (d_has2 l dC dI ad cid a2 lx sg gm lg 0 o 21 (dAt D o.toNatClampNeg) hI (iv_k (by decide) : iv 0 0 0) hvo (iv_w (iv_k (by decide) : iv 21 21 21) (by decide)) hFA how hEV.2.1) (cwV 2 htb (gd_V kw_732 kw_733 kw_734 kw_149 kw_1488) rfl rfl rfl (by decide +kernel) ⟨Nat.le_of_ble_eq_true rfl, Nat.le_of_ble_eq_true rfl⟩) (iv_k (by decide) : iv 0 0 0) (by decide) (by decide) rfl rfl hl.1 rfl (Nat.le_trans cs_n (by decide)) dX9_hasWhatItNeeds_128 ⟨Nat.le_of_ble_eq_true rfl, Nat.le_of_ble_eq_true rfl⟩ hK hP hD hS hA hG (fun E ce q9 u_33 H locs hw hP hD hS hce hcv hcl => ?_) (fun v9 u_33 H locs hw hP hD hS => ?_)
    · exact hw.elim
    obtain ⟨r_32, rfl, rfl, hr_32, fH_r_32⟩ := hw
    have hP : va_P (dC, dI) vwCl (cW ad cid a2 lx sg gm lg) H := hP
    have hD : va_D A (cW ad cid a2 lx sg gm lg) := hD
    refine W.eq (g2 := F0 m 131 ls [.int r_32]) rfl ?_
    have hH_r_32 : r_32.toInt = aH (dAt D o.toNatClampNeg) 1851878757 := by have q9 := fH_r_32; rw [show wKy.getD (21 : Int32).toNatClampNeg 0 = 1851878757 from by decide] at q9; exact q9
    refine lv_if_eq (tgt := 152) hx hb dX9_hasWhatItNeeds_131 (by decide) (fun c_35 => ?_) (fun c_35 => ?_)
    · have h_36 : iv 0 0 r_32 := iv_eq c_35 hr_32 (iv_k (by decide) : iv 0 0 0) (by decide)
      exact hj152 hvx hvo ((fun q9 => by have hkd : dKd D o.toNatClampNeg = 10 := KW_f hEV.1 (by unfold KW7; rw [show (gm 14 o.toNatClampNeg).toInt = (5 : Int) from (by rw [← ez_1]; exact swy 5 11 (by decide) (h_2) ez_3 c_30)]; decide); have q8 := (NEE_10 hkd).mp q9; have := hH_r_32; have := i32_0; have := i32_1; have := i32_2; have := i32_m1; have := (hvx).1; have := (hvx).2; have := (hvo).1; have := (hvo).2; have := (h_2).1; have := (h_2).2; have := (h_31).1; have := (h_31).2; have := (h_36).1; have := (h_36).2; omega)) _ _ _ hP hD hS (lv_sub hl [0, 1] rfl)
    · have h_37 : iv 1 1 r_32 := iv_neL c_35 hr_32 (by decide)
      refine ec_aload_n hx hb dX9_hasWhatItNeeds_134 rfl (lv_at hl 0 rfl) ?_
      refine cr_get (t := 3) (j := 0) (C := RX9) (T := TX9) (N := 1) (v := eV (ad 1) 0) hx hb htb inX9 hown hK hP hvx (by decide) (by decide) (by decide) rfl (by decide) (htb _ kw_323) (cV_c rfl (by decide) (by rw [show cMu 3 0 = 0 from rfl, Nat.zero_mul]; rfl)) dX9_hasWhatItNeeds_135 ?_
      refine ec_aload_n hx hb dX9_hasWhatItNeeds_138 rfl (lv_at hl 1 rfl) ?_
      refine cw_word (k := 2) (kx := 2) hx hb hG hS (by decide) rfl ⟨by decide, by decide⟩ hown (htb _ kw_674) dX9_hasWhatItNeeds_139 ?_
      refine cm_callV (t := 1) (C := RX6) (T := TX6) (N := 8) (rest := []) (as := [eV (ad 9) o, eV (ad 33) 2]) ⟨hx, hb, hml, hown, htb⟩ (d_has2 l dC dI ad cid a2 lx sg gm lg 0 o 2 (dAt D o.toNatClampNeg) hI (iv_k (by decide) : iv 0 0 0) hvo (iv_w (iv_k (by decide) : iv 2 2 2) (by decide)) hFA how hEV.2.1) (cwV 2 htb (gd_V kw_732 kw_733 kw_734 kw_149 kw_1488) rfl rfl rfl (by decide +kernel) ⟨Nat.le_of_ble_eq_true rfl, Nat.le_of_ble_eq_true rfl⟩) (iv_k (by decide) : iv 0 0 0) (by decide) (by decide) rfl rfl hl.1 rfl (Nat.le_trans cs_n (by decide)) dX9_hasWhatItNeeds_142 ⟨Nat.le_of_ble_eq_true rfl, Nat.le_of_ble_eq_true rfl⟩ hK hP hD hS hA hG (fun E ce q9 u_39 H locs hw hP hD hS hce hcv hcl => ?_) (fun v9 u_39 H locs hw hP hD hS => ?_)
      · exact hw.elim
      obtain ⟨r_38, rfl, rfl, hr_38, fH_r_38⟩ := hw
      have hP : va_P (dC, dI) vwCl (cW ad cid a2 lx sg gm lg) H := hP
      have hD : va_D A (cW ad cid a2 lx sg gm lg) := hD
      refine W.eq (g2 := F0 m 145 ls [.int r_38]) rfl ?_
      have hH_r_38 : r_38.toInt = aH (dAt D o.toNatClampNeg) 1650811246 := by have q9 := fH_r_38; rw [show wKy.getD (2 : Int32).toNatClampNeg 0 = 1650811246 from by decide] at q9; exact q9
      refine lv_if_eq (tgt := 152) hx hb dX9_hasWhatItNeeds_145 (by decide) (fun c_41 => ?_) (fun c_41 => ?_)
      · have h_42 : iv 0 0 r_38 := iv_eq c_41 hr_38 (iv_k (by decide) : iv 0 0 0) (by decide)
        exact hj152 hvx hvo ((fun q9 => by have hkd : dKd D o.toNatClampNeg = 10 := KW_f hEV.1 (by unfold KW7; rw [show (gm 14 o.toNatClampNeg).toInt = (5 : Int) from (by rw [← ez_1]; exact swy 5 11 (by decide) (h_2) ez_3 c_30)]; decide); have q8 := (NEE_10 hkd).mp q9; have := hH_r_32; have := hH_r_38; have := i32_0; have := i32_1; have := i32_2; have := i32_m1; have := (hvx).1; have := (hvx).2; have := (hvo).1; have := (hvo).2; have := (h_2).1; have := (h_2).2; have := (h_31).1; have := (h_31).2; have := (h_37).1; have := (h_37).2; have := (h_42).1; have := (h_42).2; omega)) _ _ _ hP hD hS (lv_sub hl [0, 1] rfl)
      · have h_43 : iv 1 1 r_38 := iv_neL c_41 hr_38 (by decide)
        refine lv_iconst (v := 1) hx hb dX9_hasWhatItNeeds_148 (by decide) ?_
        refine lv_goto (tgt := 153) hx hb dX9_hasWhatItNeeds_149 (by decide) ?_
        exact hj153 1 hvx hvo (iv_w (iv_k (by decide) : iv 1 1 1) (by decide)) (Or.inl ⟨rfl, (by have hkd : dKd D o.toNatClampNeg = 10 := KW_f hEV.1 (by unfold KW7; rw [show (gm 14 o.toNatClampNeg).toInt = (5 : Int) from (by rw [← ez_1]; exact swy 5 11 (by decide) (h_2) ez_3 c_30)]; decide); exact (NEE_10 hkd).mpr ⟨(by rw [← hH_r_32]; have := i32_0; have := i32_1; have := i32_2; have := i32_m1; have := (hvx).1; have := (hvx).2; have := (hvo).1; have := (hvo).2; have := (h_2).1; have := (h_2).2; have := (h_31).1; have := (h_31).2; have := (h_37).1; have := (h_37).2; have := (h_43).1; have := (h_43).2; omega), (by rw [← hH_r_38]; have := i32_0; have := i32_1; have := i32_2; have := i32_m1; have := (hvx).1; have := (hvx).2; have := (hvo).1; have := (hvo).2; have := (h_2).1; have := (h_2).2; have := (h_31).1; have := (h_31).2; have := (h_37).1; have := (h_37).2; have := (h_43).1; have := (h_43).2; omega)⟩)⟩) _ _ _ hP hD hS (lv_sub hl [0, 1] rfl)
  by_cases c_44 : (z_3 : Int32).toInt = 12
  · refine lv_tableIn (tgt := 154) hx hb dX9_hasWhatItNeeds_11 (by rw [c_44]; decide) (by rw [c_44]; decide) (by rw [c_44]; rfl) (by decide) ?_
    have h_45 : iv 12 12 z_3 := iv_at c_44
    exact hj154 hvx hvo ((by have hkd : dKd D o.toNatClampNeg = 6 := KW_f hEV.1 (by unfold KW7; rw [show (gm 14 o.toNatClampNeg).toInt = (6 : Int) from (by rw [← ez_1]; exact swy 6 12 (by decide) (h_2) ez_3 c_44)]; decide); exact NEE_0 (by omega))) _ _ _ hP hD hS (lv_sub hl [0, 1] rfl)
  by_cases c_46 : (z_3 : Int32).toInt = 13
  · refine lv_tableIn (tgt := 154) hx hb dX9_hasWhatItNeeds_11 (by rw [c_46]; decide) (by rw [c_46]; decide) (by rw [c_46]; rfl) (by decide) ?_
    have h_47 : iv 13 13 z_3 := iv_at c_46
    exact hj154 hvx hvo ((by have hkd : dKd D o.toNatClampNeg = 7 := KW_f hEV.1 (by unfold KW7; rw [show (gm 14 o.toNatClampNeg).toInt = (7 : Int) from (by rw [← ez_1]; exact swy 7 13 (by decide) (h_2) ez_3 c_46)]; decide); exact NEE_0 (by omega))) _ _ _ hP hD hS (lv_sub hl [0, 1] rfl)
  by_cases c_48 : (z_3 : Int32).toInt = 14
  · refine lv_tableIn (tgt := 108) hx hb dX9_hasWhatItNeeds_11 (by rw [c_48]; decide) (by rw [c_48]; decide) (by rw [c_48]; rfl) (by decide) ?_
    have h_49 : iv 14 14 z_3 := iv_at c_48
    refine ec_aload_n hx hb dX9_hasWhatItNeeds_108 rfl (lv_at hl 0 rfl) ?_
    refine cr_get (t := 3) (j := 0) (C := RX9) (T := TX9) (N := 1) (v := eV (ad 1) 0) hx hb htb inX9 hown hK hP hvx (by decide) (by decide) (by decide) rfl (by decide) (htb _ kw_323) (cV_c rfl (by decide) (by rw [show cMu 3 0 = 0 from rfl, Nat.zero_mul]; rfl)) dX9_hasWhatItNeeds_109 ?_
    refine ec_aload_n hx hb dX9_hasWhatItNeeds_112 rfl (lv_at hl 1 rfl) ?_
    refine cw_word (k := 2) (kx := 2) hx hb hG hS (by decide) rfl ⟨by decide, by decide⟩ hown (htb _ kw_674) dX9_hasWhatItNeeds_113 ?_
    refine cm_callV (t := 1) (C := RX6) (T := TX6) (N := 8) (rest := []) (as := [eV (ad 9) o, eV (ad 33) 2]) ⟨hx, hb, hml, hown, htb⟩ (d_has2 l dC dI ad cid a2 lx sg gm lg 0 o 2 (dAt D o.toNatClampNeg) hI (iv_k (by decide) : iv 0 0 0) hvo (iv_w (iv_k (by decide) : iv 2 2 2) (by decide)) hFA how hEV.2.1) (cwV 2 htb (gd_V kw_732 kw_733 kw_734 kw_149 kw_1488) rfl rfl rfl (by decide +kernel) ⟨Nat.le_of_ble_eq_true rfl, Nat.le_of_ble_eq_true rfl⟩) (iv_k (by decide) : iv 0 0 0) (by decide) (by decide) rfl rfl hl.1 rfl (Nat.le_trans cs_n (by decide)) dX9_hasWhatItNeeds_116 ⟨Nat.le_of_ble_eq_true rfl, Nat.le_of_ble_eq_true rfl⟩ hK hP hD hS hA hG (fun E ce q9 u_51 H locs hw hP hD hS hce hcv hcl => ?_) (fun v9 u_51 H locs hw hP hD hS => ?_)
    · exact hw.elim
    obtain ⟨r_50, rfl, rfl, hr_50, fH_r_50⟩ := hw
    have hP : va_P (dC, dI) vwCl (cW ad cid a2 lx sg gm lg) H := hP
    have hD : va_D A (cW ad cid a2 lx sg gm lg) := hD
    refine W.eq (g2 := F0 m 119 ls [.int r_50]) rfl ?_
    have hH_r_50 : r_50.toInt = aH (dAt D o.toNatClampNeg) 1650811246 := by have q9 := fH_r_50; rw [show wKy.getD (2 : Int32).toNatClampNeg 0 = 1650811246 from by decide] at q9; exact q9
    exact W.nb (fun hN => W.widen (k := 1) (n := 6) (by decide) (by decide) (vx_ret (W.zret (v := r_50) hx hb hr (iv_nb hr_50) (fun t ht hW => ⟨⟨some (.int r_50), (sg, gm, lg), rfl, ⟨r_50, rfl, rfl, hr_50, ((by have hkd : dKd D o.toNatClampNeg = 8 := KW_f hEV.1 (by unfold KW7; rw [show (gm 14 o.toNatClampNeg).toInt = (8 : Int) from (by rw [← ez_1]; exact swy 8 14 (by decide) (h_2) ez_3 c_48)]; decide); rw [NEE_8 hkd, ← hH_r_50]; have := aH_01 (q := dAt D o.toNatClampNeg) (k := 1650811246); have := hH_r_50; omega))⟩, by rw [ht]; exact hP, va_K.moved hW.alike hK, hD⟩, hS.F ht, by rw [ht]; exact hN⟩) hS.2.2 dX9_hasWhatItNeeds_119)))
  refine lv_tableOut (tgt := 154) hx hb dX9_hasWhatItNeeds_11 (by have q1 := (hz_3).1; have q2 := (hz_3).2; omega) (by decide) ?_
  exact hj154 hvx hvo ((by have n2 : ¬ dKd D o.toNatClampNeg = 2 := fun q8 => absurd (KW_j (q8 ▸ hEV.1 : KW7 (gm 14 o.toNatClampNeg).toInt 2) (by decide)) (by rw [show wkF 2 = 1 by decide]; have n9 := swx (y := z_1) 1 7 (by decide) (h_2) ez_3 (by omega); rw [ez_1] at n9; exact n9); have n3 : ¬ dKd D o.toNatClampNeg = 3 := fun q8 => absurd (KW_j (q8 ▸ hEV.1 : KW7 (gm 14 o.toNatClampNeg).toInt 3) (by decide)) (by rw [show wkF 3 = 2 by decide]; have n9 := swx (y := z_1) 2 8 (by decide) (h_2) ez_3 (by omega); rw [ez_1] at n9; exact n9); have n5 : ¬ dKd D o.toNatClampNeg = 5 := fun q8 => absurd (KW_j (q8 ▸ hEV.1 : KW7 (gm 14 o.toNatClampNeg).toInt 5) (by decide)) (by rw [show wkF 5 = 4 by decide]; have n9 := swx (y := z_1) 4 10 (by decide) (h_2) ez_3 (by omega); rw [ez_1] at n9; exact n9); have n10 : ¬ dKd D o.toNatClampNeg = 10 := fun q8 => absurd (KW_j (q8 ▸ hEV.1 : KW7 (gm 14 o.toNatClampNeg).toInt 10) (by decide)) (by rw [show wkF 10 = 5 by decide]; have n9 := swx (y := z_1) 5 11 (by decide) (h_2) ez_3 (by omega); rw [ez_1] at n9; exact n9); have n8 : ¬ dKd D o.toNatClampNeg = 8 := fun q8 => absurd (KW_j (q8 ▸ hEV.1 : KW7 (gm 14 o.toNatClampNeg).toInt 8) (by decide)) (by rw [show wkF 8 = 8 by decide]; have n9 := swx (y := z_1) 8 14 (by decide) (h_2) ez_3 (by omega); rw [ez_1] at n9; exact n9); exact NEE_0 (by omega))) _ _ _ hP hD hS (lv_sub hl [0, 1] rfl)

set_option maxHeartbeats 4000000 in
set_option maxRecDepth 100000 in
theorem d_hasRightCount2 (l : Launch) (dC : Nat → ClassId) (dI : Nat → Nat → Nat) (ad : Nat → Nat → Nat) (cid : Nat → ClassId) (a2 : Nat → Nat) (lx : List Nat) (sg : Nat → Int32) (gm : Nat → Nat → Int32) (lg : Nat → Nat → Int64) (x : Int32) (o : Int32) (D : List El7) (hI : CI sg gm) (hvx : iv 0 0 x) (hvo : iv 0 79 o) (hFA : FA sg gm) (how : o.toInt < (sg 4).toInt) (hVS : VS sg gm) (hw0 : 0 ≤ (gm 14 o.toNatClampNeg).toInt) (hEV : EV7 D sg gm lg o.toNatClampNeg) (hk0 : ¬ dKd D o.toNatClampNeg = 0) : CMt dC dI ad cid a2 lx l yX9_hasRightCount wm_X9_hasRightCount ({ frames := 2, cells := 1, slots := 6, locals := 46 }) [eV (ad 3) x, eV (ad 9) o] sg gm lg (fun v u => ∃ r : Int32, v = some (.int r) ∧ u = (sg, gm, lg) ∧ (iv 0 1 r) ∧ ((r.toInt = 1 ∧ (CNT D o.toNatClampNeg)) ∨ (r.toInt = 0 ∧ ¬ (CNT D o.toNatClampNeg)))) (fun _ _ => False) := by
  intro sz
  refine vx_ofW (cc := cX9_hasRightCount) (maxL := 2) (ret := (some .boolean)) (by decide) rfl ?_
  intro p e s m args below meth c s₁ B hml hxt hv
  obtain ⟨rfl, hsz, hP, hK, hD0, hG⟩ := hv
  have hx := B.exec
  have hb := B.bytes
  have hr := B.returns
  have hts := atoms_spec (ws := wm_X9_hasRightCount) B.pre
  have htb := fun (w : Cond) (h : w ∈ tb) => hts w (List.mem_cons_of_mem _ h)
  have hown : s.vm.findClass RX9 = some m.cls := findClass_of_methodNamed B.named
  have hlocks := B.notSynchronized
  subst hsz
  have hD := hD0.self (sz := s.heap.size)
  generalize hAe : va_A (cW ad cid a2 lx sg gm lg) s.heap.size = A at hD hG ⊢
  have hA : ∀ q : Nat, s.heap.size ≤ q → A q := fun q h => by rw [← hAe]; exact Or.inr h
  have hS : va_S A s.heap s.heap [] := va_S.rf
  have hl := lv_entry ([eV (ad 3) x, eV (ad 9) o]) (n := 2) (by rw [show (lg_sl ([eV (ad 3) x, eV (ad 9) o])).length = 2 from by simp [lg_sl, eV_cat, cat_i, cat_l]]; exact Nat.le_of_ble_eq_true rfl)
  rw [lg_entry_eq]
  generalize (lg_sl ([eV (ad 3) x, eV (ad 9) o]) ++ List.replicate (2 - (lg_sl ([eV (ad 3) x, eV (ad 9) o])).length) Slot.unset).toArray = ls at hl ⊢
  have hl : lv_has ls 2 [(0, eV (ad 3) x), (1, eV (ad 9) o)] := by simp [lv_args, eV_cat, cat_i, cat_l] at hl; exact hl
  have hj52 : ∀ (_ : iv 0 0 x) (_ : iv 0 79 o) (_ : dKd D o.toNatClampNeg = 1 ∨ dKd D o.toNatClampNeg = 3) (H : Heap) (locs : List Loc) (ls : Array Slot), va_P (dC, dI) vwCl (cW ad cid a2 lx sg gm lg) H → va_D A (cW ad cid a2 lx sg gm lg) → va_S A s.heap H locs → lv_has ls 2 [(0, eV (ad 3) x), (1, eV (ad 9) o)] → W p l e (headSpec wm_X9_hasRightCount ({ frames := 2, cells := 1, slots := 6, locals := 46 })).room s m ([eV (ad 3) x, eV (ad 9) o] : List Value).toArray below meth c H locs 0 0 (vx_MQ below (cQx dC dI ad cid a2 lx (fun v u => ∃ r : Int32, v = some (.int r) ∧ u = (sg, gm, lg) ∧ (iv 0 1 r) ∧ ((r.toInt = 1 ∧ (CNT D o.toNatClampNeg)) ∨ (r.toInt = 0 ∧ ¬ (CNT D o.toNatClampNeg)))) A) (cX dC dI ad cid a2 lx (fun _ _ => False) A) ([eV (ad 3) x, eV (ad 9) o] : List Value).toArray s 1 6 A) (F0 m 52 ls []) := by
    intro  hsx0_52 hsx1_52 uK H locs ls hP hD hS hl
    refine lv_iconst (v := 1) hx hb dX9_hasRightCount_52 (by decide) ?_
    exact W.nb (fun hN => W.widen (k := 1) (n := 6) (by decide) (by decide) (vx_ret (W.zret (v := 1) hx hb hr (iv_nb (iv_w (iv_k (by decide) : iv 1 1 1) (by decide))) (fun t ht hW => ⟨⟨some (.int 1), (sg, gm, lg), rfl, ⟨1, rfl, rfl, (iv_w (iv_k (by decide) : iv 1 1 1) (by decide)), (Or.inl ⟨rfl, (by unfold CNT; omega)⟩)⟩, by rw [ht]; exact hP, va_K.moved hW.alike hK, hD⟩, hS.F ht, by rw [ht]; exact hN⟩) hS.2.2 dX9_hasRightCount_53)))
  have hj135 : ∀ (y0_135 : Int32) (_ : iv 0 0 x) (_ : iv 0 79 o) (_ : iv 0 1 y0_135) (_ : (y0_135.toInt = 1 ∧ (CNT D o.toNatClampNeg)) ∨ (y0_135.toInt = 0 ∧ ¬ (CNT D o.toNatClampNeg))) (H : Heap) (locs : List Loc) (ls : Array Slot), va_P (dC, dI) vwCl (cW ad cid a2 lx sg gm lg) H → va_D A (cW ad cid a2 lx sg gm lg) → va_S A s.heap H locs → lv_has ls 2 [(0, eV (ad 3) x), (1, eV (ad 9) o)] → W p l e (headSpec wm_X9_hasRightCount ({ frames := 2, cells := 1, slots := 6, locals := 46 })).room s m ([eV (ad 3) x, eV (ad 9) o] : List Value).toArray below meth c H locs 0 0 (vx_MQ below (cQx dC dI ad cid a2 lx (fun v u => ∃ r : Int32, v = some (.int r) ∧ u = (sg, gm, lg) ∧ (iv 0 1 r) ∧ ((r.toInt = 1 ∧ (CNT D o.toNatClampNeg)) ∨ (r.toInt = 0 ∧ ¬ (CNT D o.toNatClampNeg)))) A) (cX dC dI ad cid a2 lx (fun _ _ => False) A) ([eV (ad 3) x, eV (ad 9) o] : List Value).toArray s 1 6 A) (F0 m 135 ls [.int y0_135]) := by
    intro y0_135 hsx0_135 hsx1_135 hy0_135 u135 H locs ls hP hD hS hl
    exact W.nb (fun hN => W.widen (k := 1) (n := 6) (by decide) (by decide) (vx_ret (W.zret (v := y0_135) hx hb hr (iv_nb hy0_135) (fun t ht hW => ⟨⟨some (.int y0_135), (sg, gm, lg), rfl, ⟨y0_135, rfl, rfl, hy0_135, (u135)⟩, by rw [ht]; exact hP, va_K.moved hW.alike hK, hD⟩, hS.F ht, by rw [ht]; exact hN⟩) hS.2.2 dX9_hasRightCount_135)))
  have hj123 : ∀ (_ : iv 0 0 x) (_ : iv 0 79 o) (_ : dKd D o.toNatClampNeg = 2 ∨ dKd D o.toNatClampNeg = 7 ∨ dKd D o.toNatClampNeg = 8 ∨ dKd D o.toNatClampNeg = 9 ∨ dKd D o.toNatClampNeg = 10) (H : Heap) (locs : List Loc) (ls : Array Slot), va_P (dC, dI) vwCl (cW ad cid a2 lx sg gm lg) H → va_D A (cW ad cid a2 lx sg gm lg) → va_S A s.heap H locs → lv_has ls 2 [(0, eV (ad 3) x), (1, eV (ad 9) o)] → W p l e (headSpec wm_X9_hasRightCount ({ frames := 2, cells := 1, slots := 6, locals := 46 })).room s m ([eV (ad 3) x, eV (ad 9) o] : List Value).toArray below meth c H locs 0 0 (vx_MQ below (cQx dC dI ad cid a2 lx (fun v u => ∃ r : Int32, v = some (.int r) ∧ u = (sg, gm, lg) ∧ (iv 0 1 r) ∧ ((r.toInt = 1 ∧ (CNT D o.toNatClampNeg)) ∨ (r.toInt = 0 ∧ ¬ (CNT D o.toNatClampNeg)))) A) (cX dC dI ad cid a2 lx (fun _ _ => False) A) ([eV (ad 3) x, eV (ad 9) o] : List Value).toArray s 1 6 A) (F0 m 123 ls []) := by
    intro  hsx0_123 hsx1_123 uK H locs ls hP hD hS hl
    refine ec_aload_n hx hb dX9_hasRightCount_123 rfl (lv_at hl 1 rfl) ?_
    refine cr_get (t := 9) (j := 8) (C := RX3) (T := TX3) (N := 21) (v := .int (gm 18 o.toNatClampNeg)) hx hb htb inX3 hown hK hP hsx1_123 (by decide) (by decide) (by decide) rfl (by decide) (htb _ kw_259) rfl dX9_hasRightCount_124 ?_
    obtain ⟨z_1, ez_1⟩ : ∃ z : Int32, z = (gm 18 o.toNatClampNeg) := ⟨_, rfl⟩
    refine W.eq (g2 := F0 m 127 ls [.int z_1]) (by rw [ez_1]) ?_
    have hz_1 : iv 0 2000000 z_1 := iv_of ez_1 (CI_a hI 18 hsx1_123 (by decide))
    refine lv_if_ne (tgt := 134) hx hb dX9_hasRightCount_127 (by decide) (fun c_2 => ?_) (fun c_2 => ?_)
    · have h_3 : iv 1 2000000 z_1 := iv_neL c_2 hz_1 (by decide)
      refine lv_iconst (v := 0) hx hb dX9_hasRightCount_134 (by decide) ?_
      exact hj135 0 hsx0_123 hsx1_123 (iv_w (iv_k (by decide) : iv 0 0 0) (by decide)) (Or.inr ⟨rfl, (fun q9 => by have := congrArg Int32.toInt ez_1; have := hEV.2.2.2.2.2; have := uK; have := i32_0; have := i32_1; have := i32_2; have := i32_m1; have := (hsx0_123).1; have := (hsx0_123).2; have := (hsx1_123).1; have := (hsx1_123).2; have := (h_3).1; have := (h_3).2; unfold CNT at q9; omega)⟩) _ _ _ hP hD hS (lv_sub hl [0, 1] rfl)
    · have h_4 : iv 0 0 z_1 := iv_eq c_2 hz_1 (iv_k (by decide) : iv 0 0 0) (by decide)
      refine lv_iconst (v := 1) hx hb dX9_hasRightCount_130 (by decide) ?_
      refine lv_goto (tgt := 135) hx hb dX9_hasRightCount_131 (by decide) ?_
      exact hj135 1 hsx0_123 hsx1_123 (iv_w (iv_k (by decide) : iv 1 1 1) (by decide)) (Or.inl ⟨rfl, (by have := congrArg Int32.toInt ez_1; have := hEV.2.2.2.2.2; have := uK; have := i32_0; have := i32_1; have := i32_2; have := i32_m1; have := (hsx0_123).1; have := (hsx0_123).2; have := (hsx1_123).1; have := (hsx1_123).2; have := (h_4).1; have := (h_4).2; unfold CNT; omega)⟩) _ _ _ hP hD hS (lv_sub hl [0, 1] rfl)
  have hj107 : ∀ (y0_107 : Int32) (_ : iv 0 0 x) (_ : iv 0 79 o) (_ : iv 0 1 y0_107) (_ : (y0_107.toInt = 1 ∧ (CNT D o.toNatClampNeg)) ∨ (y0_107.toInt = 0 ∧ ¬ (CNT D o.toNatClampNeg))) (H : Heap) (locs : List Loc) (ls : Array Slot), va_P (dC, dI) vwCl (cW ad cid a2 lx sg gm lg) H → va_D A (cW ad cid a2 lx sg gm lg) → va_S A s.heap H locs → lv_has ls 2 [(0, eV (ad 3) x), (1, eV (ad 9) o)] → W p l e (headSpec wm_X9_hasRightCount ({ frames := 2, cells := 1, slots := 6, locals := 46 })).room s m ([eV (ad 3) x, eV (ad 9) o] : List Value).toArray below meth c H locs 0 0 (vx_MQ below (cQx dC dI ad cid a2 lx (fun v u => ∃ r : Int32, v = some (.int r) ∧ u = (sg, gm, lg) ∧ (iv 0 1 r) ∧ ((r.toInt = 1 ∧ (CNT D o.toNatClampNeg)) ∨ (r.toInt = 0 ∧ ¬ (CNT D o.toNatClampNeg)))) A) (cX dC dI ad cid a2 lx (fun _ _ => False) A) ([eV (ad 3) x, eV (ad 9) o] : List Value).toArray s 1 6 A) (F0 m 107 ls [.int y0_107]) := by
    intro y0_107 hsx0_107 hsx1_107 hy0_107 u107 H locs ls hP hD hS hl
    exact W.nb (fun hN => W.widen (k := 1) (n := 6) (by decide) (by decide) (vx_ret (W.zret (v := y0_107) hx hb hr (iv_nb hy0_107) (fun t ht hW => ⟨⟨some (.int y0_107), (sg, gm, lg), rfl, ⟨y0_107, rfl, rfl, hy0_107, (u107)⟩, by rw [ht]; exact hP, va_K.moved hW.alike hK, hD⟩, hS.F ht, by rw [ht]; exact hN⟩) hS.2.2 dX9_hasRightCount_107)))
  have hj92 : ∀ (y0_92 : Int32) (y1_92 : Int32) (_ : iv 0 0 x) (_ : iv 0 79 o) (_ : iv 0 1 y0_92) (_ : iv 0 1 y1_92) (_ : dKd D o.toNatClampNeg = 4 ∨ dKd D o.toNatClampNeg = 5) (_ : y1_92.toInt = aH (dAt D o.toNatClampNeg) 508440638821) (_ : y0_92.toInt = aH (dAt D o.toNatClampNeg) 7497062) (H : Heap) (locs : List Loc) (ls : Array Slot), va_P (dC, dI) vwCl (cW ad cid a2 lx sg gm lg) H → va_D A (cW ad cid a2 lx sg gm lg) → va_S A s.heap H locs → lv_has ls 2 [(0, eV (ad 3) x), (1, eV (ad 9) o)] → W p l e (headSpec wm_X9_hasRightCount ({ frames := 2, cells := 1, slots := 6, locals := 46 })).room s m ([eV (ad 3) x, eV (ad 9) o] : List Value).toArray below meth c H locs 0 0 (vx_MQ below (cQx dC dI ad cid a2 lx (fun v u => ∃ r : Int32, v = some (.int r) ∧ u = (sg, gm, lg) ∧ (iv 0 1 r) ∧ ((r.toInt = 1 ∧ (CNT D o.toNatClampNeg)) ∨ (r.toInt = 0 ∧ ¬ (CNT D o.toNatClampNeg)))) A) (cX dC dI ad cid a2 lx (fun _ _ => False) A) ([eV (ad 3) x, eV (ad 9) o] : List Value).toArray s 1 6 A) (F0 m 92 ls [.int y0_92, .int y1_92]) := by
    intro y0_92 y1_92 hsx0_92 hsx1_92 hy0_92 hy1_92 uK u73 u92 H locs ls hP hD hS hl
    refine lv_iadd hx hb dX9_hasRightCount_92 ?_
    refine lv_topi (fun z_5 ez_5 => ?_)
    have hz_5 : iv 0 2 z_5 := iv_of ez_5 (iv_add hy1_92 hy0_92 (by decide))
    have tz_5 : z_5.toInt = (y1_92 : Int32).toInt + (y0_92 : Int32).toInt := by rw [ez_5]; exact iv_addE hy1_92 hy0_92 (by decide)
    refine ec_aload_n hx hb dX9_hasRightCount_93 rfl (lv_at hl 1 rfl) ?_
    refine cr_get (t := 9) (j := 8) (C := RX3) (T := TX3) (N := 21) (v := .int (gm 18 o.toNatClampNeg)) hx hb htb inX3 hown hK hP hsx1_92 (by decide) (by decide) (by decide) rfl (by decide) (htb _ kw_259) rfl dX9_hasRightCount_94 ?_
    obtain ⟨z_6, ez_6⟩ : ∃ z : Int32, z = (gm 18 o.toNatClampNeg) := ⟨_, rfl⟩
    refine W.eq (g2 := F0 m 97 ls [.int z_6, .int z_5]) (by rw [ez_6]) ?_
    have hz_6 : iv 0 2000000 z_6 := iv_of ez_6 (CI_a hI 18 hsx1_92 (by decide))
    refine lv_iadd hx hb dX9_hasRightCount_97 ?_
    refine lv_topi (fun z_7 ez_7 => ?_)
    have hz_7 : iv 0 2000002 z_7 := iv_of ez_7 (iv_add hz_5 hz_6 (by decide))
    have tz_7 : z_7.toInt = (z_5 : Int32).toInt + (z_6 : Int32).toInt := by rw [ez_7]; exact iv_addE hz_5 hz_6 (by decide)
    refine lv_iconst (v := 1) hx hb dX9_hasRightCount_98 (by decide) ?_
    refine lv_icmp_ne (tgt := 106) hx hb dX9_hasRightCount_99 (by decide) (fun c_8 => ?_) (fun c_8 => ?_)
    · have d_9 : ¬ (z_7 : Int32).toInt = 1 := lv_neT c_8 rfl
      refine lv_iconst (v := 0) hx hb dX9_hasRightCount_106 (by decide) ?_
      exact hj107 0 hsx0_92 hsx1_92 (iv_w (iv_k (by decide) : iv 0 0 0) (by decide)) (Or.inr ⟨rfl, (fun q9 => by have := congrArg Int32.toInt ez_6; have := hEV.2.2.2.2.2; have := u73; have := u92; have := tz_7; have := tz_5; have := tz_7; have := uK; have := i32_0; have := i32_1; have := i32_2; have := i32_m1; have := (hsx0_92).1; have := (hsx0_92).2; have := (hsx1_92).1; have := (hsx1_92).2; have := (hy0_92).1; have := (hy0_92).2; have := (hy1_92).1; have := (hy1_92).2; have := (hz_5).1; have := (hz_5).2; have := (hz_6).1; have := (hz_6).2; have := (hz_7).1; have := (hz_7).2; unfold CNT at q9; omega)⟩) _ _ _ hP hD hS (lv_sub hl [0, 1] rfl)
    · have h_10 : iv 1 1 z_7 := iv_eq c_8 hz_7 (iv_k (by decide) : iv 1 1 1) (by decide)
      refine lv_iconst (v := 1) hx hb dX9_hasRightCount_102 (by decide) ?_
      refine lv_goto (tgt := 107) hx hb dX9_hasRightCount_103 (by decide) ?_
      exact hj107 1 hsx0_92 hsx1_92 (iv_w (iv_k (by decide) : iv 1 1 1) (by decide)) (Or.inl ⟨rfl, (by have := congrArg Int32.toInt ez_6; have := hEV.2.2.2.2.2; have := u73; have := u92; have := tz_7; have := tz_5; have := tz_7; have := uK; have := i32_0; have := i32_1; have := i32_2; have := i32_m1; have := (hsx0_92).1; have := (hsx0_92).2; have := (hsx1_92).1; have := (hsx1_92).2; have := (hy0_92).1; have := (hy0_92).2; have := (hy1_92).1; have := (hy1_92).2; have := (hz_5).1; have := (hz_5).2; have := (hz_6).1; have := (hz_6).2; have := (h_10).1; have := (h_10).2; unfold CNT; omega)⟩) _ _ _ hP hD hS (lv_sub hl [0, 1] rfl)
  have hj73 : ∀ (y0_73 : Int32) (_ : iv 0 0 x) (_ : iv 0 79 o) (_ : iv 0 1 y0_73) (_ : dKd D o.toNatClampNeg = 4 ∨ dKd D o.toNatClampNeg = 5) (_ : y0_73.toInt = aH (dAt D o.toNatClampNeg) 508440638821) (H : Heap) (locs : List Loc) (ls : Array Slot), va_P (dC, dI) vwCl (cW ad cid a2 lx sg gm lg) H → va_D A (cW ad cid a2 lx sg gm lg) → va_S A s.heap H locs → lv_has ls 2 [(0, eV (ad 3) x), (1, eV (ad 9) o)] → W p l e (headSpec wm_X9_hasRightCount ({ frames := 2, cells := 1, slots := 6, locals := 46 })).room s m ([eV (ad 3) x, eV (ad 9) o] : List Value).toArray below meth c H locs 0 0 (vx_MQ below (cQx dC dI ad cid a2 lx (fun v u => ∃ r : Int32, v = some (.int r) ∧ u = (sg, gm, lg) ∧ (iv 0 1 r) ∧ ((r.toInt = 1 ∧ (CNT D o.toNatClampNeg)) ∨ (r.toInt = 0 ∧ ¬ (CNT D o.toNatClampNeg)))) A) (cX dC dI ad cid a2 lx (fun _ _ => False) A) ([eV (ad 3) x, eV (ad 9) o] : List Value).toArray s 1 6 A) (F0 m 73 ls [.int y0_73]) := by
    intro y0_73 hsx0_73 hsx1_73 hy0_73 uK u73 H locs ls hP hD hS hl
    refine ec_aload_n hx hb dX9_hasRightCount_73 rfl (lv_at hl 0 rfl) ?_
    refine cr_get (t := 3) (j := 0) (C := RX9) (T := TX9) (N := 1) (v := eV (ad 1) 0) hx hb htb inX9 hown hK hP hsx0_73 (by decide) (by decide) (by decide) rfl (by decide) (htb _ kw_323) (cV_c rfl (by decide) (by rw [show cMu 3 0 = 0 from rfl, Nat.zero_mul]; rfl)) dX9_hasRightCount_74 ?_
    refine ec_aload_n hx hb dX9_hasRightCount_77 rfl (lv_at hl 1 rfl) ?_
    refine cw_word (k := 8) (kx := 8) hx hb hG hS (by decide) rfl ⟨by decide, by decide⟩ hown (htb _ kw_703) dX9_hasRightCount_78 ?_
    refine cm_callV (t := 1) (C := RX6) (T := TX6) (N := 8) (rest := [.int y0_73]) (as := [eV (ad 9) o, eV (ad 33) 8]) ⟨hx, hb, hml, hown, htb⟩ (d_has2 l dC dI ad cid a2 lx sg gm lg 0 o 8 (dAt D o.toNatClampNeg) hI (iv_k (by decide) : iv 0 0 0) hsx1_73 (iv_w (iv_k (by decide) : iv 8 8 8) (by decide)) hFA how hEV.2.1) (cwV 2 htb (gd_V kw_732 kw_733 kw_734 kw_149 kw_1488) rfl rfl rfl (by decide +kernel) ⟨Nat.le_of_ble_eq_true rfl, Nat.le_of_ble_eq_true rfl⟩) (iv_k (by decide) : iv 0 0 0) (by decide) (by decide) rfl rfl hl.1 rfl (Nat.le_trans (cs_c (cat_i _) cs_n) (by decide)) dX9_hasRightCount_81 ⟨Nat.le_of_ble_eq_true rfl, Nat.le_of_ble_eq_true rfl⟩ hK hP hD hS hA hG (fun E ce q9 u_12 H locs hw hP hD hS hce hcv hcl => ?_) (fun v9 u_12 H locs hw hP hD hS => ?_)
    · exact hw.elim
    obtain ⟨r_11, rfl, rfl, hr_11, fH_r_11⟩ := hw
    have hP : va_P (dC, dI) vwCl (cW ad cid a2 lx sg gm lg) H := hP
    have hD : va_D A (cW ad cid a2 lx sg gm lg) := hD
    refine W.eq (g2 := F0 m 84 ls [.int r_11, .int y0_73]) rfl ?_
    have hH_r_11 : r_11.toInt = aH (dAt D o.toNatClampNeg) 7497062 := by have q9 := fH_r_11; rw [show wKy.getD (8 : Int32).toNatClampNeg 0 = 7497062 from by decide] at q9; exact q9
    refine lv_if_eq (tgt := 91) hx hb dX9_hasRightCount_84 (by decide) (fun c_14 => ?_) (fun c_14 => ?_)
    · have h_15 : iv 0 0 r_11 := iv_eq c_14 hr_11 (iv_k (by decide) : iv 0 0 0) (by decide)
      refine lv_iconst (v := 0) hx hb dX9_hasRightCount_91 (by decide) ?_
      exact hj92 0 y0_73 hsx0_73 hsx1_73 (iv_w (iv_k (by decide) : iv 0 0 0) (by decide)) hy0_73 (uK) (u73) ((by have := hH_r_11; have := aH_01 (q := dAt D o.toNatClampNeg) (k := 7497062); have := i32_0; have := i32_1; have := i32_2; have := i32_m1; have := (hsx0_73).1; have := (hsx0_73).2; have := (hsx1_73).1; have := (hsx1_73).2; have := (hy0_73).1; have := (hy0_73).2; have := (h_15).1; have := (h_15).2; omega)) _ _ _ hP hD hS (lv_sub hl [0, 1] rfl)
    · have h_16 : iv 1 1 r_11 := iv_neL c_14 hr_11 (by decide)
      refine lv_iconst (v := 1) hx hb dX9_hasRightCount_87 (by decide) ?_
      refine lv_goto (tgt := 92) hx hb dX9_hasRightCount_88 (by decide) ?_
      exact hj92 1 y0_73 hsx0_73 hsx1_73 (iv_w (iv_k (by decide) : iv 1 1 1) (by decide)) hy0_73 (uK) (u73) ((by have := hH_r_11; have := aH_01 (q := dAt D o.toNatClampNeg) (k := 7497062); have := i32_0; have := i32_1; have := i32_2; have := i32_m1; have := (hsx0_73).1; have := (hsx0_73).2; have := (hsx1_73).1; have := (hsx1_73).2; have := (hy0_73).1; have := (hy0_73).2; have := (h_16).1; have := (h_16).2; omega)) _ _ _ hP hD hS (lv_sub hl [0, 1] rfl)
  have hj54 : ∀ (_ : iv 0 0 x) (_ : iv 0 79 o) (_ : dKd D o.toNatClampNeg = 4 ∨ dKd D o.toNatClampNeg = 5) (H : Heap) (locs : List Loc) (ls : Array Slot), va_P (dC, dI) vwCl (cW ad cid a2 lx sg gm lg) H → va_D A (cW ad cid a2 lx sg gm lg) → va_S A s.heap H locs → lv_has ls 2 [(0, eV (ad 3) x), (1, eV (ad 9) o)] → W p l e (headSpec wm_X9_hasRightCount ({ frames := 2, cells := 1, slots := 6, locals := 46 })).room s m ([eV (ad 3) x, eV (ad 9) o] : List Value).toArray below meth c H locs 0 0 (vx_MQ below (cQx dC dI ad cid a2 lx (fun v u => ∃ r : Int32, v = some (.int r) ∧ u = (sg, gm, lg) ∧ (iv 0 1 r) ∧ ((r.toInt = 1 ∧ (CNT D o.toNatClampNeg)) ∨ (r.toInt = 0 ∧ ¬ (CNT D o.toNatClampNeg)))) A) (cX dC dI ad cid a2 lx (fun _ _ => False) A) ([eV (ad 3) x, eV (ad 9) o] : List Value).toArray s 1 6 A) (F0 m 54 ls []) := by
    intro  hsx0_54 hsx1_54 uK H locs ls hP hD hS hl
    refine ec_aload_n hx hb dX9_hasRightCount_54 rfl (lv_at hl 0 rfl) ?_
    refine cr_get (t := 3) (j := 0) (C := RX9) (T := TX9) (N := 1) (v := eV (ad 1) 0) hx hb htb inX9 hown hK hP hsx0_54 (by decide) (by decide) (by decide) rfl (by decide) (htb _ kw_323) (cV_c rfl (by decide) (by rw [show cMu 3 0 = 0 from rfl, Nat.zero_mul]; rfl)) dX9_hasRightCount_55 ?_
    refine ec_aload_n hx hb dX9_hasRightCount_58 rfl (lv_at hl 1 rfl) ?_
    refine cw_word (k := 7) (kx := 7) hx hb hG hS (by decide) rfl ⟨by decide, by decide⟩ hown (htb _ kw_702) dX9_hasRightCount_59 ?_
    refine cm_callV (t := 1) (C := RX6) (T := TX6) (N := 8) (rest := []) (as := [eV (ad 9) o, eV (ad 33) 7]) ⟨hx, hb, hml, hown, htb⟩ (d_has2 l dC dI ad cid a2 lx sg gm lg 0 o 7 (dAt D o.toNatClampNeg) hI (iv_k (by decide) : iv 0 0 0) hsx1_54 (iv_w (iv_k (by decide) : iv 7 7 7) (by decide)) hFA how hEV.2.1) (cwV 2 htb (gd_V kw_732 kw_733 kw_734 kw_149 kw_1488) rfl rfl rfl (by decide +kernel) ⟨Nat.le_of_ble_eq_true rfl, Nat.le_of_ble_eq_true rfl⟩) (iv_k (by decide) : iv 0 0 0) (by decide) (by decide) rfl rfl hl.1 rfl (Nat.le_trans cs_n (by decide)) dX9_hasRightCount_62 ⟨Nat.le_of_ble_eq_true rfl, Nat.le_of_ble_eq_true rfl⟩ hK hP hD hS hA hG (fun E ce q9 u_18 H locs hw hP hD hS hce hcv hcl => ?_) (fun v9 u_18 H locs hw hP hD hS => ?_)
    · exact hw.elim
    obtain ⟨r_17, rfl, rfl, hr_17, fH_r_17⟩ := hw
    have hP : va_P (dC, dI) vwCl (cW ad cid a2 lx sg gm lg) H := hP
    have hD : va_D A (cW ad cid a2 lx sg gm lg) := hD
    refine W.eq (g2 := F0 m 65 ls [.int r_17]) rfl ?_
    have hH_r_17 : r_17.toInt = aH (dAt D o.toNatClampNeg) 508440638821 := by have q9 := fH_r_17; rw [show wKy.getD (7 : Int32).toNatClampNeg 0 = 508440638821 from by decide] at q9; exact q9
    refine lv_if_eq (tgt := 72) hx hb dX9_hasRightCount_65 (by decide) (fun c_20 => ?_) (fun c_20 => ?_)
    · have h_21 : iv 0 0 r_17 := iv_eq c_20 hr_17 (iv_k (by decide) : iv 0 0 0) (by decide)
      refine lv_iconst (v := 0) hx hb dX9_hasRightCount_72 (by decide) ?_
      exact hj73 0 hsx0_54 hsx1_54 (iv_w (iv_k (by decide) : iv 0 0 0) (by decide)) (uK) ((by have := hH_r_17; have := aH_01 (q := dAt D o.toNatClampNeg) (k := 508440638821); have := i32_0; have := i32_1; have := i32_2; have := i32_m1; have := (hsx0_54).1; have := (hsx0_54).2; have := (hsx1_54).1; have := (hsx1_54).2; have := (h_21).1; have := (h_21).2; omega)) _ _ _ hP hD hS (lv_sub hl [0, 1] rfl)
    · have h_22 : iv 1 1 r_17 := iv_neL c_20 hr_17 (by decide)
      refine lv_iconst (v := 1) hx hb dX9_hasRightCount_68 (by decide) ?_
      refine lv_goto (tgt := 73) hx hb dX9_hasRightCount_69 (by decide) ?_
      exact hj73 1 hsx0_54 hsx1_54 (iv_w (iv_k (by decide) : iv 1 1 1) (by decide)) (uK) ((by have := hH_r_17; have := aH_01 (q := dAt D o.toNatClampNeg) (k := 508440638821); have := i32_0; have := i32_1; have := i32_2; have := i32_m1; have := (hsx0_54).1; have := (hsx0_54).2; have := (hsx1_54).1; have := (hsx1_54).2; have := (h_22).1; have := (h_22).2; omega)) _ _ _ hP hD hS (lv_sub hl [0, 1] rfl)
  have hj122 : ∀ (y0_122 : Int32) (_ : iv 0 0 x) (_ : iv 0 79 o) (_ : iv 0 1 y0_122) (_ : (y0_122.toInt = 1 ∧ (CNT D o.toNatClampNeg)) ∨ (y0_122.toInt = 0 ∧ ¬ (CNT D o.toNatClampNeg))) (H : Heap) (locs : List Loc) (ls : Array Slot), va_P (dC, dI) vwCl (cW ad cid a2 lx sg gm lg) H → va_D A (cW ad cid a2 lx sg gm lg) → va_S A s.heap H locs → lv_has ls 2 [(0, eV (ad 3) x), (1, eV (ad 9) o)] → W p l e (headSpec wm_X9_hasRightCount ({ frames := 2, cells := 1, slots := 6, locals := 46 })).room s m ([eV (ad 3) x, eV (ad 9) o] : List Value).toArray below meth c H locs 0 0 (vx_MQ below (cQx dC dI ad cid a2 lx (fun v u => ∃ r : Int32, v = some (.int r) ∧ u = (sg, gm, lg) ∧ (iv 0 1 r) ∧ ((r.toInt = 1 ∧ (CNT D o.toNatClampNeg)) ∨ (r.toInt = 0 ∧ ¬ (CNT D o.toNatClampNeg)))) A) (cX dC dI ad cid a2 lx (fun _ _ => False) A) ([eV (ad 3) x, eV (ad 9) o] : List Value).toArray s 1 6 A) (F0 m 122 ls [.int y0_122]) := by
    intro y0_122 hsx0_122 hsx1_122 hy0_122 u122 H locs ls hP hD hS hl
    exact W.nb (fun hN => W.widen (k := 1) (n := 6) (by decide) (by decide) (vx_ret (W.zret (v := y0_122) hx hb hr (iv_nb hy0_122) (fun t ht hW => ⟨⟨some (.int y0_122), (sg, gm, lg), rfl, ⟨y0_122, rfl, rfl, hy0_122, (u122)⟩, by rw [ht]; exact hP, va_K.moved hW.alike hK, hD⟩, hS.F ht, by rw [ht]; exact hN⟩) hS.2.2 dX9_hasRightCount_122)))
  refine cw_sw hx hb hG hS hown (htb _ kw_660) dX9_hasRightCount_0 ?_
  refine ec_aload_n hx hb dX9_hasRightCount_3 rfl (lv_at hl 1 rfl) ?_
  refine cr_get (t := 9) (j := 4) (C := RX3) (T := TX3) (N := 21) (v := eV (ad 33) (gm 14 o.toNatClampNeg)) hx hb htb inX3 hown hK hP hvo (by decide) (by decide) (by decide) rfl (by decide) (htb _ kw_242) rfl dX9_hasRightCount_4 ?_
  obtain ⟨z_23, ez_23⟩ : ∃ z : Int32, z = (gm 14 o.toNatClampNeg) := ⟨_, rfl⟩
  refine W.eq (g2 := F0 m 7 ls [eV (ad 33) z_23, eV (ad 36) 0]) (by rw [ez_23]) ?_
  have hz_23 : iv (-1) 33 z_23 := iv_of ez_23 (CI_a hI 14 hvo (by decide))
  have h_24 : iv 0 33 z_23 := ⟨by rw [ez_23]; exact hw0, (hz_23).2⟩
  refine cw_ord ⟨hx, hb, hml, hown, htb⟩ kw_661 h_24 hl.1 (Nat.le_trans (cs_c (eV_cat _ _) cs_n) (by decide)) dX9_hasRightCount_7 ⟨Nat.le_of_ble_eq_true rfl, Nat.le_of_ble_eq_true rfl⟩ ⟨Nat.le_of_ble_eq_true rfl, Nat.le_of_ble_eq_true rfl⟩ hP hD hS hA hG (fun H locs hP hS => ?_)
  refine cw_swld (iv_k (by decide) : iv 0 0 0) hx hb hG hS h_24 dX9_hasRightCount_10 ?_
  refine lv_topi (fun z_25 ez_25 => ?_)
  have hz_25 : iv 0 29 z_25 := iv_of ez_25 (sw_iv z_23)
  by_cases c_26 : (z_25 : Int32).toInt = 6
  · refine lv_tableIn (tgt := 52) hx hb dX9_hasRightCount_11 (by rw [c_26]; decide) (by rw [c_26]; decide) (by rw [c_26]; rfl) (by decide) ?_
    have h_27 : iv 6 6 z_25 := iv_at c_26
    exact hj52 hvx hvo ((by have hkd : dKd D o.toNatClampNeg = 1 := KW_f hEV.1 (by unfold KW7; rw [show (gm 14 o.toNatClampNeg).toInt = (0 : Int) from (by rw [← ez_23]; exact swy 0 6 (by decide) (h_24) ez_25 c_26)]; decide); omega)) _ _ _ hP hD hS (lv_sub hl [0, 1] rfl)
  by_cases c_28 : (z_25 : Int32).toInt = 7
  · refine lv_tableIn (tgt := 123) hx hb dX9_hasRightCount_11 (by rw [c_28]; decide) (by rw [c_28]; decide) (by rw [c_28]; rfl) (by decide) ?_
    have h_29 : iv 7 7 z_25 := iv_at c_28
    exact hj123 hvx hvo ((by have hkd : dKd D o.toNatClampNeg = 2 := KW_f hEV.1 (by unfold KW7; rw [show (gm 14 o.toNatClampNeg).toInt = (1 : Int) from (by rw [← ez_23]; exact swy 1 7 (by decide) (h_24) ez_25 c_28)]; decide); omega)) _ _ _ hP hD hS (lv_sub hl [0, 1] rfl)
  by_cases c_30 : (z_25 : Int32).toInt = 8
  · refine lv_tableIn (tgt := 52) hx hb dX9_hasRightCount_11 (by rw [c_30]; decide) (by rw [c_30]; decide) (by rw [c_30]; rfl) (by decide) ?_
    have h_31 : iv 8 8 z_25 := iv_at c_30
    exact hj52 hvx hvo ((by have hkd : dKd D o.toNatClampNeg = 3 := KW_f hEV.1 (by unfold KW7; rw [show (gm 14 o.toNatClampNeg).toInt = (2 : Int) from (by rw [← ez_23]; exact swy 2 8 (by decide) (h_24) ez_25 c_30)]; decide); omega)) _ _ _ hP hD hS (lv_sub hl [0, 1] rfl)
  by_cases c_32 : (z_25 : Int32).toInt = 9
  · refine lv_tableIn (tgt := 54) hx hb dX9_hasRightCount_11 (by rw [c_32]; decide) (by rw [c_32]; decide) (by rw [c_32]; rfl) (by decide) ?_
    have h_33 : iv 9 9 z_25 := iv_at c_32
    exact hj54 hvx hvo ((by have hkd : dKd D o.toNatClampNeg = 4 := KW_f hEV.1 (by unfold KW7; rw [show (gm 14 o.toNatClampNeg).toInt = (3 : Int) from (by rw [← ez_23]; exact swy 3 9 (by decide) (h_24) ez_25 c_32)]; decide); omega)) _ _ _ hP hD hS (lv_sub hl [0, 1] rfl)
  by_cases c_34 : (z_25 : Int32).toInt = 10
  · refine lv_tableIn (tgt := 54) hx hb dX9_hasRightCount_11 (by rw [c_34]; decide) (by rw [c_34]; decide) (by rw [c_34]; rfl) (by decide) ?_
    have h_35 : iv 10 10 z_25 := iv_at c_34
    exact hj54 hvx hvo ((by have hkd : dKd D o.toNatClampNeg = 5 := KW_f hEV.1 (by unfold KW7; rw [show (gm 14 o.toNatClampNeg).toInt = (4 : Int) from (by rw [← ez_23]; exact swy 4 10 (by decide) (h_24) ez_25 c_34)]; decide); omega)) _ _ _ hP hD hS (lv_sub hl [0, 1] rfl)
  by_cases c_36 : (z_25 : Int32).toInt = 11
  · refine lv_tableIn (tgt := 123) hx hb dX9_hasRightCount_11 (by rw [c_36]; decide) (by rw [c_36]; decide) (by rw [c_36]; rfl) (by decide) ?_
    have h_37 : iv 11 11 z_25 := iv_at c_36
    exact hj123 hvx hvo ((by have hkd : dKd D o.toNatClampNeg = 10 := KW_f hEV.1 (by unfold KW7; rw [show (gm 14 o.toNatClampNeg).toInt = (5 : Int) from (by rw [← ez_23]; exact swy 5 11 (by decide) (h_24) ez_25 c_36)]; decide); omega)) _ _ _ hP hD hS (lv_sub hl [0, 1] rfl)
  by_cases c_38 : (z_25 : Int32).toInt = 12
  · refine lv_tableIn (tgt := 108) hx hb dX9_hasRightCount_11 (by rw [c_38]; decide) (by rw [c_38]; decide) (by rw [c_38]; rfl) (by decide) ?_
    have h_39 : iv 12 12 z_25 := iv_at c_38
    refine ec_aload_n hx hb dX9_hasRightCount_108 rfl (lv_at hl 1 rfl) ?_
    refine cr_get (t := 9) (j := 8) (C := RX3) (T := TX3) (N := 21) (v := .int (gm 18 o.toNatClampNeg)) hx hb htb inX3 hown hK hP hvo (by decide) (by decide) (by decide) rfl (by decide) (htb _ kw_259) rfl dX9_hasRightCount_109 ?_
    obtain ⟨z_40, ez_40⟩ : ∃ z : Int32, z = (gm 18 o.toNatClampNeg) := ⟨_, rfl⟩
    refine W.eq (g2 := F0 m 112 ls [.int z_40]) (by rw [ez_40]) ?_
    have hz_40 : iv 0 2000000 z_40 := iv_of ez_40 (CI_a hI 18 hvo (by decide))
    refine lv_bipush (v := 6) hx hb dX9_hasRightCount_112 (by decide) ?_
    refine lv_icmp_gt (tgt := 121) hx hb dX9_hasRightCount_114 (by decide) (fun c_41 => ?_) (fun c_41 => ?_)
    · have h_42 : iv 7 2000000 z_40 := iv_ltR c_41 (iv_k (by decide) : iv 6 6 6) hz_40 (by decide)
      refine lv_iconst (v := 0) hx hb dX9_hasRightCount_121 (by decide) ?_
      exact hj122 0 hvx hvo (iv_w (iv_k (by decide) : iv 0 0 0) (by decide)) (Or.inr ⟨rfl, (fun q9 => by have := congrArg Int32.toInt ez_40; have := hEV.2.2.2.2.2; have hkd : dKd D o.toNatClampNeg = 6 := KW_f hEV.1 (by unfold KW7; rw [show (gm 14 o.toNatClampNeg).toInt = (6 : Int) from (by rw [← ez_23]; exact swy 6 12 (by decide) (h_24) ez_25 c_38)]; decide); have := i32_0; have := i32_1; have := i32_2; have := i32_m1; have := (hvx).1; have := (hvx).2; have := (hvo).1; have := (hvo).2; have := (h_24).1; have := (h_24).2; have := (h_39).1; have := (h_39).2; have := (h_42).1; have := (h_42).2; unfold CNT at q9; omega)⟩) _ _ _ hP hD hS (lv_sub hl [0, 1] rfl)
    · have h_43 : iv 0 6 z_40 := iv_leL (i32_ge c_41) hz_40 (iv_k (by decide) : iv 6 6 6) (by decide)
      refine lv_iconst (v := 1) hx hb dX9_hasRightCount_117 (by decide) ?_
      refine lv_goto (tgt := 122) hx hb dX9_hasRightCount_118 (by decide) ?_
      exact hj122 1 hvx hvo (iv_w (iv_k (by decide) : iv 1 1 1) (by decide)) (Or.inl ⟨rfl, (by have := congrArg Int32.toInt ez_40; have := hEV.2.2.2.2.2; have hkd : dKd D o.toNatClampNeg = 6 := KW_f hEV.1 (by unfold KW7; rw [show (gm 14 o.toNatClampNeg).toInt = (6 : Int) from (by rw [← ez_23]; exact swy 6 12 (by decide) (h_24) ez_25 c_38)]; decide); have := i32_0; have := i32_1; have := i32_2; have := i32_m1; have := (hvx).1; have := (hvx).2; have := (hvo).1; have := (hvo).2; have := (h_24).1; have := (h_24).2; have := (h_39).1; have := (h_39).2; have := (h_43).1; have := (h_43).2; unfold CNT; omega)⟩) _ _ _ hP hD hS (lv_sub hl [0, 1] rfl)
  refine lv_tableOut (tgt := 123) hx hb dX9_hasRightCount_11 (by have q1 := (hz_25).1; have q2 := (hz_25).2; omega) (by decide) ?_
  exact hj123 hvx hvo ((by have n1 : ¬ dKd D o.toNatClampNeg = 1 := fun q8 => absurd (KW_j (q8 ▸ hEV.1 : KW7 (gm 14 o.toNatClampNeg).toInt 1) (by decide)) (by rw [show wkF 1 = 0 by decide]; have n9 := swx (y := z_23) 0 6 (by decide) (h_24) ez_25 (by omega); rw [ez_23] at n9; exact n9); have n2 : ¬ dKd D o.toNatClampNeg = 2 := fun q8 => absurd (KW_j (q8 ▸ hEV.1 : KW7 (gm 14 o.toNatClampNeg).toInt 2) (by decide)) (by rw [show wkF 2 = 1 by decide]; have n9 := swx (y := z_23) 1 7 (by decide) (h_24) ez_25 (by omega); rw [ez_23] at n9; exact n9); have n3 : ¬ dKd D o.toNatClampNeg = 3 := fun q8 => absurd (KW_j (q8 ▸ hEV.1 : KW7 (gm 14 o.toNatClampNeg).toInt 3) (by decide)) (by rw [show wkF 3 = 2 by decide]; have n9 := swx (y := z_23) 2 8 (by decide) (h_24) ez_25 (by omega); rw [ez_23] at n9; exact n9); have n4 : ¬ dKd D o.toNatClampNeg = 4 := fun q8 => absurd (KW_j (q8 ▸ hEV.1 : KW7 (gm 14 o.toNatClampNeg).toInt 4) (by decide)) (by rw [show wkF 4 = 3 by decide]; have n9 := swx (y := z_23) 3 9 (by decide) (h_24) ez_25 (by omega); rw [ez_23] at n9; exact n9); have n5 : ¬ dKd D o.toNatClampNeg = 5 := fun q8 => absurd (KW_j (q8 ▸ hEV.1 : KW7 (gm 14 o.toNatClampNeg).toInt 5) (by decide)) (by rw [show wkF 5 = 4 by decide]; have n9 := swx (y := z_23) 4 10 (by decide) (h_24) ez_25 (by omega); rw [ez_23] at n9; exact n9); have n10 : ¬ dKd D o.toNatClampNeg = 10 := fun q8 => absurd (KW_j (q8 ▸ hEV.1 : KW7 (gm 14 o.toNatClampNeg).toInt 10) (by decide)) (by rw [show wkF 10 = 5 by decide]; have n9 := swx (y := z_23) 5 11 (by decide) (h_24) ez_25 (by omega); rw [ez_23] at n9; exact n9); have n6 : ¬ dKd D o.toNatClampNeg = 6 := fun q8 => absurd (KW_j (q8 ▸ hEV.1 : KW7 (gm 14 o.toNatClampNeg).toInt 6) (by decide)) (by rw [show wkF 6 = 6 by decide]; have n9 := swx (y := z_23) 6 12 (by decide) (h_24) ez_25 (by omega); rw [ez_23] at n9; exact n9); have := kd7_r (dEl D o.toNatClampNeg).2.2.1.toInt; have : dKd D o.toNatClampNeg = kd7 (dEl D o.toNatClampNeg).2.2.1.toInt := rfl; omega)) _ _ _ hP hD hS (lv_sub hl [0, 1] rfl)
end
