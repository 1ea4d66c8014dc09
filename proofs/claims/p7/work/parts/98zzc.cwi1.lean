/-- the bean with this id, by the class's rows -/
def qCr (lg : Nat → Nat → Int64) (w : Int64) (b : Nat) : Bool := decide (lg 4 b = w)
def cWid (sg : Nat → Int32) (lg : Nat → Nat → Int64) (w : Int64) : Int32 := if w = 0 then -1 else fstB (qCr lg w) (sg 12).toNatClampNeg 0
def cPar (sg : Nat → Int32) (lg : Nat → Nat → Int64) (b : Int32) : Int32 := cWid sg lg (lg 5 b.toNatClampNeg)
theorem cW_0 {sg : Nat → Int32} {lg : Nat → Nat → Int64} {w : Int64} (h : w = 0) : cWid sg lg w = -1 := by unfold cWid; rw [if_pos h]
theorem cW_n {sg : Nat → Int32} {lg : Nat → Nat → Int64} {w : Int64} {x : Int32} (hn : iv 0 80 (sg 12)) (hx : iv 0 80 x) (hl : (sg 12).toInt ≤ x.toInt) (h : NHB (qCr lg w) 0 x.toNatClampNeg) : cWid sg lg w = -1 := by
  have k1 := iv_cl hn (by decide)
  have k2 := iv_cl hx (by decide)
  unfold cWid
  split
  · rfl
  · exact fst_no _ 0 (fun k q1 q2 => h k q1 (by omega))
theorem cW_h {sg : Nat → Int32} {lg : Nat → Nat → Int64} {w : Int64} {x : Int32} (hz : ¬ w = 0) (hn : iv 0 80 (sg 12)) (hx : iv 0 79 x) (hl : x.toInt < (sg 12).toInt) (h : NHB (qCr lg w) 0 x.toNatClampNeg) (hq : lg 4 x.toNatClampNeg = w) : x = cWid sg lg w := by
  have k1 := iv_cl hn (by decide)
  have k2 := iv_cl hx (by decide)
  unfold cWid
  rw [if_neg hz]
  have k3 := fst_hit (q := qCr lg w) x.toNatClampNeg (sg 12).toNatClampNeg 0 (by omega) (by rw [Nat.zero_add]; exact h) (by rw [Nat.zero_add]; exact decide_eq_true hq)
  rw [Nat.zero_add, iv_nI hx (by decide)] at k3
  exact k3.symm
theorem cWd_r {sg : Nat → Int32} {lg : Nat → Nat → Int64} (w : Int64) (hn : iv 0 80 (sg 12)) : cWid sg lg w = -1 ∨ (0 ≤ (cWid sg lg w).toInt ∧ (cWid sg lg w).toInt < (sg 12).toInt ∧ ¬ lg 4 (cWid sg lg w).toNatClampNeg = 0) := by
  have k1 := iv_cl hn (by decide)
  have k2 := hn.2
  unfold cWid
  split
  · exact Or.inl rfl
  · rename_i hz
    rcases fst_or (qCr lg w) (sg 12).toNatClampNeg 0 with v | ⟨i, v1, v2, v3, _⟩
    · exact Or.inl v.1
    · rw [v2, Nat.zero_add]
      rw [Nat.zero_add] at v3
      have h4 : (nI i).toInt = i := nI_toInt (by omega)
      have h5 : (nI i).toNatClampNeg = i := by show (nI i).toInt.toNat = i; omega
      refine Or.inr ⟨by omega, by omega, fun q => hz ?_⟩
      rw [h5] at q
      rw [← of_decide_eq_true v3, q]
def RPW (sg : Nat → Int32) (lg : Nat → Nat → Int64) (b : Int32) : Prop := lg 5 b.toNatClampNeg = 0 ∨ (¬ cPar sg lg b = -1 ∧ NR (cPar sg lg) (cPar sg lg b))
def IRW (sg : Nat → Int32) (gm : Nat → Nat → Int32) (lg : Nat → Nat → Int64) (i : Nat) : Prop := (¬ lg 1 i = 0 → ∀ k, k < i → ¬ lg 1 k = lg 1 i) ∧ ((gm 27 i).toInt < 0 ∨ RPW sg lg (gm 27 i))

set_option maxHeartbeats 4000000 in
set_option maxRecDepth 100000 in
theorem d_withId2 (l : Launch) (dC : Nat → ClassId) (dI : Nat → Nat → Nat) (ad : Nat → Nat → Nat) (cid : Nat → ClassId) (a2 : Nat → Nat) (lx : List Nat) (sg : Nat → Int32) (gm : Nat → Nat → Int32) (lg : Nat → Nat → Int64) (x : Int32) (id : Int64) (hI : CI sg gm) (hvx : iv 0 0 x) : CMt dC dI ad cid a2 lx l yX10_withId wm_X10_withId ({ frames := 0, cells := 1, slots := 6, locals := 0 }) [eV (ad 4) x, .long id] sg gm lg (fun v u => ∃ r : Int32, v = some (eV (ad 10) r) ∧ u = (sg, gm, lg) ∧ (iv (-1) 79 r) ∧ (r.toInt = -1 ∨ (r.toInt < (sg 12).toInt ∧ ¬ lg 4 r.toNatClampNeg = 0)) ∧ (r = cWid sg lg id)) (fun _ _ => False) := by
  intro sz
  refine vx_ofW (cc := cX10_withId) (maxL := 4) (ret := (some (.object "WiredBeans$Bean"))) (by decide) rfl ?_
  intro p e s m args below meth c s₁ B hml hxt hv
  obtain ⟨rfl, hsz, hP, hK, hD0, hG⟩ := hv
  have hx := B.exec
  have hb := B.bytes
  have hr := B.returns
  have hts := atoms_spec (ws := wm_X10_withId) B.pre
  have htb := fun (w : Cond) (h : w ∈ tb) => hts w (List.mem_cons_of_mem _ h)
  have hown : s.vm.findClass RX10 = some m.cls := findClass_of_methodNamed B.named
  have hlocks := B.notSynchronized
  subst hsz
  have hD := hD0.self (sz := s.heap.size)
  generalize hAe : va_A (cW ad cid a2 lx sg gm lg) s.heap.size = A at hD hG ⊢
  have hA : ∀ q : Nat, s.heap.size ≤ q → A q := fun q h => by rw [← hAe]; exact Or.inr h
  have hS : va_S A s.heap s.heap [] := va_S.rf
  have hl := lv_entry ([eV (ad 4) x, .long id]) (n := 4) (by rw [show (lg_sl ([eV (ad 4) x, .long id])).length = 3 from by simp [lg_sl, eV_cat, cat_i, cat_l]]; exact Nat.le_of_ble_eq_true rfl)
  rw [lg_entry_eq]
  generalize (lg_sl ([eV (ad 4) x, .long id]) ++ List.replicate (4 - (lg_sl ([eV (ad 4) x, .long id])).length) Slot.unset).toArray = ls at hl ⊢
  have hl : lv_has ls 4 [(0, eV (ad 4) x), (1, .long id)] := by simp [lv_args, eV_cat, cat_i, cat_l] at hl; exact hl
  have hj43 : ∀ (x3_43 : Int32) (_ : iv 0 80 x3_43) (_ : iv 0 0 x) (_ : cWid sg lg id = -1) (H : Heap) (locs : List Loc) (ls : Array Slot), va_P (dC, dI) vwCl (cW ad cid a2 lx sg gm lg) H → va_D A (cW ad cid a2 lx sg gm lg) → va_S A s.heap H locs → lv_has ls 4 [(3, .int x3_43), (0, eV (ad 4) x), (1, .long id)] → W p l e (headSpec wm_X10_withId ({ frames := 0, cells := 1, slots := 6, locals := 0 })).room s m ([eV (ad 4) x, .long id] : List Value).toArray below meth c H locs 0 0 (vx_MQ below (cQx dC dI ad cid a2 lx (fun v u => ∃ r : Int32, v = some (eV (ad 10) r) ∧ u = (sg, gm, lg) ∧ (iv (-1) 79 r) ∧ (r.toInt = -1 ∨ (r.toInt < (sg 12).toInt ∧ ¬ lg 4 r.toNatClampNeg = 0)) ∧ (r = cWid sg lg id)) A) (cX dC dI ad cid a2 lx (fun _ _ => False) A) ([eV (ad 4) x, .long id] : List Value).toArray s 1 6 A) (F0 m 43 ls []) := by
    intro x3_43 hx3_43 hsx0_43 u43 H locs ls hP hD hS hl
    refine ec_null (a := ad 10) hx hb dX10_withId_43 ?_
    exact W.nb (fun hN => W.widen (k := 1) (n := 6) (by decide) (by decide) (vx_ret (W.aret (v := eV (ad 10) (-1)) hx hb hr (Or.inl ⟨_, rfl⟩) (eV_is _ _) (fun t ht hW => ⟨⟨some (eV (ad 10) (-1)), (sg, gm, lg), rfl, ⟨(-1), rfl, rfl, (iv_w (iv_k (by decide) : iv (-1) (-1) (-1)) (by decide)), (Or.inl rfl), (u43.symm)⟩, by rw [ht]; exact hP, va_K.moved hW.alike hK, hD⟩, hS.F ht, by rw [ht]; exact hN⟩) hS.2.2 dX10_withId_44)))
  have hj2 : ∀ (n : Nat) (x3_2 : Int32) (_ : (80 - x3_2.toInt).toNat = n) (_ : iv 0 80 x3_2) (_ : iv 0 0 x) (_ : NHB (qCr lg id) 0 x3_2.toNatClampNeg) (H : Heap) (locs : List Loc) (ls : Array Slot), va_P (dC, dI) vwCl (cW ad cid a2 lx sg gm lg) H → va_D A (cW ad cid a2 lx sg gm lg) → va_S A s.heap H locs → lv_has ls 4 [(3, .int x3_2), (0, eV (ad 4) x), (1, .long id)] → W p l e (headSpec wm_X10_withId ({ frames := 0, cells := 1, slots := 6, locals := 0 })).room s m ([eV (ad 4) x, .long id] : List Value).toArray below meth c H locs 0 0 (vx_MQ below (cQx dC dI ad cid a2 lx (fun v u => ∃ r : Int32, v = some (eV (ad 10) r) ∧ u = (sg, gm, lg) ∧ (iv (-1) 79 r) ∧ (r.toInt = -1 ∨ (r.toInt < (sg 12).toInt ∧ ¬ lg 4 r.toNatClampNeg = 0)) ∧ (r = cWid sg lg id)) A) (cX dC dI ad cid a2 lx (fun _ _ => False) A) ([eV (ad 4) x, .long id] : List Value).toArray s 1 6 A) (F0 m 2 ls []) := by
    intro n
    induction n using Nat.strongRecOn with
    | ind n ih2 =>
      intro x3_2 hn2 hx3_2 hsx0_2 hnh H locs ls hP hD hS hl
      refine lv_iload_n hx hb dX10_withId_2 rfl (lv_at hl 0 rfl) ?_
      refine ec_aload_n hx hb dX10_withId_3 rfl (lv_at hl 1 rfl) ?_
      refine cr_get (t := 4) (j := 3) (C := RX10) (T := TX10) (N := 4) (v := .int (sg 12)) hx hb htb inX10 hown hK hP hsx0_2 (by decide) (by decide) (by decide) rfl (by decide) (htb _ kw_325) rfl dX10_withId_4 ?_
      refine lv_icmp_ge (tgt := 43) hx hb dX10_withId_7 (by decide) (fun c_1 => ?_) (fun c_1 => ?_)
      · have d_2 : ((sg 12) : Int32).toInt ≤ (x3_2 : Int32).toInt := Int32.le_iff_toInt_le.mp c_1
        exact hj43 x3_2 hx3_2 hsx0_2 ((cW_n (show iv 0 80 (sg 12) from CI_s hI 12) hx3_2 (by have := i32_0; have := i32_1; have := i32_2; have := i32_m1; have := (show iv 0 80 (sg 12) from CI_s hI 12).1; have := (show iv 0 80 (sg 12) from CI_s hI 12).2; have := (hsx0_2).1; have := (hsx0_2).2; have := (hx3_2).1; have := (hx3_2).2; have := ((show iv 0 80 (sg 12) from CI_s hI 12)).1; have := ((show iv 0 80 (sg 12) from CI_s hI 12)).2; omega) hnh)) _ _ _ hP hD hS (lv_sub hl [0, 1, 2] rfl)
      · have d_3 : (x3_2 : Int32).toInt < ((sg 12) : Int32).toInt := Int32.lt_iff_toInt_lt.mp (i32_lt c_1)
        have h_4 : iv 0 79 x3_2 := iv_ltL (i32_lt c_1) hx3_2 (show iv 0 80 (sg 12) from CI_s hI 12) (by decide)
        have h_5 : iv 1 80 (sg 12) := iv_ltR (i32_lt c_1) hx3_2 (show iv 0 80 (sg 12) from CI_s hI 12) (by decide)
        refine lv_lload_n hx hb dX10_withId_10 rfl (lv_at hl 2 rfl) ?_
        refine lv_lconst (v := 0) hx hb dX10_withId_11 (by decide) ?_
        refine W.lcmp hx hb dX10_withId_12 ?_
        refine lv_topi (fun z_6 ez_6 => ?_)
        have hz_6 : iv (-1) 1 z_6 := iv_of ez_6 (iv_cmp _ _)
        refine lv_if_eq (tgt := 43) hx hb dX10_withId_13 (by decide) (fun c_7 => ?_) (fun c_7 => ?_)
        · have h_8 : iv 0 0 z_6 := iv_eq c_7 hz_6 (iv_k (by decide) : iv 0 0 0) (by decide)
          exact hj43 x3_2 (iv_w h_4 (by decide)) hsx0_2 ((cW_0 ((lg_cmp_eq _ _).mp (by rw [← ez_6]; exact c_7)))) _ _ _ hP hD hS (lv_sub hl [0, 1, 2] rfl)
        · have d_9 : ¬ (z_6 : Int32).toInt = 0 := lv_neT c_7 rfl
          refine ec_aload_n hx hb dX10_withId_16 rfl (lv_at hl 1 rfl) ?_
          refine cr_get (t := 4) (j := 1) (C := RX10) (T := TX10) (N := 4) (v := eV (ad 19) 0) hx hb htb inX10 hown hK hP hsx0_2 (by decide) (by decide) (by decide) rfl (by decide) (htb _ kw_88) (cV_c rfl (by decide) (by rw [show cMu 4 1 = 0 from rfl, Nat.zero_mul]; rfl)) dX10_withId_17 ?_
          refine lv_iload_n hx hb dX10_withId_20 rfl (lv_at hl 0 rfl) ?_
          refine cr_aald (t := 19) (C := RX1) (v := eV (ad 10) x3_2) hx hb hK hP (iv_k (by decide) : iv 0 0 0) (by decide) (by decide) (by decide) (by decide) (by decide) rfl (show vp_in x3_2 (cLen 19) from (show vp_in x3_2 80 from (iv_in h_4 (by decide)))) (cAr_c (by decide) (h_4).1 (by rw [show cAm 19 = 0 from rfl, Nat.zero_mul, show cAo 19 = 0 from rfl]; omega)) dX10_withId_21 ?_
          refine cr_get (t := 10) (j := 5) (C := RX1) (T := TX1) (N := 19) (v := .long (lg 4 x3_2.toNatClampNeg)) hx hb htb inX1 hown hK hP h_4 (by decide) (by decide) (by decide) rfl (by decide) (htb _ kw_719) rfl dX10_withId_22 ?_
          refine lv_topl (fun z_10 ez_10 => ?_)
          refine lv_lload_n hx hb dX10_withId_25 rfl (lv_at hl 2 rfl) ?_
          refine W.lcmp hx hb dX10_withId_26 ?_
          refine lv_topi (fun z_11 ez_11 => ?_)
          have hz_11 : iv (-1) 1 z_11 := iv_of ez_11 (iv_cmp _ _)
          refine lv_if_ne (tgt := 37) hx hb dX10_withId_27 (by decide) (fun c_12 => ?_) (fun c_12 => ?_)
          · have d_13 : ¬ (z_11 : Int32).toInt = 0 := lv_neT c_12 rfl
            obtain ⟨z_14, ez_14⟩ : ∃ z : Int32, z = x3_2 + 1 := ⟨_, rfl⟩
            have hz_14 : iv 1 80 z_14 := iv_of ez_14 (iv_add h_4 (iv_k (by decide) : iv 1 1 1) (by decide))
            have tz_14 : z_14.toInt = x3_2.toInt + 1 := by rw [ez_14]; exact iv_addE h_4 (iv_k (by decide) : iv 1 1 1) (by decide)
            refine lv_iinc (v := z_14) (lv' := [(3, .int z_14), (0, eV (ad 4) x), (1, .long id)]) hx hb dX10_withId_37 hl (k := 0) rfl ez_14.symm (by decide) rfl (fun ls hl => ?_)
            refine lv_goto (tgt := 2) hx hb dX10_withId_40 (by decide) ?_
            exact ih2 _ (by rw [← hn2]; exact (iv_meas tz_14 h_4 (by decide))) z_14 rfl (iv_w hz_14 (by decide)) hsx0_2 ((by rw [s_cl h_4 (by decide) tz_14]; exact NHB_s hnh (decide_eq_false (fun q9 => c_12 (by rw [ez_11, ez_10]; exact (lg_cmp_eq _ _).mpr q9))))) _ _ _ hP hD hS (lv_sub hl [0, 1, 2] rfl)
          · have h_15 : iv 0 0 z_11 := iv_eq c_12 hz_11 (iv_k (by decide) : iv 0 0 0) (by decide)
            refine ec_aload_n hx hb dX10_withId_30 rfl (lv_at hl 1 rfl) ?_
            refine cr_get (t := 4) (j := 1) (C := RX10) (T := TX10) (N := 4) (v := eV (ad 19) 0) hx hb htb inX10 hown hK hP hsx0_2 (by decide) (by decide) (by decide) rfl (by decide) (htb _ kw_88) (cV_c rfl (by decide) (by rw [show cMu 4 1 = 0 from rfl, Nat.zero_mul]; rfl)) dX10_withId_31 ?_
            refine lv_iload_n hx hb dX10_withId_34 rfl (lv_at hl 0 rfl) ?_
            refine cr_aald (t := 19) (C := RX1) (v := eV (ad 10) x3_2) hx hb hK hP (iv_k (by decide) : iv 0 0 0) (by decide) (by decide) (by decide) (by decide) (by decide) rfl (show vp_in x3_2 (cLen 19) from (show vp_in x3_2 80 from (iv_in h_4 (by decide)))) (cAr_c (by decide) (h_4).1 (by rw [show cAm 19 = 0 from rfl, Nat.zero_mul, show cAo 19 = 0 from rfl]; omega)) dX10_withId_35 ?_
            exact W.nb (fun hN => W.widen (k := 1) (n := 6) (by decide) (by decide) (vx_ret (W.aret (v := eV (ad 10) x3_2) hx hb hr (Or.inl ⟨_, rfl⟩) (eV_is _ _) (fun t ht hW => ⟨⟨some (eV (ad 10) x3_2), (sg, gm, lg), rfl, ⟨x3_2, rfl, rfl, (iv_w h_4 (by decide)), (Or.inr ⟨by have := i32_0; have := i32_1; have := i32_2; have := i32_m1; have := (show iv 0 80 (sg 12) from CI_s hI 12).1; have := (show iv 0 80 (sg 12) from CI_s hI 12).2; have := (hsx0_2).1; have := (hsx0_2).2; have := (h_4).1; have := (h_4).2; have := (h_5).1; have := (h_5).2; have := (hz_6).1; have := (hz_6).2; have := (h_15).1; have := (h_15).2; omega, fun q9 => c_7 (by rw [ez_6]; exact (lg_cmp_eq _ _).mpr (by have q8 := c_12; rw [ez_11, ez_10, q9] at q8; exact ((lg_cmp_eq _ _).mp q8).symm))⟩), ((cW_h (fun q9 => c_7 (by rw [ez_6]; exact (lg_cmp_eq _ _).mpr q9)) (show iv 0 80 (sg 12) from CI_s hI 12) h_4 (by have := i32_0; have := i32_1; have := i32_2; have := i32_m1; have := (show iv 0 80 (sg 12) from CI_s hI 12).1; have := (show iv 0 80 (sg 12) from CI_s hI 12).2; have := (hsx0_2).1; have := (hsx0_2).2; have := (h_4).1; have := (h_4).2; have := (h_5).1; have := (h_5).2; have := (hz_6).1; have := (hz_6).2; have := (h_15).1; have := (h_15).2; omega) hnh (by have q8 := c_12; rw [ez_11, ez_10] at q8; exact (lg_cmp_eq _ _).mp q8)))⟩, by rw [ht]; exact hP, va_K.moved hW.alike hK, hD⟩, hS.F ht, by rw [ht]; exact hN⟩) hS.2.2 dX10_withId_36)))
  refine lv_iconst (v := 0) hx hb dX10_withId_0 (by decide) ?_
  refine lv_istore_n (i := 3) (lv' := [(3, .int 0), (0, eV (ad 4) x), (1, .long id)]) hx hb dX10_withId_1 rfl hl (by decide) rfl (fun ls hl => ?_)
  exact hj2 _ 0 rfl (iv_w (iv_k (by decide) : iv 0 0 0) (by decide)) hvx (NHB_0) _ _ _ hP hD hS (lv_sub hl [0, 1, 2] rfl)

theorem itF_s9 {f : Int32 → Int32} {b y r : Int32} {n : Nat} (hp : y = itF f n b) (hb : ¬ y = -1) (hr : r = f y) : r = itF f (n + 1) b := by
  rw [itF_add, ← hp, itF_1 hb, hr]
theorem NR_9 {f : Int32 → Int32} {b y : Int32} {n : Nat} (hb : 0 ≤ b.toInt) (hp : y = itF f n b) (h1 : 1 ≤ n) (hn : n ≤ 80) (hs : n = 80 ∨ y = -1) (hy : ¬ y = b) (h : ∀ k, 1 ≤ k → k < n → ¬ itF f k b = b) : NR f b := fun k h1 h2 hk => by
  by_cases h3 : k < n
  · exact h k h1 h3 hk
  · by_cases h4 : k = n
    · rw [h4, ← hp] at hk; exact hy hk
    · rcases hs with q | q
      · omega
      · have h5 : k = n + (k - n) := by omega
        rw [h5, itF_add, ← hp, q, itF_m1] at hk
        rw [← hk] at hb
        exact absurd hb (by decide)

set_option maxHeartbeats 4000000 in
set_option maxRecDepth 100000 in
theorem d_comesToItself2 (l : Launch) (dC : Nat → ClassId) (dI : Nat → Nat → Nat) (ad : Nat → Nat → Nat) (cid : Nat → ClassId) (a2 : Nat → Nat) (lx : List Nat) (sg : Nat → Int32) (gm : Nat → Nat → Int32) (lg : Nat → Nat → Int64) (x : Int32) (b : Int32) (hI : CI sg gm) (hvx : iv 0 0 x) (hvb : iv 0 79 b) : CMt dC dI ad cid a2 lx l yX10_comesToItself wm_X10_comesToItself ({ frames := 1, cells := 1, slots := 6, locals := 23 }) [eV (ad 4) x, eV (ad 10) b] sg gm lg (fun v u => ∃ r : Int32, v = some (.int r) ∧ u = (sg, gm, lg) ∧ (iv 0 1 r) ∧ ((r.toInt = 1 ∧ ¬ NR (cPar sg lg) b) ∨ (r.toInt = 0 ∧ NR (cPar sg lg) b))) (fun _ _ => False) := by
  intro sz
  refine vx_ofW (cc := cX10_comesToItself) (maxL := 4) (ret := (some .boolean)) (by decide) rfl ?_
  intro p e s m args below meth c s₁ B hml hxt hv
  obtain ⟨rfl, hsz, hP, hK, hD0, hG⟩ := hv
  have hx := B.exec
  have hb := B.bytes
  have hr := B.returns
  have hts := atoms_spec (ws := wm_X10_comesToItself) B.pre
  have htb := fun (w : Cond) (h : w ∈ tb) => hts w (List.mem_cons_of_mem _ h)
  have hown : s.vm.findClass RX10 = some m.cls := findClass_of_methodNamed B.named
  have hlocks := B.notSynchronized
  subst hsz
  have hD := hD0.self (sz := s.heap.size)
  generalize hAe : va_A (cW ad cid a2 lx sg gm lg) s.heap.size = A at hD hG ⊢
  have hA : ∀ q : Nat, s.heap.size ≤ q → A q := fun q h => by rw [← hAe]; exact Or.inr h
  have hS : va_S A s.heap s.heap [] := va_S.rf
  have hl := lv_entry ([eV (ad 4) x, eV (ad 10) b]) (n := 4) (by rw [show (lg_sl ([eV (ad 4) x, eV (ad 10) b])).length = 2 from by simp [lg_sl, eV_cat, cat_i, cat_l]]; exact Nat.le_of_ble_eq_true rfl)
  rw [lg_entry_eq]
  generalize (lg_sl ([eV (ad 4) x, eV (ad 10) b]) ++ List.replicate (4 - (lg_sl ([eV (ad 4) x, eV (ad 10) b])).length) Slot.unset).toArray = ls at hl ⊢
  have hl : lv_has ls 4 [(0, eV (ad 4) x), (1, eV (ad 10) b)] := by simp [lv_args, eV_cat, cat_i, cat_l] at hl; exact hl
  have hj51 : ∀ (x3_51 : Int32) (x2_51 : Int32) (y0_51 : Int32) (_ : iv 1 80 x3_51) (_ : iv (-1) 79 x2_51) (_ : iv 0 0 x) (_ : iv 0 79 b) (_ : iv 0 1 y0_51) (_ : (y0_51.toInt = 1 ∧ ¬ NR (cPar sg lg) b) ∨ (y0_51.toInt = 0 ∧ NR (cPar sg lg) b)) (H : Heap) (locs : List Loc) (ls : Array Slot), va_P (dC, dI) vwCl (cW ad cid a2 lx sg gm lg) H → va_D A (cW ad cid a2 lx sg gm lg) → va_S A s.heap H locs → lv_has ls 4 [(3, .int x3_51), (2, eV (ad 10) x2_51), (0, eV (ad 4) x), (1, eV (ad 10) b)] → W p l e (headSpec wm_X10_comesToItself ({ frames := 1, cells := 1, slots := 6, locals := 23 })).room s m ([eV (ad 4) x, eV (ad 10) b] : List Value).toArray below meth c H locs 0 0 (vx_MQ below (cQx dC dI ad cid a2 lx (fun v u => ∃ r : Int32, v = some (.int r) ∧ u = (sg, gm, lg) ∧ (iv 0 1 r) ∧ ((r.toInt = 1 ∧ ¬ NR (cPar sg lg) b) ∨ (r.toInt = 0 ∧ NR (cPar sg lg) b))) A) (cX dC dI ad cid a2 lx (fun _ _ => False) A) ([eV (ad 4) x, eV (ad 10) b] : List Value).toArray s 1 6 A) (F0 m 51 ls [.int y0_51]) := by
    intro x3_51 x2_51 y0_51 hx3_51 hx2_51 hsx0_51 hsx1_51 hy0_51 u51 H locs ls hP hD hS hl
    exact W.nb (fun hN => W.widen (k := 1) (n := 6) (by decide) (by decide) (vx_ret (W.zret (v := y0_51) hx hb hr (iv_nb hy0_51) (fun t ht hW => ⟨⟨some (.int y0_51), (sg, gm, lg), rfl, ⟨y0_51, rfl, rfl, hy0_51, (u51)⟩, by rw [ht]; exact hP, va_K.moved hW.alike hK, hD⟩, hS.F ht, by rw [ht]; exact hN⟩) hS.2.2 dX10_comesToItself_51)))
  have hj41 : ∀ (x3_41 : Int32) (x2_41 : Int32) (_ : iv 1 80 x3_41) (_ : iv (-1) 79 x2_41) (_ : iv 0 0 x) (_ : iv 0 79 b) (_ : x2_41 = itF (cPar sg lg) x3_41.toNatClampNeg b ∧ (∀ k, 1 ≤ k → k < x3_41.toNatClampNeg → ¬ itF (cPar sg lg) k b = b) ∧ (x3_41.toInt = 80 ∨ x2_41 = -1 ∨ x2_41 = b)) (H : Heap) (locs : List Loc) (ls : Array Slot), va_P (dC, dI) vwCl (cW ad cid a2 lx sg gm lg) H → va_D A (cW ad cid a2 lx sg gm lg) → va_S A s.heap H locs → lv_has ls 4 [(3, .int x3_41), (2, eV (ad 10) x2_41), (0, eV (ad 4) x), (1, eV (ad 10) b)] → W p l e (headSpec wm_X10_comesToItself ({ frames := 1, cells := 1, slots := 6, locals := 23 })).room s m ([eV (ad 4) x, eV (ad 10) b] : List Value).toArray below meth c H locs 0 0 (vx_MQ below (cQx dC dI ad cid a2 lx (fun v u => ∃ r : Int32, v = some (.int r) ∧ u = (sg, gm, lg) ∧ (iv 0 1 r) ∧ ((r.toInt = 1 ∧ ¬ NR (cPar sg lg) b) ∨ (r.toInt = 0 ∧ NR (cPar sg lg) b))) A) (cX dC dI ad cid a2 lx (fun _ _ => False) A) ([eV (ad 4) x, eV (ad 10) b] : List Value).toArray s 1 6 A) (F0 m 41 ls []) := by
    intro x3_41 x2_41 hx3_41 hx2_41 hsx0_41 hsx1_41 u41 H locs ls hP hD hS hl
    refine ec_aload_n hx hb dX10_comesToItself_41 rfl (lv_at hl 1 rfl) ?_
    refine ec_aload_n hx hb dX10_comesToItself_42 rfl (lv_at hl 3 rfl) ?_
    refine ec_acmp_ne (tgt := 50) hx hb dX10_comesToItself_43 (by decide) (fun c_1 => ?_) (fun c_1 => ?_)
    · have wc_1 : ¬ x2_41.toInt = b.toInt := fun q9 => c_1 (congrArg (er (ad 10)) (Int32.toInt_inj.mp q9))
      refine lv_iconst (v := 0) hx hb dX10_comesToItself_50 (by decide) ?_
      exact hj51 x3_41 x2_41 0 hx3_41 hx2_41 hsx0_41 hsx1_41 (iv_w (iv_k (by decide) : iv 0 0 0) (by decide)) (Or.inr ⟨rfl, (by have k3 := iv_cl hx3_41 (by decide); exact NR_9 hvb.1 u41.1 (by have := i32_0; have := i32_1; have := i32_2; have := i32_m1; have := (hsx0_41).1; have := (hsx0_41).2; have := (hsx1_41).1; have := (hsx1_41).2; have := (hx3_41).1; have := (hx3_41).2; have := (hx2_41).1; have := (hx2_41).2; omega) (by have := i32_0; have := i32_1; have := i32_2; have := i32_m1; have := (hsx0_41).1; have := (hsx0_41).2; have := (hsx1_41).1; have := (hsx1_41).2; have := (hx3_41).1; have := (hx3_41).2; have := (hx2_41).1; have := (hx2_41).2; omega) (by rcases u41.2.2 with q | q | q; (exact Or.inl (by omega)); (exact Or.inr q); (exact absurd (congrArg Int32.toInt q) wc_1)) (fun q8 => wc_1 (congrArg Int32.toInt q8)) u41.2.1)⟩) _ _ _ hP hD hS (lv_sub hl [0, 1, 2, 3] rfl)
    · have wc_1 : x2_41.toInt = b.toInt := (er_in hD (t := 10) (x := b) (y := x2_41) (by decide) (by have := (hsx1_41).1; omega) (show _ < 80 by have := (hsx1_41).2; omega) (by have := (hx2_41).1; omega) (show _ < 80 by have := (hx2_41).2; omega) c_1.symm).symm
      refine lv_iconst (v := 1) hx hb dX10_comesToItself_46 (by decide) ?_
      refine lv_goto (tgt := 51) hx hb dX10_comesToItself_47 (by decide) ?_
      exact hj51 x3_41 x2_41 1 hx3_41 hx2_41 hsx0_41 hsx1_41 (iv_w (iv_k (by decide) : iv 1 1 1) (by decide)) (Or.inl ⟨rfl, fun h => h x3_41.toNatClampNeg (by have k3 := iv_cl hx3_41 (by decide); have := i32_0; have := i32_1; have := i32_2; have := i32_m1; have := (hsx0_41).1; have := (hsx0_41).2; have := (hsx1_41).1; have := (hsx1_41).2; have := (hx3_41).1; have := (hx3_41).2; have := (hx2_41).1; have := (hx2_41).2; omega) (by have k3 := iv_cl hx3_41 (by decide); have := i32_0; have := i32_1; have := i32_2; have := i32_m1; have := (hsx0_41).1; have := (hsx0_41).2; have := (hsx1_41).1; have := (hsx1_41).2; have := (hx3_41).1; have := (hx3_41).2; have := (hx2_41).1; have := (hx2_41).2; omega) (u41.1.symm.trans (Int32.toInt_inj.mp wc_1))⟩) _ _ _ hP hD hS (lv_sub hl [0, 1, 2, 3] rfl)
  have hj11 : ∀ (n : Nat) (x3_11 : Int32) (x2_11 : Int32) (_ : (80 - x3_11.toInt).toNat = n) (_ : iv 1 80 x3_11) (_ : iv (-1) 79 x2_11) (_ : iv 0 0 x) (_ : iv 0 79 b) (_ : x2_11 = itF (cPar sg lg) x3_11.toNatClampNeg b) (_ : ∀ k, 1 ≤ k → k < x3_11.toNatClampNeg → ¬ itF (cPar sg lg) k b = b) (H : Heap) (locs : List Loc) (ls : Array Slot), va_P (dC, dI) vwCl (cW ad cid a2 lx sg gm lg) H → va_D A (cW ad cid a2 lx sg gm lg) → va_S A s.heap H locs → lv_has ls 4 [(3, .int x3_11), (2, eV (ad 10) x2_11), (0, eV (ad 4) x), (1, eV (ad 10) b)] → W p l e (headSpec wm_X10_comesToItself ({ frames := 1, cells := 1, slots := 6, locals := 23 })).room s m ([eV (ad 4) x, eV (ad 10) b] : List Value).toArray below meth c H locs 0 0 (vx_MQ below (cQx dC dI ad cid a2 lx (fun v u => ∃ r : Int32, v = some (.int r) ∧ u = (sg, gm, lg) ∧ (iv 0 1 r) ∧ ((r.toInt = 1 ∧ ¬ NR (cPar sg lg) b) ∨ (r.toInt = 0 ∧ NR (cPar sg lg) b))) A) (cX dC dI ad cid a2 lx (fun _ _ => False) A) ([eV (ad 4) x, eV (ad 10) b] : List Value).toArray s 1 6 A) (F0 m 11 ls []) := by
    intro n
    induction n using Nat.strongRecOn with
    | ind n ih11 =>
      intro x3_11 x2_11 hn11 hx3_11 hx2_11 hsx0_11 hsx1_11 hit hne H locs ls hP hD hS hl
      refine lv_iload_n hx hb dX10_comesToItself_11 rfl (lv_at hl 0 rfl) ?_
      refine lv_bipush (v := 80) hx hb dX10_comesToItself_12 (by decide) ?_
      refine lv_icmp_ge (tgt := 41) hx hb dX10_comesToItself_14 (by decide) (fun c_2 => ?_) (fun c_2 => ?_)
      · have h_3 : iv 80 80 x3_11 := iv_leR c_2 (iv_k (by decide) : iv 80 80 80) hx3_11 (by decide)
        exact hj41 x3_11 x2_11 (iv_w h_3 (by decide)) hx2_11 hsx0_11 hsx1_11 (⟨hit, hne, Or.inl (by have := i32_0; have := i32_1; have := i32_2; have := i32_m1; have := (hsx0_11).1; have := (hsx0_11).2; have := (hsx1_11).1; have := (hsx1_11).2; have := (h_3).1; have := (h_3).2; have := (hx2_11).1; have := (hx2_11).2; omega)⟩) _ _ _ hP hD hS (lv_sub hl [0, 1, 2, 3] rfl)
      · have h_4 : iv 1 79 x3_11 := iv_ltL (i32_lt c_2) hx3_11 (iv_k (by decide) : iv 80 80 80) (by decide)
        refine ec_aload_n hx hb dX10_comesToItself_17 rfl (lv_at hl 1 rfl) ?_
        refine ec_ifnull (tgt := 41) hx hb dX10_comesToItself_18 (by decide) (fun c_5 => ?_) (fun c_5 => ?_)
        · have h_6 : iv (-1) (-1) x2_11 := ⟨(hx2_11).1, by omega⟩
          exact hj41 x3_11 x2_11 (iv_w h_4 (by decide)) (iv_w h_6 (by decide)) hsx0_11 hsx1_11 (⟨hit, hne, Or.inr (Or.inl (Int32.toInt_inj.mp (show (x2_11 : Int32).toInt = (-1 : Int32).toInt from (by have : (-1 : Int32).toInt = -1 := (by decide); have := i32_0; have := i32_1; have := i32_2; have := i32_m1; have := (hsx0_11).1; have := (hsx0_11).2; have := (hsx1_11).1; have := (hsx1_11).2; have := (h_4).1; have := (h_4).2; have := (h_6).1; have := (h_6).2; omega))))⟩) _ _ _ hP hD hS (lv_sub hl [0, 1, 2, 3] rfl)
        · have h_7 : iv 0 79 x2_11 := ⟨c_5, (hx2_11).2⟩
          refine ec_aload_n hx hb dX10_comesToItself_21 rfl (lv_at hl 1 rfl) ?_
          refine ec_aload_n hx hb dX10_comesToItself_22 rfl (lv_at hl 3 rfl) ?_
          refine ec_acmp_eq (tgt := 41) hx hb dX10_comesToItself_23 (by decide) (fun c_8 => ?_) (fun c_8 => ?_)
          · have wc_8 : x2_11.toInt = b.toInt := (er_in hD (t := 10) (x := b) (y := x2_11) (by decide) (by have := (hsx1_11).1; omega) (show _ < 80 by have := (hsx1_11).2; omega) (by have := (h_7).1; omega) (show _ < 80 by have := (h_7).2; omega) c_8.symm).symm
            exact hj41 x3_11 x2_11 (iv_w h_4 (by decide)) (iv_w h_7 (by decide)) hsx0_11 hsx1_11 (⟨hit, hne, Or.inr (Or.inr (Int32.toInt_inj.mp wc_8))⟩) _ _ _ hP hD hS (lv_sub hl [0, 1, 2, 3] rfl)
          · have wc_8 : ¬ x2_11.toInt = b.toInt := fun q9 => c_8 (congrArg (er (ad 10)) (Int32.toInt_inj.mp q9))
            refine ec_aload_n hx hb dX10_comesToItself_26 rfl (lv_at hl 2 rfl) ?_
            refine ec_aload_n hx hb dX10_comesToItself_27 rfl (lv_at hl 1 rfl) ?_
            refine cr_get (t := 10) (j := 6) (C := RX1) (T := TX1) (N := 19) (v := .long (lg 5 x2_11.toNatClampNeg)) hx hb htb inX1 hown hK hP h_7 (by decide) (by decide) (by decide) rfl (by decide) (htb _ kw_715) rfl dX10_comesToItself_28 ?_
            refine lv_topl (fun z_9 ez_9 => ?_)
            refine cm_callV (t := 4) (C := RX10) (T := TX10) (N := 4) (rest := []) (as := [.long z_9]) ⟨hx, hb, hml, hown, htb⟩ (d_withId2 l dC dI ad cid a2 lx sg gm lg x z_9 hI hsx0_11) (cwV 1 htb (gd_V kw_716 kw_717 kw_718 kw_32 kw_1495) rfl rfl rfl (by decide +kernel) ⟨Nat.le_of_ble_eq_true rfl, Nat.le_of_ble_eq_true rfl⟩) hsx0_11 (by decide) (by decide) rfl rfl hl.1 rfl (Nat.le_trans cs_n (by decide)) dX10_comesToItself_31 ⟨Nat.le_of_ble_eq_true rfl, Nat.le_of_ble_eq_true rfl⟩ hK hP hD hS hA hG (fun E ce q9 u_11 H locs hw hP hD hS hce hcv hcl => ?_) (fun v9 u_11 H locs hw hP hD hS => ?_)
            · exact hw.elim
            obtain ⟨r_10, rfl, rfl, hr_10, fI_r_10, fD_r_10⟩ := hw
            have hP : va_P (dC, dI) vwCl (cW ad cid a2 lx sg gm lg) H := hP
            have hD : va_D A (cW ad cid a2 lx sg gm lg) := hD
            refine W.eq (g2 := F0 m 34 ls [eV (ad 10) r_10]) rfl ?_
            refine ec_astore_n (i := 2) (lv' := [(2, eV (ad 10) r_10), (3, .int x3_11), (0, eV (ad 4) x), (1, eV (ad 10) b)]) hx hb dX10_comesToItself_34 rfl hl (by decide) (by simp [List.filter, eV_cat, cat_i, cat_l]) (fun ls hl => ?_)
            obtain ⟨z_13, ez_13⟩ : ∃ z : Int32, z = x3_11 + 1 := ⟨_, rfl⟩
            have hz_13 : iv 2 80 z_13 := iv_of ez_13 (iv_add h_4 (iv_k (by decide) : iv 1 1 1) (by decide))
            have tz_13 : z_13.toInt = x3_11.toInt + 1 := by rw [ez_13]; exact iv_addE h_4 (iv_k (by decide) : iv 1 1 1) (by decide)
            refine lv_iinc (v := z_13) (lv' := [(3, .int z_13), (2, eV (ad 10) r_10), (0, eV (ad 4) x), (1, eV (ad 10) b)]) hx hb dX10_comesToItself_35 hl (k := 1) rfl ez_13.symm (by decide) (by simp [List.filter, eV_cat, cat_i, cat_l]) (fun ls hl => ?_)
            refine lv_goto (tgt := 11) hx hb dX10_comesToItself_38 (by decide) ?_
            exact ih11 _ (by rw [← hn11]; exact (iv_meas tz_13 h_4 (by decide))) z_13 r_10 rfl (iv_w hz_13 (by decide)) hr_10 hsx0_11 hsx1_11 ((by rw [s_cl h_4 (by decide) tz_13]; exact itF_s9 hit (fun q8 => by have q7 : (x2_11 : Int32).toInt = -1 := (by rw [q8]; decide); have := i32_0; have := i32_1; have := i32_2; have := i32_m1; have := (hsx0_11).1; have := (hsx0_11).2; have := (hsx1_11).1; have := (hsx1_11).2; have := (h_4).1; have := (h_4).2; have := (h_7).1; have := (h_7).2; have := (hr_10).1; have := (hr_10).2; have := (hz_13).1; have := (hz_13).2; omega) (fD_r_10.trans (by rw [ez_9]; rfl)))) ((fun k h1 h2 => by rw [s_cl h_4 (by decide) tz_13] at h2; by_cases hq : k = x3_11.toNatClampNeg; (rw [hq, ← hit]; exact fun q8 => wc_8 (congrArg Int32.toInt q8)); exact hne k h1 (by omega))) _ _ _ hP hD hS (lv_sub hl [0, 1, 2, 3] rfl)
  refine ec_aload_n hx hb dX10_comesToItself_0 rfl (lv_at hl 0 rfl) ?_
  refine ec_aload_n hx hb dX10_comesToItself_1 rfl (lv_at hl 1 rfl) ?_
  refine cr_get (t := 10) (j := 6) (C := RX1) (T := TX1) (N := 19) (v := .long (lg 5 b.toNatClampNeg)) hx hb htb inX1 hown hK hP hvb (by decide) (by decide) (by decide) rfl (by decide) (htb _ kw_715) rfl dX10_comesToItself_2 ?_
  refine lv_topl (fun z_14 ez_14 => ?_)
  refine cm_callV (t := 4) (C := RX10) (T := TX10) (N := 4) (rest := []) (as := [.long z_14]) ⟨hx, hb, hml, hown, htb⟩ (d_withId2 l dC dI ad cid a2 lx sg gm lg x z_14 hI hvx) (cwV 1 htb (gd_V kw_716 kw_717 kw_718 kw_32 kw_1495) rfl rfl rfl (by decide +kernel) ⟨Nat.le_of_ble_eq_true rfl, Nat.le_of_ble_eq_true rfl⟩) hvx (by decide) (by decide) rfl rfl hl.1 rfl (Nat.le_trans cs_n (by decide)) dX10_comesToItself_5 ⟨Nat.le_of_ble_eq_true rfl, Nat.le_of_ble_eq_true rfl⟩ hK hP hD hS hA hG (fun E ce q9 u_16 H locs hw hP hD hS hce hcv hcl => ?_) (fun v9 u_16 H locs hw hP hD hS => ?_)
  · exact hw.elim
  obtain ⟨r_15, rfl, rfl, hr_15, fI_r_15, fD_r_15⟩ := hw
  have hP : va_P (dC, dI) vwCl (cW ad cid a2 lx sg gm lg) H := hP
  have hD : va_D A (cW ad cid a2 lx sg gm lg) := hD
  refine W.eq (g2 := F0 m 8 ls [eV (ad 10) r_15]) rfl ?_
  refine ec_astore_n (i := 2) (lv' := [(2, eV (ad 10) r_15), (0, eV (ad 4) x), (1, eV (ad 10) b)]) hx hb dX10_comesToItself_8 rfl hl (by decide) (by simp [List.filter, eV_cat, cat_i, cat_l]) (fun ls hl => ?_)
  refine lv_iconst (v := 1) hx hb dX10_comesToItself_9 (by decide) ?_
  refine lv_istore_n (i := 3) (lv' := [(3, .int 1), (2, eV (ad 10) r_15), (0, eV (ad 4) x), (1, eV (ad 10) b)]) hx hb dX10_comesToItself_10 rfl hl (by decide) (by simp [List.filter, eV_cat, cat_i, cat_l]) (fun ls hl => ?_)
  exact hj11 _ 1 r_15 rfl (iv_w (iv_k (by decide) : iv 1 1 1) (by decide)) hr_15 hvx hvb ((by have q9 : itF (cPar sg lg) 1 b = cPar sg lg b := itF_1 (fun q8 => absurd hvb.1 (by rw [q8]; decide)); have : (1 : Int32).toNatClampNeg = 1 := rfl; rw [this, q9]; exact fD_r_15.trans (by rw [ez_14]; rfl))) ((fun k h1 h2 => by have : (1 : Int32).toNatClampNeg = 1 := rfl; omega)) _ _ _ hP hD hS (lv_sub hl [0, 1, 2, 3] rfl)
