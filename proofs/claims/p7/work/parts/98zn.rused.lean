/-- the beans' rows of the reference by the list -/
def BN7 (D : List El7) (sg : Nat → Int32) (gm : Nat → Nat → Int32) (n : Nat) : Prop := (sg 41).toInt = ((bsN D n).length : Int) ∧ ∀ b y : Nat, (bsN D n)[b]? = some y → (gm 42 b).toInt = (y : Int) ∧ (gm 43 y).toInt = (b : Int)
theorem BN_el {D : List El7} {sg : Nat → Int32} {gm : Nat → Nat → Int32} (h : BN7 D sg gm D.length) {b : Nat} (hb : b < nbD D) : (gm 42 b).toNatClampNeg = elD D b := by
  unfold nbD at hb
  have e : elD D b = (bsN D D.length)[b] := by unfold elD; rw [List.getElem?_eq_getElem hb]; rfl
  have q := (h.2 b _ (List.getElem?_eq_getElem hb)).1
  rw [e]
  show (gm 42 b).toInt.toNat = _
  omega
theorem BN_rk {D : List El7} {sg : Nat → Int32} {gm : Nat → Nat → Int32} (h : BN7 D sg gm D.length) {y : Nat} (hy : y < D.length) (hk : dKd D y = 3) : (gm 43 y).toInt = ((bsN D y).length : Int) := (h.2 _ _ (bsN_i hy hk)).2
theorem BN_nI {D : List El7} {sg : Nat → Int32} {gm : Nat → Nat → Int32} (h : BN7 D sg gm D.length) (h80 : D.length ≤ 80) {y : Nat} (hy : y < D.length) (hk : dKd D y = 3) : gm 43 y = nI (bsN D y).length := by
  have := bsN_l (D := D) y
  exact Int32.toInt_inj.mp (by rw [BN_rk h hy hk, nI_toInt (by omega)])
theorem parR_r {D : List El7} (h80 : D.length ≤ 80) (b : Int32) : parR D b = -1 ∨ (0 ≤ (parR D b).toInt ∧ (parR D b).toNatClampNeg < nbD D) := by
  unfold parR widR
  split
  · exact Or.inl rfl
  · rcases fst_or (qR D (aW (dAt D (elD D b.toNatClampNeg)) 123563833388660)) (nbD D) 0 with v | ⟨i, v1, v2, _⟩
    · exact Or.inl v.1
    · rw [v2, Nat.zero_add]
      have := bsN_l (D := D) D.length
      have h9 : nbD D ≤ 80 := by unfold nbD; omega
      have h4 : (nI i).toInt = i := nI_toInt (by omega)
      exact Or.inr ⟨by omega, by show (nI i).toInt.toNat < _; omega⟩
theorem mPar_e {D : List El7} {sg : Nat → Int32} {gm : Nat → Nat → Int32} {lg : Nat → Nat → Int64} (hR : ∀ j, j < D.length → RL7 D gm lg j) (h : BN7 D sg gm D.length) {b : Int32} (hb : b.toNatClampNeg < nbD D) : mPar sg gm lg b = parR D b := by
  have e1 := BN_el h hb
  have k1 := (elD_k hb).1
  have e2 : (sg 41).toNatClampNeg = nbD D := by have := h.1; show (sg 41).toInt.toNat = (bsN D D.length).length; omega
  have e3 : ∀ w, mWid sg gm lg w = widR D w := by
    intro w
    unfold mWid widR
    rw [e2]
    refine fst_c _ _ (fun k _ hk => ?_)
    have hk : k < nbD D := by omega
    have e4 := BN_el h hk
    have k4 := (elD_k hk).1
    unfold qWid qR
    rw [e4, (hR _ k4).1]
    have e5 : gm 28 (elD D k) = 0 ↔ dAb D (elD D k) = 0 := by
      rw [← (hR _ k4).2.2.2.1]
      exact ⟨fun q => by rw [q]; rfl, fun q => Int32.toInt_inj.mp q⟩
    rw [decide_eq_decide.mpr e5]
  unfold mPar parR
  rw [e1, (hR _ k1).1, e3]
  by_cases hz : aH (dAt D (elD D b.toNatClampNeg)) 123563833388660 = 0
  · rw [if_pos hz, if_pos ((h_0 ((hR _ k1).2.2.1 123563833388660)).mpr hz)]
  · rw [if_neg hz, if_neg (fun q => hz ((h_0 ((hR _ k1).2.2.1 123563833388660)).mp q))]
theorem NR_e {D : List El7} {sg : Nat → Int32} {gm : Nat → Nat → Int32} {lg : Nat → Nat → Int64} (hR : ∀ j, j < D.length → RL7 D gm lg j) (h : BN7 D sg gm D.length) (h80 : D.length ≤ 80) {b : Int32} (h0 : 0 ≤ b.toInt) (hb : b.toNatClampNeg < nbD D) : NR (mPar sg gm lg) b ↔ NR (parR D) b := by
  have hI : ∀ n (b : Int32), 0 ≤ b.toInt ∧ b.toNatClampNeg < nbD D → itF (mPar sg gm lg) n b = itF (parR D) n b := itF_c (fun b hb => mPar_e hR h hb.2) (fun b _ => parR_r h80 b)
  unfold NR
  constructor
  · intro q k k1 k2 e; exact q k k1 k2 (by rw [hI k b ⟨h0, hb⟩]; exact e)
  · intro q k k1 k2 e; exact q k k1 k2 (by rw [← hI k b ⟨h0, hb⟩]; exact e)
/-- used before as a name -/
def UQ7 (D : List El7) (k : Nat) (w : Int64) : Prop := dAb D k = 0 ∧ ((dKd D k = 3 ∧ aW (dAt D k) 26980 = w) ∨ (dKd D k = 2 ∧ aW (dAt D k) 29807 = w))
theorem USD_e {D : List El7} {e : Nat} {w : Int64} : USD D e w ↔ ∃ k, k < e ∧ UQ7 D k w := Iff.rfl
/-- wrong by its parent -/
def PB7 (D : List El7) (e : Nat) : Prop := dKd D e = 3 ∧ aH (dAt D e) 123563833388660 = 1 ∧ (parR D (nI (bsN D e).length) = -1 ∨ ¬ NR (parR D) (nI (bsN D e).length))
theorem BR1_e {D : List El7} {e : Nat} : BR1 D e ↔ ¬ (dAb D e = 0 ∧ USD D e (wdD D e)) ∧ ¬ PB7 D e := by
  unfold BR1 PB7
  refine and_congr Iff.rfl ?_
  constructor
  · rintro h ⟨a, b, c⟩
    obtain ⟨h1, h2⟩ := h a b
    rcases c with c | c
    · exact h1 c
    · exact c h2
  · intro h a b
    exact ⟨fun c => h ⟨a, b, Or.inl c⟩, Classical.byContradiction (fun c => h ⟨a, b, Or.inr c⟩)⟩
theorem BB1_of {D : List El7} {sg : Nat → Int32} {gm : Nat → Nat → Int32} {lg : Nat → Nat → Int64} (hR : ∀ j, j < D.length → RL7 D gm lg j) (hK : KN7 D gm D.length) (h : BN7 D sg gm D.length) (h80 : D.length ≤ 80) {e : Nat} (he : e < D.length) (hb : BR1 D e) : BB1 sg gm lg e := by
  intro hk
  rw [hK e he] at hk
  rw [h_0 ((hR e he).2.2.1 123563833388660)]
  rcases aH_01 (q := dAt D e) (k := 123563833388660) with q | q
  · exact Or.inl q
  · refine Or.inr ?_
    have e1 := BN_nI h h80 he hk
    have e2 := elD_i he hk
    have := bsN_l (D := D) e
    have h4 : (nI (bsN D e).length).toInt = (bsN D e).length := nI_toInt (by omega)
    rw [e1]
    exact (NR_e hR h h80 (by omega) (by show (nI (bsN D e).length).toInt.toNat < _; omega)).mpr (hb.2 hk q).2

set_option maxHeartbeats 4000000 in
set_option maxRecDepth 100000 in
theorem f_isUsed2 (l : Launch) (dC : Nat → ClassId) (dI : Nat → Nat → Nat) (h0 : Nat) (ad : Nat → Nat) (cid : Nat → ClassId) (sg : Nat → Int32) (gm : Nat → Nat → Int32) (lg : Nat → Nat → Int64) (x : Int32) (nn : Int64) (D : List El7) (hI : MI sg gm) (hvx : iv 0 79 x) (hRL : ∀ j, j < D.length → RL7 D gm lg j) (hKN : KN7 D gm D.length) (hn : (sg 24).toInt = (D.length : Int)) (hxl : x.toInt < (sg 24).toInt) : MMi l dC dI yX13_isUsed wm_X13_isUsed ({ frames := 2, cells := 0, slots := 0, locals := 51 }) h0 ad cid [.int x, .long nn] sg gm lg (fun r v => (iv 0 1 r) ∧ ((r.toInt = 1 ∧ (USD D x.toNatClampNeg nn)) ∨ (r.toInt = 0 ∧ ¬ (USD D x.toNatClampNeg nn))) ∧ v = (sg, gm, lg)) := by
  intro sz
  refine Met.ofW (cc := cX13_isUsed) (maxL := 5) (ret := (some .boolean)) (by decide) rfl ?_
  intro p e s m args below meth c s₁ B hml hv
  obtain ⟨rfl, hsz, hP, hK, hD0⟩ := hv
  have hx := B.exec
  have hb := B.bytes
  have hr := B.returns
  have hts := atoms_spec (ws := wm_X13_isUsed) B.pre
  have htb := fun (w : Cond) (h : w ∈ tb) => hts w (List.mem_cons_of_mem _ h)
  have hown : s.vm.findClass RX13 = some m.cls := findClass_of_methodNamed B.named
  have hlocks := B.notSynchronized
  subst hsz
  have hD := hD0.self (sz := s.heap.size)
  generalize hAe : va_A (mW h0 ad cid sg gm lg) s.heap.size = A at hD ⊢
  have hA : ∀ q : Nat, s.heap.size ≤ q → A q := fun q h => by rw [← hAe]; exact Or.inr h
  have hS : va_S A s.heap s.heap [] := va_S.rf
  have hl := lv_entry ([.ref h0, .int x, .long nn]) (n := 5) (Nat.le_of_ble_eq_true rfl)
  rw [lg_entry_eq]
  generalize (lg_sl ([.ref h0, .int x, .long nn]) ++ List.replicate (5 - (lg_sl ([.ref h0, .int x, .long nn])).length) Slot.unset).toArray = ls at hl ⊢
  have hl : lv_has ls 5 [(0, .ref h0), (1, .int x), (2, .long nn)] := hl
  have hj69 : ∀ (x4_69 : Int32) (_ : iv 0 78 x4_69) (_ : iv 1 79 x) (_ : x4_69.toInt < x.toInt) (_ : UQ7 D x4_69.toNatClampNeg nn) (H : Heap) (locs : List Loc) (ls : Array Slot), va_P (dC, dI) vwCl (mW h0 ad cid sg gm lg) H → va_D A (mW h0 ad cid sg gm lg) → va_S A s.heap H locs → lv_has ls 5 [(4, .int x4_69), (0, .ref h0), (1, .int x), (2, .long nn)] → W p l e (headSpec wm_X13_isUsed ({ frames := 2, cells := 0, slots := 0, locals := 51 })).room s m ([.ref h0, .int x, .long nn] : List Value).toArray below meth c H locs 0 0 (MQ below (va_Qi (fun r v => (iv 0 1 r) ∧ ((r.toInt = 1 ∧ (USD D x.toNatClampNeg nn)) ∨ (r.toInt = 0 ∧ ¬ (USD D x.toNatClampNeg nn))) ∧ v = (sg, gm, lg)) (MB dC dI h0 ad cid A) A) ([.ref h0, .int x, .long nn] : List Value).toArray s 0 0 A) (F0 m 69 ls []) := by
    intro x4_69 hx4_69 hsx1_69 hl4 u69 H locs ls hP hD hS hl
    refine lv_iconst (v := 1) hx hb dX13_isUsed_69 (by decide) ?_
    exact W.zret (v := 1) hx hb hr (iv_nb (iv_w (iv_k (by decide) : iv 1 1 1) (by decide))) (fun t ht hW => ⟨⟨1, (sg, gm, lg), rfl, ⟨(iv_w (iv_k (by decide) : iv 1 1 1) (by decide)), (Or.inl ⟨rfl, x4_69.toNatClampNeg, (by have := hl4; have := iv_cl (show iv 0 80 x4_69 from (iv_w hx4_69 (by decide))) (by decide); have := iv_cl hvx (by decide); omega), u69⟩), rfl⟩, by rw [ht]; exact hP, va_K.moved hW.alike hK, hD⟩, hS.F ht⟩) hS.2.2 dX13_isUsed_70
  have hj3 : ∀ (n : Nat) (x4_3 : Int32) (_ : (80 - x4_3.toInt).toNat = n) (_ : iv 0 80 x4_3) (_ : iv 0 79 x) (_ : ∀ k, k < x4_3.toNatClampNeg → ¬ UQ7 D k nn) (H : Heap) (locs : List Loc) (ls : Array Slot), va_P (dC, dI) vwCl (mW h0 ad cid sg gm lg) H → va_D A (mW h0 ad cid sg gm lg) → va_S A s.heap H locs → lv_has ls 5 [(4, .int x4_3), (0, .ref h0), (1, .int x), (2, .long nn)] → W p l e (headSpec wm_X13_isUsed ({ frames := 2, cells := 0, slots := 0, locals := 51 })).room s m ([.ref h0, .int x, .long nn] : List Value).toArray below meth c H locs 0 0 (MQ below (va_Qi (fun r v => (iv 0 1 r) ∧ ((r.toInt = 1 ∧ (USD D x.toNatClampNeg nn)) ∨ (r.toInt = 0 ∧ ¬ (USD D x.toNatClampNeg nn))) ∧ v = (sg, gm, lg)) (MB dC dI h0 ad cid A) A) ([.ref h0, .int x, .long nn] : List Value).toArray s 0 0 A) (F0 m 3 ls []) := by
    intro n
    induction n using Nat.strongRecOn with
    | ind n ih3 =>
      intro x4_3 hn3 hx4_3 hsx1_3 hnu H locs ls hP hD hS hl
      have hj71 : ∀ (_ : iv 0 78 x4_3) (_ : iv 1 79 x) (_ : x4_3.toInt < x.toInt) (_ : ¬ UQ7 D x4_3.toNatClampNeg nn) (H : Heap) (locs : List Loc) (ls : Array Slot), va_P (dC, dI) vwCl (mW h0 ad cid sg gm lg) H → va_D A (mW h0 ad cid sg gm lg) → va_S A s.heap H locs → lv_has ls 5 [(4, .int x4_3), (0, .ref h0), (1, .int x), (2, .long nn)] → W p l e (headSpec wm_X13_isUsed ({ frames := 2, cells := 0, slots := 0, locals := 51 })).room s m ([.ref h0, .int x, .long nn] : List Value).toArray below meth c H locs 0 0 (MQ below (va_Qi (fun r v => (iv 0 1 r) ∧ ((r.toInt = 1 ∧ (USD D x.toNatClampNeg nn)) ∨ (r.toInt = 0 ∧ ¬ (USD D x.toNatClampNeg nn))) ∧ v = (sg, gm, lg)) (MB dC dI h0 ad cid A) A) ([.ref h0, .int x, .long nn] : List Value).toArray s 0 0 A) (F0 m 71 ls []) := by
        intro  hsx4_71 hsx1_71 hl4 u71 H locs ls hP hD hS hl
        obtain ⟨z_1, ez_1⟩ : ∃ z : Int32, z = x4_3 + 1 := ⟨_, rfl⟩
        have hz_1 : iv 1 79 z_1 := iv_of ez_1 (iv_add hsx4_71 (iv_k (by decide) : iv 1 1 1) (by decide))
        have tz_1 : z_1.toInt = x4_3.toInt + 1 := by rw [ez_1]; exact iv_addE hsx4_71 (iv_k (by decide) : iv 1 1 1) (by decide)
        refine lv_iinc (v := z_1) (lv' := [(4, .int z_1), (0, .ref h0), (1, .int x), (2, .long nn)]) hx hb dX13_isUsed_71 hl (k := 0) rfl ez_1.symm (by decide) rfl (fun ls hl => ?_)
        refine lv_goto (tgt := 3) hx hb dX13_isUsed_74 (by decide) ?_
        exact ih3 _ (by rw [← hn3]; exact (iv_meas tz_1 hsx4_71 (by decide))) z_1 rfl (iv_w hz_1 (by decide)) (iv_w hsx1_71 (by decide)) ((fun k hk => by rw [s_cl (show iv 0 79 x4_3 from (iv_w hsx4_71 (by decide))) (by decide) tz_1] at hk; by_cases hq : k = x4_3.toNatClampNeg; (rw [hq]; exact u71); exact hnu k (by omega))) _ _ _ hP hD hS (lv_sub hl [0, 1, 2, 3] rfl)
      have hj44 : ∀ (_ : iv 0 78 x4_3) (_ : iv 1 79 x) (_ : x4_3.toInt < x.toInt) (_ : dAb D x4_3.toNatClampNeg = 0) (_ : ¬ (dKd D x4_3.toNatClampNeg = 3 ∧ aW (dAt D x4_3.toNatClampNeg) 26980 = nn)) (_ : RL7 D gm lg x4_3.toNatClampNeg) (_ : (gm 26 x4_3.toNatClampNeg).toInt = dKd D x4_3.toNatClampNeg) (H : Heap) (locs : List Loc) (ls : Array Slot), va_P (dC, dI) vwCl (mW h0 ad cid sg gm lg) H → va_D A (mW h0 ad cid sg gm lg) → va_S A s.heap H locs → lv_has ls 5 [(4, .int x4_3), (0, .ref h0), (1, .int x), (2, .long nn)] → W p l e (headSpec wm_X13_isUsed ({ frames := 2, cells := 0, slots := 0, locals := 51 })).room s m ([.ref h0, .int x, .long nn] : List Value).toArray below meth c H locs 0 0 (MQ below (va_Qi (fun r v => (iv 0 1 r) ∧ ((r.toInt = 1 ∧ (USD D x.toNatClampNeg nn)) ∨ (r.toInt = 0 ∧ ¬ (USD D x.toNatClampNeg nn))) ∧ v = (sg, gm, lg)) (MB dC dI h0 ad cid A) A) ([.ref h0, .int x, .long nn] : List Value).toArray s 0 0 A) (F0 m 44 ls []) := by
        intro  hsx4_44 hsx1_44 hl4 ha0 u44 hRj hKj H locs ls hP hD hS hl
        refine lv_aload_n hx hb dX13_isUsed_44 rfl (lv_at hl 1 rfl) ?_
        refine mr_get (v := .ref (ad 26)) hx hb htb inX13 hown hK hP 26 (by decide) (htb _ kw_182) rfl dX13_isUsed_45 ?_
        refine lv_iload hx hb dX13_isUsed_48 (lv_at hl 0 rfl) ?_
        refine mr_iald hx hb hK hP 19 (k := 26) rfl rfl rfl (show vp_in x4_3 80 from (iv_in hsx4_44 (by decide))) dX13_isUsed_50 ?_
        refine lv_topi (fun z_2 ez_2 => ?_)
        have hz_2 : iv 0 10 z_2 := iv_of ez_2 (MI_a hI 26 hsx4_44 (by decide))
        refine lv_iconst (v := 2) hx hb dX13_isUsed_51 (by decide) ?_
        refine lv_icmp_ne (tgt := 71) hx hb dX13_isUsed_52 (by decide) (fun c_3 => ?_) (fun c_3 => ?_)
        · have d_4 : ¬ (z_2 : Int32).toInt = 2 := lv_neT c_3 rfl
          exact hj71 hsx4_44 hsx1_44 (by have := i32_0; have := i32_1; have := i32_2; have := i32_m1; have := (hsx1_44).1; have := (hsx1_44).2; have := (hsx4_44).1; have := (hsx4_44).2; have := (hz_2).1; have := (hz_2).2; omega) ((fun w => w.2.elim u44 (fun q => absurd q.1 (by have := congrArg Int32.toInt ez_2; have := hRj.2.2.2.1; have := hKj; have := i32_0; have := i32_1; have := i32_2; have := i32_m1; have := (hsx1_44).1; have := (hsx1_44).2; have := (hsx4_44).1; have := (hsx4_44).2; have := (hz_2).1; have := (hz_2).2; omega)))) _ _ _ hP hD hS (lv_sub hl [0, 1, 2, 3] rfl)
        · have h_5 : iv 2 2 z_2 := iv_eq c_3 hz_2 (iv_k (by decide) : iv 2 2 2) (by decide)
          refine lv_aload_n hx hb dX13_isUsed_55 rfl (lv_at hl 1 rfl) ?_
          refine lv_iload hx hb dX13_isUsed_56 (lv_at hl 0 rfl) ?_
          refine lv_ldc2 (own := RX13) (v := 29807) hx hb hown (htb _ kw_888) dX13_isUsed_58 ?_
          refine mr_calll (rest := []) ⟨hx, hb, hml, hown, htb⟩ (f_word l dC dI h0 ad cid sg gm lg x4_3 29807 hI (iv_w hsx4_44 (by decide))) (cwV 2 htb (gd_V kw_923 kw_924 kw_925 kw_5 kw_1545) rfl rfl rfl (by decide +kernel) ⟨Nat.le_of_ble_eq_true rfl, Nat.le_of_ble_eq_true rfl⟩) rfl hl.1 rfl (Nat.le_of_ble_eq_true rfl) dX13_isUsed_61 ⟨Nat.zero_le _, Nat.zero_le _⟩ hK hP hD hS hA (fun r_6 u_7 H locs hw hP hD hS => ?_)
          obtain ⟨fW_r_6, rfl⟩ := hw
          have hP : va_P (dC, dI) vwCl (mW h0 ad cid sg gm lg) H := hP
          have hD : va_D A (mW h0 ad cid sg gm lg) := hD
          refine lv_lload_n hx hb dX13_isUsed_64 rfl (lv_at hl 3 rfl) ?_
          refine W.lcmp hx hb dX13_isUsed_65 ?_
          refine lv_topi (fun z_8 ez_8 => ?_)
          have hz_8 : iv (-1) 1 z_8 := iv_of ez_8 (iv_cmp _ _)
          have hl_z_8 := lg_tr7 ez_8
          refine lv_if_ne (tgt := 71) hx hb dX13_isUsed_66 (by decide) (fun c_9 => ?_) (fun c_9 => ?_)
          · have d_10 : ¬ (z_8 : Int32).toInt = 0 := lv_neT c_9 rfl
            exact hj71 hsx4_44 hsx1_44 (by have := i32_0; have := i32_1; have := i32_2; have := i32_m1; have := (hsx1_44).1; have := (hsx1_44).2; have := (hsx4_44).1; have := (hsx4_44).2; have := (h_5).1; have := (h_5).2; have := (hz_8).1; have := (hz_8).2; omega) ((fun w => w.2.elim u44 (fun q => (fun q9 => c_9 (by rw [ez_8, fW_r_6, hRj.1, q9]; exact (lg_cmp_eq _ _).mpr rfl)) q.2))) _ _ _ hP hD hS (lv_sub hl [0, 1, 2, 3] rfl)
          · have h_11 : iv 0 0 z_8 := iv_eq c_9 hz_8 (iv_k (by decide) : iv 0 0 0) (by decide)
            exact hj69 x4_3 hsx4_44 hsx1_44 (by have := i32_0; have := i32_1; have := i32_2; have := i32_m1; have := (hsx1_44).1; have := (hsx1_44).2; have := (hsx4_44).1; have := (hsx4_44).2; have := (h_5).1; have := (h_5).2; have := (h_11).1; have := (h_11).2; omega) (⟨ha0, Or.inr ⟨(by have := congrArg Int32.toInt ez_2; have := hRj.2.2.2.1; have := hKj; have := i32_0; have := i32_1; have := i32_2; have := i32_m1; have := (hsx1_44).1; have := (hsx1_44).2; have := (hsx4_44).1; have := (hsx4_44).2; have := (h_5).1; have := (h_5).2; have := (h_11).1; have := (h_11).2; omega), (by rw [← hRj.1, ← fW_r_6]; exact (lg_cmp_eq _ _).mp (by rw [← ez_8]; exact c_9))⟩⟩) _ _ _ hP hD hS (lv_sub hl [0, 1, 2, 3] rfl)
      refine lv_iload hx hb dX13_isUsed_3 (lv_at hl 0 rfl) ?_
      refine lv_iload_n hx hb dX13_isUsed_5 rfl (lv_at hl 2 rfl) ?_
      refine lv_icmp_ge (tgt := 77) hx hb dX13_isUsed_6 (by decide) (fun c_12 => ?_) (fun c_12 => ?_)
      · have d_13 : (x : Int32).toInt ≤ (x4_3 : Int32).toInt := Int32.le_iff_toInt_le.mp c_12
        refine lv_iconst (v := 0) hx hb dX13_isUsed_77 (by decide) ?_
        exact W.zret (v := 0) hx hb hr (iv_nb (iv_w (iv_k (by decide) : iv 0 0 0) (by decide))) (fun t ht hW => ⟨⟨0, (sg, gm, lg), rfl, ⟨(iv_w (iv_k (by decide) : iv 0 0 0) (by decide)), (Or.inr ⟨rfl, fun h => by obtain ⟨k, k1, k2⟩ := h; exact hnu k (by have := iv_cl hx4_3 (by decide); have := iv_cl hvx (by decide); have := i32_0; have := i32_1; have := i32_2; have := i32_m1; have := (hsx1_3).1; have := (hsx1_3).2; have := (hx4_3).1; have := (hx4_3).2; omega) k2⟩), rfl⟩, by rw [ht]; exact hP, va_K.moved hW.alike hK, hD⟩, hS.F ht⟩) hS.2.2 dX13_isUsed_78
      · have d_14 : (x4_3 : Int32).toInt < (x : Int32).toInt := Int32.lt_iff_toInt_lt.mp (i32_lt c_12)
        have h_15 : iv 0 78 x4_3 := iv_ltL (i32_lt c_12) hx4_3 hsx1_3 (by decide)
        have h_16 : iv 1 79 x := iv_ltR (i32_lt c_12) hx4_3 hsx1_3 (by decide)
        have hlD : x4_3.toNatClampNeg < D.length := by have := hxl; have := hn; have := iv_cl (show iv 0 79 x4_3 from (iv_w h_15 (by decide))) (by decide); have := i32_0; have := i32_1; have := i32_2; have := i32_m1; have := (show iv 0 80 (sg 24) from MI_s hI 24).1; have := (show iv 0 80 (sg 24) from MI_s hI 24).2; have := (h_16).1; have := (h_16).2; have := (h_15).1; have := (h_15).2; omega
        have hRj := hRL _ hlD
        have hKj := hKN _ hlD
        refine lv_aload_n hx hb dX13_isUsed_9 rfl (lv_at hl 1 rfl) ?_
        refine mr_get (v := .ref (ad 28)) hx hb htb inX13 hown hK hP 28 (by decide) (htb _ kw_184) rfl dX13_isUsed_10 ?_
        refine lv_iload hx hb dX13_isUsed_13 (lv_at hl 0 rfl) ?_
        refine mr_iald hx hb hK hP 21 (k := 28) rfl rfl rfl (show vp_in x4_3 80 from (iv_in h_15 (by decide))) dX13_isUsed_15 ?_
        refine lv_topi (fun z_17 ez_17 => ?_)
        have hz_17 : iv (-1) 79 z_17 := iv_of ez_17 (MI_a hI 28 h_15 (by decide))
        refine lv_if_ne (tgt := 71) hx hb dX13_isUsed_16 (by decide) (fun c_18 => ?_) (fun c_18 => ?_)
        · have d_19 : ¬ (z_17 : Int32).toInt = 0 := lv_neT c_18 rfl
          exact hj71 h_15 h_16 (by have := i32_0; have := i32_1; have := i32_2; have := i32_m1; have := (h_16).1; have := (h_16).2; have := (h_15).1; have := (h_15).2; have := (hz_17).1; have := (hz_17).2; omega) ((fun w => absurd w.1 (by have := congrArg Int32.toInt ez_17; have := hRj.2.2.2.1; have := hKj; have := i32_0; have := i32_1; have := i32_2; have := i32_m1; have := (h_16).1; have := (h_16).2; have := (h_15).1; have := (h_15).2; have := (hz_17).1; have := (hz_17).2; omega))) _ _ _ hP hD hS (lv_sub hl [0, 1, 2, 3] rfl)
        · have h_20 : iv 0 0 z_17 := iv_eq c_18 hz_17 (iv_k (by decide) : iv 0 0 0) (by decide)
          refine lv_aload_n hx hb dX13_isUsed_19 rfl (lv_at hl 1 rfl) ?_
          refine mr_get (v := .ref (ad 26)) hx hb htb inX13 hown hK hP 26 (by decide) (htb _ kw_182) rfl dX13_isUsed_20 ?_
          refine lv_iload hx hb dX13_isUsed_23 (lv_at hl 0 rfl) ?_
          refine mr_iald hx hb hK hP 19 (k := 26) rfl rfl rfl (show vp_in x4_3 80 from (iv_in h_15 (by decide))) dX13_isUsed_25 ?_
          refine lv_topi (fun z_21 ez_21 => ?_)
          have hz_21 : iv 0 10 z_21 := iv_of ez_21 (MI_a hI 26 h_15 (by decide))
          refine lv_iconst (v := 3) hx hb dX13_isUsed_26 (by decide) ?_
          refine lv_icmp_ne (tgt := 44) hx hb dX13_isUsed_27 (by decide) (fun c_22 => ?_) (fun c_22 => ?_)
          · have d_23 : ¬ (z_21 : Int32).toInt = 3 := lv_neT c_22 rfl
            exact hj44 h_15 h_16 (by have := i32_0; have := i32_1; have := i32_2; have := i32_m1; have := (h_16).1; have := (h_16).2; have := (h_15).1; have := (h_15).2; have := (h_20).1; have := (h_20).2; have := (hz_21).1; have := (hz_21).2; omega) ((by have := congrArg Int32.toInt ez_17; have := congrArg Int32.toInt ez_21; have := hRj.2.2.2.1; have := hKj; have := i32_0; have := i32_1; have := i32_2; have := i32_m1; have := (h_16).1; have := (h_16).2; have := (h_15).1; have := (h_15).2; have := (h_20).1; have := (h_20).2; have := (hz_21).1; have := (hz_21).2; omega)) ((fun w => absurd w.1 (by have := congrArg Int32.toInt ez_17; have := congrArg Int32.toInt ez_21; have := hRj.2.2.2.1; have := hKj; have := i32_0; have := i32_1; have := i32_2; have := i32_m1; have := (h_16).1; have := (h_16).2; have := (h_15).1; have := (h_15).2; have := (h_20).1; have := (h_20).2; have := (hz_21).1; have := (hz_21).2; omega))) (hRj) (hKj) _ _ _ hP hD hS (lv_sub hl [0, 1, 2, 3] rfl)
          · have h_24 : iv 3 3 z_21 := iv_eq c_22 hz_21 (iv_k (by decide) : iv 3 3 3) (by decide)
            refine lv_aload_n hx hb dX13_isUsed_30 rfl (lv_at hl 1 rfl) ?_
            refine lv_iload hx hb dX13_isUsed_31 (lv_at hl 0 rfl) ?_
            refine lv_ldc2 (own := RX13) (v := 26980) hx hb hown (htb _ kw_899) dX13_isUsed_33 ?_
            refine mr_calll (rest := []) ⟨hx, hb, hml, hown, htb⟩ (f_word l dC dI h0 ad cid sg gm lg x4_3 26980 hI (iv_w h_15 (by decide))) (cwV 2 htb (gd_V kw_923 kw_924 kw_925 kw_5 kw_1545) rfl rfl rfl (by decide +kernel) ⟨Nat.le_of_ble_eq_true rfl, Nat.le_of_ble_eq_true rfl⟩) rfl hl.1 rfl (Nat.le_of_ble_eq_true rfl) dX13_isUsed_36 ⟨Nat.zero_le _, Nat.zero_le _⟩ hK hP hD hS hA (fun r_25 u_26 H locs hw hP hD hS => ?_)
            obtain ⟨fW_r_25, rfl⟩ := hw
            have hP : va_P (dC, dI) vwCl (mW h0 ad cid sg gm lg) H := hP
            have hD : va_D A (mW h0 ad cid sg gm lg) := hD
            refine lv_lload_n hx hb dX13_isUsed_39 rfl (lv_at hl 3 rfl) ?_
            refine W.lcmp hx hb dX13_isUsed_40 ?_
            refine lv_topi (fun z_27 ez_27 => ?_)
            have hz_27 : iv (-1) 1 z_27 := iv_of ez_27 (iv_cmp _ _)
            have hl_z_27 := lg_tr7 ez_27
            refine lv_if_eq (tgt := 69) hx hb dX13_isUsed_41 (by decide) (fun c_28 => ?_) (fun c_28 => ?_)
            · have h_29 : iv 0 0 z_27 := iv_eq c_28 hz_27 (iv_k (by decide) : iv 0 0 0) (by decide)
              exact hj69 x4_3 h_15 h_16 (by have := i32_0; have := i32_1; have := i32_2; have := i32_m1; have := (h_16).1; have := (h_16).2; have := (h_15).1; have := (h_15).2; have := (h_20).1; have := (h_20).2; have := (h_24).1; have := (h_24).2; have := (h_29).1; have := (h_29).2; omega) (⟨(by have := congrArg Int32.toInt ez_17; have := congrArg Int32.toInt ez_21; have := hRj.2.2.2.1; have := hKj; have := i32_0; have := i32_1; have := i32_2; have := i32_m1; have := (h_16).1; have := (h_16).2; have := (h_15).1; have := (h_15).2; have := (h_20).1; have := (h_20).2; have := (h_24).1; have := (h_24).2; have := (h_29).1; have := (h_29).2; omega), Or.inl ⟨(by have := congrArg Int32.toInt ez_17; have := congrArg Int32.toInt ez_21; have := hRj.2.2.2.1; have := hKj; have := i32_0; have := i32_1; have := i32_2; have := i32_m1; have := (h_16).1; have := (h_16).2; have := (h_15).1; have := (h_15).2; have := (h_20).1; have := (h_20).2; have := (h_24).1; have := (h_24).2; have := (h_29).1; have := (h_29).2; omega), (by rw [← hRj.1, ← fW_r_25]; exact (lg_cmp_eq _ _).mp (by rw [← ez_27]; exact c_28))⟩⟩) _ _ _ hP hD hS (lv_sub hl [0, 1, 2, 3] rfl)
            · have d_30 : ¬ (z_27 : Int32).toInt = 0 := lv_neT c_28 rfl
              exact hj44 h_15 h_16 (by have := i32_0; have := i32_1; have := i32_2; have := i32_m1; have := (h_16).1; have := (h_16).2; have := (h_15).1; have := (h_15).2; have := (h_20).1; have := (h_20).2; have := (h_24).1; have := (h_24).2; have := (hz_27).1; have := (hz_27).2; omega) ((by have := congrArg Int32.toInt ez_17; have := congrArg Int32.toInt ez_21; have := hRj.2.2.2.1; have := hKj; have := i32_0; have := i32_1; have := i32_2; have := i32_m1; have := (h_16).1; have := (h_16).2; have := (h_15).1; have := (h_15).2; have := (h_20).1; have := (h_20).2; have := (h_24).1; have := (h_24).2; have := (hz_27).1; have := (hz_27).2; omega)) ((fun w => (fun q9 => c_28 (by rw [ez_27, fW_r_25, hRj.1, q9]; exact (lg_cmp_eq _ _).mpr rfl)) w.2)) (hRj) (hKj) _ _ _ hP hD hS (lv_sub hl [0, 1, 2, 3] rfl)
  refine lv_iconst (v := 0) hx hb dX13_isUsed_0 (by decide) ?_
  refine lv_istore (lv' := [(4, .int 0), (0, .ref h0), (1, .int x), (2, .long nn)]) hx hb dX13_isUsed_1 hl (by decide) rfl (fun ls hl => ?_)
  exact hj3 _ 0 rfl (iv_w (iv_k (by decide) : iv 0 0 0) (by decide)) hvx ((fun k hk => absurd hk (Nat.not_lt_zero _))) _ _ _ hP hD hS (lv_sub hl [0, 1, 2, 3] rfl)

set_option maxHeartbeats 4000000 in
set_option maxRecDepth 100000 in
theorem f_comesToItself2 (l : Launch) (dC : Nat → ClassId) (dI : Nat → Nat → Nat) (h0 : Nat) (ad : Nat → Nat) (cid : Nat → ClassId) (sg : Nat → Int32) (gm : Nat → Nat → Int32) (lg : Nat → Nat → Int64) (b : Int32) (hI : MI sg gm) (hvb : iv 0 79 b) : MMi l dC dI yX13_comesToItself wm_X13_comesToItself ({ frames := 4, cells := 0, slots := 0, locals := 95 }) h0 ad cid [.int b] sg gm lg (fun r v => (iv 0 1 r) ∧ ((r.toInt = 1 ∧ ¬ NR (mPar sg gm lg) b) ∨ (r.toInt = 0 ∧ NR (mPar sg gm lg) b)) ∧ v = (sg, gm, lg)) := by
  intro sz
  refine Met.ofW (cc := cX13_comesToItself) (maxL := 4) (ret := (some .boolean)) (by decide) rfl ?_
  intro p e s m args below meth c s₁ B hml hv
  obtain ⟨rfl, hsz, hP, hK, hD0⟩ := hv
  have hx := B.exec
  have hb := B.bytes
  have hr := B.returns
  have hts := atoms_spec (ws := wm_X13_comesToItself) B.pre
  have htb := fun (w : Cond) (h : w ∈ tb) => hts w (List.mem_cons_of_mem _ h)
  have hown : s.vm.findClass RX13 = some m.cls := findClass_of_methodNamed B.named
  have hlocks := B.notSynchronized
  subst hsz
  have hD := hD0.self (sz := s.heap.size)
  generalize hAe : va_A (mW h0 ad cid sg gm lg) s.heap.size = A at hD ⊢
  have hA : ∀ q : Nat, s.heap.size ≤ q → A q := fun q h => by rw [← hAe]; exact Or.inr h
  have hS : va_S A s.heap s.heap [] := va_S.rf
  have hl := lv_entry ([.ref h0, .int b]) (n := 4) (Nat.le_of_ble_eq_true rfl)
  rw [lg_entry_eq]
  generalize (lg_sl ([.ref h0, .int b]) ++ List.replicate (4 - (lg_sl ([.ref h0, .int b])).length) Slot.unset).toArray = ls at hl ⊢
  have hl : lv_has ls 4 [(0, .ref h0), (1, .int b)] := hl
  have hj38 : ∀ (x3_38 : Int32) (x2_38 : Int32) (_ : iv 0 80 x3_38) (_ : iv (-1) 79 x2_38) (_ : iv 0 79 b) (_ : NR (mPar sg gm lg) b) (H : Heap) (locs : List Loc) (ls : Array Slot), va_P (dC, dI) vwCl (mW h0 ad cid sg gm lg) H → va_D A (mW h0 ad cid sg gm lg) → va_S A s.heap H locs → lv_has ls 4 [(3, .int x3_38), (2, .int x2_38), (0, .ref h0), (1, .int b)] → W p l e (headSpec wm_X13_comesToItself ({ frames := 4, cells := 0, slots := 0, locals := 95 })).room s m ([.ref h0, .int b] : List Value).toArray below meth c H locs 0 0 (MQ below (va_Qi (fun r v => (iv 0 1 r) ∧ ((r.toInt = 1 ∧ ¬ NR (mPar sg gm lg) b) ∨ (r.toInt = 0 ∧ NR (mPar sg gm lg) b)) ∧ v = (sg, gm, lg)) (MB dC dI h0 ad cid A) A) ([.ref h0, .int b] : List Value).toArray s 0 0 A) (F0 m 38 ls []) := by
    intro x3_38 x2_38 hx3_38 hx2_38 hsx1_38 hNR H locs ls hP hD hS hl
    refine lv_iconst (v := 0) hx hb dX13_comesToItself_38 (by decide) ?_
    exact W.zret (v := 0) hx hb hr (iv_nb (iv_w (iv_k (by decide) : iv 0 0 0) (by decide))) (fun t ht hW => ⟨⟨0, (sg, gm, lg), rfl, ⟨(iv_w (iv_k (by decide) : iv 0 0 0) (by decide)), (Or.inr ⟨rfl, hNR⟩), rfl⟩, by rw [ht]; exact hP, va_K.moved hW.alike hK, hD⟩, hS.F ht⟩) hS.2.2 dX13_comesToItself_39
  have hj8 : ∀ (n : Nat) (x3_8 : Int32) (x2_8 : Int32) (_ : (80 - x3_8.toInt).toNat = n) (_ : iv 0 80 x3_8) (_ : iv (-1) 79 x2_8) (_ : iv 0 79 b) (_ : x2_8 = itF (mPar sg gm lg) (x3_8.toNatClampNeg + 1) b) (_ : ∀ k9, 1 ≤ k9 → k9 ≤ x3_8.toNatClampNeg → ¬ itF (mPar sg gm lg) k9 b = b) (H : Heap) (locs : List Loc) (ls : Array Slot), va_P (dC, dI) vwCl (mW h0 ad cid sg gm lg) H → va_D A (mW h0 ad cid sg gm lg) → va_S A s.heap H locs → lv_has ls 4 [(3, .int x3_8), (2, .int x2_8), (0, .ref h0), (1, .int b)] → W p l e (headSpec wm_X13_comesToItself ({ frames := 4, cells := 0, slots := 0, locals := 95 })).room s m ([.ref h0, .int b] : List Value).toArray below meth c H locs 0 0 (MQ below (va_Qi (fun r v => (iv 0 1 r) ∧ ((r.toInt = 1 ∧ ¬ NR (mPar sg gm lg) b) ∨ (r.toInt = 0 ∧ NR (mPar sg gm lg) b)) ∧ v = (sg, gm, lg)) (MB dC dI h0 ad cid A) A) ([.ref h0, .int b] : List Value).toArray s 0 0 A) (F0 m 8 ls []) := by
    intro n
    induction n using Nat.strongRecOn with
    | ind n ih8 =>
      intro x3_8 x2_8 hn8 hx3_8 hx2_8 hsx1_8 hit hne H locs ls hP hD hS hl
      refine lv_iload_n hx hb dX13_comesToItself_8 rfl (lv_at hl 0 rfl) ?_
      refine lv_bipush (v := 80) hx hb dX13_comesToItself_9 (by decide) ?_
      refine lv_icmp_ge (tgt := 38) hx hb dX13_comesToItself_11 (by decide) (fun c_1 => ?_) (fun c_1 => ?_)
      · have h_2 : iv 80 80 x3_8 := iv_leR c_1 (iv_k (by decide) : iv 80 80 80) hx3_8 (by decide)
        exact hj38 x3_8 x2_8 (iv_w h_2 (by decide)) hx2_8 hsx1_8 (NR_80 h_2 hne) _ _ _ hP hD hS (lv_sub hl [0, 1, 2, 3] rfl)
      · have h_3 : iv 0 79 x3_8 := iv_ltL (i32_lt c_1) hx3_8 (iv_k (by decide) : iv 80 80 80) (by decide)
        refine lv_iload_n hx hb dX13_comesToItself_14 rfl (lv_at hl 1 rfl) ?_
        refine lv_iconst (v := (-1)) hx hb dX13_comesToItself_15 (by decide) ?_
        refine lv_icmp_eq (tgt := 38) hx hb dX13_comesToItself_16 (by decide) (fun c_4 => ?_) (fun c_4 => ?_)
        · have h_5 : iv (-1) (-1) x2_8 := iv_eq c_4 hx2_8 (iv_k (by decide) : iv (-1) (-1) (-1)) (by decide)
          exact hj38 x3_8 x2_8 (iv_w h_3 (by decide)) (iv_w h_5 (by decide)) hsx1_8 (NR_no hvb.1 (hit.symm.trans c_4) hne) _ _ _ hP hD hS (lv_sub hl [0, 1, 2, 3] rfl)
        · have h_6 : iv 0 79 x2_8 := iv_neL c_4 hx2_8 (by decide)
          refine lv_iload_n hx hb dX13_comesToItself_19 rfl (lv_at hl 1 rfl) ?_
          refine lv_iload_n hx hb dX13_comesToItself_20 rfl (lv_at hl 3 rfl) ?_
          refine lv_icmp_ne (tgt := 26) hx hb dX13_comesToItself_21 (by decide) (fun c_7 => ?_) (fun c_7 => ?_)
          · refine lv_aload_n hx hb dX13_comesToItself_26 rfl (lv_at hl 2 rfl) ?_
            refine lv_iload_n hx hb dX13_comesToItself_27 rfl (lv_at hl 1 rfl) ?_
            refine mr_calli (rest := []) ⟨hx, hb, hml, hown, htb⟩ (f_parentOf l dC dI h0 ad cid sg gm lg x2_8 hI h_6) (cwV 1 htb (gd_V kw_949 kw_950 kw_951 kw_5 kw_1553) rfl rfl rfl (by decide +kernel) ⟨Nat.le_of_ble_eq_true rfl, Nat.le_of_ble_eq_true rfl⟩) rfl hl.1 rfl (Nat.le_of_ble_eq_true rfl) dX13_comesToItself_28 ⟨Nat.zero_le _, Nat.zero_le _⟩ hK hP hD hS hA (fun r_8 u_9 H locs hw hP hD hS => ?_)
            obtain ⟨hr_8, fP_r_8, rfl⟩ := hw
            have hP : va_P (dC, dI) vwCl (mW h0 ad cid sg gm lg) H := hP
            have hD : va_D A (mW h0 ad cid sg gm lg) := hD
            refine lv_istore_n (lv' := [(2, .int r_8), (3, .int x3_8), (0, .ref h0), (1, .int b)]) hx hb dX13_comesToItself_31 rfl hl (by decide) rfl (fun ls hl => ?_)
            obtain ⟨z_10, ez_10⟩ : ∃ z : Int32, z = x3_8 + 1 := ⟨_, rfl⟩
            have hz_10 : iv 1 80 z_10 := iv_of ez_10 (iv_add h_3 (iv_k (by decide) : iv 1 1 1) (by decide))
            have tz_10 : z_10.toInt = x3_8.toInt + 1 := by rw [ez_10]; exact iv_addE h_3 (iv_k (by decide) : iv 1 1 1) (by decide)
            refine lv_iinc (v := z_10) (lv' := [(3, .int z_10), (2, .int r_8), (0, .ref h0), (1, .int b)]) hx hb dX13_comesToItself_32 hl (k := 1) rfl ez_10.symm (by decide) rfl (fun ls hl => ?_)
            refine lv_goto (tgt := 8) hx hb dX13_comesToItself_35 (by decide) ?_
            exact ih8 _ (by rw [← hn8]; exact (iv_meas tz_10 h_3 (by decide))) z_10 r_8 rfl (iv_w hz_10 (by decide)) hr_8 hsx1_8 (by rw [s_cl h_3 (by decide) tz_10]; exact itF_s hit c_4 fP_r_8) (by rw [s_cl h_3 (by decide) tz_10]; exact NR_s hit c_7 hne) _ _ _ hP hD hS (lv_sub hl [0, 1, 2, 3] rfl)
          · have d_11 : (x2_8 : Int32).toInt = (b : Int32).toInt := congrArg Int32.toInt c_7
            refine lv_iconst (v := 1) hx hb dX13_comesToItself_24 (by decide) ?_
            exact W.zret (v := 1) hx hb hr (iv_nb (iv_w (iv_k (by decide) : iv 1 1 1) (by decide))) (fun t ht hW => ⟨⟨1, (sg, gm, lg), rfl, ⟨(iv_w (iv_k (by decide) : iv 1 1 1) (by decide)), (Or.inl ⟨rfl, fun h => h (x3_8.toNatClampNeg + 1) (by omega) (by have := iv_cl h_3 (by decide); have := i32_0; have := i32_1; have := i32_2; have := i32_m1; have := (hsx1_8).1; have := (hsx1_8).2; have := (h_3).1; have := (h_3).2; have := (h_6).1; have := (h_6).2; omega) (hit.symm.trans c_7)⟩), rfl⟩, by rw [ht]; exact hP, va_K.moved hW.alike hK, hD⟩, hS.F ht⟩) hS.2.2 dX13_comesToItself_25
  refine lv_aload_n hx hb dX13_comesToItself_0 rfl (lv_at hl 0 rfl) ?_
  refine lv_iload_n hx hb dX13_comesToItself_1 rfl (lv_at hl 1 rfl) ?_
  refine mr_calli (rest := []) ⟨hx, hb, hml, hown, htb⟩ (f_parentOf l dC dI h0 ad cid sg gm lg b hI hvb) (cwV 1 htb (gd_V kw_949 kw_950 kw_951 kw_5 kw_1553) rfl rfl rfl (by decide +kernel) ⟨Nat.le_of_ble_eq_true rfl, Nat.le_of_ble_eq_true rfl⟩) rfl hl.1 rfl (Nat.le_of_ble_eq_true rfl) dX13_comesToItself_2 ⟨Nat.zero_le _, Nat.zero_le _⟩ hK hP hD hS hA (fun r_12 u_13 H locs hw hP hD hS => ?_)
  obtain ⟨hr_12, fP_r_12, rfl⟩ := hw
  have hP : va_P (dC, dI) vwCl (mW h0 ad cid sg gm lg) H := hP
  have hD : va_D A (mW h0 ad cid sg gm lg) := hD
  refine lv_istore_n (lv' := [(2, .int r_12), (0, .ref h0), (1, .int b)]) hx hb dX13_comesToItself_5 rfl hl (by decide) rfl (fun ls hl => ?_)
  refine lv_iconst (v := 0) hx hb dX13_comesToItself_6 (by decide) ?_
  refine lv_istore_n (lv' := [(3, .int 0), (2, .int r_12), (0, .ref h0), (1, .int b)]) hx hb dX13_comesToItself_7 rfl hl (by decide) rfl (fun ls hl => ?_)
  exact hj8 _ 0 r_12 rfl (iv_w (iv_k (by decide) : iv 0 0 0) (by decide)) hr_12 hvb (by show _ = itF _ 1 _; rw [itF_1 (fun q9 => absurd hvb.1 (by rw [q9]; decide))]; exact fP_r_12) (fun k9 h8 h9 => by have : (0 : Int32).toNatClampNeg = 0 := rfl; omega) _ _ _ hP hD hS (lv_sub hl [0, 1, 2, 3] rfl)
