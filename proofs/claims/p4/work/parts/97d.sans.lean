/-- a block of letters without setters, all else as it was -/
def BLK (g0 g : Nat → Int32) (X n : Nat) : Prop := (∀ k, k < n → g (26 * X + k) = -1) ∧ ∀ j, (j < 26 * X ∨ 26 * X + 26 ≤ j) → g j = g0 j
theorem BLK_0 {g0 g : Nat → Int32} {X n : Nat} (e : g = g0) (hn : n = 0) : BLK g0 g X n := by
  subst e hn
  exact ⟨fun k hk => absurd hk (Nat.not_lt_zero k), fun _ _ => rfl⟩
theorem BLK_s {g0 g g2 : Nat → Int32} {X i n : Nat} (h : BLK g0 g X i) (e : g2 = upd g (26 * X + i) (-1)) (hi : i < 26) (hn : n = i + 1) : BLK g0 g2 X n := by
  subst e hn
  refine ⟨fun k hk => ?_, fun j hj => ?_⟩
  · by_cases e9 : k = i
    · rw [e9, upd_at]
    · rw [upd_ne (by omega)]; exact h.1 k (by omega)
  · rw [upd_ne (by omega)]; exact h.2 j hj
def DECB (P : Prop) (r : Int32) (c : Nat) (g g2 : Nat → Int32) : Prop := (r.toInt = 1 ∧ P ∧ BLK g g2 c 26) ∨ (r.toInt = 0 ∧ ¬ P ∧ g2 = g)
/-- a setter more, or an answer no -/
def ADDS (P : Prop) (r : Int32) (c n : Nat) (g3 g32 g55 g552 : Nat → Int32) : Prop := (r.toInt = 1 ∧ P ∧ (g3 c).toInt < 8 ∧ g55 (26 * c + n) = -1 ∧ (∃ z : Int32, z.toInt = (g3 c).toInt + 1 ∧ g32 = upd g3 c z) ∧ ∃ k : Int32, 0 ≤ k.toInt ∧ g552 = upd g55 (26 * c + n) k) ∨ (r.toInt = 0 ∧ (¬ P ∨ 8 ≤ (g3 c).toInt ∨ ¬ g55 (26 * c + n) = -1) ∧ g32 = g3 ∧ g552 = g55)
theorem ADDS_0 {r : Int32} {c n : Nat} {g3 g32 g55 g552 : Nat → Int32} (h : ADDS True r c n g3 g32 g55 g552) (h0 : r.toInt = 0) : (8 ≤ (g3 c).toInt ∨ ¬ g55 (26 * c + n) = -1) ∧ g32 = g3 ∧ g552 = g55 := by
  rcases h with h | h
  · have := h.1; omega
  · exact ⟨h.2.1.resolve_left (fun q => q trivial), h.2.2⟩
theorem ADDS_1 {P : Prop} {r r2 : Int32} {c n : Nat} {g3 g32 g55 g552 : Nat → Int32} (h : ADDS True r c n g3 g32 g55 g552) (h0 : r.toInt = 1) (hP : P) (h2 : r2.toInt = 1) : ADDS P r2 c n g3 g32 g55 g552 := by
  rcases h with h | h
  · exact Or.inl ⟨h2, hP, h.2.2⟩
  · have := h.1; omega

set_option maxHeartbeats 4000000 in
set_option maxRecDepth 100000 in
theorem d_addSetter2 (l : Launch) (dC : Nat → ClassId) (dI : Nat → Nat → Nat) (ad : Nat → Nat → Nat) (cid : Nat → ClassId) (a2 : Nat → Nat) (lx : List Nat) (sg : Nat → Int32) (gm : Nat → Nat → Int32) (lg : Nat → Nat → Int64) (x : Int32) (nm : Int32) (k : Int32) (hI : CI sg gm) (hvx : iv 0 7 x) (hvnm : iv 0 25 nm) (hvk : iv 0 15 k) : CMt dC dI ad cid a2 lx l yX2_addSetter wm_X2_addSetter ({ frames := 0, cells := 1, slots := 6, locals := 0 }) [eV (ad 7) x, .int nm, .int k] sg gm lg (fun v u => ∃ r : Int32, v = some (.int r) ∧ ∃ (sg2 : Nat → Int32) (gm2 : Nat → Nat → Int32) (lg2 : Nat → Nat → Int64), u = (sg2, gm2, lg2) ∧ CI sg2 gm2 ∧ KS [] sg sg2 ∧ KS [3, 55] gm gm2 ∧ KS [] lg lg2 ∧ (iv 0 1 r) ∧ (ADDS True r x.toNatClampNeg nm.toNatClampNeg (gm 3) (gm2 3) (gm 55) (gm2 55))) (fun _ _ => False) := by
  intro sz
  refine vx_ofW (cc := cX2_addSetter) (maxL := 3) (ret := (some .boolean)) (by decide) rfl ?_
  intro p e s m args below meth c s₁ B hml hxt hv
  obtain ⟨rfl, hsz, hP, hK, hD0, hG⟩ := hv
  have hx := B.exec
  have hb := B.bytes
  have hr := B.returns
  have hts := atoms_spec (ws := wm_X2_addSetter) B.pre
  have htb := fun (w : Cond) (h : w ∈ tb) => hts w (List.mem_cons_of_mem _ h)
  have hown : s.vm.findClass RX2 = some m.cls := findClass_of_methodNamed B.named
  have hlocks := B.notSynchronized
  subst hsz
  have hD := hD0.self (sz := s.heap.size)
  generalize hAe : va_A (cW ad cid a2 lx sg gm lg) s.heap.size = A at hD hG ⊢
  have hA : ∀ q : Nat, s.heap.size ≤ q → A q := fun q h => by rw [← hAe]; exact Or.inr h
  have hS : va_S A s.heap s.heap [] := va_S.rf
  have hl := lv_entry ([eV (ad 7) x, .int nm, .int k]) (n := 3) (by rw [show (lg_sl ([eV (ad 7) x, .int nm, .int k])).length = 3 from by simp [lg_sl, eV_cat, cat_i, cat_l]]; exact Nat.le_of_ble_eq_true rfl)
  rw [lg_entry_eq]
  generalize (lg_sl ([eV (ad 7) x, .int nm, .int k]) ++ List.replicate (3 - (lg_sl ([eV (ad 7) x, .int nm, .int k])).length) Slot.unset).toArray = ls at hl ⊢
  have hl : lv_has ls 3 [(0, eV (ad 7) x), (1, .int nm), (2, .int k)] := by simp [lv_args, eV_cat, cat_i, cat_l] at hl; exact hl
  have hj19 : ∀ (_ : iv 0 7 x) (_ : iv 0 25 nm) (_ : iv 0 15 k) (_ : 8 ≤ (gm 3 x.toNatClampNeg).toInt ∨ ¬ gm 55 (26 * x.toNatClampNeg + nm.toNatClampNeg) = -1) (H : Heap) (locs : List Loc) (ls : Array Slot), va_P (dC, dI) vwCl (cW ad cid a2 lx sg gm lg) H → va_D A (cW ad cid a2 lx sg gm lg) → va_S A s.heap H locs → lv_has ls 3 [(0, eV (ad 7) x), (1, .int nm), (2, .int k)] → W p l e (headSpec wm_X2_addSetter ({ frames := 0, cells := 1, slots := 6, locals := 0 })).room s m ([eV (ad 7) x, .int nm, .int k] : List Value).toArray below meth c H locs 0 0 (vx_MQ below (cQx dC dI ad cid a2 lx (fun v u => ∃ r : Int32, v = some (.int r) ∧ ∃ (sg2 : Nat → Int32) (gm2 : Nat → Nat → Int32) (lg2 : Nat → Nat → Int64), u = (sg2, gm2, lg2) ∧ CI sg2 gm2 ∧ KS [] sg sg2 ∧ KS [3, 55] gm gm2 ∧ KS [] lg lg2 ∧ (iv 0 1 r) ∧ (ADDS True r x.toNatClampNeg nm.toNatClampNeg (gm 3) (gm2 3) (gm 55) (gm2 55))) A) (cX dC dI ad cid a2 lx (fun _ _ => False) A) ([eV (ad 7) x, .int nm, .int k] : List Value).toArray s 1 6 A) (F0 m 19 ls []) := by
    intro  hsx0_19 hsx1_19 hsx2_19 hno H locs ls hP hD hS hl
    refine lv_iconst (v := 0) hx hb dX2_addSetter_19 (by decide) ?_
    exact W.nb (fun hN => W.widen (k := 1) (n := 6) (by decide) (by decide) (vx_ret (W.zret (v := 0) hx hb hr (iv_nb (iv_w (iv_k (by decide) : iv 0 0 0) (by decide))) (fun t ht hW => ⟨⟨some (.int 0), (sg, gm, lg), rfl, ⟨0, rfl, sg, gm, lg, rfl, hI, KS_rf, KS_rf, KS_rf, (iv_w (iv_k (by decide) : iv 0 0 0) (by decide)), (Or.inr ⟨rfl, Or.inr hno, (show gm 3 = gm 3 from rfl), (show gm 55 = gm 55 from rfl)⟩)⟩, by rw [ht]; exact hP, va_K.moved hW.alike hK, hD⟩, hS.F ht, by rw [ht]; exact hN⟩) hS.2.2 dX2_addSetter_20)))
  refine ec_aload_n hx hb dX2_addSetter_0 rfl (lv_at hl 0 rfl) ?_
  refine cr_get (t := 7) (j := 6) (C := RX2) (T := TX2) (N := 8) (v := .int (gm 3 x.toNatClampNeg)) hx hb htb inX2 hown hK hP hvx (by decide) (by decide) (by decide) rfl (by decide) (htb _ kw_235) rfl dX2_addSetter_1 ?_
  obtain ⟨z_1, ez_1⟩ : ∃ z : Int32, z = (gm 3 x.toNatClampNeg) := ⟨_, rfl⟩
  refine W.eq (g2 := F0 m 4 ls [.int z_1]) (by rw [ez_1]) ?_
  have hz_1 : iv 0 8 z_1 := iv_of ez_1 (CI_a hI 3 hvx (by decide))
  refine lv_bipush (v := 8) hx hb dX2_addSetter_4 (by decide) ?_
  refine lv_icmp_ge (tgt := 19) hx hb dX2_addSetter_6 (by decide) (fun c_2 => ?_) (fun c_2 => ?_)
  · have h_3 : iv 8 8 z_1 := iv_leR c_2 (iv_k (by decide) : iv 8 8 8) hz_1 (by decide)
    exact hj19 hvx hvnm hvk (Or.inl (by { rw [← ez_1]; have := i32_0; have := i32_1; have := i32_2; have := i32_m1; have := (hvx).1; have := (hvx).2; have := (hvnm).1; have := (hvnm).2; have := (hvk).1; have := (hvk).2; have := (h_3).1; have := (h_3).2; omega })) _ _ _ hP hD hS (lv_sub hl [0, 1, 2] rfl)
  · have h_4 : iv 0 7 z_1 := iv_ltL (i32_lt c_2) hz_1 (iv_k (by decide) : iv 8 8 8) (by decide)
    refine ec_aload_n hx hb dX2_addSetter_9 rfl (lv_at hl 0 rfl) ?_
    refine cr_get (t := 7) (j := 5) (C := RX2) (T := TX2) (N := 8) (v := eV (ad 30) x) hx hb htb inX2 hown hK hP hvx (by decide) (by decide) (by decide) rfl (by decide) (htb _ kw_53) (cV_c rfl (hvx).1 (by rw [show cMu 7 5 = 1 from rfl, Nat.one_mul]; rfl)) dX2_addSetter_10 ?_
    refine lv_iload_n hx hb dX2_addSetter_13 rfl (lv_at hl 1 rfl) ?_
    refine cr_iald (t := 30) (z := (gm 55 (26 * x.toNatClampNeg + (nm : Int32).toNatClampNeg))) hx hb hK hP hvx (by decide) (by decide) (by decide) rfl rfl (show vp_in nm (cLen 30) from (show vp_in nm 26 from (iv_in hvnm (by decide)))) (cAi_w rfl (by decide) rfl (vin_lt (show vp_in nm (cLen 30) from (show vp_in nm 26 from (iv_in hvnm (by decide)))))) dX2_addSetter_14 ?_
    obtain ⟨z_5, ez_5⟩ : ∃ z : Int32, z = (gm 55 (26 * x.toNatClampNeg + (nm : Int32).toNatClampNeg)) := ⟨_, rfl⟩
    refine W.eq (g2 := F0 m 15 ls [.int z_5]) (by rw [ez_5]) ?_
    have hz_5 : iv (-1) 15 z_5 := iv_of ez_5 (CI_n hI 55 (show _ < crLen 55 from vin_w (show vp_in nm (cLen 30) from (show vp_in nm 26 from (iv_in hvnm (by decide)))) (hvx) (by decide)))
    refine lv_iconst (v := (-1)) hx hb dX2_addSetter_15 (by decide) ?_
    refine lv_icmp_eq (tgt := 21) hx hb dX2_addSetter_16 (by decide) (fun c_6 => ?_) (fun c_6 => ?_)
    · have h_7 : iv (-1) (-1) z_5 := iv_eq c_6 hz_5 (iv_k (by decide) : iv (-1) (-1) (-1)) (by decide)
      refine ec_aload_n hx hb dX2_addSetter_21 rfl (lv_at hl 0 rfl) ?_
      refine cr_get (t := 7) (j := 5) (C := RX2) (T := TX2) (N := 8) (v := eV (ad 30) x) hx hb htb inX2 hown hK hP hvx (by decide) (by decide) (by decide) rfl (by decide) (htb _ kw_53) (cV_c rfl (hvx).1 (by rw [show cMu 7 5 = 1 from rfl, Nat.one_mul]; rfl)) dX2_addSetter_22 ?_
      refine lv_iload_n hx hb dX2_addSetter_25 rfl (lv_at hl 1 rfl) ?_
      refine lv_iload_n hx hb dX2_addSetter_26 rfl (lv_at hl 2 rfl) ?_
      refine cr_iast (t := 30) (k := 55) (n9 := (26 * x.toNatClampNeg + (nm : Int32).toNatClampNeg)) (z := k) hx hb hK hP hD hS hvx (by decide) (by decide) (by decide) rfl rfl rfl (show vp_in nm (cLen 30) from (show vp_in nm 26 from (iv_in hvnm (by decide)))) (Or.inr (vin_lt (show vp_in nm (cLen 30) from (show vp_in nm 26 from (iv_in hvnm (by decide)))))) rfl dX2_addSetter_27 (fun gm_8 H locs egm_8 hP hD hS => ?_)
      have hI_gm_8 := CI_st hI egm_8 hvk (by decide)
      refine ec_aload_n hx hb dX2_addSetter_28 rfl (lv_at hl 0 rfl) ?_
      refine lv_dup hx hb dX2_addSetter_29 (eV_cat _ _) ?_
      refine cr_get (t := 7) (j := 6) (C := RX2) (T := TX2) (N := 8) (v := .int (gm_8 3 x.toNatClampNeg)) hx hb htb inX2 hown hK hP hvx (by decide) (by decide) (by decide) rfl (by decide) (htb _ kw_235) rfl dX2_addSetter_30 ?_
      refine W.eq (g2 := F0 m 33 ls [.int z_1, eV (ad 7) x]) (by rw [show (gm_8 3 x.toNatClampNeg) = z_1 from (Eq.trans (congrFun (up_ne egm_8 (by decide)) _) ez_1.symm)]) ?_
      refine lv_iconst (v := 1) hx hb dX2_addSetter_33 (by decide) ?_
      refine lv_iadd hx hb dX2_addSetter_34 ?_
      refine lv_topi (fun z_9 ez_9 => ?_)
      have hz_9 : iv 1 8 z_9 := iv_of ez_9 (iv_add h_4 (iv_k (by decide) : iv 1 1 1) (by decide))
      have tz_9 : z_9.toInt = (z_1 : Int32).toInt + 1 := by rw [ez_9]; exact iv_addE h_4 (iv_k (by decide) : iv 1 1 1) (by decide)
      refine cr_putg (t := 7) (j := 6) (C := RX2) (T := TX2) (N := 8) (ty0 := tyX2) (k := 3) (y := z_9) hx hb htb inX2 tyX2_ok nmX2 hown hK hP hD hS hvx (by decide) (by decide) (by decide) (by decide) rfl rfl (by decide) (htb _ kw_235) rfl (by show Value.int z_9 = Value.int (va_up gm_8 3 (upd (gm_8 3) x.toNatClampNeg z_9) 3 x.toNatClampNeg); rw [va_up_self, upd_at]) rfl rfl dX2_addSetter_35 (fun gm_10 H locs egm_10 hP hD hS => ?_)
      have hI_gm_10 := CI_st hI_gm_8 egm_10 hz_9 (by decide)
      refine lv_iconst (v := 1) hx hb dX2_addSetter_38 (by decide) ?_
      exact W.nb (fun hN => W.widen (k := 1) (n := 6) (by decide) (by decide) (vx_ret (W.zret (v := 1) hx hb hr (iv_nb (iv_w (iv_k (by decide) : iv 1 1 1) (by decide))) (fun t ht hW => ⟨⟨some (.int 1), (sg, gm_10, lg), rfl, ⟨1, rfl, sg, gm_10, lg, rfl, hI_gm_10, KS_rf, (KS_up (KS_up KS_rf egm_8 (by decide)) egm_10 (by decide)), KS_rf, (iv_w (iv_k (by decide) : iv 1 1 1) (by decide)), (Or.inl ⟨rfl, trivial, (by { rw [← ez_1]; have := i32_0; have := i32_1; have := i32_2; have := i32_m1; have := (hvx).1; have := (hvx).2; have := (hvnm).1; have := (hvnm).2; have := (hvk).1; have := (hvk).2; have := (h_4).1; have := (h_4).2; have := (h_7).1; have := (h_7).2; have := (hz_9).1; have := (hz_9).2; omega }), (by rw [← ez_5]; exact c_6), ⟨_, (by { rw [← ez_1]; have := i32_0; have := i32_1; have := i32_2; have := i32_m1; have := (hvx).1; have := (hvx).2; have := (hvnm).1; have := (hvnm).2; have := (hvk).1; have := (hvk).2; have := (h_4).1; have := (h_4).2; have := (h_7).1; have := (h_7).2; have := (hz_9).1; have := (hz_9).2; omega }), (show gm_10 3 = upd (gm 3) (x : Int32).toNatClampNeg z_9 from ((up_at egm_10).trans (by rw [show gm_8 3 = gm 3 from ((up_ne egm_8 (by decide)).trans rfl)])))⟩, ⟨_, (hvk).1, (show gm_10 55 = upd (gm 55) (26 * x.toNatClampNeg + nm.toNatClampNeg) k from (up_ne egm_10 (by decide)).trans (up_at egm_8))⟩⟩)⟩, by rw [ht]; exact hP, va_K.moved hW.alike hK, hD⟩, hS.F ht, by rw [ht]; exact hN⟩) hS.2.2 dX2_addSetter_39)))
    · have h_11 : iv 0 15 z_5 := iv_neL c_6 hz_5 (by decide)
      exact hj19 hvx hvnm hvk (Or.inr (by rw [← ez_5]; exact c_6)) _ _ _ hP hD hS (lv_sub hl [0, 1, 2] rfl)

set_option maxHeartbeats 4000000 in
set_option maxRecDepth 100000 in
theorem d_beginDc3 (l : Launch) (dC : Nat → ClassId) (dI : Nat → Nat → Nat) (ad : Nat → Nat → Nat) (cid : Nat → ClassId) (a2 : Nat → Nat) (lx : List Nat) (sg : Nat → Int32) (gm : Nat → Nat → Int32) (lg : Nat → Nat → Int64) (x : Int32) (a : Int32) (hI : CI sg gm) (hvx : iv 0 7 x) (hva : iv (-1) 7 a) : CMt dC dI ad cid a2 lx l yX2_begin wm_X2_begin ({ frames := 0, cells := 1, slots := 6, locals := 0 }) [eV (ad 7) x, eV (ad 7) a] sg gm lg (fun v u => v = none ∧ ∃ (sg2 : Nat → Int32) (gm2 : Nat → Nat → Int32) (lg2 : Nat → Nat → Int64), u = (sg2, gm2, lg2) ∧ CI sg2 gm2 ∧ KS [] sg sg2 ∧ KS [0, 1, 3, 4, 55] gm gm2 ∧ KS [] lg lg2 ∧ (gm2 0 = upd (gm 0) x.toNatClampNeg 0) ∧ (gm2 1 = upd (gm 1) x.toNatClampNeg 0) ∧ (gm2 3 = upd (gm 3) x.toNatClampNeg 0) ∧ (BLK (gm 55) (gm2 55) x.toNatClampNeg 26)) (fun _ _ => False) := by
  intro sz
  refine vx_ofW (cc := cX2_begin) (maxL := 3) (ret := none) (by decide) rfl ?_
  intro p e s m args below meth c s₁ B hml hxt hv
  obtain ⟨rfl, hsz, hP, hK, hD0, hG⟩ := hv
  have hx := B.exec
  have hb := B.bytes
  have hr := B.returns
  have hts := atoms_spec (ws := wm_X2_begin) B.pre
  have htb := fun (w : Cond) (h : w ∈ tb) => hts w (List.mem_cons_of_mem _ h)
  have hown : s.vm.findClass RX2 = some m.cls := findClass_of_methodNamed B.named
  have hlocks := B.notSynchronized
  subst hsz
  have hD := hD0.self (sz := s.heap.size)
  generalize hAe : va_A (cW ad cid a2 lx sg gm lg) s.heap.size = A at hD hG ⊢
  have hA : ∀ q : Nat, s.heap.size ≤ q → A q := fun q h => by rw [← hAe]; exact Or.inr h
  have hS : va_S A s.heap s.heap [] := va_S.rf
  have hl := lv_entry ([eV (ad 7) x, eV (ad 7) a]) (n := 3) (by rw [show (lg_sl ([eV (ad 7) x, eV (ad 7) a])).length = 2 from by simp [lg_sl, eV_cat, cat_i, cat_l]]; exact Nat.le_of_ble_eq_true rfl)
  rw [lg_entry_eq]
  generalize (lg_sl ([eV (ad 7) x, eV (ad 7) a]) ++ List.replicate (3 - (lg_sl ([eV (ad 7) x, eV (ad 7) a])).length) Slot.unset).toArray = ls at hl ⊢
  have hl : lv_has ls 3 [(0, eV (ad 7) x), (1, eV (ad 7) a)] := by simp [lv_args, eV_cat, cat_i, cat_l] at hl; exact hl
  have hj22 : ∀ (n : Nat) (gm_j22 : Nat → Nat → Int32) (x2_22 : Int32) (_ : (26 - x2_22.toInt).toNat = n) (_ : iv 0 26 x2_22) (_ : iv 0 7 x) (_ : iv (-1) 7 a) (_ : KS [0, 1, 3, 4, 55] gm gm_j22) (_ : CI sg gm_j22) (_ : gm_j22 0 = upd (gm 0) x.toNatClampNeg 0) (_ : gm_j22 1 = upd (gm 1) x.toNatClampNeg 0) (_ : gm_j22 3 = upd (gm 3) x.toNatClampNeg 0) (_ : BLK (gm 55) (gm_j22 55) x.toNatClampNeg x2_22.toNatClampNeg) (H : Heap) (locs : List Loc) (ls : Array Slot), va_P (dC, dI) vwCl (cW ad cid a2 lx sg gm_j22 lg) H → va_D A (cW ad cid a2 lx sg gm_j22 lg) → va_S A s.heap H locs → lv_has ls 3 [(2, .int x2_22), (0, eV (ad 7) x), (1, eV (ad 7) a)] → W p l e (headSpec wm_X2_begin ({ frames := 0, cells := 1, slots := 6, locals := 0 })).room s m ([eV (ad 7) x, eV (ad 7) a] : List Value).toArray below meth c H locs 0 0 (vx_MQ below (cQx dC dI ad cid a2 lx (fun v u => v = none ∧ ∃ (sg2 : Nat → Int32) (gm2 : Nat → Nat → Int32) (lg2 : Nat → Nat → Int64), u = (sg2, gm2, lg2) ∧ CI sg2 gm2 ∧ KS [] sg sg2 ∧ KS [0, 1, 3, 4, 55] gm gm2 ∧ KS [] lg lg2 ∧ (gm2 0 = upd (gm 0) x.toNatClampNeg 0) ∧ (gm2 1 = upd (gm 1) x.toNatClampNeg 0) ∧ (gm2 3 = upd (gm 3) x.toNatClampNeg 0) ∧ (BLK (gm 55) (gm2 55) x.toNatClampNeg 26)) A) (cX dC dI ad cid a2 lx (fun _ _ => False) A) ([eV (ad 7) x, eV (ad 7) a] : List Value).toArray s 1 6 A) (F0 m 22 ls []) := by
    intro n
    induction n using Nat.strongRecOn with
    | ind n ih22 =>
      intro gm_j22 x2_22 hn22 hx2_22 hsx0_22 hsx1_22 hkg_j22 hI_j22 h0 h1 h3 hB H locs ls hP hD hS hl
      refine lv_iload_n hx hb dX2_begin_22 rfl (lv_at hl 0 rfl) ?_
      refine lv_bipush (v := 26) hx hb dX2_begin_23 (by decide) ?_
      refine lv_icmp_ge (tgt := 41) hx hb dX2_begin_25 (by decide) (fun c_1 => ?_) (fun c_1 => ?_)
      · have h_2 : iv 26 26 x2_22 := iv_leR c_1 (iv_k (by decide) : iv 26 26 26) hx2_22 (by decide)
        exact W.nb (fun hN => W.widen (k := 1) (n := 6) (by decide) (by decide) (vx_ret (W.vret hx hb hr (fun t ht hW => ⟨⟨none, (sg, gm_j22, lg), rfl, ⟨rfl, sg, gm_j22, lg, rfl, hI_j22, KS_rf, (KS_tr (L := [0, 1, 3, 4, 55]) KS_rf hkg_j22 (by decide)), KS_rf, ((show gm_j22 0 = gm_j22 0 from rfl).trans h0), ((show gm_j22 1 = gm_j22 1 from rfl).trans h1), ((show gm_j22 3 = gm_j22 3 from rfl).trans h3), ((by { have k1 : x2_22.toNatClampNeg = x2_22.toInt.toNat := rfl; have e9 : x2_22.toNatClampNeg = 26 := (by { have := i32_0; have := i32_1; have := i32_2; have := i32_m1; have := (hsx0_22).1; have := (hsx0_22).2; have := (hsx1_22).1; have := (hsx1_22).2; have := (h_2).1; have := (h_2).2; omega }); rw [← e9]; exact hB }))⟩, by rw [ht]; exact hP, va_K.moved hW.alike hK, hD⟩, hS.F ht, by rw [ht]; exact hN⟩) hS.2.2 dX2_begin_41)))
      · have h_3 : iv 0 25 x2_22 := iv_ltL (i32_lt c_1) hx2_22 (iv_k (by decide) : iv 26 26 26) (by decide)
        refine ec_aload_n hx hb dX2_begin_28 rfl (lv_at hl 1 rfl) ?_
        refine cr_get (t := 7) (j := 5) (C := RX2) (T := TX2) (N := 8) (v := eV (ad 30) x) hx hb htb inX2 hown hK hP hsx0_22 (by decide) (by decide) (by decide) rfl (by decide) (htb _ kw_53) (cV_c rfl (hsx0_22).1 (by rw [show cMu 7 5 = 1 from rfl, Nat.one_mul]; rfl)) dX2_begin_29 ?_
        refine lv_iload_n hx hb dX2_begin_32 rfl (lv_at hl 0 rfl) ?_
        refine lv_iconst (v := (-1)) hx hb dX2_begin_33 (by decide) ?_
        refine cr_iast (t := 30) (k := 55) (n9 := (26 * x.toNatClampNeg + (x2_22 : Int32).toNatClampNeg)) (z := (-1)) hx hb hK hP hD hS hsx0_22 (by decide) (by decide) (by decide) rfl rfl rfl (show vp_in x2_22 (cLen 30) from (show vp_in x2_22 26 from (iv_in h_3 (by decide)))) (Or.inr (vin_lt (show vp_in x2_22 (cLen 30) from (show vp_in x2_22 26 from (iv_in h_3 (by decide)))))) rfl dX2_begin_34 (fun gm_4 H locs egm_4 hP hD hS => ?_)
        have hI_gm_4 := CI_st hI_j22 egm_4 (iv_k (by decide) : iv (-1) (-1) (-1)) (by decide)
        obtain ⟨z_5, ez_5⟩ : ∃ z : Int32, z = x2_22 + 1 := ⟨_, rfl⟩
        have hz_5 : iv 1 26 z_5 := iv_of ez_5 (iv_add h_3 (iv_k (by decide) : iv 1 1 1) (by decide))
        have tz_5 : z_5.toInt = x2_22.toInt + 1 := by rw [ez_5]; exact iv_addE h_3 (iv_k (by decide) : iv 1 1 1) (by decide)
        refine lv_iinc (v := z_5) (lv' := [(2, .int z_5), (0, eV (ad 7) x), (1, eV (ad 7) a)]) hx hb dX2_begin_35 hl (k := 0) rfl ez_5.symm (by decide) (by simp [List.filter, eV_cat, cat_i, cat_l]) (fun ls hl => ?_)
        refine lv_goto (tgt := 22) hx hb dX2_begin_38 (by decide) ?_
        exact ih22 _ (by rw [← hn22]; exact (iv_meas tz_5 h_3 (by decide))) gm_4 z_5 rfl (iv_w hz_5 (by decide)) hsx0_22 hsx1_22 (KS_up (KS_tr (L := [0, 1, 3, 4, 55]) KS_rf hkg_j22 (by decide)) egm_4 (by decide)) hI_gm_4 ((show gm_4 0 = gm_j22 0 from ((up_ne egm_4 (by decide)).trans rfl)).trans h0) ((show gm_4 1 = gm_j22 1 from ((up_ne egm_4 (by decide)).trans rfl)).trans h1) ((show gm_4 3 = gm_j22 3 from ((up_ne egm_4 (by decide)).trans rfl)).trans h3) (BLK_s hB (up_at egm_4) (by { have k1 : x2_22.toNatClampNeg = x2_22.toInt.toNat := rfl; have := i32_0; have := i32_1; have := i32_2; have := i32_m1; have := (hsx0_22).1; have := (hsx0_22).2; have := (hsx1_22).1; have := (hsx1_22).2; have := (h_3).1; have := (h_3).2; have := (hz_5).1; have := (hz_5).2; omega }) (by { have k1 : x2_22.toNatClampNeg = x2_22.toInt.toNat := rfl; have k2 : z_5.toNatClampNeg = z_5.toInt.toNat := rfl; have := i32_0; have := i32_1; have := i32_2; have := i32_m1; have := (hsx0_22).1; have := (hsx0_22).2; have := (hsx1_22).1; have := (hsx1_22).2; have := (h_3).1; have := (h_3).2; have := (hz_5).1; have := (hz_5).2; omega })) _ _ _ hP hD hS (lv_sub hl [0, 1, 2] rfl)
  refine ec_aload_n hx hb dX2_begin_0 rfl (lv_at hl 0 rfl) ?_
  refine ec_aload_n hx hb dX2_begin_1 rfl (lv_at hl 1 rfl) ?_
  refine cr_putg (t := 7) (j := 7) (C := RX2) (T := TX2) (N := 8) (ty0 := tyX2) (k := 4) (y := a) hx hb htb inX2 tyX2_ok nmX2 hown hK hP hD hS hvx (by decide) (by decide) (by decide) (by decide) rfl rfl (by decide) (htb _ kw_232) rfl (by show eV (ad 7) a = eV (ad 7) (va_up gm 4 (upd (gm 4) x.toNatClampNeg a) 4 x.toNatClampNeg); rw [va_up_self, upd_at]) (ev_n _) (ev_f _) dX2_begin_2 (fun gm_6 H locs egm_6 hP hD hS => ?_)
  have hI_gm_6 := CI_st hI egm_6 hva (by decide)
  refine ec_aload_n hx hb dX2_begin_5 rfl (lv_at hl 0 rfl) ?_
  refine lv_iconst (v := 0) hx hb dX2_begin_6 (by decide) ?_
  refine cr_putg (t := 7) (j := 2) (C := RX2) (T := TX2) (N := 8) (ty0 := tyX2) (k := 0) (y := 0) hx hb htb inX2 tyX2_ok nmX2 hown hK hP hD hS hvx (by decide) (by decide) (by decide) (by decide) rfl rfl (by decide) (htb _ kw_233) rfl (by show Value.int 0 = Value.int (va_up gm_6 0 (upd (gm_6 0) x.toNatClampNeg 0) 0 x.toNatClampNeg); rw [va_up_self, upd_at]) rfl rfl dX2_begin_7 (fun gm_7 H locs egm_7 hP hD hS => ?_)
  have hI_gm_7 := CI_st hI_gm_6 egm_7 (iv_k (by decide) : iv 0 0 0) (by decide)
  refine ec_aload_n hx hb dX2_begin_10 rfl (lv_at hl 0 rfl) ?_
  refine lv_iconst (v := 0) hx hb dX2_begin_11 (by decide) ?_
  refine cr_putg (t := 7) (j := 3) (C := RX2) (T := TX2) (N := 8) (ty0 := tyX2) (k := 1) (y := 0) hx hb htb inX2 tyX2_ok nmX2 hown hK hP hD hS hvx (by decide) (by decide) (by decide) (by decide) rfl rfl (by decide) (htb _ kw_234) rfl (by show Value.int 0 = Value.int (va_up gm_7 1 (upd (gm_7 1) x.toNatClampNeg 0) 1 x.toNatClampNeg); rw [va_up_self, upd_at]) rfl rfl dX2_begin_12 (fun gm_8 H locs egm_8 hP hD hS => ?_)
  have hI_gm_8 := CI_st hI_gm_7 egm_8 (iv_k (by decide) : iv 0 0 0) (by decide)
  refine ec_aload_n hx hb dX2_begin_15 rfl (lv_at hl 0 rfl) ?_
  refine lv_iconst (v := 0) hx hb dX2_begin_16 (by decide) ?_
  refine cr_putg (t := 7) (j := 6) (C := RX2) (T := TX2) (N := 8) (ty0 := tyX2) (k := 3) (y := 0) hx hb htb inX2 tyX2_ok nmX2 hown hK hP hD hS hvx (by decide) (by decide) (by decide) (by decide) rfl rfl (by decide) (htb _ kw_235) rfl (by show Value.int 0 = Value.int (va_up gm_8 3 (upd (gm_8 3) x.toNatClampNeg 0) 3 x.toNatClampNeg); rw [va_up_self, upd_at]) rfl rfl dX2_begin_17 (fun gm_9 H locs egm_9 hP hD hS => ?_)
  have hI_gm_9 := CI_st hI_gm_8 egm_9 (iv_k (by decide) : iv 0 0 0) (by decide)
  refine lv_iconst (v := 0) hx hb dX2_begin_20 (by decide) ?_
  refine lv_istore_n (i := 2) (lv' := [(2, .int 0), (0, eV (ad 7) x), (1, eV (ad 7) a)]) hx hb dX2_begin_21 rfl hl (by decide) (by simp [List.filter, eV_cat, cat_i, cat_l]) (fun ls hl => ?_)
  exact hj22 _ gm_9 0 rfl (iv_w (iv_k (by decide) : iv 0 0 0) (by decide)) hvx hva (KS_up (KS_up (KS_up (KS_up KS_rf egm_6 (by decide)) egm_7 (by decide)) egm_8 (by decide)) egm_9 (by decide)) hI_gm_9 ((show gm_9 0 = upd (gm 0) (x : Int32).toNatClampNeg 0 from ((up_ne egm_9 (by decide)).trans ((up_ne egm_8 (by decide)).trans ((up_at egm_7).trans (by rw [show gm_6 0 = gm 0 from ((up_ne egm_6 (by decide)).trans rfl)])))))) ((show gm_9 1 = upd (gm 1) (x : Int32).toNatClampNeg 0 from ((up_ne egm_9 (by decide)).trans ((up_at egm_8).trans (by rw [show gm_7 1 = gm 1 from ((up_ne egm_7 (by decide)).trans ((up_ne egm_6 (by decide)).trans rfl))]))))) ((show gm_9 3 = upd (gm 3) (x : Int32).toNatClampNeg 0 from ((up_at egm_9).trans (by rw [show gm_8 3 = gm 3 from ((up_ne egm_8 (by decide)).trans ((up_ne egm_7 (by decide)).trans ((up_ne egm_6 (by decide)).trans rfl)))])))) (BLK_0 (show gm_9 55 = gm 55 from ((up_ne egm_9 (by decide)).trans ((up_ne egm_8 (by decide)).trans ((up_ne egm_7 (by decide)).trans ((up_ne egm_6 (by decide)).trans rfl))))) (by decide)) _ _ _ hP hD hS (lv_sub hl [0, 1, 2] rfl)

set_option maxHeartbeats 4000000 in
set_option maxRecDepth 100000 in
theorem d_declare4 (l : Launch) (dC : Nat → ClassId) (dI : Nat → Nat → Nat) (ad : Nat → Nat → Nat) (cid : Nat → ClassId) (a2 : Nat → Nat) (lx : List Nat) (sg : Nat → Int32) (gm : Nat → Nat → Int32) (lg : Nat → Nat → Int64) (x : Int32) (ca : Int32) (pa : Int32) (hI : CI sg gm) (hvx : iv 0 0 x) : CMt dC dI ad cid a2 lx l yX12_declare wm_X12_declare ({ frames := 1, cells := 1, slots := 6, locals := 22 }) [eV (ad 0) x, .int ca, .int pa] sg gm lg (fun v u => ∃ r : Int32, v = some (.int r) ∧ ∃ (sg2 : Nat → Int32) (gm2 : Nat → Nat → Int32) (lg2 : Nat → Nat → Int64), u = (sg2, gm2, lg2) ∧ CI sg2 gm2 ∧ KS [] sg sg2 ∧ KS [0, 1, 3, 4, 55] gm gm2 ∧ KS [] lg lg2 ∧ (iv 0 1 r) ∧ (r.toInt = 1 ∧ (0 ≤ ca.toInt ∧ ca.toInt ≤ 7 ∧ -1 ≤ pa.toInt ∧ pa.toInt < ca.toInt) ∨ r.toInt = 0 ∧ ¬ (0 ≤ ca.toInt ∧ ca.toInt ≤ 7 ∧ -1 ≤ pa.toInt ∧ pa.toInt < ca.toInt)) ∧ (DEC9 (0 ≤ ca.toInt ∧ ca.toInt ≤ 7 ∧ -1 ≤ pa.toInt ∧ pa.toInt < ca.toInt) r ca.toNatClampNeg (gm 0) (gm2 0)) ∧ (DEC9 (0 ≤ ca.toInt ∧ ca.toInt ≤ 7 ∧ -1 ≤ pa.toInt ∧ pa.toInt < ca.toInt) r ca.toNatClampNeg (gm 1) (gm2 1)) ∧ (DEC9 (0 ≤ ca.toInt ∧ ca.toInt ≤ 7 ∧ -1 ≤ pa.toInt ∧ pa.toInt < ca.toInt) r ca.toNatClampNeg (gm 3) (gm2 3)) ∧ (DECB (0 ≤ ca.toInt ∧ ca.toInt ≤ 7 ∧ -1 ≤ pa.toInt ∧ pa.toInt < ca.toInt) r ca.toNatClampNeg (gm 55) (gm2 55))) (fun _ _ => False) := by
  intro sz
  refine vx_ofW (cc := cX12_declare) (maxL := 3) (ret := (some .boolean)) (by decide) rfl ?_
  intro p e s m args below meth c s₁ B hml hxt hv
  obtain ⟨rfl, hsz, hP, hK, hD0, hG⟩ := hv
  have hx := B.exec
  have hb := B.bytes
  have hr := B.returns
  have hts := atoms_spec (ws := wm_X12_declare) B.pre
  have htb := fun (w : Cond) (h : w ∈ tb) => hts w (List.mem_cons_of_mem _ h)
  have hown : s.vm.findClass RX12 = some m.cls := findClass_of_methodNamed B.named
  have hlocks := B.notSynchronized
  subst hsz
  have hD := hD0.self (sz := s.heap.size)
  generalize hAe : va_A (cW ad cid a2 lx sg gm lg) s.heap.size = A at hD hG ⊢
  have hA : ∀ q : Nat, s.heap.size ≤ q → A q := fun q h => by rw [← hAe]; exact Or.inr h
  have hS : va_S A s.heap s.heap [] := va_S.rf
  have hl := lv_entry ([eV (ad 0) x, .int ca, .int pa]) (n := 3) (by rw [show (lg_sl ([eV (ad 0) x, .int ca, .int pa])).length = 3 from by simp [lg_sl, eV_cat, cat_i, cat_l]]; exact Nat.le_of_ble_eq_true rfl)
  rw [lg_entry_eq]
  generalize (lg_sl ([eV (ad 0) x, .int ca, .int pa]) ++ List.replicate (3 - (lg_sl ([eV (ad 0) x, .int ca, .int pa])).length) Slot.unset).toArray = ls at hl ⊢
  have hl : lv_has ls 3 [(0, eV (ad 0) x), (1, .int ca), (2, .int pa)] := by simp [lv_args, eV_cat, cat_i, cat_l] at hl; exact hl
  have hj17 : ∀ (_ : iv 0 0 x) (_ : ¬ (0 ≤ ca.toInt ∧ ca.toInt ≤ 7 ∧ -1 ≤ pa.toInt ∧ pa.toInt < ca.toInt)) (H : Heap) (locs : List Loc) (ls : Array Slot), va_P (dC, dI) vwCl (cW ad cid a2 lx sg gm lg) H → va_D A (cW ad cid a2 lx sg gm lg) → va_S A s.heap H locs → lv_has ls 3 [(0, eV (ad 0) x), (1, .int ca), (2, .int pa)] → W p l e (headSpec wm_X12_declare ({ frames := 1, cells := 1, slots := 6, locals := 22 })).room s m ([eV (ad 0) x, .int ca, .int pa] : List Value).toArray below meth c H locs 0 0 (vx_MQ below (cQx dC dI ad cid a2 lx (fun v u => ∃ r : Int32, v = some (.int r) ∧ ∃ (sg2 : Nat → Int32) (gm2 : Nat → Nat → Int32) (lg2 : Nat → Nat → Int64), u = (sg2, gm2, lg2) ∧ CI sg2 gm2 ∧ KS [] sg sg2 ∧ KS [0, 1, 3, 4, 55] gm gm2 ∧ KS [] lg lg2 ∧ (iv 0 1 r) ∧ (r.toInt = 1 ∧ (0 ≤ ca.toInt ∧ ca.toInt ≤ 7 ∧ -1 ≤ pa.toInt ∧ pa.toInt < ca.toInt) ∨ r.toInt = 0 ∧ ¬ (0 ≤ ca.toInt ∧ ca.toInt ≤ 7 ∧ -1 ≤ pa.toInt ∧ pa.toInt < ca.toInt)) ∧ (DEC9 (0 ≤ ca.toInt ∧ ca.toInt ≤ 7 ∧ -1 ≤ pa.toInt ∧ pa.toInt < ca.toInt) r ca.toNatClampNeg (gm 0) (gm2 0)) ∧ (DEC9 (0 ≤ ca.toInt ∧ ca.toInt ≤ 7 ∧ -1 ≤ pa.toInt ∧ pa.toInt < ca.toInt) r ca.toNatClampNeg (gm 1) (gm2 1)) ∧ (DEC9 (0 ≤ ca.toInt ∧ ca.toInt ≤ 7 ∧ -1 ≤ pa.toInt ∧ pa.toInt < ca.toInt) r ca.toNatClampNeg (gm 3) (gm2 3)) ∧ (DECB (0 ≤ ca.toInt ∧ ca.toInt ≤ 7 ∧ -1 ≤ pa.toInt ∧ pa.toInt < ca.toInt) r ca.toNatClampNeg (gm 55) (gm2 55))) A) (cX dC dI ad cid a2 lx (fun _ _ => False) A) ([eV (ad 0) x, .int ca, .int pa] : List Value).toArray s 1 6 A) (F0 m 17 ls []) := by
    intro  hsx0_17 hno H locs ls hP hD hS hl
    refine lv_iconst (v := 0) hx hb dX12_declare_17 (by decide) ?_
    exact W.nb (fun hN => W.widen (k := 1) (n := 6) (by decide) (by decide) (vx_ret (W.zret (v := 0) hx hb hr (iv_nb (iv_w (iv_k (by decide) : iv 0 0 0) (by decide))) (fun t ht hW => ⟨⟨some (.int 0), (sg, gm, lg), rfl, ⟨0, rfl, sg, gm, lg, rfl, hI, KS_rf, KS_rf, KS_rf, (iv_w (iv_k (by decide) : iv 0 0 0) (by decide)), (Or.inr ⟨rfl, hno⟩), (Or.inr ⟨rfl, hno, (show gm 0 = gm 0 from rfl)⟩), (Or.inr ⟨rfl, hno, (show gm 1 = gm 1 from rfl)⟩), (Or.inr ⟨rfl, hno, (show gm 3 = gm 3 from rfl)⟩), (Or.inr ⟨rfl, hno, (show gm 55 = gm 55 from rfl)⟩)⟩, by rw [ht]; exact hP, va_K.moved hW.alike hK, hD⟩, hS.F ht, by rw [ht]; exact hN⟩) hS.2.2 dX12_declare_18)))
  have hj40 : ∀ (y0_40 : Int32) (_ : iv 0 0 x) (_ : iv 0 7 ca) (_ : iv (-1) 7 pa) (_ : iv (-1) 7 y0_40) (_ : iv 0 7 ca) (_ : 0 ≤ ca.toInt ∧ ca.toInt ≤ 7 ∧ -1 ≤ pa.toInt ∧ pa.toInt < ca.toInt) (H : Heap) (locs : List Loc) (ls : Array Slot), va_P (dC, dI) vwCl (cW ad cid a2 lx sg gm lg) H → va_D A (cW ad cid a2 lx sg gm lg) → va_S A s.heap H locs → lv_has ls 3 [(0, eV (ad 0) x), (1, .int ca), (2, .int pa)] → W p l e (headSpec wm_X12_declare ({ frames := 1, cells := 1, slots := 6, locals := 22 })).room s m ([eV (ad 0) x, .int ca, .int pa] : List Value).toArray below meth c H locs 0 0 (vx_MQ below (cQx dC dI ad cid a2 lx (fun v u => ∃ r : Int32, v = some (.int r) ∧ ∃ (sg2 : Nat → Int32) (gm2 : Nat → Nat → Int32) (lg2 : Nat → Nat → Int64), u = (sg2, gm2, lg2) ∧ CI sg2 gm2 ∧ KS [] sg sg2 ∧ KS [0, 1, 3, 4, 55] gm gm2 ∧ KS [] lg lg2 ∧ (iv 0 1 r) ∧ (r.toInt = 1 ∧ (0 ≤ ca.toInt ∧ ca.toInt ≤ 7 ∧ -1 ≤ pa.toInt ∧ pa.toInt < ca.toInt) ∨ r.toInt = 0 ∧ ¬ (0 ≤ ca.toInt ∧ ca.toInt ≤ 7 ∧ -1 ≤ pa.toInt ∧ pa.toInt < ca.toInt)) ∧ (DEC9 (0 ≤ ca.toInt ∧ ca.toInt ≤ 7 ∧ -1 ≤ pa.toInt ∧ pa.toInt < ca.toInt) r ca.toNatClampNeg (gm 0) (gm2 0)) ∧ (DEC9 (0 ≤ ca.toInt ∧ ca.toInt ≤ 7 ∧ -1 ≤ pa.toInt ∧ pa.toInt < ca.toInt) r ca.toNatClampNeg (gm 1) (gm2 1)) ∧ (DEC9 (0 ≤ ca.toInt ∧ ca.toInt ≤ 7 ∧ -1 ≤ pa.toInt ∧ pa.toInt < ca.toInt) r ca.toNatClampNeg (gm 3) (gm2 3)) ∧ (DECB (0 ≤ ca.toInt ∧ ca.toInt ≤ 7 ∧ -1 ≤ pa.toInt ∧ pa.toInt < ca.toInt) r ca.toNatClampNeg (gm 55) (gm2 55))) A) (cX dC dI ad cid a2 lx (fun _ _ => False) A) ([eV (ad 0) x, .int ca, .int pa] : List Value).toArray s 1 6 A) (F0 m 40 ls [eV (ad 7) y0_40, eV (ad 7) ca]) := by
    intro y0_40 hsx0_40 hsx1_40 hsx2_40 hy0_40 hsy1_40 hyes H locs ls hP hD hS hl
    refine cm_callV (t := 7) (C := RX2) (T := TX2) (N := 8) (rest := []) (as := [eV (ad 7) y0_40]) ⟨hx, hb, hml, hown, htb⟩ (d_beginDc3 l dC dI ad cid a2 lx sg gm lg ca y0_40 hI hsy1_40 hy0_40) (cwV 1 htb (gd_V kw_229 kw_230 kw_231 kw_15 kw_1386) rfl rfl rfl (by decide +kernel) ⟨Nat.le_of_ble_eq_true rfl, Nat.le_of_ble_eq_true rfl⟩) hsy1_40 (by decide) (by decide) rfl rfl hl.1 rfl (Nat.le_trans cs_n (by decide)) dX12_declare_40 ⟨Nat.le_of_ble_eq_true rfl, Nat.le_of_ble_eq_true rfl⟩ hK hP hD hS hA hG (fun E ce q9 u_2 H locs hw hP hD hS hce hcv hcl => ?_) (fun v9 u_2 H locs hw hP hD hS => ?_)
    · exact hw.elim
    obtain ⟨rfl, sgv_3, gmv_3, lgv_3, rfl, hIv_3, ksv_3, kgv_3, klv_3, f0_r_1, f1_r_1, f3_r_1, fB_r_1⟩ := hw
    obtain rfl := KS_nil ksv_3
    obtain rfl := KS_nil klv_3
    have hP : va_P (dC, dI) vwCl (cW ad cid a2 lx sg gmv_3 lg) H := hP
    have hD : va_D A (cW ad cid a2 lx sg gmv_3 lg) := hD
    refine W.eq (g2 := F0 m 43 ls []) rfl ?_
    refine lv_iconst (v := 1) hx hb dX12_declare_43 (by decide) ?_
    exact W.nb (fun hN => W.widen (k := 1) (n := 6) (by decide) (by decide) (vx_ret (W.zret (v := 1) hx hb hr (iv_nb (iv_w (iv_k (by decide) : iv 1 1 1) (by decide))) (fun t ht hW => ⟨⟨some (.int 1), (sg, gmv_3, lg), rfl, ⟨1, rfl, sg, gmv_3, lg, rfl, hIv_3, KS_rf, (KS_tr (L := [0, 1, 3, 4, 55]) KS_rf kgv_3 (by decide)), KS_rf, (iv_w (iv_k (by decide) : iv 1 1 1) (by decide)), (Or.inl ⟨rfl, hyes⟩), (Or.inl ⟨rfl, hyes, f0_r_1⟩), (Or.inl ⟨rfl, hyes, f1_r_1⟩), (Or.inl ⟨rfl, hyes, f3_r_1⟩), (Or.inl ⟨rfl, hyes, fB_r_1⟩)⟩, by rw [ht]; exact hP, va_K.moved hW.alike hK, hD⟩, hS.F ht, by rw [ht]; exact hN⟩) hS.2.2 dX12_declare_44)))
  refine lv_iload_n hx hb dX12_declare_0 rfl (lv_at hl 1 rfl) ?_
  refine cm_callS (rest := []) (as := [.int ca]) ⟨hx, hb, hml, hown, htb⟩ (d_isClass2 l dC dI ad cid a2 lx sg gm lg ca hI) (va_cwS 1 htb (gd_S kw_227 kw_228 kw_2 kw_1385) rfl rfl rfl (by decide +kernel) ⟨Nat.le_of_ble_eq_true rfl, Nat.le_of_ble_eq_true rfl⟩)  rfl hl.1 rfl (Nat.le_trans cs_n (by decide)) dX12_declare_1 ⟨Nat.le_of_ble_eq_true rfl, Nat.le_of_ble_eq_true rfl⟩ hK hP hD hS hA hG (fun E ce q9 u_5 H locs hw hP hD hS hce hcv hcl => ?_) (fun v9 u_5 H locs hw hP hD hS => ?_)
  · exact hw.elim
  obtain ⟨r_4, rfl, rfl, hr_4, fl_r_4⟩ := hw
  have hP : va_P (dC, dI) vwCl (cW ad cid a2 lx sg gm lg) H := hP
  have hD : va_D A (cW ad cid a2 lx sg gm lg) := hD
  refine W.eq (g2 := F0 m 4 ls [.int r_4]) rfl ?_
  refine lv_if_eq (tgt := 17) hx hb dX12_declare_4 (by decide) (fun c_7 => ?_) (fun c_7 => ?_)
  · have h_8 : iv 0 0 r_4 := iv_eq c_7 hr_4 (iv_k (by decide) : iv 0 0 0) (by decide)
    exact hj17 hvx (fun q9 => by { have := fl_r_4; have := i32_0; have := i32_1; have := i32_2; have := i32_m1; have := (hvx).1; have := (hvx).2; have := (h_8).1; have := (h_8).2; omega }) _ _ _ hP hD hS (lv_sub hl [0, 1, 2] rfl)
  · have h_9 : iv 1 1 r_4 := iv_neL c_7 hr_4 (by decide)
    refine lv_iload_n hx hb dX12_declare_7 rfl (lv_at hl 2 rfl) ?_
    refine lv_iconst (v := (-1)) hx hb dX12_declare_8 (by decide) ?_
    refine lv_icmp_lt (tgt := 17) hx hb dX12_declare_9 (by decide) (fun c_10 => ?_) (fun c_10 => ?_)
    · have h_11 : iv (-2147483648) (-2) pa := iv_ltL c_10 (iv_all pa) (iv_k (by decide) : iv (-1) (-1) (-1)) (by decide)
      exact hj17 hvx (fun q9 => by { have := fl_r_4; have := i32_0; have := i32_1; have := i32_2; have := i32_m1; have := (hvx).1; have := (hvx).2; have := (h_9).1; have := (h_9).2; have := (h_11).1; have := (h_11).2; omega }) _ _ _ hP hD hS (lv_sub hl [0, 1, 2] rfl)
    · have h_12 : iv (-1) 2147483647 pa := iv_leR (i32_ge c_10) (iv_k (by decide) : iv (-1) (-1) (-1)) (iv_all pa) (by decide)
      refine lv_iload_n hx hb dX12_declare_12 rfl (lv_at hl 2 rfl) ?_
      refine lv_iload_n hx hb dX12_declare_13 rfl (lv_at hl 1 rfl) ?_
      refine lv_icmp_lt (tgt := 19) hx hb dX12_declare_14 (by decide) (fun c_13 => ?_) (fun c_13 => ?_)
      · have d_14 : (pa : Int32).toInt < (ca : Int32).toInt := Int32.lt_iff_toInt_lt.mp c_13
        have h_15 : iv (-1) 2147483646 pa := iv_ltL c_13 h_12 (iv_all ca) (by decide)
        have h_16 : iv 0 2147483647 ca := iv_ltR c_13 h_12 (iv_all ca) (by decide)
        have h_17 : iv 0 7 ca := ⟨by have := fl_r_4; have := i32_0; have := i32_1; have := i32_2; have := i32_m1; have := (hvx).1; have := (hvx).2; have := (h_9).1; have := (h_9).2; have := (h_15).1; have := (h_15).2; have := (h_16).1; have := (h_16).2; omega, by have := fl_r_4; have := i32_0; have := i32_1; have := i32_2; have := i32_m1; have := (hvx).1; have := (hvx).2; have := (h_9).1; have := (h_9).2; have := (h_15).1; have := (h_15).2; have := (h_16).1; have := (h_16).2; omega⟩
        refine ec_aload_n hx hb dX12_declare_19 rfl (lv_at hl 0 rfl) ?_
        refine cr_get (t := 0) (j := 0) (C := RX12) (T := TX12) (N := 12) (v := eV (ad 12) 0) hx hb htb inX12 hown hK hP hvx (by decide) (by decide) (by decide) rfl (by decide) (htb _ kw_13) (cV_c rfl (by decide) (by rw [show cMu 0 0 = 0 from rfl, Nat.zero_mul]; rfl)) dX12_declare_20 ?_
        refine lv_iload_n hx hb dX12_declare_23 rfl (lv_at hl 1 rfl) ?_
        refine cr_aald (t := 12) (C := RX2) (v := eV (ad 7) ca) hx hb hK hP (iv_k (by decide) : iv 0 0 0) (by decide) (by decide) (by decide) (by decide) (by decide) rfl (show vp_in ca (cLen 12) from (show vp_in ca 8 from (iv_in h_17 (by decide)))) (cAr_c (by decide) (h_17).1 (by rw [show cAm 12 = 0 from rfl, Nat.zero_mul, show cAo 12 = 0 from rfl]; omega)) dX12_declare_24 ?_
        refine lv_iload_n hx hb dX12_declare_25 rfl (lv_at hl 2 rfl) ?_
        refine lv_iconst (v := (-1)) hx hb dX12_declare_26 (by decide) ?_
        refine lv_icmp_ne (tgt := 34) hx hb dX12_declare_27 (by decide) (fun c_18 => ?_) (fun c_18 => ?_)
        · have h_19 : iv 0 2147483646 pa := iv_neL c_18 h_15 (by decide)
          have h_20 : iv 0 7 pa := ⟨by have := i32_0; have := i32_1; have := i32_2; have := i32_m1; have := (hvx).1; have := (hvx).2; have := (h_9).1; have := (h_9).2; have := (h_19).1; have := (h_19).2; have := (h_17).1; have := (h_17).2; omega, by have := i32_0; have := i32_1; have := i32_2; have := i32_m1; have := (hvx).1; have := (hvx).2; have := (h_9).1; have := (h_9).2; have := (h_19).1; have := (h_19).2; have := (h_17).1; have := (h_17).2; omega⟩
          refine ec_aload_n hx hb dX12_declare_34 rfl (lv_at hl 0 rfl) ?_
          refine cr_get (t := 0) (j := 0) (C := RX12) (T := TX12) (N := 12) (v := eV (ad 12) 0) hx hb htb inX12 hown hK hP hvx (by decide) (by decide) (by decide) rfl (by decide) (htb _ kw_13) (cV_c rfl (by decide) (by rw [show cMu 0 0 = 0 from rfl, Nat.zero_mul]; rfl)) dX12_declare_35 ?_
          refine lv_iload_n hx hb dX12_declare_38 rfl (lv_at hl 2 rfl) ?_
          refine cr_aald (t := 12) (C := RX2) (v := eV (ad 7) pa) hx hb hK hP (iv_k (by decide) : iv 0 0 0) (by decide) (by decide) (by decide) (by decide) (by decide) rfl (show vp_in pa (cLen 12) from (show vp_in pa 8 from (iv_in h_20 (by decide)))) (cAr_c (by decide) (h_20).1 (by rw [show cAm 12 = 0 from rfl, Nat.zero_mul, show cAo 12 = 0 from rfl]; omega)) dX12_declare_39 ?_
          exact hj40 pa hvx h_17 (iv_w h_20 (by decide)) (iv_w h_20 (by decide)) h_17 (⟨by have := i32_0; have := i32_1; have := i32_2; have := i32_m1; have := (hvx).1; have := (hvx).2; have := (h_9).1; have := (h_9).2; have := (h_20).1; have := (h_20).2; have := (h_17).1; have := (h_17).2; omega, by have := i32_0; have := i32_1; have := i32_2; have := i32_m1; have := (hvx).1; have := (hvx).2; have := (h_9).1; have := (h_9).2; have := (h_20).1; have := (h_20).2; have := (h_17).1; have := (h_17).2; omega, by have := i32_0; have := i32_1; have := i32_2; have := i32_m1; have := (hvx).1; have := (hvx).2; have := (h_9).1; have := (h_9).2; have := (h_20).1; have := (h_20).2; have := (h_17).1; have := (h_17).2; omega, by have := i32_0; have := i32_1; have := i32_2; have := i32_m1; have := (hvx).1; have := (hvx).2; have := (h_9).1; have := (h_9).2; have := (h_20).1; have := (h_20).2; have := (h_17).1; have := (h_17).2; omega⟩) _ _ _ hP hD hS (lv_sub hl [0, 1, 2] rfl)
        · have h_21 : iv (-1) (-1) pa := iv_eq c_18 h_15 (iv_k (by decide) : iv (-1) (-1) (-1)) (by decide)
          refine ec_null (a := ad 7) hx hb dX12_declare_30 ?_
          refine lv_goto (tgt := 40) hx hb dX12_declare_31 (by decide) ?_
          exact hj40 (-1) hvx h_17 (iv_w h_21 (by decide)) (iv_w (iv_k (by decide) : iv (-1) (-1) (-1)) (by decide)) h_17 (⟨by have := i32_0; have := i32_1; have := i32_2; have := i32_m1; have := (hvx).1; have := (hvx).2; have := (h_9).1; have := (h_9).2; have := (h_21).1; have := (h_21).2; have := (h_17).1; have := (h_17).2; omega, by have := i32_0; have := i32_1; have := i32_2; have := i32_m1; have := (hvx).1; have := (hvx).2; have := (h_9).1; have := (h_9).2; have := (h_21).1; have := (h_21).2; have := (h_17).1; have := (h_17).2; omega, by have := i32_0; have := i32_1; have := i32_2; have := i32_m1; have := (hvx).1; have := (hvx).2; have := (h_9).1; have := (h_9).2; have := (h_21).1; have := (h_21).2; have := (h_17).1; have := (h_17).2; omega, by have := i32_0; have := i32_1; have := i32_2; have := i32_m1; have := (hvx).1; have := (hvx).2; have := (h_9).1; have := (h_9).2; have := (h_21).1; have := (h_21).2; have := (h_17).1; have := (h_17).2; omega⟩) _ _ _ hP hD hS (lv_sub hl [0, 1, 2] rfl)
      · have d_22 : (ca : Int32).toInt ≤ (pa : Int32).toInt := Int32.le_iff_toInt_le.mp (i32_ge c_13)
        exact hj17 hvx (fun q9 => by { have := fl_r_4; have := i32_0; have := i32_1; have := i32_2; have := i32_m1; have := (hvx).1; have := (hvx).2; have := (h_9).1; have := (h_9).2; have := (h_12).1; have := (h_12).2; omega }) _ _ _ hP hD hS (lv_sub hl [0, 1, 2] rfl)

set_option maxHeartbeats 4000000 in
set_option maxRecDepth 100000 in
theorem d_setter2 (l : Launch) (dC : Nat → ClassId) (dI : Nat → Nat → Nat) (ad : Nat → Nat → Nat) (cid : Nat → ClassId) (a2 : Nat → Nat) (lx : List Nat) (sg : Nat → Int32) (gm : Nat → Nat → Int32) (lg : Nat → Nat → Int64) (x : Int32) (ca : Int32) (nm : Int32) (ty : Int32) (hI : CI sg gm) (hvx : iv 0 0 x) : CMt dC dI ad cid a2 lx l yX12_setter wm_X12_setter ({ frames := 1, cells := 1, slots := 6, locals := 22 }) [eV (ad 0) x, .int ca, .int nm, .int ty] sg gm lg (fun v u => ∃ r : Int32, v = some (.int r) ∧ ∃ (sg2 : Nat → Int32) (gm2 : Nat → Nat → Int32) (lg2 : Nat → Nat → Int64), u = (sg2, gm2, lg2) ∧ CI sg2 gm2 ∧ KS [] sg sg2 ∧ KS [3, 55] gm gm2 ∧ KS [] lg lg2 ∧ (iv 0 1 r) ∧ (ADDS (0 ≤ ca.toInt ∧ ca.toInt ≤ 7 ∧ 0 ≤ nm.toInt ∧ nm.toInt ≤ 25 ∧ (0 ≤ ty.toInt ∧ ty.toInt ≤ 4 ∨ 8 ≤ ty.toInt ∧ ty.toInt ≤ 15)) r ca.toNatClampNeg nm.toNatClampNeg (gm 3) (gm2 3) (gm 55) (gm2 55))) (fun _ _ => False) := by
  intro sz
  refine vx_ofW (cc := cX12_setter) (maxL := 4) (ret := (some .boolean)) (by decide) rfl ?_
  intro p e s m args below meth c s₁ B hml hxt hv
  obtain ⟨rfl, hsz, hP, hK, hD0, hG⟩ := hv
  have hx := B.exec
  have hb := B.bytes
  have hr := B.returns
  have hts := atoms_spec (ws := wm_X12_setter) B.pre
  have htb := fun (w : Cond) (h : w ∈ tb) => hts w (List.mem_cons_of_mem _ h)
  have hown : s.vm.findClass RX12 = some m.cls := findClass_of_methodNamed B.named
  have hlocks := B.notSynchronized
  subst hsz
  have hD := hD0.self (sz := s.heap.size)
  generalize hAe : va_A (cW ad cid a2 lx sg gm lg) s.heap.size = A at hD hG ⊢
  have hA : ∀ q : Nat, s.heap.size ≤ q → A q := fun q h => by rw [← hAe]; exact Or.inr h
  have hS : va_S A s.heap s.heap [] := va_S.rf
  have hl := lv_entry ([eV (ad 0) x, .int ca, .int nm, .int ty]) (n := 4) (by rw [show (lg_sl ([eV (ad 0) x, .int ca, .int nm, .int ty])).length = 4 from by simp [lg_sl, eV_cat, cat_i, cat_l]]; exact Nat.le_of_ble_eq_true rfl)
  rw [lg_entry_eq]
  generalize (lg_sl ([eV (ad 0) x, .int ca, .int nm, .int ty]) ++ List.replicate (4 - (lg_sl ([eV (ad 0) x, .int ca, .int nm, .int ty])).length) Slot.unset).toArray = ls at hl ⊢
  have hl : lv_has ls 4 [(0, eV (ad 0) x), (1, .int ca), (2, .int nm), (3, .int ty)] := by simp [lv_args, eV_cat, cat_i, cat_l] at hl; exact hl
  have hj40 : ∀ (gm_j40 : Nat → Nat → Int32) (y0_40 : Int32) (_ : iv 0 0 x) (_ : iv 0 1 y0_40) (_ : KS [3, 55] gm gm_j40) (_ : CI sg gm_j40) (_ : ADDS (0 ≤ ca.toInt ∧ ca.toInt ≤ 7 ∧ 0 ≤ nm.toInt ∧ nm.toInt ≤ 25 ∧ (0 ≤ ty.toInt ∧ ty.toInt ≤ 4 ∨ 8 ≤ ty.toInt ∧ ty.toInt ≤ 15)) y0_40 ca.toNatClampNeg nm.toNatClampNeg (gm 3) (gm_j40 3) (gm 55) (gm_j40 55)) (H : Heap) (locs : List Loc) (ls : Array Slot), va_P (dC, dI) vwCl (cW ad cid a2 lx sg gm_j40 lg) H → va_D A (cW ad cid a2 lx sg gm_j40 lg) → va_S A s.heap H locs → lv_has ls 4 [(0, eV (ad 0) x), (1, .int ca), (2, .int nm), (3, .int ty)] → W p l e (headSpec wm_X12_setter ({ frames := 1, cells := 1, slots := 6, locals := 22 })).room s m ([eV (ad 0) x, .int ca, .int nm, .int ty] : List Value).toArray below meth c H locs 0 0 (vx_MQ below (cQx dC dI ad cid a2 lx (fun v u => ∃ r : Int32, v = some (.int r) ∧ ∃ (sg2 : Nat → Int32) (gm2 : Nat → Nat → Int32) (lg2 : Nat → Nat → Int64), u = (sg2, gm2, lg2) ∧ CI sg2 gm2 ∧ KS [] sg sg2 ∧ KS [3, 55] gm gm2 ∧ KS [] lg lg2 ∧ (iv 0 1 r) ∧ (ADDS (0 ≤ ca.toInt ∧ ca.toInt ≤ 7 ∧ 0 ≤ nm.toInt ∧ nm.toInt ≤ 25 ∧ (0 ≤ ty.toInt ∧ ty.toInt ≤ 4 ∨ 8 ≤ ty.toInt ∧ ty.toInt ≤ 15)) r ca.toNatClampNeg nm.toNatClampNeg (gm 3) (gm2 3) (gm 55) (gm2 55))) A) (cX dC dI ad cid a2 lx (fun _ _ => False) A) ([eV (ad 0) x, .int ca, .int nm, .int ty] : List Value).toArray s 1 6 A) (F0 m 40 ls [.int y0_40]) := by
    intro gm_j40 y0_40 hsx0_40 hy0_40 hkg_j40 hI_j40 hS9 H locs ls hP hD hS hl
    exact W.nb (fun hN => W.widen (k := 1) (n := 6) (by decide) (by decide) (vx_ret (W.zret (v := y0_40) hx hb hr (iv_nb hy0_40) (fun t ht hW => ⟨⟨some (.int y0_40), (sg, gm_j40, lg), rfl, ⟨y0_40, rfl, sg, gm_j40, lg, rfl, hI_j40, KS_rf, (KS_tr (L := [3, 55]) KS_rf hkg_j40 (by decide)), KS_rf, hy0_40, (hS9)⟩, by rw [ht]; exact hP, va_K.moved hW.alike hK, hD⟩, hS.F ht, by rw [ht]; exact hN⟩) hS.2.2 dX12_setter_40)))
  have hj39 : ∀ (gm_j39 : Nat → Nat → Int32) (_ : iv 0 0 x) (_ : KS [3, 55] gm gm_j39) (_ : CI sg gm_j39) (_ : (¬ (0 ≤ ca.toInt ∧ ca.toInt ≤ 7 ∧ 0 ≤ nm.toInt ∧ nm.toInt ≤ 25 ∧ (0 ≤ ty.toInt ∧ ty.toInt ≤ 4 ∨ 8 ≤ ty.toInt ∧ ty.toInt ≤ 15)) ∨ 8 ≤ (gm 3 ca.toNatClampNeg).toInt ∨ ¬ gm 55 (26 * ca.toNatClampNeg + nm.toNatClampNeg) = -1) ∧ gm_j39 3 = gm 3 ∧ gm_j39 55 = gm 55) (H : Heap) (locs : List Loc) (ls : Array Slot), va_P (dC, dI) vwCl (cW ad cid a2 lx sg gm_j39 lg) H → va_D A (cW ad cid a2 lx sg gm_j39 lg) → va_S A s.heap H locs → lv_has ls 4 [(0, eV (ad 0) x), (1, .int ca), (2, .int nm), (3, .int ty)] → W p l e (headSpec wm_X12_setter ({ frames := 1, cells := 1, slots := 6, locals := 22 })).room s m ([eV (ad 0) x, .int ca, .int nm, .int ty] : List Value).toArray below meth c H locs 0 0 (vx_MQ below (cQx dC dI ad cid a2 lx (fun v u => ∃ r : Int32, v = some (.int r) ∧ ∃ (sg2 : Nat → Int32) (gm2 : Nat → Nat → Int32) (lg2 : Nat → Nat → Int64), u = (sg2, gm2, lg2) ∧ CI sg2 gm2 ∧ KS [] sg sg2 ∧ KS [3, 55] gm gm2 ∧ KS [] lg lg2 ∧ (iv 0 1 r) ∧ (ADDS (0 ≤ ca.toInt ∧ ca.toInt ≤ 7 ∧ 0 ≤ nm.toInt ∧ nm.toInt ≤ 25 ∧ (0 ≤ ty.toInt ∧ ty.toInt ≤ 4 ∨ 8 ≤ ty.toInt ∧ ty.toInt ≤ 15)) r ca.toNatClampNeg nm.toNatClampNeg (gm 3) (gm2 3) (gm 55) (gm2 55))) A) (cX dC dI ad cid a2 lx (fun _ _ => False) A) ([eV (ad 0) x, .int ca, .int nm, .int ty] : List Value).toArray s 1 6 A) (F0 m 39 ls []) := by
    intro gm_j39 hsx0_39 hkg_j39 hI_j39 hno H locs ls hP hD hS hl
    refine lv_iconst (v := 0) hx hb dX12_setter_39 (by decide) ?_
    exact hj40 gm_j39 0 hsx0_39 (iv_w (iv_k (by decide) : iv 0 0 0) (by decide)) (KS_tr (L := [3, 55]) KS_rf hkg_j39 (by decide)) hI_j39 (Or.inr ⟨rfl, hno.1, hno.2⟩) _ _ _ hP hD hS (lv_sub hl [0, 1, 2, 3] rfl)
  refine lv_iload_n hx hb dX12_setter_0 rfl (lv_at hl 1 rfl) ?_
  refine cm_callS (rest := []) (as := [.int ca]) ⟨hx, hb, hml, hown, htb⟩ (d_isClass2 l dC dI ad cid a2 lx sg gm lg ca hI) (va_cwS 1 htb (gd_S kw_227 kw_228 kw_2 kw_1385) rfl rfl rfl (by decide +kernel) ⟨Nat.le_of_ble_eq_true rfl, Nat.le_of_ble_eq_true rfl⟩)  rfl hl.1 rfl (Nat.le_trans cs_n (by decide)) dX12_setter_1 ⟨Nat.le_of_ble_eq_true rfl, Nat.le_of_ble_eq_true rfl⟩ hK hP hD hS hA hG (fun E ce q9 u_2 H locs hw hP hD hS hce hcv hcl => ?_) (fun v9 u_2 H locs hw hP hD hS => ?_)
  · exact hw.elim
  obtain ⟨r_1, rfl, rfl, hr_1, fl_r_1⟩ := hw
  have hP : va_P (dC, dI) vwCl (cW ad cid a2 lx sg gm lg) H := hP
  have hD : va_D A (cW ad cid a2 lx sg gm lg) := hD
  refine W.eq (g2 := F0 m 4 ls [.int r_1]) rfl ?_
  refine lv_if_eq (tgt := 39) hx hb dX12_setter_4 (by decide) (fun c_4 => ?_) (fun c_4 => ?_)
  · have h_5 : iv 0 0 r_1 := iv_eq c_4 hr_1 (iv_k (by decide) : iv 0 0 0) (by decide)
    exact hj39 gm hvx KS_rf hI (⟨Or.inl (fun q9 => by { have := i32_0; have := i32_1; have := i32_2; have := i32_m1; have := (hvx).1; have := (hvx).2; have := (h_5).1; have := (h_5).2; omega }), (show gm 3 = gm 3 from rfl), (show gm 55 = gm 55 from rfl)⟩) _ _ _ hP hD hS (lv_sub hl [0, 1, 2, 3] rfl)
  · have h_6 : iv 1 1 r_1 := iv_neL c_4 hr_1 (by decide)
    refine lv_iload_n hx hb dX12_setter_7 rfl (lv_at hl 2 rfl) ?_
    refine cm_callS (rest := []) (as := [.int nm]) ⟨hx, hb, hml, hown, htb⟩ (d_isLetter2 l dC dI ad cid a2 lx sg gm lg nm hI) (va_cwS 1 htb (gd_S kw_272 kw_273 kw_2 kw_1399) rfl rfl rfl (by decide +kernel) ⟨Nat.le_of_ble_eq_true rfl, Nat.le_of_ble_eq_true rfl⟩)  rfl hl.1 rfl (Nat.le_trans cs_n (by decide)) dX12_setter_8 ⟨Nat.le_of_ble_eq_true rfl, Nat.le_of_ble_eq_true rfl⟩ hK hP hD hS hA hG (fun E ce q9 u_8 H locs hw hP hD hS hce hcv hcl => ?_) (fun v9 u_8 H locs hw hP hD hS => ?_)
    · exact hw.elim
    obtain ⟨r_7, rfl, rfl, hr_7, fl_r_7⟩ := hw
    have hP : va_P (dC, dI) vwCl (cW ad cid a2 lx sg gm lg) H := hP
    have hD : va_D A (cW ad cid a2 lx sg gm lg) := hD
    refine W.eq (g2 := F0 m 11 ls [.int r_7]) rfl ?_
    refine lv_if_eq (tgt := 39) hx hb dX12_setter_11 (by decide) (fun c_10 => ?_) (fun c_10 => ?_)
    · have h_11 : iv 0 0 r_7 := iv_eq c_10 hr_7 (iv_k (by decide) : iv 0 0 0) (by decide)
      exact hj39 gm hvx KS_rf hI (⟨Or.inl (fun q9 => by { have := i32_0; have := i32_1; have := i32_2; have := i32_m1; have := (hvx).1; have := (hvx).2; have := (h_6).1; have := (h_6).2; have := (h_11).1; have := (h_11).2; omega }), (show gm 3 = gm 3 from rfl), (show gm 55 = gm 55 from rfl)⟩) _ _ _ hP hD hS (lv_sub hl [0, 1, 2, 3] rfl)
    · have h_12 : iv 1 1 r_7 := iv_neL c_10 hr_7 (by decide)
      refine lv_iload_n hx hb dX12_setter_14 rfl (lv_at hl 3 rfl) ?_
      refine cm_callS (rest := []) (as := [.int ty]) ⟨hx, hb, hml, hown, htb⟩ (d_isType2 l dC dI ad cid a2 lx sg gm lg ty hI) (va_cwS 1 htb (gd_S kw_247 kw_248 kw_2 kw_1391) rfl rfl rfl (by decide +kernel) ⟨Nat.le_of_ble_eq_true rfl, Nat.le_of_ble_eq_true rfl⟩)  rfl hl.1 rfl (Nat.le_trans cs_n (by decide)) dX12_setter_15 ⟨Nat.le_of_ble_eq_true rfl, Nat.le_of_ble_eq_true rfl⟩ hK hP hD hS hA hG (fun E ce q9 u_14 H locs hw hP hD hS hce hcv hcl => ?_) (fun v9 u_14 H locs hw hP hD hS => ?_)
      · exact hw.elim
      obtain ⟨r_13, rfl, rfl, hr_13, fl_r_13⟩ := hw
      have hP : va_P (dC, dI) vwCl (cW ad cid a2 lx sg gm lg) H := hP
      have hD : va_D A (cW ad cid a2 lx sg gm lg) := hD
      refine W.eq (g2 := F0 m 18 ls [.int r_13]) rfl ?_
      refine lv_if_eq (tgt := 39) hx hb dX12_setter_18 (by decide) (fun c_16 => ?_) (fun c_16 => ?_)
      · have h_17 : iv 0 0 r_13 := iv_eq c_16 hr_13 (iv_k (by decide) : iv 0 0 0) (by decide)
        exact hj39 gm hvx KS_rf hI (⟨Or.inl (fun q9 => by { have := i32_0; have := i32_1; have := i32_2; have := i32_m1; have := (hvx).1; have := (hvx).2; have := (h_6).1; have := (h_6).2; have := (h_12).1; have := (h_12).2; have := (h_17).1; have := (h_17).2; omega }), (show gm 3 = gm 3 from rfl), (show gm 55 = gm 55 from rfl)⟩) _ _ _ hP hD hS (lv_sub hl [0, 1, 2, 3] rfl)
      · have h_18 : iv 1 1 r_13 := iv_neL c_16 hr_13 (by decide)
        have h_19 : iv 0 7 ca := ⟨by have := fl_r_1; have := i32_0; have := i32_1; have := i32_2; have := i32_m1; have := (hvx).1; have := (hvx).2; have := (h_6).1; have := (h_6).2; have := (h_12).1; have := (h_12).2; have := (h_18).1; have := (h_18).2; omega, by have := fl_r_1; have := i32_0; have := i32_1; have := i32_2; have := i32_m1; have := (hvx).1; have := (hvx).2; have := (h_6).1; have := (h_6).2; have := (h_12).1; have := (h_12).2; have := (h_18).1; have := (h_18).2; omega⟩
        have h_20 : iv 0 25 nm := ⟨by have := fl_r_7; have := i32_0; have := i32_1; have := i32_2; have := i32_m1; have := (hvx).1; have := (hvx).2; have := (h_6).1; have := (h_6).2; have := (h_12).1; have := (h_12).2; have := (h_18).1; have := (h_18).2; have := (h_19).1; have := (h_19).2; omega, by have := fl_r_7; have := i32_0; have := i32_1; have := i32_2; have := i32_m1; have := (hvx).1; have := (hvx).2; have := (h_6).1; have := (h_6).2; have := (h_12).1; have := (h_12).2; have := (h_18).1; have := (h_18).2; have := (h_19).1; have := (h_19).2; omega⟩
        have hty9 : iv 0 15 ty := ⟨by have := fl_r_13; have := i32_0; have := i32_1; have := i32_2; have := i32_m1; have := (hvx).1; have := (hvx).2; have := (h_6).1; have := (h_6).2; have := (h_12).1; have := (h_12).2; have := (h_18).1; have := (h_18).2; have := (h_19).1; have := (h_19).2; have := (h_20).1; have := (h_20).2; omega, by have := fl_r_13; have := i32_0; have := i32_1; have := i32_2; have := i32_m1; have := (hvx).1; have := (hvx).2; have := (h_6).1; have := (h_6).2; have := (h_12).1; have := (h_12).2; have := (h_18).1; have := (h_18).2; have := (h_19).1; have := (h_19).2; have := (h_20).1; have := (h_20).2; omega⟩
        refine ec_aload_n hx hb dX12_setter_21 rfl (lv_at hl 0 rfl) ?_
        refine cr_get (t := 0) (j := 0) (C := RX12) (T := TX12) (N := 12) (v := eV (ad 12) 0) hx hb htb inX12 hown hK hP hvx (by decide) (by decide) (by decide) rfl (by decide) (htb _ kw_13) (cV_c rfl (by decide) (by rw [show cMu 0 0 = 0 from rfl, Nat.zero_mul]; rfl)) dX12_setter_22 ?_
        refine lv_iload_n hx hb dX12_setter_25 rfl (lv_at hl 1 rfl) ?_
        refine cr_aald (t := 12) (C := RX2) (v := eV (ad 7) ca) hx hb hK hP (iv_k (by decide) : iv 0 0 0) (by decide) (by decide) (by decide) (by decide) (by decide) rfl (show vp_in ca (cLen 12) from (show vp_in ca 8 from (iv_in h_19 (by decide)))) (cAr_c (by decide) (h_19).1 (by rw [show cAm 12 = 0 from rfl, Nat.zero_mul, show cAo 12 = 0 from rfl]; omega)) dX12_setter_26 ?_
        refine lv_iload_n hx hb dX12_setter_27 rfl (lv_at hl 2 rfl) ?_
        refine lv_iload_n hx hb dX12_setter_28 rfl (lv_at hl 3 rfl) ?_
        refine cm_callV (t := 7) (C := RX2) (T := TX2) (N := 8) (rest := []) (as := [.int nm, .int ty]) ⟨hx, hb, hml, hown, htb⟩ (d_addSetter2 l dC dI ad cid a2 lx sg gm lg ca nm ty hI h_19 h_20 hty9) (cwV 2 htb (gd_V kw_274 kw_275 kw_276 kw_15 kw_1400) rfl rfl rfl (by decide +kernel) ⟨Nat.le_of_ble_eq_true rfl, Nat.le_of_ble_eq_true rfl⟩) h_19 (by decide) (by decide) rfl rfl hl.1 rfl (Nat.le_trans cs_n (by decide)) dX12_setter_29 ⟨Nat.le_of_ble_eq_true rfl, Nat.le_of_ble_eq_true rfl⟩ hK hP hD hS hA hG (fun E ce q9 u_22 H locs hw hP hD hS hce hcv hcl => ?_) (fun v9 u_22 H locs hw hP hD hS => ?_)
        · exact hw.elim
        obtain ⟨r_21, rfl, sgv_23, gmv_23, lgv_23, rfl, hIv_23, ksv_23, kgv_23, klv_23, hr_21, fS_r_21⟩ := hw
        obtain rfl := KS_nil ksv_23
        obtain rfl := KS_nil klv_23
        have hP : va_P (dC, dI) vwCl (cW ad cid a2 lx sg gmv_23 lg) H := hP
        have hD : va_D A (cW ad cid a2 lx sg gmv_23 lg) := hD
        refine W.eq (g2 := F0 m 32 ls [.int r_21]) rfl ?_
        refine lv_if_eq (tgt := 39) hx hb dX12_setter_32 (by decide) (fun c_24 => ?_) (fun c_24 => ?_)
        · have h_25 : iv 0 0 r_21 := iv_eq c_24 hr_21 (iv_k (by decide) : iv 0 0 0) (by decide)
          exact hj39 gmv_23 hvx (KS_tr (L := [3, 55]) KS_rf kgv_23 (by decide)) hIv_23 (⟨Or.inr (ADDS_0 fS_r_21 (by have := i32_0; have := i32_1; have := i32_2; have := i32_m1; have := (hvx).1; have := (hvx).2; have := (h_6).1; have := (h_6).2; have := (h_12).1; have := (h_12).2; have := (h_18).1; have := (h_18).2; have := (h_19).1; have := (h_19).2; have := (h_20).1; have := (h_20).2; have := (hty9).1; have := (hty9).2; have := (h_25).1; have := (h_25).2; omega)).1, (ADDS_0 fS_r_21 (by have := i32_0; have := i32_1; have := i32_2; have := i32_m1; have := (hvx).1; have := (hvx).2; have := (h_6).1; have := (h_6).2; have := (h_12).1; have := (h_12).2; have := (h_18).1; have := (h_18).2; have := (h_19).1; have := (h_19).2; have := (h_20).1; have := (h_20).2; have := (hty9).1; have := (hty9).2; have := (h_25).1; have := (h_25).2; omega)).2⟩) _ _ _ hP hD hS (lv_sub hl [0, 1, 2, 3] rfl)
        · have h_26 : iv 1 1 r_21 := iv_neL c_24 hr_21 (by decide)
          refine lv_iconst (v := 1) hx hb dX12_setter_35 (by decide) ?_
          refine lv_goto (tgt := 40) hx hb dX12_setter_36 (by decide) ?_
          exact hj40 gmv_23 1 hvx (iv_w (iv_k (by decide) : iv 1 1 1) (by decide)) (KS_tr (L := [3, 55]) KS_rf kgv_23 (by decide)) hIv_23 (ADDS_1 fS_r_21 (by have := i32_0; have := i32_1; have := i32_2; have := i32_m1; have := (hvx).1; have := (hvx).2; have := (h_6).1; have := (h_6).2; have := (h_12).1; have := (h_12).2; have := (h_18).1; have := (h_18).2; have := (h_19).1; have := (h_19).2; have := (h_20).1; have := (h_20).2; have := (hty9).1; have := (hty9).2; have := (h_26).1; have := (h_26).2; omega) (by have := i32_0; have := i32_1; have := i32_2; have := i32_m1; have := (hvx).1; have := (hvx).2; have := (h_6).1; have := (h_6).2; have := (h_12).1; have := (h_12).2; have := (h_18).1; have := (h_18).2; have := (h_19).1; have := (h_19).2; have := (h_20).1; have := (h_20).2; have := (hty9).1; have := (hty9).2; have := (h_26).1; have := (h_26).2; omega) rfl) _ _ _ hP hD hS (lv_sub hl [0, 1, 2, 3] rfl)
