/-- the attributes of element e as the class's rows: below P5 attributes and P6 characters -/
def ATC (at9 : At7) (gm : Nat → Nat → Int32) (lg : Nat → Nat → Int64) (e : Nat) (P5 P6 : Int) : Prop := (gm 20 e).toInt = (at9.length : Int) ∧ 0 ≤ (gm 19 e).toInt ∧ (gm 19 e).toInt + (at9.length : Int) ≤ P5 ∧ ∀ k y, at9[k]? = some y → lg 0 ((gm 19 e).toInt.toNat + k) = y.1 ∧ (gm 45 ((gm 19 e).toInt.toNat + k)).toInt = (y.2.length : Int) ∧ 0 ≤ (gm 44 ((gm 19 e).toInt.toNat + k)).toInt ∧ (gm 44 ((gm 19 e).toInt.toNat + k)).toInt + (y.2.length : Int) ≤ P6 ∧ ∀ i c, y.2[i]? = some c → (gm 46 ((gm 44 ((gm 19 e).toInt.toNat + k)).toInt.toNat + i)).toInt = c
/-- what lies below P5 and P6 is as it was, and only element e's count of attributes is another one -/
def AFC (e : Nat) (gm : Nat → Nat → Int32) (lg : Nat → Nat → Int64) (gm2 : Nat → Nat → Int32) (lg2 : Nat → Nat → Int64) (P5 P6 : Int) : Prop := gm2 19 = gm 19 ∧ (∀ j, j ≠ e → gm2 20 j = gm 20 j) ∧ (∀ j : Nat, (j : Int) < P5 → lg2 0 j = lg 0 j ∧ gm2 44 j = gm 44 j ∧ gm2 45 j = gm 45 j) ∧ ∀ j : Nat, (j : Int) < P6 → gm2 46 j = gm 46 j
theorem AFC_rf {e : Nat} {gm : Nat → Nat → Int32} {lg : Nat → Nat → Int64} {P5 P6 : Int} : AFC e gm lg gm lg P5 P6 := ⟨rfl, fun _ _ => rfl, fun _ _ => ⟨rfl, rfl, rfl⟩, fun _ _ => rfl⟩
theorem AFC_tr {e : Nat} {gm gm2 gm3 : Nat → Nat → Int32} {lg lg2 lg3 : Nat → Nat → Int64} {P5 P6 Q5 Q6 : Int} (h : AFC e gm lg gm2 lg2 P5 P6) (h2 : AFC e gm2 lg2 gm3 lg3 Q5 Q6) (h5 : P5 ≤ Q5) (h6 : P6 ≤ Q6) : AFC e gm lg gm3 lg3 P5 P6 :=
  ⟨h2.1.trans h.1, fun j q => (h2.2.1 j q).trans (h.2.1 j q), fun j q => ⟨(h2.2.2.1 j (by omega)).1.trans (h.2.2.1 j q).1, (h2.2.2.1 j (by omega)).2.1.trans (h.2.2.1 j q).2.1, (h2.2.2.1 j (by omega)).2.2.trans (h.2.2.1 j q).2.2⟩, fun j q => (h2.2.2.2 j (by omega)).trans (h.2.2.2 j q)⟩
theorem AFC_k {e : Nat} {gm gm2 gm3 : Nat → Nat → Int32} {lg lg2 lg3 : Nat → Nat → Int64} {P5 P6 : Int} (h : AFC e gm lg gm2 lg2 P5 P6) (e19 : gm3 19 = gm2 19) (e20 : gm3 20 = gm2 20) (e44 : gm3 44 = gm2 44) (e45 : gm3 45 = gm2 45) (e46 : gm3 46 = gm2 46) (e0 : lg3 0 = lg2 0) : AFC e gm lg gm3 lg3 P5 P6 := by unfold AFC; rw [e19, e20, e44, e45, e46, e0]; exact h
theorem ATC_k {at9 : At7} {gm gm2 : Nat → Nat → Int32} {lg lg2 : Nat → Nat → Int64} {e : Nat} {P5 P6 Q5 Q6 : Int} (h : ATC at9 gm lg e P5 P6) (e19 : gm2 19 = gm 19) (e20 : gm2 20 = gm 20) (e44 : gm2 44 = gm 44) (e45 : gm2 45 = gm 45) (e46 : gm2 46 = gm 46) (e0 : lg2 0 = lg 0) (h5 : P5 ≤ Q5) (h6 : P6 ≤ Q6) : ATC at9 gm2 lg2 e Q5 Q6 := by
  unfold ATC; rw [e19, e20, e44, e45, e46, e0]
  exact ⟨h.1, h.2.1, Int.le_trans h.2.2.1 h5, fun k y hy => ⟨(h.2.2.2 k y hy).1, (h.2.2.2 k y hy).2.1, (h.2.2.2 k y hy).2.2.1, Int.le_trans (h.2.2.2 k y hy).2.2.2.1 h6, (h.2.2.2 k y hy).2.2.2.2⟩⟩
/-- another element's attributes stay -/
theorem ATC_o {at9 : At7} {gm gm2 : Nat → Nat → Int32} {lg lg2 : Nat → Nat → Int64} {e e2 : Nat} {P5 P6 Q5 Q6 : Int} (h : ATC at9 gm lg e P5 P6) (hf : AFC e2 gm lg gm2 lg2 P5 P6) (hne : e ≠ e2) (h5 : P5 ≤ Q5) (h6 : P6 ≤ Q6) : ATC at9 gm2 lg2 e Q5 Q6 := by
  obtain ⟨a1, a2, a3, a4⟩ := h
  refine ⟨by rw [hf.2.1 e hne]; exact a1, by rw [hf.1]; exact a2, by rw [hf.1]; omega, fun k y hy => ?_⟩
  have hk := gl_lt hy
  obtain ⟨q1, q2, q3, q4, q5⟩ := a4 k y hy
  rw [hf.1]
  obtain ⟨w1, w2, w3⟩ := hf.2.2.1 ((gm 19 e).toInt.toNat + k) (by omega)
  refine ⟨w1.trans q1, by rw [w3]; exact q2, by rw [w2]; exact q3, by rw [w2]; omega, fun i c hc => ?_⟩
  have hi := gl_lt hc
  rw [w2, hf.2.2.2 _ (by omega)]
  exact q5 i c hc
/-- one attribute more, the newest of all -/
theorem ATC_s {at9 : At7} {gm gm2 : Nat → Nat → Int32} {lg lg2 : Nat → Nat → Int64} {e : Nat} {P5 P6 Q6 : Int} {nm : Int64} {v : List Int} (h : ATC at9 gm lg e P5 P6) (hP : (gm 19 e).toInt + (at9.length : Int) = P5) (h6 : 0 ≤ P6) (e19 : gm2 19 = gm 19) (e20 : (gm2 20 e).toInt = (at9.length : Int) + 1) (e0 : lg2 0 P5.toNat = nm) (f0 : ∀ j, j ≠ P5.toNat → lg2 0 j = lg 0 j) (e44 : (gm2 44 P5.toNat).toInt = P6) (f44 : ∀ j, j ≠ P5.toNat → gm2 44 j = gm 44 j) (e45 : (gm2 45 P5.toNat).toInt = (v.length : Int)) (f45 : ∀ j, j ≠ P5.toNat → gm2 45 j = gm 45 j) (f46 : ∀ j : Nat, (j : Int) < P6 → gm2 46 j = gm 46 j) (ev : ∀ i c, v[i]? = some c → (gm2 46 (P6.toNat + i)).toInt = c) (hQ : Q6 = P6 + (v.length : Int)) : ATC (at9 ++ [(nm, v)]) gm2 lg2 e (P5 + 1) Q6 := by
  obtain ⟨a1, a2, a3, a4⟩ := h
  have hl : (at9 ++ [(nm, v)]).length = at9.length + 1 := by rw [List.length_append]; rfl
  refine ⟨by rw [e20, hl]; omega, by rw [e19]; exact a2, by rw [e19, hl]; omega, fun k y hy => ?_⟩
  have hk := gl_lt hy
  rw [hl] at hk
  rw [e19]
  by_cases hq : k < at9.length
  · rw [List.getElem?_append_left hq] at hy
    obtain ⟨q1, q2, q3, q4, q5⟩ := a4 k y hy
    have hne : (gm 19 e).toInt.toNat + k ≠ P5.toNat := by omega
    refine ⟨(f0 _ hne).trans q1, by rw [f45 _ hne]; exact q2, by rw [f44 _ hne]; exact q3, by rw [f44 _ hne]; omega, fun i c hc => ?_⟩
    have hi := gl_lt hc
    rw [f44 _ hne, f46 _ (by omega)]
    exact q5 i c hc
  · have hq2 : k = at9.length := by omega
    subst hq2
    rw [List.getElem?_append_right (Nat.le_refl _), Nat.sub_self] at hy
    have hy : some (nm, v) = some y := hy
    cases hy
    rw [show (gm 19 e).toInt.toNat + at9.length = P5.toNat by omega]
    refine ⟨e0, e45, by rw [e44]; exact h6, by rw [e44]; show P6 + (v.length : Int) ≤ Q6; omega, fun i c hc => ?_⟩
    rw [e44]
    exact ev i c hc
/-- hasKey's answer is the list's -/
theorem hsk_h {at9 : At7} {gm : Nat → Nat → Int32} {lg : Nat → Nat → Int64} {e : Nat} {P5 P6 : Int} {nn : Int64} (h : ATC at9 gm lg e P5 P6) : HSK gm lg e nn ↔ hasK at9 nn = true := by
  obtain ⟨a1, a2, a3, a4⟩ := h
  unfold HSK hasK
  rw [List.any_eq_true]
  constructor
  · rintro ⟨i, hi, hk⟩
    have hi : i < (gm 20 e).toInt.toNat := hi
    obtain ⟨y, hy⟩ := gl_s (l := at9) (k := i) (by omega)
    have hk : lg 0 ((gm 19 e).toInt.toNat + i) = nn := hk
    refine ⟨y, List.mem_of_getElem? hy, beq_iff_eq.mpr ?_⟩
    rw [← (a4 i y hy).1]; exact hk
  · rintro ⟨y, hy, hk⟩
    obtain ⟨i, hi⟩ := List.getElem?_of_mem hy
    have h1 := gl_lt hi
    exact ⟨i, (show i < (gm 20 e).toInt.toNat by omega), ((a4 i y hi).1).trans (beq_iff_eq.mp hk)⟩
/-- the newest value as it is read -/
def VLC (v : List Int) (gm : Nat → Nat → Int32) (L : Nat) (p0 : Int) (P6 : Int) : Prop := v.length ≤ 24 ∧ (gm 45 L).toInt = (v.length : Int) ∧ P6 = p0 + (v.length : Int) ∧ ∀ i c, v[i]? = some c → (gm 46 (p0.toNat + i)).toInt = c
theorem VLC_k {v : List Int} {gm gm2 : Nat → Nat → Int32} {L : Nat} {p0 P6 Q6 : Int} (h : VLC v gm L p0 P6) (e45 : gm2 45 = gm 45) (e46 : gm2 46 = gm 46) (hq : Q6 = P6) : VLC v gm2 L p0 Q6 := by unfold VLC; rw [e45, e46, hq]; exact h
theorem VLC_s {v : List Int} {gm gm2 : Nat → Nat → Int32} {L : Nat} {p0 P6 Q6 : Int} {x : Int} (h : VLC v gm L p0 P6) (h0 : 0 ≤ p0) (h24 : (gm 45 L).toInt < 24) (e45 : (gm2 45 L).toInt = (gm 45 L).toInt + 1) (e46 : (gm2 46 P6.toNat).toInt = x) (f46 : ∀ j : Nat, j ≠ P6.toNat → gm2 46 j = gm 46 j) (hq : Q6 = P6 + 1) : VLC (v ++ [x]) gm2 L p0 Q6 := by
  obtain ⟨h1, h2, h3, h4⟩ := h
  have hl : (v ++ [x]).length = v.length + 1 := by rw [List.length_append]; rfl
  refine ⟨by omega, by rw [hl, e45, h2]; omega, by rw [hl]; omega, fun i c hc => ?_⟩
  have hi := gl_lt hc
  by_cases hq : i < v.length
  · rw [List.getElem?_append_left hq] at hc
    rw [f46 _ (by omega)]
    exact h4 i c hc
  · have hq2 : i = v.length := by omega
    subst hq2
    rw [List.getElem?_append_right (Nat.le_refl _), Nat.sub_self] at hc
    have hc : some x = some c := hc
    cases hc
    rw [show p0.toNat + v.length = P6.toNat by omega]
    exact e46

set_option maxHeartbeats 4000000 in
set_option maxRecDepth 100000 in
theorem d_addAttribute2 (l : Launch) (dC : Nat → ClassId) (dI : Nat → Nat → Nat) (ad : Nat → Nat → Nat) (cid : Nat → ClassId) (a2 : Nat → Nat) (lx : List Nat) (sg : Nat → Int32) (gm : Nat → Nat → Int32) (lg : Nat → Nat → Int64) (x : Int32) (o : Int32) (k : Int64) (hI : CI sg gm) (hvx : iv 0 0 x) (hvo : iv 0 79 o) (hFA : FA sg gm) (how : o.toInt < (sg 4).toInt) (hVS : VS sg gm) (h59 : (sg 5).toInt ≤ 239) (h20 : (gm 20 o.toNatClampNeg).toInt ≤ 11) : CMt dC dI ad cid a2 lx l yX6_addAttribute wm_X6_addAttribute ({ frames := 0, cells := 1, slots := 6, locals := 0 }) [eV (ad 1) x, eV (ad 9) o, .long k] sg gm lg (fun v u => v = none ∧ ∃ (sg2 : Nat → Int32) (gm2 : Nat → Nat → Int32) (lg2 : Nat → Nat → Int64), u = (sg2, gm2, lg2) ∧ CI sg2 gm2 ∧ KS [5] sg sg2 ∧ KS [20, 44, 45] gm gm2 ∧ KS [0] lg lg2 ∧ (FA sg2 gm2) ∧ (VS sg2 gm2) ∧ ((sg2 5).toInt = (sg 5).toInt + 1) ∧ (lg2 0 = vp_updL (lg 0) (sg 5).toNatClampNeg k) ∧ (gm2 44 = upd (gm 44) (sg 5).toNatClampNeg (sg 6)) ∧ (gm2 45 = upd (gm 45) (sg 5).toNatClampNeg 0) ∧ (∃ z : Int32, z.toInt = (gm 20 o.toNatClampNeg).toInt + 1 ∧ gm2 20 = upd (gm 20) o.toNatClampNeg z)) (fun _ _ => False) := by
  intro sz
  refine vx_ofW (cc := cX6_addAttribute) (maxL := 4) (ret := none) (by decide) rfl ?_
  intro p e s m args below meth c s₁ B hml hxt hv
  obtain ⟨rfl, hsz, hP, hK, hD0, hG⟩ := hv
  have hx := B.exec
  have hb := B.bytes
  have hr := B.returns
  have hts := atoms_spec (ws := wm_X6_addAttribute) B.pre
  have htb := fun (w : Cond) (h : w ∈ tb) => hts w (List.mem_cons_of_mem _ h)
  have hown : s.vm.findClass RX6 = some m.cls := findClass_of_methodNamed B.named
  have hlocks := B.notSynchronized
  subst hsz
  have hD := hD0.self (sz := s.heap.size)
  generalize hAe : va_A (cW ad cid a2 lx sg gm lg) s.heap.size = A at hD hG ⊢
  have hA : ∀ q : Nat, s.heap.size ≤ q → A q := fun q h => by rw [← hAe]; exact Or.inr h
  have hS : va_S A s.heap s.heap [] := va_S.rf
  have hl := lv_entry ([eV (ad 1) x, eV (ad 9) o, .long k]) (n := 4) (by rw [show (lg_sl ([eV (ad 1) x, eV (ad 9) o, .long k])).length = 4 from by simp [lg_sl, eV_cat, cat_i, cat_l]]; exact Nat.le_of_ble_eq_true rfl)
  rw [lg_entry_eq]
  generalize (lg_sl ([eV (ad 1) x, eV (ad 9) o, .long k]) ++ List.replicate (4 - (lg_sl ([eV (ad 1) x, eV (ad 9) o, .long k])).length) Slot.unset).toArray = ls at hl ⊢
  have hl : lv_has ls 4 [(0, eV (ad 1) x), (1, eV (ad 9) o), (2, .long k)] := by simp [lv_args, eV_cat, cat_i, cat_l] at hl; exact hl
  have h5 : iv 0 239 (sg 5) := ⟨(show iv 0 240 (sg 5) from CI_s hI 5).1, h59⟩
  refine ec_aload_n hx hb dX6_addAttribute_0 rfl (lv_at hl 0 rfl) ?_
  refine cr_get (t := 1) (j := 1) (C := RX6) (T := TX6) (N := 8) (v := eV (ad 15) 0) hx hb htb inX6 hown hK hP hvx (by decide) (by decide) (by decide) rfl (by decide) (htb _ kw_67) (cV_c rfl (by decide) (by rw [show cMu 1 1 = 0 from rfl, Nat.zero_mul]; rfl)) dX6_addAttribute_1 ?_
  refine ec_aload_n hx hb dX6_addAttribute_4 rfl (lv_at hl 0 rfl) ?_
  refine cr_get (t := 1) (j := 6) (C := RX6) (T := TX6) (N := 8) (v := .int (sg 5)) hx hb htb inX6 hown hK hP hvx (by decide) (by decide) (by decide) rfl (by decide) (htb _ kw_346) rfl dX6_addAttribute_5 ?_
  refine lv_lload_n hx hb dX6_addAttribute_8 rfl (lv_at hl 2 rfl) ?_
  refine cr_last (z := k) hx hb hK hP hD hS (iv_k (by decide) : iv 0 0 0) (show vp_in (sg 5) 240 from (iv_in h5 (by decide))) dX6_addAttribute_9 (fun lg_1 H locs elg_1 hP hD hS => ?_)
  refine ec_aload_n hx hb dX6_addAttribute_10 rfl (lv_at hl 0 rfl) ?_
  refine cr_get (t := 1) (j := 2) (C := RX6) (T := TX6) (N := 8) (v := eV (ad 16) 0) hx hb htb inX6 hown hK hP hvx (by decide) (by decide) (by decide) rfl (by decide) (htb _ kw_68) (cV_c rfl (by decide) (by rw [show cMu 1 2 = 0 from rfl, Nat.zero_mul]; rfl)) dX6_addAttribute_11 ?_
  refine ec_aload_n hx hb dX6_addAttribute_14 rfl (lv_at hl 0 rfl) ?_
  refine cr_get (t := 1) (j := 6) (C := RX6) (T := TX6) (N := 8) (v := .int (sg 5)) hx hb htb inX6 hown hK hP hvx (by decide) (by decide) (by decide) rfl (by decide) (htb _ kw_346) rfl dX6_addAttribute_15 ?_
  refine ec_aload_n hx hb dX6_addAttribute_18 rfl (lv_at hl 0 rfl) ?_
  refine cr_get (t := 1) (j := 7) (C := RX6) (T := TX6) (N := 8) (v := .int (sg 6)) hx hb htb inX6 hown hK hP hvx (by decide) (by decide) (by decide) rfl (by decide) (htb _ kw_347) rfl dX6_addAttribute_19 ?_
  refine cr_iast (t := 16) (k := 44) (n9 := ((sg 5) : Int32).toNatClampNeg) (z := (sg 6)) hx hb hK hP hD hS (iv_k (by decide) : iv 0 0 0) (by decide) (by decide) (by decide) rfl rfl rfl (show vp_in (sg 5) (cLen 16) from (show vp_in (sg 5) 240 from (iv_in h5 (by decide)))) (Or.inl rfl) (by rw [show cAw 16 = 0 from rfl, Nat.zero_mul, Nat.zero_add]) dX6_addAttribute_22 (fun gm_2 H locs egm_2 hP hD hS => ?_)
  have hI_gm_2 := CI_st hI egm_2 (show iv 0 1200 (sg 6) from CI_s hI 6) (by decide)
  refine ec_aload_n hx hb dX6_addAttribute_23 rfl (lv_at hl 0 rfl) ?_
  refine cr_get (t := 1) (j := 3) (C := RX6) (T := TX6) (N := 8) (v := eV (ad 17) 0) hx hb htb inX6 hown hK hP hvx (by decide) (by decide) (by decide) rfl (by decide) (htb _ kw_69) (cV_c rfl (by decide) (by rw [show cMu 1 3 = 0 from rfl, Nat.zero_mul]; rfl)) dX6_addAttribute_24 ?_
  refine ec_aload_n hx hb dX6_addAttribute_27 rfl (lv_at hl 0 rfl) ?_
  refine cr_get (t := 1) (j := 6) (C := RX6) (T := TX6) (N := 8) (v := .int (sg 5)) hx hb htb inX6 hown hK hP hvx (by decide) (by decide) (by decide) rfl (by decide) (htb _ kw_346) rfl dX6_addAttribute_28 ?_
  refine lv_iconst (v := 0) hx hb dX6_addAttribute_31 (by decide) ?_
  refine cr_iast (t := 17) (k := 45) (n9 := ((sg 5) : Int32).toNatClampNeg) (z := 0) hx hb hK hP hD hS (iv_k (by decide) : iv 0 0 0) (by decide) (by decide) (by decide) rfl rfl rfl (show vp_in (sg 5) (cLen 17) from (show vp_in (sg 5) 240 from (iv_in h5 (by decide)))) (Or.inl rfl) (by rw [show cAw 17 = 0 from rfl, Nat.zero_mul, Nat.zero_add]) dX6_addAttribute_32 (fun gm_3 H locs egm_3 hP hD hS => ?_)
  have hI_gm_3 := CI_st hI_gm_2 egm_3 (iv_k (by decide) : iv 0 0 0) (by decide)
  refine ec_aload_n hx hb dX6_addAttribute_33 rfl (lv_at hl 0 rfl) ?_
  refine lv_dup hx hb dX6_addAttribute_34 (eV_cat _ _) ?_
  refine cr_get (t := 1) (j := 6) (C := RX6) (T := TX6) (N := 8) (v := .int (sg 5)) hx hb htb inX6 hown hK hP hvx (by decide) (by decide) (by decide) rfl (by decide) (htb _ kw_346) rfl dX6_addAttribute_35 ?_
  refine lv_iconst (v := 1) hx hb dX6_addAttribute_38 (by decide) ?_
  refine lv_iadd hx hb dX6_addAttribute_39 ?_
  refine lv_topi (fun z_4 ez_4 => ?_)
  have hz_4 : iv 1 240 z_4 := iv_of ez_4 (iv_add h5 (iv_k (by decide) : iv 1 1 1) (by decide))
  have tz_4 : z_4.toInt = ((sg 5) : Int32).toInt + 1 := by rw [ez_4]; exact iv_addE h5 (iv_k (by decide) : iv 1 1 1) (by decide)
  refine cr_puts (t := 1) (j := 6) (C := RX6) (T := TX6) (N := 8) (ty0 := tyX6) (k := 5) (y := z_4) hx hb htb inX6 tyX6_ok nmX6 hown hK hP hD hS hvx (by decide) (by decide) (by decide) (by decide) rfl rfl rfl (by decide) (htb _ kw_346) rfl (by show Value.int z_4 = Value.int (va_up sg 5 z_4 5); rw [va_up_self]) rfl rfl dX6_addAttribute_40 (fun sg_5 H locs esg_5 hP hD hS => ?_)
  have hI_sg_5 := CI_put hI_gm_3 esg_5 hz_4 (by decide)
  refine ec_aload_n hx hb dX6_addAttribute_43 rfl (lv_at hl 1 rfl) ?_
  refine lv_dup hx hb dX6_addAttribute_44 (eV_cat _ _) ?_
  refine cr_get (t := 9) (j := 10) (C := RX3) (T := TX3) (N := 21) (v := .int (gm_3 20 o.toNatClampNeg)) hx hb htb inX3 hown hK hP hvo (by decide) (by decide) (by decide) rfl (by decide) (htb _ kw_420) rfl dX6_addAttribute_45 ?_
  obtain ⟨z_6, ez_6⟩ : ∃ z : Int32, z = (gm_3 20 o.toNatClampNeg) := ⟨_, rfl⟩
  refine W.eq (g2 := F0 m 48 ls [.int z_6, eV (ad 9) o]) (by rw [ez_6]) ?_
  have hz_6 : iv 0 12 z_6 := iv_of ez_6 (CI_a hI_sg_5 20 hvo (by decide))
  have ez_6 := ez_6.trans (congrFun (Eq.trans (up_ne egm_3 (by decide)) (up_ne egm_2 (by decide))) _)
  have h_7 : iv 0 11 z_6 := ⟨(hz_6).1, by rw [ez_6]; exact h20⟩
  refine lv_iconst (v := 1) hx hb dX6_addAttribute_48 (by decide) ?_
  refine lv_iadd hx hb dX6_addAttribute_49 ?_
  refine lv_topi (fun z_8 ez_8 => ?_)
  have hz_8 : iv 1 12 z_8 := iv_of ez_8 (iv_add h_7 (iv_k (by decide) : iv 1 1 1) (by decide))
  have tz_8 : z_8.toInt = (z_6 : Int32).toInt + 1 := by rw [ez_8]; exact iv_addE h_7 (iv_k (by decide) : iv 1 1 1) (by decide)
  refine cr_putg (t := 9) (j := 10) (C := RX3) (T := TX3) (N := 21) (ty0 := tyX3) (k := 20) (y := z_8) hx hb htb inX3 tyX3_ok nmX3 hown hK hP hD hS hvo (by decide) (by decide) (by decide) (by decide) rfl rfl (by decide) (htb _ kw_420) rfl (by show Value.int z_8 = Value.int (va_up gm_3 20 (upd (gm_3 20) o.toNatClampNeg z_8) 20 o.toNatClampNeg); rw [va_up_self, upd_at]) rfl rfl dX6_addAttribute_50 (fun gm_9 H locs egm_9 hP hD hS => ?_)
  have hI_gm_9 := CI_st hI_sg_5 egm_9 hz_8 (by decide)
  exact W.nb (fun hN => W.widen (k := 1) (n := 6) (by decide) (by decide) (vx_ret (W.vret hx hb hr (fun t ht hW => ⟨⟨none, (sg_5, gm_9, lg_1), rfl, ⟨rfl, sg_5, gm_9, lg_1, rfl, hI_gm_9, (KS_up KS_rf esg_5 (by decide)), (KS_up (KS_up (KS_up KS_rf egm_2 (by decide)) egm_3 (by decide)) egm_9 (by decide)), (KS_up KS_rf elg_1 (by decide)), (FA_add hFA hvo.1 how (up_ne esg_5 (by decide)) (by have := i32_0; have := i32_1; have := i32_2; have := i32_m1; have := congrArg Int32.toInt (show sg_5 5 = z_4 from up_at esg_5); have := (hz_4).1; have := (hz_4).2; have := (hvx).1; have := (hvx).2; have := (hvo).1; have := (hvo).2; have := (h5).1; have := (h5).2; have := ((show iv 0 1200 (sg 6) from CI_s hI 6)).1; have := ((show iv 0 1200 (sg 6) from CI_s hI 6)).2; have := (h_7).1; have := (h_7).2; have := (hz_8).1; have := (hz_8).2; omega) (Eq.trans (Eq.trans (up_ne egm_9 (by decide)) (up_ne egm_3 (by decide))) (up_ne egm_2 (by decide))) (show gm_9 20 = upd (gm 20) (o : Int32).toNatClampNeg z_8 from ((up_at egm_9).trans (by rw [show gm_3 20 = gm 20 from ((up_ne egm_3 (by decide)).trans ((up_ne egm_2 (by decide)).trans rfl))]))) ez_6 tz_8), (VS_add hVS h5.1 (by have := i32_0; have := i32_1; have := i32_2; have := i32_m1; have := congrArg Int32.toInt (show sg_5 5 = z_4 from up_at esg_5); have := (hz_4).1; have := (hz_4).2; have := (hvx).1; have := (hvx).2; have := (hvo).1; have := (hvo).2; have := (h5).1; have := (h5).2; have := ((show iv 0 1200 (sg 6) from CI_s hI 6)).1; have := ((show iv 0 1200 (sg 6) from CI_s hI 6)).2; have := (h_7).1; have := (h_7).2; have := (hz_8).1; have := (hz_8).2; omega) (up_ne esg_5 (by decide)) (show gm_9 44 = upd (gm 44) ((sg 5) : Int32).toNatClampNeg (sg 6) from ((up_ne egm_9 (by decide)).trans ((up_ne egm_3 (by decide)).trans ((up_at egm_2).trans (by rw [show gm 44 = gm 44 from rfl]))))) (show gm_9 45 = upd (gm 45) ((sg 5) : Int32).toNatClampNeg 0 from ((up_ne egm_9 (by decide)).trans ((up_at egm_3).trans (by rw [show gm_2 45 = gm 45 from ((up_ne egm_2 (by decide)).trans rfl)])))) rfl), (by have := i32_0; have := i32_1; have := i32_2; have := i32_m1; have := congrArg Int32.toInt (show sg_5 5 = z_4 from up_at esg_5); have := (hz_4).1; have := (hz_4).2; have := (hvx).1; have := (hvx).2; have := (hvo).1; have := (hvo).2; have := (h5).1; have := (h5).2; have := ((show iv 0 1200 (sg 6) from CI_s hI 6)).1; have := ((show iv 0 1200 (sg 6) from CI_s hI 6)).2; have := (h_7).1; have := (h_7).2; have := (hz_8).1; have := (hz_8).2; omega), ((show lg_1 0 = vp_updL (lg 0) ((sg 5) : Int32).toNatClampNeg k from ((up_at elg_1).trans (by rw [show lg 0 = lg 0 from rfl])))), ((show gm_9 44 = upd (gm 44) ((sg 5) : Int32).toNatClampNeg (sg 6) from ((up_ne egm_9 (by decide)).trans ((up_ne egm_3 (by decide)).trans ((up_at egm_2).trans (by rw [show gm 44 = gm 44 from rfl])))))), ((show gm_9 45 = upd (gm 45) ((sg 5) : Int32).toNatClampNeg 0 from ((up_ne egm_9 (by decide)).trans ((up_at egm_3).trans (by rw [show gm_2 45 = gm 45 from ((up_ne egm_2 (by decide)).trans rfl)]))))), (⟨z_8, (by have := tz_8; have := congrArg Int32.toInt ez_6; omega), (show gm_9 20 = upd (gm 20) (o : Int32).toNatClampNeg z_8 from ((up_at egm_9).trans (by rw [show gm_3 20 = gm 20 from ((up_ne egm_3 (by decide)).trans ((up_ne egm_2 (by decide)).trans rfl))])))⟩)⟩, by rw [ht]; exact hP, va_K.moved hW.alike hK, hD⟩, hS.F ht, by rw [ht]; exact hN⟩) hS.2.2 dX6_addAttribute_53)))

set_option maxHeartbeats 4000000 in
set_option maxRecDepth 100000 in
theorem d_takesValue2 (l : Launch) (dC : Nat → ClassId) (dI : Nat → Nat → Nat) (ad : Nat → Nat → Nat) (cid : Nat → ClassId) (a2 : Nat → Nat) (lx : List Nat) (sg : Nat → Int32) (gm : Nat → Nat → Int32) (lg : Nat → Nat → Int64) (x : Int32) (cc : Int32) (hI : CI sg gm) (hvx : iv 0 0 x) (hvcc : iv 0 65535 cc) (hVS : VS sg gm) (hV5 : 1 ≤ (sg 5).toInt) (hV6 : (sg 6).toInt < 1200) : CMt dC dI ad cid a2 lx l yX6_takesValue wm_X6_takesValue ({ frames := 0, cells := 1, slots := 6, locals := 0 }) [eV (ad 1) x, .int cc] sg gm lg (fun v u => ∃ r : Int32, v = some (.int r) ∧ ∃ (sg2 : Nat → Int32) (gm2 : Nat → Nat → Int32) (lg2 : Nat → Nat → Int64), u = (sg2, gm2, lg2) ∧ CI sg2 gm2 ∧ KS [6] sg sg2 ∧ KS [45, 46] gm gm2 ∧ KS [] lg lg2 ∧ (iv 0 1 r) ∧ (VS sg2 gm2) ∧ ((r.toInt = 0 ∧ 24 ≤ (gm 45 ((sg 5).toInt - 1).toNat).toInt) ∨ (r.toInt = 1 ∧ (gm 45 ((sg 5).toInt - 1).toNat).toInt < 24 ∧ (sg2 6).toInt = (sg 6).toInt + 1 ∧ gm2 46 = upd (gm 46) (sg 6).toNatClampNeg cc ∧ ∃ z : Int32, z.toInt = (gm 45 ((sg 5).toInt - 1).toNat).toInt + 1 ∧ gm2 45 = upd (gm 45) ((sg 5).toInt - 1).toNat z))) (fun _ _ => False) := by
  intro sz
  refine vx_ofW (cc := cX6_takesValue) (maxL := 3) (ret := (some .boolean)) (by decide) rfl ?_
  intro p e s m args below meth c s₁ B hml hxt hv
  obtain ⟨rfl, hsz, hP, hK, hD0, hG⟩ := hv
  have hx := B.exec
  have hb := B.bytes
  have hr := B.returns
  have hts := atoms_spec (ws := wm_X6_takesValue) B.pre
  have htb := fun (w : Cond) (h : w ∈ tb) => hts w (List.mem_cons_of_mem _ h)
  have hown : s.vm.findClass RX6 = some m.cls := findClass_of_methodNamed B.named
  have hlocks := B.notSynchronized
  subst hsz
  have hD := hD0.self (sz := s.heap.size)
  generalize hAe : va_A (cW ad cid a2 lx sg gm lg) s.heap.size = A at hD hG ⊢
  have hA : ∀ q : Nat, s.heap.size ≤ q → A q := fun q h => by rw [← hAe]; exact Or.inr h
  have hS : va_S A s.heap s.heap [] := va_S.rf
  have hl := lv_entry ([eV (ad 1) x, .int cc]) (n := 3) (by rw [show (lg_sl ([eV (ad 1) x, .int cc])).length = 2 from by simp [lg_sl, eV_cat, cat_i, cat_l]]; exact Nat.le_of_ble_eq_true rfl)
  rw [lg_entry_eq]
  generalize (lg_sl ([eV (ad 1) x, .int cc]) ++ List.replicate (3 - (lg_sl ([eV (ad 1) x, .int cc])).length) Slot.unset).toArray = ls at hl ⊢
  have hl : lv_has ls 3 [(0, eV (ad 1) x), (1, .int cc)] := by simp [lv_args, eV_cat, cat_i, cat_l] at hl; exact hl
  have hj34 : ∀ (x2_34 : Int32) (_ : iv (-1) 239 x2_34) (_ : iv 0 0 x) (_ : iv 0 65535 cc) (_ : ((0 : Int32).toInt = 0 ∧ 24 ≤ (gm 45 ((sg 5).toInt - 1).toNat).toInt) ∨ ((0 : Int32).toInt = 1 ∧ (gm 45 ((sg 5).toInt - 1).toNat).toInt < 24 ∧ (sg 6).toInt = (sg 6).toInt + 1 ∧ gm 46 = upd (gm 46) (sg 6).toNatClampNeg cc ∧ ∃ z : Int32, z.toInt = (gm 45 ((sg 5).toInt - 1).toNat).toInt + 1 ∧ gm 45 = upd (gm 45) ((sg 5).toInt - 1).toNat z)) (H : Heap) (locs : List Loc) (ls : Array Slot), va_P (dC, dI) vwCl (cW ad cid a2 lx sg gm lg) H → va_D A (cW ad cid a2 lx sg gm lg) → va_S A s.heap H locs → lv_has ls 3 [(2, .int x2_34), (0, eV (ad 1) x), (1, .int cc)] → W p l e (headSpec wm_X6_takesValue ({ frames := 0, cells := 1, slots := 6, locals := 0 })).room s m ([eV (ad 1) x, .int cc] : List Value).toArray below meth c H locs 0 0 (vx_MQ below (cQx dC dI ad cid a2 lx (fun v u => ∃ r : Int32, v = some (.int r) ∧ ∃ (sg2 : Nat → Int32) (gm2 : Nat → Nat → Int32) (lg2 : Nat → Nat → Int64), u = (sg2, gm2, lg2) ∧ CI sg2 gm2 ∧ KS [6] sg sg2 ∧ KS [45, 46] gm gm2 ∧ KS [] lg lg2 ∧ (iv 0 1 r) ∧ (VS sg2 gm2) ∧ ((r.toInt = 0 ∧ 24 ≤ (gm 45 ((sg 5).toInt - 1).toNat).toInt) ∨ (r.toInt = 1 ∧ (gm 45 ((sg 5).toInt - 1).toNat).toInt < 24 ∧ (sg2 6).toInt = (sg 6).toInt + 1 ∧ gm2 46 = upd (gm 46) (sg 6).toNatClampNeg cc ∧ ∃ z : Int32, z.toInt = (gm 45 ((sg 5).toInt - 1).toNat).toInt + 1 ∧ gm2 45 = upd (gm 45) ((sg 5).toInt - 1).toNat z))) A) (cX dC dI ad cid a2 lx (fun _ _ => False) A) ([eV (ad 1) x, .int cc] : List Value).toArray s 1 6 A) (F0 m 34 ls []) := by
    intro x2_34 hx2_34 hsx0_34 hsx1_34 u34 H locs ls hP hD hS hl
    refine lv_iconst (v := 0) hx hb dX6_takesValue_34 (by decide) ?_
    exact W.nb (fun hN => W.widen (k := 1) (n := 6) (by decide) (by decide) (vx_ret (W.zret (v := 0) hx hb hr (iv_nb (iv_w (iv_k (by decide) : iv 0 0 0) (by decide))) (fun t ht hW => ⟨⟨some (.int 0), (sg, gm, lg), rfl, ⟨0, rfl, sg, gm, lg, rfl, hI, KS_rf, KS_rf, KS_rf, (iv_w (iv_k (by decide) : iv 0 0 0) (by decide)), (hVS), (u34)⟩, by rw [ht]; exact hP, va_K.moved hW.alike hK, hD⟩, hS.F ht, by rw [ht]; exact hN⟩) hS.2.2 dX6_takesValue_35)))
  refine ec_aload_n hx hb dX6_takesValue_0 rfl (lv_at hl 0 rfl) ?_
  refine cr_get (t := 1) (j := 6) (C := RX6) (T := TX6) (N := 8) (v := .int (sg 5)) hx hb htb inX6 hown hK hP hvx (by decide) (by decide) (by decide) rfl (by decide) (htb _ kw_346) rfl dX6_takesValue_1 ?_
  refine lv_iconst (v := 1) hx hb dX6_takesValue_4 (by decide) ?_
  refine lv_isub hx hb dX6_takesValue_5 ?_
  refine lv_topi (fun z_1 ez_1 => ?_)
  have hz_1 : iv (-1) 239 z_1 := iv_of ez_1 (iv_sub (show iv 0 240 (sg 5) from CI_s hI 5) (iv_k (by decide) : iv 1 1 1) (by decide))
  have tz_1 : z_1.toInt = ((sg 5) : Int32).toInt - 1 := by rw [ez_1]; exact iv_subE (show iv 0 240 (sg 5) from CI_s hI 5) (iv_k (by decide) : iv 1 1 1) (by decide)
  refine lv_istore_n (i := 2) (lv' := [(2, .int z_1), (0, eV (ad 1) x), (1, .int cc)]) hx hb dX6_takesValue_6 rfl hl (by decide) rfl (fun ls hl => ?_)
  refine lv_iload_n hx hb dX6_takesValue_7 rfl (lv_at hl 0 rfl) ?_
  refine lv_if_lt (tgt := 34) hx hb dX6_takesValue_8 (by decide) (fun c_2 => ?_) (fun c_2 => ?_)
  · have h_3 : iv (-1) (-1) z_1 := iv_ltL c_2 hz_1 (iv_k (by decide) : iv 0 0 0) (by decide)
    exact hj34 z_1 (iv_w h_3 (by decide)) hvx hvcc (absurd hV5 (by have := i32_0; have := i32_1; have := i32_2; have := i32_m1; have := (show iv 0 240 (sg 5) from CI_s hI 5).1; have := (show iv 0 240 (sg 5) from CI_s hI 5).2; have := (hvx).1; have := (hvx).2; have := (hvcc).1; have := (hvcc).2; have := ((show iv 0 240 (sg 5) from CI_s hI 5)).1; have := ((show iv 0 240 (sg 5) from CI_s hI 5)).2; have := (h_3).1; have := (h_3).2; have := tz_1; omega)) _ _ _ hP hD hS (lv_sub hl [0, 1, 2] rfl)
  · have h_4 : iv 0 239 z_1 := iv_leR (i32_ge c_2) (iv_k (by decide) : iv 0 0 0) hz_1 (by decide)
    refine ec_aload_n hx hb dX6_takesValue_11 rfl (lv_at hl 1 rfl) ?_
    refine cr_get (t := 1) (j := 3) (C := RX6) (T := TX6) (N := 8) (v := eV (ad 17) 0) hx hb htb inX6 hown hK hP hvx (by decide) (by decide) (by decide) rfl (by decide) (htb _ kw_69) (cV_c rfl (by decide) (by rw [show cMu 1 3 = 0 from rfl, Nat.zero_mul]; rfl)) dX6_takesValue_12 ?_
    refine lv_iload_n hx hb dX6_takesValue_15 rfl (lv_at hl 0 rfl) ?_
    refine cr_iald (t := 17) (z := (gm 45 (z_1 : Int32).toNatClampNeg)) hx hb hK hP (iv_k (by decide) : iv 0 0 0) (by decide) (by decide) (by decide) rfl rfl (show vp_in z_1 (cLen 17) from (show vp_in z_1 240 from (iv_in h_4 (by decide)))) rfl dX6_takesValue_16 ?_
    obtain ⟨z_5, ez_5⟩ : ∃ z : Int32, z = (gm 45 (z_1 : Int32).toNatClampNeg) := ⟨_, rfl⟩
    refine W.eq (g2 := F0 m 17 ls [.int z_5]) (by rw [ez_5]) ?_
    have hz_5 : iv 0 24 z_5 := iv_of ez_5 (CI_a hI 45 h_4 (by decide))
    refine lv_bipush (v := 24) hx hb dX6_takesValue_17 (by decide) ?_
    refine lv_icmp_ge (tgt := 34) hx hb dX6_takesValue_19 (by decide) (fun c_6 => ?_) (fun c_6 => ?_)
    · have h_7 : iv 24 24 z_5 := iv_leR c_6 (iv_k (by decide) : iv 24 24 24) hz_5 (by decide)
      exact hj34 z_1 (iv_w h_4 (by decide)) hvx hvcc (Or.inl ⟨rfl, (by rw [show ((sg 5).toInt - 1).toNat = z_1.toNatClampNeg from (by show _ = z_1.toInt.toNat; have := tz_1; have := i32_0; have := i32_1; have := i32_2; have := i32_m1; have := (show iv 0 240 (sg 5) from CI_s hI 5).1; have := (show iv 0 240 (sg 5) from CI_s hI 5).2; have := (hvx).1; have := (hvx).2; have := (hvcc).1; have := (hvcc).2; have := ((show iv 0 240 (sg 5) from CI_s hI 5)).1; have := ((show iv 0 240 (sg 5) from CI_s hI 5)).2; have := (h_4).1; have := (h_4).2; have := (h_7).1; have := (h_7).2; omega)]; have := congrArg Int32.toInt ez_5; have := i32_0; have := i32_1; have := i32_2; have := i32_m1; have := (hvx).1; have := (hvx).2; have := (hvcc).1; have := (hvcc).2; have := ((show iv 0 240 (sg 5) from CI_s hI 5)).1; have := ((show iv 0 240 (sg 5) from CI_s hI 5)).2; have := (h_4).1; have := (h_4).2; have := (h_7).1; have := (h_7).2; omega)⟩) _ _ _ hP hD hS (lv_sub hl [0, 1, 2] rfl)
    · have h_8 : iv 0 23 z_5 := iv_ltL (i32_lt c_6) hz_5 (iv_k (by decide) : iv 24 24 24) (by decide)
      refine ec_aload_n hx hb dX6_takesValue_22 rfl (lv_at hl 1 rfl) ?_
      refine cr_get (t := 1) (j := 7) (C := RX6) (T := TX6) (N := 8) (v := .int (sg 6)) hx hb htb inX6 hown hK hP hvx (by decide) (by decide) (by decide) rfl (by decide) (htb _ kw_347) rfl dX6_takesValue_23 ?_
      refine ec_aload_n hx hb dX6_takesValue_26 rfl (lv_at hl 1 rfl) ?_
      refine cr_get (t := 1) (j := 4) (C := RX6) (T := TX6) (N := 8) (v := eV (ad 18) 0) hx hb htb inX6 hown hK hP hvx (by decide) (by decide) (by decide) rfl (by decide) (htb _ kw_70) (cV_c rfl (by decide) (by rw [show cMu 1 4 = 0 from rfl, Nat.zero_mul]; rfl)) dX6_takesValue_27 ?_
      refine cr_alen (t := 18) (z := 1200) hx hb hK hP (iv_k (by decide) : iv 0 0 0) (by decide) (by decide) (by decide) rfl dX6_takesValue_30 ?_
      refine lv_icmp_lt (tgt := 36) hx hb dX6_takesValue_31 (by decide) (fun c_9 => ?_) (fun c_9 => ?_)
      · have h_10 : iv 0 1199 (sg 6) := iv_ltL c_9 (show iv 0 1200 (sg 6) from CI_s hI 6) (iv_k (by decide) : iv 1200 1200 1200) (by decide)
        refine ec_aload_n hx hb dX6_takesValue_36 rfl (lv_at hl 1 rfl) ?_
        refine cr_get (t := 1) (j := 4) (C := RX6) (T := TX6) (N := 8) (v := eV (ad 18) 0) hx hb htb inX6 hown hK hP hvx (by decide) (by decide) (by decide) rfl (by decide) (htb _ kw_70) (cV_c rfl (by decide) (by rw [show cMu 1 4 = 0 from rfl, Nat.zero_mul]; rfl)) dX6_takesValue_37 ?_
        refine ec_aload_n hx hb dX6_takesValue_40 rfl (lv_at hl 1 rfl) ?_
        refine cr_get (t := 1) (j := 7) (C := RX6) (T := TX6) (N := 8) (v := .int (sg 6)) hx hb htb inX6 hown hK hP hvx (by decide) (by decide) (by decide) rfl (by decide) (htb _ kw_347) rfl dX6_takesValue_41 ?_
        refine lv_iload_n hx hb dX6_takesValue_44 rfl (lv_at hl 2 rfl) ?_
        refine cr_cast (t := 18) (k := 46) (n9 := ((sg 6) : Int32).toNatClampNeg) (z := cc) hx hb hK hP hD hS (iv_k (by decide) : iv 0 0 0) (by decide) (by decide) (by decide) rfl rfl rfl (show vp_in (sg 6) (cLen 18) from (show vp_in (sg 6) 1200 from (iv_in h_10 (by decide)))) (Or.inl rfl) (by rw [show cAw 18 = 0 from rfl, Nat.zero_mul, Nat.zero_add]) dX6_takesValue_45 (fun gm_11 H locs egm_11 hP hD hS => ?_)
        rw [vnc hvcc] at egm_11
        have hI_gm_11 := CI_st hI egm_11 hvcc (by decide)
        refine ec_aload_n hx hb dX6_takesValue_46 rfl (lv_at hl 1 rfl) ?_
        refine lv_dup hx hb dX6_takesValue_47 (eV_cat _ _) ?_
        refine cr_get (t := 1) (j := 7) (C := RX6) (T := TX6) (N := 8) (v := .int (sg 6)) hx hb htb inX6 hown hK hP hvx (by decide) (by decide) (by decide) rfl (by decide) (htb _ kw_347) rfl dX6_takesValue_48 ?_
        refine lv_iconst (v := 1) hx hb dX6_takesValue_51 (by decide) ?_
        refine lv_iadd hx hb dX6_takesValue_52 ?_
        refine lv_topi (fun z_12 ez_12 => ?_)
        have hz_12 : iv 1 1200 z_12 := iv_of ez_12 (iv_add h_10 (iv_k (by decide) : iv 1 1 1) (by decide))
        have tz_12 : z_12.toInt = ((sg 6) : Int32).toInt + 1 := by rw [ez_12]; exact iv_addE h_10 (iv_k (by decide) : iv 1 1 1) (by decide)
        refine cr_puts (t := 1) (j := 7) (C := RX6) (T := TX6) (N := 8) (ty0 := tyX6) (k := 6) (y := z_12) hx hb htb inX6 tyX6_ok nmX6 hown hK hP hD hS hvx (by decide) (by decide) (by decide) (by decide) rfl rfl rfl (by decide) (htb _ kw_347) rfl (by show Value.int z_12 = Value.int (va_up sg 6 z_12 6); rw [va_up_self]) rfl rfl dX6_takesValue_53 (fun sg_13 H locs esg_13 hP hD hS => ?_)
        have hI_sg_13 := CI_put hI_gm_11 esg_13 hz_12 (by decide)
        refine ec_aload_n hx hb dX6_takesValue_56 rfl (lv_at hl 1 rfl) ?_
        refine cr_get (t := 1) (j := 3) (C := RX6) (T := TX6) (N := 8) (v := eV (ad 17) 0) hx hb htb inX6 hown hK hP hvx (by decide) (by decide) (by decide) rfl (by decide) (htb _ kw_69) (cV_c rfl (by decide) (by rw [show cMu 1 3 = 0 from rfl, Nat.zero_mul]; rfl)) dX6_takesValue_57 ?_
        refine lv_iload_n hx hb dX6_takesValue_60 rfl (lv_at hl 0 rfl) ?_
        refine lv_dup2_11 hx hb dX6_takesValue_61 rfl (eV_cat _ _) ?_
        refine cr_iald (t := 17) (z := (gm_11 45 (z_1 : Int32).toNatClampNeg)) hx hb hK hP (iv_k (by decide) : iv 0 0 0) (by decide) (by decide) (by decide) rfl rfl (show vp_in z_1 (cLen 17) from (show vp_in z_1 240 from (iv_in h_4 (by decide)))) rfl dX6_takesValue_62 ?_
        refine W.eq (g2 := F0 m 63 ls [.int z_5, .int z_1, eV (ad 17) 0]) (by rw [show (gm_11 45 (z_1 : Int32).toNatClampNeg) = z_5 from (Eq.trans (congrFun (up_ne egm_11 (by decide)) _) ez_5.symm)]) ?_
        refine lv_iconst (v := 1) hx hb dX6_takesValue_63 (by decide) ?_
        refine lv_iadd hx hb dX6_takesValue_64 ?_
        refine lv_topi (fun z_14 ez_14 => ?_)
        have hz_14 : iv 1 24 z_14 := iv_of ez_14 (iv_add h_8 (iv_k (by decide) : iv 1 1 1) (by decide))
        have tz_14 : z_14.toInt = (z_5 : Int32).toInt + 1 := by rw [ez_14]; exact iv_addE h_8 (iv_k (by decide) : iv 1 1 1) (by decide)
        refine cr_iast (t := 17) (k := 45) (n9 := (z_1 : Int32).toNatClampNeg) (z := z_14) hx hb hK hP hD hS (iv_k (by decide) : iv 0 0 0) (by decide) (by decide) (by decide) rfl rfl rfl (show vp_in z_1 (cLen 17) from (show vp_in z_1 240 from (iv_in h_4 (by decide)))) (Or.inl rfl) (by rw [show cAw 17 = 0 from rfl, Nat.zero_mul, Nat.zero_add]) dX6_takesValue_65 (fun gm_15 H locs egm_15 hP hD hS => ?_)
        have hI_gm_15 := CI_st hI_sg_13 egm_15 hz_14 (by decide)
        refine lv_iconst (v := 1) hx hb dX6_takesValue_66 (by decide) ?_
        exact W.nb (fun hN => W.widen (k := 1) (n := 6) (by decide) (by decide) (vx_ret (W.zret (v := 1) hx hb hr (iv_nb (iv_w (iv_k (by decide) : iv 1 1 1) (by decide))) (fun t ht hW => ⟨⟨some (.int 1), (sg_13, gm_15, lg), rfl, ⟨1, rfl, sg_13, gm_15, lg, rfl, hI_gm_15, (KS_up KS_rf esg_13 (by decide)), (KS_up (KS_up KS_rf egm_11 (by decide)) egm_15 (by decide)), KS_rf, (iv_w (iv_k (by decide) : iv 1 1 1) (by decide)), (VS_take hVS (h_4).1 (by have := i32_0; have := i32_1; have := i32_2; have := i32_m1; have := congrArg Int32.toInt (show sg_13 5 = sg 5 from up_ne esg_13 (by decide)); have := (show iv 0 240 (sg 5) from CI_s hI 5).1; have := (show iv 0 240 (sg 5) from CI_s hI 5).2; have := (hvx).1; have := (hvx).2; have := (hvcc).1; have := (hvcc).2; have := ((show iv 0 240 (sg 5) from CI_s hI 5)).1; have := ((show iv 0 240 (sg 5) from CI_s hI 5)).2; have := (h_4).1; have := (h_4).2; have := (h_8).1; have := (h_8).2; have := (h_10).1; have := (h_10).2; have := (hz_12).1; have := (hz_12).2; have := (hz_14).1; have := (hz_14).2; omega) (up_ne esg_13 (by decide)) (by have := i32_0; have := i32_1; have := i32_2; have := i32_m1; have := congrArg Int32.toInt (show sg_13 6 = z_12 from up_at esg_13); have := (hz_12).1; have := (hz_12).2; have := (hvx).1; have := (hvx).2; have := (hvcc).1; have := (hvcc).2; have := ((show iv 0 240 (sg 5) from CI_s hI 5)).1; have := ((show iv 0 240 (sg 5) from CI_s hI 5)).2; have := (h_4).1; have := (h_4).2; have := (h_8).1; have := (h_8).2; have := (h_10).1; have := (h_10).2; have := (hz_14).1; have := (hz_14).2; omega) (Eq.trans (up_ne egm_15 (by decide)) (up_ne egm_11 (by decide))) (show gm_15 45 = upd (gm 45) (z_1 : Int32).toNatClampNeg z_14 from ((up_at egm_15).trans (by rw [show gm_11 45 = gm 45 from ((up_ne egm_11 (by decide)).trans rfl)]))) ez_5 tz_14), (Or.inr ⟨rfl, (by rw [← (show z_1.toNatClampNeg = ((sg 5).toInt - 1).toNat from (by show z_1.toInt.toNat = _; have := tz_1; have := i32_0; have := i32_1; have := i32_2; have := i32_m1; have := congrArg Int32.toInt (show sg_13 5 = sg 5 from up_ne esg_13 (by decide)); have := (show iv 0 240 (sg 5) from CI_s hI 5).1; have := (show iv 0 240 (sg 5) from CI_s hI 5).2; have := (hvx).1; have := (hvx).2; have := (hvcc).1; have := (hvcc).2; have := ((show iv 0 240 (sg 5) from CI_s hI 5)).1; have := ((show iv 0 240 (sg 5) from CI_s hI 5)).2; have := (h_4).1; have := (h_4).2; have := (h_8).1; have := (h_8).2; have := (h_10).1; have := (h_10).2; have := (hz_12).1; have := (hz_12).2; have := (hz_14).1; have := (hz_14).2; omega))]; have := congrArg Int32.toInt ez_5; have := i32_0; have := i32_1; have := i32_2; have := i32_m1; have := (hvx).1; have := (hvx).2; have := (hvcc).1; have := (hvcc).2; have := ((show iv 0 240 (sg 5) from CI_s hI 5)).1; have := ((show iv 0 240 (sg 5) from CI_s hI 5)).2; have := (h_4).1; have := (h_4).2; have := (h_8).1; have := (h_8).2; have := (h_10).1; have := (h_10).2; have := (hz_12).1; have := (hz_12).2; have := (hz_14).1; have := (hz_14).2; omega), by have := i32_0; have := i32_1; have := i32_2; have := i32_m1; have := congrArg Int32.toInt (show sg_13 6 = z_12 from up_at esg_13); have := (hz_12).1; have := (hz_12).2; have := (hvx).1; have := (hvx).2; have := (hvcc).1; have := (hvcc).2; have := ((show iv 0 240 (sg 5) from CI_s hI 5)).1; have := ((show iv 0 240 (sg 5) from CI_s hI 5)).2; have := (h_4).1; have := (h_4).2; have := (h_8).1; have := (h_8).2; have := (h_10).1; have := (h_10).2; have := (hz_14).1; have := (hz_14).2; omega, (show gm_15 46 = upd (gm 46) ((sg 6) : Int32).toNatClampNeg cc from ((up_ne egm_15 (by decide)).trans ((up_at egm_11).trans (by rw [show gm 46 = gm 46 from rfl])))), z_14, (by rw [← (show z_1.toNatClampNeg = ((sg 5).toInt - 1).toNat from (by show z_1.toInt.toNat = _; have := tz_1; have := i32_0; have := i32_1; have := i32_2; have := i32_m1; have := congrArg Int32.toInt (show sg_13 5 = sg 5 from up_ne esg_13 (by decide)); have := (show iv 0 240 (sg 5) from CI_s hI 5).1; have := (show iv 0 240 (sg 5) from CI_s hI 5).2; have := (hvx).1; have := (hvx).2; have := (hvcc).1; have := (hvcc).2; have := ((show iv 0 240 (sg 5) from CI_s hI 5)).1; have := ((show iv 0 240 (sg 5) from CI_s hI 5)).2; have := (h_4).1; have := (h_4).2; have := (h_8).1; have := (h_8).2; have := (h_10).1; have := (h_10).2; have := (hz_12).1; have := (hz_12).2; have := (hz_14).1; have := (hz_14).2; omega))]; have := tz_14; have := congrArg Int32.toInt ez_5; omega), (by rw [← (show z_1.toNatClampNeg = ((sg 5).toInt - 1).toNat from (by show z_1.toInt.toNat = _; have := tz_1; have := i32_0; have := i32_1; have := i32_2; have := i32_m1; have := congrArg Int32.toInt (show sg_13 5 = sg 5 from up_ne esg_13 (by decide)); have := (show iv 0 240 (sg 5) from CI_s hI 5).1; have := (show iv 0 240 (sg 5) from CI_s hI 5).2; have := (hvx).1; have := (hvx).2; have := (hvcc).1; have := (hvcc).2; have := ((show iv 0 240 (sg 5) from CI_s hI 5)).1; have := ((show iv 0 240 (sg 5) from CI_s hI 5)).2; have := (h_4).1; have := (h_4).2; have := (h_8).1; have := (h_8).2; have := (h_10).1; have := (h_10).2; have := (hz_12).1; have := (hz_12).2; have := (hz_14).1; have := (hz_14).2; omega))]; exact (show gm_15 45 = upd (gm 45) (z_1 : Int32).toNatClampNeg z_14 from ((up_at egm_15).trans (by rw [show gm_11 45 = gm 45 from ((up_ne egm_11 (by decide)).trans rfl)]))))⟩)⟩, by rw [ht]; exact hP, va_K.moved hW.alike hK, hD⟩, hS.F ht, by rw [ht]; exact hN⟩) hS.2.2 dX6_takesValue_67)))
      · have h_16 : iv 1200 1200 (sg 6) := iv_leR (i32_ge c_9) (iv_k (by decide) : iv 1200 1200 1200) (show iv 0 1200 (sg 6) from CI_s hI 6) (by decide)
        exact hj34 z_1 (iv_w h_4 (by decide)) hvx hvcc (absurd hV6 (by have := i32_0; have := i32_1; have := i32_2; have := i32_m1; have := (show iv 0 1200 (sg 6) from CI_s hI 6).1; have := (show iv 0 1200 (sg 6) from CI_s hI 6).2; have := (hvx).1; have := (hvx).2; have := (hvcc).1; have := (hvcc).2; have := ((show iv 0 240 (sg 5) from CI_s hI 5)).1; have := ((show iv 0 240 (sg 5) from CI_s hI 5)).2; have := (h_4).1; have := (h_4).2; have := (h_8).1; have := (h_8).2; have := (h_16).1; have := (h_16).2; omega)) _ _ _ hP hD hS (lv_sub hl [0, 1, 2] rfl)
