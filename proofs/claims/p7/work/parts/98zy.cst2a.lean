theorem er_in {ad : Nat → Nat → Nat} {cid : Nat → ClassId} {a2 : Nat → Nat} {lx : List Nat} {sg : Nat → Int32} {gm : Nat → Nat → Int32} {lg : Nat → Nat → Int64} {A : Nat → Prop} (hD : va_D A (cW ad cid a2 lx sg gm lg)) {t : Nat} {x y : Int32} (ht : t < 32) (hx : 0 ≤ x.toInt) (hxn : x.toInt.toNat < cNum t) (hy : -1 ≤ y.toInt) (hyn : y.toInt.toNat < cNum t) (h : er (ad t) x = er (ad t) y) : x.toInt = y.toInt := by
  by_cases hy0 : 0 ≤ y.toInt
  · obtain ⟨i, hi⟩ := cPL_at (t := t) (i := x.toNatClampNeg) ht hxn
    obtain ⟨j, hj⟩ := cPL_at (t := t) (i := y.toNatClampNeg) ht hyn
    rw [er_some hx, er_some hy0] at h
    have h := Option.some.inj h
    have e := hD.1 i j _ _ (cW_at hi) (cW_at hj) h
    subst e
    rw [hi] at hj
    have q : x.toNatClampNeg = y.toNatClampNeg := (Prod.mk.inj (Option.some.inj hj)).2
    have q1 : x.toNatClampNeg = x.toInt.toNat := rfl
    have q2 : y.toNatClampNeg = y.toInt.toNat := rfl
    omega
  · rw [er_some hx, er_none (by omega)] at h
    cases h
theorem fi_d {D : List El7} {sg : Nat → Int32} {gm : Nat → Nat → Int32} {lg : Nat → Nat → Int64} (h : RDC D sg gm lg) {e j : Nat} (he : e < D.length) (hj : j < D.length) (hje : dAb D j = (e : Int)) : ∃ a : Nat, (gm 16 e).toInt = (a : Int) ∧ a ≤ j ∧ dAb D a = (e : Int) ∧ ∀ i, i < a → ¬ dAb D i = (e : Int) := by
  have hn := RDC_n h
  have q := (h.2.1 e (by omega)).2.2.1
  rw [hn] at q
  rcases fiR_p (f := fun j => (gm 15 j).toInt) (e := (e : Int)) D.length with ⟨_, b⟩ | ⟨a1, a2, a3, a4⟩
  · exact absurd ((RDC_f h hj).1.trans hje) (b j hj)
  · refine ⟨(fiR (fun j => (gm 15 j).toInt) (e : Int) D.length).toNat, by omega, ?_, ?_, fun i hi q2 => ?_⟩
    · rcases Nat.lt_or_ge j (fiR (fun j => (gm 15 j).toInt) (e : Int) D.length).toNat with w | w
      · exact absurd ((RDC_f h hj).1.trans hje) (a4 j (by omega))
      · exact w
    · rw [← (RDC_f h (by omega)).1]; exact a3
    · exact a4 i (by omega) ((RDC_f h (by omega)).1.trans q2)
theorem nx_d {D : List El7} {sg : Nat → Int32} {gm : Nat → Nat → Int32} {lg : Nat → Nat → Int64} (h : RDC D sg gm lg) {k j : Nat} (hk : k < D.length) (hj : j < D.length) (hkj : k < j) (e : dAb D j = dAb D k) : ∃ a : Nat, (gm 17 k).toInt = (a : Int) ∧ k < a ∧ a ≤ j ∧ dAb D a = dAb D k ∧ ∀ i, k < i → i < a → ¬ dAb D i = dAb D k := by
  have hn := RDC_n h
  have q := (h.2.1 k (by omega)).2.2.2.1
  rw [hn] at q
  have ek := (RDC_f h hk).1
  rcases nxR_p (f := fun j => (gm 15 j).toInt) (k := k) D.length with ⟨_, b⟩ | ⟨a1, a2, a3, a4, a5⟩
  · exact absurd (((RDC_f h hj).1.trans e).trans ek.symm) (b j hkj hj)
  · refine ⟨(nxR (fun j => (gm 15 j).toInt) k D.length).toNat, by omega, by omega, ?_, ?_, fun i h1 h2 q2 => ?_⟩
    · rcases Nat.lt_or_ge j (nxR (fun j => (gm 15 j).toInt) k D.length).toNat with w | w
      · exact absurd (((RDC_f h hj).1.trans e).trans ek.symm) (a5 j hkj (by omega))
      · exact w
    · rw [← (RDC_f h (by omega)).1, ← ek]; exact a4
    · exact a5 i h1 (by omega) (((RDC_f h (by omega)).1.trans q2).trans ek.symm)
theorem ah_sk {D : List El7} {f : Int} {x a : Nat} : ∀ b, a ≤ b → (∀ i, a ≤ i → i < b → ¬ dAb D i = dAb D x) → ahD D f x b = ahD D f x a := by
  intro b
  induction b with
  | zero => intro h _; rw [Nat.le_zero.mp h]
  | succ b ih =>
    intro h hn
    by_cases e : a = b + 1
    · rw [e]
    · show ahD D f x b + (if AQD D f x b then 1 else 0) = _
      rw [if_neg (fun q => hn b (by omega) (by omega) q.1), Nat.add_zero, ih (by omega) (fun i h1 h2 => hn i h1 (by omega))]
/-- of one word, of one kind -/
theorem wd_kd {D : List El7} {sg : Nat → Int32} {gm : Nat → Nat → Int32} {lg : Nat → Nat → Int64} (h : RDC D sg gm lg) {k x : Nat} (hk : k < D.length) (hx : x < D.length) (h1 : 1 ≤ dKd D x) : (gm 14 k).toInt = (gm 14 x).toInt ↔ dKd D k = dKd D x := by
  have a := (EV_of h hk).1
  have b := (EV_of h hx).1
  constructor
  · intro e; rw [e] at a; exact KW_f a b
  · intro e; rw [e] at a; exact KW_i a b h1

set_option maxHeartbeats 4000000 in
set_option maxRecDepth 100000 in
theorem d_likeBefore2 (l : Launch) (dC : Nat → ClassId) (dI : Nat → Nat → Nat) (ad : Nat → Nat → Nat) (cid : Nat → ClassId) (a2 : Nat → Nat) (lx : List Nat) (sg : Nat → Int32) (gm : Nat → Nat → Int32) (lg : Nat → Nat → Int64) (x : Int32) (o : Int32) (D : List El7) (hI : CI sg gm) (hvx : iv 0 0 x) (hvo : iv 0 79 o) (ho0 : 0 ≤ (gm 15 o.toNatClampNeg).toInt) (how : o.toInt < (sg 4).toInt) (hRC : RDC D sg gm lg) (hk1 : 1 ≤ dKd D o.toNatClampNeg) : CMt dC dI ad cid a2 lx l yX9_likeBefore wm_X9_likeBefore ({ frames := 0, cells := 1, slots := 6, locals := 0 }) [eV (ad 3) x, eV (ad 9) o] sg gm lg (fun v u => ∃ r : Int32, v = some (.int r) ∧ u = (sg, gm, lg) ∧ (iv 0 80 r) ∧ (r.toInt = (ahD D 0 o.toNatClampNeg o.toNatClampNeg : Int))) (fun _ _ => False) := by
  intro sz
  refine vx_ofW (cc := cX9_likeBefore) (maxL := 5) (ret := (some .int)) (by decide) rfl ?_
  intro p e s m args below meth c s₁ B hml hxt hv
  obtain ⟨rfl, hsz, hP, hK, hD0, hG⟩ := hv
  have hx := B.exec
  have hb := B.bytes
  have hr := B.returns
  have hts := atoms_spec (ws := wm_X9_likeBefore) B.pre
  have htb := fun (w : Cond) (h : w ∈ tb) => hts w (List.mem_cons_of_mem _ h)
  have hown : s.vm.findClass RX9 = some m.cls := findClass_of_methodNamed B.named
  have hlocks := B.notSynchronized
  subst hsz
  have hD := hD0.self (sz := s.heap.size)
  generalize hAe : va_A (cW ad cid a2 lx sg gm lg) s.heap.size = A at hD hG ⊢
  have hA : ∀ q : Nat, s.heap.size ≤ q → A q := fun q h => by rw [← hAe]; exact Or.inr h
  have hS : va_S A s.heap s.heap [] := va_S.rf
  have hl := lv_entry ([eV (ad 3) x, eV (ad 9) o]) (n := 5) (by rw [show (lg_sl ([eV (ad 3) x, eV (ad 9) o])).length = 2 from by simp [lg_sl, eV_cat, cat_i, cat_l]]; exact Nat.le_of_ble_eq_true rfl)
  rw [lg_entry_eq]
  generalize (lg_sl ([eV (ad 3) x, eV (ad 9) o]) ++ List.replicate (5 - (lg_sl ([eV (ad 3) x, eV (ad 9) o])).length) Slot.unset).toArray = ls at hl ⊢
  have hl : lv_has ls 5 [(0, eV (ad 3) x), (1, eV (ad 9) o)] := by simp [lv_args, eV_cat, cat_i, cat_l] at hl; exact hl
  have hj54 : ∀ (x4_54 : Int32) (x3_54 : Int32) (x2_54 : Int32) (_ : iv 0 80 x4_54) (_ : iv (-1) 79 x3_54) (_ : iv 0 80 x2_54) (_ : iv 0 0 x) (_ : iv 0 79 o) (_ : x2_54.toInt = (ahD D 0 o.toNatClampNeg o.toNatClampNeg : Int)) (H : Heap) (locs : List Loc) (ls : Array Slot), va_P (dC, dI) vwCl (cW ad cid a2 lx sg gm lg) H → va_D A (cW ad cid a2 lx sg gm lg) → va_S A s.heap H locs → lv_has ls 5 [(4, .int x4_54), (3, eV (ad 9) x3_54), (2, .int x2_54), (0, eV (ad 3) x), (1, eV (ad 9) o)] → W p l e (headSpec wm_X9_likeBefore ({ frames := 0, cells := 1, slots := 6, locals := 0 })).room s m ([eV (ad 3) x, eV (ad 9) o] : List Value).toArray below meth c H locs 0 0 (vx_MQ below (cQx dC dI ad cid a2 lx (fun v u => ∃ r : Int32, v = some (.int r) ∧ u = (sg, gm, lg) ∧ (iv 0 80 r) ∧ (r.toInt = (ahD D 0 o.toNatClampNeg o.toNatClampNeg : Int))) A) (cX dC dI ad cid a2 lx (fun _ _ => False) A) ([eV (ad 3) x, eV (ad 9) o] : List Value).toArray s 1 6 A) (F0 m 54 ls []) := by
    intro x4_54 x3_54 x2_54 hx4_54 hx3_54 hx2_54 hsx0_54 hsx1_54 u54 H locs ls hP hD hS hl
    refine lv_iload_n hx hb dX9_likeBefore_54 rfl (lv_at hl 2 rfl) ?_
    exact W.nb (fun hN => W.widen (k := 1) (n := 6) (by decide) (by decide) (vx_ret (W.iret (v := x2_54) hx hb hr (fun t ht hW => ⟨⟨some (.int x2_54), (sg, gm, lg), rfl, ⟨x2_54, rfl, rfl, hx2_54, (u54)⟩, by rw [ht]; exact hP, va_K.moved hW.alike hK, hD⟩, hS.F ht, by rw [ht]; exact hN⟩) hS.2.2 dX9_likeBefore_55)))
  have hj13 : ∀ (n : Nat) (x4_13 : Int32) (x3_13 : Int32) (x2_13 : Int32) (_ : (80 - x4_13.toInt).toNat = n) (_ : iv 0 80 x4_13) (_ : iv (-1) 79 x3_13) (_ : iv 0 80 x2_13) (_ : iv 0 0 x) (_ : iv 0 79 o) (_ : x2_13.toInt ≤ x4_13.toInt) (_ : 0 ≤ x3_13.toInt ∧ x3_13.toInt ≤ o.toInt ∧ dAb D x3_13.toNatClampNeg = dAb D o.toNatClampNeg ∧ x4_13.toInt ≤ x3_13.toInt) (_ : x2_13.toInt = (ahD D 0 o.toNatClampNeg x3_13.toNatClampNeg : Int)) (H : Heap) (locs : List Loc) (ls : Array Slot), va_P (dC, dI) vwCl (cW ad cid a2 lx sg gm lg) H → va_D A (cW ad cid a2 lx sg gm lg) → va_S A s.heap H locs → lv_has ls 5 [(4, .int x4_13), (3, eV (ad 9) x3_13), (2, .int x2_13), (0, eV (ad 3) x), (1, eV (ad 9) o)] → W p l e (headSpec wm_X9_likeBefore ({ frames := 0, cells := 1, slots := 6, locals := 0 })).room s m ([eV (ad 3) x, eV (ad 9) o] : List Value).toArray below meth c H locs 0 0 (vx_MQ below (cQx dC dI ad cid a2 lx (fun v u => ∃ r : Int32, v = some (.int r) ∧ u = (sg, gm, lg) ∧ (iv 0 80 r) ∧ (r.toInt = (ahD D 0 o.toNatClampNeg o.toNatClampNeg : Int))) A) (cX dC dI ad cid a2 lx (fun _ _ => False) A) ([eV (ad 3) x, eV (ad 9) o] : List Value).toArray s 1 6 A) (F0 m 13 ls []) := by
    intro n
    induction n using Nat.strongRecOn with
    | ind n ih13 =>
      intro x4_13 x3_13 x2_13 hn13 hx4_13 hx3_13 hx2_13 hsx0_13 hsx1_13 h24 h3i hct H locs ls hP hD hS hl
      have hj43 : ∀ (x2_43 : Int32) (_ : iv 0 79 x4_13) (_ : iv 0 79 x3_13) (_ : iv 0 80 x2_43) (_ : iv 0 0 x) (_ : iv 0 79 o) (_ : x2_43.toInt ≤ x4_13.toInt + 1) (_ : 0 ≤ x3_13.toInt ∧ x3_13.toInt ≤ o.toInt ∧ dAb D x3_13.toNatClampNeg = dAb D o.toNatClampNeg ∧ x4_13.toInt ≤ x3_13.toInt) (_ : x3_13.toInt < o.toInt) (_ : x2_43.toInt = (ahD D 0 o.toNatClampNeg (x3_13.toNatClampNeg + 1) : Int)) (H : Heap) (locs : List Loc) (ls : Array Slot), va_P (dC, dI) vwCl (cW ad cid a2 lx sg gm lg) H → va_D A (cW ad cid a2 lx sg gm lg) → va_S A s.heap H locs → lv_has ls 5 [(4, .int x4_13), (3, eV (ad 9) x3_13), (2, .int x2_43), (0, eV (ad 3) x), (1, eV (ad 9) o)] → W p l e (headSpec wm_X9_likeBefore ({ frames := 0, cells := 1, slots := 6, locals := 0 })).room s m ([eV (ad 3) x, eV (ad 9) o] : List Value).toArray below meth c H locs 0 0 (vx_MQ below (cQx dC dI ad cid a2 lx (fun v u => ∃ r : Int32, v = some (.int r) ∧ u = (sg, gm, lg) ∧ (iv 0 80 r) ∧ (r.toInt = (ahD D 0 o.toNatClampNeg o.toNatClampNeg : Int))) A) (cX dC dI ad cid a2 lx (fun _ _ => False) A) ([eV (ad 3) x, eV (ad 9) o] : List Value).toArray s 1 6 A) (F0 m 43 ls []) := by
        intro x2_43 hsx4_43 hsx3_43 hx2_43 hsx0_43 hsx1_43 h24 h3i hlt hct H locs ls hP hD hS hl
        refine ec_aload_n hx hb dX9_likeBefore_43 rfl (lv_at hl 1 rfl) ?_
        refine cr_get (t := 9) (j := 7) (C := RX3) (T := TX3) (N := 21) (v := eV (ad 9) (gm 17 x3_13.toNatClampNeg)) hx hb htb inX3 hown hK hP hsx3_43 (by decide) (by decide) (by decide) rfl (by decide) (htb _ kw_537) rfl dX9_likeBefore_44 ?_
        obtain ⟨z_1, ez_1⟩ : ∃ z : Int32, z = (gm 17 x3_13.toNatClampNeg) := ⟨_, rfl⟩
        refine W.eq (g2 := F0 m 47 ls [eV (ad 9) z_1]) (by rw [ez_1]) ?_
        have hz_1 : iv (-1) 79 z_1 := iv_of ez_1 (CI_a hI 17 hsx3_43 (by decide))
        refine ec_astore_n (i := 3) (lv' := [(3, eV (ad 9) z_1), (4, .int x4_13), (2, .int x2_43), (0, eV (ad 3) x), (1, eV (ad 9) o)]) hx hb dX9_likeBefore_47 rfl hl (by decide) rfl (fun ls hl => ?_)
        obtain ⟨z_2, ez_2⟩ : ∃ z : Int32, z = x4_13 + 1 := ⟨_, rfl⟩
        have hz_2 : iv 1 80 z_2 := iv_of ez_2 (iv_add hsx4_43 (iv_k (by decide) : iv 1 1 1) (by decide))
        have tz_2 : z_2.toInt = x4_13.toInt + 1 := by rw [ez_2]; exact iv_addE hsx4_43 (iv_k (by decide) : iv 1 1 1) (by decide)
        refine lv_iinc (v := z_2) (lv' := [(4, .int z_2), (3, eV (ad 9) z_1), (2, .int x2_43), (0, eV (ad 3) x), (1, eV (ad 9) o)]) hx hb dX9_likeBefore_48 hl (k := 1) rfl ez_2.symm (by decide) (by simp [List.filter, eV_cat, cat_i, cat_l]) (fun ls hl => ?_)
        refine lv_goto (tgt := 13) hx hb dX9_likeBefore_51 (by decide) ?_
        exact ih13 _ (by rw [← hn13]; exact (by have := i32_0; have := i32_1; have := i32_2; have := i32_m1; have := (hsx0_43).1; have := (hsx0_43).2; have := (hsx1_43).1; have := (hsx1_43).2; have := (hsx4_43).1; have := (hsx4_43).2; have := (hsx3_43).1; have := (hsx3_43).2; have := (hx2_13).1; have := (hx2_13).2; have := (hx2_43).1; have := (hx2_43).2; have := (hz_1).1; have := (hz_1).2; have := (hz_2).1; have := (hz_2).2; omega)) z_2 z_1 x2_43 rfl (iv_w hz_2 (by decide)) hz_1 hx2_43 hsx0_43 hsx1_43 (by have := i32_0; have := i32_1; have := i32_2; have := i32_m1; have := (hsx0_43).1; have := (hsx0_43).2; have := (hsx1_43).1; have := (hsx1_43).2; have := (hsx4_43).1; have := (hsx4_43).2; have := (hsx3_43).1; have := (hsx3_43).2; have := (hx2_13).1; have := (hx2_13).2; have := (hx2_43).1; have := (hx2_43).2; have := (hz_1).1; have := (hz_1).2; have := (hz_2).1; have := (hz_2).2; omega) ((by have c7 : o.toNatClampNeg = o.toInt.toNat := rfl; have c6 : x3_13.toNatClampNeg = x3_13.toInt.toNat := rfl; obtain ⟨a9, b1, b2, b3, b4, b5⟩ := nx_d hRC (k := x3_13.toNatClampNeg) (j := o.toNatClampNeg) (show x3_13.toNatClampNeg < D.length from (by have := hRC.1; have := h3i; have : x3_13.toNatClampNeg = x3_13.toInt.toNat := rfl; have := i32_0; have := i32_1; have := i32_2; have := i32_m1; have := (show iv 0 80 (sg 4) from CI_s hI 4).1; have := (show iv 0 80 (sg 4) from CI_s hI 4).2; have := (hsx0_43).1; have := (hsx0_43).2; have := (hsx1_43).1; have := (hsx1_43).2; have := (hsx4_43).1; have := (hsx4_43).2; have := (hsx3_43).1; have := (hsx3_43).2; have := (hx2_13).1; have := (hx2_13).2; have := (hx2_43).1; have := (hx2_43).2; have := (hz_1).1; have := (hz_1).2; have := (hz_2).1; have := (hz_2).2; omega)) (show o.toNatClampNeg < D.length from (by have := hRC.1; have : o.toNatClampNeg = o.toInt.toNat := rfl; have := hvo.1; omega)) (by have := h3i; have := hlt; omega) h3i.2.2.1.symm; rw [← ez_1] at b1; have c9 : z_1.toNatClampNeg = a9 := (by show z_1.toInt.toNat = a9; omega); exact ⟨(by omega), (by omega), (by rw [c9, b4]; exact h3i.2.2.1), (by have := h3i; have := i32_0; have := i32_1; have := i32_2; have := i32_m1; have := (hsx0_43).1; have := (hsx0_43).2; have := (hsx1_43).1; have := (hsx1_43).2; have := (hsx4_43).1; have := (hsx4_43).2; have := (hsx3_43).1; have := (hsx3_43).2; have := (hx2_13).1; have := (hx2_13).2; have := (hx2_43).1; have := (hx2_43).2; have := (hz_1).1; have := (hz_1).2; have := (hz_2).1; have := (hz_2).2; omega)⟩)) ((by have c7 : o.toNatClampNeg = o.toInt.toNat := rfl; have c6 : x3_13.toNatClampNeg = x3_13.toInt.toNat := rfl; obtain ⟨a9, b1, b2, b3, b4, b5⟩ := nx_d hRC (k := x3_13.toNatClampNeg) (j := o.toNatClampNeg) (show x3_13.toNatClampNeg < D.length from (by have := hRC.1; have := h3i; have : x3_13.toNatClampNeg = x3_13.toInt.toNat := rfl; have := i32_0; have := i32_1; have := i32_2; have := i32_m1; have := (show iv 0 80 (sg 4) from CI_s hI 4).1; have := (show iv 0 80 (sg 4) from CI_s hI 4).2; have := (hsx0_43).1; have := (hsx0_43).2; have := (hsx1_43).1; have := (hsx1_43).2; have := (hsx4_43).1; have := (hsx4_43).2; have := (hsx3_43).1; have := (hsx3_43).2; have := (hx2_13).1; have := (hx2_13).2; have := (hx2_43).1; have := (hx2_43).2; have := (hz_1).1; have := (hz_1).2; have := (hz_2).1; have := (hz_2).2; omega)) (show o.toNatClampNeg < D.length from (by have := hRC.1; have : o.toNatClampNeg = o.toInt.toNat := rfl; have := hvo.1; omega)) (by have := h3i; have := hlt; omega) h3i.2.2.1.symm; rw [← ez_1] at b1; have c9 : z_1.toNatClampNeg = a9 := (by show z_1.toInt.toNat = a9; omega); rw [c9, ah_sk (a := x3_13.toNatClampNeg + 1) a9 (by omega) (fun i h1 h2 => by have := b5 i (by omega) h2; have := h3i.2.2.1; omega)]; exact hct)) _ _ _ hP hD hS (lv_sub hl [0, 1, 2, 3, 4] rfl)
      refine lv_iload hx hb dX9_likeBefore_13 (lv_at hl 0 rfl) ?_
      refine lv_bipush (v := 80) hx hb dX9_likeBefore_15 (by decide) ?_
      refine lv_icmp_ge (tgt := 54) hx hb dX9_likeBefore_17 (by decide) (fun c_3 => ?_) (fun c_3 => ?_)
      · have h_4 : iv 80 80 x4_13 := iv_leR c_3 (iv_k (by decide) : iv 80 80 80) hx4_13 (by decide)
        exact hj54 x4_13 x3_13 x2_13 (iv_w h_4 (by decide)) hx3_13 hx2_13 hsx0_13 hsx1_13 ((by exfalso; have := h3i; have := i32_0; have := i32_1; have := i32_2; have := i32_m1; have := (hsx0_13).1; have := (hsx0_13).2; have := (hsx1_13).1; have := (hsx1_13).2; have := (h_4).1; have := (h_4).2; have := (hx3_13).1; have := (hx3_13).2; have := (hx2_13).1; have := (hx2_13).2; omega)) _ _ _ hP hD hS (lv_sub hl [0, 1, 2, 3, 4] rfl)
      · have h_5 : iv 0 79 x4_13 := iv_ltL (i32_lt c_3) hx4_13 (iv_k (by decide) : iv 80 80 80) (by decide)
        refine ec_aload_n hx hb dX9_likeBefore_20 rfl (lv_at hl 1 rfl) ?_
        refine ec_ifnull (tgt := 54) hx hb dX9_likeBefore_21 (by decide) (fun c_6 => ?_) (fun c_6 => ?_)
        · have h_7 : iv (-1) (-1) x3_13 := ⟨(hx3_13).1, by omega⟩
          exact hj54 x4_13 x3_13 x2_13 (iv_w h_5 (by decide)) (iv_w h_7 (by decide)) hx2_13 hsx0_13 hsx1_13 ((by exfalso; have := h3i; have := i32_0; have := i32_1; have := i32_2; have := i32_m1; have := (hsx0_13).1; have := (hsx0_13).2; have := (hsx1_13).1; have := (hsx1_13).2; have := (h_5).1; have := (h_5).2; have := (h_7).1; have := (h_7).2; have := (hx2_13).1; have := (hx2_13).2; omega)) _ _ _ hP hD hS (lv_sub hl [0, 1, 2, 3, 4] rfl)
        · have h_8 : iv 0 79 x3_13 := ⟨c_6, (hx3_13).2⟩
          refine ec_aload_n hx hb dX9_likeBefore_24 rfl (lv_at hl 1 rfl) ?_
          refine ec_aload_n hx hb dX9_likeBefore_25 rfl (lv_at hl 4 rfl) ?_
          refine ec_acmp_eq (tgt := 54) hx hb dX9_likeBefore_26 (by decide) (fun c_9 => ?_) (fun c_9 => ?_)
          · have wc_9 : x3_13.toInt = o.toInt := er_in hD (t := 9) (by decide) (by have := (h_8).1; omega) (show _ < 80 by have := (h_8).2; omega) (by have := (hsx1_13).1; omega) (show _ < 80 by have := (hsx1_13).2; omega) c_9
            exact hj54 x4_13 x3_13 x2_13 (iv_w h_5 (by decide)) (iv_w h_8 (by decide)) hx2_13 hsx0_13 hsx1_13 ((by have q9 : x3_13.toNatClampNeg = o.toNatClampNeg := (by show x3_13.toInt.toNat = o.toInt.toNat; rw [wc_9]); rw [q9] at hct; exact hct)) _ _ _ hP hD hS (lv_sub hl [0, 1, 2, 3, 4] rfl)
          · have wc_9 : ¬ x3_13.toInt = o.toInt := fun q9 => c_9 (congrArg (er (ad 9)) (Int32.toInt_inj.mp q9))
            refine ec_aload_n hx hb dX9_likeBefore_29 rfl (lv_at hl 1 rfl) ?_
            refine cr_get (t := 9) (j := 4) (C := RX3) (T := TX3) (N := 21) (v := eV (ad 33) (gm 14 x3_13.toNatClampNeg)) hx hb htb inX3 hown hK hP h_8 (by decide) (by decide) (by decide) rfl (by decide) (htb _ kw_508) rfl dX9_likeBefore_30 ?_
            obtain ⟨z_10, ez_10⟩ : ∃ z : Int32, z = (gm 14 x3_13.toNatClampNeg) := ⟨_, rfl⟩
            refine W.eq (g2 := F0 m 33 ls [eV (ad 33) z_10]) (by rw [ez_10]) ?_
            have hz_10 : iv (-1) 33 z_10 := iv_of ez_10 (CI_a hI 14 h_8 (by decide))
            refine ec_aload_n hx hb dX9_likeBefore_33 rfl (lv_at hl 4 rfl) ?_
            refine cr_get (t := 9) (j := 4) (C := RX3) (T := TX3) (N := 21) (v := eV (ad 33) (gm 14 o.toNatClampNeg)) hx hb htb inX3 hown hK hP hsx1_13 (by decide) (by decide) (by decide) rfl (by decide) (htb _ kw_508) rfl dX9_likeBefore_34 ?_
            obtain ⟨z_11, ez_11⟩ : ∃ z : Int32, z = (gm 14 o.toNatClampNeg) := ⟨_, rfl⟩
            refine W.eq (g2 := F0 m 37 ls [eV (ad 33) z_11, eV (ad 33) z_10]) (by rw [ez_11]) ?_
            have hz_11 : iv (-1) 33 z_11 := iv_of ez_11 (CI_a hI 14 hsx1_13 (by decide))
            refine ec_acmp_ne (tgt := 43) hx hb dX9_likeBefore_37 (by decide) (fun c_12 => ?_) (fun c_12 => ?_)
            · have wc_12 : ¬ z_10.toInt = z_11.toInt := fun q9 => c_12 (congrArg (er (ad 33)) (Int32.toInt_inj.mp q9))
              exact hj43 x2_13 h_5 h_8 hx2_13 hsx0_13 hsx1_13 (by have := i32_0; have := i32_1; have := i32_2; have := i32_m1; have := (hsx0_13).1; have := (hsx0_13).2; have := (hsx1_13).1; have := (hsx1_13).2; have := (h_5).1; have := (h_5).2; have := (h_8).1; have := (h_8).2; have := (hx2_13).1; have := (hx2_13).2; have := (hz_10).1; have := (hz_10).2; have := (hz_11).1; have := (hz_11).2; omega) (h3i) ((by have := h3i; have := i32_0; have := i32_1; have := i32_2; have := i32_m1; have := (hsx0_13).1; have := (hsx0_13).2; have := (hsx1_13).1; have := (hsx1_13).2; have := (h_5).1; have := (h_5).2; have := (h_8).1; have := (h_8).2; have := (hx2_13).1; have := (hx2_13).2; have := (hz_10).1; have := (hz_10).2; have := (hz_11).1; have := (hz_11).2; omega)) ((by have := congrArg Int32.toInt ez_10; have := congrArg Int32.toInt ez_11; show _ = ((ahD D 0 o.toNatClampNeg x3_13.toNatClampNeg + (if AQD D 0 o.toNatClampNeg x3_13.toNatClampNeg then 1 else 0) : Nat) : Int); rw [if_neg (fun q9 => wc_12 (by have := (wd_kd hRC (show x3_13.toNatClampNeg < D.length from (by have := hRC.1; have := h3i; have : x3_13.toNatClampNeg = x3_13.toInt.toNat := rfl; have := i32_0; have := i32_1; have := i32_2; have := i32_m1; have := (show iv 0 80 (sg 4) from CI_s hI 4).1; have := (show iv 0 80 (sg 4) from CI_s hI 4).2; have := (hsx0_13).1; have := (hsx0_13).2; have := (hsx1_13).1; have := (hsx1_13).2; have := (h_5).1; have := (h_5).2; have := (h_8).1; have := (h_8).2; have := (hx2_13).1; have := (hx2_13).2; have := (hz_10).1; have := (hz_10).2; have := (hz_11).1; have := (hz_11).2; omega)) (show o.toNatClampNeg < D.length from (by have := hRC.1; have : o.toNatClampNeg = o.toInt.toNat := rfl; have := hvo.1; omega)) hk1).mpr q9.2.1; omega))]; exact hct)) _ _ _ hP hD hS (lv_sub hl [0, 1, 2, 3, 4] rfl)
            · have wc_12 : z_10.toInt = z_11.toInt := er_wd hG hz_10 hz_11 c_12
              have h_13 : iv 0 79 x2_13 := ⟨(hx2_13).1, by have := i32_0; have := i32_1; have := i32_2; have := i32_m1; have := (hsx0_13).1; have := (hsx0_13).2; have := (hsx1_13).1; have := (hsx1_13).2; have := (h_5).1; have := (h_5).2; have := (h_8).1; have := (h_8).2; have := (hx2_13).1; have := (hx2_13).2; have := (hz_10).1; have := (hz_10).2; have := (hz_11).1; have := (hz_11).2; omega⟩
              obtain ⟨z_14, ez_14⟩ : ∃ z : Int32, z = x2_13 + 1 := ⟨_, rfl⟩
              have hz_14 : iv 1 80 z_14 := iv_of ez_14 (iv_add h_13 (iv_k (by decide) : iv 1 1 1) (by decide))
              have tz_14 : z_14.toInt = x2_13.toInt + 1 := by rw [ez_14]; exact iv_addE h_13 (iv_k (by decide) : iv 1 1 1) (by decide)
              refine lv_iinc (v := z_14) (lv' := [(2, .int z_14), (4, .int x4_13), (3, eV (ad 9) x3_13), (0, eV (ad 3) x), (1, eV (ad 9) o)]) hx hb dX9_likeBefore_40 hl (k := 2) rfl ez_14.symm (by decide) (by simp [List.filter, eV_cat, cat_i, cat_l]) (fun ls hl => ?_)
              exact hj43 z_14 h_5 h_8 (iv_w hz_14 (by decide)) hsx0_13 hsx1_13 (by have := i32_0; have := i32_1; have := i32_2; have := i32_m1; have := (hsx0_13).1; have := (hsx0_13).2; have := (hsx1_13).1; have := (hsx1_13).2; have := (h_5).1; have := (h_5).2; have := (h_8).1; have := (h_8).2; have := (h_13).1; have := (h_13).2; have := (hz_10).1; have := (hz_10).2; have := (hz_11).1; have := (hz_11).2; have := (hz_14).1; have := (hz_14).2; omega) (h3i) ((by have := h3i; have := i32_0; have := i32_1; have := i32_2; have := i32_m1; have := (hsx0_13).1; have := (hsx0_13).2; have := (hsx1_13).1; have := (hsx1_13).2; have := (h_5).1; have := (h_5).2; have := (h_8).1; have := (h_8).2; have := (h_13).1; have := (h_13).2; have := (hz_10).1; have := (hz_10).2; have := (hz_11).1; have := (hz_11).2; have := (hz_14).1; have := (hz_14).2; omega)) ((by have := congrArg Int32.toInt ez_10; have := congrArg Int32.toInt ez_11; show _ = ((ahD D 0 o.toNatClampNeg x3_13.toNatClampNeg + (if AQD D 0 o.toNatClampNeg x3_13.toNatClampNeg then 1 else 0) : Nat) : Int); rw [if_pos ⟨h3i.2.2.1, (wd_kd hRC (show x3_13.toNatClampNeg < D.length from (by have := hRC.1; have := h3i; have : x3_13.toNatClampNeg = x3_13.toInt.toNat := rfl; have := i32_0; have := i32_1; have := i32_2; have := i32_m1; have := (show iv 0 80 (sg 4) from CI_s hI 4).1; have := (show iv 0 80 (sg 4) from CI_s hI 4).2; have := (hsx0_13).1; have := (hsx0_13).2; have := (hsx1_13).1; have := (hsx1_13).2; have := (h_5).1; have := (h_5).2; have := (h_8).1; have := (h_8).2; have := (h_13).1; have := (h_13).2; have := (hz_10).1; have := (hz_10).2; have := (hz_11).1; have := (hz_11).2; have := (hz_14).1; have := (hz_14).2; omega)) (show o.toNatClampNeg < D.length from (by have := hRC.1; have : o.toNatClampNeg = o.toInt.toNat := rfl; have := hvo.1; omega)) hk1).mp (by have := wc_12; omega), Or.inl rfl⟩]; have := hct; have := tz_14; omega)) _ _ _ hP hD hS (lv_sub hl [1, 2, 0, 3, 4] rfl)
  refine lv_iconst (v := 0) hx hb dX9_likeBefore_0 (by decide) ?_
  refine lv_istore_n (i := 2) (lv' := [(2, .int 0), (0, eV (ad 3) x), (1, eV (ad 9) o)]) hx hb dX9_likeBefore_1 rfl hl (by decide) (by simp [List.filter, eV_cat, cat_i, cat_l]) (fun ls hl => ?_)
  refine ec_aload_n hx hb dX9_likeBefore_2 rfl (lv_at hl 2 rfl) ?_
  refine cr_get (t := 9) (j := 5) (C := RX3) (T := TX3) (N := 21) (v := eV (ad 9) (gm 15 o.toNatClampNeg)) hx hb htb inX3 hown hK hP hvo (by decide) (by decide) (by decide) rfl (by decide) (htb _ kw_515) rfl dX9_likeBefore_3 ?_
  obtain ⟨z_15, ez_15⟩ : ∃ z : Int32, z = (gm 15 o.toNatClampNeg) := ⟨_, rfl⟩
  refine W.eq (g2 := F0 m 6 ls [eV (ad 9) z_15]) (by rw [ez_15]) ?_
  have hz_15 : iv (-1) 79 z_15 := iv_of ez_15 (CI_a hI 15 hvo (by decide))
  have h_16 : iv 0 79 z_15 := ⟨by rw [ez_15]; exact ho0, (hz_15).2⟩
  refine cr_get (t := 9) (j := 6) (C := RX3) (T := TX3) (N := 21) (v := eV (ad 9) (gm 16 z_15.toNatClampNeg)) hx hb htb inX3 hown hK hP h_16 (by decide) (by decide) (by decide) rfl (by decide) (htb _ kw_536) rfl dX9_likeBefore_6 ?_
  obtain ⟨z_17, ez_17⟩ : ∃ z : Int32, z = (gm 16 z_15.toNatClampNeg) := ⟨_, rfl⟩
  refine W.eq (g2 := F0 m 9 ls [eV (ad 9) z_17]) (by rw [ez_17]) ?_
  have hz_17 : iv (-1) 79 z_17 := iv_of ez_17 (CI_a hI 16 h_16 (by decide))
  refine ec_astore_n (i := 3) (lv' := [(3, eV (ad 9) z_17), (2, .int 0), (0, eV (ad 3) x), (1, eV (ad 9) o)]) hx hb dX9_likeBefore_9 rfl hl (by decide) rfl (fun ls hl => ?_)
  refine lv_iconst (v := 0) hx hb dX9_likeBefore_10 (by decide) ?_
  refine lv_istore (i := 4) (lv' := [(4, .int 0), (3, eV (ad 9) z_17), (2, .int 0), (0, eV (ad 3) x), (1, eV (ad 9) o)]) hx hb dX9_likeBefore_11 hl (by decide) (by simp [List.filter, eV_cat, cat_i, cat_l]) (fun ls hl => ?_)
  exact hj13 _ 0 z_17 0 rfl (iv_w (iv_k (by decide) : iv 0 0 0) (by decide)) hz_17 (iv_w (iv_k (by decide) : iv 0 0 0) (by decide)) hvx hvo (by have := i32_0; have := i32_1; have := i32_2; have := i32_m1; have := (hvx).1; have := (hvx).2; have := (hvo).1; have := (hvo).2; have := (h_16).1; have := (h_16).2; have := (hz_17).1; have := (hz_17).2; omega) ((by have q5 := (RDC_f hRC (show o.toNatClampNeg < D.length from (by have := hRC.1; have : o.toNatClampNeg = o.toInt.toNat := rfl; have := hvo.1; omega))).1; have q6 := hRC.2.1 _ (by rw [RDC_n hRC]; exact (show o.toNatClampNeg < D.length from (by have := hRC.1; have : o.toNatClampNeg = o.toInt.toNat := rfl; have := hvo.1; omega))); have q7 := congrArg Int32.toInt ez_15; have q8 : z_15.toNatClampNeg = (dAb D o.toNatClampNeg).toNat := (by show z_15.toInt.toNat = _; omega); obtain ⟨a9, b1, b2, b3, b4⟩ := fi_d hRC (e := z_15.toNatClampNeg) (j := o.toNatClampNeg) (by rw [q8]; have := (show o.toNatClampNeg < D.length from (by have := hRC.1; have : o.toNatClampNeg = o.toInt.toNat := rfl; have := hvo.1; omega)); omega) (show o.toNatClampNeg < D.length from (by have := hRC.1; have : o.toNatClampNeg = o.toInt.toNat := rfl; have := hvo.1; omega)) (by omega); rw [← ez_17] at b1; have c9 : z_17.toNatClampNeg = a9 := (by show z_17.toInt.toNat = a9; omega); have c8 : ((z_15.toNatClampNeg : Nat) : Int) = dAb D o.toNatClampNeg := (by omega); have c7 : o.toNatClampNeg = o.toInt.toNat := rfl; exact ⟨(by omega), (by omega), (by rw [c9, b3]; omega), (by have := i32_0; omega)⟩)) ((by have q5 := (RDC_f hRC (show o.toNatClampNeg < D.length from (by have := hRC.1; have : o.toNatClampNeg = o.toInt.toNat := rfl; have := hvo.1; omega))).1; have q6 := hRC.2.1 _ (by rw [RDC_n hRC]; exact (show o.toNatClampNeg < D.length from (by have := hRC.1; have : o.toNatClampNeg = o.toInt.toNat := rfl; have := hvo.1; omega))); have q7 := congrArg Int32.toInt ez_15; have q8 : z_15.toNatClampNeg = (dAb D o.toNatClampNeg).toNat := (by show z_15.toInt.toNat = _; omega); obtain ⟨a9, b1, b2, b3, b4⟩ := fi_d hRC (e := z_15.toNatClampNeg) (j := o.toNatClampNeg) (by rw [q8]; have := (show o.toNatClampNeg < D.length from (by have := hRC.1; have : o.toNatClampNeg = o.toInt.toNat := rfl; have := hvo.1; omega)); omega) (show o.toNatClampNeg < D.length from (by have := hRC.1; have : o.toNatClampNeg = o.toInt.toNat := rfl; have := hvo.1; omega)) (by omega); rw [← ez_17] at b1; have c9 : z_17.toNatClampNeg = a9 := (by show z_17.toInt.toNat = a9; omega); have c8 : ((z_15.toNatClampNeg : Nat) : Int) = dAb D o.toNatClampNeg := (by omega); have c7 : o.toNatClampNeg = o.toInt.toNat := rfl; rw [c9, ah_sk (a := 0) a9 (Nat.zero_le _) (fun i _ hi => by have := b4 i hi; omega)]; rfl)) _ _ _ hP hD hS (lv_sub hl [0, 1, 2, 3, 4] rfl)
