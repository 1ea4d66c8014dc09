section
theorem er_in {ad : Nat → Nat → Nat} {cid : Nat → ClassId} {a2 : Nat → Nat} {lx : List Nat} {sg : Nat → Int32} {gm : Nat → Nat → Int32} {lg : Nat → Nat → Int64} {A : Nat → Prop} (hD : va_D A (cW ad cid a2 lx sg gm lg)) {t : Nat} {x y : Int32} (ht : t < 32) (hx : 0 ≤ x.toInt) (hxn : x.toInt.toNat < cNum t) (hy : -1 ≤ y.toInt) (hyn : y.toInt.toNat < cNum t) (h : er (ad t) x = er (ad t) y) : x.toInt = y.toInt := by
  by_cases hy0 : 0 ≤ y.toInt
  · obtain ⟨i, hi⟩ := cPL_at (t := t) (i := x.toNatClampNeg) ht hxn
    obtain ⟨j, hj⟩ := cPL_at (t := t) (i := y.toNatClampNeg) ht hyn
    rw [er_some hx, er_some hy0] at h
    have h := Option.some.inj h
    have e := hD.1 i j _ _ (cW_at hi) (cW_at hj) h
    subst e
    rw [hi] at hj
    have q : x.toNatClampNeg = y.toNatClampNeg := (Prod.mk.inj (Option.some.inj hj)).2
    have q1 : x.toNatClampNeg = x.toInt.toNat := rfl
    have q2 : y.toNatClampNeg = y.toInt.toNat := rfl
    omega
  · rw [er_some hx, er_none (by omega)] at h
    cases h
theorem fi_d {D : List El7} {sg : Nat → Int32} {gm : Nat → Nat → Int32} {lg : Nat → Nat → Int64} (h : RDC D sg gm lg) {e j : Nat} (he : e < D.length) (hj : j < D.length) (hje : dAb D j = (e : Int)) : ∃ a : Nat, (gm 16 e).toInt = (a : Int) ∧ a ≤ j ∧ dAb D a = (e : Int) ∧ ∀ i, i < a → ¬ dAb D i = (e : Int) := by
  have hn := RDC_n h
  have q := (h.2.1 e (by omega)).2.2.1
  rw [hn] at q
  rcases fiR_p (f := fun j => (gm 15 j).toInt) (e := (e : Int)) D.length with ⟨_, b⟩ | ⟨a1, a2, a3, a4⟩
  · exact absurd ((RDC_f h hj).1.trans hje) (b j hj)
  · refine ⟨(fiR (fun j => (gm 15 j).toInt) (e : Int) D.length).toNat, by omega, ?_, ?_, fun i hi q2 => ?_⟩
    · rcases Nat.lt_or_ge j (fiR (fun j => (gm 15 j).toInt) (e : Int) D.length).toNat with w | w
      · exact absurd ((RDC_f h hj).1.trans hje) (a4 j (by omega))
      · exact w
    · rw [← (RDC_f h (by omega)).1]; exact a3
    · exact a4 i (by omega) ((RDC_f h (by omega)).1.trans q2)
theorem nx_d {D : List El7} {sg : Nat → Int32} {gm : Nat → Nat → Int32} {lg : Nat → Nat → Int64} (h : RDC D sg gm lg) {k j : Nat} (hk : k < D.length) (hj : j < D.length) (hkj : k < j) (e : dAb D j = dAb D k) : ∃ a : Nat, (gm 17 k).toInt = (a : Int) ∧ k < a ∧ a ≤ j ∧ dAb D a = dAb D k ∧ ∀ i, k < i → i < a → ¬ dAb D i = dAb D k := by
  have hn := RDC_n h
  have q := (h.2.1 k (by omega)).2.2.2.1
  rw [hn] at q
  have ek := (RDC_f h hk).1
  rcases nxR_p (f := fun j => (gm 15 j).toInt) (k := k) D.length with ⟨_, b⟩ | ⟨a1, a2, a3, a4, a5⟩
  · exact absurd (((RDC_f h hj).1.trans e).trans ek.symm) (b j hkj hj)
  · refine ⟨(nxR (fun j => (gm 15 j).toInt) k D.length).toNat, by omega, by omega, ?_, ?_, fun i h1 h2 q2 => ?_⟩
    · rcases Nat.lt_or_ge j (nxR (fun j => (gm 15 j).toInt) k D.length).toNat with w | w
      · exact absurd (((RDC_f h hj).1.trans e).trans ek.symm) (a5 j hkj (by omega))
      · exact w
    · rw [← (RDC_f h (by omega)).1, ← ek]; exact a4
    · exact a5 i h1 (by omega) (((RDC_f h (by omega)).1.trans q2).trans ek.symm)
theorem ah_sk {D : List El7} {f : Int} {x a : Nat} : ∀ b, a ≤ b → (∀ i, a ≤ i → i < b → ¬ dAb D i = dAb D x) → ahD D f x b = ahD D f x a := by
  intro b
  induction b with
  | zero => intro h _; rw [Nat.le_zero.mp h]
  | succ b ih =>
    intro h hn
    by_cases e : a = b + 1
    · rw [e]
    · show ahD D f x b + (if AQD D f x b then 1 else 0) = _
      rw [if_neg (fun q => hn b (by omega) (by omega) q.1), Nat.add_zero, ih (by omega) (fun i h1 h2 => hn i h1 (by omega))]
/-- of one word, of one kind -/
theorem wd_kd {D : List El7} {sg : Nat → Int32} {gm : Nat → Nat → Int32} {lg : Nat → Nat → Int64} (h : RDC D sg gm lg) {k x : Nat} (hk : k < D.length) (hx : x < D.length) (h1 : 1 ≤ dKd D x) : (gm 14 k).toInt = (gm 14 x).toInt ↔ dKd D k = dKd D x := by
  have a := (EV_of h hk).1
  have b := (EV_of h hx).1
  constructor
  · intro e; rw [e] at a; exact KW_f a b
  · intro e; rw [e] at a; exact KW_i a b h1

set_option maxHeartbeats 4000000 in
set_option maxRecDepth 100000 in
theorem d_likeBefore2 (l : Launch) (dC : Nat → ClassId) (dI : Nat → Nat → Nat) (ad : Nat → Nat → Nat) (cid : Nat → ClassId) (a2 : Nat → Nat) (lx : List Nat) (sg : Nat → Int32) (gm : Nat → Nat → Int32) (lg : Nat → Nat → Int64) (x : Int32) (o : Int32) (D : List El7) (hI : CI sg gm) (hvx : iv 0 0 x) (hvo : iv 0 79 o) (ho0 : 0 ≤ (gm 15 o.toNatClampNeg).toInt) (how : o.toInt < (sg 4).toInt) (hRC : RDC D sg gm lg) (hk1 : 1 ≤ dKd D o.toNatClampNeg) : CMt dC dI ad cid a2 lx l yX9_likeBefore wm_X9_likeBefore ({ frames := 0, cells := 1, slots := 6, locals := 0 }) [eV (ad 3) x, eV (ad 9) o] sg gm lg (fun v u => ∃ r : Int32, v = some (.int r) ∧ u = (sg, gm, lg) ∧ (iv 0 80 r) ∧ (r.toInt = (ahD D 0 o.toNatClampNeg o.toNatClampNeg : Int))) (fun _ _ => False) := by
  intro sz
  refine vx_ofW (cc := cX9_likeBefore) (maxL := 5) (ret := (some .int)) (by decide) rfl ?_
  intro p e s m args below meth c s₁ B hml hxt hv
  obtain ⟨rfl, hsz, hP, hK, hD0, hG⟩ := hv
  have hx := B.exec
  have hb := B.bytes
  have hr := B.returns
  have hts := atoms_spec (ws := wm_X9_likeBefore) B.pre
  have htb := fun (w : Cond) (h : w ∈ tb) => hts w (List.mem_cons_of_mem _ h)
  have hown : s.vm.findClass RX9 = some m.cls := findClass_of_methodNamed B.named
  have hlocks := B.notSynchronized
  subst hsz
  have hD := hD0.self (sz := s.heap.size)
  generalize hAe : va_A (cW ad cid a2 lx sg gm lg) s.heap.size = A at hD hG ⊢
  have hA : ∀ q : Nat, s.heap.size ≤ q → A q := fun q h => by rw [← hAe]; exact Or.inr h
  have hS : va_S A s.heap s.heap [] := va_S.rf
  have hl := lv_entry ([eV (ad 3) x, eV (ad 9) o]) (n := 5) (by rw [show (lg_sl ([eV (ad 3) x, eV (ad 9) o])).length = 2 from by simp [lg_sl, eV_cat, cat_i, cat_l]]; exact Nat.le_of_ble_eq_true rfl)
  rw [lg_entry_eq]
  generalize (lg_sl ([eV (ad 3) x, eV (ad 9) o]) ++ List.replicate (5 - (lg_sl ([eV (ad 3) x, eV (ad 9) o])).length) Slot.unset).toArray = ls at hl ⊢
  have hl : lv_has ls 5 [(0, eV (ad 3) x), (1, eV (ad 9) o)] := by simp [lv_args, eV_cat, cat_i, cat_l] at hl; exact hl
  have hj54 : ∀ (x4_54 : Int32) (x3_54 : Int32) (x2_54 : Int32) (_ : iv 0 80 x4_54) (_ : iv (-1) 79 x3_54) (_ : iv 0 80 x2_54) (_ : iv 0 0 x) (_ : iv 0 79 o) (_ : x2_54.toInt = (ahD D 0 o.toNatClampNeg o.toNatClampNeg : Int)) (H : Heap) (locs : List Loc) (ls : Array Slot), va_P (dC, dI) vwCl (cW ad cid a2 lx sg gm lg) H → va_D A (cW ad cid a2 lx sg gm lg) → va_S A s.heap H locs → lv_has ls 5 [(4, .int x4_54), (3, eV (ad 9) x3_54), (2, .int x2_54), (0, eV (ad 3) x), (1, eV (ad 9) o)] → W p l e (headSpec wm_X9_likeBefore ({ frames := 0, cells := 1, slots := 6, locals := 0 })).room s m ([eV (ad 3) x, eV (ad 9) o] : List Value).toArray below meth c H locs 0 0 (vx_MQ below (cQx dC dI ad cid a2 lx (fun v u => ∃ r : Int32, v = some (.int r) ∧ u = (sg, gm, lg) ∧ (iv 0 80 r) ∧ (r.toInt = (ahD D 0 o.toNatClampNeg o.toNatClampNeg : Int))) A) (cX dC dI ad cid a2 lx (fun _ _ => False) A) ([eV (ad 3) x, eV (ad 9) o] : List Value).toArray s 1 6 A) (F0 m 54 ls []) := by
    intro x4_54 x3_54 x2_54 hx4_54 hx3_54 hx2_54 hsx0_54 hsx1_54 u54 H locs ls hP hD hS hl
    refine lv_iload_n hx hb dX9_likeBefore_54 rfl (lv_at hl 2 rfl) ?_
    exact W.nb (fun hN => W.widen (k := 1) (n := 6) (by decide) (by decide) (vx_ret (W.iret (v := x2_54) hx hb hr (fun t ht hW => ⟨⟨some (.int x2_54), (sg, gm, lg), rfl, ⟨x2_54, rfl, rfl, hx2_54, (u54)⟩, by rw [ht]; exact hP, va_K.moved hW.alike hK, hD⟩, hS.F ht, by rw [ht]; exact hN⟩) hS.2.2 dX9_likeBefore_55)))
  have hj13 : ∀ (n : Nat) (x4_13 : Int32) (x3_13 : Int32) (x2_13 : Int32) (_ : (80 - x4_13.toInt).toNat = n) (_ : iv 0 80 x4_13) (_ : iv (-1) 79 x3_13) (_ : iv 0 80 x2_13) (_ : iv 0 0 x) (_ : iv 0 79 o) (_ : x2_13.toInt ≤ x4_13.toInt) (_ : 0 ≤ x3_13.toInt ∧ x3_13.toInt ≤ o.toInt ∧ dAb D x3_13.toNatClampNeg = dAb D o.toNatClampNeg ∧ x4_13.toInt ≤ x3_13.toInt) (_ : x2_13.toInt = (ahD D 0 o.toNatClampNeg x3_13.toNatClampNeg : Int)) (H : Heap) (locs : List Loc) (ls : Array Slot), va_P (dC, dI) vwCl (cW ad cid a2 lx sg gm lg) H → va_D A (cW ad cid a2 lx sg gm lg) → va_S A s.heap H locs → lv_has ls 5 [(4, .int x4_13), (3, eV (ad 9) x3_13), (2, .int x2_13), (0, eV (ad 3) x), (1, eV (ad 9) o)] → W p l e (headSpec wm_X9_likeBefore ({ frames := 0, cells := 1, slots := 6, locals := 0 })).room s m ([eV (ad 3) x, eV (ad 9) o] : List Value).toArray below meth c H locs 0 0 (vx_MQ below (cQx dC dI ad cid a2 lx (fun v u => ∃ r : Int32, v = some (.int r) ∧ u = (sg, gm, lg) ∧ (iv 0 80 r) ∧ (r.toInt = (ahD D 0 o.toNatClampNeg o.toNatClampNeg : Int))) A) (cX dC dI ad cid a2 lx (fun _ _ => False) A) ([eV (ad 3) x, eV (ad 9) o] : List Value).toArray s 1 6 A) (F0 m 13 ls []) := by
    intro n
    induction n using Nat.strongRecOn with
    | ind n ih13 =>
      intro x4_13 x3_13 x2_13 hn13 hx4_13 hx3_13 hx2_13 hsx0_13 hsx1_13 h24 h3i hct H locs ls hP hD hS hl
      have hj43 : ∀ (x2_43 : Int32) (_ : iv 0 79 x4_13) (_ : iv 0 79 x3_13) (_ : iv 0 80 x2_43) (_ : iv 0 0 x) (_ : iv 0 79 o) (_ : x2_43.toInt ≤ x4_13.toInt + 1) (_ : 0 ≤ x3_13.toInt ∧ x3_13.toInt ≤ o.toInt ∧ dAb D x3_13.toNatClampNeg = dAb D o.toNatClampNeg ∧ x4_13.toInt ≤ x3_13.toInt) (_ : x3_13.toInt < o.toInt) (_ : x2_43.toInt = (ahD D 0 o.toNatClampNeg (x3_13.toNatClampNeg + 1) : Int)) (H : Heap) (locs : List Loc) (ls : Array Slot), va_P (dC, dI) vwCl (cW ad cid a2 lx sg gm lg) H → va_D A (cW ad cid a2 lx sg gm lg) → va_S A s.heap H locs → lv_has ls 5 [(4, .int x4_13), (3, eV (ad 9) x3_13), (2, .int x2_43), (0, eV (ad 3) x), (1, eV (ad 9) o)] → W p l e (headSpec wm_X9_likeBefore ({ frames := 0, cells := 1, slots := 6, locals := 0 })).room s m ([eV (ad 3) x, eV (ad 9) o] : List Value).toArray below meth c H locs 0 0 (vx_MQ below (cQx dC dI ad cid a2 lx (fun v u => ∃ r : Int32, v = some (.int r) ∧ u = (sg, gm, lg) ∧ (iv 0 80 r) ∧ (r.toInt = (ahD D 0 o.toNatClampNeg o.toNatClampNeg : Int))) A) (cX dC dI ad cid a2 lx (fun _ _ => False) A) ([eV (ad 3) x, eV (ad 9) o] : List Value).toArray s 1 6 A) (F0 m 43 ls []) := by
        intro x2_43 hsx4_43 hsx3_43 hx2_43 hsx0_43 hsx1_43 h24 h3i hlt hct H locs ls hP hD hS hl
        refine ec_aload_n hx hb dX9_likeBefore_43 rfl (lv_at hl 1 rfl) ?_
        refine cr_get (t := 9) (j := 7) (C := RX3) (T := TX3) (N := 21) (v := eV (ad 9) (gm 17 x3_13.toNatClampNeg)) hx hb htb inX3 hown hK hP hsx3_43 (by decide) (by decide) (by decide) rfl (by decide) (htb _ kw_256) rfl dX9_likeBefore_44 ?_
        obtain ⟨z_1, ez_1⟩ : ∃ z : Int32, z = (gm 17 x3_13.toNatClampNeg) := ⟨_, rfl⟩
        refine W.eq (g2 := F0 m 47 ls [eV (ad 9) z_1]) (by rw [ez_1]) ?_
        have hz_1 : iv (-1) 79 z_1 := iv_of ez_1 (CI_a hI 17 hsx3_43 (by decide))
        refine ec_astore_n (i := 3) (lv' := [(3, eV (ad 9) z_1), (4, .int x4_13), (2, .int x2_43), (0, eV (ad 3) x), (1, eV (ad 9) o)]) hx hb dX9_likeBefore_47 rfl hl (by decide) rfl (fun ls hl => ?_)
        obtain ⟨z_2, ez_2⟩ : ∃ z : Int32, z = x4_13 + 1 := ⟨_, rfl⟩
        have hz_2 : iv 1 80 z_2 := iv_of ez_2 (iv_add hsx4_43 (iv_k (by decide) : iv 1 1 1) (by decide))
        have tz_2 : z_2.toInt = x4_13.toInt + 1 := by rw [ez_2]; exact iv_addE hsx4_43 (iv_k (by decide) : iv 1 1 1) (by decide)
        refine lv_iinc (v := z_2) (lv' := [(4, .int z_2), (3, eV (ad 9) z_1), (2, .int x2_43), (0, eV (ad 3) x), (1, eV (ad 9) o)]) hx hb dX9_likeBefore_48 hl (k := 1) rfl ez_2.symm (by decide) (by simp [List.filter, eV_cat, cat_i, cat_l]) (fun ls hl => ?_)
        refine lv_goto (tgt := 13) hx hb dX9_likeBefore_51 (by decide) ?_
        exact ih13 _ (by rw [← hn13]; exact (by have := i32_0; have := i32_1; have := i32_2; have := i32_m1; have := (hsx0_43).1; have := (hsx0_43).2; have := (hsx1_43).1; have := (hsx1_43).2; have := (hsx4_43).1; have := (hsx4_43).2; have := (hsx3_43).1; have := (hsx3_43).2; have := (hx2_13).1; have := (hx2_13).2; have := (hx2_43).1; have := (hx2_43).2; have := (hz_1).1; have := (hz_1).2; have := (hz_2).1; have := (hz_2).2; omega)) z_2 z_1 x2_43 rfl (iv_w hz_2 (by decide)) hz_1 hx2_43 hsx0_43 hsx1_43 (by have := i32_0; have := i32_1; have := i32_2; have := i32_m1; have := (hsx0_43).1; have := (hsx0_43).2; have := (hsx1_43).1; have := (hsx1_43).2; have := (hsx4_43).1; have := (hsx4_43).2; have := (hsx3_43).1; have := (hsx3_43).2; have := (hx2_13).1; have := (hx2_13).2; have := (hx2_43).1; have := (hx2_43).2; have := (hz_1).1; have := (hz_1).2; have := (hz_2).1; have := (hz_2).2; omega) ((by have c7 : o.toNatClampNeg = o.toInt.toNat := rfl; have c6 : x3_13.toNatClampNeg = x3_13.toInt.toNat := rfl; obtain ⟨a9, b1, b2, b3, b4, b5⟩ := nx_d hRC (k := x3_13.toNatClampNeg) (j := o.toNatClampNeg) (show x3_13.toNatClampNeg < D.length from (by have := hRC.1; have := h3i; have : x3_13.toNatClampNeg = x3_13.toInt.toNat := rfl; have := i32_0; have := i32_1; have := i32_2; have := i32_m1; have := (show iv 0 80 (sg 4) from CI_s hI 4).1; have := (show iv 0 80 (sg 4) from CI_s hI 4).2; have := (hsx0_43).1; have := (hsx0_43).2; have := (hsx1_43).1; have := (hsx1_43).2; have := (hsx4_43).1; have := (hsx4_43).2; have := (hsx3_43).1; have := (hsx3_43).2; have := (hx2_13).1; have := (hx2_13).2; have := (hx2_43).1; have := (hx2_43).2; have := (hz_1).1; have := (hz_1).2; have := (hz_2).1; have := (hz_2).2; omega)) (show o.toNatClampNeg < D.length from (by have := hRC.1; have : o.toNatClampNeg = o.toInt.toNat := rfl; have := hvo.1; omega)) (by have := h3i; have := hlt; omega) h3i.2.2.1.symm; rw [← ez_1] at b1; have c9 : z_1.toNatClampNeg = a9 := (by show z_1.toInt.toNat = a9; omega); exact ⟨(by omega), (by omega), (by rw [c9, b4]; exact h3i.2.2.1), (by have := h3i; have := i32_0; have := i32_1; have := i32_2; have := i32_m1; have := (hsx0_43).1; have := (hsx0_43).2; have := (hsx1_43).1; have := (hsx1_43).2; have := (hsx4_43).1; have := (hsx4_43).2; have := (hsx3_43).1; have := (hsx3_43).2; have := (hx2_13).1; have := (hx2_13).2; have := (hx2_43).1; have := (hx2_43).2; have := (hz_1).1; have := (hz_1).2; have := (hz_2).1; have := (hz_2).2; omega)⟩)) ((by have c7 : o.toNatClampNeg = o.toInt.toNat := rfl; have c6 : x3_13.toNatClampNeg = x3_13.toInt.toNat := rfl; obtain ⟨a9, b1, b2, b3, b4, b5⟩ := nx_d hRC (k := x3_13.toNatClampNeg) (j := o.toNatClampNeg) (show x3_13.toNatClampNeg < D.length from (by have := hRC.1; have := h3i; have : x3_13.toNatClampNeg = x3_13.toInt.toNat := rfl; have := i32_0; have := i32_1; have := i32_2; have := i32_m1; have := (show iv 0 80 (sg 4) from CI_s hI 4).1; have := (show iv 0 80 (sg 4) from CI_s hI 4).2; have := (hsx0_43).1; have := (hsx0_43).2; have := (hsx1_43).1; have := (hsx1_43).2; have := (hsx4_43).1; have := (hsx4_43).2; have := (hsx3_43).1; have := (hsx3_43).2; have := (hx2_13).1; have := (hx2_13).2; have := (hx2_43).1; have := (hx2_43).2; have := (hz_1).1; have := (hz_1).2; have := (hz_2).1; have := (hz_2).2; omega)) (show o.toNatClampNeg < D.length from (by have := hRC.1; have : o.toNatClampNeg = o.toInt.toNat := rfl; have := hvo.1; omega)) (by have := h3i; have := hlt; omega) h3i.2.2.1.symm; rw [← ez_1] at b1; have c9 : z_1.toNatClampNeg = a9 := (by show z_1.toInt.toNat = a9; omega); rw [c9, ah_sk (a := x3_13.toNatClampNeg + 1) a9 (by omega) (fun i h1 h2 => by have := b5 i (by omega) h2; have := h3i.2.2.1; omega)]; exact hct)) _ _ _ hP hD hS (lv_sub hl [0, 1, 2, 3, 4] rfl)
      refine lv_iload hx hb dX9_likeBefore_13 (lv_at hl 0 rfl) ?_
      refine lv_bipush (v := 80) hx hb dX9_likeBefore_15 (by decide) ?_
      refine lv_icmp_ge (tgt := 54) hx hb dX9_likeBefore_17 (by decide) (fun c_3 => ?_) (fun c_3 => ?_)
      · have h_4 : iv 80 80 x4_13 := iv_leR c_3 (iv_k (by decide) : iv 80 80 80) hx4_13 (by decide)
        exact hj54 x4_13 x3_13 x2_13 (iv_w h_4 (by decide)) hx3_13 hx2_13 hsx0_13 hsx1_13 ((by exfalso; have := h3i; have := i32_0; have := i32_1; have := i32_2; have := i32_m1; have := (hsx0_13).1; have := (hsx0_13).2; have := (hsx1_13).1; have := (hsx1_13).2; have := (h_4).1; have := (h_4).2; have := (hx3_13).1; have := (hx3_13).2; have := (hx2_13).1; have := (hx2_13).2; omega)) _ _ _ hP hD hS (lv_sub hl [0, 1, 2, 3, 4] rfl)
      · have h_5 : iv 0 79 x4_13 := iv_ltL (i32_lt c_3) hx4_13 (iv_k (by decide) : iv 80 80 80) (by decide)
        refine ec_aload_n hx hb dX9_likeBefore_20 rfl (lv_at hl 1 rfl) ?_
        refine ec_ifnull (tgt := 54) hx hb dX9_likeBefore_21 (by decide) (fun c_6 => ?_) (fun c_6 => ?_)
        · have h_7 : iv (-1) (-1) x3_13 := ⟨(hx3_13).1, by omega⟩
          exact hj54 x4_13 x3_13 x2_13 (iv_w h_5 (by decide)) (iv_w h_7 (by decide)) hx2_13 hsx0_13 hsx1_13 ((by exfalso; have := h3i; have := i32_0; have := i32_1; have := i32_2; have := i32_m1; have := (hsx0_13).1; have := (hsx0_13).2; have := (hsx1_13).1; have := (hsx1_13).2; have := (h_5).1; have := (h_5).2; have := (h_7).1; have := (h_7).2; have := (hx2_13).1; have := (hx2_13).2; omega)) _ _ _ hP hD hS (lv_sub hl [0, 1, 2, 3, 4] rfl)
        · have h_8 : iv 0 79 x3_13 := ⟨c_6, (hx3_13).2⟩
          refine ec_aload_n hx hb dX9_likeBefore_24 rfl (lv_at hl 1 rfl) ?_
          refine ec_aload_n hx hb dX9_likeBefore_25 rfl (lv_at hl 4 rfl) ?_
          refine ec_acmp_eq (tgt := 54) hx hb dX9_likeBefore_26 (by decide) (fun c_9 => ?_) (fun c_9 => ?_)
          · have wc_9 : x3_13.toInt = o.toInt := er_in hD (t := 9) (by decide) (by have := (h_8).1; omega) (show _ < 80 by have := (h_8).2; omega) (by have := (hsx1_13).1; omega) (show _ < 80 by have := (hsx1_13).2; omega) c_9
            exact hj54 x4_13 x3_13 x2_13 (iv_w h_5 (by decide)) (iv_w h_8 (by decide)) hx2_13 hsx0_13 hsx1_13 ((by have q9 : x3_13.toNatClampNeg = o.toNatClampNeg := (by show x3_13.toInt.toNat = o.toInt.toNat; rw [wc_9]); rw [q9] at hct; exact hct)) _ _ _ hP hD hS (lv_sub hl [0, 1, 2, 3, 4] rfl)
          · have wc_9 : ¬ x3_13.toInt = o.toInt := fun q9 => c_9 (congrArg (er (ad 9)) (Int32.toInt_inj.mp q9))
            refine ec_aload_n hx hb dX9_likeBefore_29 rfl (lv_at hl 1 rfl) ?_
            refine cr_get (t := 9) (j := 4) (C := RX3) (T := TX3) (N := 21) (v := eV (ad 33) (gm 14 x3_13.toNatClampNeg)) hx hb htb inX3 hown hK hP h_8 (by decide) (by decide) (by decide) rfl (by decide) (htb _ kw_242) rfl dX9_likeBefore_30 ?_
            obtain ⟨z_10, ez_10⟩ : ∃ z : Int32, z = (gm 14 x3_13.toNatClampNeg) := ⟨_, rfl⟩
            refine W.eq (g2 := F0 m 33 ls [eV (ad 33) z_10]) (by rw [ez_10]) ?_
            have hz_10 : iv (-1) 33 z_10 := iv_of ez_10 (CI_a hI 14 h_8 (by decide))
            refine ec_aload_n hx hb dX9_likeBefore_33 rfl (lv_at hl 4 rfl) ?_
            refine cr_get (t := 9) (j := 4) (C := RX3) (T := TX3) (N := 21) (v := eV (ad 33) (gm 14 o.toNatClampNeg)) hx hb htb inX3 hown hK hP hsx1_13 (by decide) (by decide) (by decide) rfl (by decide) (htb _ kw_242) rfl dX9_likeBefore_34 ?_
            obtain ⟨z_11, ez_11⟩ : ∃ z : Int32, z = (gm 14 o.toNatClampNeg) := ⟨_, rfl⟩
            refine W.eq (g2 := F0 m 37 ls [eV (ad 33) z_11, eV (ad 33) z_10]) (by rw [ez_11]) ?_
            have hz_11 : iv (-1) 33 z_11 := iv_of ez_11 (CI_a hI 14 hsx1_13 (by decide))
            refine ec_acmp_ne (tgt := 43) hx hb dX9_likeBefore_37 (by decide) (fun c_12 => ?_) (fun c_12 => ?_)
            · have wc_12 : ¬ z_10.toInt = z_11.toInt := fun q9 => c_12 (congrArg (er (ad 33)) (Int32.toInt_inj.mp q9))
              exact hj43 x2_13 h_5 h_8 hx2_13 hsx0_13 hsx1_13 (by have := i32_0; have := i32_1; have := i32_2; have := i32_m1; have := (hsx0_13).1; have := (hsx0_13).2; have := (hsx1_13).1; have := (hsx1_13).2; have := (h_5).1; have := (h_5).2; have := (h_8).1; have := (h_8).2; have := (hx2_13).1; have := (hx2_13).2; have := (hz_10).1; have := (hz_10).2; have := (hz_11).1; have := (hz_11).2; omega) (h3i) ((by have := h3i; have := i32_0; have := i32_1; have := i32_2; have := i32_m1; have := (hsx0_13).1; have := (hsx0_13).2; have := (hsx1_13).1; have := (hsx1_13).2; have := (h_5).1; have := (h_5).2; have := (h_8).1; have := (h_8).2; have := (hx2_13).1; have := (hx2_13).2; have := (hz_10).1; have := (hz_10).2; have := (hz_11).1; have := (hz_11).2; omega)) ((by have := congrArg Int32.toInt ez_10; have := congrArg Int32.toInt ez_11; show _ = ((ahD D 0 o.toNatClampNeg x3_13.toNatClampNeg + (if AQD D 0 o.toNatClampNeg x3_13.toNatClampNeg then 1 else 0) : Nat) : Int); rw [if_neg (fun q9 => wc_12 (by have := (wd_kd hRC (show x3_13.toNatClampNeg < D.length from (by have := hRC.1; have := h3i; have : x3_13.toNatClampNeg = x3_13.toInt.toNat := rfl; have := i32_0; have := i32_1; have := i32_2; have := i32_m1; have := (show iv 0 80 (sg 4) from CI_s hI 4).1; have := (show iv 0 80 (sg 4) from CI_s hI 4).2; have := (hsx0_13).1; have := (hsx0_13).2; have := (hsx1_13).1; have := (hsx1_13).2; have := (h_5).1; have := (h_5).2; have := (h_8).1; have := (h_8).2; have := (hx2_13).1; have := (hx2_13).2; have := (hz_10).1; have := (hz_10).2; have := (hz_11).1; have := (hz_11).2; omega)) (show o.toNatClampNeg < D.length from (by have := hRC.1; have : o.toNatClampNeg = o.toInt.toNat := rfl; have := hvo.1; omega)) hk1).mpr q9.2.1; omega))]; exact hct)) _ _ _ hP hD hS (lv_sub hl [0, 1, 2, 3, 4] rfl)
            · have wc_12 : z_10.toInt = z_11.toInt := er_wd hG hz_10 hz_11 c_12
              have h_13 : iv 0 79 x2_13 := ⟨(hx2_13).1, by have := i32_0; have := i32_1; have := i32_2; have := i32_m1; have := (hsx0_13).1; have := (hsx0_13).2; have := (hsx1_13).1; have := (hsx1_13).2; have := (h_5).1; have := (h_5).2; have := (h_8).1; have := (h_8).2; have := (hx2_13).1; have := (hx2_13).2; have := (hz_10).1; have := (hz_10).2; have := (hz_11).1; have := (hz_11).2; omega⟩
              obtain ⟨z_14, ez_14⟩ : ∃ z : Int32, z = x2_13 + 1 := ⟨_, rfl⟩
              have hz_14 : iv 1 80 z_14 := iv_of ez_14 (iv_add h_13 (iv_k (by decide) : iv 1 1 1) (by decide))
              have tz_14 : z_14.toInt = x2_13.toInt + 1 := by rw [ez_14]; exact iv_addE h_13 (iv_k (by decide) : iv 1 1 1) (by decide)
              refine lv_iinc (v := z_14) (lv' := [(2, .int z_14), (4, .int x4_13), (3, eV (ad 9) x3_13), (0, eV (ad 3) x), (1, eV (ad 9) o)]) hx hb dX9_likeBefore_40 hl (k := 2) rfl ez_14.symm (by decide) (by simp [List.filter, eV_cat, cat_i, cat_l]) (fun ls hl => ?_)
              exact hj43 z_14 h_5 h_8 (iv_w hz_14 (by decide)) hsx0_13 hsx1_13 (by have := i32_0; have := i32_1; have := i32_2; have := i32_m1; have := (hsx0_13).1; have := (hsx0_13).2; have := (hsx1_13).1; have := (hsx1_13).2; have := (h_5).1; have := (h_5).2; have := (h_8).1; have := (h_8).2; have := (h_13).1; have := (h_13).2; have := (hz_10).1; have := (hz_10).2; have := (hz_11).1; have := (hz_11).2; have := (hz_14).1; have := (hz_14).2; omega) (h3i) ((by have := h3i; have := i32_0; have := i32_1; have := i32_2; have := i32_m1; have := (hsx0_13).1; have := (hsx0_13).2; have := (hsx1_13).1; have := (hsx1_13).2; have := (h_5).1; have := (h_5).2; have := (h_8).1; have := (h_8).2; have := (h_13).1; have := (h_13).2; have := (hz_10).1; have := (hz_10).2; have := (hz_11).1; have := (hz_11).2; have := (hz_14).1; have := (hz_14).2; omega)) ((by have := congrArg Int32.toInt ez_10; have := congrArg Int32.toInt ez_11; show _ = ((ahD D 0 o.toNatClampNeg x3_13.toNatClampNeg + (if AQD D 0 o.toNatClampNeg x3_13.toNatClampNeg then 1 else 0) : Nat) : Int); rw [if_pos ⟨h3i.2.2.1, (wd_kd hRC (show x3_13.toNatClampNeg < D.length from (by have := hRC.1; have := h3i; have : x3_13.toNatClampNeg = x3_13.toInt.toNat := rfl; have := i32_0; have := i32_1; have := i32_2; have := i32_m1; have := (show iv 0 80 (sg 4) from CI_s hI 4).1; have := (show iv 0 80 (sg 4) from CI_s hI 4).2; have := (hsx0_13).1; have := (hsx0_13).2; have := (hsx1_13).1; have := (hsx1_13).2; have := (h_5).1; have := (h_5).2; have := (h_8).1; have := (h_8).2; have := (h_13).1; have := (h_13).2; have := (hz_10).1; have := (hz_10).2; have := (hz_11).1; have := (hz_11).2; have := (hz_14).1; have := (hz_14).2; omega)) (show o.toNatClampNeg < D.length from (by have := hRC.1; have : o.toNatClampNeg = o.toInt.toNat := rfl; have := hvo.1; omega)) hk1).mp (by have := wc_12; omega), Or.inl rfl⟩]; have := hct; have := tz_14; omega)) _ _ _ hP hD hS (lv_sub hl [1, 2, 0, 3, 4] rfl)
  refine lv_iconst (v := 0) hx hb dX9_likeBefore_0 (by decide) ?_
  refine lv_istore_n (i := 2) (lv' := [(2, .int 0), (0, eV (ad 3) x), (1, eV (ad 9) o)]) hx hb dX9_likeBefore_1 rfl hl (by decide) (by simp [List.filter, eV_cat, cat_i, cat_l]) (fun ls hl => ?_)
  refine ec_aload_n hx hb dX9_likeBefore_2 rfl (lv_at hl 2 rfl) ?_
  refine cr_get (t := 9) (j := 5) (C := RX3) (T := TX3) (N := 21) (v := eV (ad 9) (gm 15 o.toNatClampNeg)) hx hb htb inX3 hown hK hP hvo (by decide) (by decide) (by decide) rfl (by decide) (htb _ kw_247) rfl dX9_likeBefore_3 ?_
  obtain ⟨z_15, ez_15⟩ : ∃ z : Int32, z = (gm 15 o.toNatClampNeg) := ⟨_, rfl⟩
  refine W.eq (g2 := F0 m 6 ls [eV (ad 9) z_15]) (by rw [ez_15]) ?_
  have hz_15 : iv (-1) 79 z_15 := iv_of ez_15 (CI_a hI 15 hvo (by decide))
  have h_16 : iv 0 79 z_15 := ⟨by rw [ez_15]; exact ho0, (hz_15).2⟩
  refine cr_get (t := 9) (j := 6) (C := RX3) (T := TX3) (N := 21) (v := eV (ad 9) (gm 16 z_15.toNatClampNeg)) hx hb htb inX3 hown hK hP h_16 (by decide) (by decide) (by decide) rfl (by decide) (htb _ kw_251) rfl dX9_likeBefore_6 ?_
  obtain ⟨z_17, ez_17⟩ : ∃ z : Int32, z = (gm 16 z_15.toNatClampNeg) := ⟨_, rfl⟩
  refine W.eq (g2 := F0 m 9 ls [eV (ad 9) z_17]) (by rw [ez_17]) ?_
  have hz_17 : iv (-1) 79 z_17 := iv_of ez_17 (CI_a hI 16 h_16 (by decide))
  refine ec_astore_n (i := 3) (lv' := [(3, eV (ad 9) z_17), (2, .int 0), (0, eV (ad 3) x), (1, eV (ad 9) o)]) hx hb dX9_likeBefore_9 rfl hl (by decide) rfl (fun ls hl => ?_)
  refine lv_iconst (v := 0) hx hb dX9_likeBefore_10 (by decide) ?_
  refine lv_istore (i := 4) (lv' := [(4, .int 0), (3, eV (ad 9) z_17), (2, .int 0), (0, eV (ad 3) x), (1, eV (ad 9) o)]) hx hb dX9_likeBefore_11 hl (by decide) (by simp [List.filter, eV_cat, cat_i, cat_l]) (fun ls hl => ?_)
  exact hj13 _ 0 z_17 0 rfl (iv_w (iv_k (by decide) : iv 0 0 0) (by decide)) hz_17 (iv_w (iv_k (by decide) : iv 0 0 0) (by decide)) hvx hvo (by have := i32_0; have := i32_1; have := i32_2; have := i32_m1; have := (hvx).1; have := (hvx).2; have := (hvo).1; have := (hvo).2; have := (h_16).1; have := (h_16).2; have := (hz_17).1; have := (hz_17).2; omega) ((by have q5 := (RDC_f hRC (show o.toNatClampNeg < D.length from (by have := hRC.1; have : o.toNatClampNeg = o.toInt.toNat := rfl; have := hvo.1; omega))).1; have q6 := hRC.2.1 _ (by rw [RDC_n hRC]; exact (show o.toNatClampNeg < D.length from (by have := hRC.1; have : o.toNatClampNeg = o.toInt.toNat := rfl; have := hvo.1; omega))); have q7 := congrArg Int32.toInt ez_15; have q8 : z_15.toNatClampNeg = (dAb D o.toNatClampNeg).toNat := (by show z_15.toInt.toNat = _; omega); obtain ⟨a9, b1, b2, b3, b4⟩ := fi_d hRC (e := z_15.toNatClampNeg) (j := o.toNatClampNeg) (by rw [q8]; have := (show o.toNatClampNeg < D.length from (by have := hRC.1; have : o.toNatClampNeg = o.toInt.toNat := rfl; have := hvo.1; omega)); omega) (show o.toNatClampNeg < D.length from (by have := hRC.1; have : o.toNatClampNeg = o.toInt.toNat := rfl; have := hvo.1; omega)) (by omega); rw [← ez_17] at b1; have c9 : z_17.toNatClampNeg = a9 := (by show z_17.toInt.toNat = a9; omega); have c8 : ((z_15.toNatClampNeg : Nat) : Int) = dAb D o.toNatClampNeg := (by omega); have c7 : o.toNatClampNeg = o.toInt.toNat := rfl; exact ⟨(by omega), (by omega), (by rw [c9, b3]; omega), (by have := i32_0; omega)⟩)) ((by have q5 := (RDC_f hRC (show o.toNatClampNeg < D.length from (by have := hRC.1; have : o.toNatClampNeg = o.toInt.toNat := rfl; have := hvo.1; omega))).1; have q6 := hRC.2.1 _ (by rw [RDC_n hRC]; exact (show o.toNatClampNeg < D.length from (by have := hRC.1; have : o.toNatClampNeg = o.toInt.toNat := rfl; have := hvo.1; omega))); have q7 := congrArg Int32.toInt ez_15; have q8 : z_15.toNatClampNeg = (dAb D o.toNatClampNeg).toNat := (by show z_15.toInt.toNat = _; omega); obtain ⟨a9, b1, b2, b3, b4⟩ := fi_d hRC (e := z_15.toNatClampNeg) (j := o.toNatClampNeg) (by rw [q8]; have := (show o.toNatClampNeg < D.length from (by have := hRC.1; have : o.toNatClampNeg = o.toInt.toNat := rfl; have := hvo.1; omega)); omega) (show o.toNatClampNeg < D.length from (by have := hRC.1; have : o.toNatClampNeg = o.toInt.toNat := rfl; have := hvo.1; omega)) (by omega); rw [← ez_17] at b1; have c9 : z_17.toNatClampNeg = a9 := (by show z_17.toInt.toNat = a9; omega); have c8 : ((z_15.toNatClampNeg : Nat) : Int) = dAb D o.toNatClampNeg := (by omega); have c7 : o.toNatClampNeg = o.toInt.toNat := rfl; rw [c9, ah_sk (a := 0) a9 (Nat.zero_le _) (fun i _ hi => by have := b4 i hi; omega)]; rfl)) _ _ _ hP hD hS (lv_sub hl [0, 1, 2, 3, 4] rfl)
end
section
set_option maxHeartbeats 4000000 in
set_option maxRecDepth 100000 in
theorem d_isFirstOfName2 (l : Launch) (dC : Nat → ClassId) (dI : Nat → Nat → Nat) (ad : Nat → Nat → Nat) (cid : Nat → ClassId) (a2 : Nat → Nat) (lx : List Nat) (sg : Nat → Int32) (gm : Nat → Nat → Int32) (lg : Nat → Nat → Int64) (x : Int32) (o : Int32) (D : List El7) (hI : CI sg gm) (hvx : iv 0 0 x) (hvo : iv 0 79 o) (hFA : FA sg gm) (how : o.toInt < (sg 4).toInt) (hVS : VS sg gm) (hLK : LK sg gm) (ho0 : 0 ≤ (gm 15 o.toNatClampNeg).toInt) (hRC : RDC D sg gm lg) (hk1 : 1 ≤ dKd D o.toNatClampNeg) : CMt dC dI ad cid a2 lx l yX9_isFirstOfName wm_X9_isFirstOfName ({ frames := 2, cells := 1, slots := 6, locals := 47 }) [eV (ad 3) x, eV (ad 9) o] sg gm lg (fun v u => ∃ r : Int32, v = some (.int r) ∧ u = (sg, gm, lg) ∧ (iv 0 1 r) ∧ ((r.toInt = 1 ∧ (FON D o.toNatClampNeg)) ∨ (r.toInt = 0 ∧ ¬ (FON D o.toNatClampNeg)))) (fun _ _ => False) := by
  intro sz
  refine vx_ofW (cc := cX9_isFirstOfName) (maxL := 5) (ret := (some .boolean)) (by decide) rfl ?_
  intro p e s m args below meth c s₁ B hml hxt hv
  obtain ⟨rfl, hsz, hP, hK, hD0, hG⟩ := hv
  have hx := B.exec
  have hb := B.bytes
  have hr := B.returns
  have hts := atoms_spec (ws := wm_X9_isFirstOfName) B.pre
  have htb := fun (w : Cond) (h : w ∈ tb) => hts w (List.mem_cons_of_mem _ h)
  have hown : s.vm.findClass RX9 = some m.cls := findClass_of_methodNamed B.named
  have hlocks := B.notSynchronized
  subst hsz
  have hD := hD0.self (sz := s.heap.size)
  generalize hAe : va_A (cW ad cid a2 lx sg gm lg) s.heap.size = A at hD hG ⊢
  have hA : ∀ q : Nat, s.heap.size ≤ q → A q := fun q h => by rw [← hAe]; exact Or.inr h
  have hS : va_S A s.heap s.heap [] := va_S.rf
  have hl := lv_entry ([eV (ad 3) x, eV (ad 9) o]) (n := 5) (by rw [show (lg_sl ([eV (ad 3) x, eV (ad 9) o])).length = 2 from by simp [lg_sl, eV_cat, cat_i, cat_l]]; exact Nat.le_of_ble_eq_true rfl)
  rw [lg_entry_eq]
  generalize (lg_sl ([eV (ad 3) x, eV (ad 9) o]) ++ List.replicate (5 - (lg_sl ([eV (ad 3) x, eV (ad 9) o])).length) Slot.unset).toArray = ls at hl ⊢
  have hl : lv_has ls 5 [(0, eV (ad 3) x), (1, eV (ad 9) o)] := by simp [lv_args, eV_cat, cat_i, cat_l] at hl; exact hl
  have hj78 : ∀ (x4_78 : Int32) (x3_78 : Int32) (x2_78 : Int32) (_ : iv 0 80 x4_78) (_ : iv (-1) 79 x3_78) (_ : iv (-1) 25 x2_78) (_ : iv 0 0 x) (_ : iv 0 79 o) (_ : FON D o.toNatClampNeg) (H : Heap) (locs : List Loc) (ls : Array Slot), va_P (dC, dI) vwCl (cW ad cid a2 lx sg gm lg) H → va_D A (cW ad cid a2 lx sg gm lg) → va_S A s.heap H locs → lv_has ls 5 [(4, .int x4_78), (3, eV (ad 9) x3_78), (2, .int x2_78), (0, eV (ad 3) x), (1, eV (ad 9) o)] → W p l e (headSpec wm_X9_isFirstOfName ({ frames := 2, cells := 1, slots := 6, locals := 47 })).room s m ([eV (ad 3) x, eV (ad 9) o] : List Value).toArray below meth c H locs 0 0 (vx_MQ below (cQx dC dI ad cid a2 lx (fun v u => ∃ r : Int32, v = some (.int r) ∧ u = (sg, gm, lg) ∧ (iv 0 1 r) ∧ ((r.toInt = 1 ∧ (FON D o.toNatClampNeg)) ∨ (r.toInt = 0 ∧ ¬ (FON D o.toNatClampNeg)))) A) (cX dC dI ad cid a2 lx (fun _ _ => False) A) ([eV (ad 3) x, eV (ad 9) o] : List Value).toArray s 1 6 A) (F0 m 78 ls []) := by
    intro x4_78 x3_78 x2_78 hx4_78 hx3_78 hx2_78 hsx0_78 hsx1_78 u78 H locs ls hP hD hS hl
    refine lv_iconst (v := 1) hx hb dX9_isFirstOfName_78 (by decide) ?_
    exact W.nb (fun hN => W.widen (k := 1) (n := 6) (by decide) (by decide) (vx_ret (W.zret (v := 1) hx hb hr (iv_nb (iv_w (iv_k (by decide) : iv 1 1 1) (by decide))) (fun t ht hW => ⟨⟨some (.int 1), (sg, gm, lg), rfl, ⟨1, rfl, rfl, (iv_w (iv_k (by decide) : iv 1 1 1) (by decide)), (Or.inl ⟨rfl, u78⟩)⟩, by rw [ht]; exact hP, va_K.moved hW.alike hK, hD⟩, hS.F ht, by rw [ht]; exact hN⟩) hS.2.2 dX9_isFirstOfName_79)))
  have hj23 : ∀ (n : Nat) (x4_23 : Int32) (x3_23 : Int32) (x2_23 : Int32) (_ : (80 - x4_23.toInt).toNat = n) (_ : iv 0 80 x4_23) (_ : iv (-1) 79 x3_23) (_ : iv (-1) 25 x2_23) (_ : iv 0 0 x) (_ : iv 0 79 o) (_ : x3_23.toInt < (sg 4).toInt) (_ : 0 ≤ x3_23.toInt ∧ x3_23.toInt ≤ o.toInt ∧ dAb D x3_23.toNatClampNeg = dAb D o.toNatClampNeg ∧ x4_23.toInt ≤ x3_23.toInt) (_ : x2_23.toInt = lv7 (dAt D o.toNatClampNeg) 1851878757) (_ : ∀ k, k < x3_23.toNatClampNeg → dAb D k = dAb D o.toNatClampNeg → dKd D k = dKd D o.toNatClampNeg → ¬ lv7 (dAt D k) 1851878757 = lv7 (dAt D o.toNatClampNeg) 1851878757) (H : Heap) (locs : List Loc) (ls : Array Slot), va_P (dC, dI) vwCl (cW ad cid a2 lx sg gm lg) H → va_D A (cW ad cid a2 lx sg gm lg) → va_S A s.heap H locs → lv_has ls 5 [(4, .int x4_23), (3, eV (ad 9) x3_23), (2, .int x2_23), (0, eV (ad 3) x), (1, eV (ad 9) o)] → W p l e (headSpec wm_X9_isFirstOfName ({ frames := 2, cells := 1, slots := 6, locals := 47 })).room s m ([eV (ad 3) x, eV (ad 9) o] : List Value).toArray below meth c H locs 0 0 (vx_MQ below (cQx dC dI ad cid a2 lx (fun v u => ∃ r : Int32, v = some (.int r) ∧ u = (sg, gm, lg) ∧ (iv 0 1 r) ∧ ((r.toInt = 1 ∧ (FON D o.toNatClampNeg)) ∨ (r.toInt = 0 ∧ ¬ (FON D o.toNatClampNeg)))) A) (cX dC dI ad cid a2 lx (fun _ _ => False) A) ([eV (ad 3) x, eV (ad 9) o] : List Value).toArray s 1 6 A) (F0 m 23 ls []) := by
    intro n
    induction n using Nat.strongRecOn with
    | ind n ih23 =>
      intro x4_23 x3_23 x2_23 hn23 hx4_23 hx3_23 hx2_23 hsx0_23 hsx1_23 hl3 h3i h2l hnf H locs ls hP hD hS hl
      have hj67 : ∀ (_ : iv 0 79 x4_23) (_ : iv 0 79 x3_23) (_ : iv (-1) 25 x2_23) (_ : iv 0 0 x) (_ : iv 0 79 o) (_ : x3_23.toInt < (sg 4).toInt) (_ : 0 ≤ x3_23.toInt ∧ x3_23.toInt ≤ o.toInt ∧ dAb D x3_23.toNatClampNeg = dAb D o.toNatClampNeg ∧ x4_23.toInt ≤ x3_23.toInt) (_ : x3_23.toInt < o.toInt) (_ : x2_23.toInt = lv7 (dAt D o.toNatClampNeg) 1851878757) (_ : ∀ k, k < x3_23.toNatClampNeg + 1 → dAb D k = dAb D o.toNatClampNeg → dKd D k = dKd D o.toNatClampNeg → ¬ lv7 (dAt D k) 1851878757 = lv7 (dAt D o.toNatClampNeg) 1851878757) (H : Heap) (locs : List Loc) (ls : Array Slot), va_P (dC, dI) vwCl (cW ad cid a2 lx sg gm lg) H → va_D A (cW ad cid a2 lx sg gm lg) → va_S A s.heap H locs → lv_has ls 5 [(4, .int x4_23), (3, eV (ad 9) x3_23), (2, .int x2_23), (0, eV (ad 3) x), (1, eV (ad 9) o)] → W p l e (headSpec wm_X9_isFirstOfName ({ frames := 2, cells := 1, slots := 6, locals := 47 })).room s m ([eV (ad 3) x, eV (ad 9) o] : List Value).toArray below meth c H locs 0 0 (vx_MQ below (cQx dC dI ad cid a2 lx (fun v u => ∃ r : Int32, v = some (.int r) ∧ u = (sg, gm, lg) ∧ (iv 0 1 r) ∧ ((r.toInt = 1 ∧ (FON D o.toNatClampNeg)) ∨ (r.toInt = 0 ∧ ¬ (FON D o.toNatClampNeg)))) A) (cX dC dI ad cid a2 lx (fun _ _ => False) A) ([eV (ad 3) x, eV (ad 9) o] : List Value).toArray s 1 6 A) (F0 m 67 ls []) := by
        intro  hsx4_67 hsx3_67 hsx2_67 hsx0_67 hsx1_67 hl3 h3i hlt h2l hnf H locs ls hP hD hS hl
        refine ec_aload_n hx hb dX9_isFirstOfName_67 rfl (lv_at hl 1 rfl) ?_
        refine cr_get (t := 9) (j := 7) (C := RX3) (T := TX3) (N := 21) (v := eV (ad 9) (gm 17 x3_23.toNatClampNeg)) hx hb htb inX3 hown hK hP hsx3_67 (by decide) (by decide) (by decide) rfl (by decide) (htb _ kw_256) rfl dX9_isFirstOfName_68 ?_
        obtain ⟨z_1, ez_1⟩ : ∃ z : Int32, z = (gm 17 x3_23.toNatClampNeg) := ⟨_, rfl⟩
        refine W.eq (g2 := F0 m 71 ls [eV (ad 9) z_1]) (by rw [ez_1]) ?_
        have hz_1 : iv (-1) 79 z_1 := iv_of ez_1 (CI_a hI 17 hsx3_67 (by decide))
        refine ec_astore_n (i := 3) (lv' := [(3, eV (ad 9) z_1), (4, .int x4_23), (2, .int x2_23), (0, eV (ad 3) x), (1, eV (ad 9) o)]) hx hb dX9_isFirstOfName_71 rfl hl (by decide) rfl (fun ls hl => ?_)
        obtain ⟨z_2, ez_2⟩ : ∃ z : Int32, z = x4_23 + 1 := ⟨_, rfl⟩
        have hz_2 : iv 1 80 z_2 := iv_of ez_2 (iv_add hsx4_67 (iv_k (by decide) : iv 1 1 1) (by decide))
        have tz_2 : z_2.toInt = x4_23.toInt + 1 := by rw [ez_2]; exact iv_addE hsx4_67 (iv_k (by decide) : iv 1 1 1) (by decide)
        refine lv_iinc (v := z_2) (lv' := [(4, .int z_2), (3, eV (ad 9) z_1), (2, .int x2_23), (0, eV (ad 3) x), (1, eV (ad 9) o)]) hx hb dX9_isFirstOfName_72 hl (k := 1) rfl ez_2.symm (by decide) (by simp [List.filter, eV_cat, cat_i, cat_l]) (fun ls hl => ?_)
        refine lv_goto (tgt := 23) hx hb dX9_isFirstOfName_75 (by decide) ?_
        exact ih23 _ (by rw [← hn23]; exact (iv_meas tz_2 hsx4_67 (by decide))) z_2 z_1 x2_23 rfl (iv_w hz_2 (by decide)) hz_1 hsx2_67 hsx0_67 hsx1_67 ((by rw [ez_1]; exact (hLK _ (lt_cl hsx3_67 (show iv 0 80 (sg 4) from CI_s hI 4) (by decide) (by decide) (by have := i32_0; have := i32_1; have := i32_2; have := i32_m1; have := (show iv 0 80 (sg 4) from CI_s hI 4).1; have := (show iv 0 80 (sg 4) from CI_s hI 4).2; have := (hsx0_67).1; have := (hsx0_67).2; have := (hsx1_67).1; have := (hsx1_67).2; have := (hsx4_67).1; have := (hsx4_67).2; have := (hsx3_67).1; have := (hsx3_67).2; have := (hsx2_67).1; have := (hsx2_67).2; have := (hz_1).1; have := (hz_1).2; have := (hz_2).1; have := (hz_2).2; omega))).2.2.1)) ((by have c7 : o.toNatClampNeg = o.toInt.toNat := rfl; have c6 : x3_23.toNatClampNeg = x3_23.toInt.toNat := rfl; obtain ⟨a9, b1, b2, b3, b4, b5⟩ := nx_d hRC (k := x3_23.toNatClampNeg) (j := o.toNatClampNeg) (show x3_23.toNatClampNeg < D.length from (by have := hRC.1; have := h3i; have : x3_23.toNatClampNeg = x3_23.toInt.toNat := rfl; have := i32_0; have := i32_1; have := i32_2; have := i32_m1; have := (show iv 0 80 (sg 4) from CI_s hI 4).1; have := (show iv 0 80 (sg 4) from CI_s hI 4).2; have := (hsx0_67).1; have := (hsx0_67).2; have := (hsx1_67).1; have := (hsx1_67).2; have := (hsx4_67).1; have := (hsx4_67).2; have := (hsx3_67).1; have := (hsx3_67).2; have := (hsx2_67).1; have := (hsx2_67).2; have := (hz_1).1; have := (hz_1).2; have := (hz_2).1; have := (hz_2).2; omega)) (show o.toNatClampNeg < D.length from (by have := hRC.1; have : o.toNatClampNeg = o.toInt.toNat := rfl; have := hvo.1; omega)) (by have := h3i; have := hlt; omega) h3i.2.2.1.symm; rw [← ez_1] at b1; have c9 : z_1.toNatClampNeg = a9 := (by show z_1.toInt.toNat = a9; omega); exact ⟨(by omega), (by omega), (by rw [c9, b4]; exact h3i.2.2.1), (by have := h3i; have := i32_0; have := i32_1; have := i32_2; have := i32_m1; have := (hsx0_67).1; have := (hsx0_67).2; have := (hsx1_67).1; have := (hsx1_67).2; have := (hsx4_67).1; have := (hsx4_67).2; have := (hsx3_67).1; have := (hsx3_67).2; have := (hsx2_67).1; have := (hsx2_67).2; have := (hz_1).1; have := (hz_1).2; have := (hz_2).1; have := (hz_2).2; omega)⟩)) (h2l) ((by have c7 : o.toNatClampNeg = o.toInt.toNat := rfl; have c6 : x3_23.toNatClampNeg = x3_23.toInt.toNat := rfl; obtain ⟨a9, b1, b2, b3, b4, b5⟩ := nx_d hRC (k := x3_23.toNatClampNeg) (j := o.toNatClampNeg) (show x3_23.toNatClampNeg < D.length from (by have := hRC.1; have := h3i; have : x3_23.toNatClampNeg = x3_23.toInt.toNat := rfl; have := i32_0; have := i32_1; have := i32_2; have := i32_m1; have := (show iv 0 80 (sg 4) from CI_s hI 4).1; have := (show iv 0 80 (sg 4) from CI_s hI 4).2; have := (hsx0_67).1; have := (hsx0_67).2; have := (hsx1_67).1; have := (hsx1_67).2; have := (hsx4_67).1; have := (hsx4_67).2; have := (hsx3_67).1; have := (hsx3_67).2; have := (hsx2_67).1; have := (hsx2_67).2; have := (hz_1).1; have := (hz_1).2; have := (hz_2).1; have := (hz_2).2; omega)) (show o.toNatClampNeg < D.length from (by have := hRC.1; have : o.toNatClampNeg = o.toInt.toNat := rfl; have := hvo.1; omega)) (by have := h3i; have := hlt; omega) h3i.2.2.1.symm; rw [← ez_1] at b1; have c9 : z_1.toNatClampNeg = a9 := (by show z_1.toInt.toNat = a9; omega); intro k hk q1 q2; rw [c9] at hk; by_cases hq : k < x3_23.toNatClampNeg + 1; exact hnf k hq q1 q2; exact absurd (q1.trans h3i.2.2.1.symm) (b5 k (by omega) hk))) _ _ _ hP hD hS (lv_sub hl [0, 1, 2, 3, 4] rfl)
      refine lv_iload hx hb dX9_isFirstOfName_23 (lv_at hl 0 rfl) ?_
      refine lv_bipush (v := 80) hx hb dX9_isFirstOfName_25 (by decide) ?_
      refine lv_icmp_ge (tgt := 78) hx hb dX9_isFirstOfName_27 (by decide) (fun c_3 => ?_) (fun c_3 => ?_)
      · have h_4 : iv 80 80 x4_23 := iv_leR c_3 (iv_k (by decide) : iv 80 80 80) hx4_23 (by decide)
        exact hj78 x4_23 x3_23 x2_23 (iv_w h_4 (by decide)) hx3_23 hx2_23 hsx0_23 hsx1_23 ((by exfalso; have := h3i; have := i32_0; have := i32_1; have := i32_2; have := i32_m1; have := (hsx0_23).1; have := (hsx0_23).2; have := (hsx1_23).1; have := (hsx1_23).2; have := (h_4).1; have := (h_4).2; have := (hx3_23).1; have := (hx3_23).2; have := (hx2_23).1; have := (hx2_23).2; omega)) _ _ _ hP hD hS (lv_sub hl [0, 1, 2, 3, 4] rfl)
      · have h_5 : iv 0 79 x4_23 := iv_ltL (i32_lt c_3) hx4_23 (iv_k (by decide) : iv 80 80 80) (by decide)
        refine ec_aload_n hx hb dX9_isFirstOfName_30 rfl (lv_at hl 1 rfl) ?_
        refine ec_ifnull (tgt := 78) hx hb dX9_isFirstOfName_31 (by decide) (fun c_6 => ?_) (fun c_6 => ?_)
        · have h_7 : iv (-1) (-1) x3_23 := ⟨(hx3_23).1, by omega⟩
          exact hj78 x4_23 x3_23 x2_23 (iv_w h_5 (by decide)) (iv_w h_7 (by decide)) hx2_23 hsx0_23 hsx1_23 ((by exfalso; have := h3i; have := i32_0; have := i32_1; have := i32_2; have := i32_m1; have := (hsx0_23).1; have := (hsx0_23).2; have := (hsx1_23).1; have := (hsx1_23).2; have := (h_5).1; have := (h_5).2; have := (h_7).1; have := (h_7).2; have := (hx2_23).1; have := (hx2_23).2; omega)) _ _ _ hP hD hS (lv_sub hl [0, 1, 2, 3, 4] rfl)
        · have h_8 : iv 0 79 x3_23 := ⟨c_6, (hx3_23).2⟩
          refine ec_aload_n hx hb dX9_isFirstOfName_34 rfl (lv_at hl 1 rfl) ?_
          refine ec_aload_n hx hb dX9_isFirstOfName_35 rfl (lv_at hl 4 rfl) ?_
          refine ec_acmp_eq (tgt := 78) hx hb dX9_isFirstOfName_36 (by decide) (fun c_9 => ?_) (fun c_9 => ?_)
          · have wc_9 : x3_23.toInt = o.toInt := er_in hD (t := 9) (by decide) (by have := (h_8).1; omega) (show _ < 80 by have := (h_8).2; omega) (by have := (hsx1_23).1; omega) (show _ < 80 by have := (hsx1_23).2; omega) c_9
            exact hj78 x4_23 x3_23 x2_23 (iv_w h_5 (by decide)) (iv_w h_8 (by decide)) hx2_23 hsx0_23 hsx1_23 ((by have q9 : x3_23.toNatClampNeg = o.toNatClampNeg := (by show x3_23.toInt.toNat = o.toInt.toNat; rw [wc_9]); rw [q9] at hnf; exact hnf)) _ _ _ hP hD hS (lv_sub hl [0, 1, 2, 3, 4] rfl)
          · have wc_9 : ¬ x3_23.toInt = o.toInt := fun q9 => c_9 (congrArg (er (ad 9)) (Int32.toInt_inj.mp q9))
            refine ec_aload_n hx hb dX9_isFirstOfName_39 rfl (lv_at hl 1 rfl) ?_
            refine cr_get (t := 9) (j := 4) (C := RX3) (T := TX3) (N := 21) (v := eV (ad 33) (gm 14 x3_23.toNatClampNeg)) hx hb htb inX3 hown hK hP h_8 (by decide) (by decide) (by decide) rfl (by decide) (htb _ kw_242) rfl dX9_isFirstOfName_40 ?_
            obtain ⟨z_10, ez_10⟩ : ∃ z : Int32, z = (gm 14 x3_23.toNatClampNeg) := ⟨_, rfl⟩
            refine W.eq (g2 := F0 m 43 ls [eV (ad 33) z_10]) (by rw [ez_10]) ?_
            have hz_10 : iv (-1) 33 z_10 := iv_of ez_10 (CI_a hI 14 h_8 (by decide))
            refine ec_aload_n hx hb dX9_isFirstOfName_43 rfl (lv_at hl 4 rfl) ?_
            refine cr_get (t := 9) (j := 4) (C := RX3) (T := TX3) (N := 21) (v := eV (ad 33) (gm 14 o.toNatClampNeg)) hx hb htb inX3 hown hK hP hsx1_23 (by decide) (by decide) (by decide) rfl (by decide) (htb _ kw_242) rfl dX9_isFirstOfName_44 ?_
            obtain ⟨z_11, ez_11⟩ : ∃ z : Int32, z = (gm 14 o.toNatClampNeg) := ⟨_, rfl⟩
            refine W.eq (g2 := F0 m 47 ls [eV (ad 33) z_11, eV (ad 33) z_10]) (by rw [ez_11]) ?_
            have hz_11 : iv (-1) 33 z_11 := iv_of ez_11 (CI_a hI 14 hsx1_23 (by decide))
            refine ec_acmp_ne (tgt := 67) hx hb dX9_isFirstOfName_47 (by decide) (fun c_12 => ?_) (fun c_12 => ?_)
            · have wc_12 : ¬ z_10.toInt = z_11.toInt := fun q9 => c_12 (congrArg (er (ad 33)) (Int32.toInt_inj.mp q9))
              exact hj67 h_5 h_8 hx2_23 hsx0_23 hsx1_23 (hl3) (h3i) ((by have := h3i; have := i32_0; have := i32_1; have := i32_2; have := i32_m1; have := (hsx0_23).1; have := (hsx0_23).2; have := (hsx1_23).1; have := (hsx1_23).2; have := (h_5).1; have := (h_5).2; have := (h_8).1; have := (h_8).2; have := (hx2_23).1; have := (hx2_23).2; have := (hz_10).1; have := (hz_10).2; have := (hz_11).1; have := (hz_11).2; omega)) (h2l) ((fun k hk q1 q2 => by by_cases hq : k = x3_23.toNatClampNeg; (subst hq; exact absurd (by have := (wd_kd hRC (show x3_23.toNatClampNeg < D.length from (by have := hRC.1; have := h3i; have : x3_23.toNatClampNeg = x3_23.toInt.toNat := rfl; have := i32_0; have := i32_1; have := i32_2; have := i32_m1; have := (show iv 0 80 (sg 4) from CI_s hI 4).1; have := (show iv 0 80 (sg 4) from CI_s hI 4).2; have := (hsx0_23).1; have := (hsx0_23).2; have := (hsx1_23).1; have := (hsx1_23).2; have := (h_5).1; have := (h_5).2; have := (h_8).1; have := (h_8).2; have := (hx2_23).1; have := (hx2_23).2; have := (hz_10).1; have := (hz_10).2; have := (hz_11).1; have := (hz_11).2; omega)) (show o.toNatClampNeg < D.length from (by have := hRC.1; have : o.toNatClampNeg = o.toInt.toNat := rfl; have := hvo.1; omega)) hk1).mpr q2; have := congrArg Int32.toInt ez_10; have := congrArg Int32.toInt ez_11; omega) wc_12); exact hnf k (by omega) q1 q2)) _ _ _ hP hD hS (lv_sub hl [0, 1, 2, 3, 4] rfl)
            · have wc_12 : z_10.toInt = z_11.toInt := er_wd hG hz_10 hz_11 c_12
              refine ec_aload_n hx hb dX9_isFirstOfName_50 rfl (lv_at hl 3 rfl) ?_
              refine cr_get (t := 3) (j := 0) (C := RX9) (T := TX9) (N := 1) (v := eV (ad 1) 0) hx hb htb inX9 hown hK hP hsx0_23 (by decide) (by decide) (by decide) rfl (by decide) (htb _ kw_323) (cV_c rfl (by decide) (by rw [show cMu 3 0 = 0 from rfl, Nat.zero_mul]; rfl)) dX9_isFirstOfName_51 ?_
              refine ec_aload_n hx hb dX9_isFirstOfName_54 rfl (lv_at hl 1 rfl) ?_
              refine cw_word (k := 21) (kx := 21) hx hb hG hS (by decide) rfl ⟨by decide, by decide⟩ hown (htb _ kw_679) dX9_isFirstOfName_55 ?_
              refine cm_callV (t := 1) (C := RX6) (T := TX6) (N := 8) (rest := []) (as := [eV (ad 9) x3_23, eV (ad 33) 21]) ⟨hx, hb, hml, hown, htb⟩ (d_letterValue2 l dC dI ad cid a2 lx sg gm lg 0 x3_23 21 (dAt D x3_23.toNatClampNeg) hI (iv_k (by decide) : iv 0 0 0) h_8 (iv_w (iv_k (by decide) : iv 21 21 21) (by decide)) hFA (by have := i32_0; have := i32_1; have := i32_2; have := i32_m1; have := (show iv 0 80 (sg 4) from CI_s hI 4).1; have := (show iv 0 80 (sg 4) from CI_s hI 4).2; have := (hsx0_23).1; have := (hsx0_23).2; have := (hsx1_23).1; have := (hsx1_23).2; have := (h_5).1; have := (h_5).2; have := (h_8).1; have := (h_8).2; have := (hx2_23).1; have := (hx2_23).2; have := (hz_10).1; have := (hz_10).2; have := (hz_11).1; have := (hz_11).2; omega) hVS ((EV_of hRC (show x3_23.toNatClampNeg < D.length from (by have := hRC.1; have := h3i; have : x3_23.toNatClampNeg = x3_23.toInt.toNat := rfl; have := i32_0; have := i32_1; have := i32_2; have := i32_m1; have := (show iv 0 80 (sg 4) from CI_s hI 4).1; have := (show iv 0 80 (sg 4) from CI_s hI 4).2; have := (hsx0_23).1; have := (hsx0_23).2; have := (hsx1_23).1; have := (hsx1_23).2; have := (h_5).1; have := (h_5).2; have := (h_8).1; have := (h_8).2; have := (hx2_23).1; have := (hx2_23).2; have := (hz_10).1; have := (hz_10).2; have := (hz_11).1; have := (hz_11).2; omega))).2.1)) (cwV 2 htb (gd_V kw_680 kw_681 kw_682 kw_149 kw_1473) rfl rfl rfl (by decide +kernel) ⟨Nat.le_of_ble_eq_true rfl, Nat.le_of_ble_eq_true rfl⟩) (iv_k (by decide) : iv 0 0 0) (by decide) (by decide) rfl rfl hl.1 rfl (Nat.le_trans cs_n (by decide)) dX9_isFirstOfName_58 ⟨Nat.le_of_ble_eq_true rfl, Nat.le_of_ble_eq_true rfl⟩ hK hP hD hS hA hG (fun E ce q9 u_14 H locs hw hP hD hS hce hcv hcl => ?_) (fun v9 u_14 H locs hw hP hD hS => ?_)
              · exact hw.elim
              obtain ⟨r_13, rfl, rfl, hr_13, fL_r_13⟩ := hw
              have hP : va_P (dC, dI) vwCl (cW ad cid a2 lx sg gm lg) H := hP
              have hD : va_D A (cW ad cid a2 lx sg gm lg) := hD
              refine W.eq (g2 := F0 m 61 ls [.int r_13]) rfl ?_
              have gL_r_13 : r_13.toInt = lv7 (dAt D x3_23.toNatClampNeg) 1851878757 := by have q9 := fL_r_13; rw [show wKy.getD (21 : Int32).toNatClampNeg 0 = 1851878757 from by decide] at q9; exact q9
              refine lv_iload_n hx hb dX9_isFirstOfName_61 rfl (lv_at hl 2 rfl) ?_
              refine lv_icmp_ne (tgt := 67) hx hb dX9_isFirstOfName_62 (by decide) (fun c_16 => ?_) (fun c_16 => ?_)
              · exact hj67 h_5 h_8 hx2_23 hsx0_23 hsx1_23 (hl3) (h3i) ((by have := h3i; have := i32_0; have := i32_1; have := i32_2; have := i32_m1; have := (hsx0_23).1; have := (hsx0_23).2; have := (hsx1_23).1; have := (hsx1_23).2; have := (h_5).1; have := (h_5).2; have := (h_8).1; have := (h_8).2; have := (hx2_23).1; have := (hx2_23).2; have := (hz_10).1; have := (hz_10).2; have := (hz_11).1; have := (hz_11).2; have := (hr_13).1; have := (hr_13).2; omega)) (h2l) ((fun k hk q1 q2 => by by_cases hq : k = x3_23.toNatClampNeg; (subst hq; intro q3; have g9 := gL_r_13; rw [q3, ← h2l] at g9; exact c_16 (Int32.toInt_inj.mp g9)); exact hnf k (by omega) q1 q2)) _ _ _ hP hD hS (lv_sub hl [0, 1, 2, 3, 4] rfl)
              · have d_17 : (r_13 : Int32).toInt = (x2_23 : Int32).toInt := congrArg Int32.toInt c_16
                refine lv_iconst (v := 0) hx hb dX9_isFirstOfName_65 (by decide) ?_
                exact W.nb (fun hN => W.widen (k := 1) (n := 6) (by decide) (by decide) (vx_ret (W.zret (v := 0) hx hb hr (iv_nb (iv_w (iv_k (by decide) : iv 0 0 0) (by decide))) (fun t ht hW => ⟨⟨some (.int 0), (sg, gm, lg), rfl, ⟨0, rfl, rfl, (iv_w (iv_k (by decide) : iv 0 0 0) (by decide)), (Or.inr ⟨rfl, fun h => h x3_23.toNatClampNeg (by have := h3i; have : x3_23.toNatClampNeg = x3_23.toInt.toNat := rfl; have : o.toNatClampNeg = o.toInt.toNat := rfl; have := i32_0; have := i32_1; have := i32_2; have := i32_m1; have := (hsx0_23).1; have := (hsx0_23).2; have := (hsx1_23).1; have := (hsx1_23).2; have := (h_5).1; have := (h_5).2; have := (h_8).1; have := (h_8).2; have := (hx2_23).1; have := (hx2_23).2; have := (hz_10).1; have := (hz_10).2; have := (hz_11).1; have := (hz_11).2; have := (hr_13).1; have := (hr_13).2; omega) h3i.2.2.1 ((wd_kd hRC (show x3_23.toNatClampNeg < D.length from (by have := hRC.1; have := h3i; have : x3_23.toNatClampNeg = x3_23.toInt.toNat := rfl; have := i32_0; have := i32_1; have := i32_2; have := i32_m1; have := (show iv 0 80 (sg 4) from CI_s hI 4).1; have := (show iv 0 80 (sg 4) from CI_s hI 4).2; have := (hsx0_23).1; have := (hsx0_23).2; have := (hsx1_23).1; have := (hsx1_23).2; have := (h_5).1; have := (h_5).2; have := (h_8).1; have := (h_8).2; have := (hx2_23).1; have := (hx2_23).2; have := (hz_10).1; have := (hz_10).2; have := (hz_11).1; have := (hz_11).2; have := (hr_13).1; have := (hr_13).2; omega)) (show o.toNatClampNeg < D.length from (by have := hRC.1; have : o.toNatClampNeg = o.toInt.toNat := rfl; have := hvo.1; omega)) hk1).mp (by have := wc_12; have := congrArg Int32.toInt ez_10; have := congrArg Int32.toInt ez_11; omega)) (by rw [← gL_r_13, ← h2l]; have := i32_0; have := i32_1; have := i32_2; have := i32_m1; have := (hsx0_23).1; have := (hsx0_23).2; have := (hsx1_23).1; have := (hsx1_23).2; have := (h_5).1; have := (h_5).2; have := (h_8).1; have := (h_8).2; have := (hx2_23).1; have := (hx2_23).2; have := (hz_10).1; have := (hz_10).2; have := (hz_11).1; have := (hz_11).2; have := (hr_13).1; have := (hr_13).2; omega)⟩)⟩, by rw [ht]; exact hP, va_K.moved hW.alike hK, hD⟩, hS.F ht, by rw [ht]; exact hN⟩) hS.2.2 dX9_isFirstOfName_66)))
  refine ec_aload_n hx hb dX9_isFirstOfName_0 rfl (lv_at hl 0 rfl) ?_
  refine cr_get (t := 3) (j := 0) (C := RX9) (T := TX9) (N := 1) (v := eV (ad 1) 0) hx hb htb inX9 hown hK hP hvx (by decide) (by decide) (by decide) rfl (by decide) (htb _ kw_323) (cV_c rfl (by decide) (by rw [show cMu 3 0 = 0 from rfl, Nat.zero_mul]; rfl)) dX9_isFirstOfName_1 ?_
  refine ec_aload_n hx hb dX9_isFirstOfName_4 rfl (lv_at hl 1 rfl) ?_
  refine cw_word (k := 21) (kx := 21) hx hb hG hS (by decide) rfl ⟨by decide, by decide⟩ hown (htb _ kw_679) dX9_isFirstOfName_5 ?_
  refine cm_callV (t := 1) (C := RX6) (T := TX6) (N := 8) (rest := []) (as := [eV (ad 9) o, eV (ad 33) 21]) ⟨hx, hb, hml, hown, htb⟩ (d_letterValue2 l dC dI ad cid a2 lx sg gm lg 0 o 21 (dAt D o.toNatClampNeg) hI (iv_k (by decide) : iv 0 0 0) hvo (iv_w (iv_k (by decide) : iv 21 21 21) (by decide)) hFA how hVS ((EV_of hRC (show o.toNatClampNeg < D.length from (by have := hRC.1; have : o.toNatClampNeg = o.toInt.toNat := rfl; have := hvo.1; omega))).2.1)) (cwV 2 htb (gd_V kw_680 kw_681 kw_682 kw_149 kw_1473) rfl rfl rfl (by decide +kernel) ⟨Nat.le_of_ble_eq_true rfl, Nat.le_of_ble_eq_true rfl⟩) (iv_k (by decide) : iv 0 0 0) (by decide) (by decide) rfl rfl hl.1 rfl (Nat.le_trans cs_n (by decide)) dX9_isFirstOfName_8 ⟨Nat.le_of_ble_eq_true rfl, Nat.le_of_ble_eq_true rfl⟩ hK hP hD hS hA hG (fun E ce q9 u_19 H locs hw hP hD hS hce hcv hcl => ?_) (fun v9 u_19 H locs hw hP hD hS => ?_)
  · exact hw.elim
  obtain ⟨r_18, rfl, rfl, hr_18, fL_r_18⟩ := hw
  have hP : va_P (dC, dI) vwCl (cW ad cid a2 lx sg gm lg) H := hP
  have hD : va_D A (cW ad cid a2 lx sg gm lg) := hD
  refine W.eq (g2 := F0 m 11 ls [.int r_18]) rfl ?_
  have gL_r_18 : r_18.toInt = lv7 (dAt D o.toNatClampNeg) 1851878757 := by have q9 := fL_r_18; rw [show wKy.getD (21 : Int32).toNatClampNeg 0 = 1851878757 from by decide] at q9; exact q9
  refine lv_istore_n (i := 2) (lv' := [(2, .int r_18), (0, eV (ad 3) x), (1, eV (ad 9) o)]) hx hb dX9_isFirstOfName_11 rfl hl (by decide) (by simp [List.filter, eV_cat, cat_i, cat_l]) (fun ls hl => ?_)
  refine ec_aload_n hx hb dX9_isFirstOfName_12 rfl (lv_at hl 2 rfl) ?_
  refine cr_get (t := 9) (j := 5) (C := RX3) (T := TX3) (N := 21) (v := eV (ad 9) (gm 15 o.toNatClampNeg)) hx hb htb inX3 hown hK hP hvo (by decide) (by decide) (by decide) rfl (by decide) (htb _ kw_247) rfl dX9_isFirstOfName_13 ?_
  obtain ⟨z_21, ez_21⟩ : ∃ z : Int32, z = (gm 15 o.toNatClampNeg) := ⟨_, rfl⟩
  refine W.eq (g2 := F0 m 16 ls [eV (ad 9) z_21]) (by rw [ez_21]) ?_
  have hz_21 : iv (-1) 79 z_21 := iv_of ez_21 (CI_a hI 15 hvo (by decide))
  have h_22 : iv 0 79 z_21 := ⟨by rw [ez_21]; exact ho0, (hz_21).2⟩
  refine cr_get (t := 9) (j := 6) (C := RX3) (T := TX3) (N := 21) (v := eV (ad 9) (gm 16 z_21.toNatClampNeg)) hx hb htb inX3 hown hK hP h_22 (by decide) (by decide) (by decide) rfl (by decide) (htb _ kw_251) rfl dX9_isFirstOfName_16 ?_
  obtain ⟨z_23, ez_23⟩ : ∃ z : Int32, z = (gm 16 z_21.toNatClampNeg) := ⟨_, rfl⟩
  refine W.eq (g2 := F0 m 19 ls [eV (ad 9) z_23]) (by rw [ez_23]) ?_
  have hz_23 : iv (-1) 79 z_23 := iv_of ez_23 (CI_a hI 16 h_22 (by decide))
  refine ec_astore_n (i := 3) (lv' := [(3, eV (ad 9) z_23), (2, .int r_18), (0, eV (ad 3) x), (1, eV (ad 9) o)]) hx hb dX9_isFirstOfName_19 rfl hl (by decide) rfl (fun ls hl => ?_)
  refine lv_iconst (v := 0) hx hb dX9_isFirstOfName_20 (by decide) ?_
  refine lv_istore (i := 4) (lv' := [(4, .int 0), (3, eV (ad 9) z_23), (2, .int r_18), (0, eV (ad 3) x), (1, eV (ad 9) o)]) hx hb dX9_isFirstOfName_21 hl (by decide) (by simp [List.filter, eV_cat, cat_i, cat_l]) (fun ls hl => ?_)
  exact hj23 _ 0 z_23 r_18 rfl (iv_w (iv_k (by decide) : iv 0 0 0) (by decide)) hz_23 hr_18 hvx hvo ((by rw [ez_23]; exact (hLK _ (lt_cl h_22 (show iv 0 80 (sg 4) from CI_s hI 4) (by decide) (by decide) (by rw [ez_21]; exact (hLK _ (lt_cl hvo (show iv 0 80 (sg 4) from CI_s hI 4) (by decide) (by decide) how)).1))).2.1)) ((by have q5 := (RDC_f hRC (show o.toNatClampNeg < D.length from (by have := hRC.1; have : o.toNatClampNeg = o.toInt.toNat := rfl; have := hvo.1; omega))).1; have q6 := hRC.2.1 _ (by rw [RDC_n hRC]; exact (show o.toNatClampNeg < D.length from (by have := hRC.1; have : o.toNatClampNeg = o.toInt.toNat := rfl; have := hvo.1; omega))); have q7 := congrArg Int32.toInt ez_21; have q8 : z_21.toNatClampNeg = (dAb D o.toNatClampNeg).toNat := (by show z_21.toInt.toNat = _; omega); obtain ⟨a9, b1, b2, b3, b4⟩ := fi_d hRC (e := z_21.toNatClampNeg) (j := o.toNatClampNeg) (by rw [q8]; have := (show o.toNatClampNeg < D.length from (by have := hRC.1; have : o.toNatClampNeg = o.toInt.toNat := rfl; have := hvo.1; omega)); omega) (show o.toNatClampNeg < D.length from (by have := hRC.1; have : o.toNatClampNeg = o.toInt.toNat := rfl; have := hvo.1; omega)) (by omega); rw [← ez_23] at b1; have c9 : z_23.toNatClampNeg = a9 := (by show z_23.toInt.toNat = a9; omega); have c8 : ((z_21.toNatClampNeg : Nat) : Int) = dAb D o.toNatClampNeg := (by omega); have c7 : o.toNatClampNeg = o.toInt.toNat := rfl; exact ⟨(by omega), (by omega), (by rw [c9, b3]; omega), (by have := i32_0; omega)⟩)) (gL_r_18) ((by have q5 := (RDC_f hRC (show o.toNatClampNeg < D.length from (by have := hRC.1; have : o.toNatClampNeg = o.toInt.toNat := rfl; have := hvo.1; omega))).1; have q6 := hRC.2.1 _ (by rw [RDC_n hRC]; exact (show o.toNatClampNeg < D.length from (by have := hRC.1; have : o.toNatClampNeg = o.toInt.toNat := rfl; have := hvo.1; omega))); have q7 := congrArg Int32.toInt ez_21; have q8 : z_21.toNatClampNeg = (dAb D o.toNatClampNeg).toNat := (by show z_21.toInt.toNat = _; omega); obtain ⟨a9, b1, b2, b3, b4⟩ := fi_d hRC (e := z_21.toNatClampNeg) (j := o.toNatClampNeg) (by rw [q8]; have := (show o.toNatClampNeg < D.length from (by have := hRC.1; have : o.toNatClampNeg = o.toInt.toNat := rfl; have := hvo.1; omega)); omega) (show o.toNatClampNeg < D.length from (by have := hRC.1; have : o.toNatClampNeg = o.toInt.toNat := rfl; have := hvo.1; omega)) (by omega); rw [← ez_23] at b1; have c9 : z_23.toNatClampNeg = a9 := (by show z_23.toInt.toNat = a9; omega); have c8 : ((z_21.toNatClampNeg : Nat) : Int) = dAb D o.toNatClampNeg := (by omega); have c7 : o.toNatClampNeg = o.toInt.toNat := rfl; intro k hk q1; rw [c9] at hk; exact absurd (q1.trans c8.symm) (b4 k hk))) _ _ _ hP hD hS (lv_sub hl [0, 1, 2, 3, 4] rfl)
end
section
theorem STN_0 {D : List El7} {x : Nat} (g : STN D x) : ¬ dKd D x = 0 := by
  unfold STN at g
  rcases g with ⟨q, p⟩ | ⟨q, p⟩ | ⟨q, p⟩ | ⟨q, p⟩ | ⟨q, p⟩ | ⟨q, p⟩ | ⟨q, p⟩ | ⟨q, p⟩ <;> (clear p; omega)
theorem FND_x {gm : Nat → Nat → Int32} {lg : Nat → Nat → Int64} {j : Nat} {k : Int64} (h0 : 0 ≤ (gm 19 j).toInt) (hb : (gm 19 j).toInt + (gm 20 j).toInt ≤ 240) (hc : 0 ≤ (gm 20 j).toInt) : ∃ r, FND gm lg j k r := by
  have key : ∀ n, (∀ i, i < n → ¬ lg 0 ((gm 19 j).toNatClampNeg + i) = k) ∨ ∃ i, i < n ∧ lg 0 ((gm 19 j).toNatClampNeg + i) = k ∧ ∀ i', i' < i → ¬ lg 0 ((gm 19 j).toNatClampNeg + i') = k := by
    intro n
    induction n with
    | zero => exact Or.inl (fun i hi => absurd hi (Nat.not_lt_zero i))
    | succ n ih =>
      rcases ih with a | ⟨i, b1, b2, b3⟩
      · by_cases e : lg 0 ((gm 19 j).toNatClampNeg + n) = k
        · exact Or.inr ⟨n, by omega, e, a⟩
        · exact Or.inl (fun i hi => by
            by_cases q : i = n
            · rw [q]; exact e
            · exact a i (by omega))
      · exact Or.inr ⟨i, by omega, b2, b3⟩
  have q1 : (gm 19 j).toNatClampNeg = (gm 19 j).toInt.toNat := rfl
  have q2 : (gm 20 j).toNatClampNeg = (gm 20 j).toInt.toNat := rfl
  rcases key (gm 20 j).toNatClampNeg with a | ⟨i, b1, b2, b3⟩
  · exact ⟨-1, Or.inl ⟨by decide, fun i _ hi => a i hi⟩⟩
  · have e : (nI ((gm 19 j).toNatClampNeg + i)).toInt = (((gm 19 j).toNatClampNeg + i : Nat) : Int) := nI_toInt (by omega)
    exact ⟨nI ((gm 19 j).toNatClampNeg + i), Or.inr ⟨i, b1, by show (nI ((gm 19 j).toNatClampNeg + i)).toInt.toNat = _; omega, by omega, fun i' _ h => b3 i' h, b2⟩⟩
theorem LVP_of {A7 : At7} {gm : Nat → Nat → Int32} {lg : Nat → Nat → Int64} {j : Nat} {k : Int64} {P5 P6 : Int} (ha : ATC A7 gm lg j P5 P6) (h5 : P5 ≤ 240) (h : 0 ≤ lv7 A7 k) : LVP gm lg j k := by
  have h3 := ha.2.2.1
  have h1 := ha.1
  obtain ⟨r, hr⟩ := FND_x (gm := gm) (lg := lg) (j := j) (k := k) ha.2.1 (by omega) (by omega)
  rcases FND_l hr ha with ⟨a1, a2⟩ | ⟨a1, v, a2, a3⟩
  · unfold lv7 at h; rw [a2] at h; exact absurd h (by decide)
  · unfold lv7 at h
    rw [a2] at h
    cases v with
    | nil => exact absurd h (by decide)
    | cons c t => cases t with
      | nil =>
        have h : 0 ≤ if 97 ≤ c ∧ c ≤ 122 then c - 97 else -1 := h
        by_cases q : 97 ≤ c ∧ c ≤ 122
        · have e := a3.2 0 c rfl
          rw [Nat.add_zero] at e
          exact ⟨r, hr, a1, a3.1, by omega, by omega⟩
        · rw [if_neg q] at h; exact absurd h (by decide)
      | cons d u => exact absurd (show (0 : Int) ≤ -1 from h) (by decide)
/-- a right element bears what the rest wants to know -/
theorem SOK_of {D : List El7} {sg : Nat → Int32} {gm : Nat → Nat → Int32} {lg : Nat → Nat → Int64} {j : Nat} (hP : PA7 (dAt D j)) (h5 : (sg 5).toInt ≤ 240) (hE : EV7 D sg gm lg j) (hk : ¬ dKd D j = 0) (g : GOODC D j) : SOK gm lg j := by
  obtain ⟨g1, g2, g3, g4, g5⟩ := g
  obtain ⟨m, r⟩ := ATN_e.mp g2
  have hr := kd7_r (dEl D j).2.2.1.toInt
  have hd : dKd D j = kd7 (dEl D j).2.2.1.toInt := rfl
  have hw := KW_j hE.1 (by omega)
  have key : ∀ w k : Int, (gm 14 j).toInt = w → kwF w = k → dKd D j = k := fun w k e1 e2 => by have := hE.1; unfold KW7 at this; rw [e1, e2] at this; exact this.symm
  refine ⟨?_, ?_, ?_, ?_⟩
  · rw [hw]
    rcases (show dKd D j = 1 ∨ dKd D j = 2 ∨ dKd D j = 3 ∨ dKd D j = 4 ∨ dKd D j = 5 ∨ dKd D j = 6 ∨ dKd D j = 7 ∨ dKd D j = 8 ∨ dKd D j = 9 ∨ dKd D j = 10 by omega) with e | e | e | e | e | e | e | e | e | e <;> rw [e] <;> decide
  · intro h0 hq
    have hin : dIn D j = 4 ∨ dIn D j = 5 := by
      have := hE.2.2.2.1 (by have := hE.2.2.1.1; omega)
      unfold KW7 at this
      rcases hq with e | e
      · rw [e] at this; exact Or.inl (this.symm.trans (by decide))
      · rw [e] at this; exact Or.inr (this.symm.trans (by decide))
    have kk : dKd D j = 3 ∨ dKd D j = 6 ∨ dKd D j = 7 ∨ dKd D j = 8 ∨ dKd D j = 9 := by
      unfold STN at g1
      rcases g1 with ⟨a, b⟩ | ⟨a, b⟩ | ⟨a, b⟩ | ⟨a, b⟩ | ⟨a, b⟩ | ⟨a, b⟩ | ⟨a, b⟩ | ⟨a, b⟩
      · have := hE.2.2.1.1; omega
      · omega
      · omega
      · have := b.1; omega
      · have := b.1; omega
      · have := b.1; omega
      · omega
      · omega
    rw [hw]
    rcases kk with e | e | e | e | e <;> rw [e] <;> decide
  · intro e
    have k5 := key 4 5 e (by decide)
    have n1 := g3.2.2.1.resolve_left (fun v => v k5)
    rw [k5] at r
    have := ((rv_NAME hP).mp ((r 1851878757).resolve_left (by rw [n1]; decide))).resolve_left (fun v => absurd v.1 (by decide))
    exact LVP_of hE.2.1 h5 this.2
  · intro e hI hH
    have k3 := key 2 3 e (by decide)
    have hi : ¬ dIn D j = 1 := fun q => hI ((ISI_d hE (a := 0) (K := 1) (by unfold KW7; decide) (by decide)).mpr q)
    rw [k3] at m
    have a0 := may0 (k := 26980) m (by decide) hi
    have hh := (hsk_h hE.2.1).mp hH
    unfold aH at a0
    rw [if_pos (show hasK (dAt D j) 26980 = true from hh)] at a0
    exact absurd a0 (by decide)

set_option maxHeartbeats 4000000 in
set_option maxRecDepth 100000 in
theorem d_standsRight2 (l : Launch) (dC : Nat → ClassId) (dI : Nat → Nat → Nat) (ad : Nat → Nat → Nat) (cid : Nat → ClassId) (a2 : Nat → Nat) (lx : List Nat) (sg : Nat → Int32) (gm : Nat → Nat → Int32) (lg : Nat → Nat → Int64) (x : Int32) (o : Int32) (D : List El7) (hI : CI sg gm) (hvx : iv 0 0 x) (hvo : iv 0 79 o) (hFA : FA sg gm) (how : o.toInt < (sg 4).toInt) (hVS : VS sg gm) (hLK : LK sg gm) (hw0 : 0 ≤ (gm 14 o.toNatClampNeg).toInt) (hEV : EV7 D sg gm lg o.toNatClampNeg) (hRC : RDC D sg gm lg) : CMt dC dI ad cid a2 lx l yX9_standsRight wm_X9_standsRight ({ frames := 3, cells := 1, slots := 6, locals := 71 }) [eV (ad 3) x, eV (ad 9) o] sg gm lg (fun v u => ∃ r : Int32, v = some (.int r) ∧ u = (sg, gm, lg) ∧ (iv 0 1 r) ∧ ((r.toInt = 1 ∧ (STN D o.toNatClampNeg)) ∨ (r.toInt = 0 ∧ ¬ (STN D o.toNatClampNeg)))) (fun _ _ => False) := by
  intro sz
  refine vx_ofW (cc := cX9_standsRight) (maxL := 2) (ret := (some .boolean)) (by decide) rfl ?_
  intro p e s m args below meth c s₁ B hml hxt hv
  obtain ⟨rfl, hsz, hP, hK, hD0, hG⟩ := hv
  have hx := B.exec
  have hb := B.bytes
  have hr := B.returns
  have hts := atoms_spec (ws := wm_X9_standsRight) B.pre
  have htb := fun (w : Cond) (h : w ∈ tb) => hts w (List.mem_cons_of_mem _ h)
  have hown : s.vm.findClass RX9 = some m.cls := findClass_of_methodNamed B.named
  have hlocks := B.notSynchronized
  subst hsz
  have hD := hD0.self (sz := s.heap.size)
  generalize hAe : va_A (cW ad cid a2 lx sg gm lg) s.heap.size = A at hD hG ⊢
  have hA : ∀ q : Nat, s.heap.size ≤ q → A q := fun q h => by rw [← hAe]; exact Or.inr h
  have hS : va_S A s.heap s.heap [] := va_S.rf
  have hl := lv_entry ([eV (ad 3) x, eV (ad 9) o]) (n := 2) (by rw [show (lg_sl ([eV (ad 3) x, eV (ad 9) o])).length = 2 from by simp [lg_sl, eV_cat, cat_i, cat_l]]; exact Nat.le_of_ble_eq_true rfl)
  rw [lg_entry_eq]
  generalize (lg_sl ([eV (ad 3) x, eV (ad 9) o]) ++ List.replicate (2 - (lg_sl ([eV (ad 3) x, eV (ad 9) o])).length) Slot.unset).toArray = ls at hl ⊢
  have hl : lv_has ls 2 [(0, eV (ad 3) x), (1, eV (ad 9) o)] := by simp [lv_args, eV_cat, cat_i, cat_l] at hl; exact hl
  have hj76 : ∀ (y0_76 : Int32) (_ : iv 0 0 x) (_ : iv 0 79 o) (_ : iv 0 1 y0_76) (_ : (y0_76.toInt = 1 ∧ (STN D o.toNatClampNeg)) ∨ (y0_76.toInt = 0 ∧ ¬ (STN D o.toNatClampNeg))) (H : Heap) (locs : List Loc) (ls : Array Slot), va_P (dC, dI) vwCl (cW ad cid a2 lx sg gm lg) H → va_D A (cW ad cid a2 lx sg gm lg) → va_S A s.heap H locs → lv_has ls 2 [(0, eV (ad 3) x), (1, eV (ad 9) o)] → W p l e (headSpec wm_X9_standsRight ({ frames := 3, cells := 1, slots := 6, locals := 71 })).room s m ([eV (ad 3) x, eV (ad 9) o] : List Value).toArray below meth c H locs 0 0 (vx_MQ below (cQx dC dI ad cid a2 lx (fun v u => ∃ r : Int32, v = some (.int r) ∧ u = (sg, gm, lg) ∧ (iv 0 1 r) ∧ ((r.toInt = 1 ∧ (STN D o.toNatClampNeg)) ∨ (r.toInt = 0 ∧ ¬ (STN D o.toNatClampNeg)))) A) (cX dC dI ad cid a2 lx (fun _ _ => False) A) ([eV (ad 3) x, eV (ad 9) o] : List Value).toArray s 1 6 A) (F0 m 76 ls [.int y0_76]) := by
    intro y0_76 hsx0_76 hsx1_76 hy0_76 u76 H locs ls hP hD hS hl
    exact W.nb (fun hN => W.widen (k := 1) (n := 6) (by decide) (by decide) (vx_ret (W.zret (v := y0_76) hx hb hr (iv_nb hy0_76) (fun t ht hW => ⟨⟨some (.int y0_76), (sg, gm, lg), rfl, ⟨y0_76, rfl, rfl, hy0_76, (u76)⟩, by rw [ht]; exact hP, va_K.moved hW.alike hK, hD⟩, hS.F ht, by rw [ht]; exact hN⟩) hS.2.2 dX9_standsRight_76)))
  have hj108 : ∀ (y0_108 : Int32) (_ : iv 0 0 x) (_ : iv 0 79 o) (_ : iv 0 1 y0_108) (_ : (y0_108.toInt = 1 ∧ (STN D o.toNatClampNeg)) ∨ (y0_108.toInt = 0 ∧ ¬ (STN D o.toNatClampNeg))) (H : Heap) (locs : List Loc) (ls : Array Slot), va_P (dC, dI) vwCl (cW ad cid a2 lx sg gm lg) H → va_D A (cW ad cid a2 lx sg gm lg) → va_S A s.heap H locs → lv_has ls 2 [(0, eV (ad 3) x), (1, eV (ad 9) o)] → W p l e (headSpec wm_X9_standsRight ({ frames := 3, cells := 1, slots := 6, locals := 71 })).room s m ([eV (ad 3) x, eV (ad 9) o] : List Value).toArray below meth c H locs 0 0 (vx_MQ below (cQx dC dI ad cid a2 lx (fun v u => ∃ r : Int32, v = some (.int r) ∧ u = (sg, gm, lg) ∧ (iv 0 1 r) ∧ ((r.toInt = 1 ∧ (STN D o.toNatClampNeg)) ∨ (r.toInt = 0 ∧ ¬ (STN D o.toNatClampNeg)))) A) (cX dC dI ad cid a2 lx (fun _ _ => False) A) ([eV (ad 3) x, eV (ad 9) o] : List Value).toArray s 1 6 A) (F0 m 108 ls [.int y0_108]) := by
    intro y0_108 hsx0_108 hsx1_108 hy0_108 u108 H locs ls hP hD hS hl
    exact W.nb (fun hN => W.widen (k := 1) (n := 6) (by decide) (by decide) (vx_ret (W.zret (v := y0_108) hx hb hr (iv_nb hy0_108) (fun t ht hW => ⟨⟨some (.int y0_108), (sg, gm, lg), rfl, ⟨y0_108, rfl, rfl, hy0_108, (u108)⟩, by rw [ht]; exact hP, va_K.moved hW.alike hK, hD⟩, hS.F ht, by rw [ht]; exact hN⟩) hS.2.2 dX9_standsRight_108)))
  have hj103 : ∀ (_ : iv 0 0 x) (_ : iv 0 79 o) (_ : STN D o.toNatClampNeg) (H : Heap) (locs : List Loc) (ls : Array Slot), va_P (dC, dI) vwCl (cW ad cid a2 lx sg gm lg) H → va_D A (cW ad cid a2 lx sg gm lg) → va_S A s.heap H locs → lv_has ls 2 [(0, eV (ad 3) x), (1, eV (ad 9) o)] → W p l e (headSpec wm_X9_standsRight ({ frames := 3, cells := 1, slots := 6, locals := 71 })).room s m ([eV (ad 3) x, eV (ad 9) o] : List Value).toArray below meth c H locs 0 0 (vx_MQ below (cQx dC dI ad cid a2 lx (fun v u => ∃ r : Int32, v = some (.int r) ∧ u = (sg, gm, lg) ∧ (iv 0 1 r) ∧ ((r.toInt = 1 ∧ (STN D o.toNatClampNeg)) ∨ (r.toInt = 0 ∧ ¬ (STN D o.toNatClampNeg)))) A) (cX dC dI ad cid a2 lx (fun _ _ => False) A) ([eV (ad 3) x, eV (ad 9) o] : List Value).toArray s 1 6 A) (F0 m 103 ls []) := by
    intro  hsx0_103 hsx1_103 u103 H locs ls hP hD hS hl
    refine lv_iconst (v := 1) hx hb dX9_standsRight_103 (by decide) ?_
    refine lv_goto (tgt := 108) hx hb dX9_standsRight_104 (by decide) ?_
    exact hj108 1 hsx0_103 hsx1_103 (iv_w (iv_k (by decide) : iv 1 1 1) (by decide)) (Or.inl ⟨rfl, u103⟩) _ _ _ hP hD hS (lv_sub hl [0, 1] rfl)
  have hj133 : ∀ (y0_133 : Int32) (_ : iv 0 0 x) (_ : iv 0 79 o) (_ : iv 0 1 y0_133) (_ : (y0_133.toInt = 1 ∧ (STN D o.toNatClampNeg)) ∨ (y0_133.toInt = 0 ∧ ¬ (STN D o.toNatClampNeg))) (H : Heap) (locs : List Loc) (ls : Array Slot), va_P (dC, dI) vwCl (cW ad cid a2 lx sg gm lg) H → va_D A (cW ad cid a2 lx sg gm lg) → va_S A s.heap H locs → lv_has ls 2 [(0, eV (ad 3) x), (1, eV (ad 9) o)] → W p l e (headSpec wm_X9_standsRight ({ frames := 3, cells := 1, slots := 6, locals := 71 })).room s m ([eV (ad 3) x, eV (ad 9) o] : List Value).toArray below meth c H locs 0 0 (vx_MQ below (cQx dC dI ad cid a2 lx (fun v u => ∃ r : Int32, v = some (.int r) ∧ u = (sg, gm, lg) ∧ (iv 0 1 r) ∧ ((r.toInt = 1 ∧ (STN D o.toNatClampNeg)) ∨ (r.toInt = 0 ∧ ¬ (STN D o.toNatClampNeg)))) A) (cX dC dI ad cid a2 lx (fun _ _ => False) A) ([eV (ad 3) x, eV (ad 9) o] : List Value).toArray s 1 6 A) (F0 m 133 ls [.int y0_133]) := by
    intro y0_133 hsx0_133 hsx1_133 hy0_133 u133 H locs ls hP hD hS hl
    exact W.nb (fun hN => W.widen (k := 1) (n := 6) (by decide) (by decide) (vx_ret (W.zret (v := y0_133) hx hb hr (iv_nb hy0_133) (fun t ht hW => ⟨⟨some (.int y0_133), (sg, gm, lg), rfl, ⟨y0_133, rfl, rfl, hy0_133, (u133)⟩, by rw [ht]; exact hP, va_K.moved hW.alike hK, hD⟩, hS.F ht, by rw [ht]; exact hN⟩) hS.2.2 dX9_standsRight_133)))
  have hj132 : ∀ (_ : iv 0 0 x) (_ : iv 0 79 o) (_ : ¬ STN D o.toNatClampNeg) (H : Heap) (locs : List Loc) (ls : Array Slot), va_P (dC, dI) vwCl (cW ad cid a2 lx sg gm lg) H → va_D A (cW ad cid a2 lx sg gm lg) → va_S A s.heap H locs → lv_has ls 2 [(0, eV (ad 3) x), (1, eV (ad 9) o)] → W p l e (headSpec wm_X9_standsRight ({ frames := 3, cells := 1, slots := 6, locals := 71 })).room s m ([eV (ad 3) x, eV (ad 9) o] : List Value).toArray below meth c H locs 0 0 (vx_MQ below (cQx dC dI ad cid a2 lx (fun v u => ∃ r : Int32, v = some (.int r) ∧ u = (sg, gm, lg) ∧ (iv 0 1 r) ∧ ((r.toInt = 1 ∧ (STN D o.toNatClampNeg)) ∨ (r.toInt = 0 ∧ ¬ (STN D o.toNatClampNeg)))) A) (cX dC dI ad cid a2 lx (fun _ _ => False) A) ([eV (ad 3) x, eV (ad 9) o] : List Value).toArray s 1 6 A) (F0 m 132 ls []) := by
    intro  hsx0_132 hsx1_132 u132 H locs ls hP hD hS hl
    refine lv_iconst (v := 0) hx hb dX9_standsRight_132 (by decide) ?_
    exact hj133 0 hsx0_132 hsx1_132 (iv_w (iv_k (by decide) : iv 0 0 0) (by decide)) (Or.inr ⟨rfl, u132⟩) _ _ _ hP hD hS (lv_sub hl [0, 1] rfl)
  have hj167 : ∀ (y0_167 : Int32) (_ : iv 0 0 x) (_ : iv 0 79 o) (_ : iv 0 1 y0_167) (_ : (y0_167.toInt = 1 ∧ (STN D o.toNatClampNeg)) ∨ (y0_167.toInt = 0 ∧ ¬ (STN D o.toNatClampNeg))) (H : Heap) (locs : List Loc) (ls : Array Slot), va_P (dC, dI) vwCl (cW ad cid a2 lx sg gm lg) H → va_D A (cW ad cid a2 lx sg gm lg) → va_S A s.heap H locs → lv_has ls 2 [(0, eV (ad 3) x), (1, eV (ad 9) o)] → W p l e (headSpec wm_X9_standsRight ({ frames := 3, cells := 1, slots := 6, locals := 71 })).room s m ([eV (ad 3) x, eV (ad 9) o] : List Value).toArray below meth c H locs 0 0 (vx_MQ below (cQx dC dI ad cid a2 lx (fun v u => ∃ r : Int32, v = some (.int r) ∧ u = (sg, gm, lg) ∧ (iv 0 1 r) ∧ ((r.toInt = 1 ∧ (STN D o.toNatClampNeg)) ∨ (r.toInt = 0 ∧ ¬ (STN D o.toNatClampNeg)))) A) (cX dC dI ad cid a2 lx (fun _ _ => False) A) ([eV (ad 3) x, eV (ad 9) o] : List Value).toArray s 1 6 A) (F0 m 167 ls [.int y0_167]) := by
    intro y0_167 hsx0_167 hsx1_167 hy0_167 u167 H locs ls hP hD hS hl
    exact W.nb (fun hN => W.widen (k := 1) (n := 6) (by decide) (by decide) (vx_ret (W.zret (v := y0_167) hx hb hr (iv_nb hy0_167) (fun t ht hW => ⟨⟨some (.int y0_167), (sg, gm, lg), rfl, ⟨y0_167, rfl, rfl, hy0_167, (u167)⟩, by rw [ht]; exact hP, va_K.moved hW.alike hK, hD⟩, hS.F ht, by rw [ht]; exact hN⟩) hS.2.2 dX9_standsRight_167)))
  have hj166 : ∀ (_ : iv 0 0 x) (_ : iv 0 79 o) (_ : ¬ STN D o.toNatClampNeg) (H : Heap) (locs : List Loc) (ls : Array Slot), va_P (dC, dI) vwCl (cW ad cid a2 lx sg gm lg) H → va_D A (cW ad cid a2 lx sg gm lg) → va_S A s.heap H locs → lv_has ls 2 [(0, eV (ad 3) x), (1, eV (ad 9) o)] → W p l e (headSpec wm_X9_standsRight ({ frames := 3, cells := 1, slots := 6, locals := 71 })).room s m ([eV (ad 3) x, eV (ad 9) o] : List Value).toArray below meth c H locs 0 0 (vx_MQ below (cQx dC dI ad cid a2 lx (fun v u => ∃ r : Int32, v = some (.int r) ∧ u = (sg, gm, lg) ∧ (iv 0 1 r) ∧ ((r.toInt = 1 ∧ (STN D o.toNatClampNeg)) ∨ (r.toInt = 0 ∧ ¬ (STN D o.toNatClampNeg)))) A) (cX dC dI ad cid a2 lx (fun _ _ => False) A) ([eV (ad 3) x, eV (ad 9) o] : List Value).toArray s 1 6 A) (F0 m 166 ls []) := by
    intro  hsx0_166 hsx1_166 u166 H locs ls hP hD hS hl
    refine lv_iconst (v := 0) hx hb dX9_standsRight_166 (by decide) ?_
    exact hj167 0 hsx0_166 hsx1_166 (iv_w (iv_k (by decide) : iv 0 0 0) (by decide)) (Or.inr ⟨rfl, u166⟩) _ _ _ hP hD hS (lv_sub hl [0, 1] rfl)
  have hj200 : ∀ (y0_200 : Int32) (_ : iv 0 0 x) (_ : iv 0 79 o) (_ : iv 0 1 y0_200) (_ : (y0_200.toInt = 1 ∧ (STN D o.toNatClampNeg)) ∨ (y0_200.toInt = 0 ∧ ¬ (STN D o.toNatClampNeg))) (H : Heap) (locs : List Loc) (ls : Array Slot), va_P (dC, dI) vwCl (cW ad cid a2 lx sg gm lg) H → va_D A (cW ad cid a2 lx sg gm lg) → va_S A s.heap H locs → lv_has ls 2 [(0, eV (ad 3) x), (1, eV (ad 9) o)] → W p l e (headSpec wm_X9_standsRight ({ frames := 3, cells := 1, slots := 6, locals := 71 })).room s m ([eV (ad 3) x, eV (ad 9) o] : List Value).toArray below meth c H locs 0 0 (vx_MQ below (cQx dC dI ad cid a2 lx (fun v u => ∃ r : Int32, v = some (.int r) ∧ u = (sg, gm, lg) ∧ (iv 0 1 r) ∧ ((r.toInt = 1 ∧ (STN D o.toNatClampNeg)) ∨ (r.toInt = 0 ∧ ¬ (STN D o.toNatClampNeg)))) A) (cX dC dI ad cid a2 lx (fun _ _ => False) A) ([eV (ad 3) x, eV (ad 9) o] : List Value).toArray s 1 6 A) (F0 m 200 ls [.int y0_200]) := by
    intro y0_200 hsx0_200 hsx1_200 hy0_200 u200 H locs ls hP hD hS hl
    exact W.nb (fun hN => W.widen (k := 1) (n := 6) (by decide) (by decide) (vx_ret (W.zret (v := y0_200) hx hb hr (iv_nb hy0_200) (fun t ht hW => ⟨⟨some (.int y0_200), (sg, gm, lg), rfl, ⟨y0_200, rfl, rfl, hy0_200, (u200)⟩, by rw [ht]; exact hP, va_K.moved hW.alike hK, hD⟩, hS.F ht, by rw [ht]; exact hN⟩) hS.2.2 dX9_standsRight_200)))
  have hj199 : ∀ (_ : iv 0 0 x) (_ : iv 0 79 o) (_ : ¬ STN D o.toNatClampNeg) (H : Heap) (locs : List Loc) (ls : Array Slot), va_P (dC, dI) vwCl (cW ad cid a2 lx sg gm lg) H → va_D A (cW ad cid a2 lx sg gm lg) → va_S A s.heap H locs → lv_has ls 2 [(0, eV (ad 3) x), (1, eV (ad 9) o)] → W p l e (headSpec wm_X9_standsRight ({ frames := 3, cells := 1, slots := 6, locals := 71 })).room s m ([eV (ad 3) x, eV (ad 9) o] : List Value).toArray below meth c H locs 0 0 (vx_MQ below (cQx dC dI ad cid a2 lx (fun v u => ∃ r : Int32, v = some (.int r) ∧ u = (sg, gm, lg) ∧ (iv 0 1 r) ∧ ((r.toInt = 1 ∧ (STN D o.toNatClampNeg)) ∨ (r.toInt = 0 ∧ ¬ (STN D o.toNatClampNeg)))) A) (cX dC dI ad cid a2 lx (fun _ _ => False) A) ([eV (ad 3) x, eV (ad 9) o] : List Value).toArray s 1 6 A) (F0 m 199 ls []) := by
    intro  hsx0_199 hsx1_199 u199 H locs ls hP hD hS hl
    refine lv_iconst (v := 0) hx hb dX9_standsRight_199 (by decide) ?_
    exact hj200 0 hsx0_199 hsx1_199 (iv_w (iv_k (by decide) : iv 0 0 0) (by decide)) (Or.inr ⟨rfl, u199⟩) _ _ _ hP hD hS (lv_sub hl [0, 1] rfl)
  have hj226 : ∀ (y0_226 : Int32) (_ : iv 0 0 x) (_ : iv 0 79 o) (_ : iv 0 1 y0_226) (_ : (y0_226.toInt = 1 ∧ (STN D o.toNatClampNeg)) ∨ (y0_226.toInt = 0 ∧ ¬ (STN D o.toNatClampNeg))) (H : Heap) (locs : List Loc) (ls : Array Slot), va_P (dC, dI) vwCl (cW ad cid a2 lx sg gm lg) H → va_D A (cW ad cid a2 lx sg gm lg) → va_S A s.heap H locs → lv_has ls 2 [(0, eV (ad 3) x), (1, eV (ad 9) o)] → W p l e (headSpec wm_X9_standsRight ({ frames := 3, cells := 1, slots := 6, locals := 71 })).room s m ([eV (ad 3) x, eV (ad 9) o] : List Value).toArray below meth c H locs 0 0 (vx_MQ below (cQx dC dI ad cid a2 lx (fun v u => ∃ r : Int32, v = some (.int r) ∧ u = (sg, gm, lg) ∧ (iv 0 1 r) ∧ ((r.toInt = 1 ∧ (STN D o.toNatClampNeg)) ∨ (r.toInt = 0 ∧ ¬ (STN D o.toNatClampNeg)))) A) (cX dC dI ad cid a2 lx (fun _ _ => False) A) ([eV (ad 3) x, eV (ad 9) o] : List Value).toArray s 1 6 A) (F0 m 226 ls [.int y0_226]) := by
    intro y0_226 hsx0_226 hsx1_226 hy0_226 u226 H locs ls hP hD hS hl
    exact W.nb (fun hN => W.widen (k := 1) (n := 6) (by decide) (by decide) (vx_ret (W.zret (v := y0_226) hx hb hr (iv_nb hy0_226) (fun t ht hW => ⟨⟨some (.int y0_226), (sg, gm, lg), rfl, ⟨y0_226, rfl, rfl, hy0_226, (u226)⟩, by rw [ht]; exact hP, va_K.moved hW.alike hK, hD⟩, hS.F ht, by rw [ht]; exact hN⟩) hS.2.2 dX9_standsRight_226)))
  have hj221 : ∀ (_ : iv 0 0 x) (_ : iv 0 79 o) (_ : STN D o.toNatClampNeg) (H : Heap) (locs : List Loc) (ls : Array Slot), va_P (dC, dI) vwCl (cW ad cid a2 lx sg gm lg) H → va_D A (cW ad cid a2 lx sg gm lg) → va_S A s.heap H locs → lv_has ls 2 [(0, eV (ad 3) x), (1, eV (ad 9) o)] → W p l e (headSpec wm_X9_standsRight ({ frames := 3, cells := 1, slots := 6, locals := 71 })).room s m ([eV (ad 3) x, eV (ad 9) o] : List Value).toArray below meth c H locs 0 0 (vx_MQ below (cQx dC dI ad cid a2 lx (fun v u => ∃ r : Int32, v = some (.int r) ∧ u = (sg, gm, lg) ∧ (iv 0 1 r) ∧ ((r.toInt = 1 ∧ (STN D o.toNatClampNeg)) ∨ (r.toInt = 0 ∧ ¬ (STN D o.toNatClampNeg)))) A) (cX dC dI ad cid a2 lx (fun _ _ => False) A) ([eV (ad 3) x, eV (ad 9) o] : List Value).toArray s 1 6 A) (F0 m 221 ls []) := by
    intro  hsx0_221 hsx1_221 u221 H locs ls hP hD hS hl
    refine lv_iconst (v := 1) hx hb dX9_standsRight_221 (by decide) ?_
    refine lv_goto (tgt := 226) hx hb dX9_standsRight_222 (by decide) ?_
    exact hj226 1 hsx0_221 hsx1_221 (iv_w (iv_k (by decide) : iv 1 1 1) (by decide)) (Or.inl ⟨rfl, u221⟩) _ _ _ hP hD hS (lv_sub hl [0, 1] rfl)
  have hj227 : ∀ (_ : iv 0 0 x) (_ : iv 0 79 o) (_ : dKd D o.toNatClampNeg = 7 ∨ dKd D o.toNatClampNeg = 8 ∨ dKd D o.toNatClampNeg = 9) (H : Heap) (locs : List Loc) (ls : Array Slot), va_P (dC, dI) vwCl (cW ad cid a2 lx sg gm lg) H → va_D A (cW ad cid a2 lx sg gm lg) → va_S A s.heap H locs → lv_has ls 2 [(0, eV (ad 3) x), (1, eV (ad 9) o)] → W p l e (headSpec wm_X9_standsRight ({ frames := 3, cells := 1, slots := 6, locals := 71 })).room s m ([eV (ad 3) x, eV (ad 9) o] : List Value).toArray below meth c H locs 0 0 (vx_MQ below (cQx dC dI ad cid a2 lx (fun v u => ∃ r : Int32, v = some (.int r) ∧ u = (sg, gm, lg) ∧ (iv 0 1 r) ∧ ((r.toInt = 1 ∧ (STN D o.toNatClampNeg)) ∨ (r.toInt = 0 ∧ ¬ (STN D o.toNatClampNeg)))) A) (cX dC dI ad cid a2 lx (fun _ _ => False) A) ([eV (ad 3) x, eV (ad 9) o] : List Value).toArray s 1 6 A) (F0 m 227 ls []) := by
    intro  hsx0_227 hsx1_227 uK H locs ls hP hD hS hl
    refine ec_aload_n hx hb dX9_standsRight_227 rfl (lv_at hl 0 rfl) ?_
    refine ec_aload_n hx hb dX9_standsRight_228 rfl (lv_at hl 1 rfl) ?_
    refine cm_callV (t := 3) (C := RX9) (T := TX9) (N := 1) (rest := []) (as := [eV (ad 9) o]) ⟨hx, hb, hml, hown, htb⟩ (d_isHeld2 l dC dI ad cid a2 lx sg gm lg x o D hI hsx0_227 hsx1_227 hEV) (cwV 1 htb (gd_V kw_669 kw_670 kw_22 kw_152 kw_1470) rfl rfl rfl (by decide +kernel) ⟨Nat.le_of_ble_eq_true rfl, Nat.le_of_ble_eq_true rfl⟩) hsx0_227 (by decide) (by decide) rfl rfl hl.1 rfl (Nat.le_trans cs_n (by decide)) dX9_standsRight_229 ⟨Nat.le_of_ble_eq_true rfl, Nat.le_of_ble_eq_true rfl⟩ hK hP hD hS hA hG (fun E ce q9 u_2 H locs hw hP hD hS hce hcv hcl => ?_) (fun v9 u_2 H locs hw hP hD hS => ?_)
    · exact hw.elim
    obtain ⟨r_1, rfl, rfl, hr_1, fH_r_1⟩ := hw
    have hP : va_P (dC, dI) vwCl (cW ad cid a2 lx sg gm lg) H := hP
    have hD : va_D A (cW ad cid a2 lx sg gm lg) := hD
    refine W.eq (g2 := F0 m 232 ls [.int r_1]) rfl ?_
    exact W.nb (fun hN => W.widen (k := 1) (n := 6) (by decide) (by decide) (vx_ret (W.zret (v := r_1) hx hb hr (iv_nb hr_1) (fun t ht hW => ⟨⟨some (.int r_1), (sg, gm, lg), rfl, ⟨r_1, rfl, rfl, hr_1, ((fH_r_1.imp (fun q => ⟨q.1, Or.inr (Or.inr (Or.inr (Or.inr (Or.inr (Or.inr (Or.inr (⟨uK, q.2⟩)))))))⟩) (fun q => ⟨q.1, fun q9 => q.2 (uK.elim (fun e => STN_7 e q9) (fun e => e.elim (fun e => STN_8 e q9) (fun e => STN_9 e q9)))⟩)))⟩, by rw [ht]; exact hP, va_K.moved hW.alike hK, hD⟩, hS.F ht, by rw [ht]; exact hN⟩) hS.2.2 dX9_standsRight_232)))
  refine cw_sw hx hb hG hS hown (htb _ kw_660) dX9_standsRight_0 ?_
  refine ec_aload_n hx hb dX9_standsRight_3 rfl (lv_at hl 1 rfl) ?_
  refine cr_get (t := 9) (j := 4) (C := RX3) (T := TX3) (N := 21) (v := eV (ad 33) (gm 14 o.toNatClampNeg)) hx hb htb inX3 hown hK hP hvo (by decide) (by decide) (by decide) rfl (by decide) (htb _ kw_242) rfl dX9_standsRight_4 ?_
  obtain ⟨z_4, ez_4⟩ : ∃ z : Int32, z = (gm 14 o.toNatClampNeg) := ⟨_, rfl⟩
  refine W.eq (g2 := F0 m 7 ls [eV (ad 33) z_4, eV (ad 36) 0]) (by rw [ez_4]) ?_
  have hz_4 : iv (-1) 33 z_4 := iv_of ez_4 (CI_a hI 14 hvo (by decide))
  have h_5 : iv 0 33 z_4 := ⟨by rw [ez_4]; exact hw0, (hz_4).2⟩
  refine cw_ord ⟨hx, hb, hml, hown, htb⟩ kw_661 h_5 hl.1 (Nat.le_trans (cs_c (eV_cat _ _) cs_n) (by decide)) dX9_standsRight_7 ⟨Nat.le_of_ble_eq_true rfl, Nat.le_of_ble_eq_true rfl⟩ ⟨Nat.le_of_ble_eq_true rfl, Nat.le_of_ble_eq_true rfl⟩ hP hD hS hA hG (fun H locs hP hS => ?_)
  refine cw_swld (iv_k (by decide) : iv 0 0 0) hx hb hG hS h_5 dX9_standsRight_10 ?_
  refine lv_topi (fun z_6 ez_6 => ?_)
  have hz_6 : iv 0 29 z_6 := iv_of ez_6 (sw_iv z_4)
  by_cases c_7 : (z_6 : Int32).toInt = 6
  · refine lv_tableIn (tgt := 64) hx hb dX9_standsRight_11 (by rw [c_7]; decide) (by rw [c_7]; decide) (by rw [c_7]; rfl) (by decide) ?_
    have h_8 : iv 6 6 z_6 := iv_at c_7
    refine ec_aload_n hx hb dX9_standsRight_64 rfl (lv_at hl 1 rfl) ?_
    refine cr_get (t := 9) (j := 5) (C := RX3) (T := TX3) (N := 21) (v := eV (ad 9) (gm 15 o.toNatClampNeg)) hx hb htb inX3 hown hK hP hvo (by decide) (by decide) (by decide) rfl (by decide) (htb _ kw_247) rfl dX9_standsRight_65 ?_
    obtain ⟨z_9, ez_9⟩ : ∃ z : Int32, z = (gm 15 o.toNatClampNeg) := ⟨_, rfl⟩
    refine W.eq (g2 := F0 m 68 ls [eV (ad 9) z_9]) (by rw [ez_9]) ?_
    have hz_9 : iv (-1) 79 z_9 := iv_of ez_9 (CI_a hI 15 hvo (by decide))
    refine ec_ifnonnull (tgt := 75) hx hb dX9_standsRight_68 (by decide) (fun c_10 => ?_) (fun c_10 => ?_)
    · have h_11 : iv 0 79 z_9 := ⟨c_10, (hz_9).2⟩
      refine lv_iconst (v := 0) hx hb dX9_standsRight_75 (by decide) ?_
      exact hj76 0 hvx hvo (iv_w (iv_k (by decide) : iv 0 0 0) (by decide)) (Or.inr ⟨rfl, (fun q9 => by have hkd : dKd D o.toNatClampNeg = 1 := KW_f hEV.1 (by unfold KW7; rw [show (gm 14 o.toNatClampNeg).toInt = (0 : Int) from (by rw [← ez_4]; exact swy 0 6 (by decide) (h_5) ez_6 c_7)]; decide); have q8 := STN_1 hkd q9; have := hEV.2.2.1; have := congrArg Int32.toInt ez_9; have := i32_0; have := i32_1; have := i32_2; have := i32_m1; have := (hvx).1; have := (hvx).2; have := (hvo).1; have := (hvo).2; have := (h_5).1; have := (h_5).2; have := (h_8).1; have := (h_8).2; have := (h_11).1; have := (h_11).2; omega)⟩) _ _ _ hP hD hS (lv_sub hl [0, 1] rfl)
    · have h_12 : iv (-1) (-1) z_9 := ⟨(hz_9).1, by omega⟩
      refine lv_iconst (v := 1) hx hb dX9_standsRight_71 (by decide) ?_
      refine lv_goto (tgt := 76) hx hb dX9_standsRight_72 (by decide) ?_
      exact hj76 1 hvx hvo (iv_w (iv_k (by decide) : iv 1 1 1) (by decide)) (Or.inl ⟨rfl, (by have hkd : dKd D o.toNatClampNeg = 1 := KW_f hEV.1 (by unfold KW7; rw [show (gm 14 o.toNatClampNeg).toInt = (0 : Int) from (by rw [← ez_4]; exact swy 0 6 (by decide) (h_5) ez_6 c_7)]; decide); exact Or.inl ⟨hkd, (by have := hEV.2.2.1; have := congrArg Int32.toInt ez_9; have := i32_0; have := i32_1; have := i32_2; have := i32_m1; have := (hvx).1; have := (hvx).2; have := (hvo).1; have := (hvo).2; have := (h_5).1; have := (h_5).2; have := (h_8).1; have := (h_8).2; have := (h_12).1; have := (h_12).2; omega)⟩)⟩) _ _ _ hP hD hS (lv_sub hl [0, 1] rfl)
  by_cases c_13 : (z_6 : Int32).toInt = 7
  · refine lv_tableIn (tgt := 77) hx hb dX9_standsRight_11 (by rw [c_13]; decide) (by rw [c_13]; decide) (by rw [c_13]; rfl) (by decide) ?_
    have h_14 : iv 7 7 z_6 := iv_at c_13
    refine ec_aload_n hx hb dX9_standsRight_77 rfl (lv_at hl 1 rfl) ?_
    refine cw_word (k := 0) (kx := 0) hx hb hG hS (by decide) rfl ⟨by decide, by decide⟩ hown (htb _ kw_665) dX9_standsRight_78 ?_
    refine cm_callV (t := 9) (C := RX3) (T := TX3) (N := 21) (rest := []) (as := [eV (ad 33) 0]) ⟨hx, hb, hml, hown, htb⟩ (d_isIn2 l dC dI ad cid a2 lx sg gm lg o 0 hI hvo (iv_w (iv_k (by decide) : iv 0 0 0) (by decide))) (cwV 1 htb (gd_V kw_666 kw_667 kw_668 kw_150 kw_1469) rfl rfl rfl (by decide +kernel) ⟨Nat.le_of_ble_eq_true rfl, Nat.le_of_ble_eq_true rfl⟩) hvo (by decide) (by decide) rfl rfl hl.1 rfl (Nat.le_trans cs_n (by decide)) dX9_standsRight_81 ⟨Nat.le_of_ble_eq_true rfl, Nat.le_of_ble_eq_true rfl⟩ hK hP hD hS hA hG (fun E ce q9 u_16 H locs hw hP hD hS hce hcv hcl => ?_) (fun v9 u_16 H locs hw hP hD hS => ?_)
    · exact hw.elim
    obtain ⟨r_15, rfl, rfl, hr_15, fI_r_15⟩ := hw
    have hP : va_P (dC, dI) vwCl (cW ad cid a2 lx sg gm lg) H := hP
    have hD : va_D A (cW ad cid a2 lx sg gm lg) := hD
    refine W.eq (g2 := F0 m 84 ls [.int r_15]) rfl ?_
    have gI_r_15 : (r_15.toInt = 1 ∧ dIn D o.toNatClampNeg = 1) ∨ (r_15.toInt = 0 ∧ ¬ dIn D o.toNatClampNeg = 1) := by rw [← ISI_d hEV (a := 0) (K := 1) (by unfold KW7; decide) (by decide)]; exact fI_r_15
    exact W.nb (fun hN => W.widen (k := 1) (n := 6) (by decide) (by decide) (vx_ret (W.zret (v := r_15) hx hb hr (iv_nb hr_15) (fun t ht hW => ⟨⟨some (.int r_15), (sg, gm, lg), rfl, ⟨r_15, rfl, rfl, hr_15, ((by have hkd : dKd D o.toNatClampNeg = 2 := KW_f hEV.1 (by unfold KW7; rw [show (gm 14 o.toNatClampNeg).toInt = (1 : Int) from (by rw [← ez_4]; exact swy 1 7 (by decide) (h_5) ez_6 c_13)]; decide); have := gI_r_15; refine this.imp (fun q => ⟨q.1, Or.inr (Or.inl ⟨hkd, q.2⟩)⟩) (fun q => ⟨q.1, fun q9 => q.2 (STN_2 hkd q9)⟩)))⟩, by rw [ht]; exact hP, va_K.moved hW.alike hK, hD⟩, hS.F ht, by rw [ht]; exact hN⟩) hS.2.2 dX9_standsRight_84)))
  by_cases c_18 : (z_6 : Int32).toInt = 8
  · refine lv_tableIn (tgt := 85) hx hb dX9_standsRight_11 (by rw [c_18]; decide) (by rw [c_18]; decide) (by rw [c_18]; rfl) (by decide) ?_
    have h_19 : iv 8 8 z_6 := iv_at c_18
    refine ec_aload_n hx hb dX9_standsRight_85 rfl (lv_at hl 1 rfl) ?_
    refine cw_word (k := 0) (kx := 0) hx hb hG hS (by decide) rfl ⟨by decide, by decide⟩ hown (htb _ kw_665) dX9_standsRight_86 ?_
    refine cm_callV (t := 9) (C := RX3) (T := TX3) (N := 21) (rest := []) (as := [eV (ad 33) 0]) ⟨hx, hb, hml, hown, htb⟩ (d_isIn2 l dC dI ad cid a2 lx sg gm lg o 0 hI hvo (iv_w (iv_k (by decide) : iv 0 0 0) (by decide))) (cwV 1 htb (gd_V kw_666 kw_667 kw_668 kw_150 kw_1469) rfl rfl rfl (by decide +kernel) ⟨Nat.le_of_ble_eq_true rfl, Nat.le_of_ble_eq_true rfl⟩) hvo (by decide) (by decide) rfl rfl hl.1 rfl (Nat.le_trans cs_n (by decide)) dX9_standsRight_89 ⟨Nat.le_of_ble_eq_true rfl, Nat.le_of_ble_eq_true rfl⟩ hK hP hD hS hA hG (fun E ce q9 u_21 H locs hw hP hD hS hce hcv hcl => ?_) (fun v9 u_21 H locs hw hP hD hS => ?_)
    · exact hw.elim
    obtain ⟨r_20, rfl, rfl, hr_20, fI_r_20⟩ := hw
    have hP : va_P (dC, dI) vwCl (cW ad cid a2 lx sg gm lg) H := hP
    have hD : va_D A (cW ad cid a2 lx sg gm lg) := hD
    refine W.eq (g2 := F0 m 92 ls [.int r_20]) rfl ?_
    have gI_r_20 : (r_20.toInt = 1 ∧ dIn D o.toNatClampNeg = 1) ∨ (r_20.toInt = 0 ∧ ¬ dIn D o.toNatClampNeg = 1) := by rw [← ISI_d hEV (a := 0) (K := 1) (by unfold KW7; decide) (by decide)]; exact fI_r_20
    refine lv_if_ne (tgt := 103) hx hb dX9_standsRight_92 (by decide) (fun c_23 => ?_) (fun c_23 => ?_)
    · have h_24 : iv 1 1 r_20 := iv_neL c_23 hr_20 (by decide)
      exact hj103 hvx hvo ((by have hkd : dKd D o.toNatClampNeg = 3 := KW_f hEV.1 (by unfold KW7; rw [show (gm 14 o.toNatClampNeg).toInt = (2 : Int) from (by rw [← ez_4]; exact swy 2 8 (by decide) (h_5) ez_6 c_18)]; decide); exact Or.inr (Or.inr (Or.inl ⟨hkd, (by have := gI_r_20; have := i32_0; have := i32_1; have := i32_2; have := i32_m1; have := (hvx).1; have := (hvx).2; have := (hvo).1; have := (hvo).2; have := (h_5).1; have := (h_5).2; have := (h_19).1; have := (h_19).2; have := (h_24).1; have := (h_24).2; omega)⟩)))) _ _ _ hP hD hS (lv_sub hl [0, 1] rfl)
    · have h_25 : iv 0 0 r_20 := iv_eq c_23 hr_20 (iv_k (by decide) : iv 0 0 0) (by decide)
      refine ec_aload_n hx hb dX9_standsRight_95 rfl (lv_at hl 0 rfl) ?_
      refine ec_aload_n hx hb dX9_standsRight_96 rfl (lv_at hl 1 rfl) ?_
      refine cm_callV (t := 3) (C := RX9) (T := TX9) (N := 1) (rest := []) (as := [eV (ad 9) o]) ⟨hx, hb, hml, hown, htb⟩ (d_isHeld2 l dC dI ad cid a2 lx sg gm lg x o D hI hvx hvo hEV) (cwV 1 htb (gd_V kw_669 kw_670 kw_22 kw_152 kw_1470) rfl rfl rfl (by decide +kernel) ⟨Nat.le_of_ble_eq_true rfl, Nat.le_of_ble_eq_true rfl⟩) hvx (by decide) (by decide) rfl rfl hl.1 rfl (Nat.le_trans cs_n (by decide)) dX9_standsRight_97 ⟨Nat.le_of_ble_eq_true rfl, Nat.le_of_ble_eq_true rfl⟩ hK hP hD hS hA hG (fun E ce q9 u_27 H locs hw hP hD hS hce hcv hcl => ?_) (fun v9 u_27 H locs hw hP hD hS => ?_)
      · exact hw.elim
      obtain ⟨r_26, rfl, rfl, hr_26, fH_r_26⟩ := hw
      have hP : va_P (dC, dI) vwCl (cW ad cid a2 lx sg gm lg) H := hP
      have hD : va_D A (cW ad cid a2 lx sg gm lg) := hD
      refine W.eq (g2 := F0 m 100 ls [.int r_26]) rfl ?_
      refine lv_if_eq (tgt := 107) hx hb dX9_standsRight_100 (by decide) (fun c_29 => ?_) (fun c_29 => ?_)
      · have h_30 : iv 0 0 r_26 := iv_eq c_29 hr_26 (iv_k (by decide) : iv 0 0 0) (by decide)
        refine lv_iconst (v := 0) hx hb dX9_standsRight_107 (by decide) ?_
        exact hj108 0 hvx hvo (iv_w (iv_k (by decide) : iv 0 0 0) (by decide)) (Or.inr ⟨rfl, (fun q9 => by have hkd : dKd D o.toNatClampNeg = 3 := KW_f hEV.1 (by unfold KW7; rw [show (gm 14 o.toNatClampNeg).toInt = (2 : Int) from (by rw [← ez_4]; exact swy 2 8 (by decide) (h_5) ez_6 c_18)]; decide); have q8 := STN_3 hkd q9; have := gI_r_20; have := fH_r_26; have := i32_0; have := i32_1; have := i32_2; have := i32_m1; have := (hvx).1; have := (hvx).2; have := (hvo).1; have := (hvo).2; have := (h_5).1; have := (h_5).2; have := (h_19).1; have := (h_19).2; have := (h_25).1; have := (h_25).2; have := (h_30).1; have := (h_30).2; omega)⟩) _ _ _ hP hD hS (lv_sub hl [0, 1] rfl)
      · have h_31 : iv 1 1 r_26 := iv_neL c_29 hr_26 (by decide)
        exact hj103 hvx hvo ((by have hkd : dKd D o.toNatClampNeg = 3 := KW_f hEV.1 (by unfold KW7; rw [show (gm 14 o.toNatClampNeg).toInt = (2 : Int) from (by rw [← ez_4]; exact swy 2 8 (by decide) (h_5) ez_6 c_18)]; decide); exact Or.inr (Or.inr (Or.inl ⟨hkd, (by have := gI_r_20; have := fH_r_26; have := i32_0; have := i32_1; have := i32_2; have := i32_m1; have := (hvx).1; have := (hvx).2; have := (hvo).1; have := (hvo).2; have := (h_5).1; have := (h_5).2; have := (h_19).1; have := (h_19).2; have := (h_25).1; have := (h_25).2; have := (h_31).1; have := (h_31).2; omega)⟩)))) _ _ _ hP hD hS (lv_sub hl [0, 1] rfl)
  by_cases c_32 : (z_6 : Int32).toInt = 9
  · refine lv_tableIn (tgt := 109) hx hb dX9_standsRight_11 (by rw [c_32]; decide) (by rw [c_32]; decide) (by rw [c_32]; rfl) (by decide) ?_
    have h_33 : iv 9 9 z_6 := iv_at c_32
    refine ec_aload_n hx hb dX9_standsRight_109 rfl (lv_at hl 1 rfl) ?_
    refine cw_word (k := 2) (kx := 2) hx hb hG hS (by decide) rfl ⟨by decide, by decide⟩ hown (htb _ kw_674) dX9_standsRight_110 ?_
    refine cm_callV (t := 9) (C := RX3) (T := TX3) (N := 21) (rest := []) (as := [eV (ad 33) 2]) ⟨hx, hb, hml, hown, htb⟩ (d_isIn2 l dC dI ad cid a2 lx sg gm lg o 2 hI hvo (iv_w (iv_k (by decide) : iv 2 2 2) (by decide))) (cwV 1 htb (gd_V kw_666 kw_667 kw_668 kw_150 kw_1469) rfl rfl rfl (by decide +kernel) ⟨Nat.le_of_ble_eq_true rfl, Nat.le_of_ble_eq_true rfl⟩) hvo (by decide) (by decide) rfl rfl hl.1 rfl (Nat.le_trans cs_n (by decide)) dX9_standsRight_113 ⟨Nat.le_of_ble_eq_true rfl, Nat.le_of_ble_eq_true rfl⟩ hK hP hD hS hA hG (fun E ce q9 u_35 H locs hw hP hD hS hce hcv hcl => ?_) (fun v9 u_35 H locs hw hP hD hS => ?_)
    · exact hw.elim
    obtain ⟨r_34, rfl, rfl, hr_34, fI_r_34⟩ := hw
    have hP : va_P (dC, dI) vwCl (cW ad cid a2 lx sg gm lg) H := hP
    have hD : va_D A (cW ad cid a2 lx sg gm lg) := hD
    refine W.eq (g2 := F0 m 116 ls [.int r_34]) rfl ?_
    have gI_r_34 : (r_34.toInt = 1 ∧ dIn D o.toNatClampNeg = 3) ∨ (r_34.toInt = 0 ∧ ¬ dIn D o.toNatClampNeg = 3) := by rw [← ISI_d hEV (a := 2) (K := 3) (by unfold KW7; decide) (by decide)]; exact fI_r_34
    refine lv_if_eq (tgt := 132) hx hb dX9_standsRight_116 (by decide) (fun c_37 => ?_) (fun c_37 => ?_)
    · have h_38 : iv 0 0 r_34 := iv_eq c_37 hr_34 (iv_k (by decide) : iv 0 0 0) (by decide)
      exact hj132 hvx hvo ((fun q9 => by have hkd : dKd D o.toNatClampNeg = 4 := KW_f hEV.1 (by unfold KW7; rw [show (gm 14 o.toNatClampNeg).toInt = (3 : Int) from (by rw [← ez_4]; exact swy 3 9 (by decide) (h_5) ez_6 c_32)]; decide); have q8 := STN_4 hkd q9; have q7 := q8.1; have q6 := q8.2; have := gI_r_34; have := i32_0; have := i32_1; have := i32_2; have := i32_m1; have := (hvx).1; have := (hvx).2; have := (hvo).1; have := (hvo).2; have := (h_5).1; have := (h_5).2; have := (h_33).1; have := (h_33).2; have := (h_38).1; have := (h_38).2; omega)) _ _ _ hP hD hS (lv_sub hl [0, 1] rfl)
    · have h_39 : iv 1 1 r_34 := iv_neL c_37 hr_34 (by decide)
      refine ec_aload_n hx hb dX9_standsRight_119 rfl (lv_at hl 0 rfl) ?_
      refine ec_aload_n hx hb dX9_standsRight_120 rfl (lv_at hl 1 rfl) ?_
      refine cm_callV (t := 3) (C := RX9) (T := TX9) (N := 1) (rest := []) (as := [eV (ad 9) o]) ⟨hx, hb, hml, hown, htb⟩ (d_likeBefore2 l dC dI ad cid a2 lx sg gm lg x o D hI hvx hvo ((fI_r_34.resolve_right (fun q8 => absurd q8.1 (by have := i32_0; have := i32_1; have := i32_2; have := i32_m1; have := (hvx).1; have := (hvx).2; have := (hvo).1; have := (hvo).2; have := (h_5).1; have := (h_5).2; have := (h_33).1; have := (h_33).2; have := (h_39).1; have := (h_39).2; omega))).2.1) how hRC (by have hkd : dKd D o.toNatClampNeg = 4 := KW_f hEV.1 (by unfold KW7; rw [show (gm 14 o.toNatClampNeg).toInt = (3 : Int) from (by rw [← ez_4]; exact swy 3 9 (by decide) (h_5) ez_6 c_32)]; decide); omega)) (cwV 1 htb (gd_V kw_675 kw_676 kw_23 kw_152 kw_1471) rfl rfl rfl (by decide +kernel) ⟨Nat.le_of_ble_eq_true rfl, Nat.le_of_ble_eq_true rfl⟩) hvx (by decide) (by decide) rfl rfl hl.1 rfl (Nat.le_trans cs_n (by decide)) dX9_standsRight_121 ⟨Nat.le_of_ble_eq_true rfl, Nat.le_of_ble_eq_true rfl⟩ hK hP hD hS hA hG (fun E ce q9 u_41 H locs hw hP hD hS hce hcv hcl => ?_) (fun v9 u_41 H locs hw hP hD hS => ?_)
      · exact hw.elim
      obtain ⟨r_40, rfl, rfl, hr_40, fB_r_40⟩ := hw
      have hP : va_P (dC, dI) vwCl (cW ad cid a2 lx sg gm lg) H := hP
      have hD : va_D A (cW ad cid a2 lx sg gm lg) := hD
      refine W.eq (g2 := F0 m 124 ls [.int r_40]) rfl ?_
      refine lv_iconst (v := 4) hx hb dX9_standsRight_124 (by decide) ?_
      refine lv_icmp_ge (tgt := 132) hx hb dX9_standsRight_125 (by decide) (fun c_43 => ?_) (fun c_43 => ?_)
      · have h_44 : iv 4 80 r_40 := iv_leR c_43 (iv_k (by decide) : iv 4 4 4) hr_40 (by decide)
        exact hj132 hvx hvo ((fun q9 => by have hkd : dKd D o.toNatClampNeg = 4 := KW_f hEV.1 (by unfold KW7; rw [show (gm 14 o.toNatClampNeg).toInt = (3 : Int) from (by rw [← ez_4]; exact swy 3 9 (by decide) (h_5) ez_6 c_32)]; decide); have q8 := STN_4 hkd q9; have q7 := q8.1; have q6 := q8.2; have := gI_r_34; have := fB_r_40; have := i32_0; have := i32_1; have := i32_2; have := i32_m1; have := (hvx).1; have := (hvx).2; have := (hvo).1; have := (hvo).2; have := (h_5).1; have := (h_5).2; have := (h_33).1; have := (h_33).2; have := (h_39).1; have := (h_39).2; have := (h_44).1; have := (h_44).2; omega)) _ _ _ hP hD hS (lv_sub hl [0, 1] rfl)
      · have h_45 : iv 0 3 r_40 := iv_ltL (i32_lt c_43) hr_40 (iv_k (by decide) : iv 4 4 4) (by decide)
        refine lv_iconst (v := 1) hx hb dX9_standsRight_128 (by decide) ?_
        refine lv_goto (tgt := 133) hx hb dX9_standsRight_129 (by decide) ?_
        exact hj133 1 hvx hvo (iv_w (iv_k (by decide) : iv 1 1 1) (by decide)) (Or.inl ⟨rfl, (by have hkd : dKd D o.toNatClampNeg = 4 := KW_f hEV.1 (by unfold KW7; rw [show (gm 14 o.toNatClampNeg).toInt = (3 : Int) from (by rw [← ez_4]; exact swy 3 9 (by decide) (h_5) ez_6 c_32)]; decide); exact Or.inr (Or.inr (Or.inr (Or.inl ⟨hkd, (by have := gI_r_34; have := i32_0; have := i32_1; have := i32_2; have := i32_m1; have := (hvx).1; have := (hvx).2; have := (hvo).1; have := (hvo).2; have := (h_5).1; have := (h_5).2; have := (h_33).1; have := (h_33).2; have := (h_39).1; have := (h_39).2; have := (h_45).1; have := (h_45).2; omega), (by have := fB_r_40; have := i32_0; have := i32_1; have := i32_2; have := i32_m1; have := (hvx).1; have := (hvx).2; have := (hvo).1; have := (hvo).2; have := (h_5).1; have := (h_5).2; have := (h_33).1; have := (h_33).2; have := (h_39).1; have := (h_39).2; have := (h_45).1; have := (h_45).2; omega)⟩))))⟩) _ _ _ hP hD hS (lv_sub hl [0, 1] rfl)
  by_cases c_46 : (z_6 : Int32).toInt = 10
  · refine lv_tableIn (tgt := 134) hx hb dX9_standsRight_11 (by rw [c_46]; decide) (by rw [c_46]; decide) (by rw [c_46]; rfl) (by decide) ?_
    have h_47 : iv 10 10 z_6 := iv_at c_46
    refine ec_aload_n hx hb dX9_standsRight_134 rfl (lv_at hl 1 rfl) ?_
    refine cw_word (k := 2) (kx := 2) hx hb hG hS (by decide) rfl ⟨by decide, by decide⟩ hown (htb _ kw_674) dX9_standsRight_135 ?_
    refine cm_callV (t := 9) (C := RX3) (T := TX3) (N := 21) (rest := []) (as := [eV (ad 33) 2]) ⟨hx, hb, hml, hown, htb⟩ (d_isIn2 l dC dI ad cid a2 lx sg gm lg o 2 hI hvo (iv_w (iv_k (by decide) : iv 2 2 2) (by decide))) (cwV 1 htb (gd_V kw_666 kw_667 kw_668 kw_150 kw_1469) rfl rfl rfl (by decide +kernel) ⟨Nat.le_of_ble_eq_true rfl, Nat.le_of_ble_eq_true rfl⟩) hvo (by decide) (by decide) rfl rfl hl.1 rfl (Nat.le_trans cs_n (by decide)) dX9_standsRight_138 ⟨Nat.le_of_ble_eq_true rfl, Nat.le_of_ble_eq_true rfl⟩ hK hP hD hS hA hG (fun E ce q9 u_49 H locs hw hP hD hS hce hcv hcl => ?_) (fun v9 u_49 H locs hw hP hD hS => ?_)
    · exact hw.elim
    obtain ⟨r_48, rfl, rfl, hr_48, fI_r_48⟩ := hw
    have hP : va_P (dC, dI) vwCl (cW ad cid a2 lx sg gm lg) H := hP
    have hD : va_D A (cW ad cid a2 lx sg gm lg) := hD
    refine W.eq (g2 := F0 m 141 ls [.int r_48]) rfl ?_
    have gI_r_48 : (r_48.toInt = 1 ∧ dIn D o.toNatClampNeg = 3) ∨ (r_48.toInt = 0 ∧ ¬ dIn D o.toNatClampNeg = 3) := by rw [← ISI_d hEV (a := 2) (K := 3) (by unfold KW7; decide) (by decide)]; exact fI_r_48
    refine lv_if_eq (tgt := 166) hx hb dX9_standsRight_141 (by decide) (fun c_51 => ?_) (fun c_51 => ?_)
    · have h_52 : iv 0 0 r_48 := iv_eq c_51 hr_48 (iv_k (by decide) : iv 0 0 0) (by decide)
      exact hj166 hvx hvo ((fun q9 => by have hkd : dKd D o.toNatClampNeg = 5 := KW_f hEV.1 (by unfold KW7; rw [show (gm 14 o.toNatClampNeg).toInt = (4 : Int) from (by rw [← ez_4]; exact swy 4 10 (by decide) (h_5) ez_6 c_46)]; decide); have q8 := STN_5 hkd q9; have q7 := q8.1; have q6 := q8.2.1; have := gI_r_48; have := i32_0; have := i32_1; have := i32_2; have := i32_m1; have := (hvx).1; have := (hvx).2; have := (hvo).1; have := (hvo).2; have := (h_5).1; have := (h_5).2; have := (h_47).1; have := (h_47).2; have := (h_52).1; have := (h_52).2; omega)) _ _ _ hP hD hS (lv_sub hl [0, 1] rfl)
    · have h_53 : iv 1 1 r_48 := iv_neL c_51 hr_48 (by decide)
      refine ec_aload_n hx hb dX9_standsRight_144 rfl (lv_at hl 0 rfl) ?_
      refine ec_aload_n hx hb dX9_standsRight_145 rfl (lv_at hl 1 rfl) ?_
      refine cm_callV (t := 3) (C := RX9) (T := TX9) (N := 1) (rest := []) (as := [eV (ad 9) o]) ⟨hx, hb, hml, hown, htb⟩ (d_likeBefore2 l dC dI ad cid a2 lx sg gm lg x o D hI hvx hvo ((fI_r_48.resolve_right (fun q8 => absurd q8.1 (by have := i32_0; have := i32_1; have := i32_2; have := i32_m1; have := (hvx).1; have := (hvx).2; have := (hvo).1; have := (hvo).2; have := (h_5).1; have := (h_5).2; have := (h_47).1; have := (h_47).2; have := (h_53).1; have := (h_53).2; omega))).2.1) how hRC (by have hkd : dKd D o.toNatClampNeg = 5 := KW_f hEV.1 (by unfold KW7; rw [show (gm 14 o.toNatClampNeg).toInt = (4 : Int) from (by rw [← ez_4]; exact swy 4 10 (by decide) (h_5) ez_6 c_46)]; decide); omega)) (cwV 1 htb (gd_V kw_675 kw_676 kw_23 kw_152 kw_1471) rfl rfl rfl (by decide +kernel) ⟨Nat.le_of_ble_eq_true rfl, Nat.le_of_ble_eq_true rfl⟩) hvx (by decide) (by decide) rfl rfl hl.1 rfl (Nat.le_trans cs_n (by decide)) dX9_standsRight_146 ⟨Nat.le_of_ble_eq_true rfl, Nat.le_of_ble_eq_true rfl⟩ hK hP hD hS hA hG (fun E ce q9 u_55 H locs hw hP hD hS hce hcv hcl => ?_) (fun v9 u_55 H locs hw hP hD hS => ?_)
      · exact hw.elim
      obtain ⟨r_54, rfl, rfl, hr_54, fB_r_54⟩ := hw
      have hP : va_P (dC, dI) vwCl (cW ad cid a2 lx sg gm lg) H := hP
      have hD : va_D A (cW ad cid a2 lx sg gm lg) := hD
      refine W.eq (g2 := F0 m 149 ls [.int r_54]) rfl ?_
      refine lv_bipush (v := 8) hx hb dX9_standsRight_149 (by decide) ?_
      refine lv_icmp_ge (tgt := 166) hx hb dX9_standsRight_151 (by decide) (fun c_57 => ?_) (fun c_57 => ?_)
      · have h_58 : iv 8 80 r_54 := iv_leR c_57 (iv_k (by decide) : iv 8 8 8) hr_54 (by decide)
        exact hj166 hvx hvo ((fun q9 => by have hkd : dKd D o.toNatClampNeg = 5 := KW_f hEV.1 (by unfold KW7; rw [show (gm 14 o.toNatClampNeg).toInt = (4 : Int) from (by rw [← ez_4]; exact swy 4 10 (by decide) (h_5) ez_6 c_46)]; decide); have q8 := STN_5 hkd q9; have q7 := q8.1; have q6 := q8.2.1; have := gI_r_48; have := fB_r_54; have := i32_0; have := i32_1; have := i32_2; have := i32_m1; have := (hvx).1; have := (hvx).2; have := (hvo).1; have := (hvo).2; have := (h_5).1; have := (h_5).2; have := (h_47).1; have := (h_47).2; have := (h_53).1; have := (h_53).2; have := (h_58).1; have := (h_58).2; omega)) _ _ _ hP hD hS (lv_sub hl [0, 1] rfl)
      · have h_59 : iv 0 7 r_54 := iv_ltL (i32_lt c_57) hr_54 (iv_k (by decide) : iv 8 8 8) (by decide)
        refine ec_aload_n hx hb dX9_standsRight_154 rfl (lv_at hl 0 rfl) ?_
        refine ec_aload_n hx hb dX9_standsRight_155 rfl (lv_at hl 1 rfl) ?_
        refine cm_callV (t := 3) (C := RX9) (T := TX9) (N := 1) (rest := []) (as := [eV (ad 9) o]) ⟨hx, hb, hml, hown, htb⟩ (d_isFirstOfName2 l dC dI ad cid a2 lx sg gm lg x o D hI hvx hvo hFA how hVS hLK ((fI_r_48.resolve_right (fun q8 => absurd q8.1 (by have := i32_0; have := i32_1; have := i32_2; have := i32_m1; have := (hvx).1; have := (hvx).2; have := (hvo).1; have := (hvo).2; have := (h_5).1; have := (h_5).2; have := (h_47).1; have := (h_47).2; have := (h_53).1; have := (h_53).2; have := (h_59).1; have := (h_59).2; omega))).2.1) hRC (by have hkd : dKd D o.toNatClampNeg = 5 := KW_f hEV.1 (by unfold KW7; rw [show (gm 14 o.toNatClampNeg).toInt = (4 : Int) from (by rw [← ez_4]; exact swy 4 10 (by decide) (h_5) ez_6 c_46)]; decide); omega)) (cwV 1 htb (gd_V kw_677 kw_678 kw_24 kw_152 kw_1472) rfl rfl rfl (by decide +kernel) ⟨Nat.le_of_ble_eq_true rfl, Nat.le_of_ble_eq_true rfl⟩) hvx (by decide) (by decide) rfl rfl hl.1 rfl (Nat.le_trans cs_n (by decide)) dX9_standsRight_156 ⟨Nat.le_of_ble_eq_true rfl, Nat.le_of_ble_eq_true rfl⟩ hK hP hD hS hA hG (fun E ce q9 u_61 H locs hw hP hD hS hce hcv hcl => ?_) (fun v9 u_61 H locs hw hP hD hS => ?_)
        · exact hw.elim
        obtain ⟨r_60, rfl, rfl, hr_60, fF_r_60⟩ := hw
        have hP : va_P (dC, dI) vwCl (cW ad cid a2 lx sg gm lg) H := hP
        have hD : va_D A (cW ad cid a2 lx sg gm lg) := hD
        refine W.eq (g2 := F0 m 159 ls [.int r_60]) rfl ?_
        refine lv_if_eq (tgt := 166) hx hb dX9_standsRight_159 (by decide) (fun c_63 => ?_) (fun c_63 => ?_)
        · have h_64 : iv 0 0 r_60 := iv_eq c_63 hr_60 (iv_k (by decide) : iv 0 0 0) (by decide)
          exact hj166 hvx hvo ((fun q9 => by have hkd : dKd D o.toNatClampNeg = 5 := KW_f hEV.1 (by unfold KW7; rw [show (gm 14 o.toNatClampNeg).toInt = (4 : Int) from (by rw [← ez_4]; exact swy 4 10 (by decide) (h_5) ez_6 c_46)]; decide); have q8 := STN_5 hkd q9; exact (fF_r_60.resolve_left (fun q8 => absurd q8.1 (by have := i32_0; have := i32_1; have := i32_2; have := i32_m1; have := (hvx).1; have := (hvx).2; have := (hvo).1; have := (hvo).2; have := (h_5).1; have := (h_5).2; have := (h_47).1; have := (h_47).2; have := (h_53).1; have := (h_53).2; have := (h_59).1; have := (h_59).2; have := (h_64).1; have := (h_64).2; omega))).2 q8.2.2)) _ _ _ hP hD hS (lv_sub hl [0, 1] rfl)
        · have h_65 : iv 1 1 r_60 := iv_neL c_63 hr_60 (by decide)
          refine lv_iconst (v := 1) hx hb dX9_standsRight_162 (by decide) ?_
          refine lv_goto (tgt := 167) hx hb dX9_standsRight_163 (by decide) ?_
          exact hj167 1 hvx hvo (iv_w (iv_k (by decide) : iv 1 1 1) (by decide)) (Or.inl ⟨rfl, (by have hkd : dKd D o.toNatClampNeg = 5 := KW_f hEV.1 (by unfold KW7; rw [show (gm 14 o.toNatClampNeg).toInt = (4 : Int) from (by rw [← ez_4]; exact swy 4 10 (by decide) (h_5) ez_6 c_46)]; decide); exact Or.inr (Or.inr (Or.inr (Or.inr (Or.inl ⟨hkd, (by have := gI_r_48; have := i32_0; have := i32_1; have := i32_2; have := i32_m1; have := (hvx).1; have := (hvx).2; have := (hvo).1; have := (hvo).2; have := (h_5).1; have := (h_5).2; have := (h_47).1; have := (h_47).2; have := (h_53).1; have := (h_53).2; have := (h_59).1; have := (h_59).2; have := (h_65).1; have := (h_65).2; omega), (by have := fB_r_54; have := i32_0; have := i32_1; have := i32_2; have := i32_m1; have := (hvx).1; have := (hvx).2; have := (hvo).1; have := (hvo).2; have := (h_5).1; have := (h_5).2; have := (h_47).1; have := (h_47).2; have := (h_53).1; have := (h_53).2; have := (h_59).1; have := (h_59).2; have := (h_65).1; have := (h_65).2; omega), (fF_r_60.resolve_right (fun q8 => absurd q8.1 (by have := i32_0; have := i32_1; have := i32_2; have := i32_m1; have := (hvx).1; have := (hvx).2; have := (hvo).1; have := (hvo).2; have := (h_5).1; have := (h_5).2; have := (h_47).1; have := (h_47).2; have := (h_53).1; have := (h_53).2; have := (h_59).1; have := (h_59).2; have := (h_65).1; have := (h_65).2; omega))).2⟩)))))⟩) _ _ _ hP hD hS (lv_sub hl [0, 1] rfl)
  by_cases c_66 : (z_6 : Int32).toInt = 11
  · refine lv_tableIn (tgt := 168) hx hb dX9_standsRight_11 (by rw [c_66]; decide) (by rw [c_66]; decide) (by rw [c_66]; rfl) (by decide) ?_
    have h_67 : iv 11 11 z_6 := iv_at c_66
    refine ec_aload_n hx hb dX9_standsRight_168 rfl (lv_at hl 1 rfl) ?_
    refine cw_word (k := 2) (kx := 2) hx hb hG hS (by decide) rfl ⟨by decide, by decide⟩ hown (htb _ kw_674) dX9_standsRight_169 ?_
    refine cm_callV (t := 9) (C := RX3) (T := TX3) (N := 21) (rest := []) (as := [eV (ad 33) 2]) ⟨hx, hb, hml, hown, htb⟩ (d_isIn2 l dC dI ad cid a2 lx sg gm lg o 2 hI hvo (iv_w (iv_k (by decide) : iv 2 2 2) (by decide))) (cwV 1 htb (gd_V kw_666 kw_667 kw_668 kw_150 kw_1469) rfl rfl rfl (by decide +kernel) ⟨Nat.le_of_ble_eq_true rfl, Nat.le_of_ble_eq_true rfl⟩) hvo (by decide) (by decide) rfl rfl hl.1 rfl (Nat.le_trans cs_n (by decide)) dX9_standsRight_172 ⟨Nat.le_of_ble_eq_true rfl, Nat.le_of_ble_eq_true rfl⟩ hK hP hD hS hA hG (fun E ce q9 u_69 H locs hw hP hD hS hce hcv hcl => ?_) (fun v9 u_69 H locs hw hP hD hS => ?_)
    · exact hw.elim
    obtain ⟨r_68, rfl, rfl, hr_68, fI_r_68⟩ := hw
    have hP : va_P (dC, dI) vwCl (cW ad cid a2 lx sg gm lg) H := hP
    have hD : va_D A (cW ad cid a2 lx sg gm lg) := hD
    refine W.eq (g2 := F0 m 175 ls [.int r_68]) rfl ?_
    have gI_r_68 : (r_68.toInt = 1 ∧ dIn D o.toNatClampNeg = 3) ∨ (r_68.toInt = 0 ∧ ¬ dIn D o.toNatClampNeg = 3) := by rw [← ISI_d hEV (a := 2) (K := 3) (by unfold KW7; decide) (by decide)]; exact fI_r_68
    refine lv_if_eq (tgt := 199) hx hb dX9_standsRight_175 (by decide) (fun c_71 => ?_) (fun c_71 => ?_)
    · have h_72 : iv 0 0 r_68 := iv_eq c_71 hr_68 (iv_k (by decide) : iv 0 0 0) (by decide)
      exact hj199 hvx hvo ((fun q9 => by have hkd : dKd D o.toNatClampNeg = 10 := KW_f hEV.1 (by unfold KW7; rw [show (gm 14 o.toNatClampNeg).toInt = (5 : Int) from (by rw [← ez_4]; exact swy 5 11 (by decide) (h_5) ez_6 c_66)]; decide); have q8 := STN_10 hkd q9; have q7 := q8.1; have q6 := q8.2.1; have := gI_r_68; have := i32_0; have := i32_1; have := i32_2; have := i32_m1; have := (hvx).1; have := (hvx).2; have := (hvo).1; have := (hvo).2; have := (h_5).1; have := (h_5).2; have := (h_67).1; have := (h_67).2; have := (h_72).1; have := (h_72).2; omega)) _ _ _ hP hD hS (lv_sub hl [0, 1] rfl)
    · have h_73 : iv 1 1 r_68 := iv_neL c_71 hr_68 (by decide)
      refine ec_aload_n hx hb dX9_standsRight_178 rfl (lv_at hl 0 rfl) ?_
      refine ec_aload_n hx hb dX9_standsRight_179 rfl (lv_at hl 1 rfl) ?_
      refine cm_callV (t := 3) (C := RX9) (T := TX9) (N := 1) (rest := []) (as := [eV (ad 9) o]) ⟨hx, hb, hml, hown, htb⟩ (d_likeBefore2 l dC dI ad cid a2 lx sg gm lg x o D hI hvx hvo ((fI_r_68.resolve_right (fun q8 => absurd q8.1 (by have := i32_0; have := i32_1; have := i32_2; have := i32_m1; have := (hvx).1; have := (hvx).2; have := (hvo).1; have := (hvo).2; have := (h_5).1; have := (h_5).2; have := (h_67).1; have := (h_67).2; have := (h_73).1; have := (h_73).2; omega))).2.1) how hRC (by have hkd : dKd D o.toNatClampNeg = 10 := KW_f hEV.1 (by unfold KW7; rw [show (gm 14 o.toNatClampNeg).toInt = (5 : Int) from (by rw [← ez_4]; exact swy 5 11 (by decide) (h_5) ez_6 c_66)]; decide); omega)) (cwV 1 htb (gd_V kw_675 kw_676 kw_23 kw_152 kw_1471) rfl rfl rfl (by decide +kernel) ⟨Nat.le_of_ble_eq_true rfl, Nat.le_of_ble_eq_true rfl⟩) hvx (by decide) (by decide) rfl rfl hl.1 rfl (Nat.le_trans cs_n (by decide)) dX9_standsRight_180 ⟨Nat.le_of_ble_eq_true rfl, Nat.le_of_ble_eq_true rfl⟩ hK hP hD hS hA hG (fun E ce q9 u_75 H locs hw hP hD hS hce hcv hcl => ?_) (fun v9 u_75 H locs hw hP hD hS => ?_)
      · exact hw.elim
      obtain ⟨r_74, rfl, rfl, hr_74, fB_r_74⟩ := hw
      have hP : va_P (dC, dI) vwCl (cW ad cid a2 lx sg gm lg) H := hP
      have hD : va_D A (cW ad cid a2 lx sg gm lg) := hD
      refine W.eq (g2 := F0 m 183 ls [.int r_74]) rfl ?_
      refine lv_iconst (v := 2) hx hb dX9_standsRight_183 (by decide) ?_
      refine lv_icmp_ge (tgt := 199) hx hb dX9_standsRight_184 (by decide) (fun c_77 => ?_) (fun c_77 => ?_)
      · have h_78 : iv 2 80 r_74 := iv_leR c_77 (iv_k (by decide) : iv 2 2 2) hr_74 (by decide)
        exact hj199 hvx hvo ((fun q9 => by have hkd : dKd D o.toNatClampNeg = 10 := KW_f hEV.1 (by unfold KW7; rw [show (gm 14 o.toNatClampNeg).toInt = (5 : Int) from (by rw [← ez_4]; exact swy 5 11 (by decide) (h_5) ez_6 c_66)]; decide); have q8 := STN_10 hkd q9; have q7 := q8.1; have q6 := q8.2.1; have := gI_r_68; have := fB_r_74; have := i32_0; have := i32_1; have := i32_2; have := i32_m1; have := (hvx).1; have := (hvx).2; have := (hvo).1; have := (hvo).2; have := (h_5).1; have := (h_5).2; have := (h_67).1; have := (h_67).2; have := (h_73).1; have := (h_73).2; have := (h_78).1; have := (h_78).2; omega)) _ _ _ hP hD hS (lv_sub hl [0, 1] rfl)
      · have h_79 : iv 0 1 r_74 := iv_ltL (i32_lt c_77) hr_74 (iv_k (by decide) : iv 2 2 2) (by decide)
        refine ec_aload_n hx hb dX9_standsRight_187 rfl (lv_at hl 0 rfl) ?_
        refine ec_aload_n hx hb dX9_standsRight_188 rfl (lv_at hl 1 rfl) ?_
        refine cm_callV (t := 3) (C := RX9) (T := TX9) (N := 1) (rest := []) (as := [eV (ad 9) o]) ⟨hx, hb, hml, hown, htb⟩ (d_isFirstOfName2 l dC dI ad cid a2 lx sg gm lg x o D hI hvx hvo hFA how hVS hLK ((fI_r_68.resolve_right (fun q8 => absurd q8.1 (by have := i32_0; have := i32_1; have := i32_2; have := i32_m1; have := (hvx).1; have := (hvx).2; have := (hvo).1; have := (hvo).2; have := (h_5).1; have := (h_5).2; have := (h_67).1; have := (h_67).2; have := (h_73).1; have := (h_73).2; have := (h_79).1; have := (h_79).2; omega))).2.1) hRC (by have hkd : dKd D o.toNatClampNeg = 10 := KW_f hEV.1 (by unfold KW7; rw [show (gm 14 o.toNatClampNeg).toInt = (5 : Int) from (by rw [← ez_4]; exact swy 5 11 (by decide) (h_5) ez_6 c_66)]; decide); omega)) (cwV 1 htb (gd_V kw_677 kw_678 kw_24 kw_152 kw_1472) rfl rfl rfl (by decide +kernel) ⟨Nat.le_of_ble_eq_true rfl, Nat.le_of_ble_eq_true rfl⟩) hvx (by decide) (by decide) rfl rfl hl.1 rfl (Nat.le_trans cs_n (by decide)) dX9_standsRight_189 ⟨Nat.le_of_ble_eq_true rfl, Nat.le_of_ble_eq_true rfl⟩ hK hP hD hS hA hG (fun E ce q9 u_81 H locs hw hP hD hS hce hcv hcl => ?_) (fun v9 u_81 H locs hw hP hD hS => ?_)
        · exact hw.elim
        obtain ⟨r_80, rfl, rfl, hr_80, fF_r_80⟩ := hw
        have hP : va_P (dC, dI) vwCl (cW ad cid a2 lx sg gm lg) H := hP
        have hD : va_D A (cW ad cid a2 lx sg gm lg) := hD
        refine W.eq (g2 := F0 m 192 ls [.int r_80]) rfl ?_
        refine lv_if_eq (tgt := 199) hx hb dX9_standsRight_192 (by decide) (fun c_83 => ?_) (fun c_83 => ?_)
        · have h_84 : iv 0 0 r_80 := iv_eq c_83 hr_80 (iv_k (by decide) : iv 0 0 0) (by decide)
          exact hj199 hvx hvo ((fun q9 => by have hkd : dKd D o.toNatClampNeg = 10 := KW_f hEV.1 (by unfold KW7; rw [show (gm 14 o.toNatClampNeg).toInt = (5 : Int) from (by rw [← ez_4]; exact swy 5 11 (by decide) (h_5) ez_6 c_66)]; decide); have q8 := STN_10 hkd q9; exact (fF_r_80.resolve_left (fun q8 => absurd q8.1 (by have := i32_0; have := i32_1; have := i32_2; have := i32_m1; have := (hvx).1; have := (hvx).2; have := (hvo).1; have := (hvo).2; have := (h_5).1; have := (h_5).2; have := (h_67).1; have := (h_67).2; have := (h_73).1; have := (h_73).2; have := (h_79).1; have := (h_79).2; have := (h_84).1; have := (h_84).2; omega))).2 q8.2.2)) _ _ _ hP hD hS (lv_sub hl [0, 1] rfl)
        · have h_85 : iv 1 1 r_80 := iv_neL c_83 hr_80 (by decide)
          refine lv_iconst (v := 1) hx hb dX9_standsRight_195 (by decide) ?_
          refine lv_goto (tgt := 200) hx hb dX9_standsRight_196 (by decide) ?_
          exact hj200 1 hvx hvo (iv_w (iv_k (by decide) : iv 1 1 1) (by decide)) (Or.inl ⟨rfl, (by have hkd : dKd D o.toNatClampNeg = 10 := KW_f hEV.1 (by unfold KW7; rw [show (gm 14 o.toNatClampNeg).toInt = (5 : Int) from (by rw [← ez_4]; exact swy 5 11 (by decide) (h_5) ez_6 c_66)]; decide); exact Or.inr (Or.inr (Or.inr (Or.inr (Or.inr (Or.inl ⟨hkd, (by have := gI_r_68; have := i32_0; have := i32_1; have := i32_2; have := i32_m1; have := (hvx).1; have := (hvx).2; have := (hvo).1; have := (hvo).2; have := (h_5).1; have := (h_5).2; have := (h_67).1; have := (h_67).2; have := (h_73).1; have := (h_73).2; have := (h_79).1; have := (h_79).2; have := (h_85).1; have := (h_85).2; omega), (by have := fB_r_74; have := i32_0; have := i32_1; have := i32_2; have := i32_m1; have := (hvx).1; have := (hvx).2; have := (hvo).1; have := (hvo).2; have := (h_5).1; have := (h_5).2; have := (h_67).1; have := (h_67).2; have := (h_73).1; have := (h_73).2; have := (h_79).1; have := (h_79).2; have := (h_85).1; have := (h_85).2; omega), (fF_r_80.resolve_right (fun q8 => absurd q8.1 (by have := i32_0; have := i32_1; have := i32_2; have := i32_m1; have := (hvx).1; have := (hvx).2; have := (hvo).1; have := (hvo).2; have := (h_5).1; have := (h_5).2; have := (h_67).1; have := (h_67).2; have := (h_73).1; have := (h_73).2; have := (h_79).1; have := (h_79).2; have := (h_85).1; have := (h_85).2; omega))).2⟩))))))⟩) _ _ _ hP hD hS (lv_sub hl [0, 1] rfl)
  by_cases c_86 : (z_6 : Int32).toInt = 12
  · refine lv_tableIn (tgt := 201) hx hb dX9_standsRight_11 (by rw [c_86]; decide) (by rw [c_86]; decide) (by rw [c_86]; rfl) (by decide) ?_
    have h_87 : iv 12 12 z_6 := iv_at c_86
    refine ec_aload_n hx hb dX9_standsRight_201 rfl (lv_at hl 1 rfl) ?_
    refine cw_word (k := 3) (kx := 3) hx hb hG hS (by decide) rfl ⟨by decide, by decide⟩ hown (htb _ kw_671) dX9_standsRight_202 ?_
    refine cm_callV (t := 9) (C := RX3) (T := TX3) (N := 21) (rest := []) (as := [eV (ad 33) 3]) ⟨hx, hb, hml, hown, htb⟩ (d_isIn2 l dC dI ad cid a2 lx sg gm lg o 3 hI hvo (iv_w (iv_k (by decide) : iv 3 3 3) (by decide))) (cwV 1 htb (gd_V kw_666 kw_667 kw_668 kw_150 kw_1469) rfl rfl rfl (by decide +kernel) ⟨Nat.le_of_ble_eq_true rfl, Nat.le_of_ble_eq_true rfl⟩) hvo (by decide) (by decide) rfl rfl hl.1 rfl (Nat.le_trans cs_n (by decide)) dX9_standsRight_205 ⟨Nat.le_of_ble_eq_true rfl, Nat.le_of_ble_eq_true rfl⟩ hK hP hD hS hA hG (fun E ce q9 u_89 H locs hw hP hD hS hce hcv hcl => ?_) (fun v9 u_89 H locs hw hP hD hS => ?_)
    · exact hw.elim
    obtain ⟨r_88, rfl, rfl, hr_88, fI_r_88⟩ := hw
    have hP : va_P (dC, dI) vwCl (cW ad cid a2 lx sg gm lg) H := hP
    have hD : va_D A (cW ad cid a2 lx sg gm lg) := hD
    refine W.eq (g2 := F0 m 208 ls [.int r_88]) rfl ?_
    have gI_r_88 : (r_88.toInt = 1 ∧ dIn D o.toNatClampNeg = 4) ∨ (r_88.toInt = 0 ∧ ¬ dIn D o.toNatClampNeg = 4) := by rw [← ISI_d hEV (a := 3) (K := 4) (by unfold KW7; decide) (by decide)]; exact fI_r_88
    refine lv_if_ne (tgt := 221) hx hb dX9_standsRight_208 (by decide) (fun c_91 => ?_) (fun c_91 => ?_)
    · have h_92 : iv 1 1 r_88 := iv_neL c_91 hr_88 (by decide)
      exact hj221 hvx hvo ((by have hkd : dKd D o.toNatClampNeg = 6 := KW_f hEV.1 (by unfold KW7; rw [show (gm 14 o.toNatClampNeg).toInt = (6 : Int) from (by rw [← ez_4]; exact swy 6 12 (by decide) (h_5) ez_6 c_86)]; decide); exact Or.inr (Or.inr (Or.inr (Or.inr (Or.inr (Or.inr (Or.inl ⟨hkd, (by have := gI_r_88; have := i32_0; have := i32_1; have := i32_2; have := i32_m1; have := (hvx).1; have := (hvx).2; have := (hvo).1; have := (hvo).2; have := (h_5).1; have := (h_5).2; have := (h_87).1; have := (h_87).2; have := (h_92).1; have := (h_92).2; omega)⟩)))))))) _ _ _ hP hD hS (lv_sub hl [0, 1] rfl)
    · have h_93 : iv 0 0 r_88 := iv_eq c_91 hr_88 (iv_k (by decide) : iv 0 0 0) (by decide)
      refine ec_aload_n hx hb dX9_standsRight_211 rfl (lv_at hl 1 rfl) ?_
      refine cw_word (k := 4) (kx := 4) hx hb hG hS (by decide) rfl ⟨by decide, by decide⟩ hown (htb _ kw_672) dX9_standsRight_212 ?_
      refine cm_callV (t := 9) (C := RX3) (T := TX3) (N := 21) (rest := []) (as := [eV (ad 33) 4]) ⟨hx, hb, hml, hown, htb⟩ (d_isIn2 l dC dI ad cid a2 lx sg gm lg o 4 hI hvo (iv_w (iv_k (by decide) : iv 4 4 4) (by decide))) (cwV 1 htb (gd_V kw_666 kw_667 kw_668 kw_150 kw_1469) rfl rfl rfl (by decide +kernel) ⟨Nat.le_of_ble_eq_true rfl, Nat.le_of_ble_eq_true rfl⟩) hvo (by decide) (by decide) rfl rfl hl.1 rfl (Nat.le_trans cs_n (by decide)) dX9_standsRight_215 ⟨Nat.le_of_ble_eq_true rfl, Nat.le_of_ble_eq_true rfl⟩ hK hP hD hS hA hG (fun E ce q9 u_95 H locs hw hP hD hS hce hcv hcl => ?_) (fun v9 u_95 H locs hw hP hD hS => ?_)
      · exact hw.elim
      obtain ⟨r_94, rfl, rfl, hr_94, fI_r_94⟩ := hw
      have hP : va_P (dC, dI) vwCl (cW ad cid a2 lx sg gm lg) H := hP
      have hD : va_D A (cW ad cid a2 lx sg gm lg) := hD
      refine W.eq (g2 := F0 m 218 ls [.int r_94]) rfl ?_
      have gI_r_94 : (r_94.toInt = 1 ∧ dIn D o.toNatClampNeg = 5) ∨ (r_94.toInt = 0 ∧ ¬ dIn D o.toNatClampNeg = 5) := by rw [← ISI_d hEV (a := 4) (K := 5) (by unfold KW7; decide) (by decide)]; exact fI_r_94
      refine lv_if_eq (tgt := 225) hx hb dX9_standsRight_218 (by decide) (fun c_97 => ?_) (fun c_97 => ?_)
      · have h_98 : iv 0 0 r_94 := iv_eq c_97 hr_94 (iv_k (by decide) : iv 0 0 0) (by decide)
        refine lv_iconst (v := 0) hx hb dX9_standsRight_225 (by decide) ?_
        exact hj226 0 hvx hvo (iv_w (iv_k (by decide) : iv 0 0 0) (by decide)) (Or.inr ⟨rfl, (fun q9 => by have hkd : dKd D o.toNatClampNeg = 6 := KW_f hEV.1 (by unfold KW7; rw [show (gm 14 o.toNatClampNeg).toInt = (6 : Int) from (by rw [← ez_4]; exact swy 6 12 (by decide) (h_5) ez_6 c_86)]; decide); have q8 := STN_6 hkd q9; have := gI_r_88; have := gI_r_94; have := i32_0; have := i32_1; have := i32_2; have := i32_m1; have := (hvx).1; have := (hvx).2; have := (hvo).1; have := (hvo).2; have := (h_5).1; have := (h_5).2; have := (h_87).1; have := (h_87).2; have := (h_93).1; have := (h_93).2; have := (h_98).1; have := (h_98).2; omega)⟩) _ _ _ hP hD hS (lv_sub hl [0, 1] rfl)
      · have h_99 : iv 1 1 r_94 := iv_neL c_97 hr_94 (by decide)
        exact hj221 hvx hvo ((by have hkd : dKd D o.toNatClampNeg = 6 := KW_f hEV.1 (by unfold KW7; rw [show (gm 14 o.toNatClampNeg).toInt = (6 : Int) from (by rw [← ez_4]; exact swy 6 12 (by decide) (h_5) ez_6 c_86)]; decide); exact Or.inr (Or.inr (Or.inr (Or.inr (Or.inr (Or.inr (Or.inl ⟨hkd, (by have := gI_r_88; have := gI_r_94; have := i32_0; have := i32_1; have := i32_2; have := i32_m1; have := (hvx).1; have := (hvx).2; have := (hvo).1; have := (hvo).2; have := (h_5).1; have := (h_5).2; have := (h_87).1; have := (h_87).2; have := (h_93).1; have := (h_93).2; have := (h_99).1; have := (h_99).2; omega)⟩)))))))) _ _ _ hP hD hS (lv_sub hl [0, 1] rfl)
  by_cases c_100 : (z_6 : Int32).toInt = 13
  · refine lv_tableIn (tgt := 227) hx hb dX9_standsRight_11 (by rw [c_100]; decide) (by rw [c_100]; decide) (by rw [c_100]; rfl) (by decide) ?_
    have h_101 : iv 13 13 z_6 := iv_at c_100
    exact hj227 hvx hvo ((by have hkd : dKd D o.toNatClampNeg = 7 := KW_f hEV.1 (by unfold KW7; rw [show (gm 14 o.toNatClampNeg).toInt = (7 : Int) from (by rw [← ez_4]; exact swy 7 13 (by decide) (h_5) ez_6 c_100)]; decide); omega)) _ _ _ hP hD hS (lv_sub hl [0, 1] rfl)
  by_cases c_102 : (z_6 : Int32).toInt = 14
  · refine lv_tableIn (tgt := 227) hx hb dX9_standsRight_11 (by rw [c_102]; decide) (by rw [c_102]; decide) (by rw [c_102]; rfl) (by decide) ?_
    have h_103 : iv 14 14 z_6 := iv_at c_102
    exact hj227 hvx hvo ((by have hkd : dKd D o.toNatClampNeg = 8 := KW_f hEV.1 (by unfold KW7; rw [show (gm 14 o.toNatClampNeg).toInt = (8 : Int) from (by rw [← ez_4]; exact swy 8 14 (by decide) (h_5) ez_6 c_102)]; decide); omega)) _ _ _ hP hD hS (lv_sub hl [0, 1] rfl)
  by_cases c_104 : (z_6 : Int32).toInt = 15
  · refine lv_tableIn (tgt := 227) hx hb dX9_standsRight_11 (by rw [c_104]; decide) (by rw [c_104]; decide) (by rw [c_104]; rfl) (by decide) ?_
    have h_105 : iv 15 15 z_6 := iv_at c_104
    exact hj227 hvx hvo ((by have hkd : dKd D o.toNatClampNeg = 9 := KW_f hEV.1 (by unfold KW7; rw [show (gm 14 o.toNatClampNeg).toInt = (9 : Int) from (by rw [← ez_4]; exact swy 9 15 (by decide) (h_5) ez_6 c_104)]; decide); omega)) _ _ _ hP hD hS (lv_sub hl [0, 1] rfl)
  refine lv_tableOut (tgt := 233) hx hb dX9_standsRight_11 (by have q1 := (hz_6).1; have q2 := (hz_6).2; omega) (by decide) ?_
  refine lv_iconst (v := 0) hx hb dX9_standsRight_233 (by decide) ?_
  exact W.nb (fun hN => W.widen (k := 1) (n := 6) (by decide) (by decide) (vx_ret (W.zret (v := 0) hx hb hr (iv_nb (iv_w (iv_k (by decide) : iv 0 0 0) (by decide))) (fun t ht hW => ⟨⟨some (.int 0), (sg, gm, lg), rfl, ⟨0, rfl, rfl, (iv_w (iv_k (by decide) : iv 0 0 0) (by decide)), (Or.inr ⟨rfl, fun q9 => STN_0 q9 (by have n1 : ¬ dKd D o.toNatClampNeg = 1 := fun q8 => absurd (KW_j (q8 ▸ hEV.1 : KW7 (gm 14 o.toNatClampNeg).toInt 1) (by decide)) (by rw [show wkF 1 = 0 by decide]; have n9 := swx (y := z_4) 0 6 (by decide) (h_5) ez_6 (by omega); rw [ez_4] at n9; exact n9); have n2 : ¬ dKd D o.toNatClampNeg = 2 := fun q8 => absurd (KW_j (q8 ▸ hEV.1 : KW7 (gm 14 o.toNatClampNeg).toInt 2) (by decide)) (by rw [show wkF 2 = 1 by decide]; have n9 := swx (y := z_4) 1 7 (by decide) (h_5) ez_6 (by omega); rw [ez_4] at n9; exact n9); have n3 : ¬ dKd D o.toNatClampNeg = 3 := fun q8 => absurd (KW_j (q8 ▸ hEV.1 : KW7 (gm 14 o.toNatClampNeg).toInt 3) (by decide)) (by rw [show wkF 3 = 2 by decide]; have n9 := swx (y := z_4) 2 8 (by decide) (h_5) ez_6 (by omega); rw [ez_4] at n9; exact n9); have n4 : ¬ dKd D o.toNatClampNeg = 4 := fun q8 => absurd (KW_j (q8 ▸ hEV.1 : KW7 (gm 14 o.toNatClampNeg).toInt 4) (by decide)) (by rw [show wkF 4 = 3 by decide]; have n9 := swx (y := z_4) 3 9 (by decide) (h_5) ez_6 (by omega); rw [ez_4] at n9; exact n9); have n5 : ¬ dKd D o.toNatClampNeg = 5 := fun q8 => absurd (KW_j (q8 ▸ hEV.1 : KW7 (gm 14 o.toNatClampNeg).toInt 5) (by decide)) (by rw [show wkF 5 = 4 by decide]; have n9 := swx (y := z_4) 4 10 (by decide) (h_5) ez_6 (by omega); rw [ez_4] at n9; exact n9); have n10 : ¬ dKd D o.toNatClampNeg = 10 := fun q8 => absurd (KW_j (q8 ▸ hEV.1 : KW7 (gm 14 o.toNatClampNeg).toInt 10) (by decide)) (by rw [show wkF 10 = 5 by decide]; have n9 := swx (y := z_4) 5 11 (by decide) (h_5) ez_6 (by omega); rw [ez_4] at n9; exact n9); have n6 : ¬ dKd D o.toNatClampNeg = 6 := fun q8 => absurd (KW_j (q8 ▸ hEV.1 : KW7 (gm 14 o.toNatClampNeg).toInt 6) (by decide)) (by rw [show wkF 6 = 6 by decide]; have n9 := swx (y := z_4) 6 12 (by decide) (h_5) ez_6 (by omega); rw [ez_4] at n9; exact n9); have n7 : ¬ dKd D o.toNatClampNeg = 7 := fun q8 => absurd (KW_j (q8 ▸ hEV.1 : KW7 (gm 14 o.toNatClampNeg).toInt 7) (by decide)) (by rw [show wkF 7 = 7 by decide]; have n9 := swx (y := z_4) 7 13 (by decide) (h_5) ez_6 (by omega); rw [ez_4] at n9; exact n9); have n8 : ¬ dKd D o.toNatClampNeg = 8 := fun q8 => absurd (KW_j (q8 ▸ hEV.1 : KW7 (gm 14 o.toNatClampNeg).toInt 8) (by decide)) (by rw [show wkF 8 = 8 by decide]; have n9 := swx (y := z_4) 8 14 (by decide) (h_5) ez_6 (by omega); rw [ez_4] at n9; exact n9); have n9 : ¬ dKd D o.toNatClampNeg = 9 := fun q8 => absurd (KW_j (q8 ▸ hEV.1 : KW7 (gm 14 o.toNatClampNeg).toInt 9) (by decide)) (by rw [show wkF 9 = 9 by decide]; have n9 := swx (y := z_4) 9 15 (by decide) (h_5) ez_6 (by omega); rw [ez_4] at n9; exact n9); have := kd7_r (dEl D o.toNatClampNeg).2.2.1.toInt; have : dKd D o.toNatClampNeg = kd7 (dEl D o.toNatClampNeg).2.2.1.toInt := rfl; omega)⟩)⟩, by rw [ht]; exact hP, va_K.moved hW.alike hK, hD⟩, hS.F ht, by rw [ht]; exact hN⟩) hS.2.2 dX9_standsRight_234)))

set_option maxHeartbeats 4000000 in
set_option maxRecDepth 100000 in
theorem d_isRightS2 (l : Launch) (dC : Nat → ClassId) (dI : Nat → Nat → Nat) (ad : Nat → Nat → Nat) (cid : Nat → ClassId) (a2 : Nat → Nat) (lx : List Nat) (sg : Nat → Int32) (gm : Nat → Nat → Int32) (lg : Nat → Nat → Int64) (x : Int32) (o : Int32) (D : List El7) (hI : CI sg gm) (hvx : iv 0 0 x) (hvo : iv 0 79 o) (hFA : FA sg gm) (how : o.toInt < (sg 4).toInt) (hVS : VS sg gm) (hLK : LK sg gm) (hEV : EV7 D sg gm lg o.toNatClampNeg) (hRC : RDC D sg gm lg) (hPA : PA7 (dAt D o.toNatClampNeg)) : CMt dC dI ad cid a2 lx l yX9_isRight wm_X9_isRight ({ frames := 5, cells := 1, slots := 6, locals := 120 }) [eV (ad 3) x, eV (ad 9) o] sg gm lg (fun v u => ∃ r : Int32, v = some (.int r) ∧ u = (sg, gm, lg) ∧ (iv 0 1 r) ∧ ((r.toInt = 1 ∧ (GOODC D o.toNatClampNeg)) ∨ (r.toInt = 0 ∧ ¬ (GOODC D o.toNatClampNeg)))) (fun _ _ => False) := by
  intro sz
  refine vx_ofW (cc := cX9_isRight) (maxL := 2) (ret := (some .boolean)) (by decide) rfl ?_
  intro p e s m args below meth c s₁ B hml hxt hv
  obtain ⟨rfl, hsz, hP, hK, hD0, hG⟩ := hv
  have hx := B.exec
  have hb := B.bytes
  have hr := B.returns
  have hts := atoms_spec (ws := wm_X9_isRight) B.pre
  have htb := fun (w : Cond) (h : w ∈ tb) => hts w (List.mem_cons_of_mem _ h)
  have hown : s.vm.findClass RX9 = some m.cls := findClass_of_methodNamed B.named
  have hlocks := B.notSynchronized
  subst hsz
  have hD := hD0.self (sz := s.heap.size)
  generalize hAe : va_A (cW ad cid a2 lx sg gm lg) s.heap.size = A at hD hG ⊢
  have hA : ∀ q : Nat, s.heap.size ≤ q → A q := fun q h => by rw [← hAe]; exact Or.inr h
  have hS : va_S A s.heap s.heap [] := va_S.rf
  have hl := lv_entry ([eV (ad 3) x, eV (ad 9) o]) (n := 2) (by rw [show (lg_sl ([eV (ad 3) x, eV (ad 9) o])).length = 2 from by simp [lg_sl, eV_cat, cat_i, cat_l]]; exact Nat.le_of_ble_eq_true rfl)
  rw [lg_entry_eq]
  generalize (lg_sl ([eV (ad 3) x, eV (ad 9) o]) ++ List.replicate (2 - (lg_sl ([eV (ad 3) x, eV (ad 9) o])).length) Slot.unset).toArray = ls at hl ⊢
  have hl : lv_has ls 2 [(0, eV (ad 3) x), (1, eV (ad 9) o)] := by simp [lv_args, eV_cat, cat_i, cat_l] at hl; exact hl
  have hj61 : ∀ (y0_61 : Int32) (_ : iv 0 0 x) (_ : iv 0 79 o) (_ : iv 0 1 y0_61) (_ : (y0_61.toInt = 1 ∧ (GOODC D o.toNatClampNeg)) ∨ (y0_61.toInt = 0 ∧ ¬ (GOODC D o.toNatClampNeg))) (H : Heap) (locs : List Loc) (ls : Array Slot), va_P (dC, dI) vwCl (cW ad cid a2 lx sg gm lg) H → va_D A (cW ad cid a2 lx sg gm lg) → va_S A s.heap H locs → lv_has ls 2 [(0, eV (ad 3) x), (1, eV (ad 9) o)] → W p l e (headSpec wm_X9_isRight ({ frames := 5, cells := 1, slots := 6, locals := 120 })).room s m ([eV (ad 3) x, eV (ad 9) o] : List Value).toArray below meth c H locs 0 0 (vx_MQ below (cQx dC dI ad cid a2 lx (fun v u => ∃ r : Int32, v = some (.int r) ∧ u = (sg, gm, lg) ∧ (iv 0 1 r) ∧ ((r.toInt = 1 ∧ (GOODC D o.toNatClampNeg)) ∨ (r.toInt = 0 ∧ ¬ (GOODC D o.toNatClampNeg)))) A) (cX dC dI ad cid a2 lx (fun _ _ => False) A) ([eV (ad 3) x, eV (ad 9) o] : List Value).toArray s 1 6 A) (F0 m 61 ls [.int y0_61]) := by
    intro y0_61 hsx0_61 hsx1_61 hy0_61 u61 H locs ls hP hD hS hl
    exact W.nb (fun hN => W.widen (k := 1) (n := 6) (by decide) (by decide) (vx_ret (W.zret (v := y0_61) hx hb hr (iv_nb hy0_61) (fun t ht hW => ⟨⟨some (.int y0_61), (sg, gm, lg), rfl, ⟨y0_61, rfl, rfl, hy0_61, (u61)⟩, by rw [ht]; exact hP, va_K.moved hW.alike hK, hD⟩, hS.F ht, by rw [ht]; exact hN⟩) hS.2.2 dX9_isRight_61)))
  have hj60 : ∀ (_ : iv 0 0 x) (_ : iv 0 79 o) (_ : ¬ GOODC D o.toNatClampNeg) (H : Heap) (locs : List Loc) (ls : Array Slot), va_P (dC, dI) vwCl (cW ad cid a2 lx sg gm lg) H → va_D A (cW ad cid a2 lx sg gm lg) → va_S A s.heap H locs → lv_has ls 2 [(0, eV (ad 3) x), (1, eV (ad 9) o)] → W p l e (headSpec wm_X9_isRight ({ frames := 5, cells := 1, slots := 6, locals := 120 })).room s m ([eV (ad 3) x, eV (ad 9) o] : List Value).toArray below meth c H locs 0 0 (vx_MQ below (cQx dC dI ad cid a2 lx (fun v u => ∃ r : Int32, v = some (.int r) ∧ u = (sg, gm, lg) ∧ (iv 0 1 r) ∧ ((r.toInt = 1 ∧ (GOODC D o.toNatClampNeg)) ∨ (r.toInt = 0 ∧ ¬ (GOODC D o.toNatClampNeg)))) A) (cX dC dI ad cid a2 lx (fun _ _ => False) A) ([eV (ad 3) x, eV (ad 9) o] : List Value).toArray s 1 6 A) (F0 m 60 ls []) := by
    intro  hsx0_60 hsx1_60 u60 H locs ls hP hD hS hl
    refine lv_iconst (v := 0) hx hb dX9_isRight_60 (by decide) ?_
    exact hj61 0 hsx0_60 hsx1_60 (iv_w (iv_k (by decide) : iv 0 0 0) (by decide)) (Or.inr ⟨rfl, u60⟩) _ _ _ hP hD hS (lv_sub hl [0, 1] rfl)
  have hj48 : ∀ (_ : iv 0 0 x) (_ : iv 0 79 o) (_ : 0 ≤ (gm 14 o.toNatClampNeg).toInt) (_ : STN D o.toNatClampNeg ∧ ATN D o.toNatClampNeg ∧ NEE D o.toNatClampNeg ∧ (dTx D o.toNatClampNeg = 0 ∨ dKd D o.toNatClampNeg = 7)) (H : Heap) (locs : List Loc) (ls : Array Slot), va_P (dC, dI) vwCl (cW ad cid a2 lx sg gm lg) H → va_D A (cW ad cid a2 lx sg gm lg) → va_S A s.heap H locs → lv_has ls 2 [(0, eV (ad 3) x), (1, eV (ad 9) o)] → W p l e (headSpec wm_X9_isRight ({ frames := 5, cells := 1, slots := 6, locals := 120 })).room s m ([eV (ad 3) x, eV (ad 9) o] : List Value).toArray below meth c H locs 0 0 (vx_MQ below (cQx dC dI ad cid a2 lx (fun v u => ∃ r : Int32, v = some (.int r) ∧ u = (sg, gm, lg) ∧ (iv 0 1 r) ∧ ((r.toInt = 1 ∧ (GOODC D o.toNatClampNeg)) ∨ (r.toInt = 0 ∧ ¬ (GOODC D o.toNatClampNeg)))) A) (cX dC dI ad cid a2 lx (fun _ _ => False) A) ([eV (ad 3) x, eV (ad 9) o] : List Value).toArray s 1 6 A) (F0 m 48 ls []) := by
    intro  hsx0_48 hsx1_48 hw9 u48 H locs ls hP hD hS hl
    refine ec_aload_n hx hb dX9_isRight_48 rfl (lv_at hl 0 rfl) ?_
    refine ec_aload_n hx hb dX9_isRight_49 rfl (lv_at hl 1 rfl) ?_
    refine cm_callV (t := 3) (C := RX9) (T := TX9) (N := 1) (rest := []) (as := [eV (ad 9) o]) ⟨hx, hb, hml, hown, htb⟩ (d_hasRightCount2 l dC dI ad cid a2 lx sg gm lg x o D hI hsx0_48 hsx1_48 hFA how hVS hw9 hEV (STN_0 u48.1)) (cwV 1 htb (gd_V kw_744 kw_745 kw_34 kw_152 kw_1490) rfl rfl rfl (by decide +kernel) ⟨Nat.le_of_ble_eq_true rfl, Nat.le_of_ble_eq_true rfl⟩) hsx0_48 (by decide) (by decide) rfl rfl hl.1 rfl (Nat.le_trans cs_n (by decide)) dX9_isRight_50 ⟨Nat.le_of_ble_eq_true rfl, Nat.le_of_ble_eq_true rfl⟩ hK hP hD hS hA hG (fun E ce q9 u_2 H locs hw hP hD hS hce hcv hcl => ?_) (fun v9 u_2 H locs hw hP hD hS => ?_)
    · exact hw.elim
    obtain ⟨r_1, rfl, rfl, hr_1, fC_r_1⟩ := hw
    have hP : va_P (dC, dI) vwCl (cW ad cid a2 lx sg gm lg) H := hP
    have hD : va_D A (cW ad cid a2 lx sg gm lg) := hD
    refine W.eq (g2 := F0 m 53 ls [.int r_1]) rfl ?_
    refine lv_if_eq (tgt := 60) hx hb dX9_isRight_53 (by decide) (fun c_4 => ?_) (fun c_4 => ?_)
    · have h_5 : iv 0 0 r_1 := iv_eq c_4 hr_1 (iv_k (by decide) : iv 0 0 0) (by decide)
      exact hj60 hsx0_48 hsx1_48 ((fun q9 => (fC_r_1.resolve_left (fun q8 => absurd q8.1 (by have := i32_0; have := i32_1; have := i32_2; have := i32_m1; have := (hsx0_48).1; have := (hsx0_48).2; have := (hsx1_48).1; have := (hsx1_48).2; have := (h_5).1; have := (h_5).2; omega))).2 q9.2.2.2.2)) _ _ _ hP hD hS (lv_sub hl [0, 1] rfl)
    · have h_6 : iv 1 1 r_1 := iv_neL c_4 hr_1 (by decide)
      refine lv_iconst (v := 1) hx hb dX9_isRight_56 (by decide) ?_
      refine lv_goto (tgt := 61) hx hb dX9_isRight_57 (by decide) ?_
      exact hj61 1 hsx0_48 hsx1_48 (iv_w (iv_k (by decide) : iv 1 1 1) (by decide)) (Or.inl ⟨rfl, u48.1, u48.2.1, u48.2.2.1, u48.2.2.2, (fC_r_1.resolve_right (fun q8 => absurd q8.1 (by have := i32_0; have := i32_1; have := i32_2; have := i32_m1; have := (hsx0_48).1; have := (hsx0_48).2; have := (hsx1_48).1; have := (hsx1_48).2; have := (h_6).1; have := (h_6).2; omega))).2⟩) _ _ _ hP hD hS (lv_sub hl [0, 1] rfl)
  refine ec_aload_n hx hb dX9_isRight_0 rfl (lv_at hl 1 rfl) ?_
  refine cr_get (t := 9) (j := 4) (C := RX3) (T := TX3) (N := 21) (v := eV (ad 33) (gm 14 o.toNatClampNeg)) hx hb htb inX3 hown hK hP hvo (by decide) (by decide) (by decide) rfl (by decide) (htb _ kw_242) rfl dX9_isRight_1 ?_
  obtain ⟨z_7, ez_7⟩ : ∃ z : Int32, z = (gm 14 o.toNatClampNeg) := ⟨_, rfl⟩
  refine W.eq (g2 := F0 m 4 ls [eV (ad 33) z_7]) (by rw [ez_7]) ?_
  have hz_7 : iv (-1) 33 z_7 := iv_of ez_7 (CI_a hI 14 hvo (by decide))
  refine ec_ifnull (tgt := 60) hx hb dX9_isRight_4 (by decide) (fun c_8 => ?_) (fun c_8 => ?_)
  · have h_9 : iv (-1) (-1) z_7 := ⟨(hz_7).1, by omega⟩
    exact hj60 hvx hvo ((fun q9 => GOODC_k q9 (by have q8 := hEV.1; unfold KW7 at q8; rw [← q8]; exact kwF_0 (by have := congrArg Int32.toInt ez_7; have := i32_0; have := i32_1; have := i32_2; have := i32_m1; have := (hvx).1; have := (hvx).2; have := (hvo).1; have := (hvo).2; have := (h_9).1; have := (h_9).2; omega)))) _ _ _ hP hD hS (lv_sub hl [0, 1] rfl)
  · have h_10 : iv 0 33 z_7 := ⟨c_8, (hz_7).2⟩
    have hw0 : 0 ≤ (gm 14 o.toNatClampNeg).toInt := by rw [← ez_7]; exact (h_10).1
    refine ec_aload_n hx hb dX9_isRight_7 rfl (lv_at hl 0 rfl) ?_
    refine ec_aload_n hx hb dX9_isRight_8 rfl (lv_at hl 1 rfl) ?_
    refine cm_callV (t := 3) (C := RX9) (T := TX9) (N := 1) (rest := []) (as := [eV (ad 9) o]) ⟨hx, hb, hml, hown, htb⟩ (d_standsRight2 l dC dI ad cid a2 lx sg gm lg x o D hI hvx hvo hFA how hVS hLK hw0 hEV hRC) (cwV 1 htb (gd_V kw_658 kw_659 kw_21 kw_152 kw_1467) rfl rfl rfl (by decide +kernel) ⟨Nat.le_of_ble_eq_true rfl, Nat.le_of_ble_eq_true rfl⟩) hvx (by decide) (by decide) rfl rfl hl.1 rfl (Nat.le_trans cs_n (by decide)) dX9_isRight_9 ⟨Nat.le_of_ble_eq_true rfl, Nat.le_of_ble_eq_true rfl⟩ hK hP hD hS hA hG (fun E ce q9 u_12 H locs hw hP hD hS hce hcv hcl => ?_) (fun v9 u_12 H locs hw hP hD hS => ?_)
    · exact hw.elim
    obtain ⟨r_11, rfl, rfl, hr_11, fS_r_11⟩ := hw
    have hP : va_P (dC, dI) vwCl (cW ad cid a2 lx sg gm lg) H := hP
    have hD : va_D A (cW ad cid a2 lx sg gm lg) := hD
    refine W.eq (g2 := F0 m 12 ls [.int r_11]) rfl ?_
    refine lv_if_eq (tgt := 60) hx hb dX9_isRight_12 (by decide) (fun c_14 => ?_) (fun c_14 => ?_)
    · have h_15 : iv 0 0 r_11 := iv_eq c_14 hr_11 (iv_k (by decide) : iv 0 0 0) (by decide)
      exact hj60 hvx hvo ((fun q9 => (fS_r_11.resolve_left (fun q8 => absurd q8.1 (by have := i32_0; have := i32_1; have := i32_2; have := i32_m1; have := (hvx).1; have := (hvx).2; have := (hvo).1; have := (hvo).2; have := (h_10).1; have := (h_10).2; have := (h_15).1; have := (h_15).2; omega))).2 q9.1)) _ _ _ hP hD hS (lv_sub hl [0, 1] rfl)
    · have h_16 : iv 1 1 r_11 := iv_neL c_14 hr_11 (by decide)
      refine ec_aload_n hx hb dX9_isRight_15 rfl (lv_at hl 0 rfl) ?_
      refine ec_aload_n hx hb dX9_isRight_16 rfl (lv_at hl 1 rfl) ?_
      refine cm_callV (t := 3) (C := RX9) (T := TX9) (N := 1) (rest := []) (as := [eV (ad 9) o]) ⟨hx, hb, hml, hown, htb⟩ (d_hasRightAttributes2 l dC dI ad cid a2 lx sg gm lg x o D hI hvx hvo hFA how hVS hw0 hEV hPA) (cwV 1 htb (gd_V kw_689 kw_690 kw_28 kw_152 kw_1477) rfl rfl rfl (by decide +kernel) ⟨Nat.le_of_ble_eq_true rfl, Nat.le_of_ble_eq_true rfl⟩) hvx (by decide) (by decide) rfl rfl hl.1 rfl (Nat.le_trans cs_n (by decide)) dX9_isRight_17 ⟨Nat.le_of_ble_eq_true rfl, Nat.le_of_ble_eq_true rfl⟩ hK hP hD hS hA hG (fun E ce q9 u_18 H locs hw hP hD hS hce hcv hcl => ?_) (fun v9 u_18 H locs hw hP hD hS => ?_)
      · exact hw.elim
      obtain ⟨r_17, rfl, rfl, hr_17, fR_r_17⟩ := hw
      have hP : va_P (dC, dI) vwCl (cW ad cid a2 lx sg gm lg) H := hP
      have hD : va_D A (cW ad cid a2 lx sg gm lg) := hD
      refine W.eq (g2 := F0 m 20 ls [.int r_17]) rfl ?_
      refine lv_if_eq (tgt := 60) hx hb dX9_isRight_20 (by decide) (fun c_20 => ?_) (fun c_20 => ?_)
      · have h_21 : iv 0 0 r_17 := iv_eq c_20 hr_17 (iv_k (by decide) : iv 0 0 0) (by decide)
        exact hj60 hvx hvo ((fun q9 => (fR_r_17.resolve_left (fun q8 => absurd q8.1 (by have := i32_0; have := i32_1; have := i32_2; have := i32_m1; have := (hvx).1; have := (hvx).2; have := (hvo).1; have := (hvo).2; have := (h_10).1; have := (h_10).2; have := (h_16).1; have := (h_16).2; have := (h_21).1; have := (h_21).2; omega))).2 q9.2.1)) _ _ _ hP hD hS (lv_sub hl [0, 1] rfl)
      · have h_22 : iv 1 1 r_17 := iv_neL c_20 hr_17 (by decide)
        refine ec_aload_n hx hb dX9_isRight_23 rfl (lv_at hl 0 rfl) ?_
        refine ec_aload_n hx hb dX9_isRight_24 rfl (lv_at hl 1 rfl) ?_
        refine cm_callV (t := 3) (C := RX9) (T := TX9) (N := 1) (rest := []) (as := [eV (ad 9) o]) ⟨hx, hb, hml, hown, htb⟩ (d_hasWhat2 l dC dI ad cid a2 lx sg gm lg x o D hI hvx hvo hFA how hVS hw0 hEV) (cwV 1 htb (gd_V kw_730 kw_731 kw_32 kw_152 kw_1487) rfl rfl rfl (by decide +kernel) ⟨Nat.le_of_ble_eq_true rfl, Nat.le_of_ble_eq_true rfl⟩) hvx (by decide) (by decide) rfl rfl hl.1 rfl (Nat.le_trans cs_n (by decide)) dX9_isRight_25 ⟨Nat.le_of_ble_eq_true rfl, Nat.le_of_ble_eq_true rfl⟩ hK hP hD hS hA hG (fun E ce q9 u_24 H locs hw hP hD hS hce hcv hcl => ?_) (fun v9 u_24 H locs hw hP hD hS => ?_)
        · exact hw.elim
        obtain ⟨r_23, rfl, rfl, hr_23, fN_r_23⟩ := hw
        have hP : va_P (dC, dI) vwCl (cW ad cid a2 lx sg gm lg) H := hP
        have hD : va_D A (cW ad cid a2 lx sg gm lg) := hD
        refine W.eq (g2 := F0 m 28 ls [.int r_23]) rfl ?_
        refine lv_if_eq (tgt := 60) hx hb dX9_isRight_28 (by decide) (fun c_26 => ?_) (fun c_26 => ?_)
        · have h_27 : iv 0 0 r_23 := iv_eq c_26 hr_23 (iv_k (by decide) : iv 0 0 0) (by decide)
          exact hj60 hvx hvo ((fun q9 => (fN_r_23.resolve_left (fun q8 => absurd q8.1 (by have := i32_0; have := i32_1; have := i32_2; have := i32_m1; have := (hvx).1; have := (hvx).2; have := (hvo).1; have := (hvo).2; have := (h_10).1; have := (h_10).2; have := (h_16).1; have := (h_16).2; have := (h_22).1; have := (h_22).2; have := (h_27).1; have := (h_27).2; omega))).2 q9.2.2.1)) _ _ _ hP hD hS (lv_sub hl [0, 1] rfl)
        · have h_28 : iv 1 1 r_23 := iv_neL c_26 hr_23 (by decide)
          refine ec_aload_n hx hb dX9_isRight_31 rfl (lv_at hl 1 rfl) ?_
          refine cr_get (t := 9) (j := 1) (C := RX3) (T := TX3) (N := 21) (v := .int (gm 11 o.toNatClampNeg)) hx hb htb inX3 hown hK hP hvo (by decide) (by decide) (by decide) rfl (by decide) (htb _ kw_232) rfl dX9_isRight_32 ?_
          obtain ⟨z_29, ez_29⟩ : ∃ z : Int32, z = (gm 11 o.toNatClampNeg) := ⟨_, rfl⟩
          refine W.eq (g2 := F0 m 35 ls [.int z_29]) (by rw [ez_29]) ?_
          have hz_29 : iv 0 24 z_29 := iv_of ez_29 (CI_a hI 11 hvo (by decide))
          refine lv_if_eq (tgt := 48) hx hb dX9_isRight_35 (by decide) (fun c_30 => ?_) (fun c_30 => ?_)
          · have h_31 : iv 0 0 z_29 := iv_eq c_30 hz_29 (iv_k (by decide) : iv 0 0 0) (by decide)
            exact hj48 hvx hvo (hw0) (⟨(fS_r_11.resolve_right (fun q8 => absurd q8.1 (by have := i32_0; have := i32_1; have := i32_2; have := i32_m1; have := (hvx).1; have := (hvx).2; have := (hvo).1; have := (hvo).2; have := (h_10).1; have := (h_10).2; have := (h_16).1; have := (h_16).2; have := (h_22).1; have := (h_22).2; have := (h_28).1; have := (h_28).2; have := (h_31).1; have := (h_31).2; omega))).2, (fR_r_17.resolve_right (fun q8 => absurd q8.1 (by have := i32_0; have := i32_1; have := i32_2; have := i32_m1; have := (hvx).1; have := (hvx).2; have := (hvo).1; have := (hvo).2; have := (h_10).1; have := (h_10).2; have := (h_16).1; have := (h_16).2; have := (h_22).1; have := (h_22).2; have := (h_28).1; have := (h_28).2; have := (h_31).1; have := (h_31).2; omega))).2, (fN_r_23.resolve_right (fun q8 => absurd q8.1 (by have := i32_0; have := i32_1; have := i32_2; have := i32_m1; have := (hvx).1; have := (hvx).2; have := (hvo).1; have := (hvo).2; have := (h_10).1; have := (h_10).2; have := (h_16).1; have := (h_16).2; have := (h_22).1; have := (h_22).2; have := (h_28).1; have := (h_28).2; have := (h_31).1; have := (h_31).2; omega))).2, Or.inl (by have := hEV.2.2.2.2.1; have := congrArg Int32.toInt ez_29; have := i32_0; have := i32_1; have := i32_2; have := i32_m1; have := (hvx).1; have := (hvx).2; have := (hvo).1; have := (hvo).2; have := (h_10).1; have := (h_10).2; have := (h_16).1; have := (h_16).2; have := (h_22).1; have := (h_22).2; have := (h_28).1; have := (h_28).2; have := (h_31).1; have := (h_31).2; omega)⟩) _ _ _ hP hD hS (lv_sub hl [0, 1] rfl)
          · have h_32 : iv 1 24 z_29 := iv_neL c_30 hz_29 (by decide)
            refine ec_aload_n hx hb dX9_isRight_38 rfl (lv_at hl 1 rfl) ?_
            refine cr_get (t := 9) (j := 4) (C := RX3) (T := TX3) (N := 21) (v := eV (ad 33) (gm 14 o.toNatClampNeg)) hx hb htb inX3 hown hK hP hvo (by decide) (by decide) (by decide) rfl (by decide) (htb _ kw_242) rfl dX9_isRight_39 ?_
            refine W.eq (g2 := F0 m 42 ls [eV (ad 33) z_7]) (by rw [show (gm 14 o.toNatClampNeg) = z_7 from ez_7.symm]) ?_
            refine cw_word (k := 7) (kx := 7) hx hb hG hS (by decide) rfl ⟨by decide, by decide⟩ hown (htb _ kw_702) dX9_isRight_42 ?_
            refine ec_acmp_ne (tgt := 60) hx hb dX9_isRight_45 (by decide) (fun c_33 => ?_) (fun c_33 => ?_)
            · have wc_33 : ¬ z_7.toInt = (7 : Int) := fun q9 => c_33 (congrArg (er (ad 33)) (Int32.toInt_inj.mp q9))
              exact hj60 hvx hvo ((fun q9 => q9.2.2.2.1.elim (fun q => by have := hEV.2.2.2.2.1; have := congrArg Int32.toInt ez_29; have := i32_0; have := i32_1; have := i32_2; have := i32_m1; have := (hvx).1; have := (hvx).2; have := (hvo).1; have := (hvo).2; have := (h_10).1; have := (h_10).2; have := (h_16).1; have := (h_16).2; have := (h_22).1; have := (h_22).2; have := (h_28).1; have := (h_28).2; have := (h_32).1; have := (h_32).2; omega) (fun q => absurd (KW_j (q ▸ hEV.1 : KW7 (gm 14 o.toNatClampNeg).toInt 7) (by decide)) (by rw [show wkF 7 = 7 by decide]; have q7 : (gm 14 o.toNatClampNeg).toInt = z_7.toInt := (by rw [← ez_7]); have := wc_33; omega)))) _ _ _ hP hD hS (lv_sub hl [0, 1] rfl)
            · have wc_33 : z_7.toInt = (7 : Int) := er_wd hG (iv_w h_10 (by decide)) (iv_w (iv_k (by decide) : iv 7 7 7) (by decide)) c_33
              exact hj48 hvx hvo (hw0) (⟨(fS_r_11.resolve_right (fun q8 => absurd q8.1 (by have := i32_0; have := i32_1; have := i32_2; have := i32_m1; have := (hvx).1; have := (hvx).2; have := (hvo).1; have := (hvo).2; have := (h_10).1; have := (h_10).2; have := (h_16).1; have := (h_16).2; have := (h_22).1; have := (h_22).2; have := (h_28).1; have := (h_28).2; have := (h_32).1; have := (h_32).2; omega))).2, (fR_r_17.resolve_right (fun q8 => absurd q8.1 (by have := i32_0; have := i32_1; have := i32_2; have := i32_m1; have := (hvx).1; have := (hvx).2; have := (hvo).1; have := (hvo).2; have := (h_10).1; have := (h_10).2; have := (h_16).1; have := (h_16).2; have := (h_22).1; have := (h_22).2; have := (h_28).1; have := (h_28).2; have := (h_32).1; have := (h_32).2; omega))).2, (fN_r_23.resolve_right (fun q8 => absurd q8.1 (by have := i32_0; have := i32_1; have := i32_2; have := i32_m1; have := (hvx).1; have := (hvx).2; have := (hvo).1; have := (hvo).2; have := (h_10).1; have := (h_10).2; have := (h_16).1; have := (h_16).2; have := (h_22).1; have := (h_22).2; have := (h_28).1; have := (h_28).2; have := (h_32).1; have := (h_32).2; omega))).2, Or.inr (KW_f hEV.1 (by unfold KW7; rw [show (gm 14 o.toNatClampNeg).toInt = 7 from (by have q7 : (gm 14 o.toNatClampNeg).toInt = z_7.toInt := (by rw [← ez_7]); have := wc_33; omega)]; decide))⟩) _ _ _ hP hD hS (lv_sub hl [0, 1] rfl)

set_option maxHeartbeats 4000000 in
set_option maxRecDepth 100000 in
theorem d_firstWrongS2 (l : Launch) (dC : Nat → ClassId) (dI : Nat → Nat → Nat) (ad : Nat → Nat → Nat) (cid : Nat → ClassId) (a2 : Nat → Nat) (lx : List Nat) (sg : Nat → Int32) (gm : Nat → Nat → Int32) (lg : Nat → Nat → Int64) (x : Int32) (D : List El7) (hI : CI sg gm) (hvx : iv 0 0 x) (hFA : FA sg gm) (hVS : VS sg gm) (hLK : LK sg gm) (hRC : RDC D sg gm lg) (hPD : PD7 D) : CMt dC dI ad cid a2 lx l yX9_firstWrongPlace wm_X9_firstWrongPlace ({ frames := 6, cells := 1, slots := 6, locals := 141 }) [eV (ad 3) x] sg gm lg (fun v u => ∃ r : Int32, v = some (.int r) ∧ u = (sg, gm, lg) ∧ (iv (-1) 1201 r) ∧ (r.toInt = -1 → ∀ j9, j9 < (sg 4).toNatClampNeg → SOK gm lg j9) ∧ ((r.toInt = -1 ∧ ∀ j, j < D.length → GOODC D j) ∨ (0 ≤ r.toInt ∧ ¬ ∀ j, j < D.length → GOODC D j))) (fun _ _ => False) := by
  intro sz
  refine vx_ofW (cc := cX9_firstWrongPlace) (maxL := 2) (ret := (some .int)) (by decide) rfl ?_
  intro p e s m args below meth c s₁ B hml hxt hv
  obtain ⟨rfl, hsz, hP, hK, hD0, hG⟩ := hv
  have hx := B.exec
  have hb := B.bytes
  have hr := B.returns
  have hts := atoms_spec (ws := wm_X9_firstWrongPlace) B.pre
  have htb := fun (w : Cond) (h : w ∈ tb) => hts w (List.mem_cons_of_mem _ h)
  have hown : s.vm.findClass RX9 = some m.cls := findClass_of_methodNamed B.named
  have hlocks := B.notSynchronized
  subst hsz
  have hD := hD0.self (sz := s.heap.size)
  generalize hAe : va_A (cW ad cid a2 lx sg gm lg) s.heap.size = A at hD hG ⊢
  have hA : ∀ q : Nat, s.heap.size ≤ q → A q := fun q h => by rw [← hAe]; exact Or.inr h
  have hS : va_S A s.heap s.heap [] := va_S.rf
  have hl := lv_entry ([eV (ad 3) x]) (n := 2) (by rw [show (lg_sl ([eV (ad 3) x])).length = 1 from by simp [lg_sl, eV_cat, cat_i, cat_l]]; exact Nat.le_of_ble_eq_true rfl)
  rw [lg_entry_eq]
  generalize (lg_sl ([eV (ad 3) x]) ++ List.replicate (2 - (lg_sl ([eV (ad 3) x])).length) Slot.unset).toArray = ls at hl ⊢
  have hl : lv_has ls 2 [(0, eV (ad 3) x)] := by simp [lv_args, eV_cat, cat_i, cat_l] at hl; exact hl
  have hj2 : ∀ (n : Nat) (x1_2 : Int32) (_ : (80 - x1_2.toInt).toNat = n) (_ : iv 0 80 x1_2) (_ : iv 0 0 x) (_ : ∀ j9, j9 < x1_2.toNatClampNeg → GOODC D j9) (H : Heap) (locs : List Loc) (ls : Array Slot), va_P (dC, dI) vwCl (cW ad cid a2 lx sg gm lg) H → va_D A (cW ad cid a2 lx sg gm lg) → va_S A s.heap H locs → lv_has ls 2 [(1, .int x1_2), (0, eV (ad 3) x)] → W p l e (headSpec wm_X9_firstWrongPlace ({ frames := 6, cells := 1, slots := 6, locals := 141 })).room s m ([eV (ad 3) x] : List Value).toArray below meth c H locs 0 0 (vx_MQ below (cQx dC dI ad cid a2 lx (fun v u => ∃ r : Int32, v = some (.int r) ∧ u = (sg, gm, lg) ∧ (iv (-1) 1201 r) ∧ (r.toInt = -1 → ∀ j9, j9 < (sg 4).toNatClampNeg → SOK gm lg j9) ∧ ((r.toInt = -1 ∧ ∀ j, j < D.length → GOODC D j) ∨ (0 ≤ r.toInt ∧ ¬ ∀ j, j < D.length → GOODC D j))) A) (cX dC dI ad cid a2 lx (fun _ _ => False) A) ([eV (ad 3) x] : List Value).toArray s 1 6 A) (F0 m 2 ls []) := by
    intro n
    induction n using Nat.strongRecOn with
    | ind n ih2 =>
      intro x1_2 hn2 hx1_2 hsx0_2 hall H locs ls hP hD hS hl
      refine lv_iload_n hx hb dX9_firstWrongPlace_2 rfl (lv_at hl 0 rfl) ?_
      refine ec_aload_n hx hb dX9_firstWrongPlace_3 rfl (lv_at hl 1 rfl) ?_
      refine cr_get (t := 3) (j := 0) (C := RX9) (T := TX9) (N := 1) (v := eV (ad 1) 0) hx hb htb inX9 hown hK hP hsx0_2 (by decide) (by decide) (by decide) rfl (by decide) (htb _ kw_323) (cV_c rfl (by decide) (by rw [show cMu 3 0 = 0 from rfl, Nat.zero_mul]; rfl)) dX9_firstWrongPlace_4 ?_
      refine cm_callV (t := 1) (C := RX6) (T := TX6) (N := 8) (rest := [.int x1_2]) (as := []) ⟨hx, hb, hml, hown, htb⟩ (d_countPa l dC dI ad cid a2 lx sg gm lg 0 hI (iv_k (by decide) : iv 0 0 0)) (cwV 0 htb (gd_V kw_650 kw_651 kw_652 kw_149 kw_1464) rfl rfl rfl (by decide +kernel) ⟨Nat.le_of_ble_eq_true rfl, Nat.le_of_ble_eq_true rfl⟩) (iv_k (by decide) : iv 0 0 0) (by decide) (by decide) rfl rfl hl.1 rfl (Nat.le_trans (cs_c (cat_i _) cs_n) (by decide)) dX9_firstWrongPlace_7 ⟨Nat.le_of_ble_eq_true rfl, Nat.le_of_ble_eq_true rfl⟩ hK hP hD hS hA hG (fun E ce q9 u_2 H locs hw hP hD hS hce hcv hcl => ?_) (fun v9 u_2 H locs hw hP hD hS => ?_)
      · exact hw.elim
      obtain ⟨r_1, rfl, rfl, hr_1, fr_r_1⟩ := hw
      have hP : va_P (dC, dI) vwCl (cW ad cid a2 lx sg gm lg) H := hP
      have hD : va_D A (cW ad cid a2 lx sg gm lg) := hD
      refine W.eq (g2 := F0 m 10 ls [.int r_1, .int x1_2]) rfl ?_
      refine lv_icmp_ge (tgt := 46) hx hb dX9_firstWrongPlace_10 (by decide) (fun c_4 => ?_) (fun c_4 => ?_)
      · have d_5 : (r_1 : Int32).toInt ≤ (x1_2 : Int32).toInt := Int32.le_iff_toInt_le.mp c_4
        refine lv_iconst (v := (-1)) hx hb dX9_firstWrongPlace_46 (by decide) ?_
        exact W.nb (fun hN => W.widen (k := 1) (n := 6) (by decide) (by decide) (vx_ret (W.iret (v := (-1)) hx hb hr (fun t ht hW => ⟨⟨some (.int (-1)), (sg, gm, lg), rfl, ⟨(-1), rfl, rfl, (iv_w (iv_k (by decide) : iv (-1) (-1) (-1)) (by decide)), (fun _ j9 q9 => SOK_of (dAt_pv hPD) (show iv 0 240 (sg 5) from CI_s hI 5).2 (EV_of hRC (by rw [← RDC_n hRC]; exact q9)) (GOODC_k (hall j9 (by have := hRC.1; have q1 : (sg 4).toNatClampNeg = (sg 4).toInt.toNat := rfl; have q2 : x1_2.toNatClampNeg = x1_2.toInt.toNat := rfl; have q3 := congrArg Int32.toInt fr_r_1; have := i32_0; have := i32_1; have := i32_2; have := i32_m1; have := (show iv 0 80 (sg 4) from CI_s hI 4).1; have := (show iv 0 80 (sg 4) from CI_s hI 4).2; have := (hsx0_2).1; have := (hsx0_2).2; have := (hx1_2).1; have := (hx1_2).2; have := (hr_1).1; have := (hr_1).2; omega))) (hall j9 (by have := hRC.1; have q1 : (sg 4).toNatClampNeg = (sg 4).toInt.toNat := rfl; have q2 : x1_2.toNatClampNeg = x1_2.toInt.toNat := rfl; have q3 := congrArg Int32.toInt fr_r_1; have := i32_0; have := i32_1; have := i32_2; have := i32_m1; have := (show iv 0 80 (sg 4) from CI_s hI 4).1; have := (show iv 0 80 (sg 4) from CI_s hI 4).2; have := (hsx0_2).1; have := (hsx0_2).2; have := (hx1_2).1; have := (hx1_2).2; have := (hr_1).1; have := (hr_1).2; omega))), (Or.inl ⟨rfl, fun j9 q9 => hall j9 (by have := hRC.1; have q2 : x1_2.toNatClampNeg = x1_2.toInt.toNat := rfl; have q3 := congrArg Int32.toInt fr_r_1; have := i32_0; have := i32_1; have := i32_2; have := i32_m1; have := (show iv 0 80 (sg 4) from CI_s hI 4).1; have := (show iv 0 80 (sg 4) from CI_s hI 4).2; have := (hsx0_2).1; have := (hsx0_2).2; have := (hx1_2).1; have := (hx1_2).2; have := (hr_1).1; have := (hr_1).2; omega)⟩)⟩, by rw [ht]; exact hP, va_K.moved hW.alike hK, hD⟩, hS.F ht, by rw [ht]; exact hN⟩) hS.2.2 dX9_firstWrongPlace_47)))
      · have d_6 : (x1_2 : Int32).toInt < (r_1 : Int32).toInt := Int32.lt_iff_toInt_lt.mp (i32_lt c_4)
        have h_7 : iv 0 79 x1_2 := iv_ltL (i32_lt c_4) hx1_2 hr_1 (by decide)
        have h_8 : iv 1 80 r_1 := iv_ltR (i32_lt c_4) hx1_2 hr_1 (by decide)
        refine ec_aload_n hx hb dX9_firstWrongPlace_13 rfl (lv_at hl 1 rfl) ?_
        refine ec_aload_n hx hb dX9_firstWrongPlace_14 rfl (lv_at hl 1 rfl) ?_
        refine cr_get (t := 3) (j := 0) (C := RX9) (T := TX9) (N := 1) (v := eV (ad 1) 0) hx hb htb inX9 hown hK hP hsx0_2 (by decide) (by decide) (by decide) rfl (by decide) (htb _ kw_323) (cV_c rfl (by decide) (by rw [show cMu 3 0 = 0 from rfl, Nat.zero_mul]; rfl)) dX9_firstWrongPlace_15 ?_
        refine lv_iload_n hx hb dX9_firstWrongPlace_18 rfl (lv_at hl 0 rfl) ?_
        refine cm_callV (t := 1) (C := RX6) (T := TX6) (N := 8) (rest := [eV (ad 3) x]) (as := [.int x1_2]) ⟨hx, hb, hml, hown, htb⟩ (d_element l dC dI ad cid a2 lx sg gm lg 0 x1_2 hI (iv_k (by decide) : iv 0 0 0) h_7) (cwV 1 htb (gd_V kw_653 kw_654 kw_655 kw_149 kw_1465) rfl rfl rfl (by decide +kernel) ⟨Nat.le_of_ble_eq_true rfl, Nat.le_of_ble_eq_true rfl⟩) (iv_k (by decide) : iv 0 0 0) (by decide) (by decide) rfl rfl hl.1 rfl (Nat.le_trans (cs_c (eV_cat _ _) cs_n) (by decide)) dX9_firstWrongPlace_19 ⟨Nat.le_of_ble_eq_true rfl, Nat.le_of_ble_eq_true rfl⟩ hK hP hD hS hA hG (fun E ce q9 u_10 H locs hw hP hD hS hce hcv hcl => ?_) (fun v9 u_10 H locs hw hP hD hS => ?_)
        · exact hw.elim
        obtain ⟨r_9, rfl, rfl, hr_9, fr_r_9⟩ := hw
        have hP : va_P (dC, dI) vwCl (cW ad cid a2 lx sg gm lg) H := hP
        have hD : va_D A (cW ad cid a2 lx sg gm lg) := hD
        refine W.eq (g2 := F0 m 22 ls [eV (ad 9) r_9, eV (ad 3) x]) rfl ?_
        refine cm_callV (t := 3) (C := RX9) (T := TX9) (N := 1) (rest := []) (as := [eV (ad 9) r_9]) ⟨hx, hb, hml, hown, htb⟩ (d_isRightS2 l dC dI ad cid a2 lx sg gm lg x r_9 D hI hsx0_2 hr_9 hFA (by have q3 := congrArg Int32.toInt fr_r_1; have q4 := congrArg Int32.toInt fr_r_9; have := i32_0; have := i32_1; have := i32_2; have := i32_m1; have := (show iv 0 80 (sg 4) from CI_s hI 4).1; have := (show iv 0 80 (sg 4) from CI_s hI 4).2; have := (hsx0_2).1; have := (hsx0_2).2; have := (h_7).1; have := (h_7).2; have := (h_8).1; have := (h_8).2; have := (hr_9).1; have := (hr_9).2; omega) hVS hLK (EV_of hRC (show r_9.toNatClampNeg < D.length from (by have := hRC.1; have q4 := congrArg Int32.toInt fr_r_1; have := congrArg Int32.toInt fr_r_9; have : r_9.toNatClampNeg = r_9.toInt.toNat := rfl; have := i32_0; have := i32_1; have := i32_2; have := i32_m1; have := (show iv 0 80 (sg 4) from CI_s hI 4).1; have := (show iv 0 80 (sg 4) from CI_s hI 4).2; have := (hsx0_2).1; have := (hsx0_2).2; have := (h_7).1; have := (h_7).2; have := (h_8).1; have := (h_8).2; have := (hr_9).1; have := (hr_9).2; omega))) hRC (dAt_pv hPD)) (cwV 1 htb (gd_V kw_656 kw_657 kw_20 kw_152 kw_1466) rfl rfl rfl (by decide +kernel) ⟨Nat.le_of_ble_eq_true rfl, Nat.le_of_ble_eq_true rfl⟩) hsx0_2 (by decide) (by decide) rfl rfl hl.1 rfl (Nat.le_trans cs_n (by decide)) dX9_firstWrongPlace_22 ⟨Nat.le_of_ble_eq_true rfl, Nat.le_of_ble_eq_true rfl⟩ hK hP hD hS hA hG (fun E ce q9 u_13 H locs hw hP hD hS hce hcv hcl => ?_) (fun v9 u_13 H locs hw hP hD hS => ?_)
        · exact hw.elim
        obtain ⟨r_12, rfl, rfl, hr_12, fO_r_12⟩ := hw
        have hP : va_P (dC, dI) vwCl (cW ad cid a2 lx sg gm lg) H := hP
        have hD : va_D A (cW ad cid a2 lx sg gm lg) := hD
        refine W.eq (g2 := F0 m 25 ls [.int r_12]) rfl ?_
        refine lv_if_ne (tgt := 40) hx hb dX9_firstWrongPlace_25 (by decide) (fun c_15 => ?_) (fun c_15 => ?_)
        · have h_16 : iv 1 1 r_12 := iv_neL c_15 hr_12 (by decide)
          obtain ⟨z_17, ez_17⟩ : ∃ z : Int32, z = x1_2 + 1 := ⟨_, rfl⟩
          have hz_17 : iv 1 80 z_17 := iv_of ez_17 (iv_add h_7 (iv_k (by decide) : iv 1 1 1) (by decide))
          have tz_17 : z_17.toInt = x1_2.toInt + 1 := by rw [ez_17]; exact iv_addE h_7 (iv_k (by decide) : iv 1 1 1) (by decide)
          refine lv_iinc (v := z_17) (lv' := [(1, .int z_17), (0, eV (ad 3) x)]) hx hb dX9_firstWrongPlace_40 hl (k := 0) rfl ez_17.symm (by decide) (by simp [List.filter, eV_cat, cat_i, cat_l]) (fun ls hl => ?_)
          refine lv_goto (tgt := 2) hx hb dX9_firstWrongPlace_43 (by decide) ?_
          exact ih2 _ (by rw [← hn2]; exact (iv_meas tz_17 h_7 (by decide))) z_17 rfl (iv_w hz_17 (by decide)) hsx0_2 ((fun j9 q9 => by rw [s_cl h_7 (by decide) tz_17] at q9; by_cases q8 : j9 = x1_2.toNatClampNeg; (rw [q8, ← fr_r_9]; exact (fO_r_12.resolve_right (fun q8 => absurd q8.1 (by have := i32_0; have := i32_1; have := i32_2; have := i32_m1; have := (hsx0_2).1; have := (hsx0_2).2; have := (h_7).1; have := (h_7).2; have := (h_8).1; have := (h_8).2; have := (hr_9).1; have := (hr_9).2; have := (h_16).1; have := (h_16).2; have := (hz_17).1; have := (hz_17).2; omega))).2); exact hall j9 (by omega))) _ _ _ hP hD hS (lv_sub hl [0, 1] rfl)
        · have h_18 : iv 0 0 r_12 := iv_eq c_15 hr_12 (iv_k (by decide) : iv 0 0 0) (by decide)
          refine ec_aload_n hx hb dX9_firstWrongPlace_28 rfl (lv_at hl 1 rfl) ?_
          refine cr_get (t := 3) (j := 0) (C := RX9) (T := TX9) (N := 1) (v := eV (ad 1) 0) hx hb htb inX9 hown hK hP hsx0_2 (by decide) (by decide) (by decide) rfl (by decide) (htb _ kw_323) (cV_c rfl (by decide) (by rw [show cMu 3 0 = 0 from rfl, Nat.zero_mul]; rfl)) dX9_firstWrongPlace_29 ?_
          refine lv_iload_n hx hb dX9_firstWrongPlace_32 rfl (lv_at hl 0 rfl) ?_
          refine cm_callV (t := 1) (C := RX6) (T := TX6) (N := 8) (rest := []) (as := [.int x1_2]) ⟨hx, hb, hml, hown, htb⟩ (d_element l dC dI ad cid a2 lx sg gm lg 0 x1_2 hI (iv_k (by decide) : iv 0 0 0) h_7) (cwV 1 htb (gd_V kw_653 kw_654 kw_655 kw_149 kw_1465) rfl rfl rfl (by decide +kernel) ⟨Nat.le_of_ble_eq_true rfl, Nat.le_of_ble_eq_true rfl⟩) (iv_k (by decide) : iv 0 0 0) (by decide) (by decide) rfl rfl hl.1 rfl (Nat.le_trans cs_n (by decide)) dX9_firstWrongPlace_33 ⟨Nat.le_of_ble_eq_true rfl, Nat.le_of_ble_eq_true rfl⟩ hK hP hD hS hA hG (fun E ce q9 u_20 H locs hw hP hD hS hce hcv hcl => ?_) (fun v9 u_20 H locs hw hP hD hS => ?_)
          · exact hw.elim
          obtain ⟨r_19, rfl, rfl, hr_19, fr_r_19⟩ := hw
          have hP : va_P (dC, dI) vwCl (cW ad cid a2 lx sg gm lg) H := hP
          have hD : va_D A (cW ad cid a2 lx sg gm lg) := hD
          refine W.eq (g2 := F0 m 36 ls [eV (ad 9) r_19]) rfl ?_
          refine cr_get (t := 9) (j := 3) (C := RX3) (T := TX3) (N := 21) (v := .int (gm 13 r_19.toNatClampNeg)) hx hb htb inX3 hown hK hP hr_19 (by decide) (by decide) (by decide) rfl (by decide) (htb _ kw_237) rfl dX9_firstWrongPlace_36 ?_
          obtain ⟨z_22, ez_22⟩ : ∃ z : Int32, z = (gm 13 r_19.toNatClampNeg) := ⟨_, rfl⟩
          refine W.eq (g2 := F0 m 39 ls [.int z_22]) (by rw [ez_22]) ?_
          have hz_22 : iv 0 1201 z_22 := iv_of ez_22 (CI_a hI 13 hr_19 (by decide))
          exact W.nb (fun hN => W.widen (k := 1) (n := 6) (by decide) (by decide) (vx_ret (W.iret (v := z_22) hx hb hr (fun t ht hW => ⟨⟨some (.int z_22), (sg, gm, lg), rfl, ⟨z_22, rfl, rfl, (iv_w hz_22 (by decide)), (fun q9 => absurd q9 (by have := i32_0; have := i32_1; have := i32_2; have := i32_m1; have := (hsx0_2).1; have := (hsx0_2).2; have := (h_7).1; have := (h_7).2; have := (h_8).1; have := (h_8).2; have := (hr_9).1; have := (hr_9).2; have := (h_18).1; have := (h_18).2; have := (hr_19).1; have := (hr_19).2; have := (hz_22).1; have := (hz_22).2; omega)), (Or.inr ⟨by have := i32_0; have := i32_1; have := i32_2; have := i32_m1; have := (hsx0_2).1; have := (hsx0_2).2; have := (h_7).1; have := (h_7).2; have := (h_8).1; have := (h_8).2; have := (hr_9).1; have := (hr_9).2; have := (h_18).1; have := (h_18).2; have := (hr_19).1; have := (hr_19).2; have := (hz_22).1; have := (hz_22).2; omega, fun h => (fO_r_12.resolve_left (fun q8 => absurd q8.1 (by have := i32_0; have := i32_1; have := i32_2; have := i32_m1; have := (hsx0_2).1; have := (hsx0_2).2; have := (h_7).1; have := (h_7).2; have := (h_8).1; have := (h_8).2; have := (hr_9).1; have := (hr_9).2; have := (h_18).1; have := (h_18).2; have := (hr_19).1; have := (hr_19).2; have := (hz_22).1; have := (hz_22).2; omega))).2 (h _ (show r_9.toNatClampNeg < D.length from (by have := hRC.1; have q4 := congrArg Int32.toInt fr_r_1; have := congrArg Int32.toInt fr_r_9; have : r_9.toNatClampNeg = r_9.toInt.toNat := rfl; have := i32_0; have := i32_1; have := i32_2; have := i32_m1; have := (show iv 0 80 (sg 4) from CI_s hI 4).1; have := (show iv 0 80 (sg 4) from CI_s hI 4).2; have := (hsx0_2).1; have := (hsx0_2).2; have := (h_7).1; have := (h_7).2; have := (h_8).1; have := (h_8).2; have := (hr_9).1; have := (hr_9).2; have := (h_18).1; have := (h_18).2; have := (hr_19).1; have := (hr_19).2; have := (hz_22).1; have := (hz_22).2; omega)))⟩)⟩, by rw [ht]; exact hP, va_K.moved hW.alike hK, hD⟩, hS.F ht, by rw [ht]; exact hN⟩) hS.2.2 dX9_firstWrongPlace_39)))
  refine lv_iconst (v := 0) hx hb dX9_firstWrongPlace_0 (by decide) ?_
  refine lv_istore_n (i := 1) (lv' := [(1, .int 0), (0, eV (ad 3) x)]) hx hb dX9_firstWrongPlace_1 rfl hl (by decide) (by simp [List.filter, eV_cat, cat_i, cat_l]) (fun ls hl => ?_)
  exact hj2 _ 0 rfl (iv_w (iv_k (by decide) : iv 0 0 0) (by decide)) hvx ((fun _ q9 => absurd q9 (Nat.not_lt_zero _))) _ _ _ hP hD hS (lv_sub hl [0, 1] rfl)
end
section
/-- the bean with this id, by the class's rows -/
def qCr (lg : Nat → Nat → Int64) (w : Int64) (b : Nat) : Bool := decide (lg 4 b = w)
def cWid (sg : Nat → Int32) (lg : Nat → Nat → Int64) (w : Int64) : Int32 := if w = 0 then -1 else fstB (qCr lg w) (sg 12).toNatClampNeg 0
def cPar (sg : Nat → Int32) (lg : Nat → Nat → Int64) (b : Int32) : Int32 := cWid sg lg (lg 5 b.toNatClampNeg)
theorem cW_0 {sg : Nat → Int32} {lg : Nat → Nat → Int64} {w : Int64} (h : w = 0) : cWid sg lg w = -1 := by unfold cWid; rw [if_pos h]
theorem cW_n {sg : Nat → Int32} {lg : Nat → Nat → Int64} {w : Int64} {x : Int32} (hn : iv 0 80 (sg 12)) (hx : iv 0 80 x) (hl : (sg 12).toInt ≤ x.toInt) (h : NHB (qCr lg w) 0 x.toNatClampNeg) : cWid sg lg w = -1 := by
  have k1 := iv_cl hn (by decide)
  have k2 := iv_cl hx (by decide)
  unfold cWid
  split
  · rfl
  · exact fst_no _ 0 (fun k q1 q2 => h k q1 (by omega))
theorem cW_h {sg : Nat → Int32} {lg : Nat → Nat → Int64} {w : Int64} {x : Int32} (hz : ¬ w = 0) (hn : iv 0 80 (sg 12)) (hx : iv 0 79 x) (hl : x.toInt < (sg 12).toInt) (h : NHB (qCr lg w) 0 x.toNatClampNeg) (hq : lg 4 x.toNatClampNeg = w) : x = cWid sg lg w := by
  have k1 := iv_cl hn (by decide)
  have k2 := iv_cl hx (by decide)
  unfold cWid
  rw [if_neg hz]
  have k3 := fst_hit (q := qCr lg w) x.toNatClampNeg (sg 12).toNatClampNeg 0 (by omega) (by rw [Nat.zero_add]; exact h) (by rw [Nat.zero_add]; exact decide_eq_true hq)
  rw [Nat.zero_add, iv_nI hx (by decide)] at k3
  exact k3.symm
theorem cWd_r {sg : Nat → Int32} {lg : Nat → Nat → Int64} (w : Int64) (hn : iv 0 80 (sg 12)) : cWid sg lg w = -1 ∨ (0 ≤ (cWid sg lg w).toInt ∧ (cWid sg lg w).toInt < (sg 12).toInt ∧ ¬ lg 4 (cWid sg lg w).toNatClampNeg = 0) := by
  have k1 := iv_cl hn (by decide)
  have k2 := hn.2
  unfold cWid
  split
  · exact Or.inl rfl
  · rename_i hz
    rcases fst_or (qCr lg w) (sg 12).toNatClampNeg 0 with v | ⟨i, v1, v2, v3, _⟩
    · exact Or.inl v.1
    · rw [v2, Nat.zero_add]
      rw [Nat.zero_add] at v3
      have h4 : (nI i).toInt = i := nI_toInt (by omega)
      have h5 : (nI i).toNatClampNeg = i := by show (nI i).toInt.toNat = i; omega
      refine Or.inr ⟨by omega, by omega, fun q => hz ?_⟩
      rw [h5] at q
      rw [← of_decide_eq_true v3, q]
def RPW (sg : Nat → Int32) (lg : Nat → Nat → Int64) (b : Int32) : Prop := lg 5 b.toNatClampNeg = 0 ∨ (¬ cPar sg lg b = -1 ∧ NR (cPar sg lg) (cPar sg lg b))
def IRW (sg : Nat → Int32) (gm : Nat → Nat → Int32) (lg : Nat → Nat → Int64) (i : Nat) : Prop := (¬ lg 1 i = 0 → ∀ k, k < i → ¬ lg 1 k = lg 1 i) ∧ ((gm 27 i).toInt < 0 ∨ RPW sg lg (gm 27 i))

set_option maxHeartbeats 4000000 in
set_option maxRecDepth 100000 in
theorem d_withId2 (l : Launch) (dC : Nat → ClassId) (dI : Nat → Nat → Nat) (ad : Nat → Nat → Nat) (cid : Nat → ClassId) (a2 : Nat → Nat) (lx : List Nat) (sg : Nat → Int32) (gm : Nat → Nat → Int32) (lg : Nat → Nat → Int64) (x : Int32) (id : Int64) (hI : CI sg gm) (hvx : iv 0 0 x) : CMt dC dI ad cid a2 lx l yX10_withId wm_X10_withId ({ frames := 0, cells := 1, slots := 6, locals := 0 }) [eV (ad 4) x, .long id] sg gm lg (fun v u => ∃ r : Int32, v = some (eV (ad 10) r) ∧ u = (sg, gm, lg) ∧ (iv (-1) 79 r) ∧ (r.toInt = -1 ∨ (r.toInt < (sg 12).toInt ∧ ¬ lg 4 r.toNatClampNeg = 0)) ∧ (r = cWid sg lg id)) (fun _ _ => False) := by
  intro sz
  refine vx_ofW (cc := cX10_withId) (maxL := 4) (ret := (some (.object "WiredBeans$Bean"))) (by decide) rfl ?_
  intro p e s m args below meth c s₁ B hml hxt hv
  obtain ⟨rfl, hsz, hP, hK, hD0, hG⟩ := hv
  have hx := B.exec
  have hb := B.bytes
  have hr := B.returns
  have hts := atoms_spec (ws := wm_X10_withId) B.pre
  have htb := fun (w : Cond) (h : w ∈ tb) => hts w (List.mem_cons_of_mem _ h)
  have hown : s.vm.findClass RX10 = some m.cls := findClass_of_methodNamed B.named
  have hlocks := B.notSynchronized
  subst hsz
  have hD := hD0.self (sz := s.heap.size)
  generalize hAe : va_A (cW ad cid a2 lx sg gm lg) s.heap.size = A at hD hG ⊢
  have hA : ∀ q : Nat, s.heap.size ≤ q → A q := fun q h => by rw [← hAe]; exact Or.inr h
  have hS : va_S A s.heap s.heap [] := va_S.rf
  have hl := lv_entry ([eV (ad 4) x, .long id]) (n := 4) (by rw [show (lg_sl ([eV (ad 4) x, .long id])).length = 3 from by simp [lg_sl, eV_cat, cat_i, cat_l]]; exact Nat.le_of_ble_eq_true rfl)
  rw [lg_entry_eq]
  generalize (lg_sl ([eV (ad 4) x, .long id]) ++ List.replicate (4 - (lg_sl ([eV (ad 4) x, .long id])).length) Slot.unset).toArray = ls at hl ⊢
  have hl : lv_has ls 4 [(0, eV (ad 4) x), (1, .long id)] := by simp [lv_args, eV_cat, cat_i, cat_l] at hl; exact hl
  have hj43 : ∀ (x3_43 : Int32) (_ : iv 0 80 x3_43) (_ : iv 0 0 x) (_ : cWid sg lg id = -1) (H : Heap) (locs : List Loc) (ls : Array Slot), va_P (dC, dI) vwCl (cW ad cid a2 lx sg gm lg) H → va_D A (cW ad cid a2 lx sg gm lg) → va_S A s.heap H locs → lv_has ls 4 [(3, .int x3_43), (0, eV (ad 4) x), (1, .long id)] → W p l e (headSpec wm_X10_withId ({ frames := 0, cells := 1, slots := 6, locals := 0 })).room s m ([eV (ad 4) x, .long id] : List Value).toArray below meth c H locs 0 0 (vx_MQ below (cQx dC dI ad cid a2 lx (fun v u => ∃ r : Int32, v = some (eV (ad 10) r) ∧ u = (sg, gm, lg) ∧ (iv (-1) 79 r) ∧ (r.toInt = -1 ∨ (r.toInt < (sg 12).toInt ∧ ¬ lg 4 r.toNatClampNeg = 0)) ∧ (r = cWid sg lg id)) A) (cX dC dI ad cid a2 lx (fun _ _ => False) A) ([eV (ad 4) x, .long id] : List Value).toArray s 1 6 A) (F0 m 43 ls []) := by
    intro x3_43 hx3_43 hsx0_43 u43 H locs ls hP hD hS hl
    refine ec_null (a := ad 10) hx hb dX10_withId_43 ?_
    exact W.nb (fun hN => W.widen (k := 1) (n := 6) (by decide) (by decide) (vx_ret (W.aret (v := eV (ad 10) (-1)) hx hb hr (Or.inl ⟨_, rfl⟩) (eV_is _ _) (fun t ht hW => ⟨⟨some (eV (ad 10) (-1)), (sg, gm, lg), rfl, ⟨(-1), rfl, rfl, (iv_w (iv_k (by decide) : iv (-1) (-1) (-1)) (by decide)), (Or.inl rfl), (u43.symm)⟩, by rw [ht]; exact hP, va_K.moved hW.alike hK, hD⟩, hS.F ht, by rw [ht]; exact hN⟩) hS.2.2 dX10_withId_44)))
  have hj2 : ∀ (n : Nat) (x3_2 : Int32) (_ : (80 - x3_2.toInt).toNat = n) (_ : iv 0 80 x3_2) (_ : iv 0 0 x) (_ : NHB (qCr lg id) 0 x3_2.toNatClampNeg) (H : Heap) (locs : List Loc) (ls : Array Slot), va_P (dC, dI) vwCl (cW ad cid a2 lx sg gm lg) H → va_D A (cW ad cid a2 lx sg gm lg) → va_S A s.heap H locs → lv_has ls 4 [(3, .int x3_2), (0, eV (ad 4) x), (1, .long id)] → W p l e (headSpec wm_X10_withId ({ frames := 0, cells := 1, slots := 6, locals := 0 })).room s m ([eV (ad 4) x, .long id] : List Value).toArray below meth c H locs 0 0 (vx_MQ below (cQx dC dI ad cid a2 lx (fun v u => ∃ r : Int32, v = some (eV (ad 10) r) ∧ u = (sg, gm, lg) ∧ (iv (-1) 79 r) ∧ (r.toInt = -1 ∨ (r.toInt < (sg 12).toInt ∧ ¬ lg 4 r.toNatClampNeg = 0)) ∧ (r = cWid sg lg id)) A) (cX dC dI ad cid a2 lx (fun _ _ => False) A) ([eV (ad 4) x, .long id] : List Value).toArray s 1 6 A) (F0 m 2 ls []) := by
    intro n
    induction n using Nat.strongRecOn with
    | ind n ih2 =>
      intro x3_2 hn2 hx3_2 hsx0_2 hnh H locs ls hP hD hS hl
      refine lv_iload_n hx hb dX10_withId_2 rfl (lv_at hl 0 rfl) ?_
      refine ec_aload_n hx hb dX10_withId_3 rfl (lv_at hl 1 rfl) ?_
      refine cr_get (t := 4) (j := 3) (C := RX10) (T := TX10) (N := 4) (v := .int (sg 12)) hx hb htb inX10 hown hK hP hsx0_2 (by decide) (by decide) (by decide) rfl (by decide) (htb _ kw_390) rfl dX10_withId_4 ?_
      refine lv_icmp_ge (tgt := 43) hx hb dX10_withId_7 (by decide) (fun c_1 => ?_) (fun c_1 => ?_)
      · have d_2 : ((sg 12) : Int32).toInt ≤ (x3_2 : Int32).toInt := Int32.le_iff_toInt_le.mp c_1
        exact hj43 x3_2 hx3_2 hsx0_2 ((cW_n (show iv 0 80 (sg 12) from CI_s hI 12) hx3_2 (by have := i32_0; have := i32_1; have := i32_2; have := i32_m1; have := (show iv 0 80 (sg 12) from CI_s hI 12).1; have := (show iv 0 80 (sg 12) from CI_s hI 12).2; have := (hsx0_2).1; have := (hsx0_2).2; have := (hx3_2).1; have := (hx3_2).2; have := ((show iv 0 80 (sg 12) from CI_s hI 12)).1; have := ((show iv 0 80 (sg 12) from CI_s hI 12)).2; omega) hnh)) _ _ _ hP hD hS (lv_sub hl [0, 1, 2] rfl)
      · have d_3 : (x3_2 : Int32).toInt < ((sg 12) : Int32).toInt := Int32.lt_iff_toInt_lt.mp (i32_lt c_1)
        have h_4 : iv 0 79 x3_2 := iv_ltL (i32_lt c_1) hx3_2 (show iv 0 80 (sg 12) from CI_s hI 12) (by decide)
        have h_5 : iv 1 80 (sg 12) := iv_ltR (i32_lt c_1) hx3_2 (show iv 0 80 (sg 12) from CI_s hI 12) (by decide)
        refine lv_lload_n hx hb dX10_withId_10 rfl (lv_at hl 2 rfl) ?_
        refine lv_lconst (v := 0) hx hb dX10_withId_11 (by decide) ?_
        refine W.lcmp hx hb dX10_withId_12 ?_
        refine lv_topi (fun z_6 ez_6 => ?_)
        have hz_6 : iv (-1) 1 z_6 := iv_of ez_6 (iv_cmp _ _)
        refine lv_if_eq (tgt := 43) hx hb dX10_withId_13 (by decide) (fun c_7 => ?_) (fun c_7 => ?_)
        · have h_8 : iv 0 0 z_6 := iv_eq c_7 hz_6 (iv_k (by decide) : iv 0 0 0) (by decide)
          exact hj43 x3_2 (iv_w h_4 (by decide)) hsx0_2 ((cW_0 ((lg_cmp_eq _ _).mp (by rw [← ez_6]; exact c_7)))) _ _ _ hP hD hS (lv_sub hl [0, 1, 2] rfl)
        · have d_9 : ¬ (z_6 : Int32).toInt = 0 := lv_neT c_7 rfl
          refine ec_aload_n hx hb dX10_withId_16 rfl (lv_at hl 1 rfl) ?_
          refine cr_get (t := 4) (j := 1) (C := RX10) (T := TX10) (N := 4) (v := eV (ad 19) 0) hx hb htb inX10 hown hK hP hsx0_2 (by decide) (by decide) (by decide) rfl (by decide) (htb _ kw_388) (cV_c rfl (by decide) (by rw [show cMu 4 1 = 0 from rfl, Nat.zero_mul]; rfl)) dX10_withId_17 ?_
          refine lv_iload_n hx hb dX10_withId_20 rfl (lv_at hl 0 rfl) ?_
          refine cr_aald (t := 19) (C := RX1) (v := eV (ad 10) x3_2) hx hb hK hP (iv_k (by decide) : iv 0 0 0) (by decide) (by decide) (by decide) (by decide) (by decide) rfl (show vp_in x3_2 (cLen 19) from (show vp_in x3_2 80 from (iv_in h_4 (by decide)))) (cAr_c (by decide) (h_4).1 (by rw [show cAm 19 = 0 from rfl, Nat.zero_mul, show cAo 19 = 0 from rfl]; omega)) dX10_withId_21 ?_
          refine cr_get (t := 10) (j := 5) (C := RX1) (T := TX1) (N := 19) (v := .long (lg 4 x3_2.toNatClampNeg)) hx hb htb inX1 hown hK hP h_4 (by decide) (by decide) (by decide) rfl (by decide) (htb _ kw_359) rfl dX10_withId_22 ?_
          refine lv_topl (fun z_10 ez_10 => ?_)
          refine lv_lload_n hx hb dX10_withId_25 rfl (lv_at hl 2 rfl) ?_
          refine W.lcmp hx hb dX10_withId_26 ?_
          refine lv_topi (fun z_11 ez_11 => ?_)
          have hz_11 : iv (-1) 1 z_11 := iv_of ez_11 (iv_cmp _ _)
          refine lv_if_ne (tgt := 37) hx hb dX10_withId_27 (by decide) (fun c_12 => ?_) (fun c_12 => ?_)
          · have d_13 : ¬ (z_11 : Int32).toInt = 0 := lv_neT c_12 rfl
            obtain ⟨z_14, ez_14⟩ : ∃ z : Int32, z = x3_2 + 1 := ⟨_, rfl⟩
            have hz_14 : iv 1 80 z_14 := iv_of ez_14 (iv_add h_4 (iv_k (by decide) : iv 1 1 1) (by decide))
            have tz_14 : z_14.toInt = x3_2.toInt + 1 := by rw [ez_14]; exact iv_addE h_4 (iv_k (by decide) : iv 1 1 1) (by decide)
            refine lv_iinc (v := z_14) (lv' := [(3, .int z_14), (0, eV (ad 4) x), (1, .long id)]) hx hb dX10_withId_37 hl (k := 0) rfl ez_14.symm (by decide) rfl (fun ls hl => ?_)
            refine lv_goto (tgt := 2) hx hb dX10_withId_40 (by decide) ?_
            exact ih2 _ (by rw [← hn2]; exact (iv_meas tz_14 h_4 (by decide))) z_14 rfl (iv_w hz_14 (by decide)) hsx0_2 ((by rw [s_cl h_4 (by decide) tz_14]; exact NHB_s hnh (decide_eq_false (fun q9 => c_12 (by rw [ez_11, ez_10]; exact (lg_cmp_eq _ _).mpr q9))))) _ _ _ hP hD hS (lv_sub hl [0, 1, 2] rfl)
          · have h_15 : iv 0 0 z_11 := iv_eq c_12 hz_11 (iv_k (by decide) : iv 0 0 0) (by decide)
            refine ec_aload_n hx hb dX10_withId_30 rfl (lv_at hl 1 rfl) ?_
            refine cr_get (t := 4) (j := 1) (C := RX10) (T := TX10) (N := 4) (v := eV (ad 19) 0) hx hb htb inX10 hown hK hP hsx0_2 (by decide) (by decide) (by decide) rfl (by decide) (htb _ kw_388) (cV_c rfl (by decide) (by rw [show cMu 4 1 = 0 from rfl, Nat.zero_mul]; rfl)) dX10_withId_31 ?_
            refine lv_iload_n hx hb dX10_withId_34 rfl (lv_at hl 0 rfl) ?_
            refine cr_aald (t := 19) (C := RX1) (v := eV (ad 10) x3_2) hx hb hK hP (iv_k (by decide) : iv 0 0 0) (by decide) (by decide) (by decide) (by decide) (by decide) rfl (show vp_in x3_2 (cLen 19) from (show vp_in x3_2 80 from (iv_in h_4 (by decide)))) (cAr_c (by decide) (h_4).1 (by rw [show cAm 19 = 0 from rfl, Nat.zero_mul, show cAo 19 = 0 from rfl]; omega)) dX10_withId_35 ?_
            exact W.nb (fun hN => W.widen (k := 1) (n := 6) (by decide) (by decide) (vx_ret (W.aret (v := eV (ad 10) x3_2) hx hb hr (Or.inl ⟨_, rfl⟩) (eV_is _ _) (fun t ht hW => ⟨⟨some (eV (ad 10) x3_2), (sg, gm, lg), rfl, ⟨x3_2, rfl, rfl, (iv_w h_4 (by decide)), (Or.inr ⟨by have := i32_0; have := i32_1; have := i32_2; have := i32_m1; have := (show iv 0 80 (sg 12) from CI_s hI 12).1; have := (show iv 0 80 (sg 12) from CI_s hI 12).2; have := (hsx0_2).1; have := (hsx0_2).2; have := (h_4).1; have := (h_4).2; have := (h_5).1; have := (h_5).2; have := (hz_6).1; have := (hz_6).2; have := (h_15).1; have := (h_15).2; omega, fun q9 => c_7 (by rw [ez_6]; exact (lg_cmp_eq _ _).mpr (by have q8 := c_12; rw [ez_11, ez_10, q9] at q8; exact ((lg_cmp_eq _ _).mp q8).symm))⟩), ((cW_h (fun q9 => c_7 (by rw [ez_6]; exact (lg_cmp_eq _ _).mpr q9)) (show iv 0 80 (sg 12) from CI_s hI 12) h_4 (by have := i32_0; have := i32_1; have := i32_2; have := i32_m1; have := (show iv 0 80 (sg 12) from CI_s hI 12).1; have := (show iv 0 80 (sg 12) from CI_s hI 12).2; have := (hsx0_2).1; have := (hsx0_2).2; have := (h_4).1; have := (h_4).2; have := (h_5).1; have := (h_5).2; have := (hz_6).1; have := (hz_6).2; have := (h_15).1; have := (h_15).2; omega) hnh (by have q8 := c_12; rw [ez_11, ez_10] at q8; exact (lg_cmp_eq _ _).mp q8)))⟩, by rw [ht]; exact hP, va_K.moved hW.alike hK, hD⟩, hS.F ht, by rw [ht]; exact hN⟩) hS.2.2 dX10_withId_36)))
  refine lv_iconst (v := 0) hx hb dX10_withId_0 (by decide) ?_
  refine lv_istore_n (i := 3) (lv' := [(3, .int 0), (0, eV (ad 4) x), (1, .long id)]) hx hb dX10_withId_1 rfl hl (by decide) rfl (fun ls hl => ?_)
  exact hj2 _ 0 rfl (iv_w (iv_k (by decide) : iv 0 0 0) (by decide)) hvx (NHB_0) _ _ _ hP hD hS (lv_sub hl [0, 1, 2] rfl)

theorem itF_s9 {f : Int32 → Int32} {b y r : Int32} {n : Nat} (hp : y = itF f n b) (hb : ¬ y = -1) (hr : r = f y) : r = itF f (n + 1) b := by
  rw [itF_add, ← hp, itF_1 hb, hr]
theorem NR_9 {f : Int32 → Int32} {b y : Int32} {n : Nat} (hb : 0 ≤ b.toInt) (hp : y = itF f n b) (h1 : 1 ≤ n) (hn : n ≤ 80) (hs : n = 80 ∨ y = -1) (hy : ¬ y = b) (h : ∀ k, 1 ≤ k → k < n → ¬ itF f k b = b) : NR f b := fun k h1 h2 hk => by
  by_cases h3 : k < n
  · exact h k h1 h3 hk
  · by_cases h4 : k = n
    · rw [h4, ← hp] at hk; exact hy hk
    · rcases hs with q | q
      · omega
      · have h5 : k = n + (k - n) := by omega
        rw [h5, itF_add, ← hp, q, itF_m1] at hk
        rw [← hk] at hb
        exact absurd hb (by decide)

set_option maxHeartbeats 4000000 in
set_option maxRecDepth 100000 in
theorem d_comesToItself2 (l : Launch) (dC : Nat → ClassId) (dI : Nat → Nat → Nat) (ad : Nat → Nat → Nat) (cid : Nat → ClassId) (a2 : Nat → Nat) (lx : List Nat) (sg : Nat → Int32) (gm : Nat → Nat → Int32) (lg : Nat → Nat → Int64) (x : Int32) (b : Int32) (hI : CI sg gm) (hvx : iv 0 0 x) (hvb : iv 0 79 b) : CMt dC dI ad cid a2 lx l yX10_comesToItself wm_X10_comesToItself ({ frames := 1, cells := 1, slots := 6, locals := 23 }) [eV (ad 4) x, eV (ad 10) b] sg gm lg (fun v u => ∃ r : Int32, v = some (.int r) ∧ u = (sg, gm, lg) ∧ (iv 0 1 r) ∧ ((r.toInt = 1 ∧ ¬ NR (cPar sg lg) b) ∨ (r.toInt = 0 ∧ NR (cPar sg lg) b))) (fun _ _ => False) := by
  intro sz
  refine vx_ofW (cc := cX10_comesToItself) (maxL := 4) (ret := (some .boolean)) (by decide) rfl ?_
  intro p e s m args below meth c s₁ B hml hxt hv
  obtain ⟨rfl, hsz, hP, hK, hD0, hG⟩ := hv
  have hx := B.exec
  have hb := B.bytes
  have hr := B.returns
  have hts := atoms_spec (ws := wm_X10_comesToItself) B.pre
  have htb := fun (w : Cond) (h : w ∈ tb) => hts w (List.mem_cons_of_mem _ h)
  have hown : s.vm.findClass RX10 = some m.cls := findClass_of_methodNamed B.named
  have hlocks := B.notSynchronized
  subst hsz
  have hD := hD0.self (sz := s.heap.size)
  generalize hAe : va_A (cW ad cid a2 lx sg gm lg) s.heap.size = A at hD hG ⊢
  have hA : ∀ q : Nat, s.heap.size ≤ q → A q := fun q h => by rw [← hAe]; exact Or.inr h
  have hS : va_S A s.heap s.heap [] := va_S.rf
  have hl := lv_entry ([eV (ad 4) x, eV (ad 10) b]) (n := 4) (by rw [show (lg_sl ([eV (ad 4) x, eV (ad 10) b])).length = 2 from by simp [lg_sl, eV_cat, cat_i, cat_l]]; exact Nat.le_of_ble_eq_true rfl)
  rw [lg_entry_eq]
  generalize (lg_sl ([eV (ad 4) x, eV (ad 10) b]) ++ List.replicate (4 - (lg_sl ([eV (ad 4) x, eV (ad 10) b])).length) Slot.unset).toArray = ls at hl ⊢
  have hl : lv_has ls 4 [(0, eV (ad 4) x), (1, eV (ad 10) b)] := by simp [lv_args, eV_cat, cat_i, cat_l] at hl; exact hl
  have hj51 : ∀ (x3_51 : Int32) (x2_51 : Int32) (y0_51 : Int32) (_ : iv 1 80 x3_51) (_ : iv (-1) 79 x2_51) (_ : iv 0 0 x) (_ : iv 0 79 b) (_ : iv 0 1 y0_51) (_ : (y0_51.toInt = 1 ∧ ¬ NR (cPar sg lg) b) ∨ (y0_51.toInt = 0 ∧ NR (cPar sg lg) b)) (H : Heap) (locs : List Loc) (ls : Array Slot), va_P (dC, dI) vwCl (cW ad cid a2 lx sg gm lg) H → va_D A (cW ad cid a2 lx sg gm lg) → va_S A s.heap H locs → lv_has ls 4 [(3, .int x3_51), (2, eV (ad 10) x2_51), (0, eV (ad 4) x), (1, eV (ad 10) b)] → W p l e (headSpec wm_X10_comesToItself ({ frames := 1, cells := 1, slots := 6, locals := 23 })).room s m ([eV (ad 4) x, eV (ad 10) b] : List Value).toArray below meth c H locs 0 0 (vx_MQ below (cQx dC dI ad cid a2 lx (fun v u => ∃ r : Int32, v = some (.int r) ∧ u = (sg, gm, lg) ∧ (iv 0 1 r) ∧ ((r.toInt = 1 ∧ ¬ NR (cPar sg lg) b) ∨ (r.toInt = 0 ∧ NR (cPar sg lg) b))) A) (cX dC dI ad cid a2 lx (fun _ _ => False) A) ([eV (ad 4) x, eV (ad 10) b] : List Value).toArray s 1 6 A) (F0 m 51 ls [.int y0_51]) := by
    intro x3_51 x2_51 y0_51 hx3_51 hx2_51 hsx0_51 hsx1_51 hy0_51 u51 H locs ls hP hD hS hl
    exact W.nb (fun hN => W.widen (k := 1) (n := 6) (by decide) (by decide) (vx_ret (W.zret (v := y0_51) hx hb hr (iv_nb hy0_51) (fun t ht hW => ⟨⟨some (.int y0_51), (sg, gm, lg), rfl, ⟨y0_51, rfl, rfl, hy0_51, (u51)⟩, by rw [ht]; exact hP, va_K.moved hW.alike hK, hD⟩, hS.F ht, by rw [ht]; exact hN⟩) hS.2.2 dX10_comesToItself_51)))
  have hj41 : ∀ (x3_41 : Int32) (x2_41 : Int32) (_ : iv 1 80 x3_41) (_ : iv (-1) 79 x2_41) (_ : iv 0 0 x) (_ : iv 0 79 b) (_ : x2_41 = itF (cPar sg lg) x3_41.toNatClampNeg b ∧ (∀ k, 1 ≤ k → k < x3_41.toNatClampNeg → ¬ itF (cPar sg lg) k b = b) ∧ (x3_41.toInt = 80 ∨ x2_41 = -1 ∨ x2_41 = b)) (H : Heap) (locs : List Loc) (ls : Array Slot), va_P (dC, dI) vwCl (cW ad cid a2 lx sg gm lg) H → va_D A (cW ad cid a2 lx sg gm lg) → va_S A s.heap H locs → lv_has ls 4 [(3, .int x3_41), (2, eV (ad 10) x2_41), (0, eV (ad 4) x), (1, eV (ad 10) b)] → W p l e (headSpec wm_X10_comesToItself ({ frames := 1, cells := 1, slots := 6, locals := 23 })).room s m ([eV (ad 4) x, eV (ad 10) b] : List Value).toArray below meth c H locs 0 0 (vx_MQ below (cQx dC dI ad cid a2 lx (fun v u => ∃ r : Int32, v = some (.int r) ∧ u = (sg, gm, lg) ∧ (iv 0 1 r) ∧ ((r.toInt = 1 ∧ ¬ NR (cPar sg lg) b) ∨ (r.toInt = 0 ∧ NR (cPar sg lg) b))) A) (cX dC dI ad cid a2 lx (fun _ _ => False) A) ([eV (ad 4) x, eV (ad 10) b] : List Value).toArray s 1 6 A) (F0 m 41 ls []) := by
    intro x3_41 x2_41 hx3_41 hx2_41 hsx0_41 hsx1_41 u41 H locs ls hP hD hS hl
    refine ec_aload_n hx hb dX10_comesToItself_41 rfl (lv_at hl 1 rfl) ?_
    refine ec_aload_n hx hb dX10_comesToItself_42 rfl (lv_at hl 3 rfl) ?_
    refine ec_acmp_ne (tgt := 50) hx hb dX10_comesToItself_43 (by decide) (fun c_1 => ?_) (fun c_1 => ?_)
    · have wc_1 : ¬ x2_41.toInt = b.toInt := fun q9 => c_1 (congrArg (er (ad 10)) (Int32.toInt_inj.mp q9))
      refine lv_iconst (v := 0) hx hb dX10_comesToItself_50 (by decide) ?_
      exact hj51 x3_41 x2_41 0 hx3_41 hx2_41 hsx0_41 hsx1_41 (iv_w (iv_k (by decide) : iv 0 0 0) (by decide)) (Or.inr ⟨rfl, (by have k3 := iv_cl hx3_41 (by decide); exact NR_9 hvb.1 u41.1 (by have := i32_0; have := i32_1; have := i32_2; have := i32_m1; have := (hsx0_41).1; have := (hsx0_41).2; have := (hsx1_41).1; have := (hsx1_41).2; have := (hx3_41).1; have := (hx3_41).2; have := (hx2_41).1; have := (hx2_41).2; omega) (by have := i32_0; have := i32_1; have := i32_2; have := i32_m1; have := (hsx0_41).1; have := (hsx0_41).2; have := (hsx1_41).1; have := (hsx1_41).2; have := (hx3_41).1; have := (hx3_41).2; have := (hx2_41).1; have := (hx2_41).2; omega) (by rcases u41.2.2 with q | q | q; (exact Or.inl (by omega)); (exact Or.inr q); (exact absurd (congrArg Int32.toInt q) wc_1)) (fun q8 => wc_1 (congrArg Int32.toInt q8)) u41.2.1)⟩) _ _ _ hP hD hS (lv_sub hl [0, 1, 2, 3] rfl)
    · have wc_1 : x2_41.toInt = b.toInt := (er_in hD (t := 10) (x := b) (y := x2_41) (by decide) (by have := (hsx1_41).1; omega) (show _ < 80 by have := (hsx1_41).2; omega) (by have := (hx2_41).1; omega) (show _ < 80 by have := (hx2_41).2; omega) c_1.symm).symm
      refine lv_iconst (v := 1) hx hb dX10_comesToItself_46 (by decide) ?_
      refine lv_goto (tgt := 51) hx hb dX10_comesToItself_47 (by decide) ?_
      exact hj51 x3_41 x2_41 1 hx3_41 hx2_41 hsx0_41 hsx1_41 (iv_w (iv_k (by decide) : iv 1 1 1) (by decide)) (Or.inl ⟨rfl, fun h => h x3_41.toNatClampNeg (by have k3 := iv_cl hx3_41 (by decide); have := i32_0; have := i32_1; have := i32_2; have := i32_m1; have := (hsx0_41).1; have := (hsx0_41).2; have := (hsx1_41).1; have := (hsx1_41).2; have := (hx3_41).1; have := (hx3_41).2; have := (hx2_41).1; have := (hx2_41).2; omega) (by have k3 := iv_cl hx3_41 (by decide); have := i32_0; have := i32_1; have := i32_2; have := i32_m1; have := (hsx0_41).1; have := (hsx0_41).2; have := (hsx1_41).1; have := (hsx1_41).2; have := (hx3_41).1; have := (hx3_41).2; have := (hx2_41).1; have := (hx2_41).2; omega) (u41.1.symm.trans (Int32.toInt_inj.mp wc_1))⟩) _ _ _ hP hD hS (lv_sub hl [0, 1, 2, 3] rfl)
  have hj11 : ∀ (n : Nat) (x3_11 : Int32) (x2_11 : Int32) (_ : (80 - x3_11.toInt).toNat = n) (_ : iv 1 80 x3_11) (_ : iv (-1) 79 x2_11) (_ : iv 0 0 x) (_ : iv 0 79 b) (_ : x2_11 = itF (cPar sg lg) x3_11.toNatClampNeg b) (_ : ∀ k, 1 ≤ k → k < x3_11.toNatClampNeg → ¬ itF (cPar sg lg) k b = b) (H : Heap) (locs : List Loc) (ls : Array Slot), va_P (dC, dI) vwCl (cW ad cid a2 lx sg gm lg) H → va_D A (cW ad cid a2 lx sg gm lg) → va_S A s.heap H locs → lv_has ls 4 [(3, .int x3_11), (2, eV (ad 10) x2_11), (0, eV (ad 4) x), (1, eV (ad 10) b)] → W p l e (headSpec wm_X10_comesToItself ({ frames := 1, cells := 1, slots := 6, locals := 23 })).room s m ([eV (ad 4) x, eV (ad 10) b] : List Value).toArray below meth c H locs 0 0 (vx_MQ below (cQx dC dI ad cid a2 lx (fun v u => ∃ r : Int32, v = some (.int r) ∧ u = (sg, gm, lg) ∧ (iv 0 1 r) ∧ ((r.toInt = 1 ∧ ¬ NR (cPar sg lg) b) ∨ (r.toInt = 0 ∧ NR (cPar sg lg) b))) A) (cX dC dI ad cid a2 lx (fun _ _ => False) A) ([eV (ad 4) x, eV (ad 10) b] : List Value).toArray s 1 6 A) (F0 m 11 ls []) := by
    intro n
    induction n using Nat.strongRecOn with
    | ind n ih11 =>
      intro x3_11 x2_11 hn11 hx3_11 hx2_11 hsx0_11 hsx1_11 hit hne H locs ls hP hD hS hl
      refine lv_iload_n hx hb dX10_comesToItself_11 rfl (lv_at hl 0 rfl) ?_
      refine lv_bipush (v := 80) hx hb dX10_comesToItself_12 (by decide) ?_
      refine lv_icmp_ge (tgt := 41) hx hb dX10_comesToItself_14 (by decide) (fun c_2 => ?_) (fun c_2 => ?_)
      · have h_3 : iv 80 80 x3_11 := iv_leR c_2 (iv_k (by decide) : iv 80 80 80) hx3_11 (by decide)
        exact hj41 x3_11 x2_11 (iv_w h_3 (by decide)) hx2_11 hsx0_11 hsx1_11 (⟨hit, hne, Or.inl (by have := i32_0; have := i32_1; have := i32_2; have := i32_m1; have := (hsx0_11).1; have := (hsx0_11).2; have := (hsx1_11).1; have := (hsx1_11).2; have := (h_3).1; have := (h_3).2; have := (hx2_11).1; have := (hx2_11).2; omega)⟩) _ _ _ hP hD hS (lv_sub hl [0, 1, 2, 3] rfl)
      · have h_4 : iv 1 79 x3_11 := iv_ltL (i32_lt c_2) hx3_11 (iv_k (by decide) : iv 80 80 80) (by decide)
        refine ec_aload_n hx hb dX10_comesToItself_17 rfl (lv_at hl 1 rfl) ?_
        refine ec_ifnull (tgt := 41) hx hb dX10_comesToItself_18 (by decide) (fun c_5 => ?_) (fun c_5 => ?_)
        · have h_6 : iv (-1) (-1) x2_11 := ⟨(hx2_11).1, by omega⟩
          exact hj41 x3_11 x2_11 (iv_w h_4 (by decide)) (iv_w h_6 (by decide)) hsx0_11 hsx1_11 (⟨hit, hne, Or.inr (Or.inl (Int32.toInt_inj.mp (show (x2_11 : Int32).toInt = (-1 : Int32).toInt from (by have : (-1 : Int32).toInt = -1 := (by decide); have := i32_0; have := i32_1; have := i32_2; have := i32_m1; have := (hsx0_11).1; have := (hsx0_11).2; have := (hsx1_11).1; have := (hsx1_11).2; have := (h_4).1; have := (h_4).2; have := (h_6).1; have := (h_6).2; omega))))⟩) _ _ _ hP hD hS (lv_sub hl [0, 1, 2, 3] rfl)
        · have h_7 : iv 0 79 x2_11 := ⟨c_5, (hx2_11).2⟩
          refine ec_aload_n hx hb dX10_comesToItself_21 rfl (lv_at hl 1 rfl) ?_
          refine ec_aload_n hx hb dX10_comesToItself_22 rfl (lv_at hl 3 rfl) ?_
          refine ec_acmp_eq (tgt := 41) hx hb dX10_comesToItself_23 (by decide) (fun c_8 => ?_) (fun c_8 => ?_)
          · have wc_8 : x2_11.toInt = b.toInt := (er_in hD (t := 10) (x := b) (y := x2_11) (by decide) (by have := (hsx1_11).1; omega) (show _ < 80 by have := (hsx1_11).2; omega) (by have := (h_7).1; omega) (show _ < 80 by have := (h_7).2; omega) c_8.symm).symm
            exact hj41 x3_11 x2_11 (iv_w h_4 (by decide)) (iv_w h_7 (by decide)) hsx0_11 hsx1_11 (⟨hit, hne, Or.inr (Or.inr (Int32.toInt_inj.mp wc_8))⟩) _ _ _ hP hD hS (lv_sub hl [0, 1, 2, 3] rfl)
          · have wc_8 : ¬ x2_11.toInt = b.toInt := fun q9 => c_8 (congrArg (er (ad 10)) (Int32.toInt_inj.mp q9))
            refine ec_aload_n hx hb dX10_comesToItself_26 rfl (lv_at hl 2 rfl) ?_
            refine ec_aload_n hx hb dX10_comesToItself_27 rfl (lv_at hl 1 rfl) ?_
            refine cr_get (t := 10) (j := 6) (C := RX1) (T := TX1) (N := 19) (v := .long (lg 5 x2_11.toNatClampNeg)) hx hb htb inX1 hown hK hP h_7 (by decide) (by decide) (by decide) rfl (by decide) (htb _ kw_362) rfl dX10_comesToItself_28 ?_
            refine lv_topl (fun z_9 ez_9 => ?_)
            refine cm_callV (t := 4) (C := RX10) (T := TX10) (N := 4) (rest := []) (as := [.long z_9]) ⟨hx, hb, hml, hown, htb⟩ (d_withId2 l dC dI ad cid a2 lx sg gm lg x z_9 hI hsx0_11) (cwV 1 htb (gd_V kw_803 kw_804 kw_41 kw_153 kw_1502) rfl rfl rfl (by decide +kernel) ⟨Nat.le_of_ble_eq_true rfl, Nat.le_of_ble_eq_true rfl⟩) hsx0_11 (by decide) (by decide) rfl rfl hl.1 rfl (Nat.le_trans cs_n (by decide)) dX10_comesToItself_31 ⟨Nat.le_of_ble_eq_true rfl, Nat.le_of_ble_eq_true rfl⟩ hK hP hD hS hA hG (fun E ce q9 u_11 H locs hw hP hD hS hce hcv hcl => ?_) (fun v9 u_11 H locs hw hP hD hS => ?_)
            · exact hw.elim
            obtain ⟨r_10, rfl, rfl, hr_10, fI_r_10, fD_r_10⟩ := hw
            have hP : va_P (dC, dI) vwCl (cW ad cid a2 lx sg gm lg) H := hP
            have hD : va_D A (cW ad cid a2 lx sg gm lg) := hD
            refine W.eq (g2 := F0 m 34 ls [eV (ad 10) r_10]) rfl ?_
            refine ec_astore_n (i := 2) (lv' := [(2, eV (ad 10) r_10), (3, .int x3_11), (0, eV (ad 4) x), (1, eV (ad 10) b)]) hx hb dX10_comesToItself_34 rfl hl (by decide) (by simp [List.filter, eV_cat, cat_i, cat_l]) (fun ls hl => ?_)
            obtain ⟨z_13, ez_13⟩ : ∃ z : Int32, z = x3_11 + 1 := ⟨_, rfl⟩
            have hz_13 : iv 2 80 z_13 := iv_of ez_13 (iv_add h_4 (iv_k (by decide) : iv 1 1 1) (by decide))
            have tz_13 : z_13.toInt = x3_11.toInt + 1 := by rw [ez_13]; exact iv_addE h_4 (iv_k (by decide) : iv 1 1 1) (by decide)
            refine lv_iinc (v := z_13) (lv' := [(3, .int z_13), (2, eV (ad 10) r_10), (0, eV (ad 4) x), (1, eV (ad 10) b)]) hx hb dX10_comesToItself_35 hl (k := 1) rfl ez_13.symm (by decide) (by simp [List.filter, eV_cat, cat_i, cat_l]) (fun ls hl => ?_)
            refine lv_goto (tgt := 11) hx hb dX10_comesToItself_38 (by decide) ?_
            exact ih11 _ (by rw [← hn11]; exact (iv_meas tz_13 h_4 (by decide))) z_13 r_10 rfl (iv_w hz_13 (by decide)) hr_10 hsx0_11 hsx1_11 ((by rw [s_cl h_4 (by decide) tz_13]; exact itF_s9 hit (fun q8 => by have q7 : (x2_11 : Int32).toInt = -1 := (by rw [q8]; decide); have := i32_0; have := i32_1; have := i32_2; have := i32_m1; have := (hsx0_11).1; have := (hsx0_11).2; have := (hsx1_11).1; have := (hsx1_11).2; have := (h_4).1; have := (h_4).2; have := (h_7).1; have := (h_7).2; have := (hr_10).1; have := (hr_10).2; have := (hz_13).1; have := (hz_13).2; omega) (fD_r_10.trans (by rw [ez_9]; rfl)))) ((fun k h1 h2 => by rw [s_cl h_4 (by decide) tz_13] at h2; by_cases hq : k = x3_11.toNatClampNeg; (rw [hq, ← hit]; exact fun q8 => wc_8 (congrArg Int32.toInt q8)); exact hne k h1 (by omega))) _ _ _ hP hD hS (lv_sub hl [0, 1, 2, 3] rfl)
  refine ec_aload_n hx hb dX10_comesToItself_0 rfl (lv_at hl 0 rfl) ?_
  refine ec_aload_n hx hb dX10_comesToItself_1 rfl (lv_at hl 1 rfl) ?_
  refine cr_get (t := 10) (j := 6) (C := RX1) (T := TX1) (N := 19) (v := .long (lg 5 b.toNatClampNeg)) hx hb htb inX1 hown hK hP hvb (by decide) (by decide) (by decide) rfl (by decide) (htb _ kw_362) rfl dX10_comesToItself_2 ?_
  refine lv_topl (fun z_14 ez_14 => ?_)
  refine cm_callV (t := 4) (C := RX10) (T := TX10) (N := 4) (rest := []) (as := [.long z_14]) ⟨hx, hb, hml, hown, htb⟩ (d_withId2 l dC dI ad cid a2 lx sg gm lg x z_14 hI hvx) (cwV 1 htb (gd_V kw_803 kw_804 kw_41 kw_153 kw_1502) rfl rfl rfl (by decide +kernel) ⟨Nat.le_of_ble_eq_true rfl, Nat.le_of_ble_eq_true rfl⟩) hvx (by decide) (by decide) rfl rfl hl.1 rfl (Nat.le_trans cs_n (by decide)) dX10_comesToItself_5 ⟨Nat.le_of_ble_eq_true rfl, Nat.le_of_ble_eq_true rfl⟩ hK hP hD hS hA hG (fun E ce q9 u_16 H locs hw hP hD hS hce hcv hcl => ?_) (fun v9 u_16 H locs hw hP hD hS => ?_)
  · exact hw.elim
  obtain ⟨r_15, rfl, rfl, hr_15, fI_r_15, fD_r_15⟩ := hw
  have hP : va_P (dC, dI) vwCl (cW ad cid a2 lx sg gm lg) H := hP
  have hD : va_D A (cW ad cid a2 lx sg gm lg) := hD
  refine W.eq (g2 := F0 m 8 ls [eV (ad 10) r_15]) rfl ?_
  refine ec_astore_n (i := 2) (lv' := [(2, eV (ad 10) r_15), (0, eV (ad 4) x), (1, eV (ad 10) b)]) hx hb dX10_comesToItself_8 rfl hl (by decide) (by simp [List.filter, eV_cat, cat_i, cat_l]) (fun ls hl => ?_)
  refine lv_iconst (v := 1) hx hb dX10_comesToItself_9 (by decide) ?_
  refine lv_istore_n (i := 3) (lv' := [(3, .int 1), (2, eV (ad 10) r_15), (0, eV (ad 4) x), (1, eV (ad 10) b)]) hx hb dX10_comesToItself_10 rfl hl (by decide) (by simp [List.filter, eV_cat, cat_i, cat_l]) (fun ls hl => ?_)
  exact hj11 _ 1 r_15 rfl (iv_w (iv_k (by decide) : iv 1 1 1) (by decide)) hr_15 hvx hvb ((by have q9 : itF (cPar sg lg) 1 b = cPar sg lg b := itF_1 (fun q8 => absurd hvb.1 (by rw [q8]; decide)); have : (1 : Int32).toNatClampNeg = 1 := rfl; rw [this, q9]; exact fD_r_15.trans (by rw [ez_14]; rfl))) ((fun k h1 h2 => by have : (1 : Int32).toNatClampNeg = 1 := rfl; omega)) _ _ _ hP hD hS (lv_sub hl [0, 1, 2, 3] rfl)
end
section
set_option maxHeartbeats 4000000 in
set_option maxRecDepth 100000 in
theorem d_hasRightParent2 (l : Launch) (dC : Nat → ClassId) (dI : Nat → Nat → Nat) (ad : Nat → Nat → Nat) (cid : Nat → ClassId) (a2 : Nat → Nat) (lx : List Nat) (sg : Nat → Int32) (gm : Nat → Nat → Int32) (lg : Nat → Nat → Int64) (x : Int32) (b : Int32) (hI : CI sg gm) (hvx : iv 0 0 x) (hvb : iv 0 79 b) : CMt dC dI ad cid a2 lx l yX10_hasRightParent wm_X10_hasRightParent ({ frames := 2, cells := 1, slots := 6, locals := 46 }) [eV (ad 4) x, eV (ad 10) b] sg gm lg (fun v u => ∃ r : Int32, v = some (.int r) ∧ u = (sg, gm, lg) ∧ (iv 0 1 r) ∧ ((r.toInt = 1 ∧ (RPW sg lg b)) ∨ (r.toInt = 0 ∧ ¬ (RPW sg lg b)))) (fun _ _ => False) := by
  intro sz
  refine vx_ofW (cc := cX10_hasRightParent) (maxL := 3) (ret := (some .boolean)) (by decide) rfl ?_
  intro p e s m args below meth c s₁ B hml hxt hv
  obtain ⟨rfl, hsz, hP, hK, hD0, hG⟩ := hv
  have hx := B.exec
  have hb := B.bytes
  have hr := B.returns
  have hts := atoms_spec (ws := wm_X10_hasRightParent) B.pre
  have htb := fun (w : Cond) (h : w ∈ tb) => hts w (List.mem_cons_of_mem _ h)
  have hown : s.vm.findClass RX10 = some m.cls := findClass_of_methodNamed B.named
  have hlocks := B.notSynchronized
  subst hsz
  have hD := hD0.self (sz := s.heap.size)
  generalize hAe : va_A (cW ad cid a2 lx sg gm lg) s.heap.size = A at hD hG ⊢
  have hA : ∀ q : Nat, s.heap.size ≤ q → A q := fun q h => by rw [← hAe]; exact Or.inr h
  have hS : va_S A s.heap s.heap [] := va_S.rf
  have hl := lv_entry ([eV (ad 4) x, eV (ad 10) b]) (n := 3) (by rw [show (lg_sl ([eV (ad 4) x, eV (ad 10) b])).length = 2 from by simp [lg_sl, eV_cat, cat_i, cat_l]]; exact Nat.le_of_ble_eq_true rfl)
  rw [lg_entry_eq]
  generalize (lg_sl ([eV (ad 4) x, eV (ad 10) b]) ++ List.replicate (3 - (lg_sl ([eV (ad 4) x, eV (ad 10) b])).length) Slot.unset).toArray = ls at hl ⊢
  have hl : lv_has ls 3 [(0, eV (ad 4) x), (1, eV (ad 10) b)] := by simp [lv_args, eV_cat, cat_i, cat_l] at hl; exact hl
  have hj37 : ∀ (x2_37 : Int32) (y0_37 : Int32) (_ : iv (-1) 79 x2_37) (_ : iv 0 0 x) (_ : iv 0 79 b) (_ : iv 0 1 y0_37) (_ : (y0_37.toInt = 1 ∧ (RPW sg lg b)) ∨ (y0_37.toInt = 0 ∧ ¬ (RPW sg lg b))) (H : Heap) (locs : List Loc) (ls : Array Slot), va_P (dC, dI) vwCl (cW ad cid a2 lx sg gm lg) H → va_D A (cW ad cid a2 lx sg gm lg) → va_S A s.heap H locs → lv_has ls 3 [(2, eV (ad 10) x2_37), (0, eV (ad 4) x), (1, eV (ad 10) b)] → W p l e (headSpec wm_X10_hasRightParent ({ frames := 2, cells := 1, slots := 6, locals := 46 })).room s m ([eV (ad 4) x, eV (ad 10) b] : List Value).toArray below meth c H locs 0 0 (vx_MQ below (cQx dC dI ad cid a2 lx (fun v u => ∃ r : Int32, v = some (.int r) ∧ u = (sg, gm, lg) ∧ (iv 0 1 r) ∧ ((r.toInt = 1 ∧ (RPW sg lg b)) ∨ (r.toInt = 0 ∧ ¬ (RPW sg lg b)))) A) (cX dC dI ad cid a2 lx (fun _ _ => False) A) ([eV (ad 4) x, eV (ad 10) b] : List Value).toArray s 1 6 A) (F0 m 37 ls [.int y0_37]) := by
    intro x2_37 y0_37 hx2_37 hsx0_37 hsx1_37 hy0_37 u37 H locs ls hP hD hS hl
    exact W.nb (fun hN => W.widen (k := 1) (n := 6) (by decide) (by decide) (vx_ret (W.zret (v := y0_37) hx hb hr (iv_nb hy0_37) (fun t ht hW => ⟨⟨some (.int y0_37), (sg, gm, lg), rfl, ⟨y0_37, rfl, rfl, hy0_37, (u37)⟩, by rw [ht]; exact hP, va_K.moved hW.alike hK, hD⟩, hS.F ht, by rw [ht]; exact hN⟩) hS.2.2 dX10_hasRightParent_37)))
  have hj36 : ∀ (x2_36 : Int32) (_ : iv (-1) 79 x2_36) (_ : iv 0 0 x) (_ : iv 0 79 b) (_ : ¬ RPW sg lg b) (H : Heap) (locs : List Loc) (ls : Array Slot), va_P (dC, dI) vwCl (cW ad cid a2 lx sg gm lg) H → va_D A (cW ad cid a2 lx sg gm lg) → va_S A s.heap H locs → lv_has ls 3 [(2, eV (ad 10) x2_36), (0, eV (ad 4) x), (1, eV (ad 10) b)] → W p l e (headSpec wm_X10_hasRightParent ({ frames := 2, cells := 1, slots := 6, locals := 46 })).room s m ([eV (ad 4) x, eV (ad 10) b] : List Value).toArray below meth c H locs 0 0 (vx_MQ below (cQx dC dI ad cid a2 lx (fun v u => ∃ r : Int32, v = some (.int r) ∧ u = (sg, gm, lg) ∧ (iv 0 1 r) ∧ ((r.toInt = 1 ∧ (RPW sg lg b)) ∨ (r.toInt = 0 ∧ ¬ (RPW sg lg b)))) A) (cX dC dI ad cid a2 lx (fun _ _ => False) A) ([eV (ad 4) x, eV (ad 10) b] : List Value).toArray s 1 6 A) (F0 m 36 ls []) := by
    intro x2_36 hx2_36 hsx0_36 hsx1_36 u36 H locs ls hP hD hS hl
    refine lv_iconst (v := 0) hx hb dX10_hasRightParent_36 (by decide) ?_
    exact hj37 x2_36 0 hx2_36 hsx0_36 hsx1_36 (iv_w (iv_k (by decide) : iv 0 0 0) (by decide)) (Or.inr ⟨rfl, u36⟩) _ _ _ hP hD hS (lv_sub hl [0, 1, 2] rfl)
  refine ec_aload_n hx hb dX10_hasRightParent_0 rfl (lv_at hl 1 rfl) ?_
  refine cr_get (t := 10) (j := 6) (C := RX1) (T := TX1) (N := 19) (v := .long (lg 5 b.toNatClampNeg)) hx hb htb inX1 hown hK hP hvb (by decide) (by decide) (by decide) rfl (by decide) (htb _ kw_362) rfl dX10_hasRightParent_1 ?_
  refine lv_topl (fun z_1 ez_1 => ?_)
  refine lv_lconst (v := 0) hx hb dX10_hasRightParent_4 (by decide) ?_
  refine W.lcmp hx hb dX10_hasRightParent_5 ?_
  refine lv_topi (fun z_2 ez_2 => ?_)
  have hz_2 : iv (-1) 1 z_2 := iv_of ez_2 (iv_cmp _ _)
  refine lv_if_ne (tgt := 11) hx hb dX10_hasRightParent_6 (by decide) (fun c_3 => ?_) (fun c_3 => ?_)
  · have d_4 : ¬ (z_2 : Int32).toInt = 0 := lv_neT c_3 rfl
    refine ec_aload_n hx hb dX10_hasRightParent_11 rfl (lv_at hl 0 rfl) ?_
    refine ec_aload_n hx hb dX10_hasRightParent_12 rfl (lv_at hl 1 rfl) ?_
    refine cr_get (t := 10) (j := 6) (C := RX1) (T := TX1) (N := 19) (v := .long (lg 5 b.toNatClampNeg)) hx hb htb inX1 hown hK hP hvb (by decide) (by decide) (by decide) rfl (by decide) (htb _ kw_362) rfl dX10_hasRightParent_13 ?_
    refine lv_topl (fun z_5 ez_5 => ?_)
    refine cm_callV (t := 4) (C := RX10) (T := TX10) (N := 4) (rest := []) (as := [.long z_5]) ⟨hx, hb, hml, hown, htb⟩ (d_withId2 l dC dI ad cid a2 lx sg gm lg x z_5 hI hvx) (cwV 1 htb (gd_V kw_803 kw_804 kw_41 kw_153 kw_1502) rfl rfl rfl (by decide +kernel) ⟨Nat.le_of_ble_eq_true rfl, Nat.le_of_ble_eq_true rfl⟩) hvx (by decide) (by decide) rfl rfl hl.1 rfl (Nat.le_trans cs_n (by decide)) dX10_hasRightParent_16 ⟨Nat.le_of_ble_eq_true rfl, Nat.le_of_ble_eq_true rfl⟩ hK hP hD hS hA hG (fun E ce q9 u_7 H locs hw hP hD hS hce hcv hcl => ?_) (fun v9 u_7 H locs hw hP hD hS => ?_)
    · exact hw.elim
    obtain ⟨r_6, rfl, rfl, hr_6, fI_r_6, fD_r_6⟩ := hw
    have hP : va_P (dC, dI) vwCl (cW ad cid a2 lx sg gm lg) H := hP
    have hD : va_D A (cW ad cid a2 lx sg gm lg) := hD
    refine W.eq (g2 := F0 m 19 ls [eV (ad 10) r_6]) rfl ?_
    refine ec_astore_n (i := 2) (lv' := [(2, eV (ad 10) r_6), (0, eV (ad 4) x), (1, eV (ad 10) b)]) hx hb dX10_hasRightParent_19 rfl hl (by decide) (by simp [List.filter, eV_cat, cat_i, cat_l]) (fun ls hl => ?_)
    refine ec_aload_n hx hb dX10_hasRightParent_20 rfl (lv_at hl 0 rfl) ?_
    refine ec_ifnull (tgt := 36) hx hb dX10_hasRightParent_21 (by decide) (fun c_9 => ?_) (fun c_9 => ?_)
    · have h_10 : iv (-1) (-1) r_6 := ⟨(hr_6).1, by omega⟩
      exact hj36 r_6 (iv_w h_10 (by decide)) hvx hvb ((fun q9 => q9.elim (fun q8 => c_3 (by rw [ez_2, ez_1]; exact (lg_cmp_eq _ _).mpr q8)) (fun q8 => q8.1 (by rw [← (fD_r_6.trans (by rw [ez_5]; rfl) : r_6 = cPar sg lg b)]; exact Int32.toInt_inj.mp (show r_6.toInt = (-1 : Int32).toInt from (by have : (-1 : Int32).toInt = -1 := (by decide); have := i32_0; have := i32_1; have := i32_2; have := i32_m1; have := (hvx).1; have := (hvx).2; have := (hvb).1; have := (hvb).2; have := (hz_2).1; have := (hz_2).2; have := (h_10).1; have := (h_10).2; omega)))))) _ _ _ hP hD hS (lv_sub hl [0, 1, 2] rfl)
    · have h_11 : iv 0 79 r_6 := ⟨c_9, (hr_6).2⟩
      refine ec_aload_n hx hb dX10_hasRightParent_24 rfl (lv_at hl 1 rfl) ?_
      refine ec_aload_n hx hb dX10_hasRightParent_25 rfl (lv_at hl 0 rfl) ?_
      refine cm_callV (t := 4) (C := RX10) (T := TX10) (N := 4) (rest := []) (as := [eV (ad 10) r_6]) ⟨hx, hb, hml, hown, htb⟩ (d_comesToItself2 l dC dI ad cid a2 lx sg gm lg x r_6 hI hvx h_11) (cwV 1 htb (gd_V kw_805 kw_806 kw_42 kw_153 kw_1503) rfl rfl rfl (by decide +kernel) ⟨Nat.le_of_ble_eq_true rfl, Nat.le_of_ble_eq_true rfl⟩) hvx (by decide) (by decide) rfl rfl hl.1 rfl (Nat.le_trans cs_n (by decide)) dX10_hasRightParent_26 ⟨Nat.le_of_ble_eq_true rfl, Nat.le_of_ble_eq_true rfl⟩ hK hP hD hS hA hG (fun E ce q9 u_13 H locs hw hP hD hS hce hcv hcl => ?_) (fun v9 u_13 H locs hw hP hD hS => ?_)
      · exact hw.elim
      obtain ⟨r_12, rfl, rfl, hr_12, fC_r_12⟩ := hw
      have hP : va_P (dC, dI) vwCl (cW ad cid a2 lx sg gm lg) H := hP
      have hD : va_D A (cW ad cid a2 lx sg gm lg) := hD
      refine W.eq (g2 := F0 m 29 ls [.int r_12]) rfl ?_
      refine lv_if_ne (tgt := 36) hx hb dX10_hasRightParent_29 (by decide) (fun c_15 => ?_) (fun c_15 => ?_)
      · have h_16 : iv 1 1 r_12 := iv_neL c_15 hr_12 (by decide)
        exact hj36 r_6 (iv_w h_11 (by decide)) hvx hvb ((fun q9 => q9.elim (fun q8 => c_3 (by rw [ez_2, ez_1]; exact (lg_cmp_eq _ _).mpr q8)) (fun q8 => (fC_r_12.resolve_right (fun q7 => absurd q7.1 (by have := i32_0; have := i32_1; have := i32_2; have := i32_m1; have := (hvx).1; have := (hvx).2; have := (hvb).1; have := (hvb).2; have := (hz_2).1; have := (hz_2).2; have := (h_11).1; have := (h_11).2; have := (h_16).1; have := (h_16).2; omega))).2 (by rw [(fD_r_6.trans (by rw [ez_5]; rfl) : r_6 = cPar sg lg b)]; exact q8.2)))) _ _ _ hP hD hS (lv_sub hl [0, 1, 2] rfl)
      · have h_17 : iv 0 0 r_12 := iv_eq c_15 hr_12 (iv_k (by decide) : iv 0 0 0) (by decide)
        refine lv_iconst (v := 1) hx hb dX10_hasRightParent_32 (by decide) ?_
        refine lv_goto (tgt := 37) hx hb dX10_hasRightParent_33 (by decide) ?_
        exact hj37 r_6 1 (iv_w h_11 (by decide)) hvx hvb (iv_w (iv_k (by decide) : iv 1 1 1) (by decide)) (Or.inl ⟨rfl, Or.inr ⟨(fun q8 => by have q7 := congrArg Int32.toInt (Eq.trans (fD_r_6.trans (by rw [ez_5]; rfl) : r_6 = cPar sg lg b) q8); have : (-1 : Int32).toInt = -1 := (by decide); have := i32_0; have := i32_1; have := i32_2; have := i32_m1; have := (hvx).1; have := (hvx).2; have := (hvb).1; have := (hvb).2; have := (hz_2).1; have := (hz_2).2; have := (h_11).1; have := (h_11).2; have := (h_17).1; have := (h_17).2; omega), (by rw [← (fD_r_6.trans (by rw [ez_5]; rfl) : r_6 = cPar sg lg b)]; exact (fC_r_12.resolve_left (fun q7 => absurd q7.1 (by have := i32_0; have := i32_1; have := i32_2; have := i32_m1; have := (hvx).1; have := (hvx).2; have := (hvb).1; have := (hvb).2; have := (hz_2).1; have := (hz_2).2; have := (h_11).1; have := (h_11).2; have := (h_17).1; have := (h_17).2; omega))).2)⟩⟩) _ _ _ hP hD hS (lv_sub hl [0, 1, 2] rfl)
  · have h_18 : iv 0 0 z_2 := iv_eq c_3 hz_2 (iv_k (by decide) : iv 0 0 0) (by decide)
    refine lv_iconst (v := 1) hx hb dX10_hasRightParent_9 (by decide) ?_
    exact W.nb (fun hN => W.widen (k := 1) (n := 6) (by decide) (by decide) (vx_ret (W.zret (v := 1) hx hb hr (iv_nb (iv_w (iv_k (by decide) : iv 1 1 1) (by decide))) (fun t ht hW => ⟨⟨some (.int 1), (sg, gm, lg), rfl, ⟨1, rfl, rfl, (iv_w (iv_k (by decide) : iv 1 1 1) (by decide)), (Or.inl ⟨rfl, Or.inl (by have q8 := c_3; rw [ez_2, ez_1] at q8; exact (lg_cmp_eq _ _).mp q8)⟩)⟩, by rw [ht]; exact hP, va_K.moved hW.alike hK, hD⟩, hS.F ht, by rw [ht]; exact hN⟩) hS.2.2 dX10_hasRightParent_10)))

set_option maxHeartbeats 4000000 in
set_option maxRecDepth 100000 in
theorem d_isRightW2 (l : Launch) (dC : Nat → ClassId) (dI : Nat → Nat → Nat) (ad : Nat → Nat → Nat) (cid : Nat → ClassId) (a2 : Nat → Nat) (lx : List Nat) (sg : Nat → Int32) (gm : Nat → Nat → Int32) (lg : Nat → Nat → Int64) (x : Int32) (i : Int32) (hI : CI sg gm) (hvx : iv 0 0 x) (hvi : iv 0 79 i) : CMt dC dI ad cid a2 lx l yX10_isRight wm_X10_isRight ({ frames := 3, cells := 1, slots := 6, locals := 68 }) [eV (ad 4) x, .int i] sg gm lg (fun v u => ∃ r : Int32, v = some (.int r) ∧ u = (sg, gm, lg) ∧ (iv 0 1 r) ∧ ((r.toInt = 1 ∧ (IRW sg gm lg i.toNatClampNeg)) ∨ (r.toInt = 0 ∧ ¬ (IRW sg gm lg i.toNatClampNeg)))) (fun _ _ => False) := by
  intro sz
  refine vx_ofW (cc := cX10_isRight) (maxL := 4) (ret := (some .boolean)) (by decide) rfl ?_
  intro p e s m args below meth c s₁ B hml hxt hv
  obtain ⟨rfl, hsz, hP, hK, hD0, hG⟩ := hv
  have hx := B.exec
  have hb := B.bytes
  have hr := B.returns
  have hts := atoms_spec (ws := wm_X10_isRight) B.pre
  have htb := fun (w : Cond) (h : w ∈ tb) => hts w (List.mem_cons_of_mem _ h)
  have hown : s.vm.findClass RX10 = some m.cls := findClass_of_methodNamed B.named
  have hlocks := B.notSynchronized
  subst hsz
  have hD := hD0.self (sz := s.heap.size)
  generalize hAe : va_A (cW ad cid a2 lx sg gm lg) s.heap.size = A at hD hG ⊢
  have hA : ∀ q : Nat, s.heap.size ≤ q → A q := fun q h => by rw [← hAe]; exact Or.inr h
  have hS : va_S A s.heap s.heap [] := va_S.rf
  have hl := lv_entry ([eV (ad 4) x, .int i]) (n := 4) (by rw [show (lg_sl ([eV (ad 4) x, .int i])).length = 2 from by simp [lg_sl, eV_cat, cat_i, cat_l]]; exact Nat.le_of_ble_eq_true rfl)
  rw [lg_entry_eq]
  generalize (lg_sl ([eV (ad 4) x, .int i]) ++ List.replicate (4 - (lg_sl ([eV (ad 4) x, .int i])).length) Slot.unset).toArray = ls at hl ⊢
  have hl : lv_has ls 4 [(0, eV (ad 4) x), (1, .int i)] := by simp [lv_args, eV_cat, cat_i, cat_l] at hl; exact hl
  have hj75 : ∀ (x2_75 : Int32) (y0_75 : Int32) (_ : iv 0 79 x2_75) (_ : iv 0 0 x) (_ : iv 0 79 i) (_ : iv 0 1 y0_75) (_ : (y0_75.toInt = 1 ∧ (IRW sg gm lg i.toNatClampNeg)) ∨ (y0_75.toInt = 0 ∧ ¬ (IRW sg gm lg i.toNatClampNeg))) (H : Heap) (locs : List Loc) (ls : Array Slot), va_P (dC, dI) vwCl (cW ad cid a2 lx sg gm lg) H → va_D A (cW ad cid a2 lx sg gm lg) → va_S A s.heap H locs → lv_has ls 4 [(2, eV (ad 9) x2_75), (0, eV (ad 4) x), (1, .int i)] → W p l e (headSpec wm_X10_isRight ({ frames := 3, cells := 1, slots := 6, locals := 68 })).room s m ([eV (ad 4) x, .int i] : List Value).toArray below meth c H locs 0 0 (vx_MQ below (cQx dC dI ad cid a2 lx (fun v u => ∃ r : Int32, v = some (.int r) ∧ u = (sg, gm, lg) ∧ (iv 0 1 r) ∧ ((r.toInt = 1 ∧ (IRW sg gm lg i.toNatClampNeg)) ∨ (r.toInt = 0 ∧ ¬ (IRW sg gm lg i.toNatClampNeg)))) A) (cX dC dI ad cid a2 lx (fun _ _ => False) A) ([eV (ad 4) x, .int i] : List Value).toArray s 1 6 A) (F0 m 75 ls [.int y0_75]) := by
    intro x2_75 y0_75 hx2_75 hsx0_75 hsx1_75 hy0_75 u75 H locs ls hP hD hS hl
    exact W.nb (fun hN => W.widen (k := 1) (n := 6) (by decide) (by decide) (vx_ret (W.zret (v := y0_75) hx hb hr (iv_nb hy0_75) (fun t ht hW => ⟨⟨some (.int y0_75), (sg, gm, lg), rfl, ⟨y0_75, rfl, rfl, hy0_75, (u75)⟩, by rw [ht]; exact hP, va_K.moved hW.alike hK, hD⟩, hS.F ht, by rw [ht]; exact hN⟩) hS.2.2 dX10_isRight_75)))
  have hj70 : ∀ (x2_70 : Int32) (_ : iv 0 79 x2_70) (_ : iv 0 0 x) (_ : iv 0 79 i) (_ : IRW sg gm lg i.toNatClampNeg) (H : Heap) (locs : List Loc) (ls : Array Slot), va_P (dC, dI) vwCl (cW ad cid a2 lx sg gm lg) H → va_D A (cW ad cid a2 lx sg gm lg) → va_S A s.heap H locs → lv_has ls 4 [(2, eV (ad 9) x2_70), (0, eV (ad 4) x), (1, .int i)] → W p l e (headSpec wm_X10_isRight ({ frames := 3, cells := 1, slots := 6, locals := 68 })).room s m ([eV (ad 4) x, .int i] : List Value).toArray below meth c H locs 0 0 (vx_MQ below (cQx dC dI ad cid a2 lx (fun v u => ∃ r : Int32, v = some (.int r) ∧ u = (sg, gm, lg) ∧ (iv 0 1 r) ∧ ((r.toInt = 1 ∧ (IRW sg gm lg i.toNatClampNeg)) ∨ (r.toInt = 0 ∧ ¬ (IRW sg gm lg i.toNatClampNeg)))) A) (cX dC dI ad cid a2 lx (fun _ _ => False) A) ([eV (ad 4) x, .int i] : List Value).toArray s 1 6 A) (F0 m 70 ls []) := by
    intro x2_70 hx2_70 hsx0_70 hsx1_70 u70 H locs ls hP hD hS hl
    refine lv_iconst (v := 1) hx hb dX10_isRight_70 (by decide) ?_
    refine lv_goto (tgt := 75) hx hb dX10_isRight_71 (by decide) ?_
    exact hj75 x2_70 1 hx2_70 hsx0_70 hsx1_70 (iv_w (iv_k (by decide) : iv 1 1 1) (by decide)) (Or.inl ⟨rfl, u70⟩) _ _ _ hP hD hS (lv_sub hl [0, 1, 2] rfl)
  have hj52 : ∀ (x2_52 : Int32) (_ : iv 0 79 x2_52) (_ : iv 0 0 x) (_ : iv 0 79 i) (_ : x2_52 = i) (_ : ¬ lg 1 i.toNatClampNeg = 0 → ∀ k, k < i.toNatClampNeg → ¬ lg 1 k = lg 1 i.toNatClampNeg) (H : Heap) (locs : List Loc) (ls : Array Slot), va_P (dC, dI) vwCl (cW ad cid a2 lx sg gm lg) H → va_D A (cW ad cid a2 lx sg gm lg) → va_S A s.heap H locs → lv_has ls 4 [(2, eV (ad 9) x2_52), (0, eV (ad 4) x), (1, .int i)] → W p l e (headSpec wm_X10_isRight ({ frames := 3, cells := 1, slots := 6, locals := 68 })).room s m ([eV (ad 4) x, .int i] : List Value).toArray below meth c H locs 0 0 (vx_MQ below (cQx dC dI ad cid a2 lx (fun v u => ∃ r : Int32, v = some (.int r) ∧ u = (sg, gm, lg) ∧ (iv 0 1 r) ∧ ((r.toInt = 1 ∧ (IRW sg gm lg i.toNatClampNeg)) ∨ (r.toInt = 0 ∧ ¬ (IRW sg gm lg i.toNatClampNeg)))) A) (cX dC dI ad cid a2 lx (fun _ _ => False) A) ([eV (ad 4) x, .int i] : List Value).toArray s 1 6 A) (F0 m 52 ls []) := by
    intro x2_52 hx2_52 hsx0_52 hsx1_52 h2i u52 H locs ls hP hD hS hl
    refine ec_aload_n hx hb dX10_isRight_52 rfl (lv_at hl 0 rfl) ?_
    refine cr_get (t := 9) (j := 20) (C := RX3) (T := TX3) (N := 21) (v := eV (ad 10) (gm 27 x2_52.toNatClampNeg)) hx hb htb inX3 hown hK hP hx2_52 (by decide) (by decide) (by decide) rfl (by decide) (htb _ kw_295) rfl dX10_isRight_53 ?_
    obtain ⟨z_1, ez_1⟩ : ∃ z : Int32, z = (gm 27 x2_52.toNatClampNeg) := ⟨_, rfl⟩
    refine W.eq (g2 := F0 m 56 ls [eV (ad 10) z_1]) (by rw [ez_1]) ?_
    have hz_1 : iv (-1) 79 z_1 := iv_of ez_1 (CI_a hI 27 hx2_52 (by decide))
    refine ec_ifnull (tgt := 70) hx hb dX10_isRight_56 (by decide) (fun c_2 => ?_) (fun c_2 => ?_)
    · have h_3 : iv (-1) (-1) z_1 := ⟨(hz_1).1, by omega⟩
      exact hj70 x2_52 hx2_52 hsx0_52 hsx1_52 (⟨u52, Or.inl (by rw [← (show z_1 = gm 27 i.toNatClampNeg from (by rw [ez_1, h2i]))]; have := i32_0; have := i32_1; have := i32_2; have := i32_m1; have := (hsx0_52).1; have := (hsx0_52).2; have := (hsx1_52).1; have := (hsx1_52).2; have := (hx2_52).1; have := (hx2_52).2; have := (h_3).1; have := (h_3).2; omega)⟩) _ _ _ hP hD hS (lv_sub hl [0, 1, 2] rfl)
    · have h_4 : iv 0 79 z_1 := ⟨c_2, (hz_1).2⟩
      refine ec_aload_n hx hb dX10_isRight_59 rfl (lv_at hl 1 rfl) ?_
      refine ec_aload_n hx hb dX10_isRight_60 rfl (lv_at hl 0 rfl) ?_
      refine cr_get (t := 9) (j := 20) (C := RX3) (T := TX3) (N := 21) (v := eV (ad 10) (gm 27 x2_52.toNatClampNeg)) hx hb htb inX3 hown hK hP hx2_52 (by decide) (by decide) (by decide) rfl (by decide) (htb _ kw_295) rfl dX10_isRight_61 ?_
      refine W.eq (g2 := F0 m 64 ls [eV (ad 10) z_1, eV (ad 4) x]) (by rw [show (gm 27 x2_52.toNatClampNeg) = z_1 from ez_1.symm]) ?_
      refine cm_callV (t := 4) (C := RX10) (T := TX10) (N := 4) (rest := []) (as := [eV (ad 10) z_1]) ⟨hx, hb, hml, hown, htb⟩ (d_hasRightParent2 l dC dI ad cid a2 lx sg gm lg x z_1 hI hsx0_52 h_4) (cwV 1 htb (gd_V kw_801 kw_802 kw_40 kw_153 kw_1501) rfl rfl rfl (by decide +kernel) ⟨Nat.le_of_ble_eq_true rfl, Nat.le_of_ble_eq_true rfl⟩) hsx0_52 (by decide) (by decide) rfl rfl hl.1 rfl (Nat.le_trans cs_n (by decide)) dX10_isRight_64 ⟨Nat.le_of_ble_eq_true rfl, Nat.le_of_ble_eq_true rfl⟩ hK hP hD hS hA hG (fun E ce q9 u_6 H locs hw hP hD hS hce hcv hcl => ?_) (fun v9 u_6 H locs hw hP hD hS => ?_)
      · exact hw.elim
      obtain ⟨r_5, rfl, rfl, hr_5, fP_r_5⟩ := hw
      have hP : va_P (dC, dI) vwCl (cW ad cid a2 lx sg gm lg) H := hP
      have hD : va_D A (cW ad cid a2 lx sg gm lg) := hD
      refine W.eq (g2 := F0 m 67 ls [.int r_5]) rfl ?_
      refine lv_if_eq (tgt := 74) hx hb dX10_isRight_67 (by decide) (fun c_8 => ?_) (fun c_8 => ?_)
      · have h_9 : iv 0 0 r_5 := iv_eq c_8 hr_5 (iv_k (by decide) : iv 0 0 0) (by decide)
        refine lv_iconst (v := 0) hx hb dX10_isRight_74 (by decide) ?_
        exact hj75 x2_52 0 hx2_52 hsx0_52 hsx1_52 (iv_w (iv_k (by decide) : iv 0 0 0) (by decide)) (Or.inr ⟨rfl, fun h => h.2.elim (fun q8 => by rw [← (show z_1 = gm 27 i.toNatClampNeg from (by rw [ez_1, h2i]))] at q8; have := i32_0; have := i32_1; have := i32_2; have := i32_m1; have := (hsx0_52).1; have := (hsx0_52).2; have := (hsx1_52).1; have := (hsx1_52).2; have := (hx2_52).1; have := (hx2_52).2; have := (h_4).1; have := (h_4).2; have := (h_9).1; have := (h_9).2; omega) (fun q8 => (fP_r_5.resolve_left (fun q7 => absurd q7.1 (by have := i32_0; have := i32_1; have := i32_2; have := i32_m1; have := (hsx0_52).1; have := (hsx0_52).2; have := (hsx1_52).1; have := (hsx1_52).2; have := (hx2_52).1; have := (hx2_52).2; have := (h_4).1; have := (h_4).2; have := (h_9).1; have := (h_9).2; omega))).2 (by rw [(show z_1 = gm 27 i.toNatClampNeg from (by rw [ez_1, h2i]))]; exact q8))⟩) _ _ _ hP hD hS (lv_sub hl [0, 1, 2] rfl)
      · have h_10 : iv 1 1 r_5 := iv_neL c_8 hr_5 (by decide)
        exact hj70 x2_52 hx2_52 hsx0_52 hsx1_52 (⟨u52, Or.inr (by rw [← (show z_1 = gm 27 i.toNatClampNeg from (by rw [ez_1, h2i]))]; exact (fP_r_5.resolve_right (fun q7 => absurd q7.1 (by have := i32_0; have := i32_1; have := i32_2; have := i32_m1; have := (hsx0_52).1; have := (hsx0_52).2; have := (hsx1_52).1; have := (hsx1_52).2; have := (hx2_52).1; have := (hx2_52).2; have := (h_4).1; have := (h_4).2; have := (h_10).1; have := (h_10).2; omega))).2)⟩) _ _ _ hP hD hS (lv_sub hl [0, 1, 2] rfl)
  have hj20 : ∀ (n : Nat) (x3_20 : Int32) (x2_20 : Int32) (_ : (80 - x3_20.toInt).toNat = n) (_ : iv 0 80 x3_20) (_ : iv 0 79 x2_20) (_ : iv 0 0 x) (_ : iv 0 79 i) (_ : x2_20 = i) (_ : ¬ lg 1 i.toNatClampNeg = 0) (_ : ∀ k, k < x3_20.toNatClampNeg → ¬ lg 1 k = lg 1 i.toNatClampNeg) (H : Heap) (locs : List Loc) (ls : Array Slot), va_P (dC, dI) vwCl (cW ad cid a2 lx sg gm lg) H → va_D A (cW ad cid a2 lx sg gm lg) → va_S A s.heap H locs → lv_has ls 4 [(3, .int x3_20), (2, eV (ad 9) x2_20), (0, eV (ad 4) x), (1, .int i)] → W p l e (headSpec wm_X10_isRight ({ frames := 3, cells := 1, slots := 6, locals := 68 })).room s m ([eV (ad 4) x, .int i] : List Value).toArray below meth c H locs 0 0 (vx_MQ below (cQx dC dI ad cid a2 lx (fun v u => ∃ r : Int32, v = some (.int r) ∧ u = (sg, gm, lg) ∧ (iv 0 1 r) ∧ ((r.toInt = 1 ∧ (IRW sg gm lg i.toNatClampNeg)) ∨ (r.toInt = 0 ∧ ¬ (IRW sg gm lg i.toNatClampNeg)))) A) (cX dC dI ad cid a2 lx (fun _ _ => False) A) ([eV (ad 4) x, .int i] : List Value).toArray s 1 6 A) (F0 m 20 ls []) := by
    intro n
    induction n using Nat.strongRecOn with
    | ind n ih20 =>
      intro x3_20 x2_20 hn20 hx3_20 hx2_20 hsx0_20 hsx1_20 h2i hnz hnm H locs ls hP hD hS hl
      refine lv_iload_n hx hb dX10_isRight_20 rfl (lv_at hl 0 rfl) ?_
      refine lv_iload_n hx hb dX10_isRight_21 rfl (lv_at hl 3 rfl) ?_
      refine lv_icmp_ge (tgt := 52) hx hb dX10_isRight_22 (by decide) (fun c_11 => ?_) (fun c_11 => ?_)
      · have d_12 : (i : Int32).toInt ≤ (x3_20 : Int32).toInt := Int32.le_iff_toInt_le.mp c_11
        exact hj52 x2_20 hx2_20 hsx0_20 hsx1_20 (h2i) ((fun _ k hk => hnm k (by have k1 := iv_cl hx3_20 (by decide); have k2 := iv_cl hvi (by decide); have := i32_0; have := i32_1; have := i32_2; have := i32_m1; have := (hsx0_20).1; have := (hsx0_20).2; have := (hsx1_20).1; have := (hsx1_20).2; have := (hx3_20).1; have := (hx3_20).2; have := (hx2_20).1; have := (hx2_20).2; omega))) _ _ _ hP hD hS (lv_sub hl [1, 2, 3] rfl)
      · have d_13 : (x3_20 : Int32).toInt < (i : Int32).toInt := Int32.lt_iff_toInt_lt.mp (i32_lt c_11)
        have h_14 : iv 0 78 x3_20 := iv_ltL (i32_lt c_11) hx3_20 hsx1_20 (by decide)
        have h_15 : iv 1 79 i := iv_ltR (i32_lt c_11) hx3_20 hsx1_20 (by decide)
        refine ec_aload_n hx hb dX10_isRight_25 rfl (lv_at hl 2 rfl) ?_
        refine cr_get (t := 4) (j := 0) (C := RX10) (T := TX10) (N := 4) (v := eV (ad 1) 0) hx hb htb inX10 hown hK hP hsx0_20 (by decide) (by decide) (by decide) rfl (by decide) (htb _ kw_387) (cV_c rfl (by decide) (by rw [show cMu 4 0 = 0 from rfl, Nat.zero_mul]; rfl)) dX10_isRight_26 ?_
        refine lv_iload_n hx hb dX10_isRight_29 rfl (lv_at hl 0 rfl) ?_
        refine cm_callV (t := 1) (C := RX6) (T := TX6) (N := 8) (rest := []) (as := [.int x3_20]) ⟨hx, hb, hml, hown, htb⟩ (d_element l dC dI ad cid a2 lx sg gm lg 0 x3_20 hI (iv_k (by decide) : iv 0 0 0) (iv_w h_14 (by decide))) (cwV 1 htb (gd_V kw_750 kw_654 kw_655 kw_149 kw_1465) rfl rfl rfl (by decide +kernel) ⟨Nat.le_of_ble_eq_true rfl, Nat.le_of_ble_eq_true rfl⟩) (iv_k (by decide) : iv 0 0 0) (by decide) (by decide) rfl rfl hl.1 rfl (Nat.le_trans cs_n (by decide)) dX10_isRight_30 ⟨Nat.le_of_ble_eq_true rfl, Nat.le_of_ble_eq_true rfl⟩ hK hP hD hS hA hG (fun E ce q9 u_17 H locs hw hP hD hS hce hcv hcl => ?_) (fun v9 u_17 H locs hw hP hD hS => ?_)
        · exact hw.elim
        obtain ⟨r_16, rfl, rfl, hr_16, fr_r_16⟩ := hw
        have hP : va_P (dC, dI) vwCl (cW ad cid a2 lx sg gm lg) H := hP
        have hD : va_D A (cW ad cid a2 lx sg gm lg) := hD
        refine W.eq (g2 := F0 m 33 ls [eV (ad 9) r_16]) rfl ?_
        refine cr_get (t := 9) (j := 11) (C := RX3) (T := TX3) (N := 21) (v := .long (lg 1 r_16.toNatClampNeg)) hx hb htb inX3 hown hK hP hr_16 (by decide) (by decide) (by decide) rfl (by decide) (htb _ kw_269) rfl dX10_isRight_33 ?_
        refine lv_topl (fun z_19 ez_19 => ?_)
        refine ec_aload_n hx hb dX10_isRight_36 rfl (lv_at hl 1 rfl) ?_
        refine cr_get (t := 9) (j := 11) (C := RX3) (T := TX3) (N := 21) (v := .long (lg 1 x2_20.toNatClampNeg)) hx hb htb inX3 hown hK hP hx2_20 (by decide) (by decide) (by decide) rfl (by decide) (htb _ kw_269) rfl dX10_isRight_37 ?_
        refine lv_topl (fun z_20 ez_20 => ?_)
        refine W.lcmp hx hb dX10_isRight_40 ?_
        refine lv_topi (fun z_21 ez_21 => ?_)
        have hz_21 : iv (-1) 1 z_21 := iv_of ez_21 (iv_cmp _ _)
        refine lv_if_ne (tgt := 46) hx hb dX10_isRight_41 (by decide) (fun c_22 => ?_) (fun c_22 => ?_)
        · have d_23 : ¬ (z_21 : Int32).toInt = 0 := lv_neT c_22 rfl
          obtain ⟨z_24, ez_24⟩ : ∃ z : Int32, z = x3_20 + 1 := ⟨_, rfl⟩
          have hz_24 : iv 1 79 z_24 := iv_of ez_24 (iv_add h_14 (iv_k (by decide) : iv 1 1 1) (by decide))
          have tz_24 : z_24.toInt = x3_20.toInt + 1 := by rw [ez_24]; exact iv_addE h_14 (iv_k (by decide) : iv 1 1 1) (by decide)
          refine lv_iinc (v := z_24) (lv' := [(3, .int z_24), (2, eV (ad 9) x2_20), (0, eV (ad 4) x), (1, .int i)]) hx hb dX10_isRight_46 hl (k := 0) rfl ez_24.symm (by decide) (by simp [List.filter, eV_cat, cat_i, cat_l]) (fun ls hl => ?_)
          refine lv_goto (tgt := 20) hx hb dX10_isRight_49 (by decide) ?_
          exact ih20 _ (by rw [← hn20]; exact (iv_meas tz_24 h_14 (by decide))) z_24 x2_20 rfl (iv_w hz_24 (by decide)) hx2_20 hsx0_20 (iv_w h_15 (by decide)) (h2i) (hnz) ((fun k hk => by rw [s_cl h_14 (by decide) tz_24] at hk; by_cases hq : k = x3_20.toNatClampNeg; (rw [hq]; exact fun q8 => c_22 (by rw [ez_21, ez_19, ez_20, fr_r_16, h2i]; exact (lg_cmp_eq _ _).mpr q8)); exact hnm k (by omega))) _ _ _ hP hD hS (lv_sub hl [0, 1, 2, 3] rfl)
        · have h_25 : iv 0 0 z_21 := iv_eq c_22 hz_21 (iv_k (by decide) : iv 0 0 0) (by decide)
          refine lv_iconst (v := 0) hx hb dX10_isRight_44 (by decide) ?_
          exact W.nb (fun hN => W.widen (k := 1) (n := 6) (by decide) (by decide) (vx_ret (W.zret (v := 0) hx hb hr (iv_nb (iv_w (iv_k (by decide) : iv 0 0 0) (by decide))) (fun t ht hW => ⟨⟨some (.int 0), (sg, gm, lg), rfl, ⟨0, rfl, rfl, (iv_w (iv_k (by decide) : iv 0 0 0) (by decide)), (Or.inr ⟨rfl, fun h => h.1 hnz x3_20.toNatClampNeg (by have k1 := iv_cl h_14 (by decide); have k2 := iv_cl hvi (by decide); have := i32_0; have := i32_1; have := i32_2; have := i32_m1; have := (hsx0_20).1; have := (hsx0_20).2; have := (h_15).1; have := (h_15).2; have := (h_14).1; have := (h_14).2; have := (hx2_20).1; have := (hx2_20).2; have := (hr_16).1; have := (hr_16).2; have := (h_25).1; have := (h_25).2; omega) (by have q8 := c_22; rw [ez_21, ez_19, ez_20, fr_r_16, h2i] at q8; exact (lg_cmp_eq _ _).mp q8)⟩)⟩, by rw [ht]; exact hP, va_K.moved hW.alike hK, hD⟩, hS.F ht, by rw [ht]; exact hN⟩) hS.2.2 dX10_isRight_45)))
  refine ec_aload_n hx hb dX10_isRight_0 rfl (lv_at hl 0 rfl) ?_
  refine cr_get (t := 4) (j := 0) (C := RX10) (T := TX10) (N := 4) (v := eV (ad 1) 0) hx hb htb inX10 hown hK hP hvx (by decide) (by decide) (by decide) rfl (by decide) (htb _ kw_387) (cV_c rfl (by decide) (by rw [show cMu 4 0 = 0 from rfl, Nat.zero_mul]; rfl)) dX10_isRight_1 ?_
  refine lv_iload_n hx hb dX10_isRight_4 rfl (lv_at hl 1 rfl) ?_
  refine cm_callV (t := 1) (C := RX6) (T := TX6) (N := 8) (rest := []) (as := [.int i]) ⟨hx, hb, hml, hown, htb⟩ (d_element l dC dI ad cid a2 lx sg gm lg 0 i hI (iv_k (by decide) : iv 0 0 0) hvi) (cwV 1 htb (gd_V kw_750 kw_654 kw_655 kw_149 kw_1465) rfl rfl rfl (by decide +kernel) ⟨Nat.le_of_ble_eq_true rfl, Nat.le_of_ble_eq_true rfl⟩) (iv_k (by decide) : iv 0 0 0) (by decide) (by decide) rfl rfl hl.1 rfl (Nat.le_trans cs_n (by decide)) dX10_isRight_5 ⟨Nat.le_of_ble_eq_true rfl, Nat.le_of_ble_eq_true rfl⟩ hK hP hD hS hA hG (fun E ce q9 u_27 H locs hw hP hD hS hce hcv hcl => ?_) (fun v9 u_27 H locs hw hP hD hS => ?_)
  · exact hw.elim
  obtain ⟨r_26, rfl, rfl, hr_26, fr_r_26⟩ := hw
  have hP : va_P (dC, dI) vwCl (cW ad cid a2 lx sg gm lg) H := hP
  have hD : va_D A (cW ad cid a2 lx sg gm lg) := hD
  refine W.eq (g2 := F0 m 8 ls [eV (ad 9) r_26]) rfl ?_
  refine ec_astore_n (i := 2) (lv' := [(2, eV (ad 9) r_26), (0, eV (ad 4) x), (1, .int i)]) hx hb dX10_isRight_8 rfl hl (by decide) rfl (fun ls hl => ?_)
  refine ec_aload_n hx hb dX10_isRight_9 rfl (lv_at hl 0 rfl) ?_
  refine cr_get (t := 9) (j := 11) (C := RX3) (T := TX3) (N := 21) (v := .long (lg 1 r_26.toNatClampNeg)) hx hb htb inX3 hown hK hP hr_26 (by decide) (by decide) (by decide) rfl (by decide) (htb _ kw_269) rfl dX10_isRight_10 ?_
  refine lv_topl (fun z_29 ez_29 => ?_)
  refine lv_lconst (v := 0) hx hb dX10_isRight_13 (by decide) ?_
  refine W.lcmp hx hb dX10_isRight_14 ?_
  refine lv_topi (fun z_30 ez_30 => ?_)
  have hz_30 : iv (-1) 1 z_30 := iv_of ez_30 (iv_cmp _ _)
  refine lv_if_eq (tgt := 52) hx hb dX10_isRight_15 (by decide) (fun c_31 => ?_) (fun c_31 => ?_)
  · have h_32 : iv 0 0 z_30 := iv_eq c_31 hz_30 (iv_k (by decide) : iv 0 0 0) (by decide)
    exact hj52 r_26 hr_26 hvx hvi (fr_r_26) ((fun q9 => absurd (by have q8 := c_31; rw [ez_30, ez_29, fr_r_26] at q8; exact (lg_cmp_eq _ _).mp q8) q9)) _ _ _ hP hD hS (lv_sub hl [0, 1, 2] rfl)
  · have d_33 : ¬ (z_30 : Int32).toInt = 0 := lv_neT c_31 rfl
    refine lv_iconst (v := 0) hx hb dX10_isRight_18 (by decide) ?_
    refine lv_istore_n (i := 3) (lv' := [(3, .int 0), (2, eV (ad 9) r_26), (0, eV (ad 4) x), (1, .int i)]) hx hb dX10_isRight_19 rfl hl (by decide) (by simp [List.filter, eV_cat, cat_i, cat_l]) (fun ls hl => ?_)
    exact hj20 _ 0 r_26 rfl (iv_w (iv_k (by decide) : iv 0 0 0) (by decide)) hr_26 hvx hvi (fr_r_26) ((fun q8 => c_31 (by rw [ez_30, ez_29, fr_r_26]; exact (lg_cmp_eq _ _).mpr q8))) ((fun k hk => absurd hk (Nat.not_lt_zero _))) _ _ _ hP hD hS (lv_sub hl [0, 1, 2, 3] rfl)
end
section
/-- what settling one element leaves -/
def NMS (D : List El7) (lg lg2 : Nat → Nat → Int64) (o : Nat) : Prop := (∀ j, j ≠ o → lg2 1 j = lg 1 j) ∧ lg2 1 o = nmD D o
def BNS (D : List El7) (sg sg2 : Nat → Int32) (gm gm2 : Nat → Nat → Int32) (lg lg2 : Nat → Nat → Int64) (o : Int32) : Prop := (¬ dKd D o.toNatClampNeg = 3 ∧ sg2 12 = sg 12 ∧ lg2 4 = lg 4 ∧ lg2 5 = lg 5 ∧ gm2 27 = gm 27 ∧ gm2 29 = gm 29) ∨ (dKd D o.toNatClampNeg = 3 ∧ (sg2 12).toInt = (sg 12).toInt + 1 ∧ lg2 4 = vp_updL (lg 4) (sg 12).toNatClampNeg (nv7 (dAt D o.toNatClampNeg) 26980) ∧ lg2 5 = vp_updL (lg 5) (sg 12).toNatClampNeg (nv7 (dAt D o.toNatClampNeg) 123563833388660) ∧ gm2 27 = upd (gm 27) o.toNatClampNeg (sg 12) ∧ gm2 29 = upd (gm 29) (sg 12).toNatClampNeg o)
theorem NMS_2 {D : List El7} {lg lg2 : Nat → Nat → Int64} {o : Nat} {r : Int64} (h : lg2 1 = vp_updL (lg 1) o r) (hk : dKd D o = 2) (hr : r = nv7 (dAt D o) 29807) : NMS D lg lg2 o := by
  refine ⟨fun j hj => by rw [h]; exact vp_uLn hj, ?_⟩
  rw [h, vp_uL, hr]; unfold nmD; rw [if_pos hk]
theorem NMS_3 {D : List El7} {lg lg2 : Nat → Nat → Int64} {o : Nat} {r : Int64} (h : lg2 1 = vp_updL (lg 1) o r) (hk : dKd D o = 3) (hr : r = nv7 (dAt D o) 26980) : NMS D lg lg2 o := by
  refine ⟨fun j hj => by rw [h]; exact vp_uLn hj, ?_⟩
  rw [h, vp_uL, hr]; unfold nmD; rw [if_neg (by omega), if_pos hk]
theorem NMS_0 {D : List El7} {lg lg2 : Nat → Nat → Int64} {o : Nat} (h : lg2 1 = lg 1) (h0 : lg 1 o = 0) (h2 : ¬ dKd D o = 2) (h3 : ¬ dKd D o = 3) : NMS D lg lg2 o := by
  refine ⟨fun j _ => by rw [h], ?_⟩
  rw [h, h0]; unfold nmD; rw [if_neg h2, if_neg h3]
/-- the beans' rows of the class by the list -/
def BC7 (D : List El7) (sg : Nat → Int32) (gm : Nat → Nat → Int32) (lg : Nat → Nat → Int64) (n : Nat) : Prop := (sg 12).toInt = ((bsN D n).length : Int) ∧ (∀ b y : Nat, (bsN D n)[b]? = some y → lg 4 b = nv7 (dAt D y) 26980 ∧ lg 5 b = nv7 (dAt D y) 123563833388660 ∧ (gm 27 y).toInt = (b : Int)) ∧ (∀ y, y < n → ¬ dKd D y = 3 → (gm 27 y).toInt = -1) ∧ ∀ y, y < n → lg 1 y = nmD D y
theorem BC_0 {D : List El7} {sg : Nat → Int32} {gm : Nat → Nat → Int32} {lg : Nat → Nat → Int64} (h : (sg 12).toInt = 0) : BC7 D sg gm lg 0 := ⟨h, fun b y q => (by cases q), fun y hy => absurd hy (Nat.not_lt_zero y), fun y hy => absurd hy (Nat.not_lt_zero y)⟩
theorem BC_s {D : List El7} {sg sg2 : Nat → Int32} {gm gm2 : Nat → Nat → Int32} {lg lg2 : Nat → Nat → Int64} {o : Int32} (h12 : iv 0 79 (sg 12)) (ho : iv 0 79 o) (h : BC7 D sg gm lg o.toNatClampNeg) (hu : gm 27 o.toNatClampNeg = -1) (hN : NMS D lg lg2 o.toNatClampNeg) (hB : BNS D sg sg2 gm gm2 lg lg2 o) : BC7 D sg2 gm2 lg2 (o.toNatClampNeg + 1) := by
  have k1 := iv_cl h12 (by decide)
  have k2 := iv_cl ho (by decide)
  obtain ⟨a1, a2, a3, a4⟩ := h
  have hn1 : ∀ y, y < o.toNatClampNeg + 1 → lg2 1 y = nmD D y := fun y hy => by
    by_cases q : y = o.toNatClampNeg
    · rw [q]; exact hN.2
    · rw [hN.1 y q]; exact a4 y (by omega)
  rcases hB with ⟨b0, b1, b2, b3, b4, b5⟩ | ⟨b0, b1, b2, b3, b4, b5⟩
  · unfold BC7
    rw [bsN_f b0, b1, b2, b3, b4]
    refine ⟨a1, a2, fun y hy hk => ?_, hn1⟩
    by_cases q : y = o.toNatClampNeg
    · rw [q, hu]; decide
    · exact a3 y (by omega) hk
  · have hm : ∀ b y : Nat, (bsN D o.toNatClampNeg)[b]? = some y → b < (bsN D o.toNatClampNeg).length ∧ y < o.toNatClampNeg := fun b y q => ⟨(List.getElem?_eq_some_iff.mp q).1, ((bsN_m _ _).mp (List.mem_of_getElem? q)).1⟩
    refine ⟨by rw [b1, a1, bsN_t b0, List.length_append]; rfl, fun b y q => ?_, fun y hy hk => ?_, hn1⟩
    · rw [bsN_t b0] at q
      rcases Nat.lt_or_ge b (bsN D o.toNatClampNeg).length with w | w
      · rw [List.getElem?_append_left w] at q
        have hy := (hm b y q).2
        rw [b2, b3, b4, vp_uLn (by omega), vp_uLn (by omega), upd_ne (by omega)]
        exact a2 b y q
      · rw [List.getElem?_append_right w] at q
        have hb0 : b - (bsN D o.toNatClampNeg).length = 0 := by
          rcases Nat.eq_zero_or_pos (b - (bsN D o.toNatClampNeg).length) with z | z
          · exact z
          · rw [List.getElem?_eq_none (by show 1 ≤ _; omega)] at q; cases q
        rw [hb0] at q
        have q : some o.toNatClampNeg = some y := q
        have qy : o.toNatClampNeg = y := Option.some.inj q
        subst qy
        have hbe : b = (sg 12).toNatClampNeg := by omega
        rw [b2, b3, b4, hbe, vp_uL, vp_uL, upd_at]
        exact ⟨rfl, rfl, by omega⟩
    · by_cases q : y = o.toNatClampNeg
      · rw [q] at hk; exact absurd b0 hk
      · rw [b4, upd_ne q]; exact a3 y (by omega) hk
theorem BC_id {D : List El7} {sg : Nat → Int32} {gm : Nat → Nat → Int32} {lg : Nat → Nat → Int64} (h : BC7 D sg gm lg D.length) {b : Nat} (hb : b < nbD D) : lg 4 b = nv7 (dAt D (elD D b)) 26980 ∧ lg 5 b = nv7 (dAt D (elD D b)) 123563833388660 := by
  unfold nbD at hb
  have e : elD D b = (bsN D D.length)[b] := by unfold elD; rw [List.getElem?_eq_getElem hb]; rfl
  have q := h.2.1 b _ (List.getElem?_eq_getElem hb)
  rw [e]; exact ⟨q.1, q.2.1⟩
theorem cWid_e {D : List El7} {sg : Nat → Int32} {gm : Nat → Nat → Int32} {lg : Nat → Nat → Int64} (h : BC7 D sg gm lg D.length) (w : Int64) : cWid sg lg w = widC D w := by
  have e2 : (sg 12).toNatClampNeg = nbD D := by have := h.1; show (sg 12).toInt.toNat = (bsN D D.length).length; omega
  unfold cWid widC
  rw [e2]
  split
  · rfl
  · exact fst_c _ _ (fun k _ hk => by unfold qCr qC; rw [(BC_id h (show k < nbD D by omega)).1])
theorem cPar_e {D : List El7} {sg : Nat → Int32} {gm : Nat → Nat → Int32} {lg : Nat → Nat → Int64} (h : BC7 D sg gm lg D.length) {b : Int32} (hb : b.toNatClampNeg < nbD D) : cPar sg lg b = parC D b := by
  unfold cPar parC
  rw [cWid_e h, (BC_id h hb).2]
theorem cNR_e {D : List El7} {sg : Nat → Int32} {gm : Nat → Nat → Int32} {lg : Nat → Nat → Int64} (h : BC7 D sg gm lg D.length) (h80 : D.length ≤ 80) {b : Int32} (h0 : 0 ≤ b.toInt) (hb : b.toNatClampNeg < nbD D) : NR (cPar sg lg) b ↔ NR (parC D) b := by
  have hI : ∀ n (b : Int32), 0 ≤ b.toInt ∧ b.toNatClampNeg < nbD D → itF (cPar sg lg) n b = itF (parC D) n b := itF_c (fun b hb => cPar_e h hb.2) (fun b _ => par_r h80 b)
  unfold NR
  constructor
  · intro q k k1 k2 e; exact q k k1 k2 (by rw [hI k b ⟨h0, hb⟩]; exact e)
  · intro q k k1 k2 e; exact q k k1 k2 (by rw [← hI k b ⟨h0, hb⟩]; exact e)
/-- what the class asks of an element's wiring, by the list -/
theorem IRW_e {D : List El7} {sg : Nat → Int32} {gm : Nat → Nat → Int32} {lg : Nat → Nat → Int64} (h : BC7 D sg gm lg D.length) (h80 : D.length ≤ 80) {i : Nat} (hi : i < D.length) : IRW sg gm lg i ↔ BC1 D i := by
  obtain ⟨a1, a2, a3, a4⟩ := h
  unfold IRW BC1
  refine and_congr ?_ ?_
  · rw [a4 i hi]
    constructor
    · intro q hz k hk; rw [← a4 k (by omega)]; exact q hz k hk
    · intro q hz k hk; rw [a4 k (by omega)]; exact q hz k hk
  · by_cases hk : dKd D i = 3
    · have e := (a2 _ _ (bsN_i hi hk)).2.2
      have hl := bsN_l (D := D) i
      have hb := elD_i hi hk
      have e1 : gm 27 i = nI (bsN D i).length := Int32.toInt_inj.mp (by rw [e, nI_toInt (by omega)])
      have e2 : (nI (bsN D i).length).toNatClampNeg = (bsN D i).length := by
        have h4 : (nI (bsN D i).length).toInt = (bsN D i).length := nI_toInt (by omega)
        show (nI (bsN D i).length).toInt.toNat = _; omega
      have e3 : lg 5 (nI (bsN D i).length).toNatClampNeg = nv7 (dAt D i) 123563833388660 := by
        rw [e2]; have := (BC_id (D := D) ⟨a1, a2, a3, a4⟩ hb.2).2; rw [hb.1] at this; exact this
      have e4 := cPar_e (D := D) ⟨a1, a2, a3, a4⟩ (b := nI (bsN D i).length) (by rw [e2]; exact hb.2)
      unfold RPW
      rw [e1, e3, e4]
      have key : ¬ parC D (nI (bsN D i).length) = -1 → (NR (cPar sg lg) (parC D (nI (bsN D i).length)) ↔ NR (parC D) (parC D (nI (bsN D i).length))) := fun hn => by
        have := (par_r h80 (nI (bsN D i).length)).resolve_left hn
        exact cNR_e (D := D) ⟨a1, a2, a3, a4⟩ h80 this.1 this.2
      constructor
      · intro q _ hz
        rcases q with q | q | q
        · rw [e1] at e; omega
        · exact absurd q hz
        · exact ⟨q.1, (key q.1).mp q.2⟩
      · intro q
        by_cases hz : nv7 (dAt D i) 123563833388660 = 0
        · exact Or.inr (Or.inl hz)
        · have w := q hk hz
          exact Or.inr (Or.inr ⟨w.1, (key w.1).mpr w.2⟩)
    · exact ⟨fun _ q => absurd q hk, fun _ => Or.inl (by rw [a3 i hi hk]; decide)⟩
end
section
theorem RDC_n1 {D : List El7} {sg : Nat → Int32} {gm : Nat → Nat → Int32} {lg : Nat → Nat → Int64} (h : RDC D sg gm lg) {j : Nat} (hj : j < D.length) : lg 1 j = 0 := (h.2.2 j _ (dEl_g hj)).2.2.2.2.2.2.2.1
def ACQ (ch : Nat → Int) (n : Nat) : Prop := sDoc ch n = some (dD ch n) ∧ ACC (dD ch n)
theorem ACQ_n {ch : Nat → Int} {n : Nat} (h : sDoc ch n = none) : ¬ ACQ ch n := fun q => by have q1 := q.1; rw [h] at q1; cases q1
end
section
theorem tyN_lt (p1 p2 p3 p4 p5 : Int32) {k : Nat} : ∀ n, k < n → ¬ tyS p1 p2 p3 p4 p5 (nI k) = 0 → tyN p1 p2 p3 p4 p5 k < tyN p1 p2 p3 p4 p5 n := by
  intro n
  induction n with
  | zero => intro h; exact absurd h (Nat.not_lt_zero k)
  | succ n ih =>
    intro h hz
    show _ < tyN p1 p2 p3 p4 p5 n + (if tyS p1 p2 p3 p4 p5 (nI n) = 0 then 0 else 1)
    by_cases e : k = n
    · subst e; rw [if_neg hz]; omega
    · have := ih (by omega) hz; omega
/-- the letters typed so far stand behind what stood there -/
def TYX (p1 p2 p3 p4 p5 : Int32) (s0 : Int) (f f0 : Nat → Int32) (n : Nat) : Prop := (∀ i : Nat, (i : Int) < s0 → f i = f0 i) ∧ ∀ k, k < n → ¬ tyS p1 p2 p3 p4 p5 (nI k) = 0 → f (s0.toNat + tyN p1 p2 p3 p4 p5 k) = tyS p1 p2 p3 p4 p5 (nI k)
theorem TYX_0 {p1 p2 p3 p4 p5 : Int32} {s0 : Int} {f : Nat → Int32} : TYX p1 p2 p3 p4 p5 s0 f f 0 := ⟨fun _ _ => rfl, fun k hk => absurd hk (Nat.not_lt_zero k)⟩
theorem TYX_z {p1 p2 p3 p4 p5 x i : Int32} {s0 : Int} {f f0 : Nat → Int32} (hi : iv 0 19 i) (h : TYX p1 p2 p3 p4 p5 s0 f f0 i.toNatClampNeg) (hs : x = tyS p1 p2 p3 p4 p5 i) (hx : x = 0) : TYX p1 p2 p3 p4 p5 s0 f f0 (i.toNatClampNeg + 1) := by
  refine ⟨h.1, fun k hk hz => ?_⟩
  by_cases e : k = i.toNatClampNeg
  · rw [e, iv_nI hi (by decide), ← hs] at hz; exact absurd hx hz
  · exact h.2 k (by omega) hz
theorem TYX_p {p1 p2 p3 p4 p5 x i z : Int32} {s0 : Int} {f f0 g : Nat → Int32} (hi : iv 0 19 i) (h0 : 0 ≤ s0) (h : TYX p1 p2 p3 p4 p5 s0 f f0 i.toNatClampNeg) (hs : x = tyS p1 p2 p3 p4 p5 i) (hx : ¬ x = 0) (hz : z.toInt = s0 + (tyN p1 p2 p3 p4 p5 i.toNatClampNeg : Int)) (hg : g = upd f z.toNatClampNeg x) : TYX p1 p2 p3 p4 p5 s0 g f0 (i.toNatClampNeg + 1) := by
  have q : z.toNatClampNeg = s0.toNat + tyN p1 p2 p3 p4 p5 i.toNatClampNeg := by show z.toInt.toNat = _; omega
  rw [hg, q]
  refine ⟨fun j hj => by rw [upd_ne (by omega)]; exact h.1 j hj, fun k hk hz => ?_⟩
  by_cases e : k = i.toNatClampNeg
  · rw [e, upd_at, iv_nI hi (by decide)]; exact hs
  · have := tyN_lt p1 p2 p3 p4 p5 i.toNatClampNeg (show k < i.toNatClampNeg by omega) hz
    rw [upd_ne (by omega)]
    exact h.2 k (by omega) hz

set_option maxHeartbeats 4000000 in
set_option maxRecDepth 100000 in
theorem a_type3 (l : Launch) (dC : Nat → ClassId) (dI : Nat → Nat → Nat) (h0 : Nat) (ad : Nat → Nat) (cid : Nat → ClassId) (sg : Nat → Int32) (gm : Nat → Nat → Int32) (lg : Nat → Nat → Int64) (p1 : Int32) (p2 : Int32) (p3 : Int32) (p4 : Int32) (p5 : Int32) (hI : MI sg gm) : MMi l dC dI yX13_type wm_X13_type ({ frames := 0, cells := 0, slots := 0, locals := 0 }) h0 ad cid [.int p1, .int p2, .int p3, .int p4, .int p5] sg gm lg (fun r v => ∃ (sg2 : Nat → Int32) (gm2 : Nat → Nat → Int32) (lg2 : Nat → Nat → Int64), v = (sg2, gm2, lg2) ∧ MI sg2 gm2 ∧ KS [5, 20] sg sg2 ∧ KS [19] gm gm2 ∧ KS [] lg lg2 ∧ (r.toInt = -1 ∧ gm2 19 = gm 19 ∨ TYX p1 p2 p3 p4 p5 (sg 20).toInt (gm2 19) (gm 19) 20) ∧ (TYR p1 p2 p3 p4 p5 r (sg 20) (sg2 20))) := by
  intro sz
  refine Met.ofW (cc := cX13_type) (maxL := 10) (ret := (some .int)) (by decide) rfl ?_
  intro p e s m args below meth c s₁ B hml hv
  obtain ⟨rfl, hsz, hP, hK, hD0⟩ := hv
  have hx := B.exec
  have hb := B.bytes
  have hr := B.returns
  have hts := atoms_spec (ws := wm_X13_type) B.pre
  have htb := fun (w : Cond) (h : w ∈ tb) => hts w (List.mem_cons_of_mem _ h)
  have hown : s.vm.findClass RX13 = some m.cls := findClass_of_methodNamed B.named
  have hlocks := B.notSynchronized
  subst hsz
  have hD := hD0.self (sz := s.heap.size)
  generalize hAe : va_A (mW h0 ad cid sg gm lg) s.heap.size = A at hD ⊢
  have hA : ∀ q : Nat, s.heap.size ≤ q → A q := fun q h => by rw [← hAe]; exact Or.inr h
  have hS : va_S A s.heap s.heap [] := va_S.rf
  have hl := lv_entry ([.ref h0, .int p1, .int p2, .int p3, .int p4, .int p5]) (n := 10) (Nat.le_of_ble_eq_true rfl)
  rw [lg_entry_eq]
  generalize (lg_sl ([.ref h0, .int p1, .int p2, .int p3, .int p4, .int p5]) ++ List.replicate (10 - (lg_sl ([.ref h0, .int p1, .int p2, .int p3, .int p4, .int p5])).length) Slot.unset).toArray = ls at hl ⊢
  have hl : lv_has ls 10 [(0, .ref h0), (1, .int p1), (2, .int p2), (3, .int p3), (4, .int p4), (5, .int p5)] := hl
  have hj152 : ∀ (n : Nat) (sg_j152 : Nat → Int32) (gm_j152 : Nat → Nat → Int32) (x7_152 : Int32) (x6_152 : Int32) (_ : (20 - x7_152.toInt).toNat = n) (_ : iv 0 20 x7_152) (_ : iv 0 20 x6_152) (_ : KS [5, 20] sg sg_j152) (_ : KS [19] gm gm_j152) (_ : MI sg_j152 gm_j152) (_ : TYX p1 p2 p3 p4 p5 (sg 20).toInt (gm_j152 19) (gm 19) x7_152.toNatClampNeg) (_ : (sg_j152 20).toInt = (sg 20).toInt + (tyN p1 p2 p3 p4 p5 x7_152.toNatClampNeg : Int)) (_ : (sg 20).toInt + (tyN p1 p2 p3 p4 p5 20 : Int) ≤ 1200) (_ : TYA p1 p2 p3 p4 p5 20) (_ : TYK p1 p2 p3 p4 p5 20) (H : Heap) (locs : List Loc) (ls : Array Slot), va_P (dC, dI) vwCl (mW h0 ad cid sg_j152 gm_j152 lg) H → va_D A (mW h0 ad cid sg_j152 gm_j152 lg) → va_S A s.heap H locs → lv_has ls 10 [(7, .int x7_152), (6, .int x6_152), (0, .ref h0), (1, .int p1), (2, .int p2), (3, .int p3), (4, .int p4), (5, .int p5)] → W p l e (headSpec wm_X13_type ({ frames := 0, cells := 0, slots := 0, locals := 0 })).room s m ([.ref h0, .int p1, .int p2, .int p3, .int p4, .int p5] : List Value).toArray below meth c H locs 0 0 (MQ below (va_Qi (fun r v => ∃ (sg2 : Nat → Int32) (gm2 : Nat → Nat → Int32) (lg2 : Nat → Nat → Int64), v = (sg2, gm2, lg2) ∧ MI sg2 gm2 ∧ KS [5, 20] sg sg2 ∧ KS [19] gm gm2 ∧ KS [] lg lg2 ∧ (r.toInt = -1 ∧ gm2 19 = gm 19 ∨ TYX p1 p2 p3 p4 p5 (sg 20).toInt (gm2 19) (gm 19) 20) ∧ (TYR p1 p2 p3 p4 p5 r (sg 20) (sg2 20))) (MB dC dI h0 ad cid A) A) ([.ref h0, .int p1, .int p2, .int p3, .int p4, .int p5] : List Value).toArray s 0 0 A) (F0 m 152 ls []) := by
    intro n
    induction n using Nat.strongRecOn with
    | ind n ih152 =>
      intro sg_j152 gm_j152 x7_152 x6_152 hn152 hx7_152 hx6_152 hks_j152 hkg_j152 hI_j152 hX hz2 hle hall hok H locs ls hP hD hS hl
      have hj253 : ∀ (sg_j253 : Nat → Int32) (gm_j253 : Nat → Nat → Int32) (x9_253 : Int32) (x8_253 : Int32) (_ : iv 0 126 x9_253) (_ : iv 0 19 x7_152) (_ : iv 0 20 x6_152) (_ : KS [5, 20] sg sg_j253) (_ : KS [19] gm gm_j253) (_ : MI sg_j253 gm_j253) (_ : TYX p1 p2 p3 p4 p5 (sg 20).toInt (gm_j253 19) (gm 19) (x7_152.toNatClampNeg + 1)) (_ : (sg_j253 20).toInt = (sg 20).toInt + (tyN p1 p2 p3 p4 p5 (x7_152.toNatClampNeg + 1) : Int)) (H : Heap) (locs : List Loc) (ls : Array Slot), va_P (dC, dI) vwCl (mW h0 ad cid sg_j253 gm_j253 lg) H → va_D A (mW h0 ad cid sg_j253 gm_j253 lg) → va_S A s.heap H locs → lv_has ls 10 [(9, .int x9_253), (8, .int x8_253), (7, .int x7_152), (6, .int x6_152), (0, .ref h0), (1, .int p1), (2, .int p2), (3, .int p3), (4, .int p4), (5, .int p5)] → W p l e (headSpec wm_X13_type ({ frames := 0, cells := 0, slots := 0, locals := 0 })).room s m ([.ref h0, .int p1, .int p2, .int p3, .int p4, .int p5] : List Value).toArray below meth c H locs 0 0 (MQ below (va_Qi (fun r v => ∃ (sg2 : Nat → Int32) (gm2 : Nat → Nat → Int32) (lg2 : Nat → Nat → Int64), v = (sg2, gm2, lg2) ∧ MI sg2 gm2 ∧ KS [5, 20] sg sg2 ∧ KS [19] gm gm2 ∧ KS [] lg lg2 ∧ (r.toInt = -1 ∧ gm2 19 = gm 19 ∨ TYX p1 p2 p3 p4 p5 (sg 20).toInt (gm2 19) (gm 19) 20) ∧ (TYR p1 p2 p3 p4 p5 r (sg 20) (sg2 20))) (MB dC dI h0 ad cid A) A) ([.ref h0, .int p1, .int p2, .int p3, .int p4, .int p5] : List Value).toArray s 0 0 A) (F0 m 253 ls []) := by
        intro sg_j253 gm_j253 x9_253 x8_253 hx9_253 hsx7_253 hsx6_253 hks_j253 hkg_j253 hI_j253 hX hz3 H locs ls hP hD hS hl
        obtain ⟨z_1, ez_1⟩ : ∃ z : Int32, z = x7_152 + 1 := ⟨_, rfl⟩
        have hz_1 : iv 1 20 z_1 := iv_of ez_1 (iv_add hsx7_253 (iv_k (by decide) : iv 1 1 1) (by decide))
        have tz_1 : z_1.toInt = x7_152.toInt + 1 := by rw [ez_1]; exact iv_addE hsx7_253 (iv_k (by decide) : iv 1 1 1) (by decide)
        refine lv_iinc (v := z_1) (lv' := [(7, .int z_1), (9, .int x9_253), (8, .int x8_253), (6, .int x6_152), (0, .ref h0), (1, .int p1), (2, .int p2), (3, .int p3), (4, .int p4), (5, .int p5)]) hx hb dX13_type_253 hl (k := 2) rfl ez_1.symm (by decide) rfl (fun ls hl => ?_)
        refine lv_goto (tgt := 152) hx hb dX13_type_256 (by decide) ?_
        exact ih152 _ (by rw [← hn152]; exact (iv_meas tz_1 hsx7_253 (by decide))) sg_j253 gm_j253 z_1 x6_152 rfl (iv_w hz_1 (by decide)) hsx6_253 (KS_tr (L := [5, 20]) KS_rf hks_j253 (by decide)) (KS_tr (L := [19]) KS_rf hkg_j253 (by decide)) hI_j253 (by rw [cl_s hsx7_253 tz_1]; exact hX) (by rw [cl_s hsx7_253 tz_1]; exact hz3) (hle) (hall) (hok) _ _ _ hP hD hS (lv_sub hl [0, 3, 4, 5, 6, 7, 8, 9] rfl)
      have hj205 : ∀ (sg_j205 : Nat → Int32) (gm_j205 : Nat → Nat → Int32) (y0_205 : Int32) (_ : iv 0 19 x7_152) (_ : iv 0 20 x6_152) (_ : KS [5, 20] sg sg_j205) (_ : KS [19] gm gm_j205) (_ : MI sg_j205 gm_j205) (_ : TYX p1 p2 p3 p4 p5 (sg 20).toInt (gm_j205 19) (gm 19) x7_152.toNatClampNeg) (_ : y0_205 = tyW p1 p2 p3 p4 p5 x7_152.toInt) (_ : (sg_j205 20).toInt = (sg 20).toInt + (tyN p1 p2 p3 p4 p5 x7_152.toNatClampNeg : Int)) (H : Heap) (locs : List Loc) (ls : Array Slot), va_P (dC, dI) vwCl (mW h0 ad cid sg_j205 gm_j205 lg) H → va_D A (mW h0 ad cid sg_j205 gm_j205 lg) → va_S A s.heap H locs → lv_has ls 10 [(7, .int x7_152), (6, .int x6_152), (0, .ref h0), (1, .int p1), (2, .int p2), (3, .int p3), (4, .int p4), (5, .int p5)] → W p l e (headSpec wm_X13_type ({ frames := 0, cells := 0, slots := 0, locals := 0 })).room s m ([.ref h0, .int p1, .int p2, .int p3, .int p4, .int p5] : List Value).toArray below meth c H locs 0 0 (MQ below (va_Qi (fun r v => ∃ (sg2 : Nat → Int32) (gm2 : Nat → Nat → Int32) (lg2 : Nat → Nat → Int64), v = (sg2, gm2, lg2) ∧ MI sg2 gm2 ∧ KS [5, 20] sg sg2 ∧ KS [19] gm gm2 ∧ KS [] lg lg2 ∧ (r.toInt = -1 ∧ gm2 19 = gm 19 ∨ TYX p1 p2 p3 p4 p5 (sg 20).toInt (gm2 19) (gm 19) 20) ∧ (TYR p1 p2 p3 p4 p5 r (sg 20) (sg2 20))) (MB dC dI h0 ad cid A) A) ([.ref h0, .int p1, .int p2, .int p3, .int p4, .int p5] : List Value).toArray s 0 0 A) (F0 m 205 ls [.int y0_205]) := by
        intro sg_j205 gm_j205 y0_205 hsx7_205 hsx6_205 hks_j205 hkg_j205 hI_j205 hX hw hz2 H locs ls hP hD hS hl
        refine lv_istore (lv' := [(8, .int y0_205), (7, .int x7_152), (6, .int x6_152), (0, .ref h0), (1, .int p1), (2, .int p2), (3, .int p3), (4, .int p4), (5, .int p5)]) hx hb dX13_type_205 hl (by decide) rfl (fun ls hl => ?_)
        refine lv_iload hx hb dX13_type_207 (lv_at hl 0 rfl) ?_
        refine lv_bipush (v := 24) hx hb dX13_type_209 (by decide) ?_
        refine lv_bipush (v := 8) hx hb dX13_type_211 (by decide) ?_
        refine lv_iload hx hb dX13_type_213 (lv_at hl 1 rfl) ?_
        refine lv_iconst (v := 4) hx hb dX13_type_215 (by decide) ?_
        refine lv_irem hx hb dX13_type_216 (by decide) ?_
        refine lv_topi (fun z_2 ez_2 => ?_)
        have hz_2 : iv 0 3 z_2 := iv_of ez_2 (iv_rem hsx7_205 (by decide) (by decide))
        refine lv_imul hx hb dX13_type_217 ?_
        refine lv_topi (fun z_3 ez_3 => ?_)
        have hz_3 : iv 0 24 z_3 := iv_of ez_3 (iv_mul (iv_k (by decide) : iv 8 8 8) hz_2 (by decide))
        have tz_3 : z_3.toInt = 8 * (z_2 : Int32).toInt := by rw [ez_3]; exact iv_mulE (iv_k (by decide) : iv 8 8 8) hz_2 (by decide)
        refine lv_isub hx hb dX13_type_218 ?_
        refine lv_topi (fun z_4 ez_4 => ?_)
        have hz_4 : iv 0 24 z_4 := iv_of ez_4 (iv_sub (iv_k (by decide) : iv 24 24 24) hz_3 (by decide))
        have tz_4 : z_4.toInt = 24 - (z_3 : Int32).toInt := by rw [ez_4]; exact iv_subE (iv_k (by decide) : iv 24 24 24) hz_3 (by decide)
        refine lv_ishr hx hb dX13_type_219 ?_
        refine lv_topi (fun z_5 ez_5 => ?_)
        refine lv_sipush (v := 255) hx hb dX13_type_220 (by decide) ?_
        refine lv_iand hx hb dX13_type_223 ?_
        refine lv_topi (fun z_6 ez_6 => ?_)
        have hz_6 : iv 0 255 z_6 := iv_of ez_6 (iv_255 _)
        have hs : z_6 = tyS p1 p2 p3 p4 p5 x7_152 := by unfold tyS; rw [ez_6, ez_5, ez_4, ez_3, ez_2, hw]
        refine lv_istore (lv' := [(9, .int z_6), (8, .int y0_205), (7, .int x7_152), (6, .int x6_152), (0, .ref h0), (1, .int p1), (2, .int p2), (3, .int p3), (4, .int p4), (5, .int p5)]) hx hb dX13_type_224 hl (by decide) rfl (fun ls hl => ?_)
        refine lv_iload hx hb dX13_type_226 (lv_at hl 0 rfl) ?_
        refine lv_if_eq (tgt := 253) hx hb dX13_type_228 (by decide) (fun c_7 => ?_) (fun c_7 => ?_)
        · have h_8 : iv 0 0 z_6 := iv_eq c_7 hz_6 (iv_k (by decide) : iv 0 0 0) (by decide)
          exact hj253 sg_j205 gm_j205 z_6 y0_205 (iv_w h_8 (by decide)) hsx7_205 hsx6_205 (KS_tr (L := [5, 20]) KS_rf hks_j205 (by decide)) (KS_tr (L := [19]) KS_rf hkg_j205 (by decide)) hI_j205 ((TYX_z hsx7_205 hX hs c_7)) (by rw [ty_0 hsx7_205 hs c_7]; exact hz2) _ _ _ hP hD hS (lv_sub hl [0, 1, 2, 3, 4, 5, 6, 7, 8, 9] rfl)
        · have h_9 : iv 1 255 z_6 := iv_neL c_7 hz_6 (by decide)
          have hx9 : iv 1 126 z_6 := ⟨(h_9).1, ty_in hsx7_205 hall hs⟩
          obtain ⟨k91, k92⟩ := ty_1 hsx7_205 hs c_7
          have hsz : iv 0 1199 (sg_j205 20) := ⟨(show iv 0 1200 (sg_j205 20) from MI_s hI_j205 20).1, by omega⟩
          refine lv_aload_n hx hb dX13_type_231 rfl (lv_at hl 4 rfl) ?_
          refine mr_get (v := .ref (ad 19)) hx hb htb inX13 hown hK hP 19 (by decide) (htb _ kw_1046) rfl dX13_type_232 ?_
          refine lv_aload_n hx hb dX13_type_235 rfl (lv_at hl 4 rfl) ?_
          refine mr_get (v := .int (sg_j205 20)) hx hb htb inX13 hown hK hP 20 (by decide) (htb _ kw_1047) rfl dX13_type_236 ?_
          refine lv_iload hx hb dX13_type_239 (lv_at hl 0 rfl) ?_
          refine lv_i2b (v := (z_6 : Int32).toInt8.toInt32) hx hb dX13_type_241 rfl ?_
          refine lv_topi (fun z_10 ez_10 => ?_)
          have hz_10 : iv (-128) 127 z_10 := iv_of ez_10 (iv_byte _)
          have fz_10 : z_6 = z_10 := (ez_10.trans ((vp_nar_byte _).symm.trans (iv_vbz hx9 (by decide)))).symm
          subst fz_10
          refine ma_bast (x := z_6) hx hb hK hP hD hS 18 (k := 19) rfl rfl rfl (show vp_in (sg_j205 20) 1200 from (iv_in hsz (by decide))) dX13_type_242 (fun gm_11 H locs egm_11 hP hD hS => ?_)
          have hI_gm_11 := MI_st hI_j205 egm_11 (iv_of (iv_vbz hx9 (by decide)) hx9) (by decide)
          refine lv_aload_n hx hb dX13_type_243 rfl (lv_at hl 4 rfl) ?_
          refine lv_dup hx hb dX13_type_244 rfl ?_
          refine mr_get (v := .int (sg_j205 20)) hx hb htb inX13 hown hK hP 20 (by decide) (htb _ kw_1047) rfl dX13_type_245 ?_
          refine lv_iconst (v := 1) hx hb dX13_type_248 (by decide) ?_
          refine lv_iadd hx hb dX13_type_249 ?_
          refine lv_topi (fun z_12 ez_12 => ?_)
          have hz_12 : iv 1 1200 z_12 := iv_of ez_12 (iv_add hsz (iv_k (by decide) : iv 1 1 1) (by decide))
          have tz_12 : z_12.toInt = ((sg_j205 20) : Int32).toInt + 1 := by rw [ez_12]; exact iv_addE hsz (iv_k (by decide) : iv 1 1 1) (by decide)
          refine ma_put (x := z_12) hx hb htb inX13 hown hK hP hD hS 20 (by decide) (by decide) (htb _ kw_1047) rfl rfl rfl dX13_type_250 (fun sg_13 H locs esg_13 hP hD hS => ?_)
          have hI_sg_13 := MI_put hI_gm_11 esg_13 hz_12 (by decide)
          exact hj253 sg_13 gm_11 z_6 y0_205 (iv_w hx9 (by decide)) hsx7_205 hsx6_205 (KS_up (KS_tr (L := [5, 20]) KS_rf hks_j205 (by decide)) esg_13 (by decide)) (KS_up (KS_tr (L := [19]) KS_rf hkg_j205 (by decide)) egm_11 (by decide)) hI_sg_13 ((TYX_p (z := sg_j205 20) hsx7_205 (show iv 0 1200 (sg 20) from MI_s hI 20).1 hX hs c_7 hz2 ((show gm_11 19 = upd (gm_j205 19) (sg_j205 20).toNatClampNeg (vp_nar .byte z_6) from up_at egm_11).trans (by rw [iv_vbz hx9 (by decide)])))) (by have := i32_0; have := i32_1; have := i32_2; have := i32_m1; have := congrArg Int32.toInt (show sg_13 20 = z_12 from up_at esg_13); have := (hz_12).1; have := (hz_12).2; have := (show iv 0 1200 (sg_j152 20) from MI_s hI_j152 20).1; have := (show iv 0 1200 (sg_j152 20) from MI_s hI_j152 20).2; have := (hsx7_205).1; have := (hsx7_205).2; have := (hsx6_205).1; have := (hsx6_205).2; have := (hz_2).1; have := (hz_2).2; have := (hz_3).1; have := (hz_3).2; have := (hz_4).1; have := (hz_4).2; have := (hx9).1; have := (hx9).2; have := (hsz).1; have := (hsz).2; have := (hz_10).1; have := (hz_10).2; omega) _ _ _ hP hD hS (lv_sub hl [0, 1, 2, 3, 4, 5, 6, 7, 8, 9] rfl)
      refine lv_iload hx hb dX13_type_152 (lv_at hl 0 rfl) ?_
      refine lv_bipush (v := 20) hx hb dX13_type_154 (by decide) ?_
      refine lv_icmp_ge (tgt := 259) hx hb dX13_type_156 (by decide) (fun c_14 => ?_) (fun c_14 => ?_)
      · have h_15 : iv 20 20 x7_152 := iv_leR c_14 (iv_k (by decide) : iv 20 20 20) hx7_152 (by decide)
        refine lv_aload_n hx hb dX13_type_259 rfl (lv_at hl 2 rfl) ?_
        refine mr_get (v := .int (sg_j152 20)) hx hb htb inX13 hown hK hP 20 (by decide) (htb _ kw_1047) rfl dX13_type_260 ?_
        exact W.iret (v := (sg_j152 20)) hx hb hr (fun t ht hW => ⟨⟨(sg_j152 20), (sg_j152, gm_j152, lg), rfl, ⟨sg_j152, gm_j152, lg, rfl, hI_j152, (KS_tr (L := [5, 20]) KS_rf hks_j152 (by decide)), (KS_tr (L := [19]) KS_rf hkg_j152 (by decide)), KS_rf, (Or.inr (by have q9 : x7_152.toNatClampNeg = 20 := (by have := iv_cl h_15 (by decide); have := (h_15).1; have := (h_15).2; omega); rw [q9] at hX; exact hX)), (Or.inr ⟨(by { have q9 : x7_152.toNatClampNeg = 20 := by { have := iv_cl h_15 (by decide); have := (h_15).1; have := (h_15).2; omega }; rw [q9] at hz2; exact hz2 }), hok, hle, rfl⟩)⟩, by rw [ht]; exact hP, va_K.moved hW.alike hK, hD⟩, hS.F ht⟩) hS.2.2 dX13_type_263
      · have h_16 : iv 0 19 x7_152 := iv_ltL (i32_lt c_14) hx7_152 (iv_k (by decide) : iv 20 20 20) (by decide)
        refine lv_iload hx hb dX13_type_159 (lv_at hl 0 rfl) ?_
        refine lv_iconst (v := 4) hx hb dX13_type_161 (by decide) ?_
        refine lv_icmp_ge (tgt := 169) hx hb dX13_type_162 (by decide) (fun c_17 => ?_) (fun c_17 => ?_)
        · have h_18 : iv 4 19 x7_152 := iv_leR c_17 (iv_k (by decide) : iv 4 4 4) h_16 (by decide)
          refine lv_iload hx hb dX13_type_169 (lv_at hl 0 rfl) ?_
          refine lv_bipush (v := 8) hx hb dX13_type_171 (by decide) ?_
          refine lv_icmp_ge (tgt := 180) hx hb dX13_type_173 (by decide) (fun c_19 => ?_) (fun c_19 => ?_)
          · have h_20 : iv 8 19 x7_152 := iv_leR c_19 (iv_k (by decide) : iv 8 8 8) h_18 (by decide)
            refine lv_iload hx hb dX13_type_180 (lv_at hl 0 rfl) ?_
            refine lv_bipush (v := 12) hx hb dX13_type_182 (by decide) ?_
            refine lv_icmp_ge (tgt := 191) hx hb dX13_type_184 (by decide) (fun c_21 => ?_) (fun c_21 => ?_)
            · have h_22 : iv 12 19 x7_152 := iv_leR c_21 (iv_k (by decide) : iv 12 12 12) h_20 (by decide)
              refine lv_iload hx hb dX13_type_191 (lv_at hl 0 rfl) ?_
              refine lv_bipush (v := 16) hx hb dX13_type_193 (by decide) ?_
              refine lv_icmp_ge (tgt := 203) hx hb dX13_type_195 (by decide) (fun c_23 => ?_) (fun c_23 => ?_)
              · have h_24 : iv 16 19 x7_152 := iv_leR c_23 (iv_k (by decide) : iv 16 16 16) h_22 (by decide)
                refine lv_iload hx hb dX13_type_203 (lv_at hl 7 rfl) ?_
                exact hj205 sg_j152 gm_j152 p5 (iv_w h_24 (by decide)) hx6_152 (KS_tr (L := [5, 20]) KS_rf hks_j152 (by decide)) (KS_tr (L := [19]) KS_rf hkg_j152 (by decide)) hI_j152 (hX) (by have := (h_24).1; have := (h_24).2; unfold tyW; repeat (first | rw [if_pos (by omega)] | rw [if_neg (by omega)])) (hz2) _ _ _ hP hD hS (lv_sub hl [0, 1, 2, 3, 4, 5, 6, 7] rfl)
              · have h_25 : iv 12 15 x7_152 := iv_ltL (i32_lt c_23) h_22 (iv_k (by decide) : iv 16 16 16) (by decide)
                refine lv_iload hx hb dX13_type_198 (lv_at hl 6 rfl) ?_
                refine lv_goto (tgt := 205) hx hb dX13_type_200 (by decide) ?_
                exact hj205 sg_j152 gm_j152 p4 (iv_w h_25 (by decide)) hx6_152 (KS_tr (L := [5, 20]) KS_rf hks_j152 (by decide)) (KS_tr (L := [19]) KS_rf hkg_j152 (by decide)) hI_j152 (hX) (by have := (h_25).1; have := (h_25).2; unfold tyW; repeat (first | rw [if_pos (by omega)] | rw [if_neg (by omega)])) (hz2) _ _ _ hP hD hS (lv_sub hl [0, 1, 2, 3, 4, 5, 6, 7] rfl)
            · have h_26 : iv 8 11 x7_152 := iv_ltL (i32_lt c_21) h_20 (iv_k (by decide) : iv 12 12 12) (by decide)
              refine lv_iload_n hx hb dX13_type_187 rfl (lv_at hl 5 rfl) ?_
              refine lv_goto (tgt := 205) hx hb dX13_type_188 (by decide) ?_
              exact hj205 sg_j152 gm_j152 p3 (iv_w h_26 (by decide)) hx6_152 (KS_tr (L := [5, 20]) KS_rf hks_j152 (by decide)) (KS_tr (L := [19]) KS_rf hkg_j152 (by decide)) hI_j152 (hX) (by have := (h_26).1; have := (h_26).2; unfold tyW; repeat (first | rw [if_pos (by omega)] | rw [if_neg (by omega)])) (hz2) _ _ _ hP hD hS (lv_sub hl [0, 1, 2, 3, 4, 5, 6, 7] rfl)
          · have h_27 : iv 4 7 x7_152 := iv_ltL (i32_lt c_19) h_18 (iv_k (by decide) : iv 8 8 8) (by decide)
            refine lv_iload_n hx hb dX13_type_176 rfl (lv_at hl 4 rfl) ?_
            refine lv_goto (tgt := 205) hx hb dX13_type_177 (by decide) ?_
            exact hj205 sg_j152 gm_j152 p2 (iv_w h_27 (by decide)) hx6_152 (KS_tr (L := [5, 20]) KS_rf hks_j152 (by decide)) (KS_tr (L := [19]) KS_rf hkg_j152 (by decide)) hI_j152 (hX) (by have := (h_27).1; have := (h_27).2; unfold tyW; repeat (first | rw [if_pos (by omega)] | rw [if_neg (by omega)])) (hz2) _ _ _ hP hD hS (lv_sub hl [0, 1, 2, 3, 4, 5, 6, 7] rfl)
        · have h_28 : iv 0 3 x7_152 := iv_ltL (i32_lt c_17) h_16 (iv_k (by decide) : iv 4 4 4) (by decide)
          refine lv_iload_n hx hb dX13_type_165 rfl (lv_at hl 3 rfl) ?_
          refine lv_goto (tgt := 205) hx hb dX13_type_166 (by decide) ?_
          exact hj205 sg_j152 gm_j152 p1 (iv_w h_28 (by decide)) hx6_152 (KS_tr (L := [5, 20]) KS_rf hks_j152 (by decide)) (KS_tr (L := [19]) KS_rf hkg_j152 (by decide)) hI_j152 (hX) (by have := (h_28).1; have := (h_28).2; unfold tyW; repeat (first | rw [if_pos (by omega)] | rw [if_neg (by omega)])) (hz2) _ _ _ hP hD hS (lv_sub hl [0, 1, 2, 3, 4, 5, 6, 7] rfl)
  have hj111 : ∀ (sg_j111 : Nat → Int32) (x9_111 : Int32) (x8_111 : Int32) (x7_111 : Int32) (x6_111 : Int32) (_ : iv 1 255 x9_111) (_ : iv 0 19 x7_111) (_ : iv 0 20 x6_111) (_ : KS [5] sg sg_j111) (_ : MI sg_j111 gm) (_ : ¬ TYK p1 p2 p3 p4 p5 20) (H : Heap) (locs : List Loc) (ls : Array Slot), va_P (dC, dI) vwCl (mW h0 ad cid sg_j111 gm lg) H → va_D A (mW h0 ad cid sg_j111 gm lg) → va_S A s.heap H locs → lv_has ls 10 [(9, .int x9_111), (8, .int x8_111), (7, .int x7_111), (6, .int x6_111), (0, .ref h0), (1, .int p1), (2, .int p2), (3, .int p3), (4, .int p4), (5, .int p5)] → W p l e (headSpec wm_X13_type ({ frames := 0, cells := 0, slots := 0, locals := 0 })).room s m ([.ref h0, .int p1, .int p2, .int p3, .int p4, .int p5] : List Value).toArray below meth c H locs 0 0 (MQ below (va_Qi (fun r v => ∃ (sg2 : Nat → Int32) (gm2 : Nat → Nat → Int32) (lg2 : Nat → Nat → Int64), v = (sg2, gm2, lg2) ∧ MI sg2 gm2 ∧ KS [5, 20] sg sg2 ∧ KS [19] gm gm2 ∧ KS [] lg lg2 ∧ (r.toInt = -1 ∧ gm2 19 = gm 19 ∨ TYX p1 p2 p3 p4 p5 (sg 20).toInt (gm2 19) (gm 19) 20) ∧ (TYR p1 p2 p3 p4 p5 r (sg 20) (sg2 20))) (MB dC dI h0 ad cid A) A) ([.ref h0, .int p1, .int p2, .int p3, .int p4, .int p5] : List Value).toArray s 0 0 A) (F0 m 111 ls []) := by
    intro sg_j111 x9_111 x8_111 x7_111 x6_111 hx9_111 hx7_111 hx6_111 hks_j111 hI_j111 hbad H locs ls hP hD hS hl
    refine lv_iconst (v := (-1)) hx hb dX13_type_111 (by decide) ?_
    exact W.iret (v := (-1)) hx hb hr (fun t ht hW => ⟨⟨(-1), (sg_j111, gm, lg), rfl, ⟨sg_j111, gm, lg, rfl, hI_j111, (KS_tr (L := [5, 20]) KS_rf hks_j111 (by decide)), KS_rf, KS_rf, (Or.inl ⟨rfl, rfl⟩), (Or.inl ⟨rfl, Or.inl hbad, (show sg_j111 20 = sg 20 from (hks_j111 20 (by decide)))⟩)⟩, by rw [ht]; exact hP, va_K.moved hW.alike hK, hD⟩, hS.F ht⟩) hS.2.2 dX13_type_112
  have hj11 : ∀ (n : Nat) (sg_j11 : Nat → Int32) (x7_11 : Int32) (x6_11 : Int32) (_ : (20 - x7_11.toInt).toNat = n) (_ : iv 0 20 x7_11) (_ : iv 0 20 x6_11) (_ : KS [5] sg sg_j11) (_ : MI sg_j11 gm) (_ : x6_11.toInt = (tyN p1 p2 p3 p4 p5 x7_11.toNatClampNeg : Int)) (_ : TYA p1 p2 p3 p4 p5 x7_11.toNatClampNeg) (_ : TYK p1 p2 p3 p4 p5 x7_11.toNatClampNeg) (H : Heap) (locs : List Loc) (ls : Array Slot), va_P (dC, dI) vwCl (mW h0 ad cid sg_j11 gm lg) H → va_D A (mW h0 ad cid sg_j11 gm lg) → va_S A s.heap H locs → lv_has ls 10 [(7, .int x7_11), (6, .int x6_11), (0, .ref h0), (1, .int p1), (2, .int p2), (3, .int p3), (4, .int p4), (5, .int p5)] → W p l e (headSpec wm_X13_type ({ frames := 0, cells := 0, slots := 0, locals := 0 })).room s m ([.ref h0, .int p1, .int p2, .int p3, .int p4, .int p5] : List Value).toArray below meth c H locs 0 0 (MQ below (va_Qi (fun r v => ∃ (sg2 : Nat → Int32) (gm2 : Nat → Nat → Int32) (lg2 : Nat → Nat → Int64), v = (sg2, gm2, lg2) ∧ MI sg2 gm2 ∧ KS [5, 20] sg sg2 ∧ KS [19] gm gm2 ∧ KS [] lg lg2 ∧ (r.toInt = -1 ∧ gm2 19 = gm 19 ∨ TYX p1 p2 p3 p4 p5 (sg 20).toInt (gm2 19) (gm 19) 20) ∧ (TYR p1 p2 p3 p4 p5 r (sg 20) (sg2 20))) (MB dC dI h0 ad cid A) A) ([.ref h0, .int p1, .int p2, .int p3, .int p4, .int p5] : List Value).toArray s 0 0 A) (F0 m 11 ls []) := by
    intro n
    induction n using Nat.strongRecOn with
    | ind n ih11 =>
      intro sg_j11 x7_11 x6_11 hn11 hx7_11 hx6_11 hks_j11 hI_j11 hn hall hok H locs ls hP hD hS hl
      have hj125 : ∀ (sg_j125 : Nat → Int32) (x9_125 : Int32) (x8_125 : Int32) (y0_125 : Int32) (_ : iv 0 126 x9_125) (_ : iv 0 19 x7_11) (_ : iv 0 20 x6_11) (_ : iv 0 1 y0_125) (_ : iv 0 20 x6_11) (_ : KS [5] sg sg_j125) (_ : MI sg_j125 gm) (_ : x9_125 = tyS p1 p2 p3 p4 p5 x7_11) (_ : x9_125.toInt ≤ 126) (_ : (x9_125 = 0 ∧ y0_125 = 0) ∨ (¬ x9_125 = 0 ∧ y0_125 = 1)) (_ : (x9_125.toInt = 0 ∨ x9_125.toInt = 10 ∨ 32 ≤ x9_125.toInt ∧ x9_125.toInt ≤ 126)) (H : Heap) (locs : List Loc) (ls : Array Slot), va_P (dC, dI) vwCl (mW h0 ad cid sg_j125 gm lg) H → va_D A (mW h0 ad cid sg_j125 gm lg) → va_S A s.heap H locs → lv_has ls 10 [(9, .int x9_125), (8, .int x8_125), (7, .int x7_11), (6, .int x6_11), (0, .ref h0), (1, .int p1), (2, .int p2), (3, .int p3), (4, .int p4), (5, .int p5)] → W p l e (headSpec wm_X13_type ({ frames := 0, cells := 0, slots := 0, locals := 0 })).room s m ([.ref h0, .int p1, .int p2, .int p3, .int p4, .int p5] : List Value).toArray below meth c H locs 0 0 (MQ below (va_Qi (fun r v => ∃ (sg2 : Nat → Int32) (gm2 : Nat → Nat → Int32) (lg2 : Nat → Nat → Int64), v = (sg2, gm2, lg2) ∧ MI sg2 gm2 ∧ KS [5, 20] sg sg2 ∧ KS [19] gm gm2 ∧ KS [] lg lg2 ∧ (r.toInt = -1 ∧ gm2 19 = gm 19 ∨ TYX p1 p2 p3 p4 p5 (sg 20).toInt (gm2 19) (gm 19) 20) ∧ (TYR p1 p2 p3 p4 p5 r (sg 20) (sg2 20))) (MB dC dI h0 ad cid A) A) ([.ref h0, .int p1, .int p2, .int p3, .int p4, .int p5] : List Value).toArray s 0 0 A) (F0 m 125 ls [.int y0_125, .int x6_11]) := by
        intro sg_j125 x9_125 x8_125 y0_125 hx9_125 hsx7_125 hsx6_125 hy0_125 hsy1_125 hks_j125 hI_j125 hs h126 ht hk H locs ls hP hD hS hl
        refine lv_iadd hx hb dX13_type_125 ?_
        refine lv_topi (fun z_29 ez_29 => ?_)
        have hz_29 : iv 0 21 z_29 := iv_of ez_29 (iv_add hsy1_125 hy0_125 (by decide))
        have tz_29 : z_29.toInt = (x6_11 : Int32).toInt + (y0_125 : Int32).toInt := by rw [ez_29]; exact iv_addE hsy1_125 hy0_125 (by decide)
        obtain ⟨hn9, hz9⟩ := ty_z hsx7_125 tz_29 hn hs ht
        refine lv_istore (lv' := [(6, .int z_29), (9, .int x9_125), (8, .int x8_125), (7, .int x7_11), (0, .ref h0), (1, .int p1), (2, .int p2), (3, .int p3), (4, .int p4), (5, .int p5)]) hx hb dX13_type_126 hl (by decide) rfl (fun ls hl => ?_)
        obtain ⟨z_30, ez_30⟩ : ∃ z : Int32, z = x7_11 + 1 := ⟨_, rfl⟩
        have hz_30 : iv 1 20 z_30 := iv_of ez_30 (iv_add hsx7_125 (iv_k (by decide) : iv 1 1 1) (by decide))
        have tz_30 : z_30.toInt = x7_11.toInt + 1 := by rw [ez_30]; exact iv_addE hsx7_125 (iv_k (by decide) : iv 1 1 1) (by decide)
        refine lv_iinc (v := z_30) (lv' := [(7, .int z_30), (6, .int z_29), (9, .int x9_125), (8, .int x8_125), (0, .ref h0), (1, .int p1), (2, .int p2), (3, .int p3), (4, .int p4), (5, .int p5)]) hx hb dX13_type_128 hl (k := 3) rfl ez_30.symm (by decide) rfl (fun ls hl => ?_)
        refine lv_goto (tgt := 11) hx hb dX13_type_131 (by decide) ?_
        exact ih11 _ (by rw [← hn11]; exact (iv_meas tz_30 hsx7_125 (by decide))) sg_j125 z_30 z_29 rfl (iv_w hz_30 (by decide)) hz9 (KS_tr (L := [5]) KS_rf hks_j125 (by decide)) hI_j125 (by rw [cl_s hsx7_125 tz_30]; exact hn9) (by rw [cl_s hsx7_125 tz_30]; exact ty_a hsx7_125 hall hs h126) (by rw [cl_s hsx7_125 tz_30]; exact ty_k hsx7_125 hok hs hk) _ _ _ hP hD hS (lv_sub hl [0, 1, 4, 5, 6, 7, 8, 9] rfl)
      have hj113 : ∀ (sg_j113 : Nat → Int32) (x9_113 : Int32) (x8_113 : Int32) (_ : iv 0 126 x9_113) (_ : iv 0 19 x7_11) (_ : iv 0 20 x6_11) (_ : KS [5] sg sg_j113) (_ : MI sg_j113 gm) (_ : x9_113 = tyS p1 p2 p3 p4 p5 x7_11) (_ : x9_113.toInt ≤ 126) (_ : (x9_113.toInt = 0 ∨ x9_113.toInt = 10 ∨ 32 ≤ x9_113.toInt ∧ x9_113.toInt ≤ 126)) (H : Heap) (locs : List Loc) (ls : Array Slot), va_P (dC, dI) vwCl (mW h0 ad cid sg_j113 gm lg) H → va_D A (mW h0 ad cid sg_j113 gm lg) → va_S A s.heap H locs → lv_has ls 10 [(9, .int x9_113), (8, .int x8_113), (7, .int x7_11), (6, .int x6_11), (0, .ref h0), (1, .int p1), (2, .int p2), (3, .int p3), (4, .int p4), (5, .int p5)] → W p l e (headSpec wm_X13_type ({ frames := 0, cells := 0, slots := 0, locals := 0 })).room s m ([.ref h0, .int p1, .int p2, .int p3, .int p4, .int p5] : List Value).toArray below meth c H locs 0 0 (MQ below (va_Qi (fun r v => ∃ (sg2 : Nat → Int32) (gm2 : Nat → Nat → Int32) (lg2 : Nat → Nat → Int64), v = (sg2, gm2, lg2) ∧ MI sg2 gm2 ∧ KS [5, 20] sg sg2 ∧ KS [19] gm gm2 ∧ KS [] lg lg2 ∧ (r.toInt = -1 ∧ gm2 19 = gm 19 ∨ TYX p1 p2 p3 p4 p5 (sg 20).toInt (gm2 19) (gm 19) 20) ∧ (TYR p1 p2 p3 p4 p5 r (sg 20) (sg2 20))) (MB dC dI h0 ad cid A) A) ([.ref h0, .int p1, .int p2, .int p3, .int p4, .int p5] : List Value).toArray s 0 0 A) (F0 m 113 ls []) := by
        intro sg_j113 x9_113 x8_113 hx9_113 hsx7_113 hsx6_113 hks_j113 hI_j113 hs h126 hk H locs ls hP hD hS hl
        refine lv_iload hx hb dX13_type_113 (lv_at hl 3 rfl) ?_
        refine lv_iload hx hb dX13_type_115 (lv_at hl 0 rfl) ?_
        refine lv_if_eq (tgt := 124) hx hb dX13_type_117 (by decide) (fun c_31 => ?_) (fun c_31 => ?_)
        · have h_32 : iv 0 0 x9_113 := iv_eq c_31 hx9_113 (iv_k (by decide) : iv 0 0 0) (by decide)
          refine lv_iconst (v := 0) hx hb dX13_type_124 (by decide) ?_
          exact hj125 sg_j113 x9_113 x8_113 0 (iv_w h_32 (by decide)) hsx7_113 hsx6_113 (iv_w (iv_k (by decide) : iv 0 0 0) (by decide)) hsx6_113 (KS_tr (L := [5]) KS_rf hks_j113 (by decide)) hI_j113 (hs) (h126) (Or.inl ⟨c_31, rfl⟩) (hk) _ _ _ hP hD hS (lv_sub hl [0, 1, 2, 3, 4, 5, 6, 7, 8, 9] rfl)
        · have h_33 : iv 1 126 x9_113 := iv_neL c_31 hx9_113 (by decide)
          refine lv_iconst (v := 1) hx hb dX13_type_120 (by decide) ?_
          refine lv_goto (tgt := 125) hx hb dX13_type_121 (by decide) ?_
          exact hj125 sg_j113 x9_113 x8_113 1 (iv_w h_33 (by decide)) hsx7_113 hsx6_113 (iv_w (iv_k (by decide) : iv 1 1 1) (by decide)) hsx6_113 (KS_tr (L := [5]) KS_rf hks_j113 (by decide)) hI_j113 (hs) (h126) (Or.inr ⟨c_31, rfl⟩) (hk) _ _ _ hP hD hS (lv_sub hl [0, 1, 2, 3, 4, 5, 6, 7, 8, 9] rfl)
      have hj64 : ∀ (sg_j64 : Nat → Int32) (y0_64 : Int32) (_ : iv 0 19 x7_11) (_ : iv 0 20 x6_11) (_ : KS [5] sg sg_j64) (_ : MI sg_j64 gm) (_ : y0_64 = tyW p1 p2 p3 p4 p5 x7_11.toInt) (H : Heap) (locs : List Loc) (ls : Array Slot), va_P (dC, dI) vwCl (mW h0 ad cid sg_j64 gm lg) H → va_D A (mW h0 ad cid sg_j64 gm lg) → va_S A s.heap H locs → lv_has ls 10 [(7, .int x7_11), (6, .int x6_11), (0, .ref h0), (1, .int p1), (2, .int p2), (3, .int p3), (4, .int p4), (5, .int p5)] → W p l e (headSpec wm_X13_type ({ frames := 0, cells := 0, slots := 0, locals := 0 })).room s m ([.ref h0, .int p1, .int p2, .int p3, .int p4, .int p5] : List Value).toArray below meth c H locs 0 0 (MQ below (va_Qi (fun r v => ∃ (sg2 : Nat → Int32) (gm2 : Nat → Nat → Int32) (lg2 : Nat → Nat → Int64), v = (sg2, gm2, lg2) ∧ MI sg2 gm2 ∧ KS [5, 20] sg sg2 ∧ KS [19] gm gm2 ∧ KS [] lg lg2 ∧ (r.toInt = -1 ∧ gm2 19 = gm 19 ∨ TYX p1 p2 p3 p4 p5 (sg 20).toInt (gm2 19) (gm 19) 20) ∧ (TYR p1 p2 p3 p4 p5 r (sg 20) (sg2 20))) (MB dC dI h0 ad cid A) A) ([.ref h0, .int p1, .int p2, .int p3, .int p4, .int p5] : List Value).toArray s 0 0 A) (F0 m 64 ls [.int y0_64]) := by
        intro sg_j64 y0_64 hsx7_64 hsx6_64 hks_j64 hI_j64 hw H locs ls hP hD hS hl
        refine lv_istore (lv' := [(8, .int y0_64), (7, .int x7_11), (6, .int x6_11), (0, .ref h0), (1, .int p1), (2, .int p2), (3, .int p3), (4, .int p4), (5, .int p5)]) hx hb dX13_type_64 hl (by decide) rfl (fun ls hl => ?_)
        refine lv_iload hx hb dX13_type_66 (lv_at hl 0 rfl) ?_
        refine lv_bipush (v := 24) hx hb dX13_type_68 (by decide) ?_
        refine lv_bipush (v := 8) hx hb dX13_type_70 (by decide) ?_
        refine lv_iload hx hb dX13_type_72 (lv_at hl 1 rfl) ?_
        refine lv_iconst (v := 4) hx hb dX13_type_74 (by decide) ?_
        refine lv_irem hx hb dX13_type_75 (by decide) ?_
        refine lv_topi (fun z_34 ez_34 => ?_)
        have hz_34 : iv 0 3 z_34 := iv_of ez_34 (iv_rem hsx7_64 (by decide) (by decide))
        refine lv_imul hx hb dX13_type_76 ?_
        refine lv_topi (fun z_35 ez_35 => ?_)
        have hz_35 : iv 0 24 z_35 := iv_of ez_35 (iv_mul (iv_k (by decide) : iv 8 8 8) hz_34 (by decide))
        have tz_35 : z_35.toInt = 8 * (z_34 : Int32).toInt := by rw [ez_35]; exact iv_mulE (iv_k (by decide) : iv 8 8 8) hz_34 (by decide)
        refine lv_isub hx hb dX13_type_77 ?_
        refine lv_topi (fun z_36 ez_36 => ?_)
        have hz_36 : iv 0 24 z_36 := iv_of ez_36 (iv_sub (iv_k (by decide) : iv 24 24 24) hz_35 (by decide))
        have tz_36 : z_36.toInt = 24 - (z_35 : Int32).toInt := by rw [ez_36]; exact iv_subE (iv_k (by decide) : iv 24 24 24) hz_35 (by decide)
        refine lv_ishr hx hb dX13_type_78 ?_
        refine lv_topi (fun z_37 ez_37 => ?_)
        refine lv_sipush (v := 255) hx hb dX13_type_79 (by decide) ?_
        refine lv_iand hx hb dX13_type_82 ?_
        refine lv_topi (fun z_38 ez_38 => ?_)
        have hz_38 : iv 0 255 z_38 := iv_of ez_38 (iv_255 _)
        have hs : z_38 = tyS p1 p2 p3 p4 p5 x7_11 := by unfold tyS; rw [ez_38, ez_37, ez_36, ez_35, ez_34, hw]
        refine lv_istore (lv' := [(9, .int z_38), (8, .int y0_64), (7, .int x7_11), (6, .int x6_11), (0, .ref h0), (1, .int p1), (2, .int p2), (3, .int p3), (4, .int p4), (5, .int p5)]) hx hb dX13_type_83 hl (by decide) rfl (fun ls hl => ?_)
        refine lv_iload hx hb dX13_type_85 (lv_at hl 0 rfl) ?_
        refine lv_if_eq (tgt := 113) hx hb dX13_type_87 (by decide) (fun c_39 => ?_) (fun c_39 => ?_)
        · have h_40 : iv 0 0 z_38 := iv_eq c_39 hz_38 (iv_k (by decide) : iv 0 0 0) (by decide)
          exact hj113 sg_j64 z_38 y0_64 (iv_w h_40 (by decide)) hsx7_64 hsx6_64 (KS_tr (L := [5]) KS_rf hks_j64 (by decide)) hI_j64 (hs) (by have := i32_0; have := i32_1; have := i32_2; have := i32_m1; have := (hsx7_64).1; have := (hsx7_64).2; have := (hsx6_64).1; have := (hsx6_64).2; have := (hz_34).1; have := (hz_34).2; have := (hz_35).1; have := (hz_35).2; have := (hz_36).1; have := (hz_36).2; have := (h_40).1; have := (h_40).2; omega) (by have := i32_0; have := i32_1; have := i32_2; have := i32_m1; have := (hsx7_64).1; have := (hsx7_64).2; have := (hsx6_64).1; have := (hsx6_64).2; have := (hz_34).1; have := (hz_34).2; have := (hz_35).1; have := (hz_35).2; have := (hz_36).1; have := (hz_36).2; have := (h_40).1; have := (h_40).2; omega) _ _ _ hP hD hS (lv_sub hl [0, 1, 2, 3, 4, 5, 6, 7, 8, 9] rfl)
        · have h_41 : iv 1 255 z_38 := iv_neL c_39 hz_38 (by decide)
          refine lv_iload hx hb dX13_type_90 (lv_at hl 0 rfl) ?_
          refine lv_bipush (v := 10) hx hb dX13_type_92 (by decide) ?_
          refine lv_icmp_eq (tgt := 113) hx hb dX13_type_94 (by decide) (fun c_42 => ?_) (fun c_42 => ?_)
          · have h_43 : iv 10 10 z_38 := iv_eq c_42 h_41 (iv_k (by decide) : iv 10 10 10) (by decide)
            exact hj113 sg_j64 z_38 y0_64 (iv_w h_43 (by decide)) hsx7_64 hsx6_64 (KS_tr (L := [5]) KS_rf hks_j64 (by decide)) hI_j64 (hs) (by have := i32_0; have := i32_1; have := i32_2; have := i32_m1; have := (hsx7_64).1; have := (hsx7_64).2; have := (hsx6_64).1; have := (hsx6_64).2; have := (hz_34).1; have := (hz_34).2; have := (hz_35).1; have := (hz_35).2; have := (hz_36).1; have := (hz_36).2; have := (h_43).1; have := (h_43).2; omega) (by have := i32_0; have := i32_1; have := i32_2; have := i32_m1; have := (hsx7_64).1; have := (hsx7_64).2; have := (hsx6_64).1; have := (hsx6_64).2; have := (hz_34).1; have := (hz_34).2; have := (hz_35).1; have := (hz_35).2; have := (hz_36).1; have := (hz_36).2; have := (h_43).1; have := (h_43).2; omega) _ _ _ hP hD hS (lv_sub hl [0, 1, 2, 3, 4, 5, 6, 7, 8, 9] rfl)
          · have d_44 : ¬ (z_38 : Int32).toInt = 10 := lv_neT c_42 rfl
            refine lv_iload hx hb dX13_type_97 (lv_at hl 0 rfl) ?_
            refine lv_bipush (v := 32) hx hb dX13_type_99 (by decide) ?_
            refine lv_icmp_lt (tgt := 111) hx hb dX13_type_101 (by decide) (fun c_45 => ?_) (fun c_45 => ?_)
            · have h_46 : iv 1 31 z_38 := iv_ltL c_45 h_41 (iv_k (by decide) : iv 32 32 32) (by decide)
              exact hj111 sg_j64 z_38 y0_64 x7_11 x6_11 (iv_w h_46 (by decide)) hsx7_64 hsx6_64 (KS_tr (L := [5]) KS_rf hks_j64 (by decide)) hI_j64 ((ty_bad hsx7_64 hs (by { have n10 : ¬ z_38.toInt = 10 := fun q => c_42 (Int32.toInt_inj.mp q); have := i32_0; have := i32_1; have := i32_2; have := i32_m1; have := (hsx7_64).1; have := (hsx7_64).2; have := (hsx6_64).1; have := (hsx6_64).2; have := (hz_34).1; have := (hz_34).2; have := (hz_35).1; have := (hz_35).2; have := (hz_36).1; have := (hz_36).2; have := (h_46).1; have := (h_46).2; omega }))) _ _ _ hP hD hS (lv_sub hl [0, 1, 2, 3, 4, 5, 6, 7, 8, 9] rfl)
            · have h_47 : iv 32 255 z_38 := iv_leR (i32_ge c_45) (iv_k (by decide) : iv 32 32 32) h_41 (by decide)
              refine lv_iload hx hb dX13_type_104 (lv_at hl 0 rfl) ?_
              refine lv_bipush (v := 126) hx hb dX13_type_106 (by decide) ?_
              refine lv_icmp_le (tgt := 113) hx hb dX13_type_108 (by decide) (fun c_48 => ?_) (fun c_48 => ?_)
              · have h_49 : iv 32 126 z_38 := iv_leL c_48 h_47 (iv_k (by decide) : iv 126 126 126) (by decide)
                exact hj113 sg_j64 z_38 y0_64 (iv_w h_49 (by decide)) hsx7_64 hsx6_64 (KS_tr (L := [5]) KS_rf hks_j64 (by decide)) hI_j64 (hs) (by have := i32_0; have := i32_1; have := i32_2; have := i32_m1; have := (hsx7_64).1; have := (hsx7_64).2; have := (hsx6_64).1; have := (hsx6_64).2; have := (hz_34).1; have := (hz_34).2; have := (hz_35).1; have := (hz_35).2; have := (hz_36).1; have := (hz_36).2; have := (h_49).1; have := (h_49).2; omega) (by have := i32_0; have := i32_1; have := i32_2; have := i32_m1; have := (hsx7_64).1; have := (hsx7_64).2; have := (hsx6_64).1; have := (hsx6_64).2; have := (hz_34).1; have := (hz_34).2; have := (hz_35).1; have := (hz_35).2; have := (hz_36).1; have := (hz_36).2; have := (h_49).1; have := (h_49).2; omega) _ _ _ hP hD hS (lv_sub hl [0, 1, 2, 3, 4, 5, 6, 7, 8, 9] rfl)
              · have h_50 : iv 127 255 z_38 := iv_ltR (i32_lt c_48) (iv_k (by decide) : iv 126 126 126) h_47 (by decide)
                exact hj111 sg_j64 z_38 y0_64 x7_11 x6_11 (iv_w h_50 (by decide)) hsx7_64 hsx6_64 (KS_tr (L := [5]) KS_rf hks_j64 (by decide)) hI_j64 ((ty_bad hsx7_64 hs (by { have n10 : ¬ z_38.toInt = 10 := fun q => c_42 (Int32.toInt_inj.mp q); have := i32_0; have := i32_1; have := i32_2; have := i32_m1; have := (hsx7_64).1; have := (hsx7_64).2; have := (hsx6_64).1; have := (hsx6_64).2; have := (hz_34).1; have := (hz_34).2; have := (hz_35).1; have := (hz_35).2; have := (hz_36).1; have := (hz_36).2; have := (h_50).1; have := (h_50).2; omega }))) _ _ _ hP hD hS (lv_sub hl [0, 1, 2, 3, 4, 5, 6, 7, 8, 9] rfl)
      refine lv_iload hx hb dX13_type_11 (lv_at hl 0 rfl) ?_
      refine lv_bipush (v := 20) hx hb dX13_type_13 (by decide) ?_
      refine lv_icmp_ge (tgt := 134) hx hb dX13_type_15 (by decide) (fun c_51 => ?_) (fun c_51 => ?_)
      · have h_52 : iv 20 20 x7_11 := iv_leR c_51 (iv_k (by decide) : iv 20 20 20) hx7_11 (by decide)
        refine lv_aload_n hx hb dX13_type_134 rfl (lv_at hl 2 rfl) ?_
        refine mr_get (v := .int (sg_j11 20)) hx hb htb inX13 hown hK hP 20 (by decide) (htb _ kw_1047) rfl dX13_type_135 ?_
        refine lv_topi (fun z_53 ez_53 => ?_)
        obtain rfl : (sg 20) = z_53 := (ez_53.trans (hks_j11 20 (by decide))).symm
        refine lv_iload hx hb dX13_type_138 (lv_at hl 1 rfl) ?_
        refine lv_iadd hx hb dX13_type_140 ?_
        refine lv_topi (fun z_54 ez_54 => ?_)
        have hz_54 : iv 0 1220 z_54 := iv_of ez_54 (iv_add (show iv 0 1200 (sg 20) from MI_s hI 20) hx6_11 (by decide))
        have tz_54 : z_54.toInt = ((sg 20) : Int32).toInt + (x6_11 : Int32).toInt := by rw [ez_54]; exact iv_addE (show iv 0 1200 (sg 20) from MI_s hI 20) hx6_11 (by decide)
        refine lv_sipush (v := 1200) hx hb dX13_type_141 (by decide) ?_
        refine lv_icmp_le (tgt := 149) hx hb dX13_type_144 (by decide) (fun c_55 => ?_) (fun c_55 => ?_)
        · have h_56 : iv 0 1200 z_54 := iv_leL c_55 hz_54 (iv_k (by decide) : iv 1200 1200 1200) (by decide)
          refine lv_iconst (v := 0) hx hb dX13_type_149 (by decide) ?_
          refine lv_istore (lv' := [(7, .int 0), (6, .int x6_11), (0, .ref h0), (1, .int p1), (2, .int p2), (3, .int p3), (4, .int p4), (5, .int p5)]) hx hb dX13_type_150 hl (by decide) rfl (fun ls hl => ?_)
          exact hj152 _ sg_j11 gm 0 x6_11 rfl (iv_w (iv_k (by decide) : iv 0 0 0) (by decide)) hx6_11 (KS_tr (L := [5, 20]) KS_rf hks_j11 (by decide)) KS_rf hI_j11 (TYX_0) ((by { have q8 := congrArg Int32.toInt (show sg_j11 20 = sg 20 from (hks_j11 20 (by decide))); show _ = _ + ((0 : Nat) : Int); omega })) ((by { have q9 : x7_11.toNatClampNeg = 20 := by { have := iv_cl h_52 (by decide); have := (h_52).1; have := (h_52).2; omega }; rw [q9] at hn; have q8 := congrArg Int32.toInt (show sg_j11 20 = sg 20 from (hks_j11 20 (by decide))); have := tz_54; have := (h_56).2; have := i32_0; have := i32_1; have := i32_2; have := i32_m1; have := (h_52).1; have := (h_52).2; have := (hx6_11).1; have := (hx6_11).2; have := ((show iv 0 1200 (sg 20) from MI_s hI 20)).1; have := ((show iv 0 1200 (sg 20) from MI_s hI 20)).2; have := (h_56).1; have := (h_56).2; omega })) (by have q9 : x7_11.toNatClampNeg = 20 := by { have := iv_cl h_52 (by decide); have := (h_52).1; have := (h_52).2; omega }; rw [q9] at hall; exact hall) (by have q9 : x7_11.toNatClampNeg = 20 := by { have := iv_cl h_52 (by decide); have := (h_52).1; have := (h_52).2; omega }; rw [q9] at hok; exact hok) _ _ _ hP hD hS (lv_sub hl [0, 1, 2, 3, 4, 5, 6, 7] rfl)
        · have h_57 : iv 1201 1220 z_54 := iv_ltR (i32_lt c_55) (iv_k (by decide) : iv 1200 1200 1200) hz_54 (by decide)
          refine lv_iconst (v := (-1)) hx hb dX13_type_147 (by decide) ?_
          exact W.iret (v := (-1)) hx hb hr (fun t ht hW => ⟨⟨(-1), (sg_j11, gm, lg), rfl, ⟨sg_j11, gm, lg, rfl, hI_j11, (KS_tr (L := [5, 20]) KS_rf hks_j11 (by decide)), KS_rf, KS_rf, (Or.inl ⟨rfl, rfl⟩), (Or.inl ⟨rfl, Or.inr (by { have q9 : x7_11.toNatClampNeg = 20 := by { have := iv_cl h_52 (by decide); have := (h_52).1; have := (h_52).2; omega }; rw [q9] at hn; have q8 := congrArg Int32.toInt (show sg_j11 20 = sg 20 from (hks_j11 20 (by decide))); have := tz_54; have := (h_57).1; have := i32_0; have := i32_1; have := i32_2; have := i32_m1; have := (h_52).1; have := (h_52).2; have := (hx6_11).1; have := (hx6_11).2; have := ((show iv 0 1200 (sg 20) from MI_s hI 20)).1; have := ((show iv 0 1200 (sg 20) from MI_s hI 20)).2; have := (h_57).1; have := (h_57).2; omega }), (show sg_j11 20 = sg 20 from (hks_j11 20 (by decide)))⟩)⟩, by rw [ht]; exact hP, va_K.moved hW.alike hK, hD⟩, hS.F ht⟩) hS.2.2 dX13_type_148
      · have h_58 : iv 0 19 x7_11 := iv_ltL (i32_lt c_51) hx7_11 (iv_k (by decide) : iv 20 20 20) (by decide)
        refine lv_iload hx hb dX13_type_18 (lv_at hl 0 rfl) ?_
        refine lv_iconst (v := 4) hx hb dX13_type_20 (by decide) ?_
        refine lv_icmp_ge (tgt := 28) hx hb dX13_type_21 (by decide) (fun c_59 => ?_) (fun c_59 => ?_)
        · have h_60 : iv 4 19 x7_11 := iv_leR c_59 (iv_k (by decide) : iv 4 4 4) h_58 (by decide)
          refine lv_iload hx hb dX13_type_28 (lv_at hl 0 rfl) ?_
          refine lv_bipush (v := 8) hx hb dX13_type_30 (by decide) ?_
          refine lv_icmp_ge (tgt := 39) hx hb dX13_type_32 (by decide) (fun c_61 => ?_) (fun c_61 => ?_)
          · have h_62 : iv 8 19 x7_11 := iv_leR c_61 (iv_k (by decide) : iv 8 8 8) h_60 (by decide)
            refine lv_iload hx hb dX13_type_39 (lv_at hl 0 rfl) ?_
            refine lv_bipush (v := 12) hx hb dX13_type_41 (by decide) ?_
            refine lv_icmp_ge (tgt := 50) hx hb dX13_type_43 (by decide) (fun c_63 => ?_) (fun c_63 => ?_)
            · have h_64 : iv 12 19 x7_11 := iv_leR c_63 (iv_k (by decide) : iv 12 12 12) h_62 (by decide)
              refine lv_iload hx hb dX13_type_50 (lv_at hl 0 rfl) ?_
              refine lv_bipush (v := 16) hx hb dX13_type_52 (by decide) ?_
              refine lv_icmp_ge (tgt := 62) hx hb dX13_type_54 (by decide) (fun c_65 => ?_) (fun c_65 => ?_)
              · have h_66 : iv 16 19 x7_11 := iv_leR c_65 (iv_k (by decide) : iv 16 16 16) h_64 (by decide)
                refine lv_iload hx hb dX13_type_62 (lv_at hl 7 rfl) ?_
                exact hj64 sg_j11 p5 (iv_w h_66 (by decide)) hx6_11 (KS_tr (L := [5]) KS_rf hks_j11 (by decide)) hI_j11 (by have := (h_66).1; have := (h_66).2; unfold tyW; repeat (first | rw [if_pos (by omega)] | rw [if_neg (by omega)])) _ _ _ hP hD hS (lv_sub hl [0, 1, 2, 3, 4, 5, 6, 7] rfl)
              · have h_67 : iv 12 15 x7_11 := iv_ltL (i32_lt c_65) h_64 (iv_k (by decide) : iv 16 16 16) (by decide)
                refine lv_iload hx hb dX13_type_57 (lv_at hl 6 rfl) ?_
                refine lv_goto (tgt := 64) hx hb dX13_type_59 (by decide) ?_
                exact hj64 sg_j11 p4 (iv_w h_67 (by decide)) hx6_11 (KS_tr (L := [5]) KS_rf hks_j11 (by decide)) hI_j11 (by have := (h_67).1; have := (h_67).2; unfold tyW; repeat (first | rw [if_pos (by omega)] | rw [if_neg (by omega)])) _ _ _ hP hD hS (lv_sub hl [0, 1, 2, 3, 4, 5, 6, 7] rfl)
            · have h_68 : iv 8 11 x7_11 := iv_ltL (i32_lt c_63) h_62 (iv_k (by decide) : iv 12 12 12) (by decide)
              refine lv_iload_n hx hb dX13_type_46 rfl (lv_at hl 5 rfl) ?_
              refine lv_goto (tgt := 64) hx hb dX13_type_47 (by decide) ?_
              exact hj64 sg_j11 p3 (iv_w h_68 (by decide)) hx6_11 (KS_tr (L := [5]) KS_rf hks_j11 (by decide)) hI_j11 (by have := (h_68).1; have := (h_68).2; unfold tyW; repeat (first | rw [if_pos (by omega)] | rw [if_neg (by omega)])) _ _ _ hP hD hS (lv_sub hl [0, 1, 2, 3, 4, 5, 6, 7] rfl)
          · have h_69 : iv 4 7 x7_11 := iv_ltL (i32_lt c_61) h_60 (iv_k (by decide) : iv 8 8 8) (by decide)
            refine lv_iload_n hx hb dX13_type_35 rfl (lv_at hl 4 rfl) ?_
            refine lv_goto (tgt := 64) hx hb dX13_type_36 (by decide) ?_
            exact hj64 sg_j11 p2 (iv_w h_69 (by decide)) hx6_11 (KS_tr (L := [5]) KS_rf hks_j11 (by decide)) hI_j11 (by have := (h_69).1; have := (h_69).2; unfold tyW; repeat (first | rw [if_pos (by omega)] | rw [if_neg (by omega)])) _ _ _ hP hD hS (lv_sub hl [0, 1, 2, 3, 4, 5, 6, 7] rfl)
        · have h_70 : iv 0 3 x7_11 := iv_ltL (i32_lt c_59) h_58 (iv_k (by decide) : iv 4 4 4) (by decide)
          refine lv_iload_n hx hb dX13_type_24 rfl (lv_at hl 3 rfl) ?_
          refine lv_goto (tgt := 64) hx hb dX13_type_25 (by decide) ?_
          exact hj64 sg_j11 p1 (iv_w h_70 (by decide)) hx6_11 (KS_tr (L := [5]) KS_rf hks_j11 (by decide)) hI_j11 (by have := (h_70).1; have := (h_70).2; unfold tyW; repeat (first | rw [if_pos (by omega)] | rw [if_neg (by omega)])) _ _ _ hP hD hS (lv_sub hl [0, 1, 2, 3, 4, 5, 6, 7] rfl)
  refine lv_aload_n hx hb dX13_type_0 rfl (lv_at hl 0 rfl) ?_
  refine lv_iconst (v := 0) hx hb dX13_type_1 (by decide) ?_
  refine ma_put (x := 0) hx hb htb inX13 hown hK hP hD hS 5 (by decide) (by decide) (htb _ kw_1032) rfl rfl rfl dX13_type_2 (fun sg_71 H locs esg_71 hP hD hS => ?_)
  have hI_sg_71 := MI_put hI esg_71 (iv_k (by decide) : iv 0 0 0) (by decide)
  refine lv_iconst (v := 0) hx hb dX13_type_5 (by decide) ?_
  refine lv_istore (lv' := [(6, .int 0), (0, .ref h0), (1, .int p1), (2, .int p2), (3, .int p3), (4, .int p4), (5, .int p5)]) hx hb dX13_type_6 hl (by decide) rfl (fun ls hl => ?_)
  refine lv_iconst (v := 0) hx hb dX13_type_8 (by decide) ?_
  refine lv_istore (lv' := [(7, .int 0), (6, .int 0), (0, .ref h0), (1, .int p1), (2, .int p2), (3, .int p3), (4, .int p4), (5, .int p5)]) hx hb dX13_type_9 hl (by decide) rfl (fun ls hl => ?_)
  exact hj11 _ sg_71 0 0 rfl (iv_w (iv_k (by decide) : iv 0 0 0) (by decide)) (iv_w (iv_k (by decide) : iv 0 0 0) (by decide)) (KS_up KS_rf esg_71 (by decide)) hI_sg_71 (rfl) (fun j9 h9 => absurd h9 (Nat.not_lt_zero _)) (fun j9 h9 => absurd h9 (Nat.not_lt_zero _)) _ _ _ hP hD hS (lv_sub hl [0, 1, 2, 3, 4, 5, 6, 7] rfl)
end
section
theorem bN_lt (fo : Int32) {k : Nat} : ∀ n, k < n → ¬ bS fo k = 0 → bN fo k < bN fo n := by
  intro n
  induction n with
  | zero => intro h; exact absurd h (Nat.not_lt_zero k)
  | succ n ih =>
    intro h hz
    show _ < bN fo n + (if bS fo n = 0 then 0 else 1)
    by_cases e : k = n
    · subst e; rw [if_neg hz]; omega
    · have := ih (by omega) hz; omega
def TBX (fo : Int32) (s0 : Int) (f f0 : Nat → Int32) (n : Nat) : Prop := (∀ i : Nat, (i : Int) < s0 → f i = f0 i) ∧ ∀ k, k < n → ¬ bS fo k = 0 → f (s0.toNat + bN fo k) = bS fo k
theorem TBX_0 {fo : Int32} {s0 : Int} {f : Nat → Int32} : TBX fo s0 f f 0 := ⟨fun _ _ => rfl, fun k hk => absurd hk (Nat.not_lt_zero k)⟩
theorem TBX_z {fo x : Int32} {s0 : Int} {f f0 : Nat → Int32} (hi : iv 0 24 x) (hd : x.toInt % 8 = 0) (h : TBX fo s0 f f0 ((24 - x.toInt) / 8).toNat) (hx : byC fo x = 0) : TBX fo s0 f f0 (((24 - x.toInt) / 8).toNat + 1) := by
  refine ⟨h.1, fun k hk hz => ?_⟩
  by_cases e : k = ((24 - x.toInt) / 8).toNat
  · rw [e, ← by_i hi hd] at hz; exact absurd hx hz
  · exact h.2 k (by omega) hz
theorem TBX_p {fo x z v : Int32} {s0 : Int} {f f0 g : Nat → Int32} (hi : iv 0 24 x) (hd : x.toInt % 8 = 0) (h0 : 0 ≤ s0) (h : TBX fo s0 f f0 ((24 - x.toInt) / 8).toNat) (hv : v = byC fo x) (hz : z.toInt = s0 + (bN fo ((24 - x.toInt) / 8).toNat : Int)) (hg : g = upd f z.toNatClampNeg v) : TBX fo s0 g f0 (((24 - x.toInt) / 8).toNat + 1) := by
  have q : z.toNatClampNeg = s0.toNat + bN fo ((24 - x.toInt) / 8).toNat := by show z.toInt.toNat = _; omega
  rw [hg, q]
  refine ⟨fun j hj => by rw [upd_ne (by omega)]; exact h.1 j hj, fun k hk hz => ?_⟩
  by_cases e : k = ((24 - x.toInt) / 8).toNat
  · rw [e, upd_at, ← by_i hi hd]; exact hv
  · have := bN_lt fo ((24 - x.toInt) / 8).toNat (show k < ((24 - x.toInt) / 8).toNat by omega) hz
    rw [upd_ne (by omega)]
    exact h.2 k (by omega) hz
theorem tyN_0 (p1 p2 p3 p4 p5 : Int32) : tyN p1 p2 p3 p4 p5 0 = bN p1 0 := rfl
theorem tyN_1 (p1 p2 p3 p4 p5 : Int32) : tyN p1 p2 p3 p4 p5 1 = bN p1 1 := by
  simp only [tyN, bN, tyS_0]
  try omega
theorem tyN_2 (p1 p2 p3 p4 p5 : Int32) : tyN p1 p2 p3 p4 p5 2 = bN p1 2 := by
  simp only [tyN, bN, tyS_0, tyS_1]
  try omega
theorem tyN_3 (p1 p2 p3 p4 p5 : Int32) : tyN p1 p2 p3 p4 p5 3 = bN p1 3 := by
  simp only [tyN, bN, tyS_0, tyS_1, tyS_2]
  try omega
theorem tyN_4 (p1 p2 p3 p4 p5 : Int32) : tyN p1 p2 p3 p4 p5 4 = bN p1 4 + bN p2 0 := by
  simp only [tyN, bN, tyS_0, tyS_1, tyS_2, tyS_3]
  try omega
theorem tyN_5 (p1 p2 p3 p4 p5 : Int32) : tyN p1 p2 p3 p4 p5 5 = bN p1 4 + bN p2 1 := by
  simp only [tyN, bN, tyS_0, tyS_1, tyS_2, tyS_3, tyS_4]
  try omega
theorem tyN_6 (p1 p2 p3 p4 p5 : Int32) : tyN p1 p2 p3 p4 p5 6 = bN p1 4 + bN p2 2 := by
  simp only [tyN, bN, tyS_0, tyS_1, tyS_2, tyS_3, tyS_4, tyS_5]
  try omega
theorem tyN_7 (p1 p2 p3 p4 p5 : Int32) : tyN p1 p2 p3 p4 p5 7 = bN p1 4 + bN p2 3 := by
  simp only [tyN, bN, tyS_0, tyS_1, tyS_2, tyS_3, tyS_4, tyS_5, tyS_6]
  try omega
theorem tyN_8 (p1 p2 p3 p4 p5 : Int32) : tyN p1 p2 p3 p4 p5 8 = bN p1 4 + bN p2 4 + bN p3 0 := by
  simp only [tyN, bN, tyS_0, tyS_1, tyS_2, tyS_3, tyS_4, tyS_5, tyS_6, tyS_7]
  try omega
theorem tyN_9 (p1 p2 p3 p4 p5 : Int32) : tyN p1 p2 p3 p4 p5 9 = bN p1 4 + bN p2 4 + bN p3 1 := by
  simp only [tyN, bN, tyS_0, tyS_1, tyS_2, tyS_3, tyS_4, tyS_5, tyS_6, tyS_7, tyS_8]
  try omega
theorem tyN_10 (p1 p2 p3 p4 p5 : Int32) : tyN p1 p2 p3 p4 p5 10 = bN p1 4 + bN p2 4 + bN p3 2 := by
  simp only [tyN, bN, tyS_0, tyS_1, tyS_2, tyS_3, tyS_4, tyS_5, tyS_6, tyS_7, tyS_8, tyS_9]
  try omega
theorem tyN_11 (p1 p2 p3 p4 p5 : Int32) : tyN p1 p2 p3 p4 p5 11 = bN p1 4 + bN p2 4 + bN p3 3 := by
  simp only [tyN, bN, tyS_0, tyS_1, tyS_2, tyS_3, tyS_4, tyS_5, tyS_6, tyS_7, tyS_8, tyS_9, tyS_10]
  try omega
theorem tyN_12 (p1 p2 p3 p4 p5 : Int32) : tyN p1 p2 p3 p4 p5 12 = bN p1 4 + bN p2 4 + bN p3 4 + bN p4 0 := by
  simp only [tyN, bN, tyS_0, tyS_1, tyS_2, tyS_3, tyS_4, tyS_5, tyS_6, tyS_7, tyS_8, tyS_9, tyS_10, tyS_11]
  try omega
theorem tyN_13 (p1 p2 p3 p4 p5 : Int32) : tyN p1 p2 p3 p4 p5 13 = bN p1 4 + bN p2 4 + bN p3 4 + bN p4 1 := by
  simp only [tyN, bN, tyS_0, tyS_1, tyS_2, tyS_3, tyS_4, tyS_5, tyS_6, tyS_7, tyS_8, tyS_9, tyS_10, tyS_11, tyS_12]
  try omega
theorem tyN_14 (p1 p2 p3 p4 p5 : Int32) : tyN p1 p2 p3 p4 p5 14 = bN p1 4 + bN p2 4 + bN p3 4 + bN p4 2 := by
  simp only [tyN, bN, tyS_0, tyS_1, tyS_2, tyS_3, tyS_4, tyS_5, tyS_6, tyS_7, tyS_8, tyS_9, tyS_10, tyS_11, tyS_12, tyS_13]
  try omega
theorem tyN_15 (p1 p2 p3 p4 p5 : Int32) : tyN p1 p2 p3 p4 p5 15 = bN p1 4 + bN p2 4 + bN p3 4 + bN p4 3 := by
  simp only [tyN, bN, tyS_0, tyS_1, tyS_2, tyS_3, tyS_4, tyS_5, tyS_6, tyS_7, tyS_8, tyS_9, tyS_10, tyS_11, tyS_12, tyS_13, tyS_14]
  try omega
theorem tyN_16 (p1 p2 p3 p4 p5 : Int32) : tyN p1 p2 p3 p4 p5 16 = bN p1 4 + bN p2 4 + bN p3 4 + bN p4 4 + bN p5 0 := by
  simp only [tyN, bN, tyS_0, tyS_1, tyS_2, tyS_3, tyS_4, tyS_5, tyS_6, tyS_7, tyS_8, tyS_9, tyS_10, tyS_11, tyS_12, tyS_13, tyS_14, tyS_15]
  try omega
theorem tyN_17 (p1 p2 p3 p4 p5 : Int32) : tyN p1 p2 p3 p4 p5 17 = bN p1 4 + bN p2 4 + bN p3 4 + bN p4 4 + bN p5 1 := by
  simp only [tyN, bN, tyS_0, tyS_1, tyS_2, tyS_3, tyS_4, tyS_5, tyS_6, tyS_7, tyS_8, tyS_9, tyS_10, tyS_11, tyS_12, tyS_13, tyS_14, tyS_15, tyS_16]
  try omega
theorem tyN_18 (p1 p2 p3 p4 p5 : Int32) : tyN p1 p2 p3 p4 p5 18 = bN p1 4 + bN p2 4 + bN p3 4 + bN p4 4 + bN p5 2 := by
  simp only [tyN, bN, tyS_0, tyS_1, tyS_2, tyS_3, tyS_4, tyS_5, tyS_6, tyS_7, tyS_8, tyS_9, tyS_10, tyS_11, tyS_12, tyS_13, tyS_14, tyS_15, tyS_16, tyS_17]
  try omega
theorem tyN_19 (p1 p2 p3 p4 p5 : Int32) : tyN p1 p2 p3 p4 p5 19 = bN p1 4 + bN p2 4 + bN p3 4 + bN p4 4 + bN p5 3 := by
  simp only [tyN, bN, tyS_0, tyS_1, tyS_2, tyS_3, tyS_4, tyS_5, tyS_6, tyS_7, tyS_8, tyS_9, tyS_10, tyS_11, tyS_12, tyS_13, tyS_14, tyS_15, tyS_16, tyS_17, tyS_18]
  try omega
/-- the five words together -/
theorem TYX_of {p1 p2 p3 p4 p5 s0 r1 r2 r3 r4 r5 : Int32} {f0 f1 f2 f3 f4 f5 : Nat → Int32} (h0 : 0 ≤ s0.toInt) (t1 : TBH s0 p1 r1) (t2 : TBH r1 p2 r2) (t3 : TBH r2 p3 r3) (t4 : TBH r3 p4 r4) (t5 : TBH r4 p5 r5) (x1 : r1.toInt = -1 ∨ TBX p1 s0.toInt f1 f0 4) (x2 : r2.toInt = -1 ∨ TBX p2 r1.toInt f2 f1 4) (x3 : r3.toInt = -1 ∨ TBX p3 r2.toInt f3 f2 4) (x4 : r4.toInt = -1 ∨ TBX p4 r3.toInt f4 f3 4) (x5 : r5.toInt = -1 ∨ TBX p5 r4.toInt f5 f4 4) (hr : ¬ r5.toInt = -1) : TYX p1 p2 p3 p4 p5 s0.toInt f5 f0 20 := by
  have q5 : 0 ≤ r4.toInt ∧ r5.toInt = r4.toInt + (bN p5 4 : Int) := by
    rcases t5 with a | ⟨a, b | b⟩
    · exact absurd a.2 hr
    · exact absurd b.1 hr
    · exact ⟨a, b.1⟩
  have q4 : 0 ≤ r3.toInt ∧ r4.toInt = r3.toInt + (bN p4 4 : Int) := by
    rcases t4 with a | ⟨a, b | b⟩
    · have := a.2; omega
    · have := b.1; omega
    · exact ⟨a, b.1⟩
  have q3 : 0 ≤ r2.toInt ∧ r3.toInt = r2.toInt + (bN p3 4 : Int) := by
    rcases t3 with a | ⟨a, b | b⟩
    · have := a.2; omega
    · have := b.1; omega
    · exact ⟨a, b.1⟩
  have q2 : 0 ≤ r1.toInt ∧ r2.toInt = r1.toInt + (bN p2 4 : Int) := by
    rcases t2 with a | ⟨a, b | b⟩
    · have := a.2; omega
    · have := b.1; omega
    · exact ⟨a, b.1⟩
  have q1 : r1.toInt = s0.toInt + (bN p1 4 : Int) := by
    rcases t1 with a | ⟨a, b | b⟩
    · have := a.2; omega
    · have := b.1; omega
    · exact b.1
  have x1 := x1.resolve_left (by omega)
  have x2 := x2.resolve_left (by omega)
  have x3 := x3.resolve_left (by omega)
  have x4 := x4.resolve_left (by omega)
  have x5 := x5.resolve_left (by omega)
  have g4 : ∀ i : Nat, (i : Int) < r4.toInt → f5 i = f4 i := x5.1
  have g3 : ∀ i : Nat, (i : Int) < r3.toInt → f5 i = f3 i := fun i hi => (g4 i (by omega)).trans (x4.1 i hi)
  have g2 : ∀ i : Nat, (i : Int) < r2.toInt → f5 i = f2 i := fun i hi => (g3 i (by omega)).trans (x3.1 i hi)
  have g1 : ∀ i : Nat, (i : Int) < r1.toInt → f5 i = f1 i := fun i hi => (g2 i (by omega)).trans (x2.1 i hi)
  refine ⟨fun i hi => (g1 i (by omega)).trans (x1.1 i hi), fun k hk hz => ?_⟩
  rcases (show k = 0 ∨ k = 1 ∨ k = 2 ∨ k = 3 ∨ k = 4 ∨ k = 5 ∨ k = 6 ∨ k = 7 ∨ k = 8 ∨ k = 9 ∨ k = 10 ∨ k = 11 ∨ k = 12 ∨ k = 13 ∨ k = 14 ∨ k = 15 ∨ k = 16 ∨ k = 17 ∨ k = 18 ∨ k = 19 by omega) with rfl | rfl | rfl | rfl | rfl | rfl | rfl | rfl | rfl | rfl | rfl | rfl | rfl | rfl | rfl | rfl | rfl | rfl | rfl | rfl
  · rw [tyS_0] at hz ⊢
    have b9 := bN_lt p1 (k := 0) 4 (by decide) hz
    have e9 : s0.toInt.toNat + tyN p1 p2 p3 p4 p5 0 = s0.toInt.toNat + bN p1 0 := by rw [tyN_0]; try omega
    rw [e9]
    rw [g1 _ (by omega)]
    exact x1.2 0 (by decide) hz
  · rw [tyS_1] at hz ⊢
    have b9 := bN_lt p1 (k := 1) 4 (by decide) hz
    have e9 : s0.toInt.toNat + tyN p1 p2 p3 p4 p5 1 = s0.toInt.toNat + bN p1 1 := by rw [tyN_1]; try omega
    rw [e9]
    rw [g1 _ (by omega)]
    exact x1.2 1 (by decide) hz
  · rw [tyS_2] at hz ⊢
    have b9 := bN_lt p1 (k := 2) 4 (by decide) hz
    have e9 : s0.toInt.toNat + tyN p1 p2 p3 p4 p5 2 = s0.toInt.toNat + bN p1 2 := by rw [tyN_2]; try omega
    rw [e9]
    rw [g1 _ (by omega)]
    exact x1.2 2 (by decide) hz
  · rw [tyS_3] at hz ⊢
    have b9 := bN_lt p1 (k := 3) 4 (by decide) hz
    have e9 : s0.toInt.toNat + tyN p1 p2 p3 p4 p5 3 = s0.toInt.toNat + bN p1 3 := by rw [tyN_3]; try omega
    rw [e9]
    rw [g1 _ (by omega)]
    exact x1.2 3 (by decide) hz
  · rw [tyS_4] at hz ⊢
    have b9 := bN_lt p2 (k := 0) 4 (by decide) hz
    have e9 : s0.toInt.toNat + tyN p1 p2 p3 p4 p5 4 = r1.toInt.toNat + bN p2 0 := by rw [tyN_4]; try omega
    rw [e9]
    rw [g2 _ (by omega)]
    exact x2.2 0 (by decide) hz
  · rw [tyS_5] at hz ⊢
    have b9 := bN_lt p2 (k := 1) 4 (by decide) hz
    have e9 : s0.toInt.toNat + tyN p1 p2 p3 p4 p5 5 = r1.toInt.toNat + bN p2 1 := by rw [tyN_5]; try omega
    rw [e9]
    rw [g2 _ (by omega)]
    exact x2.2 1 (by decide) hz
  · rw [tyS_6] at hz ⊢
    have b9 := bN_lt p2 (k := 2) 4 (by decide) hz
    have e9 : s0.toInt.toNat + tyN p1 p2 p3 p4 p5 6 = r1.toInt.toNat + bN p2 2 := by rw [tyN_6]; try omega
    rw [e9]
    rw [g2 _ (by omega)]
    exact x2.2 2 (by decide) hz
  · rw [tyS_7] at hz ⊢
    have b9 := bN_lt p2 (k := 3) 4 (by decide) hz
    have e9 : s0.toInt.toNat + tyN p1 p2 p3 p4 p5 7 = r1.toInt.toNat + bN p2 3 := by rw [tyN_7]; try omega
    rw [e9]
    rw [g2 _ (by omega)]
    exact x2.2 3 (by decide) hz
  · rw [tyS_8] at hz ⊢
    have b9 := bN_lt p3 (k := 0) 4 (by decide) hz
    have e9 : s0.toInt.toNat + tyN p1 p2 p3 p4 p5 8 = r2.toInt.toNat + bN p3 0 := by rw [tyN_8]; try omega
    rw [e9]
    rw [g3 _ (by omega)]
    exact x3.2 0 (by decide) hz
  · rw [tyS_9] at hz ⊢
    have b9 := bN_lt p3 (k := 1) 4 (by decide) hz
    have e9 : s0.toInt.toNat + tyN p1 p2 p3 p4 p5 9 = r2.toInt.toNat + bN p3 1 := by rw [tyN_9]; try omega
    rw [e9]
    rw [g3 _ (by omega)]
    exact x3.2 1 (by decide) hz
  · rw [tyS_10] at hz ⊢
    have b9 := bN_lt p3 (k := 2) 4 (by decide) hz
    have e9 : s0.toInt.toNat + tyN p1 p2 p3 p4 p5 10 = r2.toInt.toNat + bN p3 2 := by rw [tyN_10]; try omega
    rw [e9]
    rw [g3 _ (by omega)]
    exact x3.2 2 (by decide) hz
  · rw [tyS_11] at hz ⊢
    have b9 := bN_lt p3 (k := 3) 4 (by decide) hz
    have e9 : s0.toInt.toNat + tyN p1 p2 p3 p4 p5 11 = r2.toInt.toNat + bN p3 3 := by rw [tyN_11]; try omega
    rw [e9]
    rw [g3 _ (by omega)]
    exact x3.2 3 (by decide) hz
  · rw [tyS_12] at hz ⊢
    have b9 := bN_lt p4 (k := 0) 4 (by decide) hz
    have e9 : s0.toInt.toNat + tyN p1 p2 p3 p4 p5 12 = r3.toInt.toNat + bN p4 0 := by rw [tyN_12]; try omega
    rw [e9]
    rw [g4 _ (by omega)]
    exact x4.2 0 (by decide) hz
  · rw [tyS_13] at hz ⊢
    have b9 := bN_lt p4 (k := 1) 4 (by decide) hz
    have e9 : s0.toInt.toNat + tyN p1 p2 p3 p4 p5 13 = r3.toInt.toNat + bN p4 1 := by rw [tyN_13]; try omega
    rw [e9]
    rw [g4 _ (by omega)]
    exact x4.2 1 (by decide) hz
  · rw [tyS_14] at hz ⊢
    have b9 := bN_lt p4 (k := 2) 4 (by decide) hz
    have e9 : s0.toInt.toNat + tyN p1 p2 p3 p4 p5 14 = r3.toInt.toNat + bN p4 2 := by rw [tyN_14]; try omega
    rw [e9]
    rw [g4 _ (by omega)]
    exact x4.2 2 (by decide) hz
  · rw [tyS_15] at hz ⊢
    have b9 := bN_lt p4 (k := 3) 4 (by decide) hz
    have e9 : s0.toInt.toNat + tyN p1 p2 p3 p4 p5 15 = r3.toInt.toNat + bN p4 3 := by rw [tyN_15]; try omega
    rw [e9]
    rw [g4 _ (by omega)]
    exact x4.2 3 (by decide) hz
  · rw [tyS_16] at hz ⊢
    have b9 := bN_lt p5 (k := 0) 4 (by decide) hz
    have e9 : s0.toInt.toNat + tyN p1 p2 p3 p4 p5 16 = r4.toInt.toNat + bN p5 0 := by rw [tyN_16]; try omega
    rw [e9]
    exact x5.2 0 (by decide) hz
  · rw [tyS_17] at hz ⊢
    have b9 := bN_lt p5 (k := 1) 4 (by decide) hz
    have e9 : s0.toInt.toNat + tyN p1 p2 p3 p4 p5 17 = r4.toInt.toNat + bN p5 1 := by rw [tyN_17]; try omega
    rw [e9]
    exact x5.2 1 (by decide) hz
  · rw [tyS_18] at hz ⊢
    have b9 := bN_lt p5 (k := 2) 4 (by decide) hz
    have e9 : s0.toInt.toNat + tyN p1 p2 p3 p4 p5 18 = r4.toInt.toNat + bN p5 2 := by rw [tyN_18]; try omega
    rw [e9]
    exact x5.2 2 (by decide) hz
  · rw [tyS_19] at hz ⊢
    have b9 := bN_lt p5 (k := 3) 4 (by decide) hz
    have e9 : s0.toInt.toNat + tyN p1 p2 p3 p4 p5 19 = r4.toInt.toNat + bN p5 3 := by rw [tyN_19]; try omega
    rw [e9]
    exact x5.2 3 (by decide) hz

set_option maxHeartbeats 4000000 in
set_option maxRecDepth 100000 in
theorem d_typedBehind3 (l : Launch) (dC : Nat → ClassId) (dI : Nat → Nat → Nat) (ad : Nat → Nat → Nat) (cid : Nat → ClassId) (a2 : Nat → Nat) (lx : List Nat) (sg : Nat → Int32) (gm : Nat → Nat → Int32) (lg : Nat → Nat → Int64) (x : Int32) (st : Int32) (fo : Int32) (hI : CI sg gm) (hvx : iv 0 0 x) (hvst : iv (-1) 1200 st) : CMt dC dI ad cid a2 lx l yX12_typedBehind wm_X12_typedBehind ({ frames := 0, cells := 1, slots := 6, locals := 0 }) [eV (ad 0) x, .int st, .int fo] sg gm lg (fun v u => ∃ r : Int32, v = some (.int r) ∧ ∃ (sg2 : Nat → Int32) (gm2 : Nat → Nat → Int32) (lg2 : Nat → Nat → Int64), u = (sg2, gm2, lg2) ∧ CI sg2 gm2 ∧ KS [] sg sg2 ∧ KS [43] gm gm2 ∧ KS [] lg lg2 ∧ (iv (-1) 1200 r) ∧ (st.toInt = -1 → gm2 43 = gm 43) ∧ (r.toInt = -1 ∨ TBX fo st.toInt (gm2 43) (gm 43) 4) ∧ (0 ≤ st.toInt → ∀ i : Nat, (i : Int) < st.toInt → gm2 43 i = gm 43 i) ∧ (TBH st fo r)) (fun _ _ => False) := by
  intro sz
  refine vx_ofW (cc := cX12_typedBehind) (maxL := 6) (ret := (some .int)) (by decide) rfl ?_
  intro p e s m args below meth c s₁ B hml hxt hv
  obtain ⟨rfl, hsz, hP, hK, hD0, hG⟩ := hv
  have hx := B.exec
  have hb := B.bytes
  have hr := B.returns
  have hts := atoms_spec (ws := wm_X12_typedBehind) B.pre
  have htb := fun (w : Cond) (h : w ∈ tb) => hts w (List.mem_cons_of_mem _ h)
  have hown : s.vm.findClass RX12 = some m.cls := findClass_of_methodNamed B.named
  have hlocks := B.notSynchronized
  subst hsz
  have hD := hD0.self (sz := s.heap.size)
  generalize hAe : va_A (cW ad cid a2 lx sg gm lg) s.heap.size = A at hD hG ⊢
  have hA : ∀ q : Nat, s.heap.size ≤ q → A q := fun q h => by rw [← hAe]; exact Or.inr h
  have hS : va_S A s.heap s.heap [] := va_S.rf
  have hl := lv_entry ([eV (ad 0) x, .int st, .int fo]) (n := 6) (by rw [show (lg_sl ([eV (ad 0) x, .int st, .int fo])).length = 3 from by simp [lg_sl, eV_cat, cat_i, cat_l]]; exact Nat.le_of_ble_eq_true rfl)
  rw [lg_entry_eq]
  generalize (lg_sl ([eV (ad 0) x, .int st, .int fo]) ++ List.replicate (6 - (lg_sl ([eV (ad 0) x, .int st, .int fo])).length) Slot.unset).toArray = ls at hl ⊢
  have hl : lv_has ls 6 [(0, eV (ad 0) x), (1, .int st), (2, .int fo)] := by simp [lv_args, eV_cat, cat_i, cat_l] at hl; exact hl
  have hj66 : ∀ (gm_j66 : Nat → Nat → Int32) (x5_66 : Int32) (x4_66 : Int32) (x3_66 : Int32) (_ : iv 1 255 x5_66) (_ : iv 0 24 x4_66) (_ : iv 0 1200 x3_66) (_ : iv 0 0 x) (_ : iv 0 1200 st) (_ : KS [43] gm gm_j66) (_ : CI sg gm_j66) (_ : ∀ i : Nat, (i : Int) < st.toInt → gm_j66 43 i = gm 43 i) (_ : ¬ BK fo 4 ∨ 1200 < st.toInt + (bN fo 4 : Int)) (H : Heap) (locs : List Loc) (ls : Array Slot), va_P (dC, dI) vwCl (cW ad cid a2 lx sg gm_j66 lg) H → va_D A (cW ad cid a2 lx sg gm_j66 lg) → va_S A s.heap H locs → lv_has ls 6 [(5, .int x5_66), (4, .int x4_66), (3, .int x3_66), (0, eV (ad 0) x), (1, .int st), (2, .int fo)] → W p l e (headSpec wm_X12_typedBehind ({ frames := 0, cells := 1, slots := 6, locals := 0 })).room s m ([eV (ad 0) x, .int st, .int fo] : List Value).toArray below meth c H locs 0 0 (vx_MQ below (cQx dC dI ad cid a2 lx (fun v u => ∃ r : Int32, v = some (.int r) ∧ ∃ (sg2 : Nat → Int32) (gm2 : Nat → Nat → Int32) (lg2 : Nat → Nat → Int64), u = (sg2, gm2, lg2) ∧ CI sg2 gm2 ∧ KS [] sg sg2 ∧ KS [43] gm gm2 ∧ KS [] lg lg2 ∧ (iv (-1) 1200 r) ∧ (st.toInt = -1 → gm2 43 = gm 43) ∧ (r.toInt = -1 ∨ TBX fo st.toInt (gm2 43) (gm 43) 4) ∧ (0 ≤ st.toInt → ∀ i : Nat, (i : Int) < st.toInt → gm2 43 i = gm 43 i) ∧ (TBH st fo r)) A) (cX dC dI ad cid a2 lx (fun _ _ => False) A) ([eV (ad 0) x, .int st, .int fo] : List Value).toArray s 1 6 A) (F0 m 66 ls []) := by
    intro gm_j66 x5_66 x4_66 x3_66 hx5_66 hx4_66 hx3_66 hsx0_66 hsx1_66 hkg_j66 hI_j66 hX hbad H locs ls hP hD hS hl
    refine lv_iconst (v := (-1)) hx hb dX12_typedBehind_66 (by decide) ?_
    exact W.nb (fun hN => W.widen (k := 1) (n := 6) (by decide) (by decide) (vx_ret (W.iret (v := (-1)) hx hb hr (fun t ht hW => ⟨⟨some (.int (-1)), (sg, gm_j66, lg), rfl, ⟨(-1), rfl, sg, gm_j66, lg, rfl, hI_j66, KS_rf, (KS_tr (L := [43]) KS_rf hkg_j66 (by decide)), KS_rf, (iv_w (iv_k (by decide) : iv (-1) (-1) (-1)) (by decide)), (fun q9 => absurd q9 (by have := i32_0; have := i32_1; have := i32_2; have := i32_m1; have := (hsx0_66).1; have := (hsx0_66).2; have := (hsx1_66).1; have := (hsx1_66).2; have := (hx5_66).1; have := (hx5_66).2; have := (hx4_66).1; have := (hx4_66).2; have := (hx3_66).1; have := (hx3_66).2; omega)), (Or.inl rfl), (fun _ => hX), (Or.inr ⟨by have := i32_0; have := i32_1; have := i32_2; have := i32_m1; have := (hsx0_66).1; have := (hsx0_66).2; have := (hsx1_66).1; have := (hsx1_66).2; have := (hx5_66).1; have := (hx5_66).2; have := (hx4_66).1; have := (hx4_66).2; have := (hx3_66).1; have := (hx3_66).2; omega, Or.inl ⟨rfl, hbad⟩⟩)⟩, by rw [ht]; exact hP, va_K.moved hW.alike hK, hD⟩, hS.F ht, by rw [ht]; exact hN⟩) hS.2.2 dX12_typedBehind_67)))
  have hj13 : ∀ (n : Nat) (gm_j13 : Nat → Nat → Int32) (x4_13 : Int32) (x3_13 : Int32) (_ : (x4_13.toInt + 8).toNat = n) (_ : iv (-8) 24 x4_13) (_ : iv 0 1200 x3_13) (_ : iv 0 0 x) (_ : iv 0 1200 st) (_ : KS [43] gm gm_j13) (_ : CI sg gm_j13) (_ : TBX fo st.toInt (gm_j13 43) (gm 43) (((24 - x4_13.toInt) / 8).toNat)) (_ : x4_13.toInt % 8 = 0) (_ : x3_13.toInt = st.toInt + (bN fo ((24 - x4_13.toInt) / 8).toNat : Int)) (_ : BK fo ((24 - x4_13.toInt) / 8).toNat) (H : Heap) (locs : List Loc) (ls : Array Slot), va_P (dC, dI) vwCl (cW ad cid a2 lx sg gm_j13 lg) H → va_D A (cW ad cid a2 lx sg gm_j13 lg) → va_S A s.heap H locs → lv_has ls 6 [(4, .int x4_13), (3, .int x3_13), (0, eV (ad 0) x), (1, .int st), (2, .int fo)] → W p l e (headSpec wm_X12_typedBehind ({ frames := 0, cells := 1, slots := 6, locals := 0 })).room s m ([eV (ad 0) x, .int st, .int fo] : List Value).toArray below meth c H locs 0 0 (vx_MQ below (cQx dC dI ad cid a2 lx (fun v u => ∃ r : Int32, v = some (.int r) ∧ ∃ (sg2 : Nat → Int32) (gm2 : Nat → Nat → Int32) (lg2 : Nat → Nat → Int64), u = (sg2, gm2, lg2) ∧ CI sg2 gm2 ∧ KS [] sg sg2 ∧ KS [43] gm gm2 ∧ KS [] lg lg2 ∧ (iv (-1) 1200 r) ∧ (st.toInt = -1 → gm2 43 = gm 43) ∧ (r.toInt = -1 ∨ TBX fo st.toInt (gm2 43) (gm 43) 4) ∧ (0 ≤ st.toInt → ∀ i : Nat, (i : Int) < st.toInt → gm2 43 i = gm 43 i) ∧ (TBH st fo r)) A) (cX dC dI ad cid a2 lx (fun _ _ => False) A) ([eV (ad 0) x, .int st, .int fo] : List Value).toArray s 1 6 A) (F0 m 13 ls []) := by
    intro n
    induction n using Nat.strongRecOn with
    | ind n ih13 =>
      intro gm_j13 x4_13 x3_13 hn13 hx4_13 hx3_13 hsx0_13 hsx1_13 hkg_j13 hI_j13 hX hd hc hkb H locs ls hP hD hS hl
      have hj80 : ∀ (gm_j80 : Nat → Nat → Int32) (x5_80 : Int32) (x3_80 : Int32) (_ : iv 0 126 x5_80) (_ : iv 0 24 x4_13) (_ : iv 0 1200 x3_80) (_ : iv 0 0 x) (_ : iv 0 1200 st) (_ : KS [43] gm gm_j80) (_ : CI sg gm_j80) (_ : TBX fo st.toInt (gm_j80 43) (gm 43) (((24 - x4_13.toInt) / 8).toNat + 1)) (_ : x5_80 = byC fo x4_13) (_ : (x5_80.toInt = 0 ∨ x5_80.toInt = 10 ∨ 32 ≤ x5_80.toInt ∧ x5_80.toInt ≤ 126)) (_ : x3_80.toInt = st.toInt + (bN fo (((24 - x4_13.toInt) / 8).toNat + 1) : Int)) (H : Heap) (locs : List Loc) (ls : Array Slot), va_P (dC, dI) vwCl (cW ad cid a2 lx sg gm_j80 lg) H → va_D A (cW ad cid a2 lx sg gm_j80 lg) → va_S A s.heap H locs → lv_has ls 6 [(5, .int x5_80), (4, .int x4_13), (3, .int x3_80), (0, eV (ad 0) x), (1, .int st), (2, .int fo)] → W p l e (headSpec wm_X12_typedBehind ({ frames := 0, cells := 1, slots := 6, locals := 0 })).room s m ([eV (ad 0) x, .int st, .int fo] : List Value).toArray below meth c H locs 0 0 (vx_MQ below (cQx dC dI ad cid a2 lx (fun v u => ∃ r : Int32, v = some (.int r) ∧ ∃ (sg2 : Nat → Int32) (gm2 : Nat → Nat → Int32) (lg2 : Nat → Nat → Int64), u = (sg2, gm2, lg2) ∧ CI sg2 gm2 ∧ KS [] sg sg2 ∧ KS [43] gm gm2 ∧ KS [] lg lg2 ∧ (iv (-1) 1200 r) ∧ (st.toInt = -1 → gm2 43 = gm 43) ∧ (r.toInt = -1 ∨ TBX fo st.toInt (gm2 43) (gm 43) 4) ∧ (0 ≤ st.toInt → ∀ i : Nat, (i : Int) < st.toInt → gm2 43 i = gm 43 i) ∧ (TBH st fo r)) A) (cX dC dI ad cid a2 lx (fun _ _ => False) A) ([eV (ad 0) x, .int st, .int fo] : List Value).toArray s 1 6 A) (F0 m 80 ls []) := by
        intro gm_j80 x5_80 x3_80 hx5_80 hsx4_80 hx3_80 hsx0_80 hsx1_80 hkg_j80 hI_j80 hX h5 hk8 hc8 H locs ls hP hD hS hl
        obtain ⟨z_1, ez_1⟩ : ∃ z : Int32, z = x4_13 + (-8) := ⟨_, rfl⟩
        have hz_1 : iv (-8) 16 z_1 := iv_of ez_1 (iv_add hsx4_80 (iv_k (by decide) : iv (-8) (-8) (-8)) (by decide))
        have tz_1 : z_1.toInt = x4_13.toInt - 8 := by rw [ez_1]; exact iv_addE hsx4_80 (iv_k (by decide) : iv (-8) (-8) (-8)) (by decide)
        refine lv_iinc (v := z_1) (lv' := [(4, .int z_1), (5, .int x5_80), (3, .int x3_80), (0, eV (ad 0) x), (1, .int st), (2, .int fo)]) hx hb dX12_typedBehind_80 hl (k := 1) rfl ez_1.symm (by decide) rfl (fun ls hl => ?_)
        refine lv_goto (tgt := 13) hx hb dX12_typedBehind_83 (by decide) ?_
        exact ih13 _ (by rw [← hn13]; exact (by have := i32_0; have := i32_1; have := i32_2; have := i32_m1; have := (hsx0_80).1; have := (hsx0_80).2; have := (hsx1_80).1; have := (hsx1_80).2; have := (hsx4_80).1; have := (hsx4_80).2; have := (hx3_13).1; have := (hx3_13).2; have := (hx5_80).1; have := (hx5_80).2; have := (hx3_80).1; have := (hx3_80).2; have := (hz_1).1; have := (hz_1).2; omega)) gm_j80 z_1 x3_80 rfl (iv_w hz_1 (by decide)) hx3_80 hsx0_80 hsx1_80 (KS_tr (L := [43]) KS_rf hkg_j80 (by decide)) hI_j80 ((by { rw [show ((24 - z_1.toInt) / 8).toNat = ((24 - x4_13.toInt) / 8).toNat + 1 from (by { have q1 := tz_1; have := i32_0; have := i32_1; have := i32_2; have := i32_m1; have := (hsx0_80).1; have := (hsx0_80).2; have := (hsx1_80).1; have := (hsx1_80).2; have := (hsx4_80).1; have := (hsx4_80).2; have := (hx3_13).1; have := (hx3_13).2; have := (hx5_80).1; have := (hx5_80).2; have := (hx3_80).1; have := (hx3_80).2; have := (hz_1).1; have := (hz_1).2; omega })]; exact hX })) ((by { have q1 := tz_1; have := i32_0; have := i32_1; have := i32_2; have := i32_m1; have := (hsx0_80).1; have := (hsx0_80).2; have := (hsx1_80).1; have := (hsx1_80).2; have := (hsx4_80).1; have := (hsx4_80).2; have := (hx3_13).1; have := (hx3_13).2; have := (hx5_80).1; have := (hx5_80).2; have := (hx3_80).1; have := (hx3_80).2; have := (hz_1).1; have := (hz_1).2; omega })) ((by { rw [show ((24 - z_1.toInt) / 8).toNat = ((24 - x4_13.toInt) / 8).toNat + 1 from (by { have q1 := tz_1; have := i32_0; have := i32_1; have := i32_2; have := i32_m1; have := (hsx0_80).1; have := (hsx0_80).2; have := (hsx1_80).1; have := (hsx1_80).2; have := (hsx4_80).1; have := (hsx4_80).2; have := (hx3_13).1; have := (hx3_13).2; have := (hx5_80).1; have := (hx5_80).2; have := (hx3_80).1; have := (hx3_80).2; have := (hz_1).1; have := (hz_1).2; omega })]; exact hc8 })) ((by { rw [show ((24 - z_1.toInt) / 8).toNat = ((24 - x4_13.toInt) / 8).toNat + 1 from (by { have q1 := tz_1; have := i32_0; have := i32_1; have := i32_2; have := i32_m1; have := (hsx0_80).1; have := (hsx0_80).2; have := (hsx1_80).1; have := (hsx1_80).2; have := (hsx4_80).1; have := (hsx4_80).2; have := (hx3_13).1; have := (hx3_13).2; have := (hx5_80).1; have := (hx5_80).2; have := (hx3_80).1; have := (hx3_80).2; have := (hz_1).1; have := (hz_1).2; omega })]; exact by_k hsx4_80 hd hkb (by rw [← h5]; exact hk8) })) _ _ _ hP hD hS (lv_sub hl [0, 2, 3, 4, 5] rfl)
      have hj57 : ∀ (gm_j57 : Nat → Nat → Int32) (x5_57 : Int32) (_ : iv 10 126 x5_57) (_ : iv 0 24 x4_13) (_ : iv 0 1200 x3_13) (_ : iv 0 0 x) (_ : iv 0 1200 st) (_ : KS [43] gm gm_j57) (_ : CI sg gm_j57) (_ : TBX fo st.toInt (gm_j57 43) (gm 43) (((24 - x4_13.toInt) / 8).toNat)) (_ : x5_57 = byC fo x4_13) (_ : (x5_57.toInt = 0 ∨ x5_57.toInt = 10 ∨ 32 ≤ x5_57.toInt ∧ x5_57.toInt ≤ 126)) (_ : ¬ x5_57 = 0) (H : Heap) (locs : List Loc) (ls : Array Slot), va_P (dC, dI) vwCl (cW ad cid a2 lx sg gm_j57 lg) H → va_D A (cW ad cid a2 lx sg gm_j57 lg) → va_S A s.heap H locs → lv_has ls 6 [(5, .int x5_57), (4, .int x4_13), (3, .int x3_13), (0, eV (ad 0) x), (1, .int st), (2, .int fo)] → W p l e (headSpec wm_X12_typedBehind ({ frames := 0, cells := 1, slots := 6, locals := 0 })).room s m ([eV (ad 0) x, .int st, .int fo] : List Value).toArray below meth c H locs 0 0 (vx_MQ below (cQx dC dI ad cid a2 lx (fun v u => ∃ r : Int32, v = some (.int r) ∧ ∃ (sg2 : Nat → Int32) (gm2 : Nat → Nat → Int32) (lg2 : Nat → Nat → Int64), u = (sg2, gm2, lg2) ∧ CI sg2 gm2 ∧ KS [] sg sg2 ∧ KS [43] gm gm2 ∧ KS [] lg lg2 ∧ (iv (-1) 1200 r) ∧ (st.toInt = -1 → gm2 43 = gm 43) ∧ (r.toInt = -1 ∨ TBX fo st.toInt (gm2 43) (gm 43) 4) ∧ (0 ≤ st.toInt → ∀ i : Nat, (i : Int) < st.toInt → gm2 43 i = gm 43 i) ∧ (TBH st fo r)) A) (cX dC dI ad cid a2 lx (fun _ _ => False) A) ([eV (ad 0) x, .int st, .int fo] : List Value).toArray s 1 6 A) (F0 m 57 ls []) := by
        intro gm_j57 x5_57 hx5_57 hsx4_57 hsx3_57 hsx0_57 hsx1_57 hkg_j57 hI_j57 hX h5 hk8 hnz H locs ls hP hD hS hl
        refine lv_iload_n hx hb dX12_typedBehind_57 rfl (lv_at hl 2 rfl) ?_
        refine ec_aload_n hx hb dX12_typedBehind_58 rfl (lv_at hl 3 rfl) ?_
        refine cr_get (t := 0) (j := 1) (C := RX12) (T := TX12) (N := 12) (v := eV (ad 13) 0) hx hb htb inX12 hown hK hP hsx0_57 (by decide) (by decide) (by decide) rfl (by decide) (htb _ kw_418) (cV_c rfl (by decide) (by rw [show cMu 0 1 = 0 from rfl, Nat.zero_mul]; rfl)) dX12_typedBehind_59 ?_
        refine cr_alen (t := 13) (z := 1200) hx hb hK hP (iv_k (by decide) : iv 0 0 0) (by decide) (by decide) (by decide) rfl dX12_typedBehind_62 ?_
        refine lv_icmp_lt (tgt := 68) hx hb dX12_typedBehind_63 (by decide) (fun c_2 => ?_) (fun c_2 => ?_)
        · have h_3 : iv 0 1199 x3_13 := iv_ltL c_2 hsx3_57 (iv_k (by decide) : iv 1200 1200 1200) (by decide)
          refine ec_aload_n hx hb dX12_typedBehind_68 rfl (lv_at hl 3 rfl) ?_
          refine cr_get (t := 0) (j := 1) (C := RX12) (T := TX12) (N := 12) (v := eV (ad 13) 0) hx hb htb inX12 hown hK hP hsx0_57 (by decide) (by decide) (by decide) rfl (by decide) (htb _ kw_418) (cV_c rfl (by decide) (by rw [show cMu 0 1 = 0 from rfl, Nat.zero_mul]; rfl)) dX12_typedBehind_69 ?_
          refine lv_iload_n hx hb dX12_typedBehind_72 rfl (lv_at hl 2 rfl) ?_
          refine lv_iload hx hb dX12_typedBehind_73 (lv_at hl 0 rfl) ?_
          refine lv_i2c (v := ((x5_57 : Int32).toUInt32 % 65536).toInt32) hx hb dX12_typedBehind_75 rfl ?_
          refine lv_topi (fun z_4 ez_4 => ?_)
          have hz_4 : iv 0 65535 z_4 := iv_of ez_4 (iv_i2c x5_57)
          refine cr_cast (t := 13) (k := 43) (n9 := (x3_13 : Int32).toNatClampNeg) (z := z_4) hx hb hK hP hD hS (iv_k (by decide) : iv 0 0 0) (by decide) (by decide) (by decide) rfl rfl rfl (show vp_in x3_13 (cLen 13) from (show vp_in x3_13 1200 from (iv_in h_3 (by decide)))) (Or.inl rfl) (by rw [show cAw 13 = 0 from rfl, Nat.zero_mul, Nat.zero_add]) dX12_typedBehind_76 (fun gm_5 H locs egm_5 hP hD hS => ?_)
          rw [vnc hz_4] at egm_5
          have hI_gm_5 := CI_st hI_j57 egm_5 hz_4 (by decide)
          obtain ⟨z_6, ez_6⟩ : ∃ z : Int32, z = x3_13 + 1 := ⟨_, rfl⟩
          have hz_6 : iv 1 1200 z_6 := iv_of ez_6 (iv_add h_3 (iv_k (by decide) : iv 1 1 1) (by decide))
          have tz_6 : z_6.toInt = x3_13.toInt + 1 := by rw [ez_6]; exact iv_addE h_3 (iv_k (by decide) : iv 1 1 1) (by decide)
          refine lv_iinc (v := z_6) (lv' := [(3, .int z_6), (5, .int x5_57), (4, .int x4_13), (0, eV (ad 0) x), (1, .int st), (2, .int fo)]) hx hb dX12_typedBehind_77 hl (k := 2) rfl ez_6.symm (by decide) rfl (fun ls hl => ?_)
          exact hj80 gm_5 x5_57 z_6 (iv_w hx5_57 (by decide)) hsx4_57 (iv_w hz_6 (by decide)) hsx0_57 hsx1_57 (KS_up (KS_tr (L := [43]) KS_rf hkg_j57 (by decide)) egm_5 (by decide)) hI_gm_5 ((TBX_p (z := x3_13) (v := z_4) hsx4_57 hd (by have := i32_0; have := i32_1; have := i32_2; have := i32_m1; have := (hsx0_57).1; have := (hsx0_57).2; have := (hsx1_57).1; have := (hsx1_57).2; have := (hsx4_57).1; have := (hsx4_57).2; have := (h_3).1; have := (h_3).2; have := (hx5_57).1; have := (hx5_57).2; have := (hz_4).1; have := (hz_4).2; have := (hz_6).1; have := (hz_6).2; omega) hX (by rw [i2c_e (show iv 0 65535 x5_57 from (iv_w hx5_57 (by decide))) ez_4]; exact h5) hc (show gm_5 43 = upd (gm_j57 43) (x3_13 : Int32).toNatClampNeg z_4 from ((up_at egm_5).trans (by rw [show gm_j57 43 = gm_j57 43 from rfl]))))) (h5) (hk8) ((by { obtain ⟨q1, q2⟩ := by_s (fo := fo) hsx4_57 hd; rw [← h5] at q2; rw [if_neg hnz] at q2; have := tz_6; have := i32_0; have := i32_1; have := i32_2; have := i32_m1; have := (hsx0_57).1; have := (hsx0_57).2; have := (hsx1_57).1; have := (hsx1_57).2; have := (hsx4_57).1; have := (hsx4_57).2; have := (h_3).1; have := (h_3).2; have := (hx5_57).1; have := (hx5_57).2; have := (hz_4).1; have := (hz_4).2; have := (hz_6).1; have := (hz_6).2; omega })) _ _ _ hP hD hS (lv_sub hl [1, 2, 0, 3, 4, 5] rfl)
        · have h_7 : iv 1200 1200 x3_13 := iv_leR (i32_ge c_2) (iv_k (by decide) : iv 1200 1200 1200) hsx3_57 (by decide)
          exact hj66 gm_j57 x5_57 x4_13 x3_13 (iv_w hx5_57 (by decide)) hsx4_57 (iv_w h_7 (by decide)) hsx0_57 hsx1_57 (KS_tr (L := [43]) KS_rf hkg_j57 (by decide)) hI_j57 (hX.1) ((Or.inr (by { obtain ⟨q1, q2⟩ := by_s (fo := fo) hsx4_57 hd; rw [← h5, if_neg hnz] at q2; have q3 := bN_mono fo _ 4 (show ((24 - x4_13.toInt) / 8).toNat + 1 ≤ 4 from q1); have := i32_0; have := i32_1; have := i32_2; have := i32_m1; have := (hsx0_57).1; have := (hsx0_57).2; have := (hsx1_57).1; have := (hsx1_57).2; have := (hsx4_57).1; have := (hsx4_57).2; have := (h_7).1; have := (h_7).2; have := (hx5_57).1; have := (hx5_57).2; omega }))) _ _ _ hP hD hS (lv_sub hl [0, 1, 2, 3, 4, 5] rfl)
      refine lv_iload hx hb dX12_typedBehind_13 (lv_at hl 0 rfl) ?_
      refine lv_if_lt (tgt := 86) hx hb dX12_typedBehind_15 (by decide) (fun c_8 => ?_) (fun c_8 => ?_)
      · have h_9 : iv (-8) (-1) x4_13 := iv_ltL c_8 hx4_13 (iv_k (by decide) : iv 0 0 0) (by decide)
        refine lv_iload_n hx hb dX12_typedBehind_86 rfl (lv_at hl 1 rfl) ?_
        exact W.nb (fun hN => W.widen (k := 1) (n := 6) (by decide) (by decide) (vx_ret (W.iret (v := x3_13) hx hb hr (fun t ht hW => ⟨⟨some (.int x3_13), (sg, gm_j13, lg), rfl, ⟨x3_13, rfl, sg, gm_j13, lg, rfl, hI_j13, KS_rf, (KS_tr (L := [43]) KS_rf hkg_j13 (by decide)), KS_rf, (iv_w hx3_13 (by decide)), (fun q9 => absurd q9 (by have := i32_0; have := i32_1; have := i32_2; have := i32_m1; have := (hsx0_13).1; have := (hsx0_13).2; have := (hsx1_13).1; have := (hsx1_13).2; have := (h_9).1; have := (h_9).2; have := (hx3_13).1; have := (hx3_13).2; omega)), (Or.inr (by { rw [show ((24 - x4_13.toInt) / 8).toNat = 4 from (by { have := i32_0; have := i32_1; have := i32_2; have := i32_m1; have := (hsx0_13).1; have := (hsx0_13).2; have := (hsx1_13).1; have := (hsx1_13).2; have := (h_9).1; have := (h_9).2; have := (hx3_13).1; have := (hx3_13).2; omega })] at hX; exact hX })), (fun _ => hX.1), (Or.inr ⟨by have := i32_0; have := i32_1; have := i32_2; have := i32_m1; have := (hsx0_13).1; have := (hsx0_13).2; have := (hsx1_13).1; have := (hsx1_13).2; have := (h_9).1; have := (h_9).2; have := (hx3_13).1; have := (hx3_13).2; omega, Or.inr (by { rw [show ((24 - x4_13.toInt) / 8).toNat = 4 from (by { have := i32_0; have := i32_1; have := i32_2; have := i32_m1; have := (hsx0_13).1; have := (hsx0_13).2; have := (hsx1_13).1; have := (hsx1_13).2; have := (h_9).1; have := (h_9).2; have := (hx3_13).1; have := (hx3_13).2; omega })] at hc hkb; exact ⟨hc, hkb, (by { have := i32_0; have := i32_1; have := i32_2; have := i32_m1; have := (hsx0_13).1; have := (hsx0_13).2; have := (hsx1_13).1; have := (hsx1_13).2; have := (h_9).1; have := (h_9).2; have := (hx3_13).1; have := (hx3_13).2; omega })⟩ })⟩)⟩, by rw [ht]; exact hP, va_K.moved hW.alike hK, hD⟩, hS.F ht, by rw [ht]; exact hN⟩) hS.2.2 dX12_typedBehind_87)))
      · have h_10 : iv 0 24 x4_13 := iv_leR (i32_ge c_8) (iv_k (by decide) : iv 0 0 0) hx4_13 (by decide)
        refine lv_iload_n hx hb dX12_typedBehind_18 rfl (lv_at hl 4 rfl) ?_
        refine lv_iload hx hb dX12_typedBehind_19 (lv_at hl 0 rfl) ?_
        refine lv_iushr (v := ((fo).toUInt32 >>> ((x4_13 : Int32).toUInt32 &&& Int32.toUInt32 31)).toInt32) hx hb dX12_typedBehind_21 rfl ?_
        refine lv_topi (fun z_11 ez_11 => ?_)
        refine lv_sipush (v := 255) hx hb dX12_typedBehind_22 (by decide) ?_
        refine lv_iand hx hb dX12_typedBehind_25 ?_
        refine lv_topi (fun z_12 ez_12 => ?_)
        have hz_12 : iv 0 255 z_12 := iv_of ez_12 (iv_255 _)
        have h5 : z_12 = byC fo x4_13 := by unfold byC; rw [ez_12, ez_11]
        refine lv_istore (i := 5) (lv' := [(5, .int z_12), (4, .int x4_13), (3, .int x3_13), (0, eV (ad 0) x), (1, .int st), (2, .int fo)]) hx hb dX12_typedBehind_26 hl (by decide) rfl (fun ls hl => ?_)
        refine lv_iload hx hb dX12_typedBehind_28 (lv_at hl 0 rfl) ?_
        refine lv_if_ne (tgt := 36) hx hb dX12_typedBehind_30 (by decide) (fun c_13 => ?_) (fun c_13 => ?_)
        · have h_14 : iv 1 255 z_12 := iv_neL c_13 hz_12 (by decide)
          refine lv_iload hx hb dX12_typedBehind_36 (lv_at hl 0 rfl) ?_
          refine lv_bipush (v := 10) hx hb dX12_typedBehind_38 (by decide) ?_
          refine lv_icmp_eq (tgt := 57) hx hb dX12_typedBehind_40 (by decide) (fun c_15 => ?_) (fun c_15 => ?_)
          · have h_16 : iv 10 10 z_12 := iv_eq c_15 h_14 (iv_k (by decide) : iv 10 10 10) (by decide)
            exact hj57 gm_j13 z_12 (iv_w h_16 (by decide)) h_10 hx3_13 hsx0_13 hsx1_13 (KS_tr (L := [43]) KS_rf hkg_j13 (by decide)) hI_j13 (hX) (h5) (by have := i32_0; have := i32_1; have := i32_2; have := i32_m1; have := (hsx0_13).1; have := (hsx0_13).2; have := (hsx1_13).1; have := (hsx1_13).2; have := (h_10).1; have := (h_10).2; have := (hx3_13).1; have := (hx3_13).2; have := (h_16).1; have := (h_16).2; omega) (c_13) _ _ _ hP hD hS (lv_sub hl [0, 1, 2, 3, 4, 5] rfl)
          · have d_17 : ¬ (z_12 : Int32).toInt = 10 := lv_neT c_15 rfl
            refine lv_iload hx hb dX12_typedBehind_43 (lv_at hl 0 rfl) ?_
            refine lv_bipush (v := 32) hx hb dX12_typedBehind_45 (by decide) ?_
            refine lv_icmp_lt (tgt := 66) hx hb dX12_typedBehind_47 (by decide) (fun c_18 => ?_) (fun c_18 => ?_)
            · have h_19 : iv 1 31 z_12 := iv_ltL c_18 h_14 (iv_k (by decide) : iv 32 32 32) (by decide)
              exact hj66 gm_j13 z_12 x4_13 x3_13 (iv_w h_19 (by decide)) h_10 hx3_13 hsx0_13 hsx1_13 (KS_tr (L := [43]) KS_rf hkg_j13 (by decide)) hI_j13 (hX.1) ((Or.inl (by_bad h_10 hd (by { rw [← h5]; have n10 : ¬ z_12.toInt = 10 := fun q => c_15 (Int32.toInt_inj.mp q); have := i32_0; have := i32_1; have := i32_2; have := i32_m1; have := (hsx0_13).1; have := (hsx0_13).2; have := (hsx1_13).1; have := (hsx1_13).2; have := (h_10).1; have := (h_10).2; have := (hx3_13).1; have := (hx3_13).2; have := (h_19).1; have := (h_19).2; omega })))) _ _ _ hP hD hS (lv_sub hl [0, 1, 2, 3, 4, 5] rfl)
            · have h_20 : iv 32 255 z_12 := iv_leR (i32_ge c_18) (iv_k (by decide) : iv 32 32 32) h_14 (by decide)
              refine lv_iload hx hb dX12_typedBehind_50 (lv_at hl 0 rfl) ?_
              refine lv_bipush (v := 126) hx hb dX12_typedBehind_52 (by decide) ?_
              refine lv_icmp_gt (tgt := 66) hx hb dX12_typedBehind_54 (by decide) (fun c_21 => ?_) (fun c_21 => ?_)
              · have h_22 : iv 127 255 z_12 := iv_ltR c_21 (iv_k (by decide) : iv 126 126 126) h_20 (by decide)
                exact hj66 gm_j13 z_12 x4_13 x3_13 (iv_w h_22 (by decide)) h_10 hx3_13 hsx0_13 hsx1_13 (KS_tr (L := [43]) KS_rf hkg_j13 (by decide)) hI_j13 (hX.1) ((Or.inl (by_bad h_10 hd (by { rw [← h5]; have n10 : ¬ z_12.toInt = 10 := fun q => c_15 (Int32.toInt_inj.mp q); have := i32_0; have := i32_1; have := i32_2; have := i32_m1; have := (hsx0_13).1; have := (hsx0_13).2; have := (hsx1_13).1; have := (hsx1_13).2; have := (h_10).1; have := (h_10).2; have := (hx3_13).1; have := (hx3_13).2; have := (h_22).1; have := (h_22).2; omega })))) _ _ _ hP hD hS (lv_sub hl [0, 1, 2, 3, 4, 5] rfl)
              · have h_23 : iv 32 126 z_12 := iv_leL (i32_ge c_21) h_20 (iv_k (by decide) : iv 126 126 126) (by decide)
                exact hj57 gm_j13 z_12 (iv_w h_23 (by decide)) h_10 hx3_13 hsx0_13 hsx1_13 (KS_tr (L := [43]) KS_rf hkg_j13 (by decide)) hI_j13 (hX) (h5) (by have := i32_0; have := i32_1; have := i32_2; have := i32_m1; have := (hsx0_13).1; have := (hsx0_13).2; have := (hsx1_13).1; have := (hsx1_13).2; have := (h_10).1; have := (h_10).2; have := (hx3_13).1; have := (hx3_13).2; have := (h_23).1; have := (h_23).2; omega) (c_13) _ _ _ hP hD hS (lv_sub hl [0, 1, 2, 3, 4, 5] rfl)
        · have h_24 : iv 0 0 z_12 := iv_eq c_13 hz_12 (iv_k (by decide) : iv 0 0 0) (by decide)
          have hzz : z_12 = 0 := c_13
          refine lv_goto (tgt := 80) hx hb dX12_typedBehind_33 (by decide) ?_
          exact hj80 gm_j13 z_12 x3_13 (iv_w h_24 (by decide)) h_10 hx3_13 hsx0_13 hsx1_13 (KS_tr (L := [43]) KS_rf hkg_j13 (by decide)) hI_j13 ((TBX_z h_10 hd hX (by rw [← h5]; exact hzz))) (h5) (by have := i32_0; have := i32_1; have := i32_2; have := i32_m1; have := (hsx0_13).1; have := (hsx0_13).2; have := (hsx1_13).1; have := (hsx1_13).2; have := (h_10).1; have := (h_10).2; have := (hx3_13).1; have := (hx3_13).2; have := (h_24).1; have := (h_24).2; omega) ((by { obtain ⟨q1, q2⟩ := by_s (fo := fo) h_10 hd; rw [← h5] at q2; rw [if_pos (by exact hzz)] at q2; have := i32_0; have := i32_1; have := i32_2; have := i32_m1; have := (hsx0_13).1; have := (hsx0_13).2; have := (hsx1_13).1; have := (hsx1_13).2; have := (h_10).1; have := (h_10).2; have := (hx3_13).1; have := (hx3_13).2; have := (h_24).1; have := (h_24).2; omega })) _ _ _ hP hD hS (lv_sub hl [0, 1, 2, 3, 4, 5] rfl)
  refine lv_iload_n hx hb dX12_typedBehind_0 rfl (lv_at hl 1 rfl) ?_
  refine lv_iconst (v := (-1)) hx hb dX12_typedBehind_1 (by decide) ?_
  refine lv_icmp_ne (tgt := 7) hx hb dX12_typedBehind_2 (by decide) (fun c_25 => ?_) (fun c_25 => ?_)
  · have h_26 : iv 0 1200 st := iv_neL c_25 hvst (by decide)
    refine lv_iload_n hx hb dX12_typedBehind_7 rfl (lv_at hl 1 rfl) ?_
    refine lv_istore_n (i := 3) (lv' := [(3, .int st), (0, eV (ad 0) x), (1, .int st), (2, .int fo)]) hx hb dX12_typedBehind_8 rfl hl (by decide) rfl (fun ls hl => ?_)
    refine lv_bipush (v := 24) hx hb dX12_typedBehind_9 (by decide) ?_
    refine lv_istore (i := 4) (lv' := [(4, .int 24), (3, .int st), (0, eV (ad 0) x), (1, .int st), (2, .int fo)]) hx hb dX12_typedBehind_11 hl (by decide) rfl (fun ls hl => ?_)
    exact hj13 _ gm 24 st rfl (iv_w (iv_k (by decide) : iv 24 24 24) (by decide)) h_26 hvx h_26 KS_rf hI (TBX_0) ((by decide)) ((by { show _ = _ + ((0 : Nat) : Int); omega })) ((fun j hj => absurd hj (Nat.not_lt_zero j))) _ _ _ hP hD hS (lv_sub hl [0, 1, 2, 3, 4] rfl)
  · have h_27 : iv (-1) (-1) st := iv_eq c_25 hvst (iv_k (by decide) : iv (-1) (-1) (-1)) (by decide)
    refine lv_iconst (v := (-1)) hx hb dX12_typedBehind_5 (by decide) ?_
    exact W.nb (fun hN => W.widen (k := 1) (n := 6) (by decide) (by decide) (vx_ret (W.iret (v := (-1)) hx hb hr (fun t ht hW => ⟨⟨some (.int (-1)), (sg, gm, lg), rfl, ⟨(-1), rfl, sg, gm, lg, rfl, hI, KS_rf, KS_rf, KS_rf, (iv_w (iv_k (by decide) : iv (-1) (-1) (-1)) (by decide)), (fun _ => rfl), (Or.inl rfl), (fun q9 => absurd q9 (by have := i32_0; have := i32_1; have := i32_2; have := i32_m1; have := (hvx).1; have := (hvx).2; have := (h_27).1; have := (h_27).2; omega)), (Or.inl ⟨by have := i32_0; have := i32_1; have := i32_2; have := i32_m1; have := (hvx).1; have := (hvx).2; have := (h_27).1; have := (h_27).2; omega, rfl⟩)⟩, by rw [ht]; exact hP, va_K.moved hW.alike hK, hD⟩, hS.F ht, by rw [ht]; exact hN⟩) hS.2.2 dX12_typedBehind_6)))

theorem KP5 {p1 p2 p3 p4 s0 r1 r2 r3 r4 : Int32} {f0 f1 f2 f3 f4 f5 : Nat → Int32} (h0 : 0 ≤ s0.toInt) (t1 : TBH s0 p1 r1) (t2 : TBH r1 p2 r2) (t3 : TBH r2 p3 r3) (t4 : TBH r3 p4 r4) (e1 : ∀ i : Nat, (i : Int) < s0.toInt → f1 i = f0 i) (e2 : (r1.toInt = -1 → f2 = f1) ∧ (0 ≤ r1.toInt → ∀ i : Nat, (i : Int) < r1.toInt → f2 i = f1 i)) (e3 : (r2.toInt = -1 → f3 = f2) ∧ (0 ≤ r2.toInt → ∀ i : Nat, (i : Int) < r2.toInt → f3 i = f2 i)) (e4 : (r3.toInt = -1 → f4 = f3) ∧ (0 ≤ r3.toInt → ∀ i : Nat, (i : Int) < r3.toInt → f4 i = f3 i)) (e5 : (r4.toInt = -1 → f5 = f4) ∧ (0 ≤ r4.toInt → ∀ i : Nat, (i : Int) < r4.toInt → f5 i = f4 i)) : ∀ i : Nat, (i : Int) < s0.toInt → f5 i = f0 i := by
  have k : ∀ {a b fo : Int32}, TBH a fo b → (s0.toInt ≤ a.toInt ∨ a.toInt = -1) → (s0.toInt ≤ b.toInt ∨ b.toInt = -1) := by
    intro a b fo t h
    rcases t with c | ⟨c, d | d⟩
    · exact Or.inr c.2
    · exact Or.inr d.1
    · have := d.1; omega
  have k1 := k t1 (Or.inl (Int.le_refl _))
  have k2 := k t2 k1
  have k3 := k t3 k2
  have k4 := k t4 k3
  have st : ∀ {a : Int32} {f g : Nat → Int32}, (s0.toInt ≤ a.toInt ∨ a.toInt = -1) → ((a.toInt = -1 → g = f) ∧ (0 ≤ a.toInt → ∀ i : Nat, (i : Int) < a.toInt → g i = f i)) → ∀ i : Nat, (i : Int) < s0.toInt → g i = f i := by
    intro a f g h e i hi
    rcases h with h | h
    · exact e.2 (by omega) i (by omega)
    · rw [e.1 h]
  intro i hi
  exact (st k4 e5 i hi).trans ((st k3 e4 i hi).trans ((st k2 e3 i hi).trans ((st k1 e2 i hi).trans (e1 i hi))))

set_option maxHeartbeats 4000000 in
set_option maxRecDepth 100000 in
theorem d_type3 (l : Launch) (dC : Nat → ClassId) (dI : Nat → Nat → Nat) (ad : Nat → Nat → Nat) (cid : Nat → ClassId) (a2 : Nat → Nat) (lx : List Nat) (sg : Nat → Int32) (gm : Nat → Nat → Int32) (lg : Nat → Nat → Int64) (x : Int32) (fa : Int32) (fb : Int32) (fc9 : Int32) (fd9 : Int32) (fe9 : Int32) (hI : CI sg gm) (hvx : iv 0 0 x) : CMt dC dI ad cid a2 lx l yX12_type wm_X12_type ({ frames := 1, cells := 1, slots := 6, locals := 25 }) [eV (ad 0) x, .int fa, .int fb, .int fc9, .int fd9, .int fe9] sg gm lg (fun v u => ∃ r : Int32, v = some (.int r) ∧ ∃ (sg2 : Nat → Int32) (gm2 : Nat → Nat → Int32) (lg2 : Nat → Nat → Int64), u = (sg2, gm2, lg2) ∧ CI sg2 gm2 ∧ KS [0] sg sg2 ∧ KS [43] gm gm2 ∧ KS [] lg lg2 ∧ (iv (-1) 1200 r) ∧ (r.toInt = -1 ∨ TYX fa fb fc9 fd9 fe9 (sg 0).toInt (gm2 43) (gm 43) 20) ∧ (∀ i : Nat, (i : Int) < (sg 0).toInt → gm2 43 i = gm 43 i) ∧ (TYR fa fb fc9 fd9 fe9 r (sg 0) (sg2 0))) (fun _ _ => False) := by
  intro sz
  refine vx_ofW (cc := cX12_type) (maxL := 7) (ret := (some .int)) (by decide) rfl ?_
  intro p e s m args below meth c s₁ B hml hxt hv
  obtain ⟨rfl, hsz, hP, hK, hD0, hG⟩ := hv
  have hx := B.exec
  have hb := B.bytes
  have hr := B.returns
  have hts := atoms_spec (ws := wm_X12_type) B.pre
  have htb := fun (w : Cond) (h : w ∈ tb) => hts w (List.mem_cons_of_mem _ h)
  have hown : s.vm.findClass RX12 = some m.cls := findClass_of_methodNamed B.named
  have hlocks := B.notSynchronized
  subst hsz
  have hD := hD0.self (sz := s.heap.size)
  generalize hAe : va_A (cW ad cid a2 lx sg gm lg) s.heap.size = A at hD hG ⊢
  have hA : ∀ q : Nat, s.heap.size ≤ q → A q := fun q h => by rw [← hAe]; exact Or.inr h
  have hS : va_S A s.heap s.heap [] := va_S.rf
  have hl := lv_entry ([eV (ad 0) x, .int fa, .int fb, .int fc9, .int fd9, .int fe9]) (n := 7) (by rw [show (lg_sl ([eV (ad 0) x, .int fa, .int fb, .int fc9, .int fd9, .int fe9])).length = 6 from by simp [lg_sl, eV_cat, cat_i, cat_l]]; exact Nat.le_of_ble_eq_true rfl)
  rw [lg_entry_eq]
  generalize (lg_sl ([eV (ad 0) x, .int fa, .int fb, .int fc9, .int fd9, .int fe9]) ++ List.replicate (7 - (lg_sl ([eV (ad 0) x, .int fa, .int fb, .int fc9, .int fd9, .int fe9])).length) Slot.unset).toArray = ls at hl ⊢
  have hl : lv_has ls 7 [(0, eV (ad 0) x), (1, .int fa), (2, .int fb), (3, .int fc9), (4, .int fd9), (5, .int fe9)] := by simp [lv_args, eV_cat, cat_i, cat_l] at hl; exact hl
  have hj61 : ∀ (sg_j61 : Nat → Int32) (gm_j61 : Nat → Nat → Int32) (x6_61 : Int32) (_ : iv (-1) 1200 x6_61) (_ : iv 0 0 x) (_ : KS [0] sg sg_j61) (_ : KS [43] gm gm_j61) (_ : CI sg_j61 gm_j61) (_ : x6_61.toInt = -1 ∨ TYX fa fb fc9 fd9 fe9 (sg 0).toInt (gm_j61 43) (gm 43) 20) (_ : ∀ i : Nat, (i : Int) < (sg 0).toInt → gm_j61 43 i = gm 43 i) (_ : TYR fa fb fc9 fd9 fe9 x6_61 (sg 0) (sg_j61 0)) (H : Heap) (locs : List Loc) (ls : Array Slot), va_P (dC, dI) vwCl (cW ad cid a2 lx sg_j61 gm_j61 lg) H → va_D A (cW ad cid a2 lx sg_j61 gm_j61 lg) → va_S A s.heap H locs → lv_has ls 7 [(6, .int x6_61), (0, eV (ad 0) x), (1, .int fa), (2, .int fb), (3, .int fc9), (4, .int fd9), (5, .int fe9)] → W p l e (headSpec wm_X12_type ({ frames := 1, cells := 1, slots := 6, locals := 25 })).room s m ([eV (ad 0) x, .int fa, .int fb, .int fc9, .int fd9, .int fe9] : List Value).toArray below meth c H locs 0 0 (vx_MQ below (cQx dC dI ad cid a2 lx (fun v u => ∃ r : Int32, v = some (.int r) ∧ ∃ (sg2 : Nat → Int32) (gm2 : Nat → Nat → Int32) (lg2 : Nat → Nat → Int64), u = (sg2, gm2, lg2) ∧ CI sg2 gm2 ∧ KS [0] sg sg2 ∧ KS [43] gm gm2 ∧ KS [] lg lg2 ∧ (iv (-1) 1200 r) ∧ (r.toInt = -1 ∨ TYX fa fb fc9 fd9 fe9 (sg 0).toInt (gm2 43) (gm 43) 20) ∧ (∀ i : Nat, (i : Int) < (sg 0).toInt → gm2 43 i = gm 43 i) ∧ (TYR fa fb fc9 fd9 fe9 r (sg 0) (sg2 0))) A) (cX dC dI ad cid a2 lx (fun _ _ => False) A) ([eV (ad 0) x, .int fa, .int fb, .int fc9, .int fd9, .int fe9] : List Value).toArray s 1 6 A) (F0 m 61 ls []) := by
    intro sg_j61 gm_j61 x6_61 hx6_61 hsx0_61 hks_j61 hkg_j61 hI_j61 hX hKp hT H locs ls hP hD hS hl
    refine lv_iload hx hb dX12_type_61 (lv_at hl 0 rfl) ?_
    exact W.nb (fun hN => W.widen (k := 1) (n := 6) (by decide) (by decide) (vx_ret (W.iret (v := x6_61) hx hb hr (fun t ht hW => ⟨⟨some (.int x6_61), (sg_j61, gm_j61, lg), rfl, ⟨x6_61, rfl, sg_j61, gm_j61, lg, rfl, hI_j61, (KS_tr (L := [0]) KS_rf hks_j61 (by decide)), (KS_tr (L := [43]) KS_rf hkg_j61 (by decide)), KS_rf, hx6_61, (hX), (hKp), (hT)⟩, by rw [ht]; exact hP, va_K.moved hW.alike hK, hD⟩, hS.F ht, by rw [ht]; exact hN⟩) hS.2.2 dX12_type_63)))
  refine ec_aload_n hx hb dX12_type_0 rfl (lv_at hl 0 rfl) ?_
  refine ec_aload_n hx hb dX12_type_1 rfl (lv_at hl 0 rfl) ?_
  refine cr_get (t := 0) (j := 8) (C := RX12) (T := TX12) (N := 12) (v := .int (sg 0)) hx hb htb inX12 hown hK hP hvx (by decide) (by decide) (by decide) rfl (by decide) (htb _ kw_425) rfl dX12_type_2 ?_
  refine lv_iload_n hx hb dX12_type_5 rfl (lv_at hl 1 rfl) ?_
  refine cm_callV (t := 0) (C := RX12) (T := TX12) (N := 12) (rest := []) (as := [.int (sg 0), .int fa]) ⟨hx, hb, hml, hown, htb⟩ (d_typedBehind3 l dC dI ad cid a2 lx sg gm lg x (sg 0) fa hI hvx (iv_w (show iv 0 1200 (sg 0) from CI_s hI 0) (by decide))) (cwV 2 htb (gd_V kw_470 kw_471 kw_0 kw_146 kw_1398) rfl rfl rfl (by decide +kernel) ⟨Nat.le_of_ble_eq_true rfl, Nat.le_of_ble_eq_true rfl⟩) hvx (by decide) (by decide) rfl rfl hl.1 rfl (Nat.le_trans cs_n (by decide)) dX12_type_6 ⟨Nat.le_of_ble_eq_true rfl, Nat.le_of_ble_eq_true rfl⟩ hK hP hD hS hA hG (fun E ce q9 u_2 H locs hw hP hD hS hce hcv hcl => ?_) (fun v9 u_2 H locs hw hP hD hS => ?_)
  · exact hw.elim
  obtain ⟨r_1, rfl, sgv_3, gmv_3, lgv_3, rfl, hIv_3, ksv_3, kgv_3, klv_3, hr_1, f1_r_1, fX_r_1, fK_r_1, fB_r_1⟩ := hw
  obtain rfl := KS_nil ksv_3
  obtain rfl := KS_nil klv_3
  have hP : va_P (dC, dI) vwCl (cW ad cid a2 lx sg gmv_3 lg) H := hP
  have hD : va_D A (cW ad cid a2 lx sg gmv_3 lg) := hD
  refine W.eq (g2 := F0 m 9 ls [.int r_1]) rfl ?_
  refine lv_istore (i := 6) (lv' := [(6, .int r_1), (0, eV (ad 0) x), (1, .int fa), (2, .int fb), (3, .int fc9), (4, .int fd9), (5, .int fe9)]) hx hb dX12_type_9 hl (by decide) rfl (fun ls hl => ?_)
  refine ec_aload_n hx hb dX12_type_11 rfl (lv_at hl 1 rfl) ?_
  refine lv_iload hx hb dX12_type_12 (lv_at hl 0 rfl) ?_
  refine lv_iload_n hx hb dX12_type_14 rfl (lv_at hl 3 rfl) ?_
  refine cm_callV (t := 0) (C := RX12) (T := TX12) (N := 12) (rest := []) (as := [.int r_1, .int fb]) ⟨hx, hb, hml, hown, htb⟩ (d_typedBehind3 l dC dI ad cid a2 lx sg gmv_3 lg x r_1 fb hIv_3 hvx hr_1) (cwV 2 htb (gd_V kw_470 kw_471 kw_0 kw_146 kw_1398) rfl rfl rfl (by decide +kernel) ⟨Nat.le_of_ble_eq_true rfl, Nat.le_of_ble_eq_true rfl⟩) hvx (by decide) (by decide) rfl rfl hl.1 rfl (Nat.le_trans cs_n (by decide)) dX12_type_15 ⟨Nat.le_of_ble_eq_true rfl, Nat.le_of_ble_eq_true rfl⟩ hK hP hD hS hA hG (fun E ce q9 u_5 H locs hw hP hD hS hce hcv hcl => ?_) (fun v9 u_5 H locs hw hP hD hS => ?_)
  · exact hw.elim
  obtain ⟨r_4, rfl, sgv_6, gmv_6, lgv_6, rfl, hIv_6, ksv_6, kgv_6, klv_6, hr_4, f1_r_4, fX_r_4, fK_r_4, fB_r_4⟩ := hw
  obtain rfl := KS_nil ksv_6
  obtain rfl := KS_nil klv_6
  have hP : va_P (dC, dI) vwCl (cW ad cid a2 lx sg gmv_6 lg) H := hP
  have hD : va_D A (cW ad cid a2 lx sg gmv_6 lg) := hD
  refine W.eq (g2 := F0 m 18 ls [.int r_4]) rfl ?_
  refine lv_istore (i := 6) (lv' := [(6, .int r_4), (0, eV (ad 0) x), (1, .int fa), (2, .int fb), (3, .int fc9), (4, .int fd9), (5, .int fe9)]) hx hb dX12_type_18 hl (by decide) rfl (fun ls hl => ?_)
  refine ec_aload_n hx hb dX12_type_20 rfl (lv_at hl 1 rfl) ?_
  refine lv_iload hx hb dX12_type_21 (lv_at hl 0 rfl) ?_
  refine lv_iload_n hx hb dX12_type_23 rfl (lv_at hl 4 rfl) ?_
  refine cm_callV (t := 0) (C := RX12) (T := TX12) (N := 12) (rest := []) (as := [.int r_4, .int fc9]) ⟨hx, hb, hml, hown, htb⟩ (d_typedBehind3 l dC dI ad cid a2 lx sg gmv_6 lg x r_4 fc9 hIv_6 hvx hr_4) (cwV 2 htb (gd_V kw_470 kw_471 kw_0 kw_146 kw_1398) rfl rfl rfl (by decide +kernel) ⟨Nat.le_of_ble_eq_true rfl, Nat.le_of_ble_eq_true rfl⟩) hvx (by decide) (by decide) rfl rfl hl.1 rfl (Nat.le_trans cs_n (by decide)) dX12_type_24 ⟨Nat.le_of_ble_eq_true rfl, Nat.le_of_ble_eq_true rfl⟩ hK hP hD hS hA hG (fun E ce q9 u_8 H locs hw hP hD hS hce hcv hcl => ?_) (fun v9 u_8 H locs hw hP hD hS => ?_)
  · exact hw.elim
  obtain ⟨r_7, rfl, sgv_9, gmv_9, lgv_9, rfl, hIv_9, ksv_9, kgv_9, klv_9, hr_7, f1_r_7, fX_r_7, fK_r_7, fB_r_7⟩ := hw
  obtain rfl := KS_nil ksv_9
  obtain rfl := KS_nil klv_9
  have hP : va_P (dC, dI) vwCl (cW ad cid a2 lx sg gmv_9 lg) H := hP
  have hD : va_D A (cW ad cid a2 lx sg gmv_9 lg) := hD
  refine W.eq (g2 := F0 m 27 ls [.int r_7]) rfl ?_
  refine lv_istore (i := 6) (lv' := [(6, .int r_7), (0, eV (ad 0) x), (1, .int fa), (2, .int fb), (3, .int fc9), (4, .int fd9), (5, .int fe9)]) hx hb dX12_type_27 hl (by decide) rfl (fun ls hl => ?_)
  refine ec_aload_n hx hb dX12_type_29 rfl (lv_at hl 1 rfl) ?_
  refine lv_iload hx hb dX12_type_30 (lv_at hl 0 rfl) ?_
  refine lv_iload hx hb dX12_type_32 (lv_at hl 5 rfl) ?_
  refine cm_callV (t := 0) (C := RX12) (T := TX12) (N := 12) (rest := []) (as := [.int r_7, .int fd9]) ⟨hx, hb, hml, hown, htb⟩ (d_typedBehind3 l dC dI ad cid a2 lx sg gmv_9 lg x r_7 fd9 hIv_9 hvx hr_7) (cwV 2 htb (gd_V kw_470 kw_471 kw_0 kw_146 kw_1398) rfl rfl rfl (by decide +kernel) ⟨Nat.le_of_ble_eq_true rfl, Nat.le_of_ble_eq_true rfl⟩) hvx (by decide) (by decide) rfl rfl hl.1 rfl (Nat.le_trans cs_n (by decide)) dX12_type_34 ⟨Nat.le_of_ble_eq_true rfl, Nat.le_of_ble_eq_true rfl⟩ hK hP hD hS hA hG (fun E ce q9 u_11 H locs hw hP hD hS hce hcv hcl => ?_) (fun v9 u_11 H locs hw hP hD hS => ?_)
  · exact hw.elim
  obtain ⟨r_10, rfl, sgv_12, gmv_12, lgv_12, rfl, hIv_12, ksv_12, kgv_12, klv_12, hr_10, f1_r_10, fX_r_10, fK_r_10, fB_r_10⟩ := hw
  obtain rfl := KS_nil ksv_12
  obtain rfl := KS_nil klv_12
  have hP : va_P (dC, dI) vwCl (cW ad cid a2 lx sg gmv_12 lg) H := hP
  have hD : va_D A (cW ad cid a2 lx sg gmv_12 lg) := hD
  refine W.eq (g2 := F0 m 37 ls [.int r_10]) rfl ?_
  refine lv_istore (i := 6) (lv' := [(6, .int r_10), (0, eV (ad 0) x), (1, .int fa), (2, .int fb), (3, .int fc9), (4, .int fd9), (5, .int fe9)]) hx hb dX12_type_37 hl (by decide) rfl (fun ls hl => ?_)
  refine ec_aload_n hx hb dX12_type_39 rfl (lv_at hl 1 rfl) ?_
  refine lv_iload hx hb dX12_type_40 (lv_at hl 0 rfl) ?_
  refine lv_iload hx hb dX12_type_42 (lv_at hl 6 rfl) ?_
  refine cm_callV (t := 0) (C := RX12) (T := TX12) (N := 12) (rest := []) (as := [.int r_10, .int fe9]) ⟨hx, hb, hml, hown, htb⟩ (d_typedBehind3 l dC dI ad cid a2 lx sg gmv_12 lg x r_10 fe9 hIv_12 hvx hr_10) (cwV 2 htb (gd_V kw_470 kw_471 kw_0 kw_146 kw_1398) rfl rfl rfl (by decide +kernel) ⟨Nat.le_of_ble_eq_true rfl, Nat.le_of_ble_eq_true rfl⟩) hvx (by decide) (by decide) rfl rfl hl.1 rfl (Nat.le_trans cs_n (by decide)) dX12_type_44 ⟨Nat.le_of_ble_eq_true rfl, Nat.le_of_ble_eq_true rfl⟩ hK hP hD hS hA hG (fun E ce q9 u_14 H locs hw hP hD hS hce hcv hcl => ?_) (fun v9 u_14 H locs hw hP hD hS => ?_)
  · exact hw.elim
  obtain ⟨r_13, rfl, sgv_15, gmv_15, lgv_15, rfl, hIv_15, ksv_15, kgv_15, klv_15, hr_13, f1_r_13, fX_r_13, fK_r_13, fB_r_13⟩ := hw
  obtain rfl := KS_nil ksv_15
  obtain rfl := KS_nil klv_15
  have hP : va_P (dC, dI) vwCl (cW ad cid a2 lx sg gmv_15 lg) H := hP
  have hD : va_D A (cW ad cid a2 lx sg gmv_15 lg) := hD
  refine W.eq (g2 := F0 m 47 ls [.int r_13]) rfl ?_
  refine lv_istore (i := 6) (lv' := [(6, .int r_13), (0, eV (ad 0) x), (1, .int fa), (2, .int fb), (3, .int fc9), (4, .int fd9), (5, .int fe9)]) hx hb dX12_type_47 hl (by decide) rfl (fun ls hl => ?_)
  refine lv_iload hx hb dX12_type_49 (lv_at hl 0 rfl) ?_
  refine lv_iconst (v := (-1)) hx hb dX12_type_51 (by decide) ?_
  refine lv_icmp_eq (tgt := 61) hx hb dX12_type_52 (by decide) (fun c_16 => ?_) (fun c_16 => ?_)
  · have h_17 : iv (-1) (-1) r_13 := iv_eq c_16 hr_13 (iv_k (by decide) : iv (-1) (-1) (-1)) (by decide)
    exact hj61 sg gmv_15 r_13 (iv_w h_17 (by decide)) hvx KS_rf (KS_tr (L := [43]) (KS_tr (L := [43]) (KS_tr (L := [43]) (KS_tr (L := [43]) (KS_tr (L := [43]) KS_rf kgv_3 (by decide)) kgv_6 (by decide)) kgv_9 (by decide)) kgv_12 (by decide)) kgv_15 (by decide)) hIv_15 (Or.inl (by have := i32_0; have := i32_1; have := i32_2; have := i32_m1; have := (hvx).1; have := (hvx).2; have := ((show iv 0 1200 (sg 0) from CI_s hI 0)).1; have := ((show iv 0 1200 (sg 0) from CI_s hI 0)).2; have := (hr_1).1; have := (hr_1).2; have := (hr_4).1; have := (hr_4).2; have := (hr_7).1; have := (hr_7).2; have := (hr_10).1; have := (hr_10).2; have := (h_17).1; have := (h_17).2; omega)) ((KP5 (show iv 0 1200 (sg 0) from CI_s hI 0).1 fB_r_1 fB_r_4 fB_r_7 fB_r_10 (fK_r_1 (show iv 0 1200 (sg 0) from CI_s hI 0).1) ⟨f1_r_4, fK_r_4⟩ ⟨f1_r_7, fK_r_7⟩ ⟨f1_r_10, fK_r_10⟩ ⟨f1_r_13, fK_r_13⟩)) ((TYR_of (show iv 0 1200 (sg 0) from CI_s hI 0).1 fB_r_1 fB_r_4 fB_r_7 fB_r_10 fB_r_13 (Or.inl ⟨(by have := i32_0; have := i32_1; have := i32_2; have := i32_m1; have := (hvx).1; have := (hvx).2; have := ((show iv 0 1200 (sg 0) from CI_s hI 0)).1; have := ((show iv 0 1200 (sg 0) from CI_s hI 0)).2; have := (hr_1).1; have := (hr_1).2; have := (hr_4).1; have := (hr_4).2; have := (hr_7).1; have := (hr_7).2; have := (hr_10).1; have := (hr_10).2; have := (h_17).1; have := (h_17).2; omega), rfl⟩))) _ _ _ hP hD hS (lv_sub hl [0, 1, 2, 3, 4, 5, 6] rfl)
  · have h_18 : iv 0 1200 r_13 := iv_neL c_16 hr_13 (by decide)
    refine ec_aload_n hx hb dX12_type_55 rfl (lv_at hl 1 rfl) ?_
    refine lv_iload hx hb dX12_type_56 (lv_at hl 0 rfl) ?_
    refine cr_puts (t := 0) (j := 8) (C := RX12) (T := TX12) (N := 12) (ty0 := tyX12) (k := 0) (y := r_13) hx hb htb inX12 tyX12_ok nmX12 hown hK hP hD hS hvx (by decide) (by decide) (by decide) (by decide) rfl rfl rfl (by decide) (htb _ kw_425) rfl (by show Value.int r_13 = Value.int (va_up sg 0 r_13 0); rw [va_up_self]) rfl rfl dX12_type_58 (fun sg_19 H locs esg_19 hP hD hS => ?_)
    have hI_sg_19 := CI_put hIv_15 esg_19 h_18 (by decide)
    exact hj61 sg_19 gmv_15 r_13 (iv_w h_18 (by decide)) hvx (KS_up KS_rf esg_19 (by decide)) (KS_tr (L := [43]) (KS_tr (L := [43]) (KS_tr (L := [43]) (KS_tr (L := [43]) (KS_tr (L := [43]) KS_rf kgv_3 (by decide)) kgv_6 (by decide)) kgv_9 (by decide)) kgv_12 (by decide)) kgv_15 (by decide)) hI_sg_19 (Or.inr (TYX_of (show iv 0 1200 (sg 0) from CI_s hI 0).1 fB_r_1 fB_r_4 fB_r_7 fB_r_10 fB_r_13 fX_r_1 fX_r_4 fX_r_7 fX_r_10 fX_r_13 (by have := i32_0; have := i32_1; have := i32_2; have := i32_m1; have := (hvx).1; have := (hvx).2; have := ((show iv 0 1200 (sg 0) from CI_s hI 0)).1; have := ((show iv 0 1200 (sg 0) from CI_s hI 0)).2; have := (hr_1).1; have := (hr_1).2; have := (hr_4).1; have := (hr_4).2; have := (hr_7).1; have := (hr_7).2; have := (hr_10).1; have := (hr_10).2; have := (h_18).1; have := (h_18).2; omega))) ((KP5 (show iv 0 1200 (sg 0) from CI_s hI 0).1 fB_r_1 fB_r_4 fB_r_7 fB_r_10 (fK_r_1 (show iv 0 1200 (sg 0) from CI_s hI 0).1) ⟨f1_r_4, fK_r_4⟩ ⟨f1_r_7, fK_r_7⟩ ⟨f1_r_10, fK_r_10⟩ ⟨f1_r_13, fK_r_13⟩)) ((TYR_of (show iv 0 1200 (sg 0) from CI_s hI 0).1 fB_r_1 fB_r_4 fB_r_7 fB_r_10 fB_r_13 (Or.inr ⟨(by have := i32_0; have := i32_1; have := i32_2; have := i32_m1; have := (hvx).1; have := (hvx).2; have := ((show iv 0 1200 (sg 0) from CI_s hI 0)).1; have := ((show iv 0 1200 (sg 0) from CI_s hI 0)).2; have := (hr_1).1; have := (hr_1).2; have := (hr_4).1; have := (hr_4).2; have := (hr_7).1; have := (hr_7).2; have := (hr_10).1; have := (hr_10).2; have := (h_18).1; have := (h_18).2; omega), (up_at esg_19)⟩))) _ _ _ hP hD hS (lv_sub hl [0, 1, 2, 3, 4, 5, 6] rfl)
end
section
/-- an object: its class, its bean; an event; the state of the making: objects, events, what is being made (1) or made (2), the object of each bean, the finished ones -/
abbrev Ob9 := Int × Int
abbrev Ev9 := Int × Int × Int × Int
abbrev S9 := List Ob9 × List Ev9 × (Nat → Nat) × (Nat → Int) × List Nat
def zO (S : S9) : List Ob9 := S.1
def zE (S : S9) : List Ev9 := S.2.1
def zS (S : S9) : Nat → Nat := S.2.2.1
def zW (S : S9) : Nat → Int := S.2.2.2.1
def zF (S : S9) : List Nat := S.2.2.2.2
def fu9 {α : Type} (f : Nat → α) (k : Nat) (v : α) : Nat → α := fun j => if j = k then v else f j
theorem fu9_at {α : Type} {f : Nat → α} {k : Nat} {v : α} : fu9 f k v k = v := if_pos rfl
theorem fu9_ne {α : Type} {f : Nat → α} {k j : Nat} {v : α} (h : ¬ j = k) : fu9 f k v j = f j := if_neg h
def zAdd (S : S9) (e : Ev9) : S9 := if 400 ≤ (zE S).length then S else (zO S, zE S ++ [e], zS S, zW S, zF S)
theorem zAdd_O (S : S9) (e : Ev9) : zO (zAdd S e) = zO S := by unfold zAdd; split <;> rfl
theorem zAdd_S (S : S9) (e : Ev9) : zS (zAdd S e) = zS S := by unfold zAdd; split <;> rfl
theorem zAdd_W (S : S9) (e : Ev9) : zW (zAdd S e) = zW S := by unfold zAdd; split <;> rfl
theorem zAdd_F (S : S9) (e : Ev9) : zF (zAdd S e) = zF S := by unfold zAdd; split <;> rfl
def bd9 {α β : Type} (x : Option α × S9) (f : α → S9 → Option β × S9) : Option β × S9 := match x with
  | (some a, S) => f a S
  | (none, S) => (none, S)
theorem bd9_a {α β γ : Type} (x : Option α × S9) (f : α → S9 → Option β × S9) (g : β → S9 → Option γ × S9) : bd9 (bd9 x f) g = bd9 x (fun a S => bd9 (f a S) g) := by
  obtain ⟨o, S⟩ := x
  cases o <;> rfl
section MK9
variable (ws : Nat → Int32) (wg : Nat → Nat → Int32) (wl : Nat → Nat → Int64)
/-- the alias with a name: what it calls; 0 without -/
def alF (to : Int64) : Nat → Nat → Int64
  | 0, _ => 0
  | f + 1, i => if (wg 14 i).toInt = 1 ∧ wl 1 i = to then wl 2 i else alF to f (i + 1)
def alN (to : Int64) : Int64 := alF wg wl to (ws 4).toNatClampNeg 0
/-- the bean that a name calls -/
def caF : Nat → Int64 → Int32
  | 0, _ => -1
  | f + 1, v => if v = 0 then -1 else if cWid ws wl v = -1 then caF f (alN ws wg wl v) else cWid ws wl v
def caN (v : Int64) : Int := (caF ws wg wl 21 v).toInt
/-- to get -/
def oGet (mk : Nat → S9 → Option Int × S9) (t : Int) (S : S9) : Option Int × S9 :=
  if t < 0 then (none, S) else if ¬ wg 34 t.toNat = 0 then (none, S)
  else if wg 35 t.toNat = 0 ∧ (zS S t.toNat = 2 ∨ (zS S t.toNat = 1 ∧ ¬ zW S t.toNat = -1)) then (some (zW S t.toNat), S)
  else mk t.toNat S
def oObj (mk : Nat → S9 → Option Int × S9) (e : Nat) (S : S9) : Option Int × S9 :=
  if (wg 27 e).toInt < 0 then oGet wg mk (caN ws wg wl (wl 2 e)) S else mk (wg 27 e).toInt.toNat S
def oItm (mk : Nat → S9 → Option Int × S9) (e : Nat) (S : S9) : Option Int × S9 :=
  if (wg 25 e).toInt = 7 then (some (1000 + (wg 11 e).toInt), S) else if (wg 25 e).toInt = 9 then (some (-1), S)
  else bd9 (oObj ws wg wl mk e S) (fun o S => (some (3000 + o), S))
def itL : Nat → Int → List Nat
  | 0, _ => []
  | f + 1, x => if x < 0 then [] else x.toNat :: itL f (wg 17 x.toNat).toInt
def oIts (mk : Nat → S9 → Option Int × S9) : List Nat → List Int → S9 → Option (List Int) × S9
  | [], acc, S => (some acc, S)
  | e :: l, acc, S => bd9 (oItm ws wg wl mk e S) (fun v S => oIts mk l (acc ++ [v]) S)
def itC (c : Nat) : List Nat := itL wg 6 (wg 16 c).toInt
def oCon (mk : Nat → S9 → Option Int × S9) (c : Nat) (S : S9) : Option (List Int) × S9 :=
  if (wg 25 c).toInt = 6 then oIts ws wg wl mk (itC wg c) [] S
  else if (wg 25 c).toInt = 8 ∨ (wg 25 c).toInt = 2 then bd9 (oObj ws wg wl mk c S) (fun o S => (some [o], S))
  else (some [], S)
/-- the elements of a list -/
def liL (q : Nat) : List Nat := (List.range (wg 41 q).toNatClampNeg).map (fun i => (wg 57 (128 * q + i)).toNatClampNeg)
def ctE (h : Nat) : Nat := (wg 26 h).toNatClampNeg
def oArs (mk : Nat → S9 → Option Int × S9) : List Nat → List (List Int) → S9 → Option (List (List Int)) × S9
  | [], acc, S => (some acc, S)
  | a :: l, acc, S => bd9 (oCon ws wg wl mk (ctE wg a) S) (fun v S => oArs mk l (acc ++ [v]) S)
/-- weights -/
def wTx (c : Nat) (t : Int) : Int := if t = 0 then (if (wl 3 c).toInt = 1099511627776 then -1 else 1) else if t = 1 then (if (wg 21 c).toInt = -1 then -1 else 1)
  else if t = 2 then (if (wg 11 c).toInt = 1 then 2 else -1) else if t = 3 then 3 else -1
def stF (other : Int) : Nat → Int → Int → Int
  | 0, _, _ => -1
  | f + 1, c, u => if c < 0 then -1 else if (wg 2 c.toNat).toInt = other then u else stF other f (wg 4 c.toNat).toInt (u + 1)
def wOb (ob : List Ob9) (o t : Int) : Int := if t < 8 then -1 else (if stF wg (t - 8) 8 ((ob[o.toNat]?).getD (0, 0)).1 0 = -1 then -1 else 2 * stF wg (t - 8) 8 ((ob[o.toNat]?).getD (0, 0)).1 0)
def wCo (ob : List Ob9) (c : Nat) (V : List Int) (t : Int) : Int :=
  if (wg 25 c).toInt = 7 then wTx wg wl c t else if (wg 25 c).toInt = 9 then (if 3 ≤ t then 0 else -1) else if (wg 25 c).toInt = 6 then (if t = 4 then 0 else -1)
  else wOb wg ob ((V[0]?).getD 0) t
/-- where the args go -/
def pl1 (n : Int) : List Int → Nat → (Nat → Int) → Option (Nat → Int)
  | [], _, f => some f
  | t :: r, i, f => if t = -1 then pl1 n r (i + 1) f else if n ≤ t ∨ ¬ f t.toNat = -1 then none else pl1 n r (i + 1) (fu9 f t.toNat (i : Int))
def nx9 (f : Nat → Int) (p : Nat) : Nat := if p = 0 then (if f 0 = -1 then 0 else if f 1 = -1 then 1 else 2) else if p = 1 then (if f 1 = -1 then 1 else 2) else p
def pl2 : List Int → Nat → Nat → (Nat → Int) → (Nat → Int)
  | [], _, _, f => f
  | t :: r, i, p, f => if t = -1 then pl2 r (i + 1) (nx9 f p) (fu9 f (nx9 f p) (i : Int)) else pl2 r (i + 1) p f
def plA (ats : List Int) : Option (Nat → Int) := if 3 < ats.length then none else match pl1 (ats.length : Int) ats 0 (fun _ => -1) with
  | none => none
  | some f => some (pl2 ats 0 0 f)
def atL (b : Nat) : List Int := (liL wg (3 * b)).map (fun a => (wg 23 a).toInt)
/-- the sum of weights of a signature, from a place on -/
def suF (ob : List Ob9) (b : Nat) (vs : List (List Int)) (f : Nat → Int) (s : Nat) : Nat → Nat → Int → Int
  | 0, _, acc => acc
  | k + 1, p, acc =>
    let i := (f p).toNat
    let a := ((liL wg (3 * b))[i]?).getD 0
    let t := (wg 54 (3 * s + p)).toInt
    if ¬ (wg 24 a).toInt = -1 ∧ ¬ (wg 24 a).toInt = t then -1
    else if wCo wg wl ob (ctE wg a) ((vs[i]?).getD []) t = -1 then -1
    else suF ob b vs f s k (p + 1) (acc + wCo wg wl ob (ctE wg a) ((vs[i]?).getD []) t)
def suS (ob : List Ob9) (b : Nat) (vs : List (List Int)) (f : Nat → Int) (s : Nat) : Int :=
  if ¬ (wg 7 s).toInt = (wg 41 (3 * b)).toInt then -1 else suF wg wl ob b vs f s (wg 7 s).toNatClampNeg 0 0
abbrev cdS (m st : Int) (s : Nat) : Prop := (wg 8 s).toInt = m ∧ (wg 9 s).toInt = st
def chF9 (w : Nat → Int) : List Nat → Option (Nat × Int) → Option (Nat × Int)
  | [], b => b
  | s :: r, b => chF9 w r (match b with
    | none => if w s = -1 then none else some (s, w s)
    | some (s0, w0) => if ¬ w s = -1 ∧ w s < w0 then some (s, w s) else some (s0, w0))
/-- the nearest with a factory of that name -/
def owB (m st : Int) (c : Nat) : Bool := (List.range (wg 1 c).toNatClampNeg).any (fun i => decide (cdS wg m st (8 * c + 4 + i)))
def wfF (m st : Int) : Nat → Int → Int
  | 0, _ => -1
  | f + 1, c => if c < 0 then -1 else if owB wg m st c.toNat = true then c else wfF m st f (wg 4 c.toNat).toInt
/-- the signatures among which one is chosen -/
def clsF (b : Nat) (fo : Int) (ob : List Ob9) : Int := if fo = -1 then (wg 30 b).toInt else ((ob[fo.toNat]?).getD (0, 0)).1
def isS (b : Nat) (fo : Int) : Int := if ¬ (wg 31 b).toInt = -1 ∧ fo = -1 then 1 else 0
def hasF (b : Nat) (fo : Int) (ob : List Ob9) : Int := wfF wg (wg 31 b).toInt (isS wg b fo) 8 (clsF wg b fo ob)
def cnd (b : Nat) (fo : Int) (ob : List Ob9) : List Nat :=
  if (wg 31 b).toInt = -1 then (List.range (wg 0 (clsF wg b fo ob).toNat).toNatClampNeg).map (fun i => 8 * (clsF wg b fo ob).toNat + i)
  else if hasF wg b fo ob < 0 then [] else (List.range (wg 1 (hasF wg b fo ob).toNat).toNatClampNeg).map (fun i => 8 * (hasF wg b fo ob).toNat + 4 + i)
def suC (b : Nat) (fo : Int) (ob : List Ob9) (vs : List (List Int)) (f : Nat → Int) (s : Nat) : Int := if cdS wg (wg 31 b).toInt (isS wg b fo) s then suS wg wl ob b vs f s else -1
def chS (b : Nat) (fo : Int) (ob : List Ob9) (vs : List (List Int)) : Option (Nat × (Nat → Int)) := match plA (atL wg b) with
  | none => none
  | some f => match chF9 (suC wg wl b fo ob vs f) (cnd wg b fo ob) none with
    | none => none
    | some (s, _) => some (s, f)
/-- a value in an event -/
def vTx (c : Nat) (t : Int) : Int := if t = 0 then (Int32.ofInt (wl 3 c).toInt).toInt else if t = 1 then (wg 21 c).toInt else if t = 2 then (wg 56 (24 * c)).toInt else 1000 + (wg 11 c).toInt
def vCo (c : Nat) (V : List Int) (t : Int) : Int :=
  if (wg 25 c).toInt = 7 then vTx wg wl c t else if (wg 25 c).toInt = 9 then -1 else if (wg 25 c).toInt = 6 then 2000 + (wg 18 c).toInt else 3000 + (V[0]?).getD 0
def tlI (V : List Int) : Nat → Nat → S9 → S9
  | 0, _, S => S
  | k + 1, i, S => tlI V k (i + 1) (zAdd S (6, -1, (i : Int), (V[i]?).getD 0))
def tlV (wh ab sc : Int) (c : Nat) (V : List Int) (t : Int) (S : S9) : S9 :=
  let S1 := zAdd S (wh, ab, sc, vCo wg wl c V t)
  if (wg 25 c).toInt = 6 then tlI V (wg 18 c).toNatClampNeg 0 S1 else S1
def tlA (b : Nat) (o : Int) (vs : List (List Int)) (f : Nat → Int) (s : Nat) : Nat → Nat → S9 → S9
  | 0, _, S => S
  | k + 1, p, S => tlA b o vs f s k (p + 1) (tlV wg wl 3 o (p : Int) (ctE wg (((liL wg (3 * b))[(f p).toNat]?).getD 0)) ((vs[(f p).toNat]?).getD []) (wg 54 (3 * s + p)).toInt S)
/-- the object comes to be -/
def oB1 (b s : Nat) (S : S9) : S9 := (zO S ++ [((wg 10 s).toInt, (wg 28 b).toInt)], zE S, zS S, fu9 (zW S) b ((zO S).length : Int), zF S)
def oB2 (b s : Nat) (S : S9) : S9 := if (wg 8 s).toInt = -1 then zAdd (oB1 wg b s S) (1, ((zO S).length : Int), (wg 10 s).toInt, (wg 6 s).toInt) else zAdd (oB1 wg b s S) (2, ((zO S).length : Int), (wg 10 s).toInt, 8 * (wg 5 s).toInt + (wg 6 s).toInt)
def oBr (b : Nat) (fo : Int) (vs : List (List Int)) (S : S9) : Option Int × S9 := match chS wg wl b fo (zO S) vs with
  | none => (none, S)
  | some (s, f) => if 60 ≤ (zO S).length then (none, S) else (some ((zO S).length : Int), tlA wg wl b ((zO S).length : Int) vs f s (wg 7 s).toNatClampNeg 0 (oB2 wg b s S))
/-- the type of a setter, from a class up -/
def sgF (nm : Nat) : Nat → Int → Int
  | 0, _ => -1
  | f + 1, c => if c < 0 then -1 else if ¬ (wg 55 (26 * c.toNat + nm)).toInt = -1 then (wg 55 (26 * c.toNat + nm)).toInt else sgF nm f (wg 4 c.toNat).toInt
/-- one set that is worked out -/
def oSe (o : Int) (h : Nat) (V : List Int) (S : S9) : Option Int × S9 :=
  let t := sgF wg (wg 22 h).toNatClampNeg 8 (((zO S)[o.toNat]?).getD (0, 0)).1
  if t = -1 then (none, S) else if wCo wg wl (zO S) (ctE wg h) V t = -1 then (none, S) else (some 0, tlV wg wl 4 o (wg 22 h).toInt (ctE wg h) V t S)
def oSts (mk : Nat → S9 → Option Int × S9) (o : Int) : List Nat → S9 → Option Int × S9
  | [], S => (some 0, S)
  | h :: l, S => bd9 (oCon ws wg wl mk (ctE wg h) S) (fun V S => bd9 (oSe wg wl o h V S) (fun _ S => oSts mk o l S))
def oF1 (b : Nat) (o : Int) (S : S9) : S9 := if (wg 32 b).toInt = -1 then S else zAdd S (5, o, (wg 32 b).toInt, 0)
def oF2 (b : Nat) (S : S9) : S9 := if ¬ wl 4 b = 0 ∧ wg 35 b = 0 then (zO S, zE S, fu9 (zS S) b 2, zW S, zF S ++ [b]) else (zO S, zE S, fu9 (zS S) b 0, zW S, zF S)
def oFi (b : Nat) (o : Int) (S : S9) : S9 := oF2 wg wl b (oF1 wg b o S)
/-- what is left behind each stage -/
def r4 (mk : Nat → S9 → Option Int × S9) (b : Nat) (o : Int) (l : List Nat) (S : S9) : Option Int × S9 := bd9 (oSts ws wg wl mk o l S) (fun _ S => (some o, oFi wg wl b o S))
def r3 (mk : Nat → S9 → Option Int × S9) (b : Nat) (fo : Int) (vs : List (List Int)) (S : S9) : Option Int × S9 := bd9 (oBr wg wl b fo vs S) (fun o S => r4 ws wg wl mk b o (liL wg (3 * b + 1)) S)
def r2 (mk : Nat → S9 → Option Int × S9) (b : Nat) (fo : Int) (l : List Nat) (acc : List (List Int)) (S : S9) : Option Int × S9 := bd9 (oArs ws wg wl mk l acc S) (fun vs S => r3 ws wg wl mk b fo vs S)
def oFa (mk : Nat → S9 → Option Int × S9) (b : Nat) (S : S9) : Option Int × S9 := if wl 7 b = 0 then (some (-1), S) else oGet wg mk (caN ws wg wl (wl 7 b)) S
def r1 (mk : Nat → S9 → Option Int × S9) (b : Nat) (S : S9) : Option Int × S9 :=
  if (wg 30 b).toInt = -1 ∧ wl 7 b = 0 then (none, S) else bd9 (oFa ws wg wl mk b S) (fun fo S => r2 ws wg wl mk b fo (liL wg (3 * b)) [] S)
def oDe (mk : Nat → S9 → Option Int × S9) (b : Nat) (S : S9) : Option Int × S9 := if wl 6 b = 0 then (some (-1), S) else oGet wg mk (caN ws wg wl (wl 6 b)) S
def oBe (b : Nat) (S : S9) : S9 := (zO S, zE S, fu9 (zS S) b 1, fu9 (zW S) b (-1), zF S)
def oMB (mk : Nat → S9 → Option Int × S9) (b : Nat) (S : S9) : Option Int × S9 := bd9 (oDe ws wg wl mk b (oBe b S)) (fun _ S => r1 ws wg wl mk b S)
def oMK : Nat → Nat → S9 → Option Int × S9
  | 0, _, S => (none, S)
  | n + 1, b, S => if zS S b = 1 then (none, S) else oMB ws wg wl (oMK n) b S
/-- what was being made is not being made any more -/
def zSt (S : S9) : S9 := (zO S, zE S, fun b => if zS S b = 1 then 0 else zS S b, zW S, zF S)
def zRn (x : Option Int × S9) : Option Int × S9 := match x with
  | (some o, S) => (some o, S)
  | (none, S) => (none, zSt S)
/-- to close -/
def dsL (l : List Nat) (S : S9) : S9 := l.foldl (fun S b => if (wg 33 b).toInt = -1 then S else zAdd S (7, zW S b, (wg 33 b).toInt, 0)) S
def zFo (S : S9) : S9 := (zO S, zE S, fun b => if zS S b = 2 then 0 else zS S b, zW S, [])
def zCl (S : S9) : S9 := zFo (dsL wg (zF S).reverse S)
/-- to refresh: the beans from one on -/
def rfW (b : Nat) : Prop := ¬ wl 4 b = 0 ∧ wg 34 b = 0 ∧ wg 35 b = 0 ∧ wg 36 b = 0
def rfL (n : Nat) : Nat → Nat → S9 → Option Int × S9
  | 0, _, S => (some 0, S)
  | k + 1, b, S => if ¬ wl 4 b = 0 ∧ wg 34 b = 0 ∧ wg 35 b = 0 ∧ wg 36 b = 0 then bd9 (oGet wg (oMK ws wg wl n) (b : Int) S) (fun _ S => rfL n k (b + 1) S) else rfL n k (b + 1) S
def zCe (S : S9) : S9 := (zO S, [], zS S, zW S, zF S)
def zRf (n : Nat) (S : S9) : Option Int × S9 := match rfL ws wg wl n (ws 12).toNatClampNeg 0 (zCe (zFo S)) with
  | (some _, S) => (some ((zO S).length : Int), S)
  | (none, S) => (none, zCl wg (zSt S))
/-- the lookup of a list with a name -/
def lkL (nm : Int) : List Nat → Int
  | [] => -1
  | e :: l => if (wg 22 e).toInt = nm then (e : Int) else lkL nm l
def zLk (k nm : Int) (S : S9) : Int := if k < 0 then -1 else match (zO S)[k.toNat]? with
  | none => -1
  | some o => lkL wg nm (liL wg (3 * o.2.toNat + 2))
def zGt (n : Nat) (v : Int64) (S : S9) : Option Int × S9 := zRn (oGet wg (oMK ws wg wl n) (caN ws wg wl v) S)
end MK9
/-- what is told of an object, of an event -/
def zOb (k w : Int) (S : S9) : Int := if k < 0 then -1 else match (zO S)[k.toNat]? with
  | none => -1
  | some o => if w = 0 then o.1 else if w = 1 then o.2 else -1
def zEv (k w : Int) (S : S9) : Int := if k < 0 then -1 else match (zE S)[k.toNat]? with
  | none => -1
  | some e => if w = 0 then e.1 else if w = 1 then e.2.1 else if w = 2 then e.2.2.1 else if w = 3 then e.2.2.2 else -1
/-- a name without its zeros -/
def by9 (v : Int64) (s : Int32) : Int64 := ((v.toUInt64 >>> ((s : Int32).toInt64.toUInt64 &&& Int64.toUInt64 63)).toInt64) &&& 255
def wzG (v : Int64) : Nat → Int32 → Int64 → Int64
  | 0, _, a => a
  | f + 1, s, a => if s.toInt < 0 then a else wzG v f (s + (-8)) (if by9 v s = 0 then a else (a <<< ((8 : Int32).toInt64 &&& 63)) ||| by9 v s)
def wz9 (v : Int64) : Int64 := wzG v 8 56 0
end
section
/-- the class's rows that making leaves as they are -/
def dyn9 : List Nat := [37, 38, 39, 48, 49, 50, 51, 52, 53]
def st9 (gm : Nat → Nat → Int32) : Nat → Nat → Int32 := fun k => if dyn9.contains k = true then (fun _ => 0) else gm k
def ss9 (sg : Nat → Int32) : Nat → Int32 := fun k => if k = 4 ∨ k = 12 then sg k else 0
theorem st9_e {gm : Nat → Nat → Int32} {k : Nat} (h : dyn9.contains k = false) : st9 gm k = gm k := by unfold st9; rw [h]; rfl
theorem st9_ks {gm gm2 : Nat → Nat → Int32} {L : List Nat} (h : KS L gm gm2) (hL : L.all (fun k => dyn9.contains k) = true) : st9 gm2 = st9 gm := by
  funext k
  unfold st9
  by_cases q : dyn9.contains k = true
  · rw [if_pos q, if_pos q]
  · rw [if_neg q, if_neg q]
    refine h k ?_
    cases hk : L.contains k with
    | false => rfl
    | true => exact absurd (List.all_eq_true.mp hL k (List.contains_iff_mem.mp hk)) q
theorem ss9_ks {sg sg2 : Nat → Int32} {L : List Nat} (h : KS L sg sg2) (h4 : L.contains 4 = false) (h12 : L.contains 12 = false) : ss9 sg2 = ss9 sg := by
  funext k
  unfold ss9
  by_cases q : k = 4 ∨ k = 12
  · rw [if_pos q, if_pos q]
    rcases q with rfl | rfl
    · exact h 4 h4
    · exact h 12 h12
  · rw [if_neg q, if_neg q]
/-- what the class's rows tell of the making -/
def RCo (S : S9) (sg : Nat → Int32) (gm : Nat → Nat → Int32) : Prop := (sg 14).toInt = ((zO S).length : Int) ∧ ∀ k o, (zO S)[k]? = some o → (gm 49 k).toInt = o.1 ∧ (gm 50 k).toInt = o.2
def RCe (S : S9) (sg : Nat → Int32) (gm : Nat → Nat → Int32) : Prop := (sg 13).toInt = ((zE S).length : Int) ∧ ∀ k e, (zE S)[k]? = some e → (gm 48 (4 * k)).toInt = e.1 ∧ (gm 48 (4 * k + 1)).toInt = e.2.1 ∧ (gm 48 (4 * k + 2)).toInt = e.2.2.1 ∧ (gm 48 (4 * k + 3)).toInt = e.2.2.2
def RCb (wg : Nat → Nat → Int32) (lg : Nat → Nat → Int64) (S : S9) (sg : Nat → Int32) (gm : Nat → Nat → Int32) : Prop := ∀ b, b < (sg 12).toNatClampNeg → (zS S b = 1 ↔ ¬ gm 37 b = 0) ∧ (¬ lg 4 b = 0 → wg 35 b = 0 → (zS S b = 2 ↔ ¬ gm 38 b = 0) ∧ (¬ zS S b = 0 → (gm 39 b).toInt = zW S b ∧ zW S b < ((zO S).length : Int))) ∧ zS S b ≤ 2
def RCf (wg : Nat → Nat → Int32) (lg : Nat → Nat → Int64) (S : S9) (sg : Nat → Int32) (gm : Nat → Nat → Int32) : Prop := (sg 15).toInt = ((zF S).length : Int) ∧ (∀ (k b : Nat), (zF S)[k]? = some b → (gm 51 k).toInt = (b : Int) ∧ b < (sg 12).toNatClampNeg ∧ ¬ lg 4 b = 0 ∧ wg 35 b = 0 ∧ zS S b = 2) ∧ (zF S).Nodup
def RC (wg : Nat → Nat → Int32) (lg : Nat → Nat → Int64) (S : S9) (sg : Nat → Int32) (gm : Nat → Nat → Int32) : Prop := RCo S sg gm ∧ RCe S sg gm ∧ RCb wg lg S sg gm ∧ RCf wg lg S sg gm
/-- nothing of what RC speaks of has changed -/
theorem RC_k {wg : Nat → Nat → Int32} {lg : Nat → Nat → Int64} {S : S9} {sg sg2 : Nat → Int32} {gm gm2 : Nat → Nat → Int32} (h : RC wg lg S sg gm) (h12 : sg2 12 = sg 12) (h13 : sg2 13 = sg 13) (h14 : sg2 14 = sg 14) (h15 : sg2 15 = sg 15) (g37 : gm2 37 = gm 37) (g38 : gm2 38 = gm 38) (g39 : gm2 39 = gm 39) (g48 : gm2 48 = gm 48) (g49 : gm2 49 = gm 49) (g50 : gm2 50 = gm 50) (g51 : gm2 51 = gm 51) : RC wg lg S sg2 gm2 := by
  obtain ⟨a, b, c, d⟩ := h
  unfold RCo at a; unfold RCe at b; unfold RCb at c; unfold RCf at d
  unfold RC RCo RCe RCb RCf
  rw [h12, h13, h14, h15, g37, g38, g39, g48, g49, g50, g51]
  exact ⟨a, b, c, d⟩
def rk9 : List Nat := [37, 38, 39, 48, 49, 50, 51]
theorem RC_ks {wg : Nat → Nat → Int32} {lg : Nat → Nat → Int64} {S : S9} {sg sg2 : Nat → Int32} {gm gm2 : Nat → Nat → Int32} {L M : List Nat} (h : RC wg lg S sg gm) (hs : KS L sg sg2) (hg : KS M gm gm2) (hL : [12, 13, 14, 15].all (fun k => !L.contains k) = true) (hM : rk9.all (fun k => !M.contains k) = true) : RC wg lg S sg2 gm2 := by
  have f : ∀ k, k ∈ [12, 13, 14, 15] → sg2 k = sg k := fun k hk => hs k (by
    have := List.all_eq_true.mp hL k hk
    simpa using this)
  have g : ∀ k, k ∈ rk9 → gm2 k = gm k := fun k hk => hg k (by
    have := List.all_eq_true.mp hM k hk
    simpa using this)
  exact RC_k h (f 12 (by decide)) (f 13 (by decide)) (f 14 (by decide)) (f 15 (by decide)) (g 37 (by decide)) (g 38 (by decide)) (g 39 (by decide)) (g 48 (by decide)) (g 49 (by decide)) (g 50 (by decide)) (g 51 (by decide))
theorem ga9 {α : Type} {l : List α} {x y : α} {k : Nat} (h : (l ++ [x])[k]? = some y) : (k < l.length ∧ l[k]? = some y) ∨ (k = l.length ∧ x = y) := by
  by_cases hk : k < l.length
  · rw [List.getElem?_append_left hk] at h; exact Or.inl ⟨hk, h⟩
  · rw [List.getElem?_append_right (by omega)] at h
    by_cases e : k = l.length
    · refine Or.inr ⟨e, ?_⟩
      rw [e, Nat.sub_self] at h
      exact Option.some.inj h
    · obtain ⟨j, hj⟩ : ∃ j, k - l.length = j + 1 := ⟨k - l.length - 1, by omega⟩
      rw [hj] at h; cases h
theorem gl9 {α : Type} {l : List α} {y : α} {k : Nat} (h : l[k]? = some y) : k < l.length := by
  by_cases hk : k < l.length
  · exact hk
  · rw [List.getElem?_eq_none (by omega)] at h; cases h
theorem RC_full {wg : Nat → Nat → Int32} {lg : Nat → Nat → Int64} {S : S9} {sg : Nat → Int32} {gm : Nat → Nat → Int32} {e : Ev9} (h : RC wg lg S sg gm) (hf : 400 ≤ (sg 13).toInt) : RC wg lg (zAdd S e) sg gm := by
  have h1 := h.2.1.1
  have : zAdd S e = S := by unfold zAdd; rw [if_pos (by omega)]
  rw [this]; exact h
theorem RC_ev {wg : Nat → Nat → Int32} {lg : Nat → Nat → Int64} {S : S9} {sg sg2 : Nat → Int32} {gm gm2 : Nat → Nat → Int32} {a b c d : Int32} {i0 i1 i2 i3 : Nat} (h : RC wg lg S sg gm) (hs : KS [13] sg sg2) (hg : KS [48] gm gm2) (hlt : (sg 13).toInt < 400) (h13 : (sg2 13).toInt = (sg 13).toInt + 1) (h48 : gm2 48 = upd (upd (upd (upd (gm 48) i0 a) i1 b) i2 c) i3 d) (e0 : (i0 : Int) = 4 * (sg 13).toInt) (e1 : i1 = i0 + 1) (e2 : i2 = i0 + 2) (e3 : i3 = i0 + 3) : RC wg lg (zAdd S (a.toInt, b.toInt, c.toInt, d.toInt)) sg2 gm2 := by
  obtain ⟨ho, he, hb, hf⟩ := h
  have h1 := he.1
  have hz : zAdd S (a.toInt, b.toInt, c.toInt, d.toInt) = (zO S, zE S ++ [(a.toInt, b.toInt, c.toInt, d.toInt)], zS S, zW S, zF S) := by unfold zAdd; rw [if_neg (by omega)]
  rw [hz]
  have s12 := hs 12 (by decide); have s14 := hs 14 (by decide); have s15 := hs 15 (by decide)
  have g37 := hg 37 (by decide); have g38 := hg 38 (by decide); have g39 := hg 39 (by decide); have g49 := hg 49 (by decide); have g50 := hg 50 (by decide); have g51 := hg 51 (by decide)
  refine ⟨?_, ?_, ?_, ?_⟩
  · unfold RCo; rw [s14, g49, g50]; exact ho
  · refine ⟨by rw [h13, h1]; show _ = ((zE S ++ [_]).length : Int); rw [List.length_append]; rfl, ?_⟩
    intro k e hk
    have hk : (zE S ++ [(a.toInt, b.toInt, c.toInt, d.toInt)])[k]? = some e := hk
    rw [h48]
    rcases ga9 hk with ⟨hl, hk⟩ | ⟨hl, hk⟩
    · have q := he.2 k e hk
      have n : ∀ j, j < 4 → upd (upd (upd (upd (gm 48) i0 a) i1 b) i2 c) i3 d (4 * k + j) = gm 48 (4 * k + j) := fun j hj => by
        rw [upd_ne (by omega), upd_ne (by omega), upd_ne (by omega), upd_ne (by omega)]
      rw [show 4 * k = 4 * k + 0 from rfl, n 0 (by omega), n 1 (by omega), n 2 (by omega), n 3 (by omega)]
      exact q
    · subst hk
      have e9 : i0 = 4 * k := by omega
      subst e1; subst e2; subst e3; subst e9
      refine ⟨?_, ?_, ?_, ?_⟩
      · rw [upd_ne (by omega), upd_ne (by omega), upd_ne (by omega), upd_at]
      · rw [upd_ne (by omega), upd_ne (by omega), upd_at]
      · rw [upd_ne (by omega), upd_at]
      · rw [upd_at]
  · unfold RCb; rw [s12, g37, g38, g39]; exact hb
  · unfold RCf; rw [s12, s15, g51]; exact hf
theorem sw9 {gm wg : Nat → Nat → Int32} (h : st9 gm = wg) (k : Nat) (hk : dyn9.contains k = false) (i : Nat) : wg k i = gm k i := by rw [← h, st9_e hk]
theorem swt9 {gm wg : Nat → Nat → Int32} (h : st9 gm = wg) {k i : Nat} {z : Int32} (e : z = gm k i) (hk : dyn9.contains k = false) : wg k i = z := (sw9 h k hk i).trans e.symm
end
section
theorem cln9 {u : Int32} (h : 0 ≤ u.toInt) : (u.toNatClampNeg : Int) = u.toInt := by
  have : u.toNatClampNeg = u.toInt.toNat := rfl
  omega
theorem stF_o {wg : Nat → Nat → Int32} {k c u : Int} {f : Nat} (h : c < 0) : stF wg k f c u = -1 := by
  cases f with
  | zero => rfl
  | succ f => show (if c < 0 then (-1 : Int) else _) = -1; rw [if_pos h]
theorem stF_y {wg : Nat → Nat → Int32} {k c u : Int} {f : Nat} (hf : 0 < f) (h : 0 ≤ c) (he : (wg 2 c.toNat).toInt = k) : stF wg k f c u = u := by
  obtain ⟨g, rfl⟩ : ∃ g, f = g + 1 := ⟨f - 1, by omega⟩
  show (if c < 0 then (-1 : Int) else if (wg 2 c.toNat).toInt = k then u else _) = u
  rw [if_neg (by omega), if_pos he]
theorem stF_s {wg : Nat → Nat → Int32} {k c u : Int} {f : Nat} (h : 0 ≤ c) (hn : ¬ (wg 2 c.toNat).toInt = k) : stF wg k (f + 1) c u = stF wg k f (wg 4 c.toNat).toInt (u + 1) := by
  show (if c < 0 then (-1 : Int) else if (wg 2 c.toNat).toInt = k then u else _) = _
  rw [if_neg (by omega), if_neg hn]
theorem stF_st {wg : Nat → Nat → Int32} {k R : Int} {x u u2 y : Int32} (h : R = stF wg k (8 - u.toNatClampNeg) x.toInt u.toInt) (hu : iv 0 7 u) (hx : 0 ≤ x.toInt) (hn : ¬ (wg 2 x.toNatClampNeg).toInt = k) (hy : y = wg 4 x.toNatClampNeg) (hu2 : u2.toInt = u.toInt + 1) : R = stF wg k (8 - u2.toNatClampNeg) y.toInt u2.toInt := by
  have a := cln9 hu.1
  have b := cln9 (u := u2) (by have := hu.1; omega)
  have c := hu.2
  rw [show 8 - u.toNatClampNeg = (8 - u2.toNatClampNeg) + 1 by omega, stF_s hx hn] at h
  rw [h, hy, hu2]; rfl
theorem stF_e {wg : Nat → Nat → Int32} {k R : Int} {x u : Int32} (h : R = stF wg k (8 - u.toNatClampNeg) x.toInt u.toInt) (hx : x.toInt < 0 ∨ 8 ≤ u.toInt) : R = -1 := by
  rcases hx with hx | hx
  · rw [h, stF_o hx]
  · have a := cln9 (u := u) (by omega)
    rw [h, show 8 - u.toNatClampNeg = 0 by omega]; rfl
theorem stF_h {wg : Nat → Nat → Int32} {k R : Int} {x u : Int32} (h : R = stF wg k (8 - u.toNatClampNeg) x.toInt u.toInt) (hu : iv 0 7 u) (hx : 0 ≤ x.toInt) (he : (wg 2 x.toNatClampNeg).toInt = k) : R = u.toInt := by
  have a := cln9 hu.1
  have c := hu.2
  rw [h, stF_y (by omega) hx he]
theorem sgF_o {wg : Nat → Nat → Int32} {nm f : Nat} {c : Int} (h : c < 0) : sgF wg nm f c = -1 := by
  cases f with
  | zero => rfl
  | succ f => show (if c < 0 then (-1 : Int) else _) = -1; rw [if_pos h]
theorem sgF_st {wg : Nat → Nat → Int32} {nm : Nat} {R : Int} {x u u2 y : Int32} (h : R = sgF wg nm (8 - u.toNatClampNeg) x.toInt) (hu : iv 0 7 u) (hx : 0 ≤ x.toInt) (hn : (wg 55 (26 * x.toNatClampNeg + nm)).toInt = -1) (hy : y = wg 4 x.toNatClampNeg) (hu2 : u2.toInt = u.toInt + 1) : R = sgF wg nm (8 - u2.toNatClampNeg) y.toInt := by
  have a := cln9 hu.1
  have b := cln9 (u := u2) (by have := hu.1; omega)
  have c := hu.2
  rw [show 8 - u.toNatClampNeg = (8 - u2.toNatClampNeg) + 1 by omega] at h
  rw [h, hy]
  show (if x.toInt < 0 then (-1 : Int) else if ¬ (wg 55 (26 * x.toNatClampNeg + nm)).toInt = -1 then _ else _) = _
  rw [if_neg (by omega), if_neg (by omega)]; rfl
theorem sgF_e {wg : Nat → Nat → Int32} {nm : Nat} {R : Int} {x u : Int32} (h : R = sgF wg nm (8 - u.toNatClampNeg) x.toInt) (hx : x.toInt < 0 ∨ 8 ≤ u.toInt) : R = -1 := by
  rcases hx with hx | hx
  · rw [h, sgF_o hx]
  · have a := cln9 (u := u) (by omega)
    rw [h, show 8 - u.toNatClampNeg = 0 by omega]; rfl
theorem sgF_h {wg : Nat → Nat → Int32} {nm : Nat} {R : Int} {x u : Int32} (h : R = sgF wg nm (8 - u.toNatClampNeg) x.toInt) (hu : iv 0 7 u) (hx : 0 ≤ x.toInt) (he : ¬ (wg 55 (26 * x.toNatClampNeg + nm)).toInt = -1) : R = (wg 55 (26 * x.toNatClampNeg + nm)).toInt := by
  have a := cln9 hu.1
  have c := hu.2
  obtain ⟨g, hg⟩ : ∃ g, 8 - u.toNatClampNeg = g + 1 := ⟨7 - u.toNatClampNeg, by omega⟩
  rw [h, hg]
  show (if x.toInt < 0 then (-1 : Int) else if ¬ (wg 55 (26 * x.toNatClampNeg + nm)).toInt = -1 then _ else _) = _
  rw [if_neg (by omega), if_pos he]; rfl
theorem owB_t {wg : Nat → Nat → Int32} {m st : Int} {c i : Nat} (h : i < (wg 1 c).toNatClampNeg) (hc : cdS wg m st (8 * c + 4 + i)) : owB wg m st c = true :=
  List.any_eq_true.mpr ⟨i, List.mem_range.mpr h, decide_eq_true hc⟩
theorem owB_f {wg : Nat → Nat → Int32} {m st : Int} {c : Nat} (h : ∀ i, i < (wg 1 c).toNatClampNeg → ¬ cdS wg m st (8 * c + 4 + i)) : owB wg m st c = false := by
  cases q : owB wg m st c with
  | false => rfl
  | true =>
    obtain ⟨i, hi, hc⟩ := List.any_eq_true.mp q
    exact absurd (of_decide_eq_true hc) (h i (List.mem_range.mp hi))
theorem wfF_o {wg : Nat → Nat → Int32} {m st : Int} {f : Nat} {c : Int} (h : c < 0) : wfF wg m st f c = -1 := by
  cases f with
  | zero => rfl
  | succ f => show (if c < 0 then (-1 : Int) else _) = -1; rw [if_pos h]
theorem wfF_st {wg : Nat → Nat → Int32} {m st : Int} {R : Int} {x u u2 y : Int32} (h : R = wfF wg m st (8 - u.toNatClampNeg) x.toInt) (hu : iv 0 7 u) (hx : 0 ≤ x.toInt) (hn : owB wg m st x.toNatClampNeg = false) (hy : y = wg 4 x.toNatClampNeg) (hu2 : u2.toInt = u.toInt + 1) : R = wfF wg m st (8 - u2.toNatClampNeg) y.toInt := by
  have a := cln9 hu.1
  have b := cln9 (u := u2) (by have := hu.1; omega)
  have c := hu.2
  rw [show 8 - u.toNatClampNeg = (8 - u2.toNatClampNeg) + 1 by omega] at h
  rw [h, hy]
  show (if x.toInt < 0 then (-1 : Int) else if owB wg m st x.toNatClampNeg = true then _ else _) = _
  rw [if_neg (by omega), if_neg (by rw [hn]; decide)]; rfl
theorem wfF_e {wg : Nat → Nat → Int32} {m st : Int} {R : Int} {x u : Int32} (h : R = wfF wg m st (8 - u.toNatClampNeg) x.toInt) (hx : x.toInt < 0 ∨ 8 ≤ u.toInt) : R = -1 := by
  rcases hx with hx | hx
  · rw [h, wfF_o hx]
  · have a := cln9 (u := u) (by omega)
    rw [h, show 8 - u.toNatClampNeg = 0 by omega]; rfl
theorem wfF_h {wg : Nat → Nat → Int32} {m st : Int} {R : Int} {x u : Int32} (h : R = wfF wg m st (8 - u.toNatClampNeg) x.toInt) (hu : iv 0 7 u) (hx : 0 ≤ x.toInt) (he : owB wg m st x.toNatClampNeg = true) : R = x.toInt := by
  have a := cln9 hu.1
  have c := hu.2
  obtain ⟨g, hg⟩ : ∃ g, 8 - u.toNatClampNeg = g + 1 := ⟨7 - u.toNatClampNeg, by omega⟩
  rw [h, hg]
  show (if x.toInt < 0 then (-1 : Int) else if owB wg m st x.toNatClampNeg = true then _ else _) = _
  rw [if_neg (by omega), if_pos he]
end
section
set_option maxHeartbeats 4000000 in
set_option maxRecDepth 100000 in
theorem d_addEv9 (l : Launch) (dC : Nat → ClassId) (dI : Nat → Nat → Nat) (ad : Nat → Nat → Nat) (cid : Nat → ClassId) (a2 : Nat → Nat) (lx : List Nat) (sg : Nat → Int32) (gm : Nat → Nat → Int32) (lg : Nat → Nat → Int64) (x : Int32) (a : Int32) (b : Int32) (f : Int32) (g : Int32) (wg : Nat → Nat → Int32) (S : S9) (hI : CI sg gm) (hvx : iv 0 0 x) (hRC : RC wg lg S sg gm) : CMt dC dI ad cid a2 lx l yX4_add wm_X4_add ({ frames := 0, cells := 1, slots := 6, locals := 0 }) [eV (ad 5) x, .int a, .int b, .int f, .int g] sg gm lg (fun v u => v = none ∧ ∃ (sg2 : Nat → Int32) (gm2 : Nat → Nat → Int32) (lg2 : Nat → Nat → Int64), u = (sg2, gm2, lg2) ∧ CI sg2 gm2 ∧ KS [13] sg sg2 ∧ KS [48] gm gm2 ∧ KS [] lg lg2 ∧ (RC wg lg (zAdd S (a.toInt, b.toInt, f.toInt, g.toInt)) sg2 gm2)) (fun _ _ => False) := by
  intro sz
  refine vx_ofW (cc := cX4_add) (maxL := 6) (ret := none) (by decide) rfl ?_
  intro p e s m args below meth c s₁ B hml hxt hv
  obtain ⟨rfl, hsz, hP, hK, hD0, hG⟩ := hv
  have hx := B.exec
  have hb := B.bytes
  have hr := B.returns
  have hts := atoms_spec (ws := wm_X4_add) B.pre
  have htb := fun (w : Cond) (h : w ∈ tb) => hts w (List.mem_cons_of_mem _ h)
  have hown : s.vm.findClass RX4 = some m.cls := findClass_of_methodNamed B.named
  have hlocks := B.notSynchronized
  subst hsz
  have hD := hD0.self (sz := s.heap.size)
  generalize hAe : va_A (cW ad cid a2 lx sg gm lg) s.heap.size = A at hD hG ⊢
  have hA : ∀ q : Nat, s.heap.size ≤ q → A q := fun q h => by rw [← hAe]; exact Or.inr h
  have hS : va_S A s.heap s.heap [] := va_S.rf
  have hl := lv_entry ([eV (ad 5) x, .int a, .int b, .int f, .int g]) (n := 6) (by rw [show (lg_sl ([eV (ad 5) x, .int a, .int b, .int f, .int g])).length = 5 from by simp [lg_sl, eV_cat, cat_i, cat_l]]; exact Nat.le_of_ble_eq_true rfl)
  rw [lg_entry_eq]
  generalize (lg_sl ([eV (ad 5) x, .int a, .int b, .int f, .int g]) ++ List.replicate (6 - (lg_sl ([eV (ad 5) x, .int a, .int b, .int f, .int g])).length) Slot.unset).toArray = ls at hl ⊢
  have hl : lv_has ls 6 [(0, eV (ad 5) x), (1, .int a), (2, .int b), (3, .int f), (4, .int g)] := by simp [lv_args, eV_cat, cat_i, cat_l] at hl; exact hl
  refine ec_aload_n hx hb dX4_add_0 rfl (lv_at hl 0 rfl) ?_
  refine cr_get (t := 5) (j := 1) (C := RX4) (T := TX4) (N := 2) (v := .int (sg 13)) hx hb htb inX4 hown hK hP hvx (by decide) (by decide) (by decide) rfl (by decide) (htb _ kw_397) rfl dX4_add_1 ?_
  refine lv_sipush (v := 400) hx hb dX4_add_4 (by decide) ?_
  refine lv_icmp_lt (tgt := 11) hx hb dX4_add_7 (by decide) (fun c_1 => ?_) (fun c_1 => ?_)
  · have h_2 : iv 0 399 (sg 13) := iv_ltL c_1 (show iv 0 400 (sg 13) from CI_s hI 13) (iv_k (by decide) : iv 400 400 400) (by decide)
    refine ec_aload_n hx hb dX4_add_11 rfl (lv_at hl 0 rfl) ?_
    refine cr_get (t := 5) (j := 1) (C := RX4) (T := TX4) (N := 2) (v := .int (sg 13)) hx hb htb inX4 hown hK hP hvx (by decide) (by decide) (by decide) rfl (by decide) (htb _ kw_397) rfl dX4_add_12 ?_
    refine lv_iconst (v := 4) hx hb dX4_add_15 (by decide) ?_
    refine lv_imul hx hb dX4_add_16 ?_
    refine lv_topi (fun z_3 ez_3 => ?_)
    have hz_3 : iv 0 1596 z_3 := iv_of ez_3 (iv_mul h_2 (iv_k (by decide) : iv 4 4 4) (by decide))
    have tz_3 : z_3.toInt = ((sg 13) : Int32).toInt * 4 := by rw [ez_3]; exact iv_mulE h_2 (iv_k (by decide) : iv 4 4 4) (by decide)
    refine lv_istore (i := 5) (lv' := [(5, .int z_3), (0, eV (ad 5) x), (1, .int a), (2, .int b), (3, .int f), (4, .int g)]) hx hb dX4_add_17 hl (by decide) rfl (fun ls hl => ?_)
    refine ec_aload_n hx hb dX4_add_19 rfl (lv_at hl 1 rfl) ?_
    refine cr_get (t := 5) (j := 0) (C := RX4) (T := TX4) (N := 2) (v := eV (ad 21) 0) hx hb htb inX4 hown hK hP hvx (by decide) (by decide) (by decide) rfl (by decide) (htb _ kw_396) (cV_c rfl (by decide) (by rw [show cMu 5 0 = 0 from rfl, Nat.zero_mul]; rfl)) dX4_add_20 ?_
    refine lv_iload hx hb dX4_add_23 (lv_at hl 0 rfl) ?_
    refine lv_iload_n hx hb dX4_add_25 rfl (lv_at hl 2 rfl) ?_
    refine cr_iast (t := 21) (k := 48) (n9 := (z_3 : Int32).toNatClampNeg) (z := a) hx hb hK hP hD hS (iv_k (by decide) : iv 0 0 0) (by decide) (by decide) (by decide) rfl rfl rfl (show vp_in z_3 (cLen 21) from (show vp_in z_3 1600 from (iv_in hz_3 (by decide)))) (Or.inl rfl) (by rw [show cAw 21 = 0 from rfl, Nat.zero_mul, Nat.zero_add]) dX4_add_26 (fun gm_4 H locs egm_4 hP hD hS => ?_)
    have hI_gm_4 := CI_st hI egm_4 (iv_all a) (by decide)
    refine ec_aload_n hx hb dX4_add_27 rfl (lv_at hl 1 rfl) ?_
    refine cr_get (t := 5) (j := 0) (C := RX4) (T := TX4) (N := 2) (v := eV (ad 21) 0) hx hb htb inX4 hown hK hP hvx (by decide) (by decide) (by decide) rfl (by decide) (htb _ kw_396) (cV_c rfl (by decide) (by rw [show cMu 5 0 = 0 from rfl, Nat.zero_mul]; rfl)) dX4_add_28 ?_
    refine lv_iload hx hb dX4_add_31 (lv_at hl 0 rfl) ?_
    refine lv_iconst (v := 1) hx hb dX4_add_33 (by decide) ?_
    refine lv_iadd hx hb dX4_add_34 ?_
    refine lv_topi (fun z_5 ez_5 => ?_)
    have hz_5 : iv 1 1597 z_5 := iv_of ez_5 (iv_add hz_3 (iv_k (by decide) : iv 1 1 1) (by decide))
    have tz_5 : z_5.toInt = (z_3 : Int32).toInt + 1 := by rw [ez_5]; exact iv_addE hz_3 (iv_k (by decide) : iv 1 1 1) (by decide)
    refine lv_iload_n hx hb dX4_add_35 rfl (lv_at hl 3 rfl) ?_
    refine cr_iast (t := 21) (k := 48) (n9 := (z_5 : Int32).toNatClampNeg) (z := b) hx hb hK hP hD hS (iv_k (by decide) : iv 0 0 0) (by decide) (by decide) (by decide) rfl rfl rfl (show vp_in z_5 (cLen 21) from (show vp_in z_5 1600 from (iv_in hz_5 (by decide)))) (Or.inl rfl) (by rw [show cAw 21 = 0 from rfl, Nat.zero_mul, Nat.zero_add]) dX4_add_36 (fun gm_6 H locs egm_6 hP hD hS => ?_)
    have hI_gm_6 := CI_st hI_gm_4 egm_6 (iv_all b) (by decide)
    refine ec_aload_n hx hb dX4_add_37 rfl (lv_at hl 1 rfl) ?_
    refine cr_get (t := 5) (j := 0) (C := RX4) (T := TX4) (N := 2) (v := eV (ad 21) 0) hx hb htb inX4 hown hK hP hvx (by decide) (by decide) (by decide) rfl (by decide) (htb _ kw_396) (cV_c rfl (by decide) (by rw [show cMu 5 0 = 0 from rfl, Nat.zero_mul]; rfl)) dX4_add_38 ?_
    refine lv_iload hx hb dX4_add_41 (lv_at hl 0 rfl) ?_
    refine lv_iconst (v := 2) hx hb dX4_add_43 (by decide) ?_
    refine lv_iadd hx hb dX4_add_44 ?_
    refine lv_topi (fun z_7 ez_7 => ?_)
    have hz_7 : iv 2 1598 z_7 := iv_of ez_7 (iv_add hz_3 (iv_k (by decide) : iv 2 2 2) (by decide))
    have tz_7 : z_7.toInt = (z_3 : Int32).toInt + 2 := by rw [ez_7]; exact iv_addE hz_3 (iv_k (by decide) : iv 2 2 2) (by decide)
    refine lv_iload_n hx hb dX4_add_45 rfl (lv_at hl 4 rfl) ?_
    refine cr_iast (t := 21) (k := 48) (n9 := (z_7 : Int32).toNatClampNeg) (z := f) hx hb hK hP hD hS (iv_k (by decide) : iv 0 0 0) (by decide) (by decide) (by decide) rfl rfl rfl (show vp_in z_7 (cLen 21) from (show vp_in z_7 1600 from (iv_in hz_7 (by decide)))) (Or.inl rfl) (by rw [show cAw 21 = 0 from rfl, Nat.zero_mul, Nat.zero_add]) dX4_add_46 (fun gm_8 H locs egm_8 hP hD hS => ?_)
    have hI_gm_8 := CI_st hI_gm_6 egm_8 (iv_all f) (by decide)
    refine ec_aload_n hx hb dX4_add_47 rfl (lv_at hl 1 rfl) ?_
    refine cr_get (t := 5) (j := 0) (C := RX4) (T := TX4) (N := 2) (v := eV (ad 21) 0) hx hb htb inX4 hown hK hP hvx (by decide) (by decide) (by decide) rfl (by decide) (htb _ kw_396) (cV_c rfl (by decide) (by rw [show cMu 5 0 = 0 from rfl, Nat.zero_mul]; rfl)) dX4_add_48 ?_
    refine lv_iload hx hb dX4_add_51 (lv_at hl 0 rfl) ?_
    refine lv_iconst (v := 3) hx hb dX4_add_53 (by decide) ?_
    refine lv_iadd hx hb dX4_add_54 ?_
    refine lv_topi (fun z_9 ez_9 => ?_)
    have hz_9 : iv 3 1599 z_9 := iv_of ez_9 (iv_add hz_3 (iv_k (by decide) : iv 3 3 3) (by decide))
    have tz_9 : z_9.toInt = (z_3 : Int32).toInt + 3 := by rw [ez_9]; exact iv_addE hz_3 (iv_k (by decide) : iv 3 3 3) (by decide)
    refine lv_iload hx hb dX4_add_55 (lv_at hl 5 rfl) ?_
    refine cr_iast (t := 21) (k := 48) (n9 := (z_9 : Int32).toNatClampNeg) (z := g) hx hb hK hP hD hS (iv_k (by decide) : iv 0 0 0) (by decide) (by decide) (by decide) rfl rfl rfl (show vp_in z_9 (cLen 21) from (show vp_in z_9 1600 from (iv_in hz_9 (by decide)))) (Or.inl rfl) (by rw [show cAw 21 = 0 from rfl, Nat.zero_mul, Nat.zero_add]) dX4_add_57 (fun gm_10 H locs egm_10 hP hD hS => ?_)
    have hI_gm_10 := CI_st hI_gm_8 egm_10 (iv_all g) (by decide)
    refine ec_aload_n hx hb dX4_add_58 rfl (lv_at hl 1 rfl) ?_
    refine lv_dup hx hb dX4_add_59 (eV_cat _ _) ?_
    refine cr_get (t := 5) (j := 1) (C := RX4) (T := TX4) (N := 2) (v := .int (sg 13)) hx hb htb inX4 hown hK hP hvx (by decide) (by decide) (by decide) rfl (by decide) (htb _ kw_397) rfl dX4_add_60 ?_
    refine lv_iconst (v := 1) hx hb dX4_add_63 (by decide) ?_
    refine lv_iadd hx hb dX4_add_64 ?_
    refine lv_topi (fun z_11 ez_11 => ?_)
    have hz_11 : iv 1 400 z_11 := iv_of ez_11 (iv_add h_2 (iv_k (by decide) : iv 1 1 1) (by decide))
    have tz_11 : z_11.toInt = ((sg 13) : Int32).toInt + 1 := by rw [ez_11]; exact iv_addE h_2 (iv_k (by decide) : iv 1 1 1) (by decide)
    refine cr_puts (t := 5) (j := 1) (C := RX4) (T := TX4) (N := 2) (ty0 := tyX4) (k := 13) (y := z_11) hx hb htb inX4 tyX4_ok nmX4 hown hK hP hD hS hvx (by decide) (by decide) (by decide) (by decide) rfl rfl rfl (by decide) (htb _ kw_397) rfl (by show Value.int z_11 = Value.int (va_up sg 13 z_11 13); rw [va_up_self]) rfl rfl dX4_add_65 (fun sg_12 H locs esg_12 hP hD hS => ?_)
    have hI_sg_12 := CI_put hI_gm_10 esg_12 hz_11 (by decide)
    exact W.nb (fun hN => W.widen (k := 1) (n := 6) (by decide) (by decide) (vx_ret (W.vret hx hb hr (fun t ht hW => ⟨⟨none, (sg_12, gm_10, lg), rfl, ⟨rfl, sg_12, gm_10, lg, rfl, hI_sg_12, (KS_up KS_rf esg_12 (by decide)), (KS_up (KS_up (KS_up (KS_up KS_rf egm_4 (by decide)) egm_6 (by decide)) egm_8 (by decide)) egm_10 (by decide)), KS_rf, (RC_ev hRC (KS_up KS_rf esg_12 (by decide)) (KS_up (KS_up (KS_up (KS_up KS_rf egm_4 (by decide)) egm_6 (by decide)) egm_8 (by decide)) egm_10 (by decide)) (by have := i32_0; have := i32_1; have := i32_2; have := i32_m1; have := congrArg Int32.toInt (show sg_12 13 = z_11 from up_at esg_12); have := (hz_11).1; have := (hz_11).2; have := (hvx).1; have := (hvx).2; have := (h_2).1; have := (h_2).2; have := (hz_3).1; have := (hz_3).2; have := (hz_5).1; have := (hz_5).2; have := (hz_7).1; have := (hz_7).2; have := (hz_9).1; have := (hz_9).2; omega) (by have := i32_0; have := i32_1; have := i32_2; have := i32_m1; have := congrArg Int32.toInt (show sg_12 13 = z_11 from up_at esg_12); have := (hz_11).1; have := (hz_11).2; have := (hvx).1; have := (hvx).2; have := (h_2).1; have := (h_2).2; have := (hz_3).1; have := (hz_3).2; have := (hz_5).1; have := (hz_5).2; have := (hz_7).1; have := (hz_7).2; have := (hz_9).1; have := (hz_9).2; omega) (show gm_10 48 = upd (upd (upd (upd (gm 48) (z_3 : Int32).toNatClampNeg a) (z_5 : Int32).toNatClampNeg b) (z_7 : Int32).toNatClampNeg f) (z_9 : Int32).toNatClampNeg g from ((up_at egm_10).trans (by rw [show gm_8 48 = upd (upd (upd (gm 48) (z_3 : Int32).toNatClampNeg a) (z_5 : Int32).toNatClampNeg b) (z_7 : Int32).toNatClampNeg f from ((up_at egm_8).trans (by rw [show gm_6 48 = upd (upd (gm 48) (z_3 : Int32).toNatClampNeg a) (z_5 : Int32).toNatClampNeg b from ((up_at egm_6).trans (by rw [show gm_4 48 = upd (gm 48) (z_3 : Int32).toNatClampNeg a from ((up_at egm_4).trans (by rw [show gm 48 = gm 48 from rfl]))]))]))]))) (by have : (z_3 : Int32).toNatClampNeg = (z_3 : Int32).toInt.toNat := rfl; have : (z_3 : Int32).toNatClampNeg = (z_3 : Int32).toInt.toNat := rfl; have := i32_0; have := i32_1; have := i32_2; have := i32_m1; have := congrArg Int32.toInt (show sg_12 13 = z_11 from up_at esg_12); have := (hz_11).1; have := (hz_11).2; have := (hvx).1; have := (hvx).2; have := (h_2).1; have := (h_2).2; have := (hz_3).1; have := (hz_3).2; have := (hz_5).1; have := (hz_5).2; have := (hz_7).1; have := (hz_7).2; have := (hz_9).1; have := (hz_9).2; omega) (by have : (z_5 : Int32).toNatClampNeg = (z_5 : Int32).toInt.toNat := rfl; have : (z_3 : Int32).toNatClampNeg = (z_3 : Int32).toInt.toNat := rfl; have := i32_0; have := i32_1; have := i32_2; have := i32_m1; have := congrArg Int32.toInt (show sg_12 13 = z_11 from up_at esg_12); have := (hz_11).1; have := (hz_11).2; have := (hvx).1; have := (hvx).2; have := (h_2).1; have := (h_2).2; have := (hz_3).1; have := (hz_3).2; have := (hz_5).1; have := (hz_5).2; have := (hz_7).1; have := (hz_7).2; have := (hz_9).1; have := (hz_9).2; omega) (by have : (z_7 : Int32).toNatClampNeg = (z_7 : Int32).toInt.toNat := rfl; have : (z_3 : Int32).toNatClampNeg = (z_3 : Int32).toInt.toNat := rfl; have := i32_0; have := i32_1; have := i32_2; have := i32_m1; have := congrArg Int32.toInt (show sg_12 13 = z_11 from up_at esg_12); have := (hz_11).1; have := (hz_11).2; have := (hvx).1; have := (hvx).2; have := (h_2).1; have := (h_2).2; have := (hz_3).1; have := (hz_3).2; have := (hz_5).1; have := (hz_5).2; have := (hz_7).1; have := (hz_7).2; have := (hz_9).1; have := (hz_9).2; omega) (by have : (z_9 : Int32).toNatClampNeg = (z_9 : Int32).toInt.toNat := rfl; have : (z_3 : Int32).toNatClampNeg = (z_3 : Int32).toInt.toNat := rfl; have := i32_0; have := i32_1; have := i32_2; have := i32_m1; have := congrArg Int32.toInt (show sg_12 13 = z_11 from up_at esg_12); have := (hz_11).1; have := (hz_11).2; have := (hvx).1; have := (hvx).2; have := (h_2).1; have := (h_2).2; have := (hz_3).1; have := (hz_3).2; have := (hz_5).1; have := (hz_5).2; have := (hz_7).1; have := (hz_7).2; have := (hz_9).1; have := (hz_9).2; omega))⟩, by rw [ht]; exact hP, va_K.moved hW.alike hK, hD⟩, hS.F ht, by rw [ht]; exact hN⟩) hS.2.2 dX4_add_68)))
  · have h_13 : iv 400 400 (sg 13) := iv_leR (i32_ge c_1) (iv_k (by decide) : iv 400 400 400) (show iv 0 400 (sg 13) from CI_s hI 13) (by decide)
    exact W.nb (fun hN => W.widen (k := 1) (n := 6) (by decide) (by decide) (vx_ret (W.vret hx hb hr (fun t ht hW => ⟨⟨none, (sg, gm, lg), rfl, ⟨rfl, sg, gm, lg, rfl, hI, KS_rf, KS_rf, KS_rf, (RC_full hRC (by have := i32_0; have := i32_1; have := i32_2; have := i32_m1; have := (show iv 0 400 (sg 13) from CI_s hI 13).1; have := (show iv 0 400 (sg 13) from CI_s hI 13).2; have := (hvx).1; have := (hvx).2; have := (h_13).1; have := (h_13).2; omega))⟩, by rw [ht]; exact hP, va_K.moved hW.alike hK, hD⟩, hS.F ht, by rw [ht]; exact hN⟩) hS.2.2 dX4_add_10)))

set_option maxHeartbeats 4000000 in
set_option maxRecDepth 100000 in
theorem d_stepsTo9 (l : Launch) (dC : Nat → ClassId) (dI : Nat → Nat → Nat) (ad : Nat → Nat → Nat) (cid : Nat → ClassId) (a2 : Nat → Nat) (lx : List Nat) (sg : Nat → Int32) (gm : Nat → Nat → Int32) (lg : Nat → Nat → Int64) (x : Int32) (k : Int32) (wg : Nat → Nat → Int32) (hI : CI sg gm) (hvx : iv 0 7 x) (hSW : st9 gm = wg) : CMt dC dI ad cid a2 lx l yX2_stepsTo wm_X2_stepsTo ({ frames := 0, cells := 1, slots := 6, locals := 0 }) [eV (ad 7) x, .int k] sg gm lg (fun v u => ∃ r : Int32, v = some (.int r) ∧ u = (sg, gm, lg) ∧ (iv (-1) 7 r) ∧ (r.toInt = stF wg k.toInt 8 x.toInt 0)) (fun _ _ => False) := by
  intro sz
  refine vx_ofW (cc := cX2_stepsTo) (maxL := 4) (ret := (some .int)) (by decide) rfl ?_
  intro p e s m args below meth c s₁ B hml hxt hv
  obtain ⟨rfl, hsz, hP, hK, hD0, hG⟩ := hv
  have hx := B.exec
  have hb := B.bytes
  have hr := B.returns
  have hts := atoms_spec (ws := wm_X2_stepsTo) B.pre
  have htb := fun (w : Cond) (h : w ∈ tb) => hts w (List.mem_cons_of_mem _ h)
  have hown : s.vm.findClass RX2 = some m.cls := findClass_of_methodNamed B.named
  have hlocks := B.notSynchronized
  subst hsz
  have hD := hD0.self (sz := s.heap.size)
  generalize hAe : va_A (cW ad cid a2 lx sg gm lg) s.heap.size = A at hD hG ⊢
  have hA : ∀ q : Nat, s.heap.size ≤ q → A q := fun q h => by rw [← hAe]; exact Or.inr h
  have hS : va_S A s.heap s.heap [] := va_S.rf
  have hl := lv_entry ([eV (ad 7) x, .int k]) (n := 4) (by rw [show (lg_sl ([eV (ad 7) x, .int k])).length = 2 from by simp [lg_sl, eV_cat, cat_i, cat_l]]; exact Nat.le_of_ble_eq_true rfl)
  rw [lg_entry_eq]
  generalize (lg_sl ([eV (ad 7) x, .int k]) ++ List.replicate (4 - (lg_sl ([eV (ad 7) x, .int k])).length) Slot.unset).toArray = ls at hl ⊢
  have hl : lv_has ls 4 [(0, eV (ad 7) x), (1, .int k)] := by simp [lv_args, eV_cat, cat_i, cat_l] at hl; exact hl
  have hj35 : ∀ (x3_35 : Int32) (x2_35 : Int32) (_ : iv 0 8 x3_35) (_ : iv (-1) 7 x2_35) (_ : iv 0 7 x) (_ : stF wg k.toInt 8 x.toInt 0 = -1) (H : Heap) (locs : List Loc) (ls : Array Slot), va_P (dC, dI) vwCl (cW ad cid a2 lx sg gm lg) H → va_D A (cW ad cid a2 lx sg gm lg) → va_S A s.heap H locs → lv_has ls 4 [(3, .int x3_35), (2, eV (ad 7) x2_35), (0, eV (ad 7) x), (1, .int k)] → W p l e (headSpec wm_X2_stepsTo ({ frames := 0, cells := 1, slots := 6, locals := 0 })).room s m ([eV (ad 7) x, .int k] : List Value).toArray below meth c H locs 0 0 (vx_MQ below (cQx dC dI ad cid a2 lx (fun v u => ∃ r : Int32, v = some (.int r) ∧ u = (sg, gm, lg) ∧ (iv (-1) 7 r) ∧ (r.toInt = stF wg k.toInt 8 x.toInt 0)) A) (cX dC dI ad cid a2 lx (fun _ _ => False) A) ([eV (ad 7) x, .int k] : List Value).toArray s 1 6 A) (F0 m 35 ls []) := by
    intro x3_35 x2_35 hx3_35 hx2_35 hsx0_35 u35 H locs ls hP hD hS hl
    refine lv_iconst (v := (-1)) hx hb dX2_stepsTo_35 (by decide) ?_
    exact W.nb (fun hN => W.widen (k := 1) (n := 6) (by decide) (by decide) (vx_ret (W.iret (v := (-1)) hx hb hr (fun t ht hW => ⟨⟨some (.int (-1)), (sg, gm, lg), rfl, ⟨(-1), rfl, rfl, (iv_w (iv_k (by decide) : iv (-1) (-1) (-1)) (by decide)), ((by have q9 := u35; rw [q9]; rfl))⟩, by rw [ht]; exact hP, va_K.moved hW.alike hK, hD⟩, hS.F ht, by rw [ht]; exact hN⟩) hS.2.2 dX2_stepsTo_36)))
  have hj4 : ∀ (n : Nat) (x3_4 : Int32) (x2_4 : Int32) (_ : (8 - x3_4.toInt).toNat = n) (_ : iv 0 8 x3_4) (_ : iv (-1) 7 x2_4) (_ : iv 0 7 x) (_ : stF wg k.toInt 8 x.toInt 0 = stF wg k.toInt (8 - x3_4.toNatClampNeg) x2_4.toInt x3_4.toInt) (H : Heap) (locs : List Loc) (ls : Array Slot), va_P (dC, dI) vwCl (cW ad cid a2 lx sg gm lg) H → va_D A (cW ad cid a2 lx sg gm lg) → va_S A s.heap H locs → lv_has ls 4 [(3, .int x3_4), (2, eV (ad 7) x2_4), (0, eV (ad 7) x), (1, .int k)] → W p l e (headSpec wm_X2_stepsTo ({ frames := 0, cells := 1, slots := 6, locals := 0 })).room s m ([eV (ad 7) x, .int k] : List Value).toArray below meth c H locs 0 0 (vx_MQ below (cQx dC dI ad cid a2 lx (fun v u => ∃ r : Int32, v = some (.int r) ∧ u = (sg, gm, lg) ∧ (iv (-1) 7 r) ∧ (r.toInt = stF wg k.toInt 8 x.toInt 0)) A) (cX dC dI ad cid a2 lx (fun _ _ => False) A) ([eV (ad 7) x, .int k] : List Value).toArray s 1 6 A) (F0 m 4 ls []) := by
    intro n
    induction n using Nat.strongRecOn with
    | ind n ih4 =>
      intro x3_4 x2_4 hn4 hx3_4 hx2_4 hsx0_4 hst H locs ls hP hD hS hl
      refine lv_iload_n hx hb dX2_stepsTo_4 rfl (lv_at hl 0 rfl) ?_
      refine lv_bipush (v := 8) hx hb dX2_stepsTo_5 (by decide) ?_
      refine lv_icmp_ge (tgt := 35) hx hb dX2_stepsTo_7 (by decide) (fun c_1 => ?_) (fun c_1 => ?_)
      · have h_2 : iv 8 8 x3_4 := iv_leR c_1 (iv_k (by decide) : iv 8 8 8) hx3_4 (by decide)
        exact hj35 x3_4 x2_4 (iv_w h_2 (by decide)) hx2_4 hsx0_4 (stF_e hst (by have := i32_0; have := i32_1; have := i32_2; have := i32_m1; have := (hsx0_4).1; have := (hsx0_4).2; have := (h_2).1; have := (h_2).2; have := (hx2_4).1; have := (hx2_4).2; omega)) _ _ _ hP hD hS (lv_sub hl [0, 1, 2, 3] rfl)
      · have h_3 : iv 0 7 x3_4 := iv_ltL (i32_lt c_1) hx3_4 (iv_k (by decide) : iv 8 8 8) (by decide)
        refine ec_aload_n hx hb dX2_stepsTo_10 rfl (lv_at hl 1 rfl) ?_
        refine ec_ifnull (tgt := 35) hx hb dX2_stepsTo_11 (by decide) (fun c_4 => ?_) (fun c_4 => ?_)
        · have h_5 : iv (-1) (-1) x2_4 := ⟨(hx2_4).1, by omega⟩
          exact hj35 x3_4 x2_4 (iv_w h_3 (by decide)) (iv_w h_5 (by decide)) hsx0_4 (stF_e hst (by have := i32_0; have := i32_1; have := i32_2; have := i32_m1; have := (hsx0_4).1; have := (hsx0_4).2; have := (h_3).1; have := (h_3).2; have := (h_5).1; have := (h_5).2; omega)) _ _ _ hP hD hS (lv_sub hl [0, 1, 2, 3] rfl)
        · have h_6 : iv 0 7 x2_4 := ⟨c_4, (hx2_4).2⟩
          refine ec_aload_n hx hb dX2_stepsTo_14 rfl (lv_at hl 1 rfl) ?_
          refine cr_get (t := 7) (j := 4) (C := RX2) (T := TX2) (N := 8) (v := .int (gm 2 x2_4.toNatClampNeg)) hx hb htb inX2 hown hK hP h_6 (by decide) (by decide) (by decide) rfl (by decide) (htb _ kw_214) rfl dX2_stepsTo_15 ?_
          obtain ⟨z_7, ez_7⟩ : ∃ z : Int32, z = (gm 2 x2_4.toNatClampNeg) := ⟨_, rfl⟩
          refine W.eq (g2 := F0 m 18 ls [.int z_7]) (by rw [ez_7]) ?_
          have hz_7 : iv 0 7 z_7 := iv_of ez_7 (CI_a hI 2 h_6 (by decide))
          refine lv_iload_n hx hb dX2_stepsTo_18 rfl (lv_at hl 3 rfl) ?_
          refine lv_icmp_ne (tgt := 24) hx hb dX2_stepsTo_19 (by decide) (fun c_8 => ?_) (fun c_8 => ?_)
          · refine ec_aload_n hx hb dX2_stepsTo_24 rfl (lv_at hl 1 rfl) ?_
            refine cr_get (t := 7) (j := 7) (C := RX2) (T := TX2) (N := 8) (v := eV (ad 7) (gm 4 x2_4.toNatClampNeg)) hx hb htb inX2 hown hK hP h_6 (by decide) (by decide) (by decide) rfl (by decide) (htb _ kw_217) rfl dX2_stepsTo_25 ?_
            obtain ⟨z_9, ez_9⟩ : ∃ z : Int32, z = (gm 4 x2_4.toNatClampNeg) := ⟨_, rfl⟩
            refine W.eq (g2 := F0 m 28 ls [eV (ad 7) z_9]) (by rw [ez_9]) ?_
            have hz_9 : iv (-1) 7 z_9 := iv_of ez_9 (CI_a hI 4 h_6 (by decide))
            refine ec_astore_n (i := 2) (lv' := [(2, eV (ad 7) z_9), (3, .int x3_4), (0, eV (ad 7) x), (1, .int k)]) hx hb dX2_stepsTo_28 rfl hl (by decide) rfl (fun ls hl => ?_)
            obtain ⟨z_10, ez_10⟩ : ∃ z : Int32, z = x3_4 + 1 := ⟨_, rfl⟩
            have hz_10 : iv 1 8 z_10 := iv_of ez_10 (iv_add h_3 (iv_k (by decide) : iv 1 1 1) (by decide))
            have tz_10 : z_10.toInt = x3_4.toInt + 1 := by rw [ez_10]; exact iv_addE h_3 (iv_k (by decide) : iv 1 1 1) (by decide)
            refine lv_iinc (v := z_10) (lv' := [(3, .int z_10), (2, eV (ad 7) z_9), (0, eV (ad 7) x), (1, .int k)]) hx hb dX2_stepsTo_29 hl (k := 1) rfl ez_10.symm (by decide) (by simp [List.filter, eV_cat, cat_i, cat_l]) (fun ls hl => ?_)
            refine lv_goto (tgt := 4) hx hb dX2_stepsTo_32 (by decide) ?_
            exact ih4 _ (by rw [← hn4]; exact (iv_meas tz_10 h_3 (by decide))) z_10 z_9 rfl (iv_w hz_10 (by decide)) hz_9 hsx0_4 (stF_st hst (show iv 0 7 x3_4 from h_3) (h_6).1 (by rw [(swt9 hSW ez_7 rfl)]; exact (fun q7 => c_8 (Int32.toInt_inj.mp q7))) (swt9 hSW ez_9 rfl).symm tz_10) _ _ _ hP hD hS (lv_sub hl [0, 1, 2, 3] rfl)
          · have d_11 : (z_7 : Int32).toInt = (k : Int32).toInt := congrArg Int32.toInt c_8
            have h_12 : iv 0 7 k := iv_eq (Eq.symm c_8) (iv_all k) hz_7 (by decide)
            refine lv_iload_n hx hb dX2_stepsTo_22 rfl (lv_at hl 0 rfl) ?_
            exact W.nb (fun hN => W.widen (k := 1) (n := 6) (by decide) (by decide) (vx_ret (W.iret (v := x3_4) hx hb hr (fun t ht hW => ⟨⟨some (.int x3_4), (sg, gm, lg), rfl, ⟨x3_4, rfl, rfl, (iv_w h_3 (by decide)), ((stF_h hst (show iv 0 7 x3_4 from h_3) (h_6).1 (by rw [(swt9 hSW ez_7 rfl)]; have := i32_0; have := i32_1; have := i32_2; have := i32_m1; have := (hsx0_4).1; have := (hsx0_4).2; have := (h_3).1; have := (h_3).2; have := (h_6).1; have := (h_6).2; have := (hz_7).1; have := (hz_7).2; have := (h_12).1; have := (h_12).2; omega)).symm)⟩, by rw [ht]; exact hP, va_K.moved hW.alike hK, hD⟩, hS.F ht, by rw [ht]; exact hN⟩) hS.2.2 dX2_stepsTo_23)))
  refine ec_aload_n hx hb dX2_stepsTo_0 rfl (lv_at hl 0 rfl) ?_
  refine ec_astore_n (i := 2) (lv' := [(2, eV (ad 7) x), (0, eV (ad 7) x), (1, .int k)]) hx hb dX2_stepsTo_1 rfl hl (by decide) rfl (fun ls hl => ?_)
  refine lv_iconst (v := 0) hx hb dX2_stepsTo_2 (by decide) ?_
  refine lv_istore_n (i := 3) (lv' := [(3, .int 0), (2, eV (ad 7) x), (0, eV (ad 7) x), (1, .int k)]) hx hb dX2_stepsTo_3 rfl hl (by decide) (by simp [List.filter, eV_cat, cat_i, cat_l]) (fun ls hl => ?_)
  exact hj4 _ 0 x rfl (iv_w (iv_k (by decide) : iv 0 0 0) (by decide)) (iv_w hvx (by decide)) hvx (rfl) _ _ _ hP hD hS (lv_sub hl [0, 1, 2, 3] rfl)

set_option maxHeartbeats 4000000 in
set_option maxRecDepth 100000 in
theorem d_setterType9 (l : Launch) (dC : Nat → ClassId) (dI : Nat → Nat → Nat) (ad : Nat → Nat → Nat) (cid : Nat → ClassId) (a2 : Nat → Nat) (lx : List Nat) (sg : Nat → Int32) (gm : Nat → Nat → Int32) (lg : Nat → Nat → Int64) (x : Int32) (nm : Int32) (wg : Nat → Nat → Int32) (hI : CI sg gm) (hvx : iv 0 7 x) (hvnm : iv 0 25 nm) (hSW : st9 gm = wg) : CMt dC dI ad cid a2 lx l yX2_setterType wm_X2_setterType ({ frames := 0, cells := 1, slots := 6, locals := 0 }) [eV (ad 7) x, .int nm] sg gm lg (fun v u => ∃ r : Int32, v = some (.int r) ∧ u = (sg, gm, lg) ∧ (iv (-1) 15 r) ∧ (r.toInt = sgF wg nm.toNatClampNeg 8 x.toInt)) (fun _ _ => False) := by
  intro sz
  refine vx_ofW (cc := cX2_setterType) (maxL := 4) (ret := (some .int)) (by decide) rfl ?_
  intro p e s m args below meth c s₁ B hml hxt hv
  obtain ⟨rfl, hsz, hP, hK, hD0, hG⟩ := hv
  have hx := B.exec
  have hb := B.bytes
  have hr := B.returns
  have hts := atoms_spec (ws := wm_X2_setterType) B.pre
  have htb := fun (w : Cond) (h : w ∈ tb) => hts w (List.mem_cons_of_mem _ h)
  have hown : s.vm.findClass RX2 = some m.cls := findClass_of_methodNamed B.named
  have hlocks := B.notSynchronized
  subst hsz
  have hD := hD0.self (sz := s.heap.size)
  generalize hAe : va_A (cW ad cid a2 lx sg gm lg) s.heap.size = A at hD hG ⊢
  have hA : ∀ q : Nat, s.heap.size ≤ q → A q := fun q h => by rw [← hAe]; exact Or.inr h
  have hS : va_S A s.heap s.heap [] := va_S.rf
  have hl := lv_entry ([eV (ad 7) x, .int nm]) (n := 4) (by rw [show (lg_sl ([eV (ad 7) x, .int nm])).length = 2 from by simp [lg_sl, eV_cat, cat_i, cat_l]]; exact Nat.le_of_ble_eq_true rfl)
  rw [lg_entry_eq]
  generalize (lg_sl ([eV (ad 7) x, .int nm]) ++ List.replicate (4 - (lg_sl ([eV (ad 7) x, .int nm])).length) Slot.unset).toArray = ls at hl ⊢
  have hl : lv_has ls 4 [(0, eV (ad 7) x), (1, .int nm)] := by simp [lv_args, eV_cat, cat_i, cat_l] at hl; exact hl
  have hj42 : ∀ (x3_42 : Int32) (x2_42 : Int32) (_ : iv 0 8 x3_42) (_ : iv (-1) 7 x2_42) (_ : iv 0 7 x) (_ : iv 0 25 nm) (_ : sgF wg nm.toNatClampNeg 8 x.toInt = -1) (H : Heap) (locs : List Loc) (ls : Array Slot), va_P (dC, dI) vwCl (cW ad cid a2 lx sg gm lg) H → va_D A (cW ad cid a2 lx sg gm lg) → va_S A s.heap H locs → lv_has ls 4 [(3, .int x3_42), (2, eV (ad 7) x2_42), (0, eV (ad 7) x), (1, .int nm)] → W p l e (headSpec wm_X2_setterType ({ frames := 0, cells := 1, slots := 6, locals := 0 })).room s m ([eV (ad 7) x, .int nm] : List Value).toArray below meth c H locs 0 0 (vx_MQ below (cQx dC dI ad cid a2 lx (fun v u => ∃ r : Int32, v = some (.int r) ∧ u = (sg, gm, lg) ∧ (iv (-1) 15 r) ∧ (r.toInt = sgF wg nm.toNatClampNeg 8 x.toInt)) A) (cX dC dI ad cid a2 lx (fun _ _ => False) A) ([eV (ad 7) x, .int nm] : List Value).toArray s 1 6 A) (F0 m 42 ls []) := by
    intro x3_42 x2_42 hx3_42 hx2_42 hsx0_42 hsx1_42 u42 H locs ls hP hD hS hl
    refine lv_iconst (v := (-1)) hx hb dX2_setterType_42 (by decide) ?_
    exact W.nb (fun hN => W.widen (k := 1) (n := 6) (by decide) (by decide) (vx_ret (W.iret (v := (-1)) hx hb hr (fun t ht hW => ⟨⟨some (.int (-1)), (sg, gm, lg), rfl, ⟨(-1), rfl, rfl, (iv_w (iv_k (by decide) : iv (-1) (-1) (-1)) (by decide)), ((by have q9 := u42; rw [q9]; rfl))⟩, by rw [ht]; exact hP, va_K.moved hW.alike hK, hD⟩, hS.F ht, by rw [ht]; exact hN⟩) hS.2.2 dX2_setterType_43)))
  have hj4 : ∀ (n : Nat) (x3_4 : Int32) (x2_4 : Int32) (_ : (8 - x3_4.toInt).toNat = n) (_ : iv 0 8 x3_4) (_ : iv (-1) 7 x2_4) (_ : iv 0 7 x) (_ : iv 0 25 nm) (_ : sgF wg nm.toNatClampNeg 8 x.toInt = sgF wg nm.toNatClampNeg (8 - x3_4.toNatClampNeg) x2_4.toInt) (H : Heap) (locs : List Loc) (ls : Array Slot), va_P (dC, dI) vwCl (cW ad cid a2 lx sg gm lg) H → va_D A (cW ad cid a2 lx sg gm lg) → va_S A s.heap H locs → lv_has ls 4 [(3, .int x3_4), (2, eV (ad 7) x2_4), (0, eV (ad 7) x), (1, .int nm)] → W p l e (headSpec wm_X2_setterType ({ frames := 0, cells := 1, slots := 6, locals := 0 })).room s m ([eV (ad 7) x, .int nm] : List Value).toArray below meth c H locs 0 0 (vx_MQ below (cQx dC dI ad cid a2 lx (fun v u => ∃ r : Int32, v = some (.int r) ∧ u = (sg, gm, lg) ∧ (iv (-1) 15 r) ∧ (r.toInt = sgF wg nm.toNatClampNeg 8 x.toInt)) A) (cX dC dI ad cid a2 lx (fun _ _ => False) A) ([eV (ad 7) x, .int nm] : List Value).toArray s 1 6 A) (F0 m 4 ls []) := by
    intro n
    induction n using Nat.strongRecOn with
    | ind n ih4 =>
      intro x3_4 x2_4 hn4 hx3_4 hx2_4 hsx0_4 hsx1_4 hst H locs ls hP hD hS hl
      refine lv_iload_n hx hb dX2_setterType_4 rfl (lv_at hl 0 rfl) ?_
      refine lv_bipush (v := 8) hx hb dX2_setterType_5 (by decide) ?_
      refine lv_icmp_ge (tgt := 42) hx hb dX2_setterType_7 (by decide) (fun c_1 => ?_) (fun c_1 => ?_)
      · have h_2 : iv 8 8 x3_4 := iv_leR c_1 (iv_k (by decide) : iv 8 8 8) hx3_4 (by decide)
        exact hj42 x3_4 x2_4 (iv_w h_2 (by decide)) hx2_4 hsx0_4 hsx1_4 (sgF_e hst (by have := i32_0; have := i32_1; have := i32_2; have := i32_m1; have := (hsx0_4).1; have := (hsx0_4).2; have := (hsx1_4).1; have := (hsx1_4).2; have := (h_2).1; have := (h_2).2; have := (hx2_4).1; have := (hx2_4).2; omega)) _ _ _ hP hD hS (lv_sub hl [0, 1, 2, 3] rfl)
      · have h_3 : iv 0 7 x3_4 := iv_ltL (i32_lt c_1) hx3_4 (iv_k (by decide) : iv 8 8 8) (by decide)
        refine ec_aload_n hx hb dX2_setterType_10 rfl (lv_at hl 1 rfl) ?_
        refine ec_ifnull (tgt := 42) hx hb dX2_setterType_11 (by decide) (fun c_4 => ?_) (fun c_4 => ?_)
        · have h_5 : iv (-1) (-1) x2_4 := ⟨(hx2_4).1, by omega⟩
          exact hj42 x3_4 x2_4 (iv_w h_3 (by decide)) (iv_w h_5 (by decide)) hsx0_4 hsx1_4 (sgF_e hst (by have := i32_0; have := i32_1; have := i32_2; have := i32_m1; have := (hsx0_4).1; have := (hsx0_4).2; have := (hsx1_4).1; have := (hsx1_4).2; have := (h_3).1; have := (h_3).2; have := (h_5).1; have := (h_5).2; omega)) _ _ _ hP hD hS (lv_sub hl [0, 1, 2, 3] rfl)
        · have h_6 : iv 0 7 x2_4 := ⟨c_4, (hx2_4).2⟩
          refine ec_aload_n hx hb dX2_setterType_14 rfl (lv_at hl 1 rfl) ?_
          refine cr_get (t := 7) (j := 5) (C := RX2) (T := TX2) (N := 8) (v := eV (ad 30) x2_4) hx hb htb inX2 hown hK hP h_6 (by decide) (by decide) (by decide) rfl (by decide) (htb _ kw_215) (cV_c rfl (h_6).1 (by rw [show cMu 7 5 = 1 from rfl, Nat.one_mul]; rfl)) dX2_setterType_15 ?_
          refine lv_iload_n hx hb dX2_setterType_18 rfl (lv_at hl 3 rfl) ?_
          refine cr_iald (t := 30) (z := (gm 55 (26 * x2_4.toNatClampNeg + (nm : Int32).toNatClampNeg))) hx hb hK hP h_6 (by decide) (by decide) (by decide) rfl rfl (show vp_in nm (cLen 30) from (show vp_in nm 26 from (iv_in hsx1_4 (by decide)))) (cAi_w rfl (by decide) rfl (vin_lt (show vp_in nm (cLen 30) from (show vp_in nm 26 from (iv_in hsx1_4 (by decide)))))) dX2_setterType_19 ?_
          obtain ⟨z_7, ez_7⟩ : ∃ z : Int32, z = (gm 55 (26 * x2_4.toNatClampNeg + (nm : Int32).toNatClampNeg)) := ⟨_, rfl⟩
          refine W.eq (g2 := F0 m 20 ls [.int z_7]) (by rw [ez_7]) ?_
          have hz_7 : iv (-1) 15 z_7 := iv_of ez_7 (CI_n hI 55 (show _ < crLen 55 from vin_w (show vp_in nm (cLen 30) from (show vp_in nm 26 from (iv_in hsx1_4 (by decide)))) (h_6) (by decide)))
          refine lv_iconst (v := (-1)) hx hb dX2_setterType_20 (by decide) ?_
          refine lv_icmp_eq (tgt := 31) hx hb dX2_setterType_21 (by decide) (fun c_8 => ?_) (fun c_8 => ?_)
          · have h_9 : iv (-1) (-1) z_7 := iv_eq c_8 hz_7 (iv_k (by decide) : iv (-1) (-1) (-1)) (by decide)
            refine ec_aload_n hx hb dX2_setterType_31 rfl (lv_at hl 1 rfl) ?_
            refine cr_get (t := 7) (j := 7) (C := RX2) (T := TX2) (N := 8) (v := eV (ad 7) (gm 4 x2_4.toNatClampNeg)) hx hb htb inX2 hown hK hP h_6 (by decide) (by decide) (by decide) rfl (by decide) (htb _ kw_217) rfl dX2_setterType_32 ?_
            obtain ⟨z_10, ez_10⟩ : ∃ z : Int32, z = (gm 4 x2_4.toNatClampNeg) := ⟨_, rfl⟩
            refine W.eq (g2 := F0 m 35 ls [eV (ad 7) z_10]) (by rw [ez_10]) ?_
            have hz_10 : iv (-1) 7 z_10 := iv_of ez_10 (CI_a hI 4 h_6 (by decide))
            refine ec_astore_n (i := 2) (lv' := [(2, eV (ad 7) z_10), (3, .int x3_4), (0, eV (ad 7) x), (1, .int nm)]) hx hb dX2_setterType_35 rfl hl (by decide) rfl (fun ls hl => ?_)
            obtain ⟨z_11, ez_11⟩ : ∃ z : Int32, z = x3_4 + 1 := ⟨_, rfl⟩
            have hz_11 : iv 1 8 z_11 := iv_of ez_11 (iv_add h_3 (iv_k (by decide) : iv 1 1 1) (by decide))
            have tz_11 : z_11.toInt = x3_4.toInt + 1 := by rw [ez_11]; exact iv_addE h_3 (iv_k (by decide) : iv 1 1 1) (by decide)
            refine lv_iinc (v := z_11) (lv' := [(3, .int z_11), (2, eV (ad 7) z_10), (0, eV (ad 7) x), (1, .int nm)]) hx hb dX2_setterType_36 hl (k := 1) rfl ez_11.symm (by decide) (by simp [List.filter, eV_cat, cat_i, cat_l]) (fun ls hl => ?_)
            refine lv_goto (tgt := 4) hx hb dX2_setterType_39 (by decide) ?_
            exact ih4 _ (by rw [← hn4]; exact (iv_meas tz_11 h_3 (by decide))) z_11 z_10 rfl (iv_w hz_11 (by decide)) hz_10 hsx0_4 hsx1_4 (sgF_st hst (show iv 0 7 x3_4 from h_3) (h_6).1 (by rw [(swt9 hSW ez_7 rfl)]; have := i32_0; have := i32_1; have := i32_2; have := i32_m1; have := (hsx0_4).1; have := (hsx0_4).2; have := (hsx1_4).1; have := (hsx1_4).2; have := (h_3).1; have := (h_3).2; have := (h_6).1; have := (h_6).2; have := (h_9).1; have := (h_9).2; have := (hz_10).1; have := (hz_10).2; have := (hz_11).1; have := (hz_11).2; omega) (swt9 hSW ez_10 rfl).symm tz_11) _ _ _ hP hD hS (lv_sub hl [0, 1, 2, 3] rfl)
          · have h_12 : iv 0 15 z_7 := iv_neL c_8 hz_7 (by decide)
            refine ec_aload_n hx hb dX2_setterType_24 rfl (lv_at hl 1 rfl) ?_
            refine cr_get (t := 7) (j := 5) (C := RX2) (T := TX2) (N := 8) (v := eV (ad 30) x2_4) hx hb htb inX2 hown hK hP h_6 (by decide) (by decide) (by decide) rfl (by decide) (htb _ kw_215) (cV_c rfl (h_6).1 (by rw [show cMu 7 5 = 1 from rfl, Nat.one_mul]; rfl)) dX2_setterType_25 ?_
            refine lv_iload_n hx hb dX2_setterType_28 rfl (lv_at hl 3 rfl) ?_
            refine cr_iald (t := 30) (z := (gm 55 (26 * x2_4.toNatClampNeg + (nm : Int32).toNatClampNeg))) hx hb hK hP h_6 (by decide) (by decide) (by decide) rfl rfl (show vp_in nm (cLen 30) from (show vp_in nm 26 from (iv_in hsx1_4 (by decide)))) (cAi_w rfl (by decide) rfl (vin_lt (show vp_in nm (cLen 30) from (show vp_in nm 26 from (iv_in hsx1_4 (by decide)))))) dX2_setterType_29 ?_
            refine W.eq (g2 := F0 m 30 ls [.int z_7]) (by rw [show (gm 55 (26 * x2_4.toNatClampNeg + (nm : Int32).toNatClampNeg)) = z_7 from ez_7.symm]) ?_
            exact W.nb (fun hN => W.widen (k := 1) (n := 6) (by decide) (by decide) (vx_ret (W.iret (v := z_7) hx hb hr (fun t ht hW => ⟨⟨some (.int z_7), (sg, gm, lg), rfl, ⟨z_7, rfl, rfl, (iv_w h_12 (by decide)), ((by have q9 := sgF_h hst (show iv 0 7 x3_4 from h_3) (h_6).1 (by rw [(swt9 hSW ez_7 rfl)]; have := i32_0; have := i32_1; have := i32_2; have := i32_m1; have := (hsx0_4).1; have := (hsx0_4).2; have := (hsx1_4).1; have := (hsx1_4).2; have := (h_3).1; have := (h_3).2; have := (h_6).1; have := (h_6).2; have := (h_12).1; have := (h_12).2; omega); rw [q9, (swt9 hSW ez_7 rfl)]))⟩, by rw [ht]; exact hP, va_K.moved hW.alike hK, hD⟩, hS.F ht, by rw [ht]; exact hN⟩) hS.2.2 dX2_setterType_30)))
  refine ec_aload_n hx hb dX2_setterType_0 rfl (lv_at hl 0 rfl) ?_
  refine ec_astore_n (i := 2) (lv' := [(2, eV (ad 7) x), (0, eV (ad 7) x), (1, .int nm)]) hx hb dX2_setterType_1 rfl hl (by decide) rfl (fun ls hl => ?_)
  refine lv_iconst (v := 0) hx hb dX2_setterType_2 (by decide) ?_
  refine lv_istore_n (i := 3) (lv' := [(3, .int 0), (2, eV (ad 7) x), (0, eV (ad 7) x), (1, .int nm)]) hx hb dX2_setterType_3 rfl hl (by decide) (by simp [List.filter, eV_cat, cat_i, cat_l]) (fun ls hl => ?_)
  exact hj4 _ 0 x rfl (iv_w (iv_k (by decide) : iv 0 0 0) (by decide)) (iv_w hvx (by decide)) hvx hvnm (rfl) _ _ _ hP hD hS (lv_sub hl [0, 1, 2, 3] rfl)

set_option maxHeartbeats 4000000 in
set_option maxRecDepth 100000 in
theorem d_isCalled9 (l : Launch) (dC : Nat → ClassId) (dI : Nat → Nat → Nat) (ad : Nat → Nat → Nat) (cid : Nat → ClassId) (a2 : Nat → Nat) (lx : List Nat) (sg : Nat → Int32) (gm : Nat → Nat → Int32) (lg : Nat → Nat → Int64) (x : Int32) (a : Int32) (b : Int32) (wg : Nat → Nat → Int32) (hI : CI sg gm) (hvx : iv 0 63 x) (hvb : iv 0 1 b) (hSW : st9 gm = wg) : CMt dC dI ad cid a2 lx l yX8_isCalled wm_X8_isCalled ({ frames := 0, cells := 1, slots := 6, locals := 0 }) [eV (ad 8) x, .int a, .int b] sg gm lg (fun v u => ∃ r : Int32, v = some (.int r) ∧ u = (sg, gm, lg) ∧ (iv 0 1 r) ∧ ((r.toInt = 1 ∧ cdS wg a.toInt b.toInt x.toNatClampNeg) ∨ (r.toInt = 0 ∧ ¬ (cdS wg a.toInt b.toInt x.toNatClampNeg)))) (fun _ _ => False) := by
  intro sz
  refine vx_ofW (cc := cX8_isCalled) (maxL := 3) (ret := (some .boolean)) (by decide) rfl ?_
  intro p e s m args below meth c s₁ B hml hxt hv
  obtain ⟨rfl, hsz, hP, hK, hD0, hG⟩ := hv
  have hx := B.exec
  have hb := B.bytes
  have hr := B.returns
  have hts := atoms_spec (ws := wm_X8_isCalled) B.pre
  have htb := fun (w : Cond) (h : w ∈ tb) => hts w (List.mem_cons_of_mem _ h)
  have hown : s.vm.findClass RX8 = some m.cls := findClass_of_methodNamed B.named
  have hlocks := B.notSynchronized
  subst hsz
  have hD := hD0.self (sz := s.heap.size)
  generalize hAe : va_A (cW ad cid a2 lx sg gm lg) s.heap.size = A at hD hG ⊢
  have hA : ∀ q : Nat, s.heap.size ≤ q → A q := fun q h => by rw [← hAe]; exact Or.inr h
  have hS : va_S A s.heap s.heap [] := va_S.rf
  have hl := lv_entry ([eV (ad 8) x, .int a, .int b]) (n := 3) (by rw [show (lg_sl ([eV (ad 8) x, .int a, .int b])).length = 3 from by simp [lg_sl, eV_cat, cat_i, cat_l]]; exact Nat.le_of_ble_eq_true rfl)
  rw [lg_entry_eq]
  generalize (lg_sl ([eV (ad 8) x, .int a, .int b]) ++ List.replicate (3 - (lg_sl ([eV (ad 8) x, .int a, .int b])).length) Slot.unset).toArray = ls at hl ⊢
  have hl : lv_has ls 3 [(0, eV (ad 8) x), (1, .int a), (2, .int b)] := by simp [lv_args, eV_cat, cat_i, cat_l] at hl; exact hl
  have hj21 : ∀ (y0_21 : Int32) (_ : iv 0 63 x) (_ : iv 0 1 b) (_ : iv 0 1 y0_21) (_ : (y0_21.toInt = 1 ∧ cdS wg a.toInt b.toInt x.toNatClampNeg) ∨ (y0_21.toInt = 0 ∧ ¬ (cdS wg a.toInt b.toInt x.toNatClampNeg))) (H : Heap) (locs : List Loc) (ls : Array Slot), va_P (dC, dI) vwCl (cW ad cid a2 lx sg gm lg) H → va_D A (cW ad cid a2 lx sg gm lg) → va_S A s.heap H locs → lv_has ls 3 [(0, eV (ad 8) x), (1, .int a), (2, .int b)] → W p l e (headSpec wm_X8_isCalled ({ frames := 0, cells := 1, slots := 6, locals := 0 })).room s m ([eV (ad 8) x, .int a, .int b] : List Value).toArray below meth c H locs 0 0 (vx_MQ below (cQx dC dI ad cid a2 lx (fun v u => ∃ r : Int32, v = some (.int r) ∧ u = (sg, gm, lg) ∧ (iv 0 1 r) ∧ ((r.toInt = 1 ∧ cdS wg a.toInt b.toInt x.toNatClampNeg) ∨ (r.toInt = 0 ∧ ¬ (cdS wg a.toInt b.toInt x.toNatClampNeg)))) A) (cX dC dI ad cid a2 lx (fun _ _ => False) A) ([eV (ad 8) x, .int a, .int b] : List Value).toArray s 1 6 A) (F0 m 21 ls [.int y0_21]) := by
    intro y0_21 hsx0_21 hsx2_21 hy0_21 u21 H locs ls hP hD hS hl
    exact W.nb (fun hN => W.widen (k := 1) (n := 6) (by decide) (by decide) (vx_ret (W.zret (v := y0_21) hx hb hr (iv_nb hy0_21) (fun t ht hW => ⟨⟨some (.int y0_21), (sg, gm, lg), rfl, ⟨y0_21, rfl, rfl, hy0_21, (u21)⟩, by rw [ht]; exact hP, va_K.moved hW.alike hK, hD⟩, hS.F ht, by rw [ht]; exact hN⟩) hS.2.2 dX8_isCalled_21)))
  have hj20 : ∀ (_ : iv 0 63 x) (_ : iv 0 1 b) (_ : ¬ (cdS wg a.toInt b.toInt x.toNatClampNeg)) (H : Heap) (locs : List Loc) (ls : Array Slot), va_P (dC, dI) vwCl (cW ad cid a2 lx sg gm lg) H → va_D A (cW ad cid a2 lx sg gm lg) → va_S A s.heap H locs → lv_has ls 3 [(0, eV (ad 8) x), (1, .int a), (2, .int b)] → W p l e (headSpec wm_X8_isCalled ({ frames := 0, cells := 1, slots := 6, locals := 0 })).room s m ([eV (ad 8) x, .int a, .int b] : List Value).toArray below meth c H locs 0 0 (vx_MQ below (cQx dC dI ad cid a2 lx (fun v u => ∃ r : Int32, v = some (.int r) ∧ u = (sg, gm, lg) ∧ (iv 0 1 r) ∧ ((r.toInt = 1 ∧ cdS wg a.toInt b.toInt x.toNatClampNeg) ∨ (r.toInt = 0 ∧ ¬ (cdS wg a.toInt b.toInt x.toNatClampNeg)))) A) (cX dC dI ad cid a2 lx (fun _ _ => False) A) ([eV (ad 8) x, .int a, .int b] : List Value).toArray s 1 6 A) (F0 m 20 ls []) := by
    intro  hsx0_20 hsx2_20 u20 H locs ls hP hD hS hl
    refine lv_iconst (v := 0) hx hb dX8_isCalled_20 (by decide) ?_
    exact hj21 0 hsx0_20 hsx2_20 (iv_w (iv_k (by decide) : iv 0 0 0) (by decide)) (Or.inr ⟨rfl, u20⟩) _ _ _ hP hD hS (lv_sub hl [0, 1, 2] rfl)
  refine ec_aload_n hx hb dX8_isCalled_0 rfl (lv_at hl 0 rfl) ?_
  refine cr_get (t := 8) (j := 4) (C := RX8) (T := TX8) (N := 7) (v := .int (gm 8 x.toNatClampNeg)) hx hb htb inX8 hown hK hP hvx (by decide) (by decide) (by decide) rfl (by decide) (htb _ kw_200) rfl dX8_isCalled_1 ?_
  obtain ⟨z_1, ez_1⟩ : ∃ z : Int32, z = (gm 8 x.toNatClampNeg) := ⟨_, rfl⟩
  refine W.eq (g2 := F0 m 4 ls [.int z_1]) (by rw [ez_1]) ?_
  have hz_1 : iv (-1) 25 z_1 := iv_of ez_1 (CI_a hI 8 hvx (by decide))
  refine lv_iload_n hx hb dX8_isCalled_4 rfl (lv_at hl 1 rfl) ?_
  refine lv_icmp_ne (tgt := 20) hx hb dX8_isCalled_5 (by decide) (fun c_2 => ?_) (fun c_2 => ?_)
  · exact hj20 hvx hvb ((fun h => absurd h.1 (by rw [(swt9 hSW ez_1 rfl)]; exact (fun q7 => c_2 (Int32.toInt_inj.mp q7))))) _ _ _ hP hD hS (lv_sub hl [0, 1, 2] rfl)
  · have d_3 : (z_1 : Int32).toInt = (a : Int32).toInt := congrArg Int32.toInt c_2
    have h_4 : iv (-1) 25 a := iv_eq (Eq.symm c_2) (iv_all a) hz_1 (by decide)
    refine ec_aload_n hx hb dX8_isCalled_8 rfl (lv_at hl 0 rfl) ?_
    refine cr_get (t := 8) (j := 5) (C := RX8) (T := TX8) (N := 7) (v := .int (gm 9 x.toNatClampNeg)) hx hb htb inX8 hown hK hP hvx (by decide) (by decide) (by decide) rfl (by decide) (htb _ kw_202) rfl dX8_isCalled_9 ?_
    obtain ⟨z_5, ez_5⟩ : ∃ z : Int32, z = (gm 9 x.toNatClampNeg) := ⟨_, rfl⟩
    refine W.eq (g2 := F0 m 12 ls [.int z_5]) (by rw [ez_5]) ?_
    have hz_5 : iv 0 1 z_5 := iv_of ez_5 (CI_a hI 9 hvx (by decide))
    refine lv_iload_n hx hb dX8_isCalled_12 rfl (lv_at hl 2 rfl) ?_
    refine lv_icmp_ne (tgt := 20) hx hb dX8_isCalled_13 (by decide) (fun c_6 => ?_) (fun c_6 => ?_)
    · exact hj20 hvx hvb ((fun h => absurd h.2 (by rw [(swt9 hSW ez_5 rfl)]; exact (fun q7 => c_6 (Int32.toInt_inj.mp q7))))) _ _ _ hP hD hS (lv_sub hl [0, 1, 2] rfl)
    · have d_7 : (z_5 : Int32).toInt = (b : Int32).toInt := congrArg Int32.toInt c_6
      refine lv_iconst (v := 1) hx hb dX8_isCalled_16 (by decide) ?_
      refine lv_goto (tgt := 21) hx hb dX8_isCalled_17 (by decide) ?_
      exact hj21 1 hvx hvb (iv_w (iv_k (by decide) : iv 1 1 1) (by decide)) (Or.inl ⟨rfl, (by have q8 := congrArg Int32.toInt (swt9 hSW ez_1 rfl); have q9 := congrArg Int32.toInt (swt9 hSW ez_5 rfl); exact ⟨by have := i32_0; have := i32_1; have := i32_2; have := i32_m1; have := (hvx).1; have := (hvx).2; have := (hvb).1; have := (hvb).2; have := (hz_1).1; have := (hz_1).2; have := (h_4).1; have := (h_4).2; have := (hz_5).1; have := (hz_5).2; omega, by have := i32_0; have := i32_1; have := i32_2; have := i32_m1; have := (hvx).1; have := (hvx).2; have := (hvb).1; have := (hvb).2; have := (hz_1).1; have := (hz_1).2; have := (h_4).1; have := (h_4).2; have := (hz_5).1; have := (hz_5).2; omega⟩)⟩) _ _ _ hP hD hS (lv_sub hl [0, 1, 2] rfl)

set_option maxHeartbeats 4000000 in
set_option maxRecDepth 100000 in
theorem d_ownsFactory9 (l : Launch) (dC : Nat → ClassId) (dI : Nat → Nat → Nat) (ad : Nat → Nat → Nat) (cid : Nat → ClassId) (a2 : Nat → Nat) (lx : List Nat) (sg : Nat → Int32) (gm : Nat → Nat → Int32) (lg : Nat → Nat → Int64) (x : Int32) (nm : Int32) (z : Int32) (wg : Nat → Nat → Int32) (hI : CI sg gm) (hvx : iv 0 7 x) (hvz : iv 0 1 z) (hSW : st9 gm = wg) : CMt dC dI ad cid a2 lx l yX2_ownsFactory wm_X2_ownsFactory ({ frames := 1, cells := 1, slots := 6, locals := 22 }) [eV (ad 7) x, .int nm, .int z] sg gm lg (fun v u => ∃ r : Int32, v = some (.int r) ∧ u = (sg, gm, lg) ∧ (iv 0 1 r) ∧ ((r.toInt = 1 ∧ owB wg nm.toInt z.toInt x.toNatClampNeg = true) ∨ (r.toInt = 0 ∧ owB wg nm.toInt z.toInt x.toNatClampNeg = false))) (fun _ _ => False) := by
  intro sz
  refine vx_ofW (cc := cX2_ownsFactory) (maxL := 4) (ret := (some .boolean)) (by decide) rfl ?_
  intro p e s m args below meth c s₁ B hml hxt hv
  obtain ⟨rfl, hsz, hP, hK, hD0, hG⟩ := hv
  have hx := B.exec
  have hb := B.bytes
  have hr := B.returns
  have hts := atoms_spec (ws := wm_X2_ownsFactory) B.pre
  have htb := fun (w : Cond) (h : w ∈ tb) => hts w (List.mem_cons_of_mem _ h)
  have hown : s.vm.findClass RX2 = some m.cls := findClass_of_methodNamed B.named
  have hlocks := B.notSynchronized
  subst hsz
  have hD := hD0.self (sz := s.heap.size)
  generalize hAe : va_A (cW ad cid a2 lx sg gm lg) s.heap.size = A at hD hG ⊢
  have hA : ∀ q : Nat, s.heap.size ≤ q → A q := fun q h => by rw [← hAe]; exact Or.inr h
  have hS : va_S A s.heap s.heap [] := va_S.rf
  have hl := lv_entry ([eV (ad 7) x, .int nm, .int z]) (n := 4) (by rw [show (lg_sl ([eV (ad 7) x, .int nm, .int z])).length = 3 from by simp [lg_sl, eV_cat, cat_i, cat_l]]; exact Nat.le_of_ble_eq_true rfl)
  rw [lg_entry_eq]
  generalize (lg_sl ([eV (ad 7) x, .int nm, .int z]) ++ List.replicate (4 - (lg_sl ([eV (ad 7) x, .int nm, .int z])).length) Slot.unset).toArray = ls at hl ⊢
  have hl : lv_has ls 4 [(0, eV (ad 7) x), (1, .int nm), (2, .int z)] := by simp [lv_args, eV_cat, cat_i, cat_l] at hl; exact hl
  have hj2 : ∀ (n : Nat) (x3_2 : Int32) (_ : (4 - x3_2.toInt).toNat = n) (_ : iv 0 4 x3_2) (_ : iv 0 7 x) (_ : iv 0 1 z) (_ : ∀ i, i < x3_2.toNatClampNeg → ¬ cdS wg nm.toInt z.toInt (8 * x.toNatClampNeg + 4 + i)) (H : Heap) (locs : List Loc) (ls : Array Slot), va_P (dC, dI) vwCl (cW ad cid a2 lx sg gm lg) H → va_D A (cW ad cid a2 lx sg gm lg) → va_S A s.heap H locs → lv_has ls 4 [(3, .int x3_2), (0, eV (ad 7) x), (1, .int nm), (2, .int z)] → W p l e (headSpec wm_X2_ownsFactory ({ frames := 1, cells := 1, slots := 6, locals := 22 })).room s m ([eV (ad 7) x, .int nm, .int z] : List Value).toArray below meth c H locs 0 0 (vx_MQ below (cQx dC dI ad cid a2 lx (fun v u => ∃ r : Int32, v = some (.int r) ∧ u = (sg, gm, lg) ∧ (iv 0 1 r) ∧ ((r.toInt = 1 ∧ owB wg nm.toInt z.toInt x.toNatClampNeg = true) ∨ (r.toInt = 0 ∧ owB wg nm.toInt z.toInt x.toNatClampNeg = false))) A) (cX dC dI ad cid a2 lx (fun _ _ => False) A) ([eV (ad 7) x, .int nm, .int z] : List Value).toArray s 1 6 A) (F0 m 2 ls []) := by
    intro n
    induction n using Nat.strongRecOn with
    | ind n ih2 =>
      intro x3_2 hn2 hx3_2 hsx0_2 hsx2_2 hnf H locs ls hP hD hS hl
      refine lv_iload_n hx hb dX2_ownsFactory_2 rfl (lv_at hl 0 rfl) ?_
      refine ec_aload_n hx hb dX2_ownsFactory_3 rfl (lv_at hl 1 rfl) ?_
      refine cr_get (t := 7) (j := 3) (C := RX2) (T := TX2) (N := 8) (v := .int (gm 1 x.toNatClampNeg)) hx hb htb inX2 hown hK hP hsx0_2 (by decide) (by decide) (by decide) rfl (by decide) (htb _ kw_212) rfl dX2_ownsFactory_4 ?_
      obtain ⟨z_1, ez_1⟩ : ∃ z : Int32, z = (gm 1 x.toNatClampNeg) := ⟨_, rfl⟩
      refine W.eq (g2 := F0 m 7 ls [.int z_1, .int x3_2]) (by rw [ez_1]) ?_
      have hz_1 : iv 0 4 z_1 := iv_of ez_1 (CI_a hI 1 hsx0_2 (by decide))
      refine lv_icmp_ge (tgt := 32) hx hb dX2_ownsFactory_7 (by decide) (fun c_2 => ?_) (fun c_2 => ?_)
      · have d_3 : (z_1 : Int32).toInt ≤ (x3_2 : Int32).toInt := Int32.le_iff_toInt_le.mp c_2
        refine lv_iconst (v := 0) hx hb dX2_ownsFactory_32 (by decide) ?_
        exact W.nb (fun hN => W.widen (k := 1) (n := 6) (by decide) (by decide) (vx_ret (W.zret (v := 0) hx hb hr (iv_nb (iv_w (iv_k (by decide) : iv 0 0 0) (by decide))) (fun t ht hW => ⟨⟨some (.int 0), (sg, gm, lg), rfl, ⟨0, rfl, rfl, (iv_w (iv_k (by decide) : iv 0 0 0) (by decide)), (Or.inr ⟨rfl, owB_f (fun i hi => hnf i (by have q1 := (swt9 hSW ez_1 rfl); rw [q1] at hi; have : (z_1).toNatClampNeg = (z_1).toInt.toNat := rfl; have : x3_2.toNatClampNeg = x3_2.toInt.toNat := rfl; have := i32_0; have := i32_1; have := i32_2; have := i32_m1; have := (hsx0_2).1; have := (hsx0_2).2; have := (hsx2_2).1; have := (hsx2_2).2; have := (hx3_2).1; have := (hx3_2).2; have := (hz_1).1; have := (hz_1).2; omega))⟩)⟩, by rw [ht]; exact hP, va_K.moved hW.alike hK, hD⟩, hS.F ht, by rw [ht]; exact hN⟩) hS.2.2 dX2_ownsFactory_33)))
      · have d_4 : (x3_2 : Int32).toInt < (z_1 : Int32).toInt := Int32.lt_iff_toInt_lt.mp (i32_lt c_2)
        have h_5 : iv 0 3 x3_2 := iv_ltL (i32_lt c_2) hx3_2 hz_1 (by decide)
        have h_6 : iv 1 4 z_1 := iv_ltR (i32_lt c_2) hx3_2 hz_1 (by decide)
        refine ec_aload_n hx hb dX2_ownsFactory_10 rfl (lv_at hl 1 rfl) ?_
        refine cr_get (t := 7) (j := 1) (C := RX2) (T := TX2) (N := 8) (v := eV (ad 29) x) hx hb htb inX2 hown hK hP hsx0_2 (by decide) (by decide) (by decide) rfl (by decide) (htb _ kw_208) (cV_c rfl (hsx0_2).1 (by rw [show cMu 7 1 = 1 from rfl, Nat.one_mul]; rfl)) dX2_ownsFactory_11 ?_
        refine lv_iload_n hx hb dX2_ownsFactory_14 rfl (lv_at hl 0 rfl) ?_
        obtain ⟨q_7, hq_7, nq_7, tq_7⟩ := ix_mk (8 * x.toNatClampNeg + 4 + (x3_2 : Int32).toNatClampNeg) 63 (by have q1 := iv_cl hsx0_2 (by decide); have q2 := (hsx0_2).2; have q3 := iv_cl h_5 (by decide); have q4 := (h_5).2; omega) (by decide)
        refine cr_aald (t := 29) (C := RX8) (v := eV (ad 8) q_7) hx hb hK hP hsx0_2 (by decide) (by decide) (by decide) (by decide) (by decide) rfl (show vp_in x3_2 (cLen 29) from (show vp_in x3_2 4 from (iv_in h_5 (by decide)))) (cAr_c (by decide) hq_7.1 nq_7) dX2_ownsFactory_15 ?_
        refine lv_iload_n hx hb dX2_ownsFactory_16 rfl (lv_at hl 2 rfl) ?_
        refine lv_iload_n hx hb dX2_ownsFactory_17 rfl (lv_at hl 3 rfl) ?_
        refine cm_callV (t := 8) (C := RX8) (T := TX8) (N := 7) (rest := []) (as := [.int nm, .int z]) ⟨hx, hb, hml, hown, htb⟩ (d_isCalled9 l dC dI ad cid a2 lx sg gm lg q_7 nm z wg hI hq_7 hsx2_2 hSW) (cwV 2 htb (gd_V kw_928 kw_929 kw_930 kw_148 kw_1540) rfl rfl rfl (by decide +kernel) ⟨Nat.le_of_ble_eq_true rfl, Nat.le_of_ble_eq_true rfl⟩) hq_7 (by decide) (by decide) rfl rfl hl.1 rfl (Nat.le_trans cs_n (by decide)) dX2_ownsFactory_18 ⟨Nat.le_of_ble_eq_true rfl, Nat.le_of_ble_eq_true rfl⟩ hK hP hD hS hA hG (fun E ce q9 u_9 H locs hw hP hD hS hce hcv hcl => ?_) (fun v9 u_9 H locs hw hP hD hS => ?_)
        · exact hw.elim
        obtain ⟨r_8, rfl, rfl, hr_8, fC_r_8⟩ := hw
        have hP : va_P (dC, dI) vwCl (cW ad cid a2 lx sg gm lg) H := hP
        have hD : va_D A (cW ad cid a2 lx sg gm lg) := hD
        refine W.eq (g2 := F0 m 21 ls [.int r_8]) rfl ?_
        refine lv_if_eq (tgt := 26) hx hb dX2_ownsFactory_21 (by decide) (fun c_11 => ?_) (fun c_11 => ?_)
        · have h_12 : iv 0 0 r_8 := iv_eq c_11 hr_8 (iv_k (by decide) : iv 0 0 0) (by decide)
          obtain ⟨z_13, ez_13⟩ : ∃ z : Int32, z = x3_2 + 1 := ⟨_, rfl⟩
          have hz_13 : iv 1 4 z_13 := iv_of ez_13 (iv_add h_5 (iv_k (by decide) : iv 1 1 1) (by decide))
          have tz_13 : z_13.toInt = x3_2.toInt + 1 := by rw [ez_13]; exact iv_addE h_5 (iv_k (by decide) : iv 1 1 1) (by decide)
          refine lv_iinc (v := z_13) (lv' := [(3, .int z_13), (0, eV (ad 7) x), (1, .int nm), (2, .int z)]) hx hb dX2_ownsFactory_26 hl (k := 0) rfl ez_13.symm (by decide) rfl (fun ls hl => ?_)
          refine lv_goto (tgt := 2) hx hb dX2_ownsFactory_29 (by decide) ?_
          exact ih2 _ (by rw [← hn2]; exact (iv_meas tz_13 h_5 (by decide))) z_13 rfl (iv_w hz_13 (by decide)) hsx0_2 hsx2_2 (fun i hi hc => by { have c1 := cln9 (u := x3_2) (h_5).1; have c2 := cln9 (u := z_13) (by have := (hz_13).1; omega); by_cases hq : i = x3_2.toNatClampNeg; (subst hq; exact absurd hc ((by have f9 := fC_r_8; rw [nq_7] at f9; exact (f9.resolve_left (fun q8 => absurd q8.1 (by have := i32_0; have := i32_1; have := i32_2; have := i32_m1; have := (hsx0_2).1; have := (hsx0_2).2; have := (hsx2_2).1; have := (hsx2_2).2; have := (h_5).1; have := (h_5).2; have := (h_6).1; have := (h_6).2; have := (hq_7).1; have := (hq_7).2; have := (h_12).1; have := (h_12).2; have := (hz_13).1; have := (hz_13).2; omega))).2))); exact hnf i (by omega) hc }) _ _ _ hP hD hS (lv_sub hl [0, 1, 2, 3] rfl)
        · have h_14 : iv 1 1 r_8 := iv_neL c_11 hr_8 (by decide)
          refine lv_iconst (v := 1) hx hb dX2_ownsFactory_24 (by decide) ?_
          exact W.nb (fun hN => W.widen (k := 1) (n := 6) (by decide) (by decide) (vx_ret (W.zret (v := 1) hx hb hr (iv_nb (iv_w (iv_k (by decide) : iv 1 1 1) (by decide))) (fun t ht hW => ⟨⟨some (.int 1), (sg, gm, lg), rfl, ⟨1, rfl, rfl, (iv_w (iv_k (by decide) : iv 1 1 1) (by decide)), (Or.inl ⟨rfl, owB_t (i := x3_2.toNatClampNeg) (by have q1 := (swt9 hSW ez_1 rfl); rw [q1]; have : (z_1).toNatClampNeg = (z_1).toInt.toNat := rfl; have : x3_2.toNatClampNeg = x3_2.toInt.toNat := rfl; have := i32_0; have := i32_1; have := i32_2; have := i32_m1; have := (hsx0_2).1; have := (hsx0_2).2; have := (hsx2_2).1; have := (hsx2_2).2; have := (h_5).1; have := (h_5).2; have := (h_6).1; have := (h_6).2; have := (hq_7).1; have := (hq_7).2; have := (h_14).1; have := (h_14).2; omega) (by have f9 := fC_r_8; rw [nq_7] at f9; exact (f9.resolve_right (fun q8 => absurd q8.1 (by have := i32_0; have := i32_1; have := i32_2; have := i32_m1; have := (hsx0_2).1; have := (hsx0_2).2; have := (hsx2_2).1; have := (hsx2_2).2; have := (h_5).1; have := (h_5).2; have := (h_6).1; have := (h_6).2; have := (hq_7).1; have := (hq_7).2; have := (h_14).1; have := (h_14).2; omega))).2)⟩)⟩, by rw [ht]; exact hP, va_K.moved hW.alike hK, hD⟩, hS.F ht, by rw [ht]; exact hN⟩) hS.2.2 dX2_ownsFactory_25)))
  refine lv_iconst (v := 0) hx hb dX2_ownsFactory_0 (by decide) ?_
  refine lv_istore_n (i := 3) (lv' := [(3, .int 0), (0, eV (ad 7) x), (1, .int nm), (2, .int z)]) hx hb dX2_ownsFactory_1 rfl hl (by decide) rfl (fun ls hl => ?_)
  exact hj2 _ 0 rfl (iv_w (iv_k (by decide) : iv 0 0 0) (by decide)) hvx hvz (fun i hi => absurd hi (Nat.not_lt_zero _)) _ _ _ hP hD hS (lv_sub hl [0, 1, 2, 3] rfl)

set_option maxHeartbeats 4000000 in
set_option maxRecDepth 100000 in
theorem d_withFactory9 (l : Launch) (dC : Nat → ClassId) (dI : Nat → Nat → Nat) (ad : Nat → Nat → Nat) (cid : Nat → ClassId) (a2 : Nat → Nat) (lx : List Nat) (sg : Nat → Int32) (gm : Nat → Nat → Int32) (lg : Nat → Nat → Int64) (x : Int32) (nm : Int32) (z : Int32) (wg : Nat → Nat → Int32) (hI : CI sg gm) (hvx : iv 0 7 x) (hvz : iv 0 1 z) (hSW : st9 gm = wg) : CMt dC dI ad cid a2 lx l yX2_withFactory wm_X2_withFactory ({ frames := 2, cells := 1, slots := 6, locals := 45 }) [eV (ad 7) x, .int nm, .int z] sg gm lg (fun v u => ∃ r : Int32, v = some (eV (ad 7) r) ∧ u = (sg, gm, lg) ∧ (iv (-1) 7 r) ∧ (r.toInt = wfF wg nm.toInt z.toInt 8 x.toInt)) (fun _ _ => False) := by
  intro sz
  refine vx_ofW (cc := cX2_withFactory) (maxL := 5) (ret := (some (.object "WiredBeans$DeclaredClass"))) (by decide) rfl ?_
  intro p e s m args below meth c s₁ B hml hxt hv
  obtain ⟨rfl, hsz, hP, hK, hD0, hG⟩ := hv
  have hx := B.exec
  have hb := B.bytes
  have hr := B.returns
  have hts := atoms_spec (ws := wm_X2_withFactory) B.pre
  have htb := fun (w : Cond) (h : w ∈ tb) => hts w (List.mem_cons_of_mem _ h)
  have hown : s.vm.findClass RX2 = some m.cls := findClass_of_methodNamed B.named
  have hlocks := B.notSynchronized
  subst hsz
  have hD := hD0.self (sz := s.heap.size)
  generalize hAe : va_A (cW ad cid a2 lx sg gm lg) s.heap.size = A at hD hG ⊢
  have hA : ∀ q : Nat, s.heap.size ≤ q → A q := fun q h => by rw [← hAe]; exact Or.inr h
  have hS : va_S A s.heap s.heap [] := va_S.rf
  have hl := lv_entry ([eV (ad 7) x, .int nm, .int z]) (n := 5) (by rw [show (lg_sl ([eV (ad 7) x, .int nm, .int z])).length = 3 from by simp [lg_sl, eV_cat, cat_i, cat_l]]; exact Nat.le_of_ble_eq_true rfl)
  rw [lg_entry_eq]
  generalize (lg_sl ([eV (ad 7) x, .int nm, .int z]) ++ List.replicate (5 - (lg_sl ([eV (ad 7) x, .int nm, .int z])).length) Slot.unset).toArray = ls at hl ⊢
  have hl : lv_has ls 5 [(0, eV (ad 7) x), (1, .int nm), (2, .int z)] := by simp [lv_args, eV_cat, cat_i, cat_l] at hl; exact hl
  have hj38 : ∀ (x4_38 : Int32) (x3_38 : Int32) (_ : iv 0 8 x4_38) (_ : iv (-1) 7 x3_38) (_ : iv 0 7 x) (_ : iv 0 1 z) (_ : wfF wg nm.toInt z.toInt 8 x.toInt = -1) (H : Heap) (locs : List Loc) (ls : Array Slot), va_P (dC, dI) vwCl (cW ad cid a2 lx sg gm lg) H → va_D A (cW ad cid a2 lx sg gm lg) → va_S A s.heap H locs → lv_has ls 5 [(4, .int x4_38), (3, eV (ad 7) x3_38), (0, eV (ad 7) x), (1, .int nm), (2, .int z)] → W p l e (headSpec wm_X2_withFactory ({ frames := 2, cells := 1, slots := 6, locals := 45 })).room s m ([eV (ad 7) x, .int nm, .int z] : List Value).toArray below meth c H locs 0 0 (vx_MQ below (cQx dC dI ad cid a2 lx (fun v u => ∃ r : Int32, v = some (eV (ad 7) r) ∧ u = (sg, gm, lg) ∧ (iv (-1) 7 r) ∧ (r.toInt = wfF wg nm.toInt z.toInt 8 x.toInt)) A) (cX dC dI ad cid a2 lx (fun _ _ => False) A) ([eV (ad 7) x, .int nm, .int z] : List Value).toArray s 1 6 A) (F0 m 38 ls []) := by
    intro x4_38 x3_38 hx4_38 hx3_38 hsx0_38 hsx2_38 u38 H locs ls hP hD hS hl
    refine ec_null (a := ad 7) hx hb dX2_withFactory_38 ?_
    exact W.nb (fun hN => W.widen (k := 1) (n := 6) (by decide) (by decide) (vx_ret (W.aret (v := eV (ad 7) (-1)) hx hb hr (Or.inl ⟨_, rfl⟩) (eV_is _ _) (fun t ht hW => ⟨⟨some (eV (ad 7) (-1)), (sg, gm, lg), rfl, ⟨(-1), rfl, rfl, (iv_w (iv_k (by decide) : iv (-1) (-1) (-1)) (by decide)), ((by have q9 := u38; rw [q9]; rfl))⟩, by rw [ht]; exact hP, va_K.moved hW.alike hK, hD⟩, hS.F ht, by rw [ht]; exact hN⟩) hS.2.2 dX2_withFactory_39)))
  have hj5 : ∀ (n : Nat) (x4_5 : Int32) (x3_5 : Int32) (_ : (8 - x4_5.toInt).toNat = n) (_ : iv 0 8 x4_5) (_ : iv (-1) 7 x3_5) (_ : iv 0 7 x) (_ : iv 0 1 z) (_ : wfF wg nm.toInt z.toInt 8 x.toInt = wfF wg nm.toInt z.toInt (8 - x4_5.toNatClampNeg) x3_5.toInt) (H : Heap) (locs : List Loc) (ls : Array Slot), va_P (dC, dI) vwCl (cW ad cid a2 lx sg gm lg) H → va_D A (cW ad cid a2 lx sg gm lg) → va_S A s.heap H locs → lv_has ls 5 [(4, .int x4_5), (3, eV (ad 7) x3_5), (0, eV (ad 7) x), (1, .int nm), (2, .int z)] → W p l e (headSpec wm_X2_withFactory ({ frames := 2, cells := 1, slots := 6, locals := 45 })).room s m ([eV (ad 7) x, .int nm, .int z] : List Value).toArray below meth c H locs 0 0 (vx_MQ below (cQx dC dI ad cid a2 lx (fun v u => ∃ r : Int32, v = some (eV (ad 7) r) ∧ u = (sg, gm, lg) ∧ (iv (-1) 7 r) ∧ (r.toInt = wfF wg nm.toInt z.toInt 8 x.toInt)) A) (cX dC dI ad cid a2 lx (fun _ _ => False) A) ([eV (ad 7) x, .int nm, .int z] : List Value).toArray s 1 6 A) (F0 m 5 ls []) := by
    intro n
    induction n using Nat.strongRecOn with
    | ind n ih5 =>
      intro x4_5 x3_5 hn5 hx4_5 hx3_5 hsx0_5 hsx2_5 hst H locs ls hP hD hS hl
      refine lv_iload hx hb dX2_withFactory_5 (lv_at hl 0 rfl) ?_
      refine lv_bipush (v := 8) hx hb dX2_withFactory_7 (by decide) ?_
      refine lv_icmp_ge (tgt := 38) hx hb dX2_withFactory_9 (by decide) (fun c_1 => ?_) (fun c_1 => ?_)
      · have h_2 : iv 8 8 x4_5 := iv_leR c_1 (iv_k (by decide) : iv 8 8 8) hx4_5 (by decide)
        exact hj38 x4_5 x3_5 (iv_w h_2 (by decide)) hx3_5 hsx0_5 hsx2_5 (wfF_e hst (by have := i32_0; have := i32_1; have := i32_2; have := i32_m1; have := (hsx0_5).1; have := (hsx0_5).2; have := (hsx2_5).1; have := (hsx2_5).2; have := (h_2).1; have := (h_2).2; have := (hx3_5).1; have := (hx3_5).2; omega)) _ _ _ hP hD hS (lv_sub hl [0, 1, 2, 3, 4] rfl)
      · have h_3 : iv 0 7 x4_5 := iv_ltL (i32_lt c_1) hx4_5 (iv_k (by decide) : iv 8 8 8) (by decide)
        refine ec_aload_n hx hb dX2_withFactory_12 rfl (lv_at hl 1 rfl) ?_
        refine ec_ifnull (tgt := 38) hx hb dX2_withFactory_13 (by decide) (fun c_4 => ?_) (fun c_4 => ?_)
        · have h_5 : iv (-1) (-1) x3_5 := ⟨(hx3_5).1, by omega⟩
          exact hj38 x4_5 x3_5 (iv_w h_3 (by decide)) (iv_w h_5 (by decide)) hsx0_5 hsx2_5 (wfF_e hst (by have := i32_0; have := i32_1; have := i32_2; have := i32_m1; have := (hsx0_5).1; have := (hsx0_5).2; have := (hsx2_5).1; have := (hsx2_5).2; have := (h_3).1; have := (h_3).2; have := (h_5).1; have := (h_5).2; omega)) _ _ _ hP hD hS (lv_sub hl [0, 1, 2, 3, 4] rfl)
        · have h_6 : iv 0 7 x3_5 := ⟨c_4, (hx3_5).2⟩
          refine ec_aload_n hx hb dX2_withFactory_16 rfl (lv_at hl 1 rfl) ?_
          refine lv_iload_n hx hb dX2_withFactory_17 rfl (lv_at hl 3 rfl) ?_
          refine lv_iload_n hx hb dX2_withFactory_18 rfl (lv_at hl 4 rfl) ?_
          refine cm_callV (t := 7) (C := RX2) (T := TX2) (N := 8) (rest := []) (as := [.int nm, .int z]) ⟨hx, hb, hml, hown, htb⟩ (d_ownsFactory9 l dC dI ad cid a2 lx sg gm lg x3_5 nm z wg hI h_6 hsx2_5 hSW) (cwV 2 htb (gd_V kw_926 kw_927 kw_57 kw_147 kw_1539) rfl rfl rfl (by decide +kernel) ⟨Nat.le_of_ble_eq_true rfl, Nat.le_of_ble_eq_true rfl⟩) h_6 (by decide) (by decide) rfl rfl hl.1 rfl (Nat.le_trans cs_n (by decide)) dX2_withFactory_19 ⟨Nat.le_of_ble_eq_true rfl, Nat.le_of_ble_eq_true rfl⟩ hK hP hD hS hA hG (fun E ce q9 u_8 H locs hw hP hD hS hce hcv hcl => ?_) (fun v9 u_8 H locs hw hP hD hS => ?_)
          · exact hw.elim
          obtain ⟨r_7, rfl, rfl, hr_7, fO_r_7⟩ := hw
          have hP : va_P (dC, dI) vwCl (cW ad cid a2 lx sg gm lg) H := hP
          have hD : va_D A (cW ad cid a2 lx sg gm lg) := hD
          refine W.eq (g2 := F0 m 22 ls [.int r_7]) rfl ?_
          refine lv_if_eq (tgt := 27) hx hb dX2_withFactory_22 (by decide) (fun c_10 => ?_) (fun c_10 => ?_)
          · have h_11 : iv 0 0 r_7 := iv_eq c_10 hr_7 (iv_k (by decide) : iv 0 0 0) (by decide)
            refine ec_aload_n hx hb dX2_withFactory_27 rfl (lv_at hl 1 rfl) ?_
            refine cr_get (t := 7) (j := 7) (C := RX2) (T := TX2) (N := 8) (v := eV (ad 7) (gm 4 x3_5.toNatClampNeg)) hx hb htb inX2 hown hK hP h_6 (by decide) (by decide) (by decide) rfl (by decide) (htb _ kw_217) rfl dX2_withFactory_28 ?_
            obtain ⟨z_12, ez_12⟩ : ∃ z : Int32, z = (gm 4 x3_5.toNatClampNeg) := ⟨_, rfl⟩
            refine W.eq (g2 := F0 m 31 ls [eV (ad 7) z_12]) (by rw [ez_12]) ?_
            have hz_12 : iv (-1) 7 z_12 := iv_of ez_12 (CI_a hI 4 h_6 (by decide))
            refine ec_astore_n (i := 3) (lv' := [(3, eV (ad 7) z_12), (4, .int x4_5), (0, eV (ad 7) x), (1, .int nm), (2, .int z)]) hx hb dX2_withFactory_31 rfl hl (by decide) rfl (fun ls hl => ?_)
            obtain ⟨z_13, ez_13⟩ : ∃ z : Int32, z = x4_5 + 1 := ⟨_, rfl⟩
            have hz_13 : iv 1 8 z_13 := iv_of ez_13 (iv_add h_3 (iv_k (by decide) : iv 1 1 1) (by decide))
            have tz_13 : z_13.toInt = x4_5.toInt + 1 := by rw [ez_13]; exact iv_addE h_3 (iv_k (by decide) : iv 1 1 1) (by decide)
            refine lv_iinc (v := z_13) (lv' := [(4, .int z_13), (3, eV (ad 7) z_12), (0, eV (ad 7) x), (1, .int nm), (2, .int z)]) hx hb dX2_withFactory_32 hl (k := 1) rfl ez_13.symm (by decide) (by simp [List.filter, eV_cat, cat_i, cat_l]) (fun ls hl => ?_)
            refine lv_goto (tgt := 5) hx hb dX2_withFactory_35 (by decide) ?_
            exact ih5 _ (by rw [← hn5]; exact (iv_meas tz_13 h_3 (by decide))) z_13 z_12 rfl (iv_w hz_13 (by decide)) hz_12 hsx0_5 hsx2_5 (wfF_st hst (show iv 0 7 x4_5 from h_3) (h_6).1 (fO_r_7.resolve_left (fun q8 => absurd q8.1 (by have := i32_0; have := i32_1; have := i32_2; have := i32_m1; have := (hsx0_5).1; have := (hsx0_5).2; have := (hsx2_5).1; have := (hsx2_5).2; have := (h_3).1; have := (h_3).2; have := (h_6).1; have := (h_6).2; have := (h_11).1; have := (h_11).2; have := (hz_12).1; have := (hz_12).2; have := (hz_13).1; have := (hz_13).2; omega))).2 (swt9 hSW ez_12 rfl).symm tz_13) _ _ _ hP hD hS (lv_sub hl [0, 1, 2, 3, 4] rfl)
          · have h_14 : iv 1 1 r_7 := iv_neL c_10 hr_7 (by decide)
            refine ec_aload_n hx hb dX2_withFactory_25 rfl (lv_at hl 1 rfl) ?_
            exact W.nb (fun hN => W.widen (k := 1) (n := 6) (by decide) (by decide) (vx_ret (W.aret (v := eV (ad 7) x3_5) hx hb hr (Or.inl ⟨_, rfl⟩) (eV_is _ _) (fun t ht hW => ⟨⟨some (eV (ad 7) x3_5), (sg, gm, lg), rfl, ⟨x3_5, rfl, rfl, (iv_w h_6 (by decide)), ((wfF_h hst (show iv 0 7 x4_5 from h_3) (h_6).1 (fO_r_7.resolve_right (fun q8 => absurd q8.1 (by have := i32_0; have := i32_1; have := i32_2; have := i32_m1; have := (hsx0_5).1; have := (hsx0_5).2; have := (hsx2_5).1; have := (hsx2_5).2; have := (h_3).1; have := (h_3).2; have := (h_6).1; have := (h_6).2; have := (h_14).1; have := (h_14).2; omega))).2).symm)⟩, by rw [ht]; exact hP, va_K.moved hW.alike hK, hD⟩, hS.F ht, by rw [ht]; exact hN⟩) hS.2.2 dX2_withFactory_26)))
  refine ec_aload_n hx hb dX2_withFactory_0 rfl (lv_at hl 0 rfl) ?_
  refine ec_astore_n (i := 3) (lv' := [(3, eV (ad 7) x), (0, eV (ad 7) x), (1, .int nm), (2, .int z)]) hx hb dX2_withFactory_1 rfl hl (by decide) rfl (fun ls hl => ?_)
  refine lv_iconst (v := 0) hx hb dX2_withFactory_2 (by decide) ?_
  refine lv_istore (i := 4) (lv' := [(4, .int 0), (3, eV (ad 7) x), (0, eV (ad 7) x), (1, .int nm), (2, .int z)]) hx hb dX2_withFactory_3 hl (by decide) (by simp [List.filter, eV_cat, cat_i, cat_l]) (fun ls hl => ?_)
  exact hj5 _ 0 x rfl (iv_w (iv_k (by decide) : iv 0 0 0) (by decide)) (iv_w hvx (by decide)) hvx hvz (rfl) _ _ _ hP hD hS (lv_sub hl [0, 1, 2, 3, 4] rfl)
end
section
theorem RC_cl {wg : Nat → Nat → Int32} {lg : Nat → Nat → Int64} {S : S9} {sg : Nat → Int32} {gm : Nat → Nat → Int32} {nb : Int32} (h : RC wg lg S sg gm) (h0 : 0 ≤ nb.toInt) (hl : nb.toInt < (sg 14).toInt) : (((zO S)[nb.toInt.toNat]?).getD (0, 0)).1 = (gm 49 nb.toNatClampNeg).toInt ∧ (((zO S)[nb.toInt.toNat]?).getD (0, 0)).2 = (gm 50 nb.toNatClampNeg).toInt := by
  have h1 := h.1.1
  have hk : nb.toInt.toNat < (zO S).length := by omega
  have h2 := h.1.2 nb.toInt.toNat _ (List.getElem?_eq_getElem hk)
  rw [List.getElem?_eq_getElem hk]
  exact ⟨h2.1.symm, h2.2.symm⟩
theorem wOb_0 {wg : Nat → Nat → Int32} {ob : List Ob9} {o t : Int} (h : t < 8) : wOb wg ob o t = -1 := by unfold wOb; rw [if_pos h]
theorem wOb_1 {wg : Nat → Nat → Int32} {ob : List Ob9} {o t c s : Int} (h : 8 ≤ t) (hc : ((ob[o.toNat]?).getD (0, 0)).1 = c) (hs : s = stF wg (t - 8) 8 c 0) : wOb wg ob o t = if s = -1 then -1 else 2 * s := by unfold wOb; rw [if_neg (by omega), hc, ← hs]
/-- what is worked out of a content fits its kind -/
def VOK (wg : Nat → Nat → Int32) (ob : List Ob9) (c : Nat) (V : List Int) : Prop := (wg 25 c).toInt = 6 ∨ (wg 25 c).toInt = 7 ∨ (wg 25 c).toInt = 9 ∨ ∃ o : Int, V = [o] ∧ 0 ≤ o ∧ o < (ob.length : Int)
def WVL (gm : Nat → Nat → Int32) (sl : Nat) (V : List Int) : Prop := ∀ (j : Nat) (x : Int), V[j]? = some x → (gm 52 (sl + j)).toInt = x
theorem wCo_7 {wg : Nat → Nat → Int32} {wl : Nat → Nat → Int64} {ob : List Ob9} {c : Nat} {V : List Int} {t : Int} (h : (wg 25 c).toInt = 7) : wCo wg wl ob c V t = wTx wg wl c t := by unfold wCo; rw [if_pos h]
theorem wCo_9 {wg : Nat → Nat → Int32} {wl : Nat → Nat → Int64} {ob : List Ob9} {c : Nat} {V : List Int} {t : Int} (h : (wg 25 c).toInt = 9) : wCo wg wl ob c V t = if 3 ≤ t then 0 else -1 := by unfold wCo; rw [if_neg (by omega), if_pos h]
theorem wCo_6 {wg : Nat → Nat → Int32} {wl : Nat → Nat → Int64} {ob : List Ob9} {c : Nat} {V : List Int} {t : Int} (h : (wg 25 c).toInt = 6) : wCo wg wl ob c V t = if t = 4 then 0 else -1 := by unfold wCo; rw [if_neg (by omega), if_neg (by omega), if_pos h]
theorem wCo_o {wg : Nat → Nat → Int32} {wl : Nat → Nat → Int64} {ob : List Ob9} {c : Nat} {o t : Int} (h6 : ¬ (wg 25 c).toInt = 6) (h7 : ¬ (wg 25 c).toInt = 7) (h9 : ¬ (wg 25 c).toInt = 9) : wCo wg wl ob c [o] t = wOb wg ob o t := by unfold wCo; rw [if_neg h7, if_neg h9, if_neg h6]; rfl
theorem vCo_7 {wg : Nat → Nat → Int32} {wl : Nat → Nat → Int64} {c : Nat} {V : List Int} {t : Int} (h : (wg 25 c).toInt = 7) : vCo wg wl c V t = vTx wg wl c t := by unfold vCo; rw [if_pos h]
theorem vCo_9 {wg : Nat → Nat → Int32} {wl : Nat → Nat → Int64} {c : Nat} {V : List Int} {t : Int} (h : (wg 25 c).toInt = 9) : vCo wg wl c V t = -1 := by unfold vCo; rw [if_neg (by omega), if_pos h]
theorem vCo_6 {wg : Nat → Nat → Int32} {wl : Nat → Nat → Int64} {c : Nat} {V : List Int} {t : Int} (h : (wg 25 c).toInt = 6) : vCo wg wl c V t = 2000 + (wg 18 c).toInt := by unfold vCo; rw [if_neg (by omega), if_neg (by omega), if_pos h]
theorem vCo_o {wg : Nat → Nat → Int32} {wl : Nat → Nat → Int64} {c : Nat} {o t : Int} (h6 : ¬ (wg 25 c).toInt = 6) (h7 : ¬ (wg 25 c).toInt = 7) (h9 : ¬ (wg 25 c).toInt = 9) : vCo wg wl c [o] t = 3000 + o := by unfold vCo; rw [if_neg h7, if_neg h9, if_neg h6]; rfl
theorem tlV_n {wg : Nat → Nat → Int32} {wl : Nat → Nat → Int64} {wh ab sc t : Int} {c : Nat} {V : List Int} {S : S9} (h : ¬ (wg 25 c).toInt = 6) : tlV wg wl wh ab sc c V t S = zAdd S (wh, ab, sc, vCo wg wl c V t) := by unfold tlV; exact if_neg h
theorem tlV_l {wg : Nat → Nat → Int32} {wl : Nat → Nat → Int64} {wh ab sc t : Int} {c : Nat} {V : List Int} {S : S9} (h : (wg 25 c).toInt = 6) : tlV wg wl wh ab sc c V t S = tlI V (wg 18 c).toNatClampNeg 0 (zAdd S (wh, ab, sc, vCo wg wl c V t)) := by unfold tlV; exact if_pos h
theorem WVL_g {gm : Nat → Nat → Int32} {sl i : Nat} {V : List Int} (h : WVL gm sl V) (hi : i < V.length) : (V[i]?).getD 0 = (gm 52 (sl + i)).toInt := by
  rw [h i _ (List.getElem?_eq_getElem hi), List.getElem?_eq_getElem hi]; rfl
theorem WVL_e {gm gm2 : Nat → Nat → Int32} {sl : Nat} {V : List Int} (h : WVL gm sl V) (e : gm2 52 = gm 52) : WVL gm2 sl V := by unfold WVL; rw [e]; exact h
theorem tlI_st {V : List Int} {N : Nat} {R S2 : S9} {i i2 : Int32} {a b y : Int} (hT : R = tlI V (N - i.toNatClampNeg) i.toNatClampNeg S2) (h0 : 0 ≤ i.toInt) (hN : i.toInt < (N : Int)) (h2 : i2.toInt = i.toInt + 1) (ha : a = 6) (hb : b = -1) (hy : (V[i.toNatClampNeg]?).getD 0 = y) : R = tlI V (N - i2.toNatClampNeg) i2.toNatClampNeg (zAdd S2 (a, b, i.toInt, y)) := by
  have c1 := cln9 h0
  have c2 := cln9 (u := i2) (by omega)
  subst ha; subst hb; subst hy
  rw [show N - i.toNatClampNeg = (N - i2.toNatClampNeg) + 1 by omega] at hT
  rw [hT, show i2.toNatClampNeg = i.toNatClampNeg + 1 by omega, ← c1]
  rfl
theorem tlI_e {V : List Int} {N : Nat} {R S2 : S9} {i : Int32} (hT : R = tlI V (N - i.toNatClampNeg) i.toNatClampNeg S2) (h0 : 0 ≤ i.toInt) (hN : (N : Int) ≤ i.toInt) : R = S2 := by
  have c1 := cln9 h0
  rw [show N - i.toNatClampNeg = 0 by omega] at hT
  exact hT
end
