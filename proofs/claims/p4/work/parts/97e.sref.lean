theorem nx_s {g : Nat → Int32} {A i n : Nat} {b : Int32} (h : ∀ k, k < i → ¬ g (A + k) = b) (hz : ¬ g (A + i) = b) (hn : n = i + 1) : ∀ k, k < n → ¬ g (A + k) = b := by
  intro k hk
  by_cases e9 : k = i
  · rw [e9]; exact hz
  · exact h k (by omega)
def ADDR (P : Prop) (r : Int32) (c : Nat) (b : Int32) (g10 g102 g11 g112 : Nat → Int32) : Prop := (r.toInt = 1 ∧ P ∧ (g10 c).toInt < 8 ∧ (∀ k, k < (g10 c).toNatClampNeg → ¬ g11 (8 * c + k) = b) ∧ (∃ z : Int32, z.toInt = (g10 c).toInt + 1 ∧ g102 = upd g10 c z) ∧ g112 = upd g11 (8 * c + (g10 c).toNatClampNeg) b) ∨ (r.toInt = 0 ∧ (¬ P ∨ 8 ≤ (g10 c).toInt ∨ ∃ k, k < (g10 c).toNatClampNeg ∧ g11 (8 * c + k) = b) ∧ g102 = g10 ∧ g112 = g11)
/-- the setters of class and reference are the same letters -/
def SREL (g3 g55 h10 h11 : Nat → Int32) : Prop := ∀ c, c < 8 → g3 c = h10 c ∧ ∀ b : Int32, 0 ≤ b.toInt → b.toInt ≤ 25 → (¬ g55 (26 * c + b.toNatClampNeg) = -1 ↔ ∃ k, k < (h10 c).toNatClampNeg ∧ h11 (8 * c + k) = b)
theorem SREL_r {g3 g55 h10 h11 g32 g552 h102 h112 : Nat → Int32} (h : SREL g3 g55 h10 h11) (a : g32 = g3) (b : g552 = g55) (c : h102 = h10) (d : h112 = h11) : SREL g32 g552 h102 h112 := by rw [a, b, c, d]; exact h
theorem cl_z : (0 : Int32).toNatClampNeg = 0 := by decide
theorem SREL_d {P : Prop} {r r' : Int32} {c : Nat} {g3 g55 h10 h11 g32 g552 h102 h112 : Nat → Int32} (h : SREL g3 g55 h10 h11) (a : DEC9 P r c g3 g32) (b : DECB P r c g55 g552) (d : DEC9 P r' c h10 h102) (e : h112 = h11) : SREL g32 g552 h102 h112 := by
  rcases a with ⟨a1, a2, a3⟩ | ⟨a1, a2, a3⟩
  · obtain ⟨-, -, b3⟩ := b.resolve_right (fun q => q.2.1 a2)
    obtain ⟨-, -, d3⟩ := d.resolve_right (fun q => q.2.1 a2)
    rw [a3, d3, e]
    intro c' hc'
    by_cases e9 : c' = c
    · subst e9
      refine ⟨by rw [upd_at, upd_at], fun b h0 h1 => ?_⟩
      rw [upd_at, cl_z]
      have k1 : b.toNatClampNeg = b.toInt.toNat := rfl
      exact ⟨fun q => absurd (b3.1 _ (by omega)) q, fun ⟨k, q, _⟩ => absurd q (Nat.not_lt_zero k)⟩
    · refine ⟨by rw [upd_ne e9, upd_ne e9]; exact (h c' hc').1, fun b h0 h1 => ?_⟩
      have k1 : b.toNatClampNeg = b.toInt.toNat := rfl
      rw [upd_ne e9, b3.2 _ (by omega)]
      exact (h c' hc').2 b h0 h1
  · obtain ⟨-, -, b3⟩ := b.resolve_left (fun q => a2 q.2.1)
    obtain ⟨-, -, d3⟩ := d.resolve_left (fun q => a2 q.2.1)
    exact SREL_r h a3 b3 d3 e
theorem SREL_s {P : Prop} {r r' b0 : Int32} {c : Nat} {g3 g55 h10 h11 g32 g552 h102 h112 : Nat → Int32} (h : SREL g3 g55 h10 h11) (hc : P → c < 8 ∧ 0 ≤ b0.toInt ∧ b0.toInt ≤ 25) (h8 : ∀ j, j < 8 → 0 ≤ (h10 j).toInt ∧ (h10 j).toInt ≤ 8) (a : ADDS P r c b0.toNatClampNeg g3 g32 g55 g552) (d : ADDR P r' c b0 h10 h102 h11 h112) : r = r' ∧ SREL g32 g552 h102 h112 := by
  rcases a with ⟨a1, a2, a3, a4, ⟨z, a5, a6⟩, w, a7, a8⟩ | ⟨a1, a2, a3, a4⟩
  · obtain ⟨q1, q2, q3⟩ := hc a2
    have e0 := (h c q1).1
    rcases d with ⟨d1, d2, d3, d4, ⟨y, d5, d6⟩, d7⟩ | ⟨d1, d2, d3, d4⟩
    · refine ⟨Int32.toInt_inj.mp (by rw [a1, d1]), ?_⟩
      have ez : z = y := Int32.toInt_inj.mp (by rw [a5, d5, e0])
      rw [a6, a8, d6, d7, ez]
      have kb : b0.toNatClampNeg = b0.toInt.toNat := rfl
      have kh : (h10 c).toNatClampNeg = (h10 c).toInt.toNat := rfl
      have ky : y.toNatClampNeg = y.toInt.toNat := rfl
      have p8 := h8 c q1
      intro c' hc'
      have p9 := h8 c' hc'
      have kh' : (h10 c').toNatClampNeg = (h10 c').toInt.toNat := rfl
      by_cases e9 : c' = c
      · subst e9
        refine ⟨by rw [upd_at, upd_at], fun b h0 h1 => ?_⟩
        have k1 : b.toNatClampNeg = b.toInt.toNat := rfl
        rw [upd_at]
        by_cases eq : b = b0
        · subst eq
          rw [upd_at]
          refine ⟨fun _ => ⟨(h10 c').toNatClampNeg, by omega, by rw [upd_at]⟩, fun _ q => ?_⟩
          rw [q] at a7
          exact absurd a7 (by decide)
        · have hne : ¬ b.toInt = b0.toInt := fun q => eq (Int32.toInt_inj.mp q)
          rw [upd_ne (by omega), (h c' hc').2 b h0 h1]
          refine ⟨fun hx => ?_, fun hx => ?_⟩
          · obtain ⟨k, k2, k3⟩ := hx
            have q8 : k < y.toNatClampNeg := by omega
            have q9 : ¬ 8 * c' + k = 8 * c' + (h10 c').toNatClampNeg := by omega
            exact ⟨k, q8, by rw [upd_ne q9]; exact k3⟩
          · obtain ⟨k, k2, k3⟩ := hx
            by_cases ek : k = (h10 c').toNatClampNeg
            · rw [ek, upd_at] at k3
              exact absurd k3.symm eq
            · have q9 : ¬ 8 * c' + k = 8 * c' + (h10 c').toNatClampNeg := by omega
              have q8 : k < (h10 c').toNatClampNeg := by omega
              rw [upd_ne q9] at k3
              exact ⟨k, q8, k3⟩
      · refine ⟨by rw [upd_ne e9, upd_ne e9]; exact (h c' hc').1, fun b h0 h1 => ?_⟩
        have k1 : b.toNatClampNeg = b.toInt.toNat := rfl
        rw [upd_ne e9, upd_ne (by omega), (h c' hc').2 b h0 h1]
        refine ⟨fun hx => ?_, fun hx => ?_⟩
        · obtain ⟨k, k2, k3⟩ := hx
          have q9 : ¬ 8 * c' + k = 8 * c + (h10 c).toNatClampNeg := by omega
          exact ⟨k, k2, by rw [upd_ne q9]; exact k3⟩
        · obtain ⟨k, k2, k3⟩ := hx
          have q9 : ¬ 8 * c' + k = 8 * c + (h10 c).toNatClampNeg := by omega
          rw [upd_ne q9] at k3
          exact ⟨k, k2, k3⟩
    · exfalso
      rcases d2 with q | q | q
      · exact q a2
      · rw [← e0] at q; omega
      · exact (((h c q1).2 b0 q2 q3).mpr q) a4
  · rcases d with ⟨d1, d2, d3, d4, ⟨y, d5, d6⟩, d7⟩ | ⟨d1, d2, d3, d4⟩
    · exfalso
      obtain ⟨q1, q2, q3⟩ := hc d2
      have e0 := (h c q1).1
      rcases a2 with q | q | q
      · exact q d2
      · rw [e0] at q; omega
      · obtain ⟨k, k2, k3⟩ := ((h c q1).2 b0 q2 q3).mp q
        exact d4 k k2 k3
    · exact ⟨Int32.toInt_inj.mp (by rw [a1, d1]), SREL_r h a3 a4 d3 d4⟩

set_option maxHeartbeats 4000000 in
set_option maxRecDepth 100000 in
theorem a_setter2 (l : Launch) (dC : Nat → ClassId) (dI : Nat → Nat → Nat) (h0 : Nat) (ad : Nat → Nat) (cid : Nat → ClassId) (sg : Nat → Int32) (gm : Nat → Nat → Int32) (lg : Nat → Nat → Int64) (a : Int32) (b : Int32) (f : Int32) (hI : MI sg gm) : MMi l dC dI yX13_setter wm_X13_setter ({ frames := 1, cells := 0, slots := 0, locals := 20 }) h0 ad cid [.int a, .int b, .int f] sg gm lg (fun r v => ∃ (sg2 : Nat → Int32) (gm2 : Nat → Nat → Int32) (lg2 : Nat → Nat → Int64), v = (sg2, gm2, lg2) ∧ MI sg2 gm2 ∧ KS [5] sg sg2 ∧ KS [10, 11, 12] gm gm2 ∧ KS [] lg lg2 ∧ (iv 0 1 r) ∧ (ADDR (0 ≤ a.toInt ∧ a.toInt ≤ 7 ∧ 0 ≤ b.toInt ∧ b.toInt ≤ 25 ∧ (0 ≤ f.toInt ∧ f.toInt ≤ 4 ∨ 8 ≤ f.toInt ∧ f.toInt ≤ 15)) r a.toNatClampNeg b (gm 10) (gm2 10) (gm 11) (gm2 11))) := by
  intro sz
  refine Met.ofW (cc := cX13_setter) (maxL := 5) (ret := (some .boolean)) (by decide) rfl ?_
  intro p e s m args below meth c s₁ B hml hv
  obtain ⟨rfl, hsz, hP, hK, hD0⟩ := hv
  have hx := B.exec
  have hb := B.bytes
  have hr := B.returns
  have hts := atoms_spec (ws := wm_X13_setter) B.pre
  have htb := fun (w : Cond) (h : w ∈ tb) => hts w (List.mem_cons_of_mem _ h)
  have hown : s.vm.findClass RX13 = some m.cls := findClass_of_methodNamed B.named
  have hlocks := B.notSynchronized
  subst hsz
  have hD := hD0.self (sz := s.heap.size)
  generalize hAe : va_A (mW h0 ad cid sg gm lg) s.heap.size = A at hD ⊢
  have hA : ∀ q : Nat, s.heap.size ≤ q → A q := fun q h => by rw [← hAe]; exact Or.inr h
  have hS : va_S A s.heap s.heap [] := va_S.rf
  have hl := lv_entry ([.ref h0, .int a, .int b, .int f]) (n := 5) (Nat.le_of_ble_eq_true rfl)
  rw [lg_entry_eq]
  generalize (lg_sl ([.ref h0, .int a, .int b, .int f]) ++ List.replicate (5 - (lg_sl ([.ref h0, .int a, .int b, .int f])).length) Slot.unset).toArray = ls at hl ⊢
  have hl : lv_has ls 5 [(0, .ref h0), (1, .int a), (2, .int b), (3, .int f)] := hl
  have hj37 : ∀ (sg_j37 : Nat → Int32) (_ : KS [5] sg sg_j37) (_ : MI sg_j37 gm) (_ : ¬ (0 ≤ a.toInt ∧ a.toInt ≤ 7 ∧ 0 ≤ b.toInt ∧ b.toInt ≤ 25 ∧ (0 ≤ f.toInt ∧ f.toInt ≤ 4 ∨ 8 ≤ f.toInt ∧ f.toInt ≤ 15)) ∨ 8 ≤ (gm 10 a.toNatClampNeg).toInt) (H : Heap) (locs : List Loc) (ls : Array Slot), va_P (dC, dI) vwCl (mW h0 ad cid sg_j37 gm lg) H → va_D A (mW h0 ad cid sg_j37 gm lg) → va_S A s.heap H locs → lv_has ls 5 [(0, .ref h0), (1, .int a), (2, .int b), (3, .int f)] → W p l e (headSpec wm_X13_setter ({ frames := 1, cells := 0, slots := 0, locals := 20 })).room s m ([.ref h0, .int a, .int b, .int f] : List Value).toArray below meth c H locs 0 0 (MQ below (va_Qi (fun r v => ∃ (sg2 : Nat → Int32) (gm2 : Nat → Nat → Int32) (lg2 : Nat → Nat → Int64), v = (sg2, gm2, lg2) ∧ MI sg2 gm2 ∧ KS [5] sg sg2 ∧ KS [10, 11, 12] gm gm2 ∧ KS [] lg lg2 ∧ (iv 0 1 r) ∧ (ADDR (0 ≤ a.toInt ∧ a.toInt ≤ 7 ∧ 0 ≤ b.toInt ∧ b.toInt ≤ 25 ∧ (0 ≤ f.toInt ∧ f.toInt ≤ 4 ∨ 8 ≤ f.toInt ∧ f.toInt ≤ 15)) r a.toNatClampNeg b (gm 10) (gm2 10) (gm 11) (gm2 11))) (MB dC dI h0 ad cid A) A) ([.ref h0, .int a, .int b, .int f] : List Value).toArray s 0 0 A) (F0 m 37 ls []) := by
    intro sg_j37 hks_j37 hI_j37 hno H locs ls hP hD hS hl
    refine lv_iconst (v := 0) hx hb dX13_setter_37 (by decide) ?_
    exact W.zret (v := 0) hx hb hr (iv_nb (iv_w (iv_k (by decide) : iv 0 0 0) (by decide))) (fun t ht hW => ⟨⟨0, (sg_j37, gm, lg), rfl, ⟨sg_j37, gm, lg, rfl, hI_j37, (KS_tr (L := [5]) KS_rf hks_j37 (by decide)), KS_rf, KS_rf, (iv_w (iv_k (by decide) : iv 0 0 0) (by decide)), (Or.inr ⟨rfl, hno.elim Or.inl (fun q => Or.inr (Or.inl q)), rfl, rfl⟩)⟩, by rw [ht]; exact hP, va_K.moved hW.alike hK, hD⟩, hS.F ht⟩) hS.2.2 dX13_setter_38
  have hj42 : ∀ (n : Nat) (sg_j42 : Nat → Int32) (x4_42 : Int32) (_ : (7 - x4_42.toInt).toNat = n) (_ : iv 0 7 x4_42) (_ : iv 0 7 a) (_ : iv 0 25 b) (_ : iv 0 15 f) (_ : KS [5] sg sg_j42) (_ : MI sg_j42 gm) (_ : (gm 10 a.toNatClampNeg).toInt ≤ 7) (_ : (0 ≤ f.toInt ∧ f.toInt ≤ 4 ∨ 8 ≤ f.toInt ∧ f.toInt ≤ 15)) (_ : ∀ k, k < x4_42.toNatClampNeg → ¬ gm 11 (8 * a.toNatClampNeg + k) = b) (H : Heap) (locs : List Loc) (ls : Array Slot), va_P (dC, dI) vwCl (mW h0 ad cid sg_j42 gm lg) H → va_D A (mW h0 ad cid sg_j42 gm lg) → va_S A s.heap H locs → lv_has ls 5 [(4, .int x4_42), (0, .ref h0), (1, .int a), (2, .int b), (3, .int f)] → W p l e (headSpec wm_X13_setter ({ frames := 1, cells := 0, slots := 0, locals := 20 })).room s m ([.ref h0, .int a, .int b, .int f] : List Value).toArray below meth c H locs 0 0 (MQ below (va_Qi (fun r v => ∃ (sg2 : Nat → Int32) (gm2 : Nat → Nat → Int32) (lg2 : Nat → Nat → Int64), v = (sg2, gm2, lg2) ∧ MI sg2 gm2 ∧ KS [5] sg sg2 ∧ KS [10, 11, 12] gm gm2 ∧ KS [] lg lg2 ∧ (iv 0 1 r) ∧ (ADDR (0 ≤ a.toInt ∧ a.toInt ≤ 7 ∧ 0 ≤ b.toInt ∧ b.toInt ≤ 25 ∧ (0 ≤ f.toInt ∧ f.toInt ≤ 4 ∨ 8 ≤ f.toInt ∧ f.toInt ≤ 15)) r a.toNatClampNeg b (gm 10) (gm2 10) (gm 11) (gm2 11))) (MB dC dI h0 ad cid A) A) ([.ref h0, .int a, .int b, .int f] : List Value).toArray s 0 0 A) (F0 m 42 ls []) := by
    intro n
    induction n using Nat.strongRecOn with
    | ind n ih42 =>
      intro sg_j42 x4_42 hn42 hx4_42 hsx1_42 hsx2_42 hsx3_42 hks_j42 hI_j42 h8 hT hN H locs ls hP hD hS hl
      refine lv_iload hx hb dX13_setter_42 (lv_at hl 0 rfl) ?_
      refine lv_aload_n hx hb dX13_setter_44 rfl (lv_at hl 1 rfl) ?_
      refine mr_get (v := .ref (ad 10)) hx hb htb inX13 hown hK hP 10 (by decide) (htb _ kw_169) rfl dX13_setter_45 ?_
      refine lv_iload_n hx hb dX13_setter_48 rfl (lv_at hl 2 rfl) ?_
      refine mr_iald hx hb hK hP 9 (k := 10) rfl rfl rfl (show vp_in a 8 from (iv_in hsx1_42 (by decide))) dX13_setter_49 ?_
      refine lv_topi (fun z_1 ez_1 => ?_)
      have hz_1 : iv 0 8 z_1 := iv_of ez_1 (MI_a hI_j42 10 hsx1_42 (by decide))
      have h_2 : iv 0 7 z_1 := ⟨(hz_1).1, by rw [ez_1]; exact h8⟩
      refine lv_icmp_ge (tgt := 77) hx hb dX13_setter_50 (by decide) (fun c_3 => ?_) (fun c_3 => ?_)
      · have d_4 : (z_1 : Int32).toInt ≤ (x4_42 : Int32).toInt := Int32.le_iff_toInt_le.mp c_3
        refine lv_aload_n hx hb dX13_setter_77 rfl (lv_at hl 1 rfl) ?_
        refine mr_get (v := .ref (ad 11)) hx hb htb inX13 hown hK hP 11 (by decide) (htb _ kw_170) rfl dX13_setter_78 ?_
        refine lv_bipush (v := 8) hx hb dX13_setter_81 (by decide) ?_
        refine lv_iload_n hx hb dX13_setter_83 rfl (lv_at hl 2 rfl) ?_
        refine lv_imul hx hb dX13_setter_84 ?_
        refine lv_topi (fun z_5 ez_5 => ?_)
        have hz_5 : iv 0 56 z_5 := iv_of ez_5 (iv_mul (iv_k (by decide) : iv 8 8 8) hsx1_42 (by decide))
        have tz_5 : z_5.toInt = 8 * (a : Int32).toInt := by rw [ez_5]; exact iv_mulE (iv_k (by decide) : iv 8 8 8) hsx1_42 (by decide)
        refine lv_aload_n hx hb dX13_setter_85 rfl (lv_at hl 1 rfl) ?_
        refine mr_get (v := .ref (ad 10)) hx hb htb inX13 hown hK hP 10 (by decide) (htb _ kw_169) rfl dX13_setter_86 ?_
        refine lv_iload_n hx hb dX13_setter_89 rfl (lv_at hl 2 rfl) ?_
        refine mr_iald hx hb hK hP 9 (k := 10) rfl rfl rfl (show vp_in a 8 from (iv_in hsx1_42 (by decide))) dX13_setter_90 ?_
        refine lv_topi (fun z_6 ez_6 => ?_)
        obtain rfl : z_1 = z_6 := ez_1.trans ez_6.symm
        refine lv_iadd hx hb dX13_setter_91 ?_
        refine lv_topi (fun z_7 ez_7 => ?_)
        have hz_7 : iv 0 63 z_7 := iv_of ez_7 (iv_add hz_5 h_2 (by decide))
        have tz_7 : z_7.toInt = (z_5 : Int32).toInt + (z_1 : Int32).toInt := by rw [ez_7]; exact iv_addE hz_5 h_2 (by decide)
        refine lv_iload_n hx hb dX13_setter_92 rfl (lv_at hl 3 rfl) ?_
        refine ma_iast (x := b) hx hb hK hP hD hS 10 (k := 11) rfl rfl rfl (show vp_in z_7 64 from (iv_in hz_7 (by decide))) dX13_setter_93 (fun gm_8 H locs egm_8 hP hD hS => ?_)
        have hI_gm_8 := MI_st hI_j42 egm_8 hsx2_42 (by decide)
        refine lv_aload_n hx hb dX13_setter_94 rfl (lv_at hl 1 rfl) ?_
        refine mr_get (v := .ref (ad 12)) hx hb htb inX13 hown hK hP 12 (by decide) (htb _ kw_171) rfl dX13_setter_95 ?_
        refine lv_bipush (v := 8) hx hb dX13_setter_98 (by decide) ?_
        refine lv_iload_n hx hb dX13_setter_100 rfl (lv_at hl 2 rfl) ?_
        refine lv_imul hx hb dX13_setter_101 ?_
        refine lv_topi (fun z_9 ez_9 => ?_)
        obtain rfl : z_5 = z_9 := ez_5.trans ez_9.symm
        refine lv_aload_n hx hb dX13_setter_102 rfl (lv_at hl 1 rfl) ?_
        refine mr_get (v := .ref (ad 10)) hx hb htb inX13 hown hK hP 10 (by decide) (htb _ kw_169) rfl dX13_setter_103 ?_
        refine lv_iload_n hx hb dX13_setter_106 rfl (lv_at hl 2 rfl) ?_
        refine mr_iald hx hb hK hP 9 (k := 10) rfl rfl rfl (show vp_in a 8 from (iv_in hsx1_42 (by decide))) dX13_setter_107 ?_
        refine lv_topi (fun z_10 ez_10 => ?_)
        obtain rfl : z_1 = z_10 := ez_1.trans (ez_10.trans (congrFun (up_ne egm_8 (by decide)) _)).symm
        refine lv_iadd hx hb dX13_setter_108 ?_
        refine lv_topi (fun z_11 ez_11 => ?_)
        obtain rfl : z_7 = z_11 := ez_7.trans ez_11.symm
        refine lv_iload_n hx hb dX13_setter_109 rfl (lv_at hl 4 rfl) ?_
        refine ma_iast (x := f) hx hb hK hP hD hS 11 (k := 12) rfl rfl rfl (show vp_in z_7 64 from (iv_in hz_7 (by decide))) dX13_setter_110 (fun gm_12 H locs egm_12 hP hD hS => ?_)
        have hI_gm_12 := MI_st hI_gm_8 egm_12 hsx3_42 (by decide)
        refine lv_aload_n hx hb dX13_setter_111 rfl (lv_at hl 1 rfl) ?_
        refine mr_get (v := .ref (ad 10)) hx hb htb inX13 hown hK hP 10 (by decide) (htb _ kw_169) rfl dX13_setter_112 ?_
        refine lv_iload_n hx hb dX13_setter_115 rfl (lv_at hl 2 rfl) ?_
        refine lv_dup2_11 hx hb dX13_setter_116 rfl rfl ?_
        refine mr_iald hx hb hK hP 9 (k := 10) rfl rfl rfl (show vp_in a 8 from (iv_in hsx1_42 (by decide))) dX13_setter_117 ?_
        refine lv_topi (fun z_13 ez_13 => ?_)
        obtain rfl : z_1 = z_13 := ez_1.trans (ez_13.trans (congrFun (Eq.trans (up_ne egm_12 (by decide)) (up_ne egm_8 (by decide))) _)).symm
        refine lv_iconst (v := 1) hx hb dX13_setter_118 (by decide) ?_
        refine lv_iadd hx hb dX13_setter_119 ?_
        refine lv_topi (fun z_14 ez_14 => ?_)
        have hz_14 : iv 1 8 z_14 := iv_of ez_14 (iv_add h_2 (iv_k (by decide) : iv 1 1 1) (by decide))
        have tz_14 : z_14.toInt = (z_1 : Int32).toInt + 1 := by rw [ez_14]; exact iv_addE h_2 (iv_k (by decide) : iv 1 1 1) (by decide)
        refine ma_iast (x := z_14) hx hb hK hP hD hS 9 (k := 10) rfl rfl rfl (show vp_in a 8 from (iv_in hsx1_42 (by decide))) dX13_setter_120 (fun gm_15 H locs egm_15 hP hD hS => ?_)
        have hI_gm_15 := MI_st hI_gm_12 egm_15 hz_14 (by decide)
        refine lv_iconst (v := 1) hx hb dX13_setter_121 (by decide) ?_
        exact W.zret (v := 1) hx hb hr (iv_nb (iv_w (iv_k (by decide) : iv 1 1 1) (by decide))) (fun t ht hW => ⟨⟨1, (sg_j42, gm_15, lg), rfl, ⟨sg_j42, gm_15, lg, rfl, hI_gm_15, (KS_tr (L := [5]) KS_rf hks_j42 (by decide)), (KS_up (KS_up (KS_up KS_rf egm_8 (by decide)) egm_12 (by decide)) egm_15 (by decide)), KS_rf, (iv_w (iv_k (by decide) : iv 1 1 1) (by decide)), (Or.inl ⟨rfl, by have := i32_0; have := i32_1; have := i32_2; have := i32_m1; have := (hx4_42).1; have := (hx4_42).2; have := (hsx1_42).1; have := (hsx1_42).2; have := (hsx2_42).1; have := (hsx2_42).2; have := (hsx3_42).1; have := (hsx3_42).2; have := (h_2).1; have := (h_2).2; have := (hz_5).1; have := (hz_5).2; have := (hz_7).1; have := (hz_7).2; have := (hz_14).1; have := (hz_14).2; omega, (by { rw [← ez_1]; have := i32_0; have := i32_1; have := i32_2; have := i32_m1; have := (hx4_42).1; have := (hx4_42).2; have := (hsx1_42).1; have := (hsx1_42).2; have := (hsx2_42).1; have := (hsx2_42).2; have := (hsx3_42).1; have := (hsx3_42).2; have := (h_2).1; have := (h_2).2; have := (hz_5).1; have := (hz_5).2; have := (hz_7).1; have := (hz_7).2; have := (hz_14).1; have := (hz_14).2; omega }), (fun k hk => hN k (by { rw [← ez_1] at hk; have k0 : x4_42.toNatClampNeg = x4_42.toInt.toNat := rfl; have k1 : z_1.toNatClampNeg = z_1.toInt.toNat := rfl; have := i32_0; have := i32_1; have := i32_2; have := i32_m1; have := (hx4_42).1; have := (hx4_42).2; have := (hsx1_42).1; have := (hsx1_42).2; have := (hsx2_42).1; have := (hsx2_42).2; have := (hsx3_42).1; have := (hsx3_42).2; have := (h_2).1; have := (h_2).2; have := (hz_5).1; have := (hz_5).2; have := (hz_7).1; have := (hz_7).2; have := (hz_14).1; have := (hz_14).2; omega })), ⟨_, (by { rw [← ez_1]; have := i32_0; have := i32_1; have := i32_2; have := i32_m1; have := (hx4_42).1; have := (hx4_42).2; have := (hsx1_42).1; have := (hsx1_42).2; have := (hsx2_42).1; have := (hsx2_42).2; have := (hsx3_42).1; have := (hsx3_42).2; have := (h_2).1; have := (h_2).2; have := (hz_5).1; have := (hz_5).2; have := (hz_7).1; have := (hz_7).2; have := (hz_14).1; have := (hz_14).2; omega }), (show gm_15 10 = upd (gm 10) (a : Int32).toNatClampNeg z_14 from ((up_at egm_15).trans (by rw [show gm_12 10 = gm 10 from ((up_ne egm_12 (by decide)).trans ((up_ne egm_8 (by decide)).trans rfl))])))⟩, (by rw [← ez_1, show 8 * a.toNatClampNeg + z_1.toNatClampNeg = z_7.toNatClampNeg from (by { have k0 : a.toNatClampNeg = a.toInt.toNat := rfl; have k1 : z_1.toNatClampNeg = z_1.toInt.toNat := rfl; have k2 : z_7.toNatClampNeg = z_7.toInt.toNat := rfl; have := i32_0; have := i32_1; have := i32_2; have := i32_m1; have := (hx4_42).1; have := (hx4_42).2; have := (hsx1_42).1; have := (hsx1_42).2; have := (hsx2_42).1; have := (hsx2_42).2; have := (hsx3_42).1; have := (hsx3_42).2; have := (h_2).1; have := (h_2).2; have := (hz_5).1; have := (hz_5).2; have := (hz_7).1; have := (hz_7).2; have := (hz_14).1; have := (hz_14).2; omega })]; exact (show gm_15 11 = upd (gm 11) (z_7 : Int32).toNatClampNeg b from ((up_ne egm_15 (by decide)).trans ((up_ne egm_12 (by decide)).trans ((up_at egm_8).trans (by rw [show gm 11 = gm 11 from rfl]))))))⟩)⟩, by rw [ht]; exact hP, va_K.moved hW.alike hK, hD⟩, hS.F ht⟩) hS.2.2 dX13_setter_122
      · have d_16 : (x4_42 : Int32).toInt < (z_1 : Int32).toInt := Int32.lt_iff_toInt_lt.mp (i32_lt c_3)
        have h_17 : iv 0 6 x4_42 := iv_ltL (i32_lt c_3) hx4_42 h_2 (by decide)
        have h_18 : iv 1 7 z_1 := iv_ltR (i32_lt c_3) hx4_42 h_2 (by decide)
        refine lv_aload_n hx hb dX13_setter_53 rfl (lv_at hl 1 rfl) ?_
        refine mr_get (v := .ref (ad 11)) hx hb htb inX13 hown hK hP 11 (by decide) (htb _ kw_170) rfl dX13_setter_54 ?_
        refine lv_bipush (v := 8) hx hb dX13_setter_57 (by decide) ?_
        refine lv_iload_n hx hb dX13_setter_59 rfl (lv_at hl 2 rfl) ?_
        refine lv_imul hx hb dX13_setter_60 ?_
        refine lv_topi (fun z_19 ez_19 => ?_)
        have hz_19 : iv 0 56 z_19 := iv_of ez_19 (iv_mul (iv_k (by decide) : iv 8 8 8) hsx1_42 (by decide))
        have tz_19 : z_19.toInt = 8 * (a : Int32).toInt := by rw [ez_19]; exact iv_mulE (iv_k (by decide) : iv 8 8 8) hsx1_42 (by decide)
        refine lv_iload hx hb dX13_setter_61 (lv_at hl 0 rfl) ?_
        refine lv_iadd hx hb dX13_setter_63 ?_
        refine lv_topi (fun z_20 ez_20 => ?_)
        have hz_20 : iv 0 62 z_20 := iv_of ez_20 (iv_add hz_19 h_17 (by decide))
        have tz_20 : z_20.toInt = (z_19 : Int32).toInt + (x4_42 : Int32).toInt := by rw [ez_20]; exact iv_addE hz_19 h_17 (by decide)
        refine mr_iald hx hb hK hP 10 (k := 11) rfl rfl rfl (show vp_in z_20 64 from (iv_in hz_20 (by decide))) dX13_setter_64 ?_
        refine lv_topi (fun z_21 ez_21 => ?_)
        have hz_21 : iv 0 25 z_21 := iv_of ez_21 (MI_a hI_j42 11 hz_20 (by decide))
        refine lv_iload_n hx hb dX13_setter_65 rfl (lv_at hl 3 rfl) ?_
        refine lv_icmp_ne (tgt := 71) hx hb dX13_setter_66 (by decide) (fun c_22 => ?_) (fun c_22 => ?_)
        · obtain ⟨z_23, ez_23⟩ : ∃ z : Int32, z = x4_42 + 1 := ⟨_, rfl⟩
          have hz_23 : iv 1 7 z_23 := iv_of ez_23 (iv_add h_17 (iv_k (by decide) : iv 1 1 1) (by decide))
          have tz_23 : z_23.toInt = x4_42.toInt + 1 := by rw [ez_23]; exact iv_addE h_17 (iv_k (by decide) : iv 1 1 1) (by decide)
          refine lv_iinc (v := z_23) (lv' := [(4, .int z_23), (0, .ref h0), (1, .int a), (2, .int b), (3, .int f)]) hx hb dX13_setter_71 hl (k := 0) rfl ez_23.symm (by decide) rfl (fun ls hl => ?_)
          refine lv_goto (tgt := 42) hx hb dX13_setter_74 (by decide) ?_
          exact ih42 _ (by rw [← hn42]; exact (iv_meas tz_23 h_17 (by decide))) sg_j42 z_23 rfl (iv_w hz_23 (by decide)) hsx1_42 hsx2_42 hsx3_42 (KS_tr (L := [5]) KS_rf hks_j42 (by decide)) hI_j42 (h8) (hT) ((nx_s hN (by rw [show 8 * a.toNatClampNeg + x4_42.toNatClampNeg = z_20.toNatClampNeg from (by { have k0 : a.toNatClampNeg = a.toInt.toNat := rfl; have k1 : x4_42.toNatClampNeg = x4_42.toInt.toNat := rfl; have k2 : z_20.toNatClampNeg = z_20.toInt.toNat := rfl; have := i32_0; have := i32_1; have := i32_2; have := i32_m1; have := (h_17).1; have := (h_17).2; have := (hsx1_42).1; have := (hsx1_42).2; have := (hsx2_42).1; have := (hsx2_42).2; have := (hsx3_42).1; have := (hsx3_42).2; have := (h_18).1; have := (h_18).2; have := (hz_19).1; have := (hz_19).2; have := (hz_20).1; have := (hz_20).2; have := (hz_21).1; have := (hz_21).2; have := (hz_23).1; have := (hz_23).2; omega }), ← ez_21]; exact c_22) (by { have k0 : x4_42.toNatClampNeg = x4_42.toInt.toNat := rfl; have k1 : z_23.toNatClampNeg = z_23.toInt.toNat := rfl; have := i32_0; have := i32_1; have := i32_2; have := i32_m1; have := (h_17).1; have := (h_17).2; have := (hsx1_42).1; have := (hsx1_42).2; have := (hsx2_42).1; have := (hsx2_42).2; have := (hsx3_42).1; have := (hsx3_42).2; have := (h_18).1; have := (h_18).2; have := (hz_19).1; have := (hz_19).2; have := (hz_20).1; have := (hz_20).2; have := (hz_21).1; have := (hz_21).2; have := (hz_23).1; have := (hz_23).2; omega }))) _ _ _ hP hD hS (lv_sub hl [0, 1, 2, 3, 4] rfl)
        · have d_24 : (z_21 : Int32).toInt = (b : Int32).toInt := congrArg Int32.toInt c_22
          refine lv_iconst (v := 0) hx hb dX13_setter_69 (by decide) ?_
          exact W.zret (v := 0) hx hb hr (iv_nb (iv_w (iv_k (by decide) : iv 0 0 0) (by decide))) (fun t ht hW => ⟨⟨0, (sg_j42, gm, lg), rfl, ⟨sg_j42, gm, lg, rfl, hI_j42, (KS_tr (L := [5]) KS_rf hks_j42 (by decide)), KS_rf, KS_rf, (iv_w (iv_k (by decide) : iv 0 0 0) (by decide)), (Or.inr ⟨rfl, Or.inr (Or.inr ⟨x4_42.toNatClampNeg, (by { rw [← ez_1]; have k0 : x4_42.toNatClampNeg = x4_42.toInt.toNat := rfl; have k1 : z_1.toNatClampNeg = z_1.toInt.toNat := rfl; have := i32_0; have := i32_1; have := i32_2; have := i32_m1; have := (h_17).1; have := (h_17).2; have := (hsx1_42).1; have := (hsx1_42).2; have := (hsx2_42).1; have := (hsx2_42).2; have := (hsx3_42).1; have := (hsx3_42).2; have := (h_18).1; have := (h_18).2; have := (hz_19).1; have := (hz_19).2; have := (hz_20).1; have := (hz_20).2; have := (hz_21).1; have := (hz_21).2; omega }), (by rw [show 8 * a.toNatClampNeg + x4_42.toNatClampNeg = z_20.toNatClampNeg from (by { have k0 : a.toNatClampNeg = a.toInt.toNat := rfl; have k1 : x4_42.toNatClampNeg = x4_42.toInt.toNat := rfl; have k2 : z_20.toNatClampNeg = z_20.toInt.toNat := rfl; have := i32_0; have := i32_1; have := i32_2; have := i32_m1; have := (h_17).1; have := (h_17).2; have := (hsx1_42).1; have := (hsx1_42).2; have := (hsx2_42).1; have := (hsx2_42).2; have := (hsx3_42).1; have := (hsx3_42).2; have := (h_18).1; have := (h_18).2; have := (hz_19).1; have := (hz_19).2; have := (hz_20).1; have := (hz_20).2; have := (hz_21).1; have := (hz_21).2; omega }), ← ez_21]; exact c_22)⟩), rfl, rfl⟩)⟩, by rw [ht]; exact hP, va_K.moved hW.alike hK, hD⟩, hS.F ht⟩) hS.2.2 dX13_setter_70
  refine lv_aload_n hx hb dX13_setter_0 rfl (lv_at hl 0 rfl) ?_
  refine lv_iconst (v := 0) hx hb dX13_setter_1 (by decide) ?_
  refine ma_put (x := 0) hx hb htb inX13 hown hK hP hD hS 5 (by decide) (by decide) (htb _ kw_239) rfl rfl rfl dX13_setter_2 (fun sg_25 H locs esg_25 hP hD hS => ?_)
  have hI_sg_25 := MI_put hI esg_25 (iv_k (by decide) : iv 0 0 0) (by decide)
  refine lv_iload_n hx hb dX13_setter_5 rfl (lv_at hl 1 rfl) ?_
  have hPc := hP.sub (ws' := []) [] rfl
  have hDc := hD.sub (ws' := []) [] (by decide) rfl
  have hKc := hK.sub (tys' := []) [] rfl
  have hFc := va_free (wc := []) hD hS hA [] rfl
  refine va_calli (va_runS (As := [.int a]) (rest := []) ⟨hx, hb, hml, hown, htb⟩ (c_X13_isClass l dC dI H.size a) (va_cwS 1 htb (gd_S kw_240 kw_241 kw_5 kw_1388) rfl rfl rfl (by decide +kernel) ⟨Nat.le_of_ble_eq_true rfl, Nat.le_of_ble_eq_true rfl⟩) ⟨fun a U g mk q => by obtain ⟨q0, q1, qP, qK, qD⟩ := q; exact ⟨q0, q1, qP, va_K.moved (u := U) (U := U.calling g mk a) (Vm.Alike.refl U.vm) qK, qD⟩, fun U hU hW => ⟨rfl, by rw [hU], by rw [hU]; exact hPc, va_K.moved hW.alike hKc, hDc.weaken (fun _ _ _ _ => trivial)⟩⟩ rfl rfl hl.1 rfl (lv_room (Nat.le_of_ble_eq_true rfl)) dX13_setter_6 ⟨Nat.zero_le _, Nat.zero_le _⟩) hS (fun q _ h => hFc q h) hFc (fun r_26 u9 t H1 locs ht hvm hw hB hz1 hk1 hS => ?_)
  have hP := ms_kept hP hz1 hk1
  generalize H1 = H at hP hS ⊢
  have fr_26 : r_26 = zCls a := hw
  have hr_26 : iv 0 1 r_26 := iv_of fr_26 (zCls_iv a)
  refine lv_if_eq (tgt := 37) hx hb dX13_setter_9 (by decide) (fun c_27 => ?_) (fun c_27 => ?_)
  · have h_28 : iv 0 0 r_26 := iv_eq c_27 hr_26 (iv_k (by decide) : iv 0 0 0) (by decide)
    exact hj37 sg_25 (KS_up KS_rf esg_25 (by decide)) hI_sg_25 (Or.inl (fun q8 => by { have q26 := zCls_g (a := a); rw [← fr_26] at q26; have w26 : r_26 = 1 ↔ r_26.toInt = 1 := ⟨fun q => by rw [q]; rfl, fun q => Int32.toInt_inj.mp q⟩; have v26 : r_26 = 0 ↔ r_26.toInt = 0 := ⟨fun q => by rw [q]; rfl, fun q => Int32.toInt_inj.mp q⟩; rw [w26, v26] at q26; have := i32_0; have := i32_1; have := i32_2; have := i32_m1; have := (h_28).1; have := (h_28).2; omega })) _ _ _ hP hD hS (lv_sub hl [0, 1, 2, 3] rfl)
  · have h_29 : iv 0 7 a := zCls_t (by rw [← fr_26]; exact c_27)
    have h_30 : iv 1 1 r_26 := iv_neL c_27 hr_26 (by decide)
    refine lv_iload_n hx hb dX13_setter_12 rfl (lv_at hl 2 rfl) ?_
    have hPc := hP.sub (ws' := []) [] rfl
    have hDc := hD.sub (ws' := []) [] (by decide) rfl
    have hKc := hK.sub (tys' := []) [] rfl
    have hFc := va_free (wc := []) hD hS hA [] rfl
    refine va_calli (va_runS (As := [.int b]) (rest := []) ⟨hx, hb, hml, hown, htb⟩ (c_X13_isLetter l dC dI H.size b) (va_cwS 1 htb (gd_S kw_280 kw_281 kw_5 kw_1402) rfl rfl rfl (by decide +kernel) ⟨Nat.le_of_ble_eq_true rfl, Nat.le_of_ble_eq_true rfl⟩) ⟨fun a U g mk q => by obtain ⟨q0, q1, qP, qK, qD⟩ := q; exact ⟨q0, q1, qP, va_K.moved (u := U) (U := U.calling g mk a) (Vm.Alike.refl U.vm) qK, qD⟩, fun U hU hW => ⟨rfl, by rw [hU], by rw [hU]; exact hPc, va_K.moved hW.alike hKc, hDc.weaken (fun _ _ _ _ => trivial)⟩⟩ rfl rfl hl.1 rfl (lv_room (Nat.le_of_ble_eq_true rfl)) dX13_setter_13 ⟨Nat.zero_le _, Nat.zero_le _⟩) hS (fun q _ h => hFc q h) hFc (fun r_31 u9 t H1 locs ht hvm hw hB hz1 hk1 hS => ?_)
    have hP := ms_kept hP hz1 hk1
    generalize H1 = H at hP hS ⊢
    have fr_31 : r_31 = zLet b := hw
    have hr_31 : iv 0 1 r_31 := iv_of fr_31 (zLet_iv b)
    refine lv_if_eq (tgt := 37) hx hb dX13_setter_16 (by decide) (fun c_32 => ?_) (fun c_32 => ?_)
    · have h_33 : iv 0 0 r_31 := iv_eq c_32 hr_31 (iv_k (by decide) : iv 0 0 0) (by decide)
      exact hj37 sg_25 (KS_up KS_rf esg_25 (by decide)) hI_sg_25 (Or.inl (fun q8 => by { have q26 := zCls_g (a := a); rw [← fr_26] at q26; have q31 := zLet_f (a := b); rw [← fr_31] at q31; have w26 : r_26 = 1 ↔ r_26.toInt = 1 := ⟨fun q => by rw [q]; rfl, fun q => Int32.toInt_inj.mp q⟩; have v26 : r_26 = 0 ↔ r_26.toInt = 0 := ⟨fun q => by rw [q]; rfl, fun q => Int32.toInt_inj.mp q⟩; rw [w26, v26] at q26; have w31 : r_31 = 1 ↔ r_31.toInt = 1 := ⟨fun q => by rw [q]; rfl, fun q => Int32.toInt_inj.mp q⟩; have v31 : r_31 = 0 ↔ r_31.toInt = 0 := ⟨fun q => by rw [q]; rfl, fun q => Int32.toInt_inj.mp q⟩; rw [w31, v31] at q31; have := i32_0; have := i32_1; have := i32_2; have := i32_m1; have := (h_30).1; have := (h_30).2; have := (h_29).1; have := (h_29).2; have := (h_33).1; have := (h_33).2; omega })) _ _ _ hP hD hS (lv_sub hl [0, 1, 2, 3] rfl)
    · have h_34 : iv 0 25 b := zLet_t (by rw [← fr_31]; exact c_32)
      have h_35 : iv 1 1 r_31 := iv_neL c_32 hr_31 (by decide)
      refine lv_iload_n hx hb dX13_setter_19 rfl (lv_at hl 3 rfl) ?_
      have hPc := hP.sub (ws' := []) [] rfl
      have hDc := hD.sub (ws' := []) [] (by decide) rfl
      have hKc := hK.sub (tys' := []) [] rfl
      have hFc := va_free (wc := []) hD hS hA [] rfl
      refine va_calli (va_runS (As := [.int f]) (rest := []) ⟨hx, hb, hml, hown, htb⟩ (c_X13_isType l dC dI H.size f) (va_cwS 1 htb (gd_S kw_267 kw_268 kw_5 kw_1397) rfl rfl rfl (by decide +kernel) ⟨Nat.le_of_ble_eq_true rfl, Nat.le_of_ble_eq_true rfl⟩) ⟨fun a U g mk q => by obtain ⟨q0, q1, qP, qK, qD⟩ := q; exact ⟨q0, q1, qP, va_K.moved (u := U) (U := U.calling g mk a) (Vm.Alike.refl U.vm) qK, qD⟩, fun U hU hW => ⟨rfl, by rw [hU], by rw [hU]; exact hPc, va_K.moved hW.alike hKc, hDc.weaken (fun _ _ _ _ => trivial)⟩⟩ rfl rfl hl.1 rfl (lv_room (Nat.le_of_ble_eq_true rfl)) dX13_setter_20 ⟨Nat.zero_le _, Nat.zero_le _⟩) hS (fun q _ h => hFc q h) hFc (fun r_36 u9 t H1 locs ht hvm hw hB hz1 hk1 hS => ?_)
      have hP := ms_kept hP hz1 hk1
      generalize H1 = H at hP hS ⊢
      have fr_36 : r_36 = zTyp f := hw
      have hr_36 : iv 0 1 r_36 := iv_of fr_36 (zTyp_iv f)
      refine lv_if_eq (tgt := 37) hx hb dX13_setter_23 (by decide) (fun c_37 => ?_) (fun c_37 => ?_)
      · have h_38 : iv 0 0 r_36 := iv_eq c_37 hr_36 (iv_k (by decide) : iv 0 0 0) (by decide)
        exact hj37 sg_25 (KS_up KS_rf esg_25 (by decide)) hI_sg_25 (Or.inl (fun q8 => by { have q26 := zCls_g (a := a); rw [← fr_26] at q26; have q31 := zLet_f (a := b); rw [← fr_31] at q31; have q36 := zTyp_f (a := f); rw [← fr_36] at q36; have w26 : r_26 = 1 ↔ r_26.toInt = 1 := ⟨fun q => by rw [q]; rfl, fun q => Int32.toInt_inj.mp q⟩; have v26 : r_26 = 0 ↔ r_26.toInt = 0 := ⟨fun q => by rw [q]; rfl, fun q => Int32.toInt_inj.mp q⟩; rw [w26, v26] at q26; have w31 : r_31 = 1 ↔ r_31.toInt = 1 := ⟨fun q => by rw [q]; rfl, fun q => Int32.toInt_inj.mp q⟩; have v31 : r_31 = 0 ↔ r_31.toInt = 0 := ⟨fun q => by rw [q]; rfl, fun q => Int32.toInt_inj.mp q⟩; rw [w31, v31] at q31; have w36 : r_36 = 1 ↔ r_36.toInt = 1 := ⟨fun q => by rw [q]; rfl, fun q => Int32.toInt_inj.mp q⟩; have v36 : r_36 = 0 ↔ r_36.toInt = 0 := ⟨fun q => by rw [q]; rfl, fun q => Int32.toInt_inj.mp q⟩; rw [w36, v36] at q36; have := i32_0; have := i32_1; have := i32_2; have := i32_m1; have := (h_30).1; have := (h_30).2; have := (h_29).1; have := (h_29).2; have := (h_35).1; have := (h_35).2; have := (h_34).1; have := (h_34).2; have := (h_38).1; have := (h_38).2; omega })) _ _ _ hP hD hS (lv_sub hl [0, 1, 2, 3] rfl)
      · have h_39 : iv 0 15 f := zTyp_t (by rw [← fr_36]; exact c_37)
        have h_40 : iv 1 1 r_36 := iv_neL c_37 hr_36 (by decide)
        refine lv_aload_n hx hb dX13_setter_26 rfl (lv_at hl 0 rfl) ?_
        refine mr_get (v := .ref (ad 10)) hx hb htb inX13 hown hK hP 10 (by decide) (htb _ kw_169) rfl dX13_setter_27 ?_
        refine lv_iload_n hx hb dX13_setter_30 rfl (lv_at hl 1 rfl) ?_
        refine mr_iald hx hb hK hP 9 (k := 10) rfl rfl rfl (show vp_in a 8 from (iv_in h_29 (by decide))) dX13_setter_31 ?_
        refine lv_topi (fun z_41 ez_41 => ?_)
        have hz_41 : iv 0 8 z_41 := iv_of ez_41 (MI_a hI_sg_25 10 h_29 (by decide))
        refine lv_bipush (v := 8) hx hb dX13_setter_32 (by decide) ?_
        refine lv_icmp_ne (tgt := 39) hx hb dX13_setter_34 (by decide) (fun c_42 => ?_) (fun c_42 => ?_)
        · have h_43 : iv 0 7 z_41 := iv_neH c_42 hz_41 (by decide)
          refine lv_iconst (v := 0) hx hb dX13_setter_39 (by decide) ?_
          refine lv_istore (lv' := [(4, .int 0), (0, .ref h0), (1, .int a), (2, .int b), (3, .int f)]) hx hb dX13_setter_40 hl (by decide) rfl (fun ls hl => ?_)
          exact hj42 _ sg_25 0 rfl (iv_w (iv_k (by decide) : iv 0 0 0) (by decide)) h_29 h_34 h_39 (KS_up KS_rf esg_25 (by decide)) hI_sg_25 (by rw [← ez_41]; exact (h_43).2) (by { have q26 := zCls_g (a := a); rw [← fr_26] at q26; have q31 := zLet_f (a := b); rw [← fr_31] at q31; have q36 := zTyp_f (a := f); rw [← fr_36] at q36; have w26 : r_26 = 1 ↔ r_26.toInt = 1 := ⟨fun q => by rw [q]; rfl, fun q => Int32.toInt_inj.mp q⟩; have v26 : r_26 = 0 ↔ r_26.toInt = 0 := ⟨fun q => by rw [q]; rfl, fun q => Int32.toInt_inj.mp q⟩; rw [w26, v26] at q26; have w31 : r_31 = 1 ↔ r_31.toInt = 1 := ⟨fun q => by rw [q]; rfl, fun q => Int32.toInt_inj.mp q⟩; have v31 : r_31 = 0 ↔ r_31.toInt = 0 := ⟨fun q => by rw [q]; rfl, fun q => Int32.toInt_inj.mp q⟩; rw [w31, v31] at q31; have w36 : r_36 = 1 ↔ r_36.toInt = 1 := ⟨fun q => by rw [q]; rfl, fun q => Int32.toInt_inj.mp q⟩; have v36 : r_36 = 0 ↔ r_36.toInt = 0 := ⟨fun q => by rw [q]; rfl, fun q => Int32.toInt_inj.mp q⟩; rw [w36, v36] at q36; have := i32_0; have := i32_1; have := i32_2; have := i32_m1; have := (h_30).1; have := (h_30).2; have := (h_29).1; have := (h_29).2; have := (h_35).1; have := (h_35).2; have := (h_34).1; have := (h_34).2; have := (h_40).1; have := (h_40).2; have := (h_39).1; have := (h_39).2; have := (h_43).1; have := (h_43).2; omega }) ((fun k hk => absurd hk (by { rw [cl_z]; omega }))) _ _ _ hP hD hS (lv_sub hl [0, 1, 2, 3, 4] rfl)
        · have h_44 : iv 8 8 z_41 := iv_eq c_42 hz_41 (iv_k (by decide) : iv 8 8 8) (by decide)
          exact hj37 sg_25 (KS_up KS_rf esg_25 (by decide)) hI_sg_25 (Or.inr (by { rw [← ez_41]; have := i32_0; have := i32_1; have := i32_2; have := i32_m1; have := (h_30).1; have := (h_30).2; have := (h_29).1; have := (h_29).2; have := (h_35).1; have := (h_35).2; have := (h_34).1; have := (h_34).2; have := (h_40).1; have := (h_40).2; have := (h_39).1; have := (h_39).2; have := (h_44).1; have := (h_44).2; omega })) _ _ _ hP hD hS (lv_sub hl [0, 1, 2, 3] rfl)
