theorem DLV_2 {sg : Nat → Int32} {gm gm2 : Nat → Nat → Int32} (h : DLV sg gm gm2) (hp : (gm 65 (TOPn sg)).toInt ≤ 2) : gm2 67 = gm 67 := by
  rcases h with ⟨_, q⟩ | ⟨q, _⟩
  · exact q
  · omega
theorem FRv_p {sg : Nat → Int32} {gm : Nat → Nat → Int32} {lg : Nat → Nat → Int64} {b p9 p2 ix it ob : Int32} {w w2 : Int} (h : FRv sg gm lg b p9 ix it ob w) (hp : p9.toInt ≤ 2) (hq : p2.toInt ≤ 2) : FRv sg gm lg b p2 ix it ob w2 := ⟨fun z => by omega, fun _ => h.2.1 hp, fun z => by omega, fun z => by omega⟩
theorem tlt81 {sg : Nat → Int32} {gm : Nat → Nat → Int32} (hI : MI sg gm) : TOPn sg < 81 := by
  have := (show iv 0 80 (sg 63) from MI_s hI 63).2
  have := (show iv 0 80 (sg 63) from MI_s hI 63).1
  have := cl_0 (x := sg 63) (by omega)
  unfold TOPn; omega
section ST
variable {sg sg1 sg2 : Nat → Int32} {gm gm1 gm2 : Nat → Nat → Int32} {lg lg2 : Nat → Nat → Int64} {p2 b : Int32} {t : Nat}
theorem ST_ph (hI : MI sg gm) (hd : DOC sg gm lg) (hi : INVp sg gm lg) (h1 : 1 ≤ (sg 63).toInt) (h : DK sg gm lg sg2 gm2 lg2) (h44 : gm2 44 = gm 44) (h45 : gm2 45 = gm 45) (hl1 : lg2 1 = lg 1) (ho : gm2 60 = gm 60) (h63 : sg2 63 = sg 63) (h62 : gm2 62 = gm 62) (h64 : gm2 64 = gm 64) (h65 : gm2 65 = upd (gm 65) t p2) (ht : t = TOPn sg) (h66 : gm2 66 = gm 66) (h67 : gm2 67 = gm 67) (h69 : gm2 69 = gm 69) (hp : (gm 65 (TOPn sg)).toInt ≤ 2) (hq : p2.toInt = (gm 65 (TOPn sg)).toInt + 1) : STEP sg gm sg2 gm2 lg2 := by
  subst ht
  have tl := tlt81 hI
  have w4 := show iv 0 4 (gm 65 (TOPn sg)) from hI.2 65 _ tl
  have w26 := show iv 0 26 (gm 66 (TOPn sg)) from hI.2 66 _ tl
  have w6 := show iv 0 6 (gm 67 (TOPn sg)) from hI.2 67 _ tl
  have e65 : gm2 65 (TOPn sg) = p2 := by rw [h65, upd_at]
  have mb := PIL_top hi.1.1 h1
  have hf := hi.1.2.2.resolve_left (by omega)
  have hf2 := hf.2.1 hp
  refine ST_top hi h1 h h44 h45 hl1 (fun k hk => by rw [ho]; exact hk) h63 h62 h64 (fun j hj => by rw [h65, upd_ne hj]) (fun j _ => by rw [h66]) (fun j _ => by rw [h67]) (fun j _ => by rw [h69]) ?_ ?_
  · rw [e65, h66, h67, h69]
    refine FRv_k h h44 h45 hl1 (fun k hk => by rw [ho]; exact hk) ?_
    by_cases q : p2.toInt ≤ 2
    · exact FRv_p hf hp q
    · have hx0 : (gm 66 (TOPn sg)).toNatClampNeg = 0 := by have := cl_0 (x := gm 66 (TOPn sg)) (by omega); omega
      refine ⟨fun _ => ?_, fun z => absurd z q, fun _ => ?_, fun z => by omega⟩
      · have := LM_nn (p9 := p2) hI hd mb.2.1 mb.2.2 (show 0 ≤ (gm 66 (TOPn sg)).toInt by omega)
        omega
      · rw [hx0]; exact fun k _ hk => absurd hk (Nat.not_lt_zero _)
  · rw [e65, h66, h67]
    exact vF_p w4 hq (by omega) w26 w6 hf2.1
theorem ST_phP (hI : MI sg gm) (hi : INVp sg gm lg) (h1 : 1 ≤ (sg 63).toInt) (h : DK sg gm lg sg2 gm2 lg2) (h44 : gm2 44 = gm 44) (h45 : gm2 45 = gm 45) (hl1 : lg2 1 = lg 1) (ho : gm2 60 = gm 60) (x63 : sg1 63 = sg 63) (x41 : sg1 41 = sg 41) (x62 : gm1 62 = gm 62) (x64 : gm1 64 = gm 64) (x65 : gm1 65 = upd (gm 65) t p2) (ht : t = TOPn sg) (x66 : gm1 66 = gm 66) (x67 : gm1 67 = gm 67) (x69 : gm1 69 = gm 69) (hp : (gm 65 (TOPn sg)).toInt ≤ 2) (hq : p2.toInt = (gm 65 (TOPn sg)).toInt + 1) (hq2 : p2.toInt ≤ 2) (hP : PUSH sg1 gm1 (gm1 67) sg2 gm2 b) : STEP sg gm sg2 gm2 lg2 := by
  subst ht
  have tl := tlt81 hI
  have w4 := show iv 0 4 (gm 65 (TOPn sg)) from hI.2 65 _ tl
  have w26 := show iv 0 26 (gm 66 (TOPn sg)) from hI.2 66 _ tl
  have w6 := show iv 0 6 (gm 67 (TOPn sg)) from hI.2 67 _ tl
  have hf := hi.1.2.2.resolve_left (by omega)
  have hf2 := hf.2.1 hp
  unfold PUSH at hP
  rw [x63, x41, x62, x64, x65, x66, x67, x69] at hP
  obtain ⟨a1, a2, a3, a4, a5, a6, a7, a8, a9, a10, a11, _⟩ := hP
  refine ST_push hi h1 h h44 h45 hl1 (fun k hk => by rw [ho]; exact hk) a1 a2 a3 a4 a5 a6 a7 a8 a9 a10 a11 (fun j hj => upd_ne hj) (fun _ _ => rfl) ?_ ?_ ?_
  · rw [upd_at]; exact FRv_p hf hp hq2
  · rw [upd_at]; have := w4.1; omega
  · rw [upd_at, vF_w2 hq2 (by have := w4.1; omega)]
    exact vF_p w4 hq (by omega) w26 w6 hf2.1
/-- a value is worked out, then the next one's turn comes, or another bean is put on top -/
theorem ST_wo {r : Int32} {lim : Int} (hI : MI sg gm) (hd : DOC sg gm lg) (hi : INVp sg gm lg) (h1 : 1 ≤ (sg 63).toInt) (h : DK sg gm lg sg2 gm2 lg2) (h44 : gm2 44 = gm 44) (h45 : gm2 45 = gm 45) (hl1 : lg2 1 = lg 1) (ho : gm2 60 = gm 60) (hw : WOUT sg gm lim sg1 gm1 r) (hlim : lim = LM sg gm lg (gm 64 (TOPn sg)) (gm 65 (TOPn sg)) (gm 66 (TOPn sg))) (hp : 3 ≤ (gm 65 (TOPn sg)).toInt) (ht : t = TOPn sg)
    (x63 : sg2 63 = sg1 63) (x62 : gm2 62 = gm1 62) (x64 : gm2 64 = gm1 64) (x65 : gm2 65 = gm1 65) (x69 : gm2 69 = gm1 69) (x51 : 1 ≤ (sg1 51).toInt → 1 ≤ (sg2 51).toInt)
    (hn : (r.toInt = 0 ∧ gm2 66 = gm1 66 ∧ gm2 67 = gm1 67) ∨ (r.toInt = 1 ∧ gm2 67 = upd (gm1 67) t 0 ∧ ∃ v, gm2 66 = upd (gm1 66) t v ∧ v.toInt = (gm1 66 t).toInt + 1)) (h25 : (gm 66 (TOPn sg)).toInt ≤ 25)
    (h3 : (gm 65 (TOPn sg)).toInt = 3 → ¬ mArg sg gm lg (gm 64 (TOPn sg)) (gm 66 (TOPn sg)).toNatClampNeg = -1) (h4 : (gm 65 (TOPn sg)).toInt = 4 → (gm 66 (TOPn sg)).toInt < (gm 44 (gm 64 (TOPn sg)).toNatClampNeg).toInt) : 1 ≤ (sg2 51).toInt ∨ STEP sg gm sg2 gm2 lg2 := by
  subst ht
  have tl := tlt81 hI
  have w4 := show iv 0 4 (gm 65 (TOPn sg)) from hI.2 65 _ tl
  have w26 := show iv 0 26 (gm 66 (TOPn sg)) from hI.2 66 _ tl
  have w6 := show iv 0 6 (gm 67 (TOPn sg)) from hI.2 67 _ tl
  have hf := hi.1.2.2.resolve_left (by omega)
  have mb := PIL_top hi.1.1 h1
  rcases hw with ⟨hr, hs⟩ | ⟨hr, hw⟩
  · obtain ⟨s63, s62, s64, s65, s66, s68, s69, s51, s67⟩ := hs
    obtain ⟨q1, q2, v, q3, q4⟩ := hn.resolve_left (fun q => by omega)
    rw [s66] at q3 q4
    have e66 : gm2 66 (TOPn sg) = v := by rw [q3, upd_at]
    have e67 : gm2 67 (TOPn sg) = 0 := by rw [q2, upd_at]
    have kv := cl_0 (x := v) (by have := w26.1; omega)
    have kx := iv_cl w26 (by decide)
    refine Or.inr (ST_top hi h1 h h44 h45 hl1 (fun k hk => by rw [ho]; exact hk) (x63.trans s63) (x62.trans s62) (x64.trans s64) (fun j _ => by rw [x65, s65]) (fun j hj => by rw [q3, upd_ne hj]) (fun j hj => by rw [q2, upd_ne hj, s67 j hj]) (fun j _ => by rw [x69, s69]) ?_ ?_)
    · rw [e66, e67, x65, s65, x69, s69]
      refine FRv_k h h44 h45 hl1 (fun k hk => by rw [ho]; exact hk) ⟨fun _ => ?_, fun z => by omega, fun z => ?_, fun z => ?_⟩
      · exact LM_nn hI hd mb.2.1 mb.2.2 (by have := w26.1; omega)
      · intro k k0 hk
        by_cases q : k = (gm 66 (TOPn sg)).toNatClampNeg
        · rw [q]; exact h3 z
        · exact hf.2.2.1 z k k0 (by omega)
      · have := hf.2.2.2 z
        exact ⟨by have := h4 z; omega, this.2.1, this.2.2⟩
    · rw [e66, e67, x65, s65]
      exact vF_n w4 w26 q4 (by omega) w6 rfl
  · obtain ⟨q1, q2, q3⟩ := hn.resolve_right (fun q => by omega)
    rcases hw with hw | ⟨b, g67, hP, g1, g2, g3⟩
    · exact Or.inl (x51 hw)
    · obtain ⟨a1, a2, a3, a4, a5, a6, a7, a8, a9, a10, a11, _⟩ := hP
      refine Or.inr (ST_push hi h1 h h44 h45 hl1 (fun k hk => by rw [ho]; exact hk) (by rw [x63]; exact a1) a2 (x64.trans a3) (x65.trans a4) (q2.trans a5) (q3.trans a6) (x69.trans a7) (x62.trans a8) a9 a10 a11 (fun _ _ => rfl) g1 ?_ (by omega) ?_)
      · exact ⟨fun _ => by rw [← hlim]; omega, fun z => by omega, hf.2.2.1, hf.2.2.2⟩
      · exact vF_i w4 hp w26 w6 g2
/-- the object is made: now the setters' turn comes -/
theorem ST_mk {v4 v0 : Int32} (hI : MI sg gm) (hd : DOC sg gm lg) (hi : INVp sg gm lg) (h1 : 1 ≤ (sg 63).toInt) (h : DK sg gm lg sg2 gm2 lg2) (h44 : gm2 44 = gm 44) (h45 : gm2 45 = gm 45) (hl1 : lg2 1 = lg 1) (hM : MKO sg gm lg (gm 64 (TOPn sg)) gm2) (h63 : sg2 63 = sg 63) (h62 : gm2 62 = gm 62) (h64 : gm2 64 = gm 64) (h65 : gm2 65 = upd (gm 65) t v4) (h66 : gm2 66 = upd (gm 66) t v0) (e4 : v4.toInt = 4) (e0 : v0.toInt = 0) (ht : t = TOPn sg) (h67 : gm2 67 = gm 67) (hp : (gm 65 (TOPn sg)).toInt = 3) (ha : mArg sg gm lg (gm 64 (TOPn sg)) (gm 66 (TOPn sg)).toNatClampNeg = -1) : STEP sg gm sg2 gm2 lg2 := by
  subst ht
  have tl := tlt81 hI
  have w4 := show iv 0 4 (gm 65 (TOPn sg)) from hI.2 65 _ tl
  have w26 := show iv 0 26 (gm 66 (TOPn sg)) from hI.2 66 _ tl
  have w6 := show iv 0 6 (gm 67 (TOPn sg)) from hI.2 67 _ tl
  have hf := hi.1.2.2.resolve_left (by omega)
  have mb := PIL_top hi.1.1 h1
  have e65 : gm2 65 (TOPn sg) = v4 := by rw [h65, upd_at]
  have e66 : gm2 66 (TOPn sg) = v0 := by rw [h66, upd_at]
  have hit := hf.1 (Or.inl hp)
  unfold LM at hit
  rw [if_pos hp, if_pos ha] at hit
  have kb := iv_cl mb.2.1 (by decide)
  have hb2 := mb.2.1.2
  refine ST_top hi h1 h h44 h45 hl1 hM.2.2.2 h63 h62 h64 (fun j hj => by rw [h65, upd_ne hj]) (fun j hj => by rw [h66, upd_ne hj]) (fun j _ => by rw [h67]) hM.2.2.1 ?_ ?_
  · rw [e65, e66, h67]
    refine ⟨fun _ => ?_, fun z => by omega, fun z => by omega, fun _ => ⟨?_, hM.1, fun z => hM.2.1 ?_⟩⟩
    · rw [LM_k h h44 h45]
      have := LM_nn (p9 := v4) (ix := v0) hI hd mb.2.1 mb.2.2 (by omega)
      omega
    · rw [h44]; have := (show iv 0 26 (gm 44 (gm 64 (TOPn sg)).toNatClampNeg) from hI.2 44 _ (show _ < 80 by omega)).1; omega
    · rw [mMny_k h hl1] at z; exact z
  · rw [e65, e66, h67]
    exact vF_p w4 (by omega) (by omega) w26 w6 e0
end ST
/-- the first one on an empty pile -/
theorem INVp_0 {sg : Nat → Int32} {gm : Nat → Nat → Int32} {lg : Nat → Nat → Int64} (h : (sg 63).toInt = 0) : INVp sg gm lg := by
  have k1 := cl_0 (x := sg 63) (by omega)
  exact ⟨⟨fun j hj => by omega, fun j hj => by omega, Or.inl h⟩, fun j hj => by omega⟩
theorem INVp_1 {sg sg2 : Nat → Int32} {gm gm2 : Nat → Nat → Int32} {lg2 : Nat → Nat → Int64} {g67 : Nat → Int32} {b : Int32} (h : (sg 63).toInt = 0) (h41 : sg2 41 = sg 41) (hP : PUSH sg gm g67 sg2 gm2 b) : INVp sg2 gm2 lg2 := by
  obtain ⟨a1, a2, a3, a4, a5, a6, a7, a8, a9, a10, a11, _⟩ := hP
  have k1 := cl_0 (x := sg 63) (by omega)
  have k2 := cl_0 (x := sg2 63) (by omega)
  have z0 : (sg 63).toNatClampNeg = 0 := by omega
  rw [z0] at a3 a4 a5 a6 a7
  have e1 : TOPn sg2 = 0 := by unfold TOPn; omega
  refine ⟨⟨fun j hj => ?_, fun j hj => by omega, Or.inr ?_⟩, fun j hj => by omega⟩
  · have : j = 0 := by omega
    subst this
    rw [show gm2 64 0 = b by rw [a3, upd_at], h41]
    exact ⟨by rw [a8, upd_at]; decide, a10, a11, fun i hi => absurd hi (Nat.not_lt_zero _)⟩
  · rw [e1]
    unfold FR
    rw [show gm2 65 0 = 0 by rw [a4, upd_at], show gm2 66 0 = 0 by rw [a5, upd_at], show gm2 67 0 = 0 by rw [a6, upd_at]]
    exact ⟨fun z => absurd z (by decide), fun _ => ⟨rfl, rfl⟩, fun z => absurd z (by decide), fun z => absurd z (by decide)⟩
def muR (sg : Nat → Int32) (gm : Nat → Nat → Int32) : Nat := if 1 ≤ (sg 51).toInt then 0 else mu sg gm + 1
theorem muR_lt {sg sg2 : Nat → Int32} {gm gm2 : Nat → Nat → Int32} {lg2 : Nat → Nat → Int64} (h0 : (sg 51).toInt = 0) (h : 1 ≤ (sg2 51).toInt ∨ STEP sg gm sg2 gm2 lg2) : muR sg2 gm2 < muR sg gm := by
  unfold muR
  rw [if_neg (show ¬ 1 ≤ (sg 51).toInt by omega)]
  by_cases q : 1 ≤ (sg2 51).toInt
  · rw [if_pos q]; omega
  · rw [if_neg q]
    have := (h.resolve_left q).2
    omega
theorem FR_30 {sg : Nat → Int32} {gm : Nat → Nat → Int32} {lg : Nat → Nat → Int64} {b p9 ix it ob r : Int32} (h : FRv sg gm lg b p9 ix it ob 0) (hp : p9.toInt = 3) (hr : r = mArg sg gm lg b ix.toNatClampNeg) (hne : ¬ r = -1) : it.toInt ≤ LIM sg gm r ∧ LM sg gm lg b p9 ix = LIM sg gm r := by
  have e : LM sg gm lg b p9 ix = LIM sg gm r := by unfold LM; rw [if_pos hp, if_neg (by rw [← hr]; exact hne), ← hr]
  have := h.1 (Or.inl hp)
  rw [e] at this
  exact ⟨by omega, e⟩
theorem FR_40 {sg : Nat → Int32} {gm : Nat → Nat → Int32} {lg : Nat → Nat → Int64} {b p9 ix it ob r : Int32} (h : FRv sg gm lg b p9 ix it ob 0) (hp : p9.toInt = 4) (hx : ix.toInt < (gm 44 b.toNatClampNeg).toInt) (hr : r = gm 45 (26 * b.toNatClampNeg + ix.toNatClampNeg)) : it.toInt ≤ LIM sg gm r ∧ LM sg gm lg b p9 ix = LIM sg gm r := by
  have e : LM sg gm lg b p9 ix = LIM sg gm r := by unfold LM; rw [if_neg (by omega), if_pos hx, ← hr]
  have := h.1 (Or.inr hp)
  rw [e] at this
  exact ⟨by omega, e⟩
/-- behind workedOut, and what happened since that leaves the pile alone -/
def WOX (sg : Nat → Int32) (gm : Nat → Nat → Int32) (lim : Int) (sg3 : Nat → Int32) (gm3 : Nat → Nat → Int32) (r : Int32) : Prop := ∃ sg1 gm1, WOUT sg gm lim sg1 gm1 r ∧ sg3 63 = sg1 63 ∧ gm3 62 = gm1 62 ∧ gm3 64 = gm1 64 ∧ gm3 65 = gm1 65 ∧ gm3 66 = gm1 66 ∧ gm3 67 = gm1 67 ∧ gm3 69 = gm1 69 ∧ (1 ≤ (sg1 51).toInt → 1 ≤ (sg3 51).toInt)
theorem WOX_0 {sg sg1 : Nat → Int32} {gm gm1 : Nat → Nat → Int32} {lim : Int} {r : Int32} (h : WOUT sg gm lim sg1 gm1 r) : WOX sg gm lim sg1 gm1 r := ⟨sg1, gm1, h, rfl, rfl, rfl, rfl, rfl, rfl, rfl, id⟩
theorem WOX_s {sg sg1 sg3 : Nat → Int32} {gm gm1 gm3 : Nat → Nat → Int32} {lim : Int} {r : Int32} (h0 : (sg 51).toInt = 0) (h : WOUT sg gm lim sg1 gm1 r) (hr : ¬ r = 0) (a1 : sg3 63 = sg1 63) (a2 : gm3 62 = gm1 62) (a3 : gm3 64 = gm1 64) (a4 : gm3 65 = gm1 65) (a5 : gm3 66 = gm1 66) (a6 : gm3 67 = gm1 67) (a7 : gm3 69 = gm1 69) : WOX sg gm lim sg3 gm3 r := by
  refine ⟨sg1, gm1, h, a1, a2, a3, a4, a5, a6, a7, fun q => ?_⟩
  rcases h with ⟨_, hs⟩ | ⟨q2, _⟩
  · rw [hs.2.2.2.2.2.2.2.1, h0] at q; exact absurd q (by decide)
  · exact absurd (Int32.toInt_inj.mp q2) hr
theorem WOUT_1 {sg sg1 : Nat → Int32} {gm gm1 : Nat → Nat → Int32} {lim : Int} {r : Int32} (h : WOUT sg gm lim sg1 gm1 r) (hr : ¬ r = 0) : SAMEQ sg gm sg1 gm1 := by
  rcases h with ⟨_, hs⟩ | ⟨q2, _⟩
  · exact hs
  · exact absurd (Int32.toInt_inj.mp q2) hr
theorem ST_wox {sg sg3 sg2 : Nat → Int32} {gm gm3 gm2 : Nat → Nat → Int32} {lg lg2 : Nat → Nat → Int64} {t : Nat} {r : Int32} {lim : Int} (hI : MI sg gm) (hd : DOC sg gm lg) (hi : INVp sg gm lg) (h1 : 1 ≤ (sg 63).toInt) (h : DK sg gm lg sg2 gm2 lg2) (h44 : gm2 44 = gm 44) (h45 : gm2 45 = gm 45) (hl1 : lg2 1 = lg 1) (ho : gm2 60 = gm 60) (hw : WOX sg gm lim sg3 gm3 r) (hlim : LM sg gm lg (gm 64 (TOPn sg)) (gm 65 (TOPn sg)) (gm 66 (TOPn sg)) = lim) (hp : 3 ≤ (gm 65 (TOPn sg)).toInt) (ht : t = TOPn sg)
    (x63 : sg2 63 = sg3 63) (x62 : gm2 62 = gm3 62) (x64 : gm2 64 = gm3 64) (x65 : gm2 65 = gm3 65) (x69 : gm2 69 = gm3 69) (x51 : sg2 51 = sg3 51)
    (hn : (r.toInt = 0 ∧ gm2 66 = gm3 66 ∧ gm2 67 = gm3 67) ∨ (r.toInt = 1 ∧ gm2 67 = upd (gm3 67) t 0 ∧ ∃ v, gm2 66 = upd (gm3 66) t v ∧ v.toInt = (gm3 66 t).toInt + 1)) (h25 : (gm 66 (TOPn sg)).toInt ≤ 25)
    (h3 : (gm 65 (TOPn sg)).toInt = 3 → ¬ mArg sg gm lg (gm 64 (TOPn sg)) (gm 66 (TOPn sg)).toNatClampNeg = -1) (h4 : (gm 65 (TOPn sg)).toInt = 4 → (gm 66 (TOPn sg)).toInt < (gm 44 (gm 64 (TOPn sg)).toNatClampNeg).toInt) : 1 ≤ (sg2 51).toInt ∨ STEP sg gm sg2 gm2 lg2 := by
  obtain ⟨sg1, gm1, a0, a1, a2, a3, a4, a5, a6, a7, a8⟩ := hw
  rw [a5, a6] at hn
  exact ST_wo hI hd hi h1 h h44 h45 hl1 ho a0 hlim.symm hp ht (x63.trans a1) (x62.trans a2) (x64.trans a3) (x65.trans a4) (x69.trans a7) (fun q => by rw [x51]; exact a8 q) hn h25 h3 h4

set_option maxHeartbeats 4000000 in
set_option maxRecDepth 100000 in
theorem f_step (l : Launch) (dC : Nat → ClassId) (dI : Nat → Nat → Nat) (h0 : Nat) (ad : Nat → Nat) (cid : Nat → ClassId) (sg : Nat → Int32) (gm : Nat → Nat → Int32) (lg : Nat → Nat → Int64) (hI : MI sg gm) (hdoc : DOC sg gm lg) (hgi : GI0 sg gm lg) (hPR : PR gm) (hmo : MO sg gm) (hh1 : 1 ≤ (sg 63).toInt) (hinv : INVp sg gm lg) (hf0 : (sg 51).toInt = 0) : MMv l dC dI yX13_step wm_X13_step ({ frames := 10, cells := 0, slots := 0, locals := 254 }) h0 ad cid [] sg gm lg (fun v => ∃ (sg2 : Nat → Int32) (gm2 : Nat → Nat → Int32) (lg2 : Nat → Nat → Int64), v = (sg2, gm2, lg2) ∧ MI sg2 gm2 ∧ KS [48, 49, 50, 51, 52, 63, 74] sg sg2 ∧ KS [53, 54, 55, 56, 57, 58, 59, 60, 61, 62, 64, 65, 66, 67, 68, 69, 70, 71, 72, 73, 75] gm gm2 ∧ KS [] lg lg2 ∧ (GI0 sg2 gm2 lg2) ∧ (MO sg2 gm2) ∧ (1 ≤ (sg2 51).toInt ∨ STEP sg gm sg2 gm2 lg2)) := by
  intro sz
  refine Met.ofW (cc := cX13_step) (maxL := 4) (ret := none) (by decide) rfl ?_
  intro p e s m args below meth c s₁ B hml hv
  obtain ⟨rfl, hsz, hP, hK, hD0⟩ := hv
  have hx := B.exec
  have hb := B.bytes
  have hr := B.returns
  have hts := atoms_spec (ws := wm_X13_step) B.pre
  have htb := fun (w : Cond) (h : w ∈ tb) => hts w (List.mem_cons_of_mem _ h)
  have hown : s.vm.findClass RX13 = some m.cls := findClass_of_methodNamed B.named
  have hlocks := B.notSynchronized
  subst hsz
  have hD := hD0.self (sz := s.heap.size)
  generalize hAe : va_A (mW h0 ad cid sg gm lg) s.heap.size = A at hD ⊢
  have hA : ∀ q : Nat, s.heap.size ≤ q → A q := fun q h => by rw [← hAe]; exact Or.inr h
  have hS : va_S A s.heap s.heap [] := va_S.rf
  have hl := lv_entry ([.ref h0]) (n := 4) (Nat.le_of_ble_eq_true rfl)
  rw [lg_entry_eq]
  generalize (lg_sl ([.ref h0]) ++ List.replicate (4 - (lg_sl ([.ref h0])).length) Slot.unset).toArray = ls at hl ⊢
  have hl : lv_has ls 4 [(0, .ref h0)] := hl
  have h63 : iv 1 80 (sg 63) := ⟨hh1, (show iv 0 80 (sg 63) from MI_s hI 63).2⟩
  have hpi := hinv.1.1
  have hpt := PIL_top hpi hh1
  have hfr0 := hinv.1.2.2.resolve_left (by omega)
  have tl := tlt81 hI
  have hj349 : ∀ (sg_j349 : Nat → Int32) (gm_j349 : Nat → Nat → Int32) (x2_349 : Int32) (x1_349 : Int32) (_ : iv 0 79 x2_349) (_ : iv 0 79 x1_349) (_ : KS [48, 49, 50, 51, 52, 63, 74] sg sg_j349) (_ : KS [53, 54, 55, 56, 57, 58, 59, 60, 61, 62, 64, 65, 66, 67, 68, 69, 70, 71, 72, 73, 75] gm gm_j349) (_ : MI sg_j349 gm_j349) (_ : GI0 sg_j349 gm_j349 lg) (_ : MO sg_j349 gm_j349) (_ : 1 ≤ (sg_j349 51).toInt ∨ STEP sg gm sg_j349 gm_j349 lg) (H : Heap) (locs : List Loc) (ls : Array Slot), va_P (dC, dI) vwCl (mW h0 ad cid sg_j349 gm_j349 lg) H → va_D A (mW h0 ad cid sg_j349 gm_j349 lg) → va_S A s.heap H locs → lv_has ls 4 [(2, .int x2_349), (1, .int x1_349), (0, .ref h0)] → W p l e (headSpec wm_X13_step ({ frames := 10, cells := 0, slots := 0, locals := 254 })).room s m ([.ref h0] : List Value).toArray below meth c H locs 0 0 (MQ below (va_Qv (fun v => ∃ (sg2 : Nat → Int32) (gm2 : Nat → Nat → Int32) (lg2 : Nat → Nat → Int64), v = (sg2, gm2, lg2) ∧ MI sg2 gm2 ∧ KS [48, 49, 50, 51, 52, 63, 74] sg sg2 ∧ KS [53, 54, 55, 56, 57, 58, 59, 60, 61, 62, 64, 65, 66, 67, 68, 69, 70, 71, 72, 73, 75] gm gm2 ∧ KS [] lg lg2 ∧ (GI0 sg2 gm2 lg2) ∧ (MO sg2 gm2) ∧ (1 ≤ (sg2 51).toInt ∨ STEP sg gm sg2 gm2 lg2)) (MB dC dI h0 ad cid A) A) ([.ref h0] : List Value).toArray s 0 0 A) (F0 m 349 ls []) := by
    intro sg_j349 gm_j349 x2_349 x1_349 hx2_349 hx1_349 hks_j349 hkg_j349 hI_j349 hgi hmo hST H locs ls hP hD hS hl
    exact W.vret hx hb hr (fun t ht hW => ⟨⟨(sg_j349, gm_j349, lg), rfl, ⟨sg_j349, gm_j349, lg, rfl, hI_j349, (KS_tr (L := [48, 49, 50, 51, 52, 63, 74]) KS_rf hks_j349 (by decide)), (KS_tr (L := [53, 54, 55, 56, 57, 58, 59, 60, 61, 62, 64, 65, 66, 67, 68, 69, 70, 71, 72, 73, 75]) KS_rf hkg_j349 (by decide)), KS_rf, (hgi), (hmo), (hST)⟩, by rw [ht]; exact hP, va_K.moved hW.alike hK, hD⟩, hS.F ht⟩) hS.2.2 dX13_step_349
  have hj135 : ∀ (sg_j135 : Nat → Int32) (x2_135 : Int32) (x1_135 : Int32) (_ : iv 0 79 x2_135) (_ : iv 0 79 x1_135) (_ : KS [51, 52] sg sg_j135) (_ : MI sg_j135 gm) (_ : x1_135.toNatClampNeg = TOPn sg) (_ : x2_135 = gm 64 (TOPn sg)) (_ : (gm 65 (TOPn sg)).toInt = 1) (_ : x2_135.toInt < (sg 41).toInt) (H : Heap) (locs : List Loc) (ls : Array Slot), va_P (dC, dI) vwCl (mW h0 ad cid sg_j135 gm lg) H → va_D A (mW h0 ad cid sg_j135 gm lg) → va_S A s.heap H locs → lv_has ls 4 [(2, .int x2_135), (1, .int x1_135), (0, .ref h0)] → W p l e (headSpec wm_X13_step ({ frames := 10, cells := 0, slots := 0, locals := 254 })).room s m ([.ref h0] : List Value).toArray below meth c H locs 0 0 (MQ below (va_Qv (fun v => ∃ (sg2 : Nat → Int32) (gm2 : Nat → Nat → Int32) (lg2 : Nat → Nat → Int64), v = (sg2, gm2, lg2) ∧ MI sg2 gm2 ∧ KS [48, 49, 50, 51, 52, 63, 74] sg sg2 ∧ KS [53, 54, 55, 56, 57, 58, 59, 60, 61, 62, 64, 65, 66, 67, 68, 69, 70, 71, 72, 73, 75] gm gm2 ∧ KS [] lg lg2 ∧ (GI0 sg2 gm2 lg2) ∧ (MO sg2 gm2) ∧ (1 ≤ (sg2 51).toInt ∨ STEP sg gm sg2 gm2 lg2)) (MB dC dI h0 ad cid A) A) ([.ref h0] : List Value).toArray s 0 0 A) (F0 m 135 ls []) := by
    intro sg_j135 x2_135 x1_135 hx2_135 hx1_135 hks_j135 hI_j135 htop heb hph9 hbl9 H locs ls hP hD hS hl
    refine lv_aload_n hx hb dX13_step_135 rfl (lv_at hl 2 rfl) ?_
    refine mr_get (v := .ref (ad 65)) hx hb htb inX13 hown hK hP 65 (by decide) (htb _ kw_214) rfl dX13_step_136 ?_
    refine lv_iload_n hx hb dX13_step_139 rfl (lv_at hl 1 rfl) ?_
    refine lv_iconst (v := 2) hx hb dX13_step_140 (by decide) ?_
    refine ma_iast (x := 2) hx hb hK hP hD hS 50 (k := 65) rfl rfl rfl (show vp_in x1_135 81 from (iv_in hx1_135 (by decide))) dX13_step_141 (fun gm_1 H locs egm_1 hP hD hS => ?_)
    have hI_gm_1 := MI_st hI_j135 egm_1 (iv_k (by decide) : iv 2 2 2) (by decide)
    refine lv_aload_n hx hb dX13_step_142 rfl (lv_at hl 2 rfl) ?_
    refine mr_get (v := .int (sg_j135 51)) hx hb htb inX13 hown hK hP 51 (by decide) (htb _ kw_983) rfl dX13_step_143 ?_
    refine lv_if_ne (tgt := 349) hx hb dX13_step_146 (by decide) (fun c_2 => ?_) (fun c_2 => ?_)
    · have h_3 : iv 1 8 (sg_j135 51) := iv_neL c_2 (show iv 0 8 (sg_j135 51) from MI_s hI_j135 51) (by decide)
      exact hj349 sg_j135 gm_1 x2_135 x1_135 hx2_135 hx1_135 (KS_tr (L := [48, 49, 50, 51, 52, 63, 74]) KS_rf hks_j135 (by decide)) (KS_up KS_rf egm_1 (by decide)) hI_gm_1 (GI0_of hgi (show KS [51, 52] sg sg_j135 from (KS_tr (L := [51, 52]) KS_rf hks_j135 (by decide))) (show KS [65] gm gm_1 from (KS_up KS_rf egm_1 (by decide))) (show KS [] lg lg from KS_rf) (by decide) (by decide) (by decide) (by decide) (by decide) (by decide)) (MO_of hmo (show KS [51, 52] sg sg_j135 from (KS_tr (L := [51, 52]) KS_rf hks_j135 (by decide))) (show KS [65] gm gm_1 from (KS_up KS_rf egm_1 (by decide))) (by decide) (by decide)) (Or.inl (by have := i32_0; have := i32_1; have := i32_2; have := i32_m1; have := (show iv 0 8 (sg_j135 51) from MI_s hI_j135 51).1; have := (show iv 0 8 (sg_j135 51) from MI_s hI_j135 51).2; have := (show iv 0 8 (sg 51) from MI_s hI 51).1; have := (show iv 0 8 (sg 51) from MI_s hI 51).2; have := (h63).1; have := (h63).2; have := (hx2_135).1; have := (hx2_135).2; have := (hx1_135).1; have := (hx1_135).2; have := (h_3).1; have := (h_3).2; omega)) _ _ _ hP hD hS (lv_sub hl [0, 1, 2] rfl)
    · have h_4 : iv 0 0 (sg_j135 51) := iv_eq c_2 (show iv 0 8 (sg_j135 51) from MI_s hI_j135 51) (iv_k (by decide) : iv 0 0 0) (by decide)
      refine lv_aload_n hx hb dX13_step_149 rfl (lv_at hl 2 rfl) ?_
      refine lv_iload_n hx hb dX13_step_150 rfl (lv_at hl 0 rfl) ?_
      refine lv_ldc2 (own := RX13) (v := 28817527407604345) hx hb hown (htb _ kw_905) dX13_step_151 ?_
      refine mr_calli (rest := []) ⟨hx, hb, hml, hown, htb⟩ (f_tells l dC dI h0 ad cid sg_j135 gm_1 lg x2_135 28817527407604345 hI_gm_1 (iv_w hx2_135 (by decide)) (by have := i32_0; have := i32_1; have := i32_2; have := i32_m1; have := congrArg Int32.toInt (show sg_j135 41 = sg 41 from hks_j135 41 (by decide)); have := (show iv 0 80 (sg 41) from MI_s hI 41).1; have := (show iv 0 80 (sg 41) from MI_s hI 41).2; have := (h63).1; have := (h63).2; have := (hx2_135).1; have := (hx2_135).2; have := (hx1_135).1; have := (hx1_135).2; have := (h_4).1; have := (h_4).2; omega) ((DOC_of hdoc (show KS [51, 52] sg sg_j135 from (KS_tr (L := [51, 52]) KS_rf hks_j135 (by decide))) (show KS [65] gm gm_1 from (KS_up KS_rf egm_1 (by decide))) (show KS [] lg lg from KS_rf) (by decide) (by decide) (by decide) (by decide)).1.2.2.2)) (cwV 2 htb (gd_V kw_1186 kw_1187 kw_1188 kw_5 kw_1612) rfl rfl rfl (by decide +kernel) ⟨Nat.le_of_ble_eq_true rfl, Nat.le_of_ble_eq_true rfl⟩) rfl hl.1 rfl (Nat.le_of_ble_eq_true rfl) dX13_step_154 ⟨Nat.zero_le _, Nat.zero_le _⟩ hK hP hD hS hA (fun r_5 u_6 H locs hw hP hD hS => ?_)
      obtain ⟨hr_5, fL_r_5, rfl⟩ := hw
      have hP : va_P (dC, dI) vwCl (mW h0 ad cid sg_j135 gm_1 lg) H := hP
      have hD : va_D A (mW h0 ad cid sg_j135 gm_1 lg) := hD
      refine lv_iconst (v := (-1)) hx hb dX13_step_157 (by decide) ?_
      refine lv_icmp_eq (tgt := 349) hx hb dX13_step_158 (by decide) (fun c_7 => ?_) (fun c_7 => ?_)
      · have h_8 : iv (-1) (-1) r_5 := iv_eq c_7 hr_5 (iv_k (by decide) : iv (-1) (-1) (-1)) (by decide)
        exact hj349 sg_j135 gm_1 x2_135 x1_135 hx2_135 hx1_135 (KS_tr (L := [48, 49, 50, 51, 52, 63, 74]) KS_rf hks_j135 (by decide)) (KS_up KS_rf egm_1 (by decide)) hI_gm_1 (GI0_of hgi (show KS [51, 52] sg sg_j135 from (KS_tr (L := [51, 52]) KS_rf hks_j135 (by decide))) (show KS [65] gm gm_1 from (KS_up KS_rf egm_1 (by decide))) (show KS [] lg lg from KS_rf) (by decide) (by decide) (by decide) (by decide) (by decide) (by decide)) (MO_of hmo (show KS [51, 52] sg sg_j135 from (KS_tr (L := [51, 52]) KS_rf hks_j135 (by decide))) (show KS [65] gm gm_1 from (KS_up KS_rf egm_1 (by decide))) (by decide) (by decide)) (Or.inr (ST_ph hI hdoc hinv hh1 (DK_of (show KS [51, 52] sg sg_j135 from (KS_tr (L := [51, 52]) KS_rf hks_j135 (by decide))) (show KS [65] gm gm_1 from (KS_up KS_rf egm_1 (by decide))) (show KS [] lg lg from KS_rf) (by decide) (by decide) (by decide)) (up_ne egm_1 (by decide)) (up_ne egm_1 (by decide)) rfl (up_ne egm_1 (by decide)) (hks_j135 63 (by decide)) (up_ne egm_1 (by decide)) (up_ne egm_1 (by decide)) (show gm_1 65 = upd (gm 65) (x1_135 : Int32).toNatClampNeg 2 from ((up_at egm_1).trans (by rw [show gm 65 = gm 65 from rfl]))) htop (up_ne egm_1 (by decide)) (up_ne egm_1 (by decide)) (up_ne egm_1 (by decide)) (by omega) (by rw [hph9]; rfl))) _ _ _ hP hD hS (lv_sub hl [0, 1, 2] rfl)
      · have h_9 : iv 0 79 r_5 := iv_neL c_7 hr_5 (by decide)
        refine lv_aload_n hx hb dX13_step_161 rfl (lv_at hl 2 rfl) ?_
        refine lv_iload_n hx hb dX13_step_162 rfl (lv_at hl 0 rfl) ?_
        refine lv_ldc2 (own := RX13) (v := 120282512125796) hx hb hown (htb _ kw_906) dX13_step_163 ?_
        refine mr_calli (rest := []) ⟨hx, hb, hml, hown, htb⟩ (f_tells l dC dI h0 ad cid sg_j135 gm_1 lg x2_135 120282512125796 hI_gm_1 (iv_w hx2_135 (by decide)) (by have := i32_0; have := i32_1; have := i32_2; have := i32_m1; have := congrArg Int32.toInt (show sg_j135 41 = sg 41 from hks_j135 41 (by decide)); have := (show iv 0 80 (sg 41) from MI_s hI 41).1; have := (show iv 0 80 (sg 41) from MI_s hI 41).2; have := (h63).1; have := (h63).2; have := (hx2_135).1; have := (hx2_135).2; have := (hx1_135).1; have := (hx1_135).2; have := (h_4).1; have := (h_4).2; have := (h_9).1; have := (h_9).2; omega) ((DOC_of hdoc (show KS [51, 52] sg sg_j135 from (KS_tr (L := [51, 52]) KS_rf hks_j135 (by decide))) (show KS [65] gm gm_1 from (KS_up KS_rf egm_1 (by decide))) (show KS [] lg lg from KS_rf) (by decide) (by decide) (by decide) (by decide)).1.2.2.2)) (cwV 2 htb (gd_V kw_1186 kw_1187 kw_1188 kw_5 kw_1612) rfl rfl rfl (by decide +kernel) ⟨Nat.le_of_ble_eq_true rfl, Nat.le_of_ble_eq_true rfl⟩) rfl hl.1 rfl (Nat.le_of_ble_eq_true rfl) dX13_step_166 ⟨Nat.zero_le _, Nat.zero_le _⟩ hK hP hD hS hA (fun r_10 u_11 H locs hw hP hD hS => ?_)
        obtain ⟨hr_10, fL_r_10, rfl⟩ := hw
        have hP : va_P (dC, dI) vwCl (mW h0 ad cid sg_j135 gm_1 lg) H := hP
        have hD : va_D A (mW h0 ad cid sg_j135 gm_1 lg) := hD
        refine lv_iconst (v := (-1)) hx hb dX13_step_169 (by decide) ?_
        refine lv_icmp_eq (tgt := 349) hx hb dX13_step_170 (by decide) (fun c_12 => ?_) (fun c_12 => ?_)
        · have h_13 : iv (-1) (-1) r_10 := iv_eq c_12 hr_10 (iv_k (by decide) : iv (-1) (-1) (-1)) (by decide)
          exact hj349 sg_j135 gm_1 x2_135 x1_135 hx2_135 hx1_135 (KS_tr (L := [48, 49, 50, 51, 52, 63, 74]) KS_rf hks_j135 (by decide)) (KS_up KS_rf egm_1 (by decide)) hI_gm_1 (GI0_of hgi (show KS [51, 52] sg sg_j135 from (KS_tr (L := [51, 52]) KS_rf hks_j135 (by decide))) (show KS [65] gm gm_1 from (KS_up KS_rf egm_1 (by decide))) (show KS [] lg lg from KS_rf) (by decide) (by decide) (by decide) (by decide) (by decide) (by decide)) (MO_of hmo (show KS [51, 52] sg sg_j135 from (KS_tr (L := [51, 52]) KS_rf hks_j135 (by decide))) (show KS [65] gm gm_1 from (KS_up KS_rf egm_1 (by decide))) (by decide) (by decide)) (Or.inr (ST_ph hI hdoc hinv hh1 (DK_of (show KS [51, 52] sg sg_j135 from (KS_tr (L := [51, 52]) KS_rf hks_j135 (by decide))) (show KS [65] gm gm_1 from (KS_up KS_rf egm_1 (by decide))) (show KS [] lg lg from KS_rf) (by decide) (by decide) (by decide)) (up_ne egm_1 (by decide)) (up_ne egm_1 (by decide)) rfl (up_ne egm_1 (by decide)) (hks_j135 63 (by decide)) (up_ne egm_1 (by decide)) (up_ne egm_1 (by decide)) (show gm_1 65 = upd (gm 65) (x1_135 : Int32).toNatClampNeg 2 from ((up_at egm_1).trans (by rw [show gm 65 = gm 65 from rfl]))) htop (up_ne egm_1 (by decide)) (up_ne egm_1 (by decide)) (up_ne egm_1 (by decide)) (by omega) (by rw [hph9]; rfl))) _ _ _ hP hD hS (lv_sub hl [0, 1, 2] rfl)
        · have h_14 : iv 0 79 r_10 := iv_neL c_12 hr_10 (by decide)
          refine lv_aload_n hx hb dX13_step_173 rfl (lv_at hl 2 rfl) ?_
          refine lv_aload_n hx hb dX13_step_174 rfl (lv_at hl 2 rfl) ?_
          refine lv_aload_n hx hb dX13_step_175 rfl (lv_at hl 2 rfl) ?_
          refine lv_aload_n hx hb dX13_step_176 rfl (lv_at hl 2 rfl) ?_
          refine lv_iload_n hx hb dX13_step_177 rfl (lv_at hl 0 rfl) ?_
          refine lv_ldc2 (own := RX13) (v := 28817527407604345) hx hb hown (htb _ kw_905) dX13_step_178 ?_
          refine mr_calli (rest := [.ref h0, .ref h0, .ref h0]) ⟨hx, hb, hml, hown, htb⟩ (f_tells l dC dI h0 ad cid sg_j135 gm_1 lg x2_135 28817527407604345 hI_gm_1 (iv_w hx2_135 (by decide)) (by have := i32_0; have := i32_1; have := i32_2; have := i32_m1; have := congrArg Int32.toInt (show sg_j135 41 = sg 41 from hks_j135 41 (by decide)); have := (show iv 0 80 (sg 41) from MI_s hI 41).1; have := (show iv 0 80 (sg 41) from MI_s hI 41).2; have := (h63).1; have := (h63).2; have := (hx2_135).1; have := (hx2_135).2; have := (hx1_135).1; have := (hx1_135).2; have := (h_4).1; have := (h_4).2; have := (h_9).1; have := (h_9).2; have := (h_14).1; have := (h_14).2; omega) ((DOC_of hdoc (show KS [51, 52] sg sg_j135 from (KS_tr (L := [51, 52]) KS_rf hks_j135 (by decide))) (show KS [65] gm gm_1 from (KS_up KS_rf egm_1 (by decide))) (show KS [] lg lg from KS_rf) (by decide) (by decide) (by decide) (by decide)).1.2.2.2)) (cwV 2 htb (gd_V kw_1186 kw_1187 kw_1188 kw_5 kw_1612) rfl rfl rfl (by decide +kernel) ⟨Nat.le_of_ble_eq_true rfl, Nat.le_of_ble_eq_true rfl⟩) rfl hl.1 rfl (Nat.le_of_ble_eq_true rfl) dX13_step_181 ⟨Nat.zero_le _, Nat.zero_le _⟩ hK hP hD hS hA (fun r_15 u_16 H locs hw hP hD hS => ?_)
          obtain ⟨hr_15, fL_r_15, rfl⟩ := hw
          have hP : va_P (dC, dI) vwCl (mW h0 ad cid sg_j135 gm_1 lg) H := hP
          have hD : va_D A (mW h0 ad cid sg_j135 gm_1 lg) := hD
          have h184 : iv 0 79 r_15 := iv_neL (b := 79) (by rw [fL_r_15, ← fL_r_5]; exact c_7) hr_15 (by decide)
          refine lv_ldc2 (own := RX13) (v := 28817527407604345) hx hb hown (htb _ kw_905) dX13_step_184 ?_
          refine mr_calll (rest := [.ref h0, .ref h0]) ⟨hx, hb, hml, hown, htb⟩ (f_word l dC dI h0 ad cid sg_j135 gm_1 lg r_15 28817527407604345 hI_gm_1 h184) (cwV 2 htb (gd_V kw_923 kw_924 kw_925 kw_5 kw_1545) rfl rfl rfl (by decide +kernel) ⟨Nat.le_of_ble_eq_true rfl, Nat.le_of_ble_eq_true rfl⟩) rfl hl.1 rfl (Nat.le_of_ble_eq_true rfl) dX13_step_187 ⟨Nat.zero_le _, Nat.zero_le _⟩ hK hP hD hS hA (fun r_17 u_18 H locs hw hP hD hS => ?_)
          obtain ⟨fW_r_17, rfl⟩ := hw
          have hP : va_P (dC, dI) vwCl (mW h0 ad cid sg_j135 gm_1 lg) H := hP
          have hD : va_D A (mW h0 ad cid sg_j135 gm_1 lg) := hD
          refine mr_calli (rest := [.ref h0]) ⟨hx, hb, hml, hown, htb⟩ (f_called l dC dI h0 ad cid sg_j135 gm_1 lg r_17 hI_gm_1) (cwV 1 htb (gd_V kw_1171 kw_1172 kw_1173 kw_5 kw_1607) rfl rfl rfl (by decide +kernel) ⟨Nat.le_of_ble_eq_true rfl, Nat.le_of_ble_eq_true rfl⟩) rfl hl.1 rfl (Nat.le_of_ble_eq_true rfl) dX13_step_190 ⟨Nat.zero_le _, Nat.zero_le _⟩ hK hP hD hS hA (fun r_19 u_20 H locs hw hP hD hS => ?_)
          obtain ⟨hr_19, fLt_r_19, rfl⟩ := hw
          have hP : va_P (dC, dI) vwCl (mW h0 ad cid sg_j135 gm_1 lg) H := hP
          have hD : va_D A (mW h0 ad cid sg_j135 gm_1 lg) := hD
          refine mr_calli (rest := []) ⟨hx, hb, hml, hown, htb⟩ (f_gets l dC dI h0 ad cid sg_j135 gm_1 lg r_19 hI_gm_1 hr_19 fLt_r_19 (GI0_of hgi (show KS [51, 52] sg sg_j135 from (KS_tr (L := [51, 52]) KS_rf hks_j135 (by decide))) (show KS [65] gm gm_1 from (KS_up KS_rf egm_1 (by decide))) (show KS [] lg lg from KS_rf) (by decide) (by decide) (by decide) (by decide) (by decide) (by decide)) (PIL_k (hks_j135 63 (by decide)) (hks_j135 41 (by decide)) (up_ne egm_1 (by decide)) (up_ne egm_1 (by decide)) hpi)) (cwV 1 htb (gd_V kw_1161 kw_1162 kw_1163 kw_5 kw_1604) rfl rfl rfl (by decide +kernel) ⟨Nat.le_of_ble_eq_true rfl, Nat.le_of_ble_eq_true rfl⟩) rfl hl.1 rfl (Nat.le_of_ble_eq_true rfl) dX13_step_193 ⟨Nat.zero_le _, Nat.zero_le _⟩ hK hP hD hS hA (fun r_21 u_22 H locs hw hP hD hS => ?_)
          obtain ⟨sgv_23, gmv_23, lgv_23, rfl, hIv_23, ksv_23, kgv_23, klv_23, hr_21, fGI_r_21, fGt_r_21⟩ := hw
          obtain rfl := KS_nil klv_23
          have hP : va_P (dC, dI) vwCl (mW h0 ad cid sgv_23 gmv_23 lg) H := hP
          have hD : va_D A (mW h0 ad cid sgv_23 gmv_23 lg) := hD
          refine lv_if_eq (tgt := 349) hx hb dX13_step_196 (by decide) (fun c_24 => ?_) (fun c_24 => ?_)
          · have h_25 : iv 0 0 r_21 := iv_eq c_24 hr_21 (iv_k (by decide) : iv 0 0 0) (by decide)
            have hst9 : 1 ≤ (sgv_23 51).toInt ∨ STEP sg gm sgv_23 gmv_23 lg := by
              rcases fGt_r_21 with ⟨q9, _⟩ | ⟨_, q9 | ⟨b9, q9⟩⟩
              · exact absurd (congrArg Int32.toInt c_24) (by rw [q9]; decide)
              · exact Or.inl q9
              · exact Or.inr (ST_phP hI hinv hh1 (DK_of (show KS [51, 52, 63, 74] sg sgv_23 from (KS_tr (L := [51, 52, 63, 74]) (KS_tr (L := [51, 52, 63, 74]) KS_rf hks_j135 (by decide)) ksv_23 (by decide))) (show KS [62, 64, 65, 66, 67, 68, 69] gm gmv_23 from (KS_tr (L := [62, 64, 65, 66, 67, 68, 69]) (KS_up KS_rf egm_1 (by decide)) kgv_23 (by decide))) (show KS [] lg lg from KS_rf) (by decide) (by decide) (by decide)) (Eq.trans (kgv_23 44 (by decide)) (up_ne egm_1 (by decide))) (Eq.trans (kgv_23 45 (by decide)) (up_ne egm_1 (by decide))) rfl (Eq.trans (kgv_23 60 (by decide)) (up_ne egm_1 (by decide))) (hks_j135 63 (by decide)) (hks_j135 41 (by decide)) (up_ne egm_1 (by decide)) (up_ne egm_1 (by decide)) (show gm_1 65 = upd (gm 65) (x1_135 : Int32).toNatClampNeg 2 from ((up_at egm_1).trans (by rw [show gm 65 = gm 65 from rfl]))) htop (up_ne egm_1 (by decide)) (up_ne egm_1 (by decide)) (up_ne egm_1 (by decide)) (by omega) (by rw [hph9]; rfl) (by decide) q9)
            exact hj349 sgv_23 gmv_23 x2_135 x1_135 hx2_135 hx1_135 (KS_tr (L := [48, 49, 50, 51, 52, 63, 74]) (KS_tr (L := [48, 49, 50, 51, 52, 63, 74]) KS_rf hks_j135 (by decide)) ksv_23 (by decide)) (KS_tr (L := [53, 54, 55, 56, 57, 58, 59, 60, 61, 62, 64, 65, 66, 67, 68, 69, 70, 71, 72, 73, 75]) (KS_up KS_rf egm_1 (by decide)) kgv_23 (by decide)) hIv_23 (fGI_r_21) (MO_of hmo (show KS [51, 52, 63, 74] sg sgv_23 from (KS_tr (L := [51, 52, 63, 74]) (KS_tr (L := [51, 52, 63, 74]) KS_rf hks_j135 (by decide)) ksv_23 (by decide))) (show KS [62, 64, 65, 66, 67, 68, 69] gm gmv_23 from (KS_tr (L := [62, 64, 65, 66, 67, 68, 69]) (KS_up KS_rf egm_1 (by decide)) kgv_23 (by decide))) (by decide) (by decide)) (hst9) _ _ _ hP hD hS (lv_sub hl [0, 1, 2] rfl)
          · have h_26 : iv 1 1 r_21 := iv_neL c_24 hr_21 (by decide)
            refine lv_aload_n hx hb dX13_step_199 rfl (lv_at hl 2 rfl) ?_
            obtain ⟨hgo9, hsmA⟩ : 0 ≤ (sgv_23 74).toInt ∧ SAMEP sg_j135 gm_1 sgv_23 gmv_23 := by { rcases fGt_r_21 with ⟨_, q8, q9⟩ | ⟨q9, _⟩; exact ⟨q8, q9⟩; exact absurd (Int32.toInt_inj.mp q9) c_24 }
            have htA : TOPn sgv_23 = TOPn sg := by unfold TOPn; rw [hsmA.1, (hks_j135 63 (by decide))]
            have h65A : gmv_23 65 = upd (gm 65) _ _ := hsmA.2.2.2.1.trans (show gm_1 65 = upd (gm 65) (x1_135 : Int32).toNatClampNeg 2 from ((up_at egm_1).trans (by rw [show gm 65 = gm 65 from rfl])))
            have h64A : gmv_23 64 = gm 64 := hsmA.2.2.1.trans (up_ne egm_1 (by decide))
            have h66A : gmv_23 66 = gm 66 := hsmA.2.2.2.2.1.trans (up_ne egm_1 (by decide))
            have h67A : gmv_23 67 = gm 67 := hsmA.2.2.2.2.2.1.trans (up_ne egm_1 (by decide))
            have h69A : gmv_23 69 = gm 69 := hsmA.2.2.2.2.2.2.2.1.trans (up_ne egm_1 (by decide))
            have h41A : sgv_23 41 = sg 41 := (Eq.trans (ksv_23 41 (by decide)) (hks_j135 41 (by decide)))
            have hfrA : FR sgv_23 gmv_23 lg (TOPn sgv_23) 1 := by
              unfold FR; rw [htA, h64A, h65A, h66A, h67A, h69A, htop, upd_at]
              exact FRv_k (DK_of (show KS [51, 52, 63, 74] sg sgv_23 from (KS_tr (L := [51, 52, 63, 74]) (KS_tr (L := [51, 52, 63, 74]) KS_rf hks_j135 (by decide)) ksv_23 (by decide))) (show KS [62, 64, 65, 66, 67, 68, 69] gm gmv_23 from (KS_tr (L := [62, 64, 65, 66, 67, 68, 69]) (KS_up KS_rf egm_1 (by decide)) kgv_23 (by decide))) (show KS [] lg lg from KS_rf) (by decide) (by decide) (by decide)) (Eq.trans (kgv_23 44 (by decide)) (up_ne egm_1 (by decide))) (Eq.trans (kgv_23 45 (by decide)) (up_ne egm_1 (by decide))) rfl (fun k q9 => by rw [(Eq.trans (kgv_23 60 (by decide)) (up_ne egm_1 (by decide)))]; exact q9) (FRv_p hfr0 (by omega) (by decide))
            refine mr_callv (rest := []) ⟨hx, hb, hml, hown, htb⟩ (f_deliver l dC dI h0 ad cid sgv_23 gmv_23 lg hIv_23 (DOC_of hdoc (show KS [51, 52, 63, 74] sg sgv_23 from (KS_tr (L := [51, 52, 63, 74]) (KS_tr (L := [51, 52, 63, 74]) KS_rf hks_j135 (by decide)) ksv_23 (by decide))) (show KS [62, 64, 65, 66, 67, 68, 69] gm gmv_23 from (KS_tr (L := [62, 64, 65, 66, 67, 68, 69]) (KS_up KS_rf egm_1 (by decide)) kgv_23 (by decide))) (show KS [] lg lg from KS_rf) (by decide) (by decide) (by decide) (by decide)) (fGI_r_21.1) (by have q9 := hsmA.1.trans (hks_j135 63 (by decide)); rw [q9]; exact hh1) hgo9 hfrA (by rw [htA, h65A, htop, upd_at]; decide) (by rw [htA, h64A, h41A]; exact ⟨hpt.2.1, hpt.2.2⟩) ((show iv 0 6 _ from hIv_23.2 67 _ (show _ < 81 from by rw [htA]; exact tl)).1)) (cwV 0 htb (gd_V kw_1174 kw_1175 kw_1176 kw_5 kw_1608) rfl rfl rfl (by decide +kernel) ⟨Nat.le_of_ble_eq_true rfl, Nat.le_of_ble_eq_true rfl⟩) rfl hl.1 rfl (Nat.le_of_ble_eq_true rfl) dX13_step_200 ⟨Nat.zero_le _, Nat.zero_le _⟩ hK hP hD hS hA (fun u_28 H locs hw hP hD hS => ?_)
            obtain ⟨sgv_29, gmv_29, lgv_29, rfl, hIv_29, ksv_29, kgv_29, klv_29, fV2_r_27, fDl_r_27⟩ := hw
            obtain rfl := KS_nil ksv_29
            obtain rfl := KS_nil klv_29
            have hP : va_P (dC, dI) vwCl (mW h0 ad cid sgv_23 gmv_29 lg) H := hP
            have hD : va_D A (mW h0 ad cid sgv_23 gmv_29 lg) := hD
            refine lv_goto (tgt := 349) hx hb dX13_step_203 (by decide) ?_
            have h67a : gmv_29 67 = gm 67 := (DLV_2 fDl_r_27 (by rw [htA, h65A, htop, upd_at]; decide)).trans h67A
            exact hj349 sgv_23 gmv_29 x2_135 x1_135 hx2_135 hx1_135 (KS_tr (L := [48, 49, 50, 51, 52, 63, 74]) (KS_tr (L := [48, 49, 50, 51, 52, 63, 74]) KS_rf hks_j135 (by decide)) ksv_23 (by decide)) (KS_tr (L := [53, 54, 55, 56, 57, 58, 59, 60, 61, 62, 64, 65, 66, 67, 68, 69, 70, 71, 72, 73, 75]) (KS_tr (L := [53, 54, 55, 56, 57, 58, 59, 60, 61, 62, 64, 65, 66, 67, 68, 69, 70, 71, 72, 73, 75]) (KS_up KS_rf egm_1 (by decide)) kgv_23 (by decide)) kgv_29 (by decide)) hIv_29 (GI0_k fGI_r_21 (DK_of (show KS [] sgv_23 sgv_23 from KS_rf) (show KS [67, 68, 70, 71, 72, 73] gmv_23 gmv_29 from (KS_tr (L := [67, 68, 70, 71, 72, 73]) KS_rf kgv_29 (by decide))) (show KS [] lg lg from KS_rf) (by decide) (by decide) (by decide)) ((show KS [] lg lg from KS_rf) 1 (by decide)) ((show KS [67, 68, 70, 71, 72, 73] gmv_23 gmv_29 from (KS_tr (L := [67, 68, 70, 71, 72, 73]) KS_rf kgv_29 (by decide))) 60 (by decide)) ((show KS [67, 68, 70, 71, 72, 73] gmv_23 gmv_29 from (KS_tr (L := [67, 68, 70, 71, 72, 73]) KS_rf kgv_29 (by decide))) 61 (by decide)) ((show KS [67, 68, 70, 71, 72, 73] gmv_23 gmv_29 from (KS_tr (L := [67, 68, 70, 71, 72, 73]) KS_rf kgv_29 (by decide))) 62 (by decide)) (fV2_r_27) ((show KS [] sgv_23 sgv_23 from KS_rf) 50 (by decide))) (MO_of hmo (show KS [51, 52, 63, 74] sg sgv_23 from (KS_tr (L := [51, 52, 63, 74]) (KS_tr (L := [51, 52, 63, 74]) KS_rf hks_j135 (by decide)) ksv_23 (by decide))) (show KS [62, 64, 65, 66, 67, 68, 69, 70, 71, 72, 73] gm gmv_29 from (KS_tr (L := [62, 64, 65, 66, 67, 68, 69, 70, 71, 72, 73]) (KS_tr (L := [62, 64, 65, 66, 67, 68, 69, 70, 71, 72, 73]) (KS_up KS_rf egm_1 (by decide)) kgv_23 (by decide)) kgv_29 (by decide))) (by decide) (by decide)) (Or.inr (ST_ph hI hdoc hinv hh1 (DK_of (show KS [51, 52, 63, 74] sg sgv_23 from (KS_tr (L := [51, 52, 63, 74]) (KS_tr (L := [51, 52, 63, 74]) KS_rf hks_j135 (by decide)) ksv_23 (by decide))) (show KS [62, 64, 65, 66, 67, 68, 69, 70, 71, 72, 73] gm gmv_29 from (KS_tr (L := [62, 64, 65, 66, 67, 68, 69, 70, 71, 72, 73]) (KS_tr (L := [62, 64, 65, 66, 67, 68, 69, 70, 71, 72, 73]) (KS_up KS_rf egm_1 (by decide)) kgv_23 (by decide)) kgv_29 (by decide))) (show KS [] lg lg from KS_rf) (by decide) (by decide) (by decide)) (Eq.trans (Eq.trans (kgv_29 44 (by decide)) (kgv_23 44 (by decide))) (up_ne egm_1 (by decide))) (Eq.trans (Eq.trans (kgv_29 45 (by decide)) (kgv_23 45 (by decide))) (up_ne egm_1 (by decide))) rfl (Eq.trans (Eq.trans (kgv_29 60 (by decide)) (kgv_23 60 (by decide))) (up_ne egm_1 (by decide))) (((show KS [] sgv_23 sgv_23 from KS_rf) 63 (by decide)).trans (hsmA.1.trans (hks_j135 63 (by decide)))) (((show KS [67, 68, 70, 71, 72, 73] gmv_23 gmv_29 from (KS_tr (L := [67, 68, 70, 71, 72, 73]) KS_rf kgv_29 (by decide))) 62 (by decide)).trans (hsmA.2.1.trans (up_ne egm_1 (by decide)))) (((show KS [67, 68, 70, 71, 72, 73] gmv_23 gmv_29 from (KS_tr (L := [67, 68, 70, 71, 72, 73]) KS_rf kgv_29 (by decide))) 64 (by decide)).trans (hsmA.2.2.1.trans (up_ne egm_1 (by decide)))) (((show KS [67, 68, 70, 71, 72, 73] gmv_23 gmv_29 from (KS_tr (L := [67, 68, 70, 71, 72, 73]) KS_rf kgv_29 (by decide))) 65 (by decide)).trans h65A) htop (((show KS [67, 68, 70, 71, 72, 73] gmv_23 gmv_29 from (KS_tr (L := [67, 68, 70, 71, 72, 73]) KS_rf kgv_29 (by decide))) 66 (by decide)).trans (hsmA.2.2.2.2.1.trans (up_ne egm_1 (by decide)))) h67a (((show KS [67, 68, 70, 71, 72, 73] gmv_23 gmv_29 from (KS_tr (L := [67, 68, 70, 71, 72, 73]) KS_rf kgv_29 (by decide))) 69 (by decide)).trans (hsmA.2.2.2.2.2.2.2.1.trans (up_ne egm_1 (by decide)))) (by omega) (by rw [hph9]; rfl))) _ _ _ hP hD hS (lv_sub hl [0, 1, 2] rfl)
  have hj343 : ∀ (sg_j343 : Nat → Int32) (gm_j343 : Nat → Nat → Int32) (x3_343 : Int32) (x2_343 : Int32) (x1_343 : Int32) (_ : iv 0 1 x3_343) (_ : iv 0 79 x2_343) (_ : iv 0 79 x1_343) (_ : KS [49, 51, 52, 63, 74] sg sg_j343) (_ : KS [55, 56, 57, 58, 62, 64, 65, 66, 67, 68, 69, 70, 71, 72, 73] gm gm_j343) (_ : MI sg_j343 gm_j343) (_ : x1_343.toNatClampNeg = TOPn sg) (_ : (gm 65 (TOPn sg)).toInt = 4) (_ : (gm 66 (TOPn sg)).toInt < (gm 44 (gm 64 (TOPn sg)).toNatClampNeg).toInt) (_ : (gm 66 (TOPn sg)).toInt ≤ 25) (_ : WOX sg gm (LM sg gm lg (gm 64 (TOPn sg)) (gm 65 (TOPn sg)) (gm 66 (TOPn sg))) sg_j343 gm_j343 x3_343) (_ : GI0 sg_j343 gm_j343 lg) (H : Heap) (locs : List Loc) (ls : Array Slot), va_P (dC, dI) vwCl (mW h0 ad cid sg_j343 gm_j343 lg) H → va_D A (mW h0 ad cid sg_j343 gm_j343 lg) → va_S A s.heap H locs → lv_has ls 4 [(3, .int x3_343), (2, .int x2_343), (1, .int x1_343), (0, .ref h0)] → W p l e (headSpec wm_X13_step ({ frames := 10, cells := 0, slots := 0, locals := 254 })).room s m ([.ref h0] : List Value).toArray below meth c H locs 0 0 (MQ below (va_Qv (fun v => ∃ (sg2 : Nat → Int32) (gm2 : Nat → Nat → Int32) (lg2 : Nat → Nat → Int64), v = (sg2, gm2, lg2) ∧ MI sg2 gm2 ∧ KS [48, 49, 50, 51, 52, 63, 74] sg sg2 ∧ KS [53, 54, 55, 56, 57, 58, 59, 60, 61, 62, 64, 65, 66, 67, 68, 69, 70, 71, 72, 73, 75] gm gm2 ∧ KS [] lg lg2 ∧ (GI0 sg2 gm2 lg2) ∧ (MO sg2 gm2) ∧ (1 ≤ (sg2 51).toInt ∨ STEP sg gm sg2 gm2 lg2)) (MB dC dI h0 ad cid A) A) ([.ref h0] : List Value).toArray s 0 0 A) (F0 m 343 ls []) := by
    intro sg_j343 gm_j343 x3_343 x2_343 x1_343 hx3_343 hx2_343 hx1_343 hks_j343 hkg_j343 hI_j343 htop hph9 h4l h25m hwx hgi H locs ls hP hD hS hl
    refine lv_aload_n hx hb dX13_step_343 rfl (lv_at hl 3 rfl) ?_
    refine lv_iload_n hx hb dX13_step_344 rfl (lv_at hl 0 rfl) ?_
    refine lv_iload_n hx hb dX13_step_345 rfl (lv_at hl 2 rfl) ?_
    refine mr_callv (rest := []) ⟨hx, hb, hml, hown, htb⟩ (f_next l dC dI h0 ad cid sg_j343 gm_j343 lg x3_343 x1_343 hI_j343 hx3_343 hx1_343 (by obtain ⟨sg1, gm1, q9, _, _, _, _, q5, _⟩ := hwx; rcases q9 with ⟨_, q8⟩ | ⟨q8, _⟩; (exact Or.inl (by rw [htop, q5, q8.2.2.2.2.1]; exact h25m)); exact Or.inr q8)) (cwV 2 htb (gd_V kw_1198 kw_1199 kw_1200 kw_5 kw_1616) rfl rfl rfl (by decide +kernel) ⟨Nat.le_of_ble_eq_true rfl, Nat.le_of_ble_eq_true rfl⟩) rfl hl.1 rfl (Nat.le_of_ble_eq_true rfl) dX13_step_346 ⟨Nat.zero_le _, Nat.zero_le _⟩ hK hP hD hS hA (fun u_31 H locs hw hP hD hS => ?_)
    obtain ⟨sgv_32, gmv_32, lgv_32, rfl, hIv_32, ksv_32, kgv_32, klv_32, fNx_r_30⟩ := hw
    obtain rfl := KS_nil ksv_32
    obtain rfl := KS_nil klv_32
    have hP : va_P (dC, dI) vwCl (mW h0 ad cid sg_j343 gmv_32 lg) H := hP
    have hD : va_D A (mW h0 ad cid sg_j343 gmv_32 lg) := hD
    exact hj349 sg_j343 gmv_32 x2_343 x1_343 hx2_343 hx1_343 (KS_tr (L := [48, 49, 50, 51, 52, 63, 74]) KS_rf hks_j343 (by decide)) (KS_tr (L := [53, 54, 55, 56, 57, 58, 59, 60, 61, 62, 64, 65, 66, 67, 68, 69, 70, 71, 72, 73, 75]) (KS_tr (L := [53, 54, 55, 56, 57, 58, 59, 60, 61, 62, 64, 65, 66, 67, 68, 69, 70, 71, 72, 73, 75]) KS_rf hkg_j343 (by decide)) kgv_32 (by decide)) hIv_32 (GI0_of hgi (show KS [] sg_j343 sg_j343 from KS_rf) (show KS [66, 67] gm_j343 gmv_32 from (KS_tr (L := [66, 67]) KS_rf kgv_32 (by decide))) (show KS [] lg lg from KS_rf) (by decide) (by decide) (by decide) (by decide) (by decide) (by decide)) (MO_of hmo (show KS [49, 51, 52, 63, 74] sg sg_j343 from (KS_tr (L := [49, 51, 52, 63, 74]) KS_rf hks_j343 (by decide))) (show KS [55, 56, 57, 58, 62, 64, 65, 66, 67, 68, 69, 70, 71, 72, 73] gm gmv_32 from (KS_tr (L := [55, 56, 57, 58, 62, 64, 65, 66, 67, 68, 69, 70, 71, 72, 73]) (KS_tr (L := [55, 56, 57, 58, 62, 64, 65, 66, 67, 68, 69, 70, 71, 72, 73]) KS_rf hkg_j343 (by decide)) kgv_32 (by decide))) (by decide) (by decide)) (ST_wox hI hdoc hinv hh1 (DK_of (show KS [49, 51, 52, 63, 74] sg sg_j343 from (KS_tr (L := [49, 51, 52, 63, 74]) KS_rf hks_j343 (by decide))) (show KS [55, 56, 57, 58, 62, 64, 65, 66, 67, 68, 69, 70, 71, 72, 73] gm gmv_32 from (KS_tr (L := [55, 56, 57, 58, 62, 64, 65, 66, 67, 68, 69, 70, 71, 72, 73]) (KS_tr (L := [55, 56, 57, 58, 62, 64, 65, 66, 67, 68, 69, 70, 71, 72, 73]) KS_rf hkg_j343 (by decide)) kgv_32 (by decide))) (show KS [] lg lg from KS_rf) (by decide) (by decide) (by decide)) (Eq.trans (kgv_32 44 (by decide)) (hkg_j343 44 (by decide))) (Eq.trans (kgv_32 45 (by decide)) (hkg_j343 45 (by decide))) rfl (Eq.trans (kgv_32 60 (by decide)) (hkg_j343 60 (by decide))) hwx rfl (by omega) htop ((show KS [] sg_j343 sg_j343 from KS_rf) 63 (by decide)) ((show KS [66, 67] gm_j343 gmv_32 from (KS_tr (L := [66, 67]) KS_rf kgv_32 (by decide))) 62 (by decide)) ((show KS [66, 67] gm_j343 gmv_32 from (KS_tr (L := [66, 67]) KS_rf kgv_32 (by decide))) 64 (by decide)) ((show KS [66, 67] gm_j343 gmv_32 from (KS_tr (L := [66, 67]) KS_rf kgv_32 (by decide))) 65 (by decide)) ((show KS [66, 67] gm_j343 gmv_32 from (KS_tr (L := [66, 67]) KS_rf kgv_32 (by decide))) 69 (by decide)) ((show KS [] sg_j343 sg_j343 from KS_rf) 51 (by decide)) (fNx_r_30) (by omega) (fun q9 => by omega) (fun _ => h4l)) _ _ _ hP hD hS (lv_sub hl [1, 2, 3] rfl)
  refine lv_aload_n hx hb dX13_step_0 rfl (lv_at hl 0 rfl) ?_
  refine mr_get (v := .int (sg 63)) hx hb htb inX13 hown hK hP 63 (by decide) (htb _ kw_1160) rfl dX13_step_1 ?_
  refine lv_iconst (v := 1) hx hb dX13_step_4 (by decide) ?_
  refine lv_isub hx hb dX13_step_5 ?_
  refine lv_topi (fun z_33 ez_33 => ?_)
  have hz_33 : iv 0 79 z_33 := iv_of ez_33 (iv_sub h63 (iv_k (by decide) : iv 1 1 1) (by decide))
  have tz_33 : z_33.toInt = ((sg 63) : Int32).toInt - 1 := by rw [ez_33]; exact iv_subE h63 (iv_k (by decide) : iv 1 1 1) (by decide)
  refine lv_istore_n (lv' := [(1, .int z_33), (0, .ref h0)]) hx hb dX13_step_6 rfl hl (by decide) rfl (fun ls hl => ?_)
  have htop := top_n h63 tz_33
  refine lv_aload_n hx hb dX13_step_7 rfl (lv_at hl 1 rfl) ?_
  refine mr_get (v := .ref (ad 64)) hx hb htb inX13 hown hK hP 64 (by decide) (htb _ kw_213) rfl dX13_step_8 ?_
  refine lv_iload_n hx hb dX13_step_11 rfl (lv_at hl 0 rfl) ?_
  refine mr_iald hx hb hK hP 49 (k := 64) rfl rfl rfl (show vp_in z_33 81 from (iv_in hz_33 (by decide))) dX13_step_12 ?_
  refine lv_topi (fun z_34 ez_34 => ?_)
  have hz_34 : iv 0 79 z_34 := iv_of ez_34 (MI_a hI 64 hz_33 (by decide))
  refine lv_istore_n (lv' := [(2, .int z_34), (1, .int z_33), (0, .ref h0)]) hx hb dX13_step_13 rfl hl (by decide) rfl (fun ls hl => ?_)
  have heb : z_34 = gm 64 (TOPn sg) := (show z_34 = gm 64 (TOPn sg) from (by have q9 := ez_34; rw [htop] at q9; exact q9))
  have hbl9 : (z_34).toInt < (sg 41).toInt := by rw [heb]; exact hpt.2.2
  refine lv_aload_n hx hb dX13_step_14 rfl (lv_at hl 2 rfl) ?_
  refine mr_get (v := .ref (ad 65)) hx hb htb inX13 hown hK hP 65 (by decide) (htb _ kw_214) rfl dX13_step_15 ?_
  refine lv_iload_n hx hb dX13_step_18 rfl (lv_at hl 1 rfl) ?_
  refine mr_iald hx hb hK hP 50 (k := 65) rfl rfl rfl (show vp_in z_33 81 from (iv_in hz_33 (by decide))) dX13_step_19 ?_
  refine lv_topi (fun z_35 ez_35 => ?_)
  have hz_35 : iv 0 4 z_35 := iv_of ez_35 (MI_a hI 65 hz_33 (by decide))
  by_cases c_36 : (z_35 : Int32).toInt = 0
  · refine lv_tableIn (tgt := 52) hx hb dX13_step_20 (by rw [c_36]; decide) (by rw [c_36]; decide) (by rw [c_36]; rfl) (by decide) ?_
    have h_37 : iv 0 0 z_35 := iv_at c_36
    have hph9 : (gm 65 (TOPn sg)).toInt = 0 := by rw [← (show z_35 = gm 65 (TOPn sg) from (by have q9 := ez_35; rw [htop] at q9; exact q9))]; exact c_36
    refine lv_aload_n hx hb dX13_step_52 rfl (lv_at hl 2 rfl) ?_
    refine mr_get (v := .ref (ad 65)) hx hb htb inX13 hown hK hP 65 (by decide) (htb _ kw_214) rfl dX13_step_53 ?_
    refine lv_iload_n hx hb dX13_step_56 rfl (lv_at hl 1 rfl) ?_
    refine lv_iconst (v := 1) hx hb dX13_step_57 (by decide) ?_
    refine ma_iast (x := 1) hx hb hK hP hD hS 50 (k := 65) rfl rfl rfl (show vp_in z_33 81 from (iv_in hz_33 (by decide))) dX13_step_58 (fun gm_38 H locs egm_38 hP hD hS => ?_)
    have hI_gm_38 := MI_st hI egm_38 (iv_k (by decide) : iv 1 1 1) (by decide)
    refine lv_aload_n hx hb dX13_step_59 rfl (lv_at hl 2 rfl) ?_
    refine lv_aload_n hx hb dX13_step_60 rfl (lv_at hl 2 rfl) ?_
    refine mr_get (v := .ref (ad 42)) hx hb htb inX13 hown hK hP 42 (by decide) (htb _ kw_196) rfl dX13_step_61 ?_
    refine lv_iload_n hx hb dX13_step_64 rfl (lv_at hl 0 rfl) ?_
    refine mr_iald hx hb hK hP 33 (k := 42) rfl rfl rfl (show vp_in z_34 80 from (iv_in hz_34 (by decide))) dX13_step_65 ?_
    refine lv_topi (fun z_39 ez_39 => ?_)
    have hz_39 : iv 0 79 z_39 := iv_of ez_39 (MI_a hI_gm_38 42 hz_34 (by decide))
    have ez_39 := ez_39.trans (congrFun (up_ne egm_38 (by decide)) _)
    refine lv_ldc2 (own := RX13) (v := 28259031083541619) hx hb hown (htb _ kw_909) dX13_step_66 ?_
    refine mr_calli (rest := []) ⟨hx, hb, hml, hown, htb⟩ (f_has l dC dI h0 ad cid sg gm_38 lg z_39 28259031083541619 hI_gm_38 hz_39) (cwV 2 htb (gd_V kw_916 kw_917 kw_918 kw_5 kw_1543) rfl rfl rfl (by decide +kernel) ⟨Nat.le_of_ble_eq_true rfl, Nat.le_of_ble_eq_true rfl⟩) rfl hl.1 rfl (Nat.le_of_ble_eq_true rfl) dX13_step_69 ⟨Nat.zero_le _, Nat.zero_le _⟩ hK hP hD hS hA (fun r_40 u_41 H locs hw hP hD hS => ?_)
    obtain ⟨hr_40, fH_r_40, rfl⟩ := hw
    have hP : va_P (dC, dI) vwCl (mW h0 ad cid sg gm_38 lg) H := hP
    have hD : va_D A (mW h0 ad cid sg gm_38 lg) := hD
    refine lv_if_eq (tgt := 349) hx hb dX13_step_72 (by decide) (fun c_42 => ?_) (fun c_42 => ?_)
    · have h_43 : iv 0 0 r_40 := iv_eq c_42 hr_40 (iv_k (by decide) : iv 0 0 0) (by decide)
      exact hj349 sg gm_38 z_34 z_33 hz_34 hz_33 KS_rf (KS_up KS_rf egm_38 (by decide)) hI_gm_38 (GI0_of hgi (show KS [] sg sg from KS_rf) (show KS [65] gm gm_38 from (KS_up KS_rf egm_38 (by decide))) (show KS [] lg lg from KS_rf) (by decide) (by decide) (by decide) (by decide) (by decide) (by decide)) (MO_of hmo (show KS [] sg sg from KS_rf) (show KS [65] gm gm_38 from (KS_up KS_rf egm_38 (by decide))) (by decide) (by decide)) (Or.inr (ST_ph hI hdoc hinv hh1 (DK_of (show KS [] sg sg from KS_rf) (show KS [65] gm gm_38 from (KS_up KS_rf egm_38 (by decide))) (show KS [] lg lg from KS_rf) (by decide) (by decide) (by decide)) (up_ne egm_38 (by decide)) (up_ne egm_38 (by decide)) rfl (up_ne egm_38 (by decide)) rfl (up_ne egm_38 (by decide)) (up_ne egm_38 (by decide)) (show gm_38 65 = upd (gm 65) (z_33 : Int32).toNatClampNeg 1 from ((up_at egm_38).trans (by rw [show gm 65 = gm 65 from rfl]))) htop (up_ne egm_38 (by decide)) (up_ne egm_38 (by decide)) (up_ne egm_38 (by decide)) (by omega) (by rw [hph9]; rfl))) _ _ _ hP hD hS (lv_sub hl [0, 1, 2] rfl)
    · have h_44 : iv 1 1 r_40 := iv_neL c_42 hr_40 (by decide)
      refine lv_aload_n hx hb dX13_step_75 rfl (lv_at hl 2 rfl) ?_
      refine lv_aload_n hx hb dX13_step_76 rfl (lv_at hl 2 rfl) ?_
      refine lv_aload_n hx hb dX13_step_77 rfl (lv_at hl 2 rfl) ?_
      refine lv_aload_n hx hb dX13_step_78 rfl (lv_at hl 2 rfl) ?_
      refine mr_get (v := .ref (ad 42)) hx hb htb inX13 hown hK hP 42 (by decide) (htb _ kw_196) rfl dX13_step_79 ?_
      refine lv_iload_n hx hb dX13_step_82 rfl (lv_at hl 0 rfl) ?_
      refine mr_iald hx hb hK hP 33 (k := 42) rfl rfl rfl (show vp_in z_34 80 from (iv_in hz_34 (by decide))) dX13_step_83 ?_
      refine lv_topi (fun z_45 ez_45 => ?_)
      obtain rfl : z_39 = z_45 := ez_39.trans (ez_45.trans (congrFun (up_ne egm_38 (by decide)) _)).symm
      refine lv_ldc2 (own := RX13) (v := 28259031083541619) hx hb hown (htb _ kw_909) dX13_step_84 ?_
      refine mr_calll (rest := [.ref h0, .ref h0]) ⟨hx, hb, hml, hown, htb⟩ (f_word l dC dI h0 ad cid sg gm_38 lg z_39 28259031083541619 hI_gm_38 hz_39) (cwV 2 htb (gd_V kw_923 kw_924 kw_925 kw_5 kw_1545) rfl rfl rfl (by decide +kernel) ⟨Nat.le_of_ble_eq_true rfl, Nat.le_of_ble_eq_true rfl⟩) rfl hl.1 rfl (Nat.le_of_ble_eq_true rfl) dX13_step_87 ⟨Nat.zero_le _, Nat.zero_le _⟩ hK hP hD hS hA (fun r_46 u_47 H locs hw hP hD hS => ?_)
      obtain ⟨fW_r_46, rfl⟩ := hw
      have hP : va_P (dC, dI) vwCl (mW h0 ad cid sg gm_38 lg) H := hP
      have hD : va_D A (mW h0 ad cid sg gm_38 lg) := hD
      refine mr_calli (rest := [.ref h0]) ⟨hx, hb, hml, hown, htb⟩ (f_called l dC dI h0 ad cid sg gm_38 lg r_46 hI_gm_38) (cwV 1 htb (gd_V kw_1171 kw_1172 kw_1173 kw_5 kw_1607) rfl rfl rfl (by decide +kernel) ⟨Nat.le_of_ble_eq_true rfl, Nat.le_of_ble_eq_true rfl⟩) rfl hl.1 rfl (Nat.le_of_ble_eq_true rfl) dX13_step_90 ⟨Nat.zero_le _, Nat.zero_le _⟩ hK hP hD hS hA (fun r_48 u_49 H locs hw hP hD hS => ?_)
      obtain ⟨hr_48, fLt_r_48, rfl⟩ := hw
      have hP : va_P (dC, dI) vwCl (mW h0 ad cid sg gm_38 lg) H := hP
      have hD : va_D A (mW h0 ad cid sg gm_38 lg) := hD
      refine mr_calli (rest := []) ⟨hx, hb, hml, hown, htb⟩ (f_gets l dC dI h0 ad cid sg gm_38 lg r_48 hI_gm_38 hr_48 fLt_r_48 (GI0_of hgi (show KS [] sg sg from KS_rf) (show KS [65] gm gm_38 from (KS_up KS_rf egm_38 (by decide))) (show KS [] lg lg from KS_rf) (by decide) (by decide) (by decide) (by decide) (by decide) (by decide)) (PIL_k rfl rfl (up_ne egm_38 (by decide)) (up_ne egm_38 (by decide)) hpi)) (cwV 1 htb (gd_V kw_1161 kw_1162 kw_1163 kw_5 kw_1604) rfl rfl rfl (by decide +kernel) ⟨Nat.le_of_ble_eq_true rfl, Nat.le_of_ble_eq_true rfl⟩) rfl hl.1 rfl (Nat.le_of_ble_eq_true rfl) dX13_step_93 ⟨Nat.zero_le _, Nat.zero_le _⟩ hK hP hD hS hA (fun r_50 u_51 H locs hw hP hD hS => ?_)
      obtain ⟨sgv_52, gmv_52, lgv_52, rfl, hIv_52, ksv_52, kgv_52, klv_52, hr_50, fGI_r_50, fGt_r_50⟩ := hw
      obtain rfl := KS_nil klv_52
      have hP : va_P (dC, dI) vwCl (mW h0 ad cid sgv_52 gmv_52 lg) H := hP
      have hD : va_D A (mW h0 ad cid sgv_52 gmv_52 lg) := hD
      refine lv_if_eq (tgt := 349) hx hb dX13_step_96 (by decide) (fun c_53 => ?_) (fun c_53 => ?_)
      · have h_54 : iv 0 0 r_50 := iv_eq c_53 hr_50 (iv_k (by decide) : iv 0 0 0) (by decide)
        have hst9 : 1 ≤ (sgv_52 51).toInt ∨ STEP sg gm sgv_52 gmv_52 lg := by
          rcases fGt_r_50 with ⟨q9, _⟩ | ⟨_, q9 | ⟨b9, q9⟩⟩
          · exact absurd (congrArg Int32.toInt c_53) (by rw [q9]; decide)
          · exact Or.inl q9
          · exact Or.inr (ST_phP hI hinv hh1 (DK_of (show KS [51, 52, 63, 74] sg sgv_52 from (KS_tr (L := [51, 52, 63, 74]) KS_rf ksv_52 (by decide))) (show KS [62, 64, 65, 66, 67, 68, 69] gm gmv_52 from (KS_tr (L := [62, 64, 65, 66, 67, 68, 69]) (KS_up KS_rf egm_38 (by decide)) kgv_52 (by decide))) (show KS [] lg lg from KS_rf) (by decide) (by decide) (by decide)) (Eq.trans (kgv_52 44 (by decide)) (up_ne egm_38 (by decide))) (Eq.trans (kgv_52 45 (by decide)) (up_ne egm_38 (by decide))) rfl (Eq.trans (kgv_52 60 (by decide)) (up_ne egm_38 (by decide))) rfl rfl (up_ne egm_38 (by decide)) (up_ne egm_38 (by decide)) (show gm_38 65 = upd (gm 65) (z_33 : Int32).toNatClampNeg 1 from ((up_at egm_38).trans (by rw [show gm 65 = gm 65 from rfl]))) htop (up_ne egm_38 (by decide)) (up_ne egm_38 (by decide)) (up_ne egm_38 (by decide)) (by omega) (by rw [hph9]; rfl) (by decide) q9)
        exact hj349 sgv_52 gmv_52 z_34 z_33 hz_34 hz_33 (KS_tr (L := [48, 49, 50, 51, 52, 63, 74]) KS_rf ksv_52 (by decide)) (KS_tr (L := [53, 54, 55, 56, 57, 58, 59, 60, 61, 62, 64, 65, 66, 67, 68, 69, 70, 71, 72, 73, 75]) (KS_up KS_rf egm_38 (by decide)) kgv_52 (by decide)) hIv_52 (fGI_r_50) (MO_of hmo (show KS [51, 52, 63, 74] sg sgv_52 from (KS_tr (L := [51, 52, 63, 74]) KS_rf ksv_52 (by decide))) (show KS [62, 64, 65, 66, 67, 68, 69] gm gmv_52 from (KS_tr (L := [62, 64, 65, 66, 67, 68, 69]) (KS_up KS_rf egm_38 (by decide)) kgv_52 (by decide))) (by decide) (by decide)) (hst9) _ _ _ hP hD hS (lv_sub hl [0, 1, 2] rfl)
      · have h_55 : iv 1 1 r_50 := iv_neL c_53 hr_50 (by decide)
        refine lv_aload_n hx hb dX13_step_99 rfl (lv_at hl 2 rfl) ?_
        obtain ⟨hgo9, hsmA⟩ : 0 ≤ (sgv_52 74).toInt ∧ SAMEP sg gm_38 sgv_52 gmv_52 := by { rcases fGt_r_50 with ⟨_, q8, q9⟩ | ⟨q9, _⟩; exact ⟨q8, q9⟩; exact absurd (Int32.toInt_inj.mp q9) c_53 }
        have htA : TOPn sgv_52 = TOPn sg := by unfold TOPn; rw [hsmA.1]
        have h65A : gmv_52 65 = upd (gm 65) _ _ := hsmA.2.2.2.1.trans (show gm_38 65 = upd (gm 65) (z_33 : Int32).toNatClampNeg 1 from ((up_at egm_38).trans (by rw [show gm 65 = gm 65 from rfl])))
        have h64A : gmv_52 64 = gm 64 := hsmA.2.2.1.trans (up_ne egm_38 (by decide))
        have h66A : gmv_52 66 = gm 66 := hsmA.2.2.2.2.1.trans (up_ne egm_38 (by decide))
        have h67A : gmv_52 67 = gm 67 := hsmA.2.2.2.2.2.1.trans (up_ne egm_38 (by decide))
        have h69A : gmv_52 69 = gm 69 := hsmA.2.2.2.2.2.2.2.1.trans (up_ne egm_38 (by decide))
        have h41A : sgv_52 41 = sg 41 := (ksv_52 41 (by decide))
        have hfrA : FR sgv_52 gmv_52 lg (TOPn sgv_52) 1 := by
          unfold FR; rw [htA, h64A, h65A, h66A, h67A, h69A, htop, upd_at]
          exact FRv_k (DK_of (show KS [51, 52, 63, 74] sg sgv_52 from (KS_tr (L := [51, 52, 63, 74]) KS_rf ksv_52 (by decide))) (show KS [62, 64, 65, 66, 67, 68, 69] gm gmv_52 from (KS_tr (L := [62, 64, 65, 66, 67, 68, 69]) (KS_up KS_rf egm_38 (by decide)) kgv_52 (by decide))) (show KS [] lg lg from KS_rf) (by decide) (by decide) (by decide)) (Eq.trans (kgv_52 44 (by decide)) (up_ne egm_38 (by decide))) (Eq.trans (kgv_52 45 (by decide)) (up_ne egm_38 (by decide))) rfl (fun k q9 => by rw [(Eq.trans (kgv_52 60 (by decide)) (up_ne egm_38 (by decide)))]; exact q9) (FRv_p hfr0 (by omega) (by decide))
        refine mr_callv (rest := []) ⟨hx, hb, hml, hown, htb⟩ (f_deliver l dC dI h0 ad cid sgv_52 gmv_52 lg hIv_52 (DOC_of hdoc (show KS [51, 52, 63, 74] sg sgv_52 from (KS_tr (L := [51, 52, 63, 74]) KS_rf ksv_52 (by decide))) (show KS [62, 64, 65, 66, 67, 68, 69] gm gmv_52 from (KS_tr (L := [62, 64, 65, 66, 67, 68, 69]) (KS_up KS_rf egm_38 (by decide)) kgv_52 (by decide))) (show KS [] lg lg from KS_rf) (by decide) (by decide) (by decide) (by decide)) (fGI_r_50.1) (by have q9 := hsmA.1.trans rfl; rw [q9]; exact hh1) hgo9 hfrA (by rw [htA, h65A, htop, upd_at]; decide) (by rw [htA, h64A, h41A]; exact ⟨hpt.2.1, hpt.2.2⟩) ((show iv 0 6 _ from hIv_52.2 67 _ (show _ < 81 from by rw [htA]; exact tl)).1)) (cwV 0 htb (gd_V kw_1174 kw_1175 kw_1176 kw_5 kw_1608) rfl rfl rfl (by decide +kernel) ⟨Nat.le_of_ble_eq_true rfl, Nat.le_of_ble_eq_true rfl⟩) rfl hl.1 rfl (Nat.le_of_ble_eq_true rfl) dX13_step_100 ⟨Nat.zero_le _, Nat.zero_le _⟩ hK hP hD hS hA (fun u_57 H locs hw hP hD hS => ?_)
        obtain ⟨sgv_58, gmv_58, lgv_58, rfl, hIv_58, ksv_58, kgv_58, klv_58, fV2_r_56, fDl_r_56⟩ := hw
        obtain rfl := KS_nil ksv_58
        obtain rfl := KS_nil klv_58
        have hP : va_P (dC, dI) vwCl (mW h0 ad cid sgv_52 gmv_58 lg) H := hP
        have hD : va_D A (mW h0 ad cid sgv_52 gmv_58 lg) := hD
        refine lv_goto (tgt := 349) hx hb dX13_step_103 (by decide) ?_
        have h67a : gmv_58 67 = gm 67 := (DLV_2 fDl_r_56 (by rw [htA, h65A, htop, upd_at]; decide)).trans h67A
        exact hj349 sgv_52 gmv_58 z_34 z_33 hz_34 hz_33 (KS_tr (L := [48, 49, 50, 51, 52, 63, 74]) KS_rf ksv_52 (by decide)) (KS_tr (L := [53, 54, 55, 56, 57, 58, 59, 60, 61, 62, 64, 65, 66, 67, 68, 69, 70, 71, 72, 73, 75]) (KS_tr (L := [53, 54, 55, 56, 57, 58, 59, 60, 61, 62, 64, 65, 66, 67, 68, 69, 70, 71, 72, 73, 75]) (KS_up KS_rf egm_38 (by decide)) kgv_52 (by decide)) kgv_58 (by decide)) hIv_58 (GI0_k fGI_r_50 (DK_of (show KS [] sgv_52 sgv_52 from KS_rf) (show KS [67, 68, 70, 71, 72, 73] gmv_52 gmv_58 from (KS_tr (L := [67, 68, 70, 71, 72, 73]) KS_rf kgv_58 (by decide))) (show KS [] lg lg from KS_rf) (by decide) (by decide) (by decide)) ((show KS [] lg lg from KS_rf) 1 (by decide)) ((show KS [67, 68, 70, 71, 72, 73] gmv_52 gmv_58 from (KS_tr (L := [67, 68, 70, 71, 72, 73]) KS_rf kgv_58 (by decide))) 60 (by decide)) ((show KS [67, 68, 70, 71, 72, 73] gmv_52 gmv_58 from (KS_tr (L := [67, 68, 70, 71, 72, 73]) KS_rf kgv_58 (by decide))) 61 (by decide)) ((show KS [67, 68, 70, 71, 72, 73] gmv_52 gmv_58 from (KS_tr (L := [67, 68, 70, 71, 72, 73]) KS_rf kgv_58 (by decide))) 62 (by decide)) (fV2_r_56) ((show KS [] sgv_52 sgv_52 from KS_rf) 50 (by decide))) (MO_of hmo (show KS [51, 52, 63, 74] sg sgv_52 from (KS_tr (L := [51, 52, 63, 74]) KS_rf ksv_52 (by decide))) (show KS [62, 64, 65, 66, 67, 68, 69, 70, 71, 72, 73] gm gmv_58 from (KS_tr (L := [62, 64, 65, 66, 67, 68, 69, 70, 71, 72, 73]) (KS_tr (L := [62, 64, 65, 66, 67, 68, 69, 70, 71, 72, 73]) (KS_up KS_rf egm_38 (by decide)) kgv_52 (by decide)) kgv_58 (by decide))) (by decide) (by decide)) (Or.inr (ST_ph hI hdoc hinv hh1 (DK_of (show KS [51, 52, 63, 74] sg sgv_52 from (KS_tr (L := [51, 52, 63, 74]) KS_rf ksv_52 (by decide))) (show KS [62, 64, 65, 66, 67, 68, 69, 70, 71, 72, 73] gm gmv_58 from (KS_tr (L := [62, 64, 65, 66, 67, 68, 69, 70, 71, 72, 73]) (KS_tr (L := [62, 64, 65, 66, 67, 68, 69, 70, 71, 72, 73]) (KS_up KS_rf egm_38 (by decide)) kgv_52 (by decide)) kgv_58 (by decide))) (show KS [] lg lg from KS_rf) (by decide) (by decide) (by decide)) (Eq.trans (Eq.trans (kgv_58 44 (by decide)) (kgv_52 44 (by decide))) (up_ne egm_38 (by decide))) (Eq.trans (Eq.trans (kgv_58 45 (by decide)) (kgv_52 45 (by decide))) (up_ne egm_38 (by decide))) rfl (Eq.trans (Eq.trans (kgv_58 60 (by decide)) (kgv_52 60 (by decide))) (up_ne egm_38 (by decide))) (((show KS [] sgv_52 sgv_52 from KS_rf) 63 (by decide)).trans (hsmA.1.trans rfl)) (((show KS [67, 68, 70, 71, 72, 73] gmv_52 gmv_58 from (KS_tr (L := [67, 68, 70, 71, 72, 73]) KS_rf kgv_58 (by decide))) 62 (by decide)).trans (hsmA.2.1.trans (up_ne egm_38 (by decide)))) (((show KS [67, 68, 70, 71, 72, 73] gmv_52 gmv_58 from (KS_tr (L := [67, 68, 70, 71, 72, 73]) KS_rf kgv_58 (by decide))) 64 (by decide)).trans (hsmA.2.2.1.trans (up_ne egm_38 (by decide)))) (((show KS [67, 68, 70, 71, 72, 73] gmv_52 gmv_58 from (KS_tr (L := [67, 68, 70, 71, 72, 73]) KS_rf kgv_58 (by decide))) 65 (by decide)).trans h65A) htop (((show KS [67, 68, 70, 71, 72, 73] gmv_52 gmv_58 from (KS_tr (L := [67, 68, 70, 71, 72, 73]) KS_rf kgv_58 (by decide))) 66 (by decide)).trans (hsmA.2.2.2.2.1.trans (up_ne egm_38 (by decide)))) h67a (((show KS [67, 68, 70, 71, 72, 73] gmv_52 gmv_58 from (KS_tr (L := [67, 68, 70, 71, 72, 73]) KS_rf kgv_58 (by decide))) 69 (by decide)).trans (hsmA.2.2.2.2.2.2.2.1.trans (up_ne egm_38 (by decide)))) (by omega) (by rw [hph9]; rfl))) _ _ _ hP hD hS (lv_sub hl [0, 1, 2] rfl)
  by_cases c_59 : (z_35 : Int32).toInt = 1
  · refine lv_tableIn (tgt := 106) hx hb dX13_step_20 (by rw [c_59]; decide) (by rw [c_59]; decide) (by rw [c_59]; rfl) (by decide) ?_
    have h_60 : iv 1 1 z_35 := iv_at c_59
    have hph9 : (gm 65 (TOPn sg)).toInt = 1 := by rw [← (show z_35 = gm 65 (TOPn sg) from (by have q9 := ez_35; rw [htop] at q9; exact q9))]; exact c_59
    refine lv_aload_n hx hb dX13_step_106 rfl (lv_at hl 2 rfl) ?_
    refine lv_iload_n hx hb dX13_step_107 rfl (lv_at hl 0 rfl) ?_
    refine lv_ldc2 (own := RX13) (v := 427020088179) hx hb hown (htb _ kw_900) dX13_step_108 ?_
    refine mr_calli (rest := []) ⟨hx, hb, hml, hown, htb⟩ (f_tells l dC dI h0 ad cid sg gm lg z_34 427020088179 hI (iv_w hz_34 (by decide)) hbl9 (hdoc.1.2.2.2)) (cwV 2 htb (gd_V kw_1186 kw_1187 kw_1188 kw_5 kw_1612) rfl rfl rfl (by decide +kernel) ⟨Nat.le_of_ble_eq_true rfl, Nat.le_of_ble_eq_true rfl⟩) rfl hl.1 rfl (Nat.le_of_ble_eq_true rfl) dX13_step_111 ⟨Nat.zero_le _, Nat.zero_le _⟩ hK hP hD hS hA (fun r_61 u_62 H locs hw hP hD hS => ?_)
    obtain ⟨hr_61, fL_r_61, rfl⟩ := hw
    have hP : va_P (dC, dI) vwCl (mW h0 ad cid sg gm lg) H := hP
    have hD : va_D A (mW h0 ad cid sg gm lg) := hD
    refine lv_iconst (v := (-1)) hx hb dX13_step_114 (by decide) ?_
    refine lv_icmp_ne (tgt := 135) hx hb dX13_step_115 (by decide) (fun c_63 => ?_) (fun c_63 => ?_)
    · have h_64 : iv 0 79 r_61 := iv_neL c_63 hr_61 (by decide)
      exact hj135 sg z_34 z_33 hz_34 hz_33 KS_rf hI (htop) (heb) (hph9) (hbl9) _ _ _ hP hD hS (lv_sub hl [0, 1, 2] rfl)
    · have h_65 : iv (-1) (-1) r_61 := iv_eq c_63 hr_61 (iv_k (by decide) : iv (-1) (-1) (-1)) (by decide)
      refine lv_aload_n hx hb dX13_step_118 rfl (lv_at hl 2 rfl) ?_
      refine lv_iload_n hx hb dX13_step_119 rfl (lv_at hl 0 rfl) ?_
      refine lv_ldc2 (own := RX13) (v := 28817527407604345) hx hb hown (htb _ kw_905) dX13_step_120 ?_
      refine mr_calli (rest := []) ⟨hx, hb, hml, hown, htb⟩ (f_tells l dC dI h0 ad cid sg gm lg z_34 28817527407604345 hI (iv_w hz_34 (by decide)) hbl9 (hdoc.1.2.2.2)) (cwV 2 htb (gd_V kw_1186 kw_1187 kw_1188 kw_5 kw_1612) rfl rfl rfl (by decide +kernel) ⟨Nat.le_of_ble_eq_true rfl, Nat.le_of_ble_eq_true rfl⟩) rfl hl.1 rfl (Nat.le_of_ble_eq_true rfl) dX13_step_123 ⟨Nat.zero_le _, Nat.zero_le _⟩ hK hP hD hS hA (fun r_66 u_67 H locs hw hP hD hS => ?_)
      obtain ⟨hr_66, fL_r_66, rfl⟩ := hw
      have hP : va_P (dC, dI) vwCl (mW h0 ad cid sg gm lg) H := hP
      have hD : va_D A (mW h0 ad cid sg gm lg) := hD
      refine lv_iconst (v := (-1)) hx hb dX13_step_126 (by decide) ?_
      refine lv_icmp_ne (tgt := 135) hx hb dX13_step_127 (by decide) (fun c_68 => ?_) (fun c_68 => ?_)
      · have h_69 : iv 0 79 r_66 := iv_neL c_68 hr_66 (by decide)
        exact hj135 sg z_34 z_33 hz_34 hz_33 KS_rf hI (htop) (heb) (hph9) (hbl9) _ _ _ hP hD hS (lv_sub hl [0, 1, 2] rfl)
      · have h_70 : iv (-1) (-1) r_66 := iv_eq c_68 hr_66 (iv_k (by decide) : iv (-1) (-1) (-1)) (by decide)
        refine lv_aload_n hx hb dX13_step_130 rfl (lv_at hl 2 rfl) ?_
        refine lv_iconst (v := 4) hx hb dX13_step_131 (by decide) ?_
        refine mr_callv (rest := []) ⟨hx, hb, hml, hown, htb⟩ (f_fails l dC dI h0 ad cid sg gm lg 4 hI (iv_w (iv_k (by decide) : iv 4 4 4) (by decide))) (cwV 1 htb (gd_V kw_1165 kw_1166 kw_1167 kw_5 kw_1605) rfl rfl rfl (by decide +kernel) ⟨Nat.le_of_ble_eq_true rfl, Nat.le_of_ble_eq_true rfl⟩) rfl hl.1 rfl (Nat.le_of_ble_eq_true rfl) dX13_step_132 ⟨Nat.zero_le _, Nat.zero_le _⟩ hK hP hD hS hA (fun u_72 H locs hw hP hD hS => ?_)
        obtain ⟨sgv_73, gmv_73, lgv_73, rfl, hIv_73, ksv_73, kgv_73, klv_73, fFl_r_71⟩ := hw
        obtain rfl := KS_nil kgv_73
        obtain rfl := KS_nil klv_73
        have hP : va_P (dC, dI) vwCl (mW h0 ad cid sgv_73 gm lg) H := hP
        have hD : va_D A (mW h0 ad cid sgv_73 gm lg) := hD
        exact hj135 sgv_73 z_34 z_33 hz_34 hz_33 (KS_tr (L := [51, 52]) KS_rf ksv_73 (by decide)) hIv_73 (htop) (heb) (hph9) (hbl9) _ _ _ hP hD hS (lv_sub hl [0, 1, 2] rfl)
  by_cases c_74 : (z_35 : Int32).toInt = 2
  · refine lv_tableIn (tgt := 206) hx hb dX13_step_20 (by rw [c_74]; decide) (by rw [c_74]; decide) (by rw [c_74]; rfl) (by decide) ?_
    have h_75 : iv 2 2 z_35 := iv_at c_74
    have hph9 : (gm 65 (TOPn sg)).toInt = 2 := by rw [← (show z_35 = gm 65 (TOPn sg) from (by have q9 := ez_35; rw [htop] at q9; exact q9))]; exact c_74
    refine lv_aload_n hx hb dX13_step_206 rfl (lv_at hl 2 rfl) ?_
    refine mr_get (v := .ref (ad 65)) hx hb htb inX13 hown hK hP 65 (by decide) (htb _ kw_214) rfl dX13_step_207 ?_
    refine lv_iload_n hx hb dX13_step_210 rfl (lv_at hl 1 rfl) ?_
    refine lv_iconst (v := 3) hx hb dX13_step_211 (by decide) ?_
    refine ma_iast (x := 3) hx hb hK hP hD hS 50 (k := 65) rfl rfl rfl (show vp_in z_33 81 from (iv_in hz_33 (by decide))) dX13_step_212 (fun gm_76 H locs egm_76 hP hD hS => ?_)
    have hI_gm_76 := MI_st hI egm_76 (iv_k (by decide) : iv 3 3 3) (by decide)
    refine lv_goto (tgt := 349) hx hb dX13_step_213 (by decide) ?_
    exact hj349 sg gm_76 z_34 z_33 hz_34 hz_33 KS_rf (KS_up KS_rf egm_76 (by decide)) hI_gm_76 (GI0_of hgi (show KS [] sg sg from KS_rf) (show KS [65] gm gm_76 from (KS_up KS_rf egm_76 (by decide))) (show KS [] lg lg from KS_rf) (by decide) (by decide) (by decide) (by decide) (by decide) (by decide)) (MO_of hmo (show KS [] sg sg from KS_rf) (show KS [65] gm gm_76 from (KS_up KS_rf egm_76 (by decide))) (by decide) (by decide)) (Or.inr (ST_ph hI hdoc hinv hh1 (DK_of (show KS [] sg sg from KS_rf) (show KS [65] gm gm_76 from (KS_up KS_rf egm_76 (by decide))) (show KS [] lg lg from KS_rf) (by decide) (by decide) (by decide)) (up_ne egm_76 (by decide)) (up_ne egm_76 (by decide)) rfl (up_ne egm_76 (by decide)) rfl (up_ne egm_76 (by decide)) (up_ne egm_76 (by decide)) (show gm_76 65 = upd (gm 65) (z_33 : Int32).toNatClampNeg 3 from ((up_at egm_76).trans (by rw [show gm 65 = gm 65 from rfl]))) htop (up_ne egm_76 (by decide)) (up_ne egm_76 (by decide)) (up_ne egm_76 (by decide)) (by omega) (by rw [hph9]; rfl))) _ _ _ hP hD hS (lv_sub hl [0, 1, 2] rfl)
  by_cases c_77 : (z_35 : Int32).toInt = 3
  · refine lv_tableIn (tgt := 216) hx hb dX13_step_20 (by rw [c_77]; decide) (by rw [c_77]; decide) (by rw [c_77]; rfl) (by decide) ?_
    have h_78 : iv 3 3 z_35 := iv_at c_77
    have hph9 : (gm 65 (TOPn sg)).toInt = 3 := by rw [← (show z_35 = gm 65 (TOPn sg) from (by have q9 := ez_35; rw [htop] at q9; exact q9))]; exact c_77
    refine lv_aload_n hx hb dX13_step_216 rfl (lv_at hl 2 rfl) ?_
    refine mr_get (v := .ref (ad 66)) hx hb htb inX13 hown hK hP 66 (by decide) (htb _ kw_215) rfl dX13_step_217 ?_
    refine lv_iload_n hx hb dX13_step_220 rfl (lv_at hl 1 rfl) ?_
    refine mr_iald hx hb hK hP 51 (k := 66) rfl rfl rfl (show vp_in z_33 81 from (iv_in hz_33 (by decide))) dX13_step_221 ?_
    refine lv_topi (fun z_79 ez_79 => ?_)
    have hz_79 : iv 0 26 z_79 := iv_of ez_79 (MI_a hI 66 hz_33 (by decide))
    refine lv_aload_n hx hb dX13_step_222 rfl (lv_at hl 2 rfl) ?_
    refine lv_iload_n hx hb dX13_step_223 rfl (lv_at hl 0 rfl) ?_
    refine mr_calli (rest := [.int z_79]) ⟨hx, hb, hml, hown, htb⟩ (f_args l dC dI h0 ad cid sg gm lg z_34 hI hz_34 hbl9 (hdoc.1.2.2.2) (hdoc.1.2.1)) (cwV 1 htb (gd_V kw_1189 kw_1190 kw_1191 kw_5 kw_1613) rfl rfl rfl (by decide +kernel) ⟨Nat.le_of_ble_eq_true rfl, Nat.le_of_ble_eq_true rfl⟩) rfl hl.1 rfl (Nat.le_of_ble_eq_true rfl) dX13_step_224 ⟨Nat.zero_le _, Nat.zero_le _⟩ hK hP hD hS hA (fun r_80 u_81 H locs hw hP hD hS => ?_)
    obtain ⟨hr_80, fAa_r_80, fAz_r_80, rfl⟩ := hw
    have hP : va_P (dC, dI) vwCl (mW h0 ad cid sg gm lg) H := hP
    have hD : va_D A (mW h0 ad cid sg gm lg) := hD
    refine lv_icmp_ge (tgt := 263) hx hb dX13_step_227 (by decide) (fun c_82 => ?_) (fun c_82 => ?_)
    · have d_83 : (r_80 : Int32).toInt ≤ (z_79 : Int32).toInt := Int32.le_iff_toInt_le.mp c_82
      have hix9 : z_79 = gm 66 (TOPn sg) := (show z_79 = gm 66 (TOPn sg) from (by have q9 := ez_79; rw [htop] at q9; exact q9))
      have hma9 : mArg sg gm lg (gm 64 (TOPn sg)) (gm 66 (TOPn sg)).toNatClampNeg = -1 := by
        have k1 := iv_cl hz_79 (by decide)
        have k2 := iv_cl hr_80 (by decide)
        have k3 : r_80.toInt ≤ z_79.toInt := by have := i32_0; have := i32_1; have := i32_2; have := i32_m1; have := (h63).1; have := (h63).2; have := (hz_33).1; have := (hz_33).2; have := (hz_34).1; have := (hz_34).2; have := (h_78).1; have := (h_78).2; have := (hz_79).1; have := (hz_79).2; have := (hr_80).1; have := (hr_80).2; omega
        have q8 := fAz_r_80
        rw [heb] at q8
        have q7 : ¬ r_80.toNatClampNeg < (gm 66 (TOPn sg)).toNatClampNeg := fun q6 => hfr0.2.2.1 hph9 _ (Nat.zero_le _) q6 q8
        rw [← hix9] at q7 ⊢
        rw [show z_79.toNatClampNeg = r_80.toNatClampNeg by omega]; exact q8
      refine lv_aload_n hx hb dX13_step_263 rfl (lv_at hl 2 rfl) ?_
      refine lv_iload_n hx hb dX13_step_264 rfl (lv_at hl 0 rfl) ?_
      refine mr_callv (rest := []) ⟨hx, hb, hml, hown, htb⟩ (f_makeObject l dC dI h0 ad cid sg gm lg z_34 hI hz_34 hdoc hgi hPR hh1 hbl9) (cwV 1 htb (gd_V kw_1201 kw_1202 kw_1203 kw_5 kw_1617) rfl rfl rfl (by decide +kernel) ⟨Nat.le_of_ble_eq_true rfl, Nat.le_of_ble_eq_true rfl⟩) rfl hl.1 rfl (Nat.le_of_ble_eq_true rfl) dX13_step_265 ⟨Nat.zero_le _, Nat.zero_le _⟩ hK hP hD hS hA (fun u_85 H locs hw hP hD hS => ?_)
      obtain ⟨sgv_86, gmv_86, lgv_86, rfl, hIv_86, ksv_86, kgv_86, klv_86, fGI_r_84, fMk_r_84⟩ := hw
      obtain rfl := KS_nil klv_86
      have hP : va_P (dC, dI) vwCl (mW h0 ad cid sgv_86 gmv_86 lg) H := hP
      have hD : va_D A (mW h0 ad cid sgv_86 gmv_86 lg) := hD
      refine lv_aload_n hx hb dX13_step_268 rfl (lv_at hl 2 rfl) ?_
      refine mr_get (v := .ref (ad 65)) hx hb htb inX13 hown hK hP 65 (by decide) (htb _ kw_214) rfl dX13_step_269 ?_
      refine lv_iload_n hx hb dX13_step_272 rfl (lv_at hl 1 rfl) ?_
      refine lv_iconst (v := 4) hx hb dX13_step_273 (by decide) ?_
      refine ma_iast (x := 4) hx hb hK hP hD hS 50 (k := 65) rfl rfl rfl (show vp_in z_33 81 from (iv_in hz_33 (by decide))) dX13_step_274 (fun gm_87 H locs egm_87 hP hD hS => ?_)
      have hI_gm_87 := MI_st hIv_86 egm_87 (iv_k (by decide) : iv 4 4 4) (by decide)
      refine lv_aload_n hx hb dX13_step_275 rfl (lv_at hl 2 rfl) ?_
      refine mr_get (v := .ref (ad 66)) hx hb htb inX13 hown hK hP 66 (by decide) (htb _ kw_215) rfl dX13_step_276 ?_
      refine lv_iload_n hx hb dX13_step_279 rfl (lv_at hl 1 rfl) ?_
      refine lv_iconst (v := 0) hx hb dX13_step_280 (by decide) ?_
      refine ma_iast (x := 0) hx hb hK hP hD hS 51 (k := 66) rfl rfl rfl (show vp_in z_33 81 from (iv_in hz_33 (by decide))) dX13_step_281 (fun gm_88 H locs egm_88 hP hD hS => ?_)
      have hI_gm_88 := MI_st hI_gm_87 egm_88 (iv_k (by decide) : iv 0 0 0) (by decide)
      refine lv_goto (tgt := 349) hx hb dX13_step_282 (by decide) ?_
      have hst9 : 1 ≤ (sgv_86 51).toInt ∨ STEP sg gm sgv_86 gm_88 lg := by
        rcases fMk_r_84 with q9 | q9
        · exact Or.inl (by rw [((show KS [] sgv_86 sgv_86 from KS_rf) 51 (by decide))]; exact q9)
        · refine Or.inr (ST_mk hI hdoc hinv hh1 (DK_of (show KS [48, 49, 51, 52] sg sgv_86 from (KS_tr (L := [48, 49, 51, 52]) KS_rf ksv_86 (by decide))) (show KS [53, 54, 55, 56, 57, 58, 60, 65, 66, 69, 75] gm gm_88 from (KS_up (KS_up (KS_tr (L := [53, 54, 55, 56, 57, 58, 60, 65, 66, 69, 75]) KS_rf kgv_86 (by decide)) egm_87 (by decide)) egm_88 (by decide))) (show KS [] lg lg from KS_rf) (by decide) (by decide) (by decide)) (Eq.trans (Eq.trans (up_ne egm_88 (by decide)) (up_ne egm_87 (by decide))) (kgv_86 44 (by decide))) (Eq.trans (Eq.trans (up_ne egm_88 (by decide)) (up_ne egm_87 (by decide))) (kgv_86 45 (by decide))) rfl ?_ (ksv_86 63 (by decide)) (Eq.trans (Eq.trans (up_ne egm_88 (by decide)) (up_ne egm_87 (by decide))) (kgv_86 62 (by decide))) (Eq.trans (Eq.trans (up_ne egm_88 (by decide)) (up_ne egm_87 (by decide))) (kgv_86 64 (by decide))) (show gm_88 65 = upd (gm 65) (z_33 : Int32).toNatClampNeg 4 from ((up_ne egm_88 (by decide)).trans ((up_at egm_87).trans (by rw [show gmv_86 65 = gm 65 from ((kgv_86 65 (by decide)).trans rfl)])))) (show gm_88 66 = upd (gm 66) (z_33 : Int32).toNatClampNeg 0 from ((up_at egm_88).trans (by rw [show gm_87 66 = gm 66 from ((up_ne egm_87 (by decide)).trans ((kgv_86 66 (by decide)).trans rfl))]))) rfl rfl htop (Eq.trans (Eq.trans (up_ne egm_88 (by decide)) (up_ne egm_87 (by decide))) (kgv_86 67 (by decide))) hph9 hma9)
          rw [← heb]; exact MKO_k q9 ((show KS [65, 66] gmv_86 gm_88 from (KS_up (KS_up KS_rf egm_87 (by decide)) egm_88 (by decide))) 69 (by decide)) ((show KS [65, 66] gmv_86 gm_88 from (KS_up (KS_up KS_rf egm_87 (by decide)) egm_88 (by decide))) 60 (by decide))
      exact hj349 sgv_86 gm_88 z_34 z_33 hz_34 hz_33 (KS_tr (L := [48, 49, 50, 51, 52, 63, 74]) KS_rf ksv_86 (by decide)) (KS_up (KS_up (KS_tr (L := [53, 54, 55, 56, 57, 58, 59, 60, 61, 62, 64, 65, 66, 67, 68, 69, 70, 71, 72, 73, 75]) KS_rf kgv_86 (by decide)) egm_87 (by decide)) egm_88 (by decide)) hI_gm_88 (GI0_of fGI_r_84 (show KS [] sgv_86 sgv_86 from KS_rf) (show KS [65, 66] gmv_86 gm_88 from (KS_up (KS_up KS_rf egm_87 (by decide)) egm_88 (by decide))) (show KS [] lg lg from KS_rf) (by decide) (by decide) (by decide) (by decide) (by decide) (by decide)) (MO_of hmo (show KS [48, 49, 51, 52] sg sgv_86 from (KS_tr (L := [48, 49, 51, 52]) KS_rf ksv_86 (by decide))) (show KS [53, 54, 55, 56, 57, 58, 60, 65, 66, 69, 75] gm gm_88 from (KS_up (KS_up (KS_tr (L := [53, 54, 55, 56, 57, 58, 60, 65, 66, 69, 75]) KS_rf kgv_86 (by decide)) egm_87 (by decide)) egm_88 (by decide))) (by decide) (by decide)) (hst9) _ _ _ hP hD hS (lv_sub hl [0, 1, 2] rfl)
    · have d_89 : (z_79 : Int32).toInt < (r_80 : Int32).toInt := Int32.lt_iff_toInt_lt.mp (i32_lt c_82)
      have h_90 : iv 0 3 z_79 := iv_ltL (i32_lt c_82) hz_79 hr_80 (by decide)
      have h_91 : iv 1 4 r_80 := iv_ltR (i32_lt c_82) hz_79 hr_80 (by decide)
      refine lv_aload_n hx hb dX13_step_230 rfl (lv_at hl 2 rfl) ?_
      refine lv_aload_n hx hb dX13_step_231 rfl (lv_at hl 2 rfl) ?_
      refine lv_aload_n hx hb dX13_step_232 rfl (lv_at hl 2 rfl) ?_
      refine lv_iload_n hx hb dX13_step_233 rfl (lv_at hl 0 rfl) ?_
      refine lv_aload_n hx hb dX13_step_234 rfl (lv_at hl 2 rfl) ?_
      refine mr_get (v := .ref (ad 66)) hx hb htb inX13 hown hK hP 66 (by decide) (htb _ kw_215) rfl dX13_step_235 ?_
      refine lv_iload_n hx hb dX13_step_238 rfl (lv_at hl 1 rfl) ?_
      refine mr_iald hx hb hK hP 51 (k := 66) rfl rfl rfl (show vp_in z_33 81 from (iv_in hz_33 (by decide))) dX13_step_239 ?_
      refine lv_topi (fun z_92 ez_92 => ?_)
      obtain rfl : z_79 = z_92 := ez_79.trans ez_92.symm
      refine mr_calli (rest := [.ref h0, .ref h0]) ⟨hx, hb, hml, hown, htb⟩ (f_arg l dC dI h0 ad cid sg gm lg z_34 z_79 hI hz_34 (iv_w h_90 (by decide)) hbl9 (hdoc.1.2.2.2)) (cwV 2 htb (gd_V kw_1177 kw_1178 kw_1179 kw_5 kw_1609) rfl rfl rfl (by decide +kernel) ⟨Nat.le_of_ble_eq_true rfl, Nat.le_of_ble_eq_true rfl⟩) rfl hl.1 rfl (Nat.le_of_ble_eq_true rfl) dX13_step_240 ⟨Nat.zero_le _, Nat.zero_le _⟩ hK hP hD hS hA (fun r_93 u_94 H locs hw hP hD hS => ?_)
      obtain ⟨hr_93, fR_r_93, rfl⟩ := hw
      have hP : va_P (dC, dI) vwCl (mW h0 ad cid sg gm lg) H := hP
      have hD : va_D A (mW h0 ad cid sg gm lg) := hD
      have hix9 : z_79 = gm 66 (TOPn sg) := (show z_79 = gm 66 (TOPn sg) from (by have q9 := ez_79; rw [htop] at q9; exact q9))
      have hra9 := fR_r_93
      have hne9 : ¬ r_93 = -1 := by rw [hra9]; exact fAa_r_80 _ (Nat.zero_le _) (lt_cl h_90 hr_80 (by decide) (by decide) (by have := i32_0; have := i32_1; have := i32_2; have := i32_m1; have := (h63).1; have := (h63).2; have := (hz_33).1; have := (hz_33).2; have := (hz_34).1; have := (hz_34).2; have := (h_78).1; have := (h_78).2; have := (h_90).1; have := (h_90).2; have := (h_91).1; have := (h_91).2; have := (hr_93).1; have := (hr_93).2; omega))
      obtain ⟨ha1, ha2, ha3⟩ := arg_el (show iv 0 80 (sg 24) from MI_s hI 24) hra9 (by rw [← hra9]; exact hne9)
      refine lv_iconst (v := 5) hx hb dX13_step_243 (by decide) ?_
      refine lv_iload_n hx hb dX13_step_244 rfl (lv_at hl 1 rfl) ?_
      refine lv_imul hx hb dX13_step_245 ?_
      refine lv_topi (fun z_95 ez_95 => ?_)
      have hz_95 : iv 0 395 z_95 := iv_of ez_95 (iv_mul (iv_k (by decide) : iv 5 5 5) hz_33 (by decide))
      have tz_95 : z_95.toInt = 5 * (z_33 : Int32).toInt := by rw [ez_95]; exact iv_mulE (iv_k (by decide) : iv 5 5 5) hz_33 (by decide)
      refine lv_aload_n hx hb dX13_step_246 rfl (lv_at hl 2 rfl) ?_
      refine mr_get (v := .ref (ad 66)) hx hb htb inX13 hown hK hP 66 (by decide) (htb _ kw_215) rfl dX13_step_247 ?_
      refine lv_iload_n hx hb dX13_step_250 rfl (lv_at hl 1 rfl) ?_
      refine mr_iald hx hb hK hP 51 (k := 66) rfl rfl rfl (show vp_in z_33 81 from (iv_in hz_33 (by decide))) dX13_step_251 ?_
      refine lv_topi (fun z_96 ez_96 => ?_)
      obtain rfl : z_79 = z_96 := ez_79.trans ez_96.symm
      refine lv_iadd hx hb dX13_step_252 ?_
      refine lv_topi (fun z_97 ez_97 => ?_)
      have hz_97 : iv 0 398 z_97 := iv_of ez_97 (iv_add hz_95 h_90 (by decide))
      have tz_97 : z_97.toInt = (z_95 : Int32).toInt + (z_79 : Int32).toInt := by rw [ez_97]; exact iv_addE hz_95 h_90 (by decide)
      refine mr_calli (rest := [.ref h0]) ⟨hx, hb, hml, hown, htb⟩ (f_workedOut l dC dI h0 ad cid sg gm lg r_93 z_97 hI ha1 (iv_w hz_97 (by decide)) hdoc ha2 hgi hpi hh1 (Or.inl (by rw [ha3]; rfl)) ((FR_30 hfr0 hph9 (by rw [← heb, ← hix9]; exact hra9) hne9).1)) (cwV 2 htb (gd_V kw_1192 kw_1193 kw_1194 kw_5 kw_1614) rfl rfl rfl (by decide +kernel) ⟨Nat.le_of_ble_eq_true rfl, Nat.le_of_ble_eq_true rfl⟩) rfl hl.1 rfl (Nat.le_of_ble_eq_true rfl) dX13_step_253 ⟨Nat.zero_le _, Nat.zero_le _⟩ hK hP hD hS hA (fun r_98 u_99 H locs hw hP hD hS => ?_)
      obtain ⟨sgv_100, gmv_100, lgv_100, rfl, hIv_100, ksv_100, kgv_100, klv_100, hr_98, fGI_r_98, fWo_r_98⟩ := hw
      obtain rfl := KS_nil klv_100
      have hP : va_P (dC, dI) vwCl (mW h0 ad cid sgv_100 gmv_100 lg) H := hP
      have hD : va_D A (mW h0 ad cid sgv_100 gmv_100 lg) := hD
      refine lv_iload_n hx hb dX13_step_256 rfl (lv_at hl 1 rfl) ?_
      refine mr_callv (rest := []) ⟨hx, hb, hml, hown, htb⟩ (f_next l dC dI h0 ad cid sgv_100 gmv_100 lg r_98 z_33 hIv_100 hr_98 hz_33 (by rcases fWo_r_98 with ⟨_, q8⟩ | ⟨q8, _⟩; (exact Or.inl (by rw [htop, q8.2.2.2.2.1]; have := congrArg Int32.toInt hix9; have := (h_90).2; omega)); exact Or.inr q8)) (cwV 2 htb (gd_V kw_1198 kw_1199 kw_1200 kw_5 kw_1616) rfl rfl rfl (by decide +kernel) ⟨Nat.le_of_ble_eq_true rfl, Nat.le_of_ble_eq_true rfl⟩) rfl hl.1 rfl (Nat.le_of_ble_eq_true rfl) dX13_step_257 ⟨Nat.zero_le _, Nat.zero_le _⟩ hK hP hD hS hA (fun u_102 H locs hw hP hD hS => ?_)
      obtain ⟨sgv_103, gmv_103, lgv_103, rfl, hIv_103, ksv_103, kgv_103, klv_103, fNx_r_101⟩ := hw
      obtain rfl := KS_nil ksv_103
      obtain rfl := KS_nil klv_103
      have hP : va_P (dC, dI) vwCl (mW h0 ad cid sgv_100 gmv_103 lg) H := hP
      have hD : va_D A (mW h0 ad cid sgv_100 gmv_103 lg) := hD
      refine lv_goto (tgt := 349) hx hb dX13_step_260 (by decide) ?_
      exact hj349 sgv_100 gmv_103 z_34 z_33 hz_34 hz_33 (KS_tr (L := [48, 49, 50, 51, 52, 63, 74]) KS_rf ksv_100 (by decide)) (KS_tr (L := [53, 54, 55, 56, 57, 58, 59, 60, 61, 62, 64, 65, 66, 67, 68, 69, 70, 71, 72, 73, 75]) (KS_tr (L := [53, 54, 55, 56, 57, 58, 59, 60, 61, 62, 64, 65, 66, 67, 68, 69, 70, 71, 72, 73, 75]) KS_rf kgv_100 (by decide)) kgv_103 (by decide)) hIv_103 (GI0_of fGI_r_98 (show KS [] sgv_100 sgv_100 from KS_rf) (show KS [66, 67] gmv_100 gmv_103 from (KS_tr (L := [66, 67]) KS_rf kgv_103 (by decide))) (show KS [] lg lg from KS_rf) (by decide) (by decide) (by decide) (by decide) (by decide) (by decide)) (MO_of hmo (show KS [51, 52, 63, 74] sg sgv_100 from (KS_tr (L := [51, 52, 63, 74]) KS_rf ksv_100 (by decide))) (show KS [62, 64, 65, 66, 67, 68, 69, 70, 71, 72, 73] gm gmv_103 from (KS_tr (L := [62, 64, 65, 66, 67, 68, 69, 70, 71, 72, 73]) (KS_tr (L := [62, 64, 65, 66, 67, 68, 69, 70, 71, 72, 73]) KS_rf kgv_100 (by decide)) kgv_103 (by decide))) (by decide) (by decide)) (ST_wox hI hdoc hinv hh1 (DK_of (show KS [51, 52, 63, 74] sg sgv_100 from (KS_tr (L := [51, 52, 63, 74]) KS_rf ksv_100 (by decide))) (show KS [62, 64, 65, 66, 67, 68, 69, 70, 71, 72, 73] gm gmv_103 from (KS_tr (L := [62, 64, 65, 66, 67, 68, 69, 70, 71, 72, 73]) (KS_tr (L := [62, 64, 65, 66, 67, 68, 69, 70, 71, 72, 73]) KS_rf kgv_100 (by decide)) kgv_103 (by decide))) (show KS [] lg lg from KS_rf) (by decide) (by decide) (by decide)) (Eq.trans (kgv_103 44 (by decide)) (kgv_100 44 (by decide))) (Eq.trans (kgv_103 45 (by decide)) (kgv_100 45 (by decide))) rfl (Eq.trans (kgv_103 60 (by decide)) (kgv_100 60 (by decide))) (WOX_0 fWo_r_98) (by have q9 := (FR_30 hfr0 hph9 (by rw [← heb, ← hix9]; exact hra9) hne9).2; exact q9) (by omega) htop ((show KS [] sgv_100 sgv_100 from KS_rf) 63 (by decide)) ((show KS [66, 67] gmv_100 gmv_103 from (KS_tr (L := [66, 67]) KS_rf kgv_103 (by decide))) 62 (by decide)) ((show KS [66, 67] gmv_100 gmv_103 from (KS_tr (L := [66, 67]) KS_rf kgv_103 (by decide))) 64 (by decide)) ((show KS [66, 67] gmv_100 gmv_103 from (KS_tr (L := [66, 67]) KS_rf kgv_103 (by decide))) 65 (by decide)) ((show KS [66, 67] gmv_100 gmv_103 from (KS_tr (L := [66, 67]) KS_rf kgv_103 (by decide))) 69 (by decide)) ((show KS [] sgv_100 sgv_100 from KS_rf) 51 (by decide)) (fNx_r_101) (by have := congrArg Int32.toInt hix9; have := (h_90).2; omega) (fun _ => by rw [← heb, ← hix9, ← hra9]; exact hne9) (fun q9 => by omega)) _ _ _ hP hD hS (lv_sub hl [0, 1, 2] rfl)
  refine lv_tableOut (tgt := 285) hx hb dX13_step_20 (by have q1 := (hz_35).1; have q2 := (hz_35).2; omega) (by decide) ?_
  have h_104 : iv 4 4 z_35 := ⟨by have q1 := (hz_35).1; have q2 := (hz_35).2; omega, by have q1 := (hz_35).1; have q2 := (hz_35).2; omega⟩
  have hph9 : (gm 65 (TOPn sg)).toInt = 4 := by rw [← (show z_35 = gm 65 (TOPn sg) from (by have q9 := ez_35; rw [htop] at q9; exact q9))]; have := (h_104).1; have := (h_104).2; omega
  refine lv_aload_n hx hb dX13_step_285 rfl (lv_at hl 2 rfl) ?_
  refine mr_get (v := .ref (ad 66)) hx hb htb inX13 hown hK hP 66 (by decide) (htb _ kw_215) rfl dX13_step_286 ?_
  refine lv_iload_n hx hb dX13_step_289 rfl (lv_at hl 1 rfl) ?_
  refine mr_iald hx hb hK hP 51 (k := 66) rfl rfl rfl (show vp_in z_33 81 from (iv_in hz_33 (by decide))) dX13_step_290 ?_
  refine lv_topi (fun z_105 ez_105 => ?_)
  have hz_105 : iv 0 26 z_105 := iv_of ez_105 (MI_a hI 66 hz_33 (by decide))
  refine lv_aload_n hx hb dX13_step_291 rfl (lv_at hl 2 rfl) ?_
  refine mr_get (v := .ref (ad 44)) hx hb htb inX13 hown hK hP 44 (by decide) (htb _ kw_198) rfl dX13_step_292 ?_
  refine lv_iload_n hx hb dX13_step_295 rfl (lv_at hl 0 rfl) ?_
  refine mr_iald hx hb hK hP 35 (k := 44) rfl rfl rfl (show vp_in z_34 80 from (iv_in hz_34 (by decide))) dX13_step_296 ?_
  refine lv_topi (fun z_106 ez_106 => ?_)
  have hz_106 : iv 0 26 z_106 := iv_of ez_106 (MI_a hI 44 hz_34 (by decide))
  refine lv_icmp_ne (tgt := 308) hx hb dX13_step_297 (by decide) (fun c_107 => ?_) (fun c_107 => ?_)
  · have hix9 : z_105 = gm 66 (TOPn sg) := (show z_105 = gm 66 (TOPn sg) from (by have q9 := ez_105; rw [htop] at q9; exact q9))
    have h44e : z_106 = gm 44 (gm 64 (TOPn sg)).toNatClampNeg := by rw [← heb]; exact ez_106
    have h4l : (gm 66 (TOPn sg)).toInt < (gm 44 (gm 64 (TOPn sg)).toNatClampNeg).toInt := by
      have q9 := (hfr0.2.2.2 hph9).1
      have q8 : ¬ (gm 66 (TOPn sg)).toInt = (gm 44 (gm 64 (TOPn sg)).toNatClampNeg).toInt := fun q7 => c_107 (by rw [hix9, h44e]; exact Int32.toInt_inj.mp q7)
      omega
    have h308 : iv 0 25 z_105 := ⟨(hz_105).1, by have q9 := congrArg Int32.toInt hix9; have q8 := congrArg Int32.toInt h44e; have := (hz_106).2; omega⟩
    refine lv_aload_n hx hb dX13_step_308 rfl (lv_at hl 2 rfl) ?_
    refine lv_aload_n hx hb dX13_step_309 rfl (lv_at hl 2 rfl) ?_
    refine mr_get (v := .ref (ad 45)) hx hb htb inX13 hown hK hP 45 (by decide) (htb _ kw_199) rfl dX13_step_310 ?_
    refine lv_bipush (v := 26) hx hb dX13_step_313 (by decide) ?_
    refine lv_iload_n hx hb dX13_step_315 rfl (lv_at hl 0 rfl) ?_
    refine lv_imul hx hb dX13_step_316 ?_
    refine lv_topi (fun z_108 ez_108 => ?_)
    have hz_108 : iv 0 2054 z_108 := iv_of ez_108 (iv_mul (iv_k (by decide) : iv 26 26 26) hz_34 (by decide))
    have tz_108 : z_108.toInt = 26 * (z_34 : Int32).toInt := by rw [ez_108]; exact iv_mulE (iv_k (by decide) : iv 26 26 26) hz_34 (by decide)
    refine lv_aload_n hx hb dX13_step_317 rfl (lv_at hl 2 rfl) ?_
    refine mr_get (v := .ref (ad 66)) hx hb htb inX13 hown hK hP 66 (by decide) (htb _ kw_215) rfl dX13_step_318 ?_
    refine lv_iload_n hx hb dX13_step_321 rfl (lv_at hl 1 rfl) ?_
    refine mr_iald hx hb hK hP 51 (k := 66) rfl rfl rfl (show vp_in z_33 81 from (iv_in hz_33 (by decide))) dX13_step_322 ?_
    refine lv_topi (fun z_109 ez_109 => ?_)
    obtain rfl : z_105 = z_109 := ez_105.trans ez_109.symm
    refine lv_iadd hx hb dX13_step_323 ?_
    refine lv_topi (fun z_110 ez_110 => ?_)
    have hz_110 : iv 0 2079 z_110 := iv_of ez_110 (iv_add hz_108 h308 (by decide))
    have tz_110 : z_110.toInt = (z_108 : Int32).toInt + (z_105 : Int32).toInt := by rw [ez_110]; exact iv_addE hz_108 h308 (by decide)
    refine mr_iald hx hb hK hP 36 (k := 45) rfl rfl rfl (show vp_in z_110 2080 from (iv_in hz_110 (by decide))) dX13_step_324 ?_
    refine lv_topi (fun z_111 ez_111 => ?_)
    have hz_111 : iv 0 79 z_111 := iv_of ez_111 (MI_a hI 45 hz_110 (by decide))
    refine lv_iconst (v := 5) hx hb dX13_step_325 (by decide) ?_
    refine lv_iload_n hx hb dX13_step_326 rfl (lv_at hl 1 rfl) ?_
    refine lv_imul hx hb dX13_step_327 ?_
    refine lv_topi (fun z_112 ez_112 => ?_)
    have hz_112 : iv 0 395 z_112 := iv_of ez_112 (iv_mul (iv_k (by decide) : iv 5 5 5) hz_33 (by decide))
    have tz_112 : z_112.toInt = 5 * (z_33 : Int32).toInt := by rw [ez_112]; exact iv_mulE (iv_k (by decide) : iv 5 5 5) hz_33 (by decide)
    refine lv_iconst (v := 4) hx hb dX13_step_328 (by decide) ?_
    refine lv_iadd hx hb dX13_step_329 ?_
    refine lv_topi (fun z_113 ez_113 => ?_)
    have hz_113 : iv 4 399 z_113 := iv_of ez_113 (iv_add hz_112 (iv_k (by decide) : iv 4 4 4) (by decide))
    have tz_113 : z_113.toInt = (z_112 : Int32).toInt + 4 := by rw [ez_113]; exact iv_addE hz_112 (iv_k (by decide) : iv 4 4 4) (by decide)
    have he45 : z_111 = gm 45 (26 * (gm 64 (TOPn sg)).toNatClampNeg + (gm 66 (TOPn sg)).toNatClampNeg) := by rw [ez_111, cl_add hz_108 h308 (by decide) (by decide) tz_110, cl26 hz_34 tz_108, heb, hix9]
    have hsek : SEK sg gm 5 z_111 := by
      rw [he45]
      have k1 := cl_0 (x := sg 41) (by have := hpt.2.1.1; have := hpt.2.2; omega)
      have k2 := iv_cl hpt.2.1 (by decide)
      have k3 := cl_0 (x := gm 66 (TOPn sg)) (by have := congrArg Int32.toInt hix9; have := h308.1; omega)
      have k4 := cl_0 (x := gm 44 (gm 64 (TOPn sg)).toNatClampNeg) (by omega)
      exact hdoc.2 _ (by have := hpt.2.2; omega) _ (by omega)
    obtain ⟨hlit, hlim9⟩ := FR_40 hfr0 hph9 h4l he45
    refine mr_calli (rest := []) ⟨hx, hb, hml, hown, htb⟩ (f_workedOut l dC dI h0 ad cid sg gm lg z_111 z_113 hI hz_111 (iv_w hz_113 (by decide)) hdoc hsek.2.2 hgi hpi hh1 (Or.inr (by rw [hsek.2.1]; rfl)) hlit) (cwV 2 htb (gd_V kw_1192 kw_1193 kw_1194 kw_5 kw_1614) rfl rfl rfl (by decide +kernel) ⟨Nat.le_of_ble_eq_true rfl, Nat.le_of_ble_eq_true rfl⟩) rfl hl.1 rfl (Nat.le_of_ble_eq_true rfl) dX13_step_330 ⟨Nat.zero_le _, Nat.zero_le _⟩ hK hP hD hS hA (fun r_114 u_115 H locs hw hP hD hS => ?_)
    obtain ⟨sgv_116, gmv_116, lgv_116, rfl, hIv_116, ksv_116, kgv_116, klv_116, hr_114, fGI_r_114, fWo_r_114⟩ := hw
    obtain rfl := KS_nil klv_116
    have hP : va_P (dC, dI) vwCl (mW h0 ad cid sgv_116 gmv_116 lg) H := hP
    have hD : va_D A (mW h0 ad cid sgv_116 gmv_116 lg) := hD
    refine lv_istore_n (lv' := [(3, .int r_114), (2, .int z_34), (1, .int z_33), (0, .ref h0)]) hx hb dX13_step_333 rfl hl (by decide) rfl (fun ls hl => ?_)
    refine lv_iload_n hx hb dX13_step_334 rfl (lv_at hl 0 rfl) ?_
    refine lv_if_eq (tgt := 343) hx hb dX13_step_335 (by decide) (fun c_117 => ?_) (fun c_117 => ?_)
    · have h_118 : iv 0 0 r_114 := iv_eq c_117 hr_114 (iv_k (by decide) : iv 0 0 0) (by decide)
      exact hj343 sgv_116 gmv_116 r_114 z_34 z_33 (iv_w h_118 (by decide)) hz_34 hz_33 (KS_tr (L := [49, 51, 52, 63, 74]) KS_rf ksv_116 (by decide)) (KS_tr (L := [55, 56, 57, 58, 62, 64, 65, 66, 67, 68, 69, 70, 71, 72, 73]) KS_rf kgv_116 (by decide)) hIv_116 (htop) (hph9) (h4l) (by have := congrArg Int32.toInt hix9; have := h308.2; omega) (by rw [hlim9]; exact WOX_0 fWo_r_114) (fGI_r_114) _ _ _ hP hD hS (lv_sub hl [0, 1, 2, 3] rfl)
    · have h_119 : iv 1 1 r_114 := iv_neL c_117 hr_114 (by decide)
      refine lv_aload_n hx hb dX13_step_338 rfl (lv_at hl 3 rfl) ?_
      refine lv_iload_n hx hb dX13_step_339 rfl (lv_at hl 1 rfl) ?_
      have hsq9 := WOUT_1 fWo_r_114 c_117
      have htq9 : TOPn sgv_116 = TOPn sg := by unfold TOPn; rw [hsq9.1]
      refine mr_callv (rest := []) ⟨hx, hb, hml, hown, htb⟩ (f_setOne l dC dI h0 ad cid sgv_116 gmv_116 lg z_34 hIv_116 hz_34 (DOC_of hdoc (show KS [51, 52, 63, 74] sg sgv_116 from (KS_tr (L := [51, 52, 63, 74]) KS_rf ksv_116 (by decide))) (show KS [62, 64, 65, 66, 67, 68, 69, 70, 71, 72, 73] gm gmv_116 from (KS_tr (L := [62, 64, 65, 66, 67, 68, 69, 70, 71, 72, 73]) KS_rf kgv_116 (by decide))) (show KS [] lg lg from KS_rf) (by decide) (by decide) (by decide) (by decide)) (fGI_r_114.1) (by have q9 : PR gm := hPR; unfold PR at *; rw [(kgv_116 6 (by decide))]; exact q9) (by rw [hsq9.1]; exact hh1) (by rw [htq9, hsq9.2.2.2.2.2.2.1]; exact (hfr0.2.2.2 hph9).2.1) (by rw [htq9, hsq9.2.2.2.2.1]; have := congrArg Int32.toInt hix9; have := h308.2; omega)) (cwV 1 htb (gd_V kw_1257 kw_1258 kw_1259 kw_5 kw_1634) rfl rfl rfl (by decide +kernel) ⟨Nat.le_of_ble_eq_true rfl, Nat.le_of_ble_eq_true rfl⟩) rfl hl.1 rfl (Nat.le_of_ble_eq_true rfl) dX13_step_340 ⟨Nat.zero_le _, Nat.zero_le _⟩ hK hP hD hS hA (fun u_121 H locs hw hP hD hS => ?_)
      obtain ⟨sgv_122, gmv_122, lgv_122, rfl, hIv_122, ksv_122, kgv_122, klv_122⟩ := hw
      obtain rfl := KS_nil klv_122
      have hP : va_P (dC, dI) vwCl (mW h0 ad cid sgv_122 gmv_122 lg) H := hP
      have hD : va_D A (mW h0 ad cid sgv_122 gmv_122 lg) := hD
      exact hj343 sgv_122 gmv_122 r_114 z_34 z_33 (iv_w h_119 (by decide)) hz_34 hz_33 (KS_tr (L := [49, 51, 52, 63, 74]) (KS_tr (L := [49, 51, 52, 63, 74]) KS_rf ksv_116 (by decide)) ksv_122 (by decide)) (KS_tr (L := [55, 56, 57, 58, 62, 64, 65, 66, 67, 68, 69, 70, 71, 72, 73]) (KS_tr (L := [55, 56, 57, 58, 62, 64, 65, 66, 67, 68, 69, 70, 71, 72, 73]) KS_rf kgv_116 (by decide)) kgv_122 (by decide)) hIv_122 (htop) (hph9) (h4l) (by have := congrArg Int32.toInt hix9; have := h308.2; omega) (by rw [hlim9]; exact WOX_s hf0 fWo_r_114 c_117 ((show KS [49, 51, 52] sgv_116 sgv_122 from (KS_tr (L := [49, 51, 52]) KS_rf ksv_122 (by decide))) 63 (by decide)) ((show KS [55, 56, 57, 58] gmv_116 gmv_122 from (KS_tr (L := [55, 56, 57, 58]) KS_rf kgv_122 (by decide))) 62 (by decide)) ((show KS [55, 56, 57, 58] gmv_116 gmv_122 from (KS_tr (L := [55, 56, 57, 58]) KS_rf kgv_122 (by decide))) 64 (by decide)) ((show KS [55, 56, 57, 58] gmv_116 gmv_122 from (KS_tr (L := [55, 56, 57, 58]) KS_rf kgv_122 (by decide))) 65 (by decide)) ((show KS [55, 56, 57, 58] gmv_116 gmv_122 from (KS_tr (L := [55, 56, 57, 58]) KS_rf kgv_122 (by decide))) 66 (by decide)) ((show KS [55, 56, 57, 58] gmv_116 gmv_122 from (KS_tr (L := [55, 56, 57, 58]) KS_rf kgv_122 (by decide))) 67 (by decide)) ((show KS [55, 56, 57, 58] gmv_116 gmv_122 from (KS_tr (L := [55, 56, 57, 58]) KS_rf kgv_122 (by decide))) 69 (by decide))) (GI0_of fGI_r_114 (show KS [49, 51, 52] sgv_116 sgv_122 from (KS_tr (L := [49, 51, 52]) KS_rf ksv_122 (by decide))) (show KS [55, 56, 57, 58] gmv_116 gmv_122 from (KS_tr (L := [55, 56, 57, 58]) KS_rf kgv_122 (by decide))) (show KS [] lg lg from KS_rf) (by decide) (by decide) (by decide) (by decide) (by decide) (by decide)) _ _ _ hP hD hS (lv_sub hl [0, 1, 2, 3] rfl)
  · have d_123 : (z_105 : Int32).toInt = (z_106 : Int32).toInt := congrArg Int32.toInt c_107
    refine lv_aload_n hx hb dX13_step_300 rfl (lv_at hl 2 rfl) ?_
    refine lv_iload_n hx hb dX13_step_301 rfl (lv_at hl 0 rfl) ?_
    refine mr_callv (rest := []) ⟨hx, hb, hml, hown, htb⟩ (f_finish l dC dI h0 ad cid sg gm lg z_34 hI hz_34 hdoc hgi hh1 hpi hmo heb ((hfr0.2.2.2 hph9).2.1) (by rw [heb]; exact (hfr0.2.2.2 hph9).2.2) (by by_cases q9 : (sg 63).toInt = 1; exact Or.inl q9; exact Or.inr ⟨hinv.1.2.1 _ (by have := cl_0 (x := sg 63) (by omega); unfold TOPn; omega), hinv.2 _ (by have := cl_0 (x := sg 63) (by omega); unfold TOPn; omega)⟩)) (cwV 1 htb (gd_V kw_1254 kw_1255 kw_1256 kw_5 kw_1633) rfl rfl rfl (by decide +kernel) ⟨Nat.le_of_ble_eq_true rfl, Nat.le_of_ble_eq_true rfl⟩) rfl hl.1 rfl (Nat.le_of_ble_eq_true rfl) dX13_step_302 ⟨Nat.zero_le _, Nat.zero_le _⟩ hK hP hD hS hA (fun u_125 H locs hw hP hD hS => ?_)
    obtain ⟨sgv_126, gmv_126, lgv_126, rfl, hIv_126, ksv_126, kgv_126, klv_126, fGI_r_124, fFn_r_124, fMo_r_124⟩ := hw
    obtain rfl := KS_nil klv_126
    have hP : va_P (dC, dI) vwCl (mW h0 ad cid sgv_126 gmv_126 lg) H := hP
    have hD : va_D A (mW h0 ad cid sgv_126 gmv_126 lg) := hD
    refine lv_goto (tgt := 349) hx hb dX13_step_305 (by decide) ?_
    exact hj349 sgv_126 gmv_126 z_34 z_33 hz_34 hz_33 (KS_tr (L := [48, 49, 50, 51, 52, 63, 74]) KS_rf ksv_126 (by decide)) (KS_tr (L := [53, 54, 55, 56, 57, 58, 59, 60, 61, 62, 64, 65, 66, 67, 68, 69, 70, 71, 72, 73, 75]) KS_rf kgv_126 (by decide)) hIv_126 (fGI_r_124) (fMo_r_124) (Or.inr (ST_pop hI hinv hh1 (DK_of (show KS [49, 50, 63, 74] sg sgv_126 from (KS_tr (L := [49, 50, 63, 74]) KS_rf ksv_126 (by decide))) (show KS [55, 56, 57, 58, 59, 61, 62, 67, 68, 70, 71, 72, 73] gm gmv_126 from (KS_tr (L := [55, 56, 57, 58, 59, 61, 62, 67, 68, 70, 71, 72, 73]) KS_rf kgv_126 (by decide))) (show KS [] lg lg from KS_rf) (by decide) (by decide) (by decide)) (kgv_126 44 (by decide)) (kgv_126 45 (by decide)) rfl (kgv_126 60 (by decide)) (by rw [← heb]; exact fFn_r_124) (kgv_126 64 (by decide)) (kgv_126 65 (by decide)) (kgv_126 66 (by decide)) (kgv_126 69 (by decide)))) _ _ _ hP hD hS (lv_sub hl [0, 1, 2] rfl)
