section
section MO9
variable {ws : Nat → Int32} {wg rg gm gm2 : Nat → Nat → Int32} {wl : Nat → Nat → Int64} {rs sg sg2 : Nat → Int32} {lg : Nat → Nat → Int64} {S : S9} {b s : Nat} {vs : List (List Int)} {fo : Int}
/-- an object more -/
theorem RR_ob {k j : Nat} {c d o : Int32} (h : RR wg wl S sg gm) (e41 : sg2 41 = sg 41) (e49 : sg2 49 = sg 49) (e50 : sg2 50 = sg 50) (e48 : (sg2 48).toInt = (sg 48).toInt + 1)
    (h53 : gm2 53 = upd (gm 53) k c) (h54 : gm2 54 = upd (gm 54) k d) (h60 : (gm2 60 = upd (gm 60) j o ∧ one9 wg wl b) ∨ (gm2 60 = gm 60 ∧ ¬ one9 wg wl b)) (hj : j = b) (hk : k = (sg 48).toNatClampNeg) (h0 : 0 ≤ (sg 48).toInt)
    (h55 : gm2 55 = gm 55) (h56 : gm2 56 = gm 56) (h57 : gm2 57 = gm 57) (h58 : gm2 58 = gm 58) (h59 : gm2 59 = gm 59) (h61 : gm2 61 = gm 61) (h62 : gm2 62 = gm 62)
    (hc : c.toInt = (wg 10 s).toInt) (hd : d.toInt = (wg 28 b).toInt) (ho : o.toInt = (sg 48).toInt) (hs : zS S b = 1) : RR wg wl (oB1 wg b s S) sg2 gm2 := by
  obtain ⟨hO, hE, hB, hF⟩ := h
  have c1 := cln9 h0
  have l1 := hO.1
  subst hj
  refine ⟨⟨?_, ?_⟩, ?_, ?_, ?_⟩
  · rw [e48, l1]
    show _ = ((zO S ++ [_]).length : Int)
    rw [List.length_append]; rfl
  · intro i x hx
    have hx : (zO S ++ [((wg 10 s).toInt, (wg 28 j).toInt)])[i]? = some x := hx
    rw [h53, h54]
    rcases ga9 hx with ⟨hl, hx⟩ | ⟨hl, hx⟩
    · rw [upd_ne (by omega), upd_ne (by omega)]
      exact hO.2 i x hx
    · subst hx
      have e9 : i = k := by omega
      subst e9
      rw [upd_at, upd_at]
      exact ⟨hc, hd⟩
  · unfold RRe; rw [e49, h55, h56, h57, h58]; exact hE
  · intro i hi
    rw [e41] at hi
    have q := hB i hi
    rw [h61, h62]
    refine ⟨q.1, fun h1 => ⟨(q.2.1 h1).1, ?_⟩, q.2.2⟩
    show (gm2 60 i).toInt = (if zS S i = 0 then -1 else fu9 (zW S) j ((zO S).length : Int) i)
    by_cases e : i = j
    · subst e
      rw [if_neg (by omega), fu9_at]
      rcases h60 with ⟨h60, _⟩ | ⟨_, h9⟩
      · rw [h60, upd_at, ho, l1]
      · exact absurd h1 h9
    · rw [fu9_ne e]
      rcases h60 with ⟨h60, _⟩ | ⟨h60, _⟩
      · rw [h60, upd_ne e]; exact (q.2.1 h1).2
      · rw [h60]; exact (q.2.1 h1).2
  · unfold RRf; rw [e41, e50, h59]; exact hF
theorem oB2_c (h : (wg 8 s).toInt = -1) : oB2 wg b s S = zAdd (oB1 wg b s S) (1, ((zO S).length : Int), (wg 10 s).toInt, (wg 6 s).toInt) := by unfold oB2; rw [if_pos h]
theorem oB2_f (h : ¬ (wg 8 s).toInt = -1) : oB2 wg b s S = zAdd (oB1 wg b s S) (2, ((zO S).length : Int), (wg 10 s).toInt, 8 * (wg 5 s).toInt + (wg 6 s).toInt) := by unfold oB2; rw [if_neg h]
theorem oBr_z0 (h : chS wg wl b fo (zO S) vs = none) : oBr wg wl b fo vs S = (none, S) := by unfold oBr; rw [h]
theorem oBr_z6 (h : 60 ≤ (zO S).length) : oBr wg wl b fo vs S = (none, S) := by
  unfold oBr
  cases chS wg wl b fo (zO S) vs with
  | none => rfl
  | some q => obtain ⟨s, f⟩ := q; show (if 60 ≤ (zO S).length then _ else _) = _; rw [if_pos h]
theorem oBr_z1 {f : Nat → Int} (h : chS wg wl b fo (zO S) vs = some (s, f)) (h6 : ¬ 60 ≤ (zO S).length) : oBr wg wl b fo vs S = (some ((zO S).length : Int), tlA wg wl b ((zO S).length : Int) vs f s (wg 7 s).toNatClampNeg 0 (oB2 wg b s S)) := by
  unfold oBr; rw [h]; show (if 60 ≤ (zO S).length then _ else _) = _; rw [if_neg h6]
/-- the one that is chosen is one of them, and its sum is there -/
theorem chF_mem {w : Nat → Int} : ∀ (l : List Nat) (b : Option (Nat × Int)) {s : Nat} {v : Int}, chF9 w l b = some (s, v) → (b = some (s, v)) ∨ (w s = v ∧ ¬ v = -1)
  | [], b, s, v, h => Or.inl h
  | a :: l, b, s, v, h => by
    rcases chF_mem l _ h with q | q
    · cases b with
      | none =>
        have q : (if w a = -1 then none else some (a, w a)) = some (s, v) := q
        by_cases e : w a = -1
        · rw [if_pos e] at q; exact absurd q (by simp)
        · rw [if_neg e] at q
          have q := Option.some.inj q
          have q1 : a = s := congrArg Prod.fst q
          have q2 : w a = v := congrArg Prod.snd q
          subst q1; exact Or.inr ⟨q2, by rw [← q2]; exact e⟩
      | some x =>
        obtain ⟨s0, w0⟩ := x
        have q : (if ¬ w a = -1 ∧ w a < w0 then some (a, w a) else some (s0, w0)) = some (s, v) := q
        by_cases e : ¬ w a = -1 ∧ w a < w0
        · rw [if_pos e] at q
          have q := Option.some.inj q
          have q1 : a = s := congrArg Prod.fst q
          have q2 : w a = v := congrArg Prod.snd q
          subst q1; exact Or.inr ⟨q2, by rw [← q2]; exact e.1⟩
        · rw [if_neg e] at q; exact Or.inl q
    · exact Or.inr q
theorem suF_all {ob : List Ob9} {f : Nat → Int} : ∀ (k p : Nat) (acc : Int), ¬ suF wg wl ob b vs f s k p acc = -1 → ∀ j, p ≤ j → j < p + k → ¬ wCo wg wl ob (ctE wg (((liL wg (3 * b))[(f j).toNat]?).getD 0)) ((vs[(f j).toNat]?).getD []) (wg 54 (3 * s + j)).toInt = -1
  | 0, p, acc, _, j, h1, h2 => absurd h2 (by omega)
  | k + 1, p, acc, h, j, h1, h2 => by
    rw [suF_0 rfl rfl rfl] at h
    by_cases e1 : ¬ (wg 24 (((liL wg (3 * b))[(f p).toNat]?).getD 0)).toInt = -1 ∧ ¬ (wg 24 (((liL wg (3 * b))[(f p).toNat]?).getD 0)).toInt = (wg 54 (3 * s + p)).toInt
    · rw [if_pos e1] at h; exact absurd rfl h
    · rw [if_neg e1] at h
      by_cases e2 : wCo wg wl ob (ctE wg (((liL wg (3 * b))[(f p).toNat]?).getD 0)) ((vs[(f p).toNat]?).getD []) (wg 54 (3 * s + p)).toInt = -1
      · rw [if_pos e2] at h; exact absurd rfl h
      · rw [if_neg e2] at h
        by_cases e : j = p
        · subst e; exact e2
        · exact suF_all k (p + 1) _ h j (by omega) (by omega)
theorem chM_w {ob : List Ob9} {v : Int} (h : chM wg wl b fo ob vs = some (s, v)) : ∃ f, plA (atL wg b) = some f ∧ chS wg wl b fo ob vs = some (s, f) ∧ (wg 7 s).toInt = (wg 41 (3 * b)).toInt ∧ cdS wg (wg 31 b).toInt (isS wg b fo) s ∧ ∀ j, j < (wg 7 s).toNatClampNeg → ¬ wCo wg wl ob (ctE wg (((liL wg (3 * b))[(f j).toNat]?).getD 0)) ((vs[(f j).toNat]?).getD []) (wg 54 (3 * s + j)).toInt = -1 := by
  obtain ⟨f, hf, hc⟩ := chS_1 h
  refine ⟨f, hf, hc, ?_⟩
  have q : suCM wg wl b fo ob vs s = v ∧ ¬ v = -1 := by
    rcases chF_mem _ _ h with q | q
    · exact absurd q (by simp)
    · exact q
  have hq := q.2
  rw [← q.1] at hq
  have hd : cdS wg (wg 31 b).toInt (isS wg b fo) s := by
    by_cases e : cdS wg (wg 31 b).toInt (isS wg b fo) s
    · exact e
    · exact absurd (suCM_n e) hq
  rw [suCM_y hd, suM_s hf] at hq
  have h7 : (wg 7 s).toInt = (wg 41 (3 * b)).toInt := by
    by_cases e : (wg 7 s).toInt = (wg 41 (3 * b)).toInt
    · exact e
    · exact absurd (suS_n e) hq
  rw [suS_y h7] at hq
  exact ⟨h7, hd, fun j hj => suF_all _ _ _ hq j (Nat.zero_le _) (by omega)⟩
end MO9
end
section
section GT9
variable {ws : Nat → Int32} {wg rg gm gm2 : Nat → Nat → Int32} {wl : Nat → Nat → Int64} {rs sg sg2 : Nat → Int32} {lg : Nat → Nat → Int64} {S : S9} {b : Nat}
/-- what the reference's gets asks -/
abbrev rdy9 (wg : Nat → Nat → Int32) (wl : Nat → Nat → Int64) (S : S9) (b : Nat) : Prop := one9 wg wl b ∧ (zS S b = 2 ∨ (zS S b = 1 ∧ ¬ zW S b = -1))
def gtR (ws : Nat → Int32) (wg : Nat → Nat → Int32) (wl : Nat → Nat → Int64) (n : Nat) (t : Int) (S : S9) : Option Int × S9 := if t < 0 then (none, S) else if ¬ wg 34 t.toNat = 0 then (none, S) else if rdy9 wg wl S t.toNat then (some (zW S t.toNat), S) else oMK ws wg wl n t.toNat S
theorem gt_0 {n : Nat} {t : Int} (h : t < 0) : gtR ws wg wl n t S = (none, S) := by unfold gtR; rw [if_pos h]
theorem gt_a {n : Nat} {t : Int} (h : ¬ wg 34 t.toNat = 0) : gtR ws wg wl n t S = (none, S) := by
  unfold gtR
  by_cases q : t < 0
  · rw [if_pos q]
  · rw [if_neg q, if_pos h]
theorem gt_r {n : Nat} {t : Int} (h0 : 0 ≤ t) (h : wg 34 t.toNat = 0) (hr : rdy9 wg wl S t.toNat) : gtR ws wg wl n t S = (some (zW S t.toNat), S) := by
  unfold gtR; rw [if_neg (by omega), if_neg (fun q => q h), if_pos hr]
theorem gt_m {n : Nat} {t : Int} (h0 : 0 ≤ t) (h : wg 34 t.toNat = 0) (hr : ¬ rdy9 wg wl S t.toNat) : gtR ws wg wl n t S = oMK ws wg wl n t.toNat S := by
  unfold gtR; rw [if_neg (by omega), if_neg (fun q => q h), if_neg hr]
theorem oMK_z1 {n : Nat} (h : zS S b = 1) : oMK ws wg wl n b S = (none, S) := by
  cases n with
  | zero => rfl
  | succ n => show (if zS S b = 1 then _ else _) = _; rw [if_pos h]
/-- a bean begins -/
theorem RR_be {j : Nat} {v : Int32} (h : RR wg wl S sg gm) (e41 : sg2 41 = sg 41) (e48 : sg2 48 = sg 48) (e49 : sg2 49 = sg 49) (e50 : sg2 50 = sg 50) (e53 : gm2 53 = gm 53) (e54 : gm2 54 = gm 54) (e55 : gm2 55 = gm 55) (e56 : gm2 56 = gm 56) (e57 : gm2 57 = gm 57) (e58 : gm2 58 = gm 58) (e59 : gm2 59 = gm 59) (e60 : gm2 60 = gm 60) (e61 : gm2 61 = gm 61) (e62 : gm2 62 = upd (gm 62) j v) (hj : j = b) (hv : ¬ v = 0) (hr : ¬ rdy9 wg wl S b) (h1 : ¬ zS S b = 1) : RR wg wl (oBe b S) sg2 gm2 := by
  obtain ⟨hO, hE, hB, hF⟩ := h
  subst hj
  have hz : one9 wg wl j → zS S j ≤ 2 → zS S j = 0 := fun o q => by
    by_cases e : zS S j = 2
    · exact absurd ⟨o, Or.inl e⟩ hr
    · omega
  refine ⟨?_, ?_, ?_, ?_⟩
  · unfold RRo; rw [e48, e53, e54]; exact hO
  · unfold RRe; rw [e49, e55, e56, e57, e58]; exact hE
  · intro i hi
    rw [e41] at hi
    have q := hB i hi
    rw [e60, e61, e62]
    show (fu9 (zS S) j 1 i = 1 ↔ _) ∧ (_ → (fu9 (zS S) j 1 i = 2 ↔ _) ∧ (gm 60 i).toInt = (if fu9 (zS S) j 1 i = 0 then -1 else fu9 (zW S) j (-1) i)) ∧ fu9 (zS S) j 1 i ≤ 2
    by_cases e : i = j
    · subst e
      rw [fu9_at, fu9_at, upd_at]
      refine ⟨⟨fun _ => hv, fun _ => rfl⟩, fun o => ?_, by omega⟩
      have q9 := q.2.1 o
      have z0 := hz o q.2.2
      refine ⟨⟨fun p => absurd p (by decide), fun p => ?_⟩, ?_⟩
      · have := q9.1.mpr p; omega
      · rw [q9.2, if_pos z0, if_neg (by decide)]
    · rw [fu9_ne e, fu9_ne e, upd_ne e]; exact q
  · refine ⟨by rw [e50]; exact hF.1, fun k x hx => ?_, hF.2.2⟩
    have q := hF.2.1 k x hx
    rw [e41, e59]
    refine ⟨q.1, q.2.1, q.2.2.1, ?_⟩
    show fu9 (zS S) j 1 x = 2
    by_cases e : x = j
    · subst e; have := hz q.2.2.1 (by omega); omega
    · rw [fu9_ne e]; exact q.2.2.2
end GT9
end
section
theorem BR_s {ws : Nat → Int32} {wg : Nat → Nat → Int32} {wl : Nat → Nat → Int64} {rs sg : Nat → Int32} {rg : Nat → Nat → Int32} {lg : Nat → Nat → Int64} {b : Int32} (h : BRG ws wg wl rs rg lg) (hRS : rs9 sg = rs) (hv : iv 0 79 b) (hb : b.toInt < (sg 41).toInt) : BNs ws wg wl rs rg lg b.toNatClampNeg := (h.2.1 _ (BR_lt hRS hv hb)).1
theorem BR_30 {ws : Nat → Int32} {wg : Nat → Nat → Int32} {wl : Nat → Nat → Int64} {rs sg : Nat → Int32} {rg gm : Nat → Nat → Int32} {lg : Nat → Nat → Int64} {b r : Int32} (h : BRG ws wg wl rs rg lg) (hRW : rt9 gm = rg) (hRS : rs9 sg = rs) (hv : iv 0 79 b) (hb : b.toInt < (sg 41).toInt) (hr : (mTel sg gm lg b 427020088179 = -1 ∧ r.toInt = -1) ∨ (¬ mTel sg gm lg b 427020088179 = -1 ∧ clQ (mWord gm lg (mTel sg gm lg b 427020088179).toNatClampNeg 427020088179).toInt r.toInt)) : r.toInt = (wg 30 b.toNatClampNeg).toInt := by
  have q := (BR_s h hRS hv hb).2.2.2.2.2.2.2.2.1
  have d := DK_r (lg := lg) hRW hRS
  rw [nI_c hv, mTel_k d, mWord_k d.1] at q
  rcases hr with ⟨h1, h2⟩ | ⟨h1, h2⟩
  · rw [h2, q.1 h1]
  · exact clQ_u h2 (q.2 h1)
theorem BR_many {ws : Nat → Int32} {wg : Nat → Nat → Int32} {wl : Nat → Nat → Int64} {rs sg : Nat → Int32} {rg gm : Nat → Nat → Int32} {lg : Nat → Nat → Int64} {b : Int32} (h : BRG ws wg wl rs rg lg) (hRW : rt9 gm = rg) (hRS : rs9 sg = rs) (hv : iv 0 79 b) (hb : b.toInt < (sg 41).toInt) : mMny gm lg b.toNatClampNeg ↔ ¬ one9 wg wl b.toNatClampNeg := by
  have q := (BR_s h hRS hv hb).1
  rw [mMny_k (DK_r (lg := lg) hRW hRS) rfl] at q
  exact q
theorem HC_z {wg : Nat → Nat → Int32} {b : Nat} {fo : Int} {ob : List Ob9} {cs cc x : Int} (hc : cs = 1 ∨ cs = 0) (h1 : cs = 1 ↔ (wg 31 b).toInt = -1) (hx : x = clsF wg b fo ob) (hp : (wg 31 b).toInt = -1 → 0 ≤ clsF wg b fo ob) (hy : (cs = 1 ∧ cc = x) ∨ (cs = 0 ∧ cc = wfF wg (wg 31 b).toInt (isS wg b fo) 8 x)) : HCS9 wg b fo ob cs cc := by
  rcases hy with ⟨q, h⟩ | ⟨q, h⟩
  · exact Or.inl ⟨q, h1.mp q, by rw [h, hx], by rw [h, hx]; exact hp (h1.mp q)⟩
  · refine Or.inr ⟨q, fun p => ?_, ?_⟩
    · have := h1.mpr p; omega
    · rw [h, hx]; rfl
end
section
set_option maxHeartbeats 4000000 in
set_option maxRecDepth 100000 in
theorem f_gets9 (l : Launch) (dC : Nat → ClassId) (dI : Nat → Nat → Nat) (h0 : Nat) (ad : Nat → Nat) (cid : Nat → ClassId) (sg : Nat → Int32) (gm : Nat → Nat → Int32) (lg : Nat → Nat → Int64) (b : Int32) (ws : Nat → Int32) (wg : Nat → Nat → Int32) (wl : Nat → Nat → Int64) (rs : Nat → Int32) (rg : Nat → Nat → Int32) (S : S9) (hI : MI sg gm) (hvb : iv (-1) 79 b) (hbl : b.toInt < (sg 41).toInt) (hgi : GI0 sg gm lg) (hpi : PIL sg gm) (hRW : rt9 gm = rg) (hRS : rs9 sg = rs) (hBR : BRG ws wg wl rs rg lg) (hRR : RR wg wl S sg gm) (h510 : (sg 51).toInt = 0) : MMi l dC dI yX13_gets wm_X13_gets ({ frames := 3, cells := 0, slots := 0, locals := 72 }) h0 ad cid [.int b] sg gm lg (fun r v => ∃ (sg2 : Nat → Int32) (gm2 : Nat → Nat → Int32) (lg2 : Nat → Nat → Int64), v = (sg2, gm2, lg2) ∧ MI sg2 gm2 ∧ KS [51, 52, 63, 74] sg sg2 ∧ KS [62, 64, 65, 66, 67, 68, 69] gm gm2 ∧ KS [] lg lg2 ∧ (iv 0 1 r) ∧ (GI0 sg2 gm2 lg2) ∧ (GETS sg gm sg2 gm2 r) ∧ ((r.toInt = 0 ∧ 1 ≤ (sg2 51).toInt ∧ RR wg wl S sg2 gm2 ∧ ∀ n9, gtR ws wg wl n9 b.toInt S = (none, S)) ∨ (r.toInt = 1 ∧ (sg2 51).toInt = 0 ∧ RR wg wl S sg2 gm2 ∧ ∀ n9, gtR ws wg wl n9 b.toInt S = (some (sg2 74).toInt, S)) ∨ (r.toInt = 0 ∧ (sg2 51).toInt = 0 ∧ 0 ≤ b.toInt ∧ RR wg wl (oBe b.toNatClampNeg S) sg2 gm2 ∧ ¬ zS S b.toNatClampNeg = 1 ∧ (∀ n9, gtR ws wg wl n9 b.toInt S = oMK ws wg wl n9 b.toNatClampNeg S) ∧ gm2 64 = upd (gm 64) (sg 63).toNatClampNeg b ∧ gm2 68 = upd (gm 68) (sg 63).toNatClampNeg (-1)))) := by
  intro sz
  refine Met.ofW (cc := cX13_gets) (maxL := 2) (ret := (some .boolean)) (by decide) rfl ?_
  intro p e s m args below meth c s₁ B hml hv
  obtain ⟨rfl, hsz, hP, hK, hD0⟩ := hv
  have hx := B.exec
  have hb := B.bytes
  have hr := B.returns
  have hts := atoms_spec (ws := wm_X13_gets) B.pre
  have htb := fun (w : Cond) (h : w ∈ tb) => hts w (List.mem_cons_of_mem _ h)
  have hown : s.vm.findClass RX13 = some m.cls := findClass_of_methodNamed B.named
  have hlocks := B.notSynchronized
  subst hsz
  have hD := hD0.self (sz := s.heap.size)
  generalize hAe : va_A (mW h0 ad cid sg gm lg) s.heap.size = A at hD ⊢
  have hA : ∀ q : Nat, s.heap.size ≤ q → A q := fun q h => by rw [← hAe]; exact Or.inr h
  have hS : va_S A s.heap s.heap [] := va_S.rf
  have hl := lv_entry ([.ref h0, .int b]) (n := 2) (Nat.le_of_ble_eq_true rfl)
  rw [lg_entry_eq]
  generalize (lg_sl ([.ref h0, .int b]) ++ List.replicate (2 - (lg_sl ([.ref h0, .int b])).length) Slot.unset).toArray = ls at hl ⊢
  have hl : lv_has ls 2 [(0, .ref h0), (1, .int b)] := hl
  have hj97 : ∀ (sg_j97 : Nat → Int32) (_ : iv 0 79 b) (_ : KS [51, 52] sg sg_j97) (_ : MI sg_j97 gm) (_ : gm 61 b.toNatClampNeg = 0) (_ : 1 ≤ (sg_j97 51).toInt ∨ gm 62 b.toNatClampNeg = 0) (_ : 1 ≤ (sg_j97 51).toInt ∨ sg_j97 51 = sg 51) (_ : ¬ rdy9 wg wl S b.toNatClampNeg ∧ wg 34 b.toNatClampNeg = 0) (_ : (1 ≤ (sg_j97 51).toInt ∧ zS S b.toNatClampNeg = 1) ∨ ((sg_j97 51).toInt = 0 ∧ ¬ zS S b.toNatClampNeg = 1)) (H : Heap) (locs : List Loc) (ls : Array Slot), va_P (dC, dI) vwCl (mW h0 ad cid sg_j97 gm lg) H → va_D A (mW h0 ad cid sg_j97 gm lg) → va_S A s.heap H locs → lv_has ls 2 [(0, .ref h0), (1, .int b)] → W p l e (headSpec wm_X13_gets ({ frames := 3, cells := 0, slots := 0, locals := 72 })).room s m ([.ref h0, .int b] : List Value).toArray below meth c H locs 0 0 (MQ below (va_Qi (fun r v => ∃ (sg2 : Nat → Int32) (gm2 : Nat → Nat → Int32) (lg2 : Nat → Nat → Int64), v = (sg2, gm2, lg2) ∧ MI sg2 gm2 ∧ KS [51, 52, 63, 74] sg sg2 ∧ KS [62, 64, 65, 66, 67, 68, 69] gm gm2 ∧ KS [] lg lg2 ∧ (iv 0 1 r) ∧ (GI0 sg2 gm2 lg2) ∧ (GETS sg gm sg2 gm2 r) ∧ ((r.toInt = 0 ∧ 1 ≤ (sg2 51).toInt ∧ RR wg wl S sg2 gm2 ∧ ∀ n9, gtR ws wg wl n9 b.toInt S = (none, S)) ∨ (r.toInt = 1 ∧ (sg2 51).toInt = 0 ∧ RR wg wl S sg2 gm2 ∧ ∀ n9, gtR ws wg wl n9 b.toInt S = (some (sg2 74).toInt, S)) ∨ (r.toInt = 0 ∧ (sg2 51).toInt = 0 ∧ 0 ≤ b.toInt ∧ RR wg wl (oBe b.toNatClampNeg S) sg2 gm2 ∧ ¬ zS S b.toNatClampNeg = 1 ∧ (∀ n9, gtR ws wg wl n9 b.toInt S = oMK ws wg wl n9 b.toNatClampNeg S) ∧ gm2 64 = upd (gm 64) (sg 63).toNatClampNeg b ∧ gm2 68 = upd (gm 68) (sg 63).toNatClampNeg (-1)))) (MB dC dI h0 ad cid A) A) ([.ref h0, .int b] : List Value).toArray s 0 0 A) (F0 m 97 ls []) := by
    intro sg_j97 hsx1_97 hks_j97 hI_j97 hnm hmk h51 h83b h97z H locs ls hP hD hS hl
    refine lv_aload_n hx hb dX13_gets_97 rfl (lv_at hl 0 rfl) ?_
    refine mr_get (v := .int (sg_j97 51)) hx hb htb inX13 hown hK hP 51 (by decide) (htb _ kw_980) rfl dX13_gets_98 ?_
    refine lv_if_eq (tgt := 106) hx hb dX13_gets_101 (by decide) (fun c_1 => ?_) (fun c_1 => ?_)
    · have h_2 : iv 0 0 (sg_j97 51) := iv_eq c_1 (show iv 0 8 (sg_j97 51) from MI_s hI_j97 51) (iv_k (by decide) : iv 0 0 0) (by decide)
      have h97 : ¬ 1 ≤ (sg_j97 51).toInt := by have := i32_0; have := i32_1; have := i32_2; have := i32_m1; have := (show iv 0 8 (sg_j97 51) from MI_s hI_j97 51).1; have := (show iv 0 8 (sg_j97 51) from MI_s hI_j97 51).2; have := (show iv 0 8 (sg 51) from MI_s hI 51).1; have := (show iv 0 8 (sg 51) from MI_s hI 51).2; have := (hsx1_97).1; have := (hsx1_97).2; have := (h_2).1; have := (h_2).2; omega
      have hm0 : gm 62 b.toNatClampNeg = 0 := hmk.resolve_left h97
      have hr79 := PIL_room hpi (show iv 0 80 (sg 63) from MI_s hI 63) hsx1_97 hm0
      have h106 : iv 0 79 (sg 63) := ⟨(show iv 0 80 (sg 63) from MI_s hI 63).1, hr79⟩
      have hm62 : b.toNatClampNeg = b.toNatClampNeg := rfl
      refine lv_aload_n hx hb dX13_gets_106 rfl (lv_at hl 0 rfl) ?_
      refine mr_get (v := .ref (ad 62)) hx hb htb inX13 hown hK hP 62 (by decide) (htb _ kw_212) rfl dX13_gets_107 ?_
      refine lv_iload_n hx hb dX13_gets_110 rfl (lv_at hl 1 rfl) ?_
      refine lv_iconst (v := 1) hx hb dX13_gets_111 (by decide) ?_
      refine ma_zast (x := 1) hx hb hK hP hD hS 48 (k := 62) rfl rfl rfl (show vp_in b 80 from (iv_in hsx1_97 (by decide))) dX13_gets_112 (fun gm_3 H locs egm_3 hP hD hS => ?_)
      have hI_gm_3 := MI_st hI_j97 egm_3 (iv_of (iv_vb (iv_w (iv_k (by decide) : iv 1 1 1) (by decide))) (iv_k (by decide) : iv 1 1 1)) (by decide)
      refine lv_aload_n hx hb dX13_gets_113 rfl (lv_at hl 0 rfl) ?_
      refine mr_get (v := .ref (ad 64)) hx hb htb inX13 hown hK hP 64 (by decide) (htb _ kw_213) rfl dX13_gets_114 ?_
      refine lv_aload_n hx hb dX13_gets_117 rfl (lv_at hl 0 rfl) ?_
      refine mr_get (v := .int (sg_j97 63)) hx hb htb inX13 hown hK hP 63 (by decide) (htb _ kw_1157) rfl dX13_gets_118 ?_
      refine lv_topi (fun z_4 ez_4 => ?_)
      obtain rfl : (sg 63) = z_4 := (ez_4.trans (hks_j97 63 (by decide))).symm
      refine lv_iload_n hx hb dX13_gets_121 rfl (lv_at hl 1 rfl) ?_
      refine ma_iast (x := b) hx hb hK hP hD hS 49 (k := 64) rfl rfl rfl (show vp_in (sg 63) 81 from (iv_in h106 (by decide))) dX13_gets_122 (fun gm_5 H locs egm_5 hP hD hS => ?_)
      have hI_gm_5 := MI_st hI_gm_3 egm_5 hsx1_97 (by decide)
      refine lv_aload_n hx hb dX13_gets_123 rfl (lv_at hl 0 rfl) ?_
      refine mr_get (v := .ref (ad 65)) hx hb htb inX13 hown hK hP 65 (by decide) (htb _ kw_214) rfl dX13_gets_124 ?_
      refine lv_aload_n hx hb dX13_gets_127 rfl (lv_at hl 0 rfl) ?_
      refine mr_get (v := .int (sg_j97 63)) hx hb htb inX13 hown hK hP 63 (by decide) (htb _ kw_1157) rfl dX13_gets_128 ?_
      refine lv_topi (fun z_6 ez_6 => ?_)
      obtain rfl : (sg 63) = z_6 := (ez_6.trans (hks_j97 63 (by decide))).symm
      refine lv_iconst (v := 0) hx hb dX13_gets_131 (by decide) ?_
      refine ma_iast (x := 0) hx hb hK hP hD hS 50 (k := 65) rfl rfl rfl (show vp_in (sg 63) 81 from (iv_in h106 (by decide))) dX13_gets_132 (fun gm_7 H locs egm_7 hP hD hS => ?_)
      have hI_gm_7 := MI_st hI_gm_5 egm_7 (iv_k (by decide) : iv 0 0 0) (by decide)
      refine lv_aload_n hx hb dX13_gets_133 rfl (lv_at hl 0 rfl) ?_
      refine mr_get (v := .ref (ad 66)) hx hb htb inX13 hown hK hP 66 (by decide) (htb _ kw_215) rfl dX13_gets_134 ?_
      refine lv_aload_n hx hb dX13_gets_137 rfl (lv_at hl 0 rfl) ?_
      refine mr_get (v := .int (sg_j97 63)) hx hb htb inX13 hown hK hP 63 (by decide) (htb _ kw_1157) rfl dX13_gets_138 ?_
      refine lv_topi (fun z_8 ez_8 => ?_)
      obtain rfl : (sg 63) = z_8 := (ez_8.trans (hks_j97 63 (by decide))).symm
      refine lv_iconst (v := 0) hx hb dX13_gets_141 (by decide) ?_
      refine ma_iast (x := 0) hx hb hK hP hD hS 51 (k := 66) rfl rfl rfl (show vp_in (sg 63) 81 from (iv_in h106 (by decide))) dX13_gets_142 (fun gm_9 H locs egm_9 hP hD hS => ?_)
      have hI_gm_9 := MI_st hI_gm_7 egm_9 (iv_k (by decide) : iv 0 0 0) (by decide)
      refine lv_aload_n hx hb dX13_gets_143 rfl (lv_at hl 0 rfl) ?_
      refine mr_get (v := .ref (ad 67)) hx hb htb inX13 hown hK hP 67 (by decide) (htb _ kw_216) rfl dX13_gets_144 ?_
      refine lv_aload_n hx hb dX13_gets_147 rfl (lv_at hl 0 rfl) ?_
      refine mr_get (v := .int (sg_j97 63)) hx hb htb inX13 hown hK hP 63 (by decide) (htb _ kw_1157) rfl dX13_gets_148 ?_
      refine lv_topi (fun z_10 ez_10 => ?_)
      obtain rfl : (sg 63) = z_10 := (ez_10.trans (hks_j97 63 (by decide))).symm
      refine lv_iconst (v := 0) hx hb dX13_gets_151 (by decide) ?_
      refine ma_iast (x := 0) hx hb hK hP hD hS 52 (k := 67) rfl rfl rfl (show vp_in (sg 63) 81 from (iv_in h106 (by decide))) dX13_gets_152 (fun gm_11 H locs egm_11 hP hD hS => ?_)
      have hI_gm_11 := MI_st hI_gm_9 egm_11 (iv_k (by decide) : iv 0 0 0) (by decide)
      refine lv_aload_n hx hb dX13_gets_153 rfl (lv_at hl 0 rfl) ?_
      refine mr_get (v := .ref (ad 68)) hx hb htb inX13 hown hK hP 68 (by decide) (htb _ kw_217) rfl dX13_gets_154 ?_
      refine lv_aload_n hx hb dX13_gets_157 rfl (lv_at hl 0 rfl) ?_
      refine mr_get (v := .int (sg_j97 63)) hx hb htb inX13 hown hK hP 63 (by decide) (htb _ kw_1157) rfl dX13_gets_158 ?_
      refine lv_topi (fun z_12 ez_12 => ?_)
      obtain rfl : (sg 63) = z_12 := (ez_12.trans (hks_j97 63 (by decide))).symm
      refine lv_iconst (v := (-1)) hx hb dX13_gets_161 (by decide) ?_
      refine ma_iast (x := (-1)) hx hb hK hP hD hS 53 (k := 68) rfl rfl rfl (show vp_in (sg 63) 81 from (iv_in h106 (by decide))) dX13_gets_162 (fun gm_13 H locs egm_13 hP hD hS => ?_)
      have hI_gm_13 := MI_st hI_gm_11 egm_13 (iv_k (by decide) : iv (-1) (-1) (-1)) (by decide)
      refine lv_aload_n hx hb dX13_gets_163 rfl (lv_at hl 0 rfl) ?_
      refine mr_get (v := .ref (ad 69)) hx hb htb inX13 hown hK hP 69 (by decide) (htb _ kw_218) rfl dX13_gets_164 ?_
      refine lv_aload_n hx hb dX13_gets_167 rfl (lv_at hl 0 rfl) ?_
      refine mr_get (v := .int (sg_j97 63)) hx hb htb inX13 hown hK hP 63 (by decide) (htb _ kw_1157) rfl dX13_gets_168 ?_
      refine lv_topi (fun z_14 ez_14 => ?_)
      obtain rfl : (sg 63) = z_14 := (ez_14.trans (hks_j97 63 (by decide))).symm
      refine lv_iconst (v := (-1)) hx hb dX13_gets_171 (by decide) ?_
      refine ma_iast (x := (-1)) hx hb hK hP hD hS 54 (k := 69) rfl rfl rfl (show vp_in (sg 63) 81 from (iv_in h106 (by decide))) dX13_gets_172 (fun gm_15 H locs egm_15 hP hD hS => ?_)
      have hI_gm_15 := MI_st hI_gm_13 egm_15 (iv_k (by decide) : iv (-1) (-1) (-1)) (by decide)
      refine lv_aload_n hx hb dX13_gets_173 rfl (lv_at hl 0 rfl) ?_
      refine lv_dup hx hb dX13_gets_174 rfl ?_
      refine mr_get (v := .int (sg_j97 63)) hx hb htb inX13 hown hK hP 63 (by decide) (htb _ kw_1157) rfl dX13_gets_175 ?_
      refine lv_topi (fun z_16 ez_16 => ?_)
      obtain rfl : (sg 63) = z_16 := (ez_16.trans (hks_j97 63 (by decide))).symm
      refine lv_iconst (v := 1) hx hb dX13_gets_178 (by decide) ?_
      refine lv_iadd hx hb dX13_gets_179 ?_
      refine lv_topi (fun z_17 ez_17 => ?_)
      have hz_17 : iv 1 80 z_17 := iv_of ez_17 (iv_add h106 (iv_k (by decide) : iv 1 1 1) (by decide))
      have tz_17 : z_17.toInt = ((sg 63) : Int32).toInt + 1 := by rw [ez_17]; exact iv_addE h106 (iv_k (by decide) : iv 1 1 1) (by decide)
      refine ma_put (x := z_17) hx hb htb inX13 hown hK hP hD hS 63 (by decide) (by decide) (htb _ kw_1157) rfl rfl rfl dX13_gets_180 (fun sg_18 H locs esg_18 hP hD hS => ?_)
      have hI_sg_18 := MI_put hI_gm_15 esg_18 hz_17 (by decide)
      refine lv_iconst (v := 0) hx hb dX13_gets_183 (by decide) ?_
      exact W.zret (v := 0) hx hb hr (iv_nb (iv_w (iv_k (by decide) : iv 0 0 0) (by decide))) (fun t ht hW => ⟨⟨0, (sg_18, gm_15, lg), rfl, ⟨sg_18, gm_15, lg, rfl, hI_sg_18, (KS_up (KS_tr (L := [51, 52, 63, 74]) KS_rf hks_j97 (by decide)) esg_18 (by decide)), (KS_up (KS_up (KS_up (KS_up (KS_up (KS_up (KS_up KS_rf egm_3 (by decide)) egm_5 (by decide)) egm_7 (by decide)) egm_9 (by decide)) egm_11 (by decide)) egm_13 (by decide)) egm_15 (by decide)), KS_rf, (iv_w (iv_k (by decide) : iv 0 0 0) (by decide)), (GI0_push hgi (DK_of (show KS [51, 52, 63] sg sg_18 from (KS_up (KS_tr (L := [51, 52, 63]) KS_rf hks_j97 (by decide)) esg_18 (by decide))) (show KS [62, 64, 65, 66, 67, 68, 69] gm gm_15 from (KS_up (KS_up (KS_up (KS_up (KS_up (KS_up (KS_up KS_rf egm_3 (by decide)) egm_5 (by decide)) egm_7 (by decide)) egm_9 (by decide)) egm_11 (by decide)) egm_13 (by decide)) egm_15 (by decide))) (show KS [] lg lg from KS_rf) (by decide) (by decide) (by decide)) rfl (Eq.trans (Eq.trans (Eq.trans (Eq.trans (Eq.trans (Eq.trans (up_ne egm_15 (by decide)) (up_ne egm_13 (by decide))) (up_ne egm_11 (by decide))) (up_ne egm_9 (by decide))) (up_ne egm_7 (by decide))) (up_ne egm_5 (by decide))) (up_ne egm_3 (by decide))) (Eq.trans (Eq.trans (Eq.trans (Eq.trans (Eq.trans (Eq.trans (up_ne egm_15 (by decide)) (up_ne egm_13 (by decide))) (up_ne egm_11 (by decide))) (up_ne egm_9 (by decide))) (up_ne egm_7 (by decide))) (up_ne egm_5 (by decide))) (up_ne egm_3 (by decide))) (show gm_15 62 = upd (gm 62) (b : Int32).toNatClampNeg (vp_nar .boolean 1) from ((up_ne egm_15 (by decide)).trans ((up_ne egm_13 (by decide)).trans ((up_ne egm_11 (by decide)).trans ((up_ne egm_9 (by decide)).trans ((up_ne egm_7 (by decide)).trans ((up_ne egm_5 (by decide)).trans ((up_at egm_3).trans (by rw [show gm 62 = gm 62 from rfl]))))))))) (Eq.trans (Eq.trans (Eq.trans (Eq.trans (Eq.trans (Eq.trans (up_ne egm_15 (by decide)) (up_ne egm_13 (by decide))) (up_ne egm_11 (by decide))) (up_ne egm_9 (by decide))) (up_ne egm_7 (by decide))) (up_ne egm_5 (by decide))) (up_ne egm_3 (by decide))) (Eq.trans (Eq.trans (Eq.trans (Eq.trans (Eq.trans (Eq.trans (up_ne egm_15 (by decide)) (up_ne egm_13 (by decide))) (up_ne egm_11 (by decide))) (up_ne egm_9 (by decide))) (up_ne egm_7 (by decide))) (up_ne egm_5 (by decide))) (up_ne egm_3 (by decide))) (Eq.trans (Eq.trans (Eq.trans (Eq.trans (Eq.trans (Eq.trans (up_ne egm_15 (by decide)) (up_ne egm_13 (by decide))) (up_ne egm_11 (by decide))) (up_ne egm_9 (by decide))) (up_ne egm_7 (by decide))) (up_ne egm_5 (by decide))) (up_ne egm_3 (by decide))) (Eq.trans (Eq.trans (Eq.trans (Eq.trans (Eq.trans (Eq.trans (up_ne egm_15 (by decide)) (up_ne egm_13 (by decide))) (up_ne egm_11 (by decide))) (up_ne egm_9 (by decide))) (up_ne egm_7 (by decide))) (up_ne egm_5 (by decide))) (up_ne egm_3 (by decide))) (Eq.trans (up_ne esg_18 (by decide)) (hks_j97 50 (by decide))) hnm), (Or.inr ⟨rfl, Or.inr ⟨b, by have := i32_0; have := i32_1; have := i32_2; have := i32_m1; have := congrArg Int32.toInt (show sg_18 63 = z_17 from up_at esg_18); have := (hz_17).1; have := (hz_17).2; have := (hsx1_97).1; have := (hsx1_97).2; have := (h_2).1; have := (h_2).2; have := (h106).1; have := (h106).2; omega, hr79, (show gm_15 64 = upd (gm 64) ((sg 63) : Int32).toNatClampNeg b from ((up_ne egm_15 (by decide)).trans ((up_ne egm_13 (by decide)).trans ((up_ne egm_11 (by decide)).trans ((up_ne egm_9 (by decide)).trans ((up_ne egm_7 (by decide)).trans ((up_at egm_5).trans (by rw [show gm_3 64 = gm 64 from ((up_ne egm_3 (by decide)).trans rfl)])))))))), (show gm_15 65 = upd (gm 65) ((sg 63) : Int32).toNatClampNeg 0 from ((up_ne egm_15 (by decide)).trans ((up_ne egm_13 (by decide)).trans ((up_ne egm_11 (by decide)).trans ((up_ne egm_9 (by decide)).trans ((up_at egm_7).trans (by rw [show gm_5 65 = gm 65 from ((up_ne egm_5 (by decide)).trans ((up_ne egm_3 (by decide)).trans rfl))]))))))), (show gm_15 66 = upd (gm 66) ((sg 63) : Int32).toNatClampNeg 0 from ((up_ne egm_15 (by decide)).trans ((up_ne egm_13 (by decide)).trans ((up_ne egm_11 (by decide)).trans ((up_at egm_9).trans (by rw [show gm_7 66 = gm 66 from ((up_ne egm_7 (by decide)).trans ((up_ne egm_5 (by decide)).trans ((up_ne egm_3 (by decide)).trans rfl)))])))))), (show gm_15 67 = upd (gm 67) ((sg 63) : Int32).toNatClampNeg 0 from ((up_ne egm_15 (by decide)).trans ((up_ne egm_13 (by decide)).trans ((up_at egm_11).trans (by rw [show gm_9 67 = gm 67 from ((up_ne egm_9 (by decide)).trans ((up_ne egm_7 (by decide)).trans ((up_ne egm_5 (by decide)).trans ((up_ne egm_3 (by decide)).trans rfl))))]))))), (show gm_15 69 = upd (gm 69) ((sg 63) : Int32).toNatClampNeg (-1) from ((up_at egm_15).trans (by rw [show gm_13 69 = gm 69 from ((up_ne egm_13 (by decide)).trans ((up_ne egm_11 (by decide)).trans ((up_ne egm_9 (by decide)).trans ((up_ne egm_7 (by decide)).trans ((up_ne egm_5 (by decide)).trans ((up_ne egm_3 (by decide)).trans rfl))))))]))), (show gm_15 62 = upd (gm 62) (b : Int32).toNatClampNeg (vp_nar .boolean 1) from ((up_ne egm_15 (by decide)).trans ((up_ne egm_13 (by decide)).trans ((up_ne egm_11 (by decide)).trans ((up_ne egm_9 (by decide)).trans ((up_ne egm_7 (by decide)).trans ((up_ne egm_5 (by decide)).trans ((up_at egm_3).trans (by rw [show gm 62 = gm 62 from rfl]))))))))), hm0, hsx1_97, hbl, Eq.trans (up_ne esg_18 (by decide)) (h51.resolve_left h97)⟩⟩), (Or.inr (Or.inr ⟨rfl, (by have := (h97z.resolve_left (fun q => absurd q.1 h97)).1; have := i32_0; have := i32_1; have := i32_2; have := i32_m1; have := congrArg Int32.toInt (show sg_18 51 = sg_j97 51 from up_ne esg_18 (by decide)); have := (show iv 0 8 (sg_j97 51) from MI_s hI_j97 51).1; have := (show iv 0 8 (sg_j97 51) from MI_s hI_j97 51).2; have := (show iv 0 8 (sg 51) from MI_s hI 51).1; have := (show iv 0 8 (sg 51) from MI_s hI 51).2; have := (hsx1_97).1; have := (hsx1_97).2; have := (h_2).1; have := (h_2).2; have := (h106).1; have := (h106).2; have := (hz_17).1; have := (hz_17).2; omega), (by have := i32_0; have := i32_1; have := i32_2; have := i32_m1; have := (hsx1_97).1; have := (hsx1_97).2; have := (h_2).1; have := (h_2).2; have := (h106).1; have := (h106).2; have := (hz_17).1; have := (hz_17).2; omega), RR_be hRR (Eq.trans (up_ne esg_18 (by decide)) (hks_j97 41 (by decide))) (Eq.trans (up_ne esg_18 (by decide)) (hks_j97 48 (by decide))) (Eq.trans (up_ne esg_18 (by decide)) (hks_j97 49 (by decide))) (Eq.trans (up_ne esg_18 (by decide)) (hks_j97 50 (by decide))) (Eq.trans (Eq.trans (Eq.trans (Eq.trans (Eq.trans (Eq.trans (up_ne egm_15 (by decide)) (up_ne egm_13 (by decide))) (up_ne egm_11 (by decide))) (up_ne egm_9 (by decide))) (up_ne egm_7 (by decide))) (up_ne egm_5 (by decide))) (up_ne egm_3 (by decide))) (Eq.trans (Eq.trans (Eq.trans (Eq.trans (Eq.trans (Eq.trans (up_ne egm_15 (by decide)) (up_ne egm_13 (by decide))) (up_ne egm_11 (by decide))) (up_ne egm_9 (by decide))) (up_ne egm_7 (by decide))) (up_ne egm_5 (by decide))) (up_ne egm_3 (by decide))) (Eq.trans (Eq.trans (Eq.trans (Eq.trans (Eq.trans (Eq.trans (up_ne egm_15 (by decide)) (up_ne egm_13 (by decide))) (up_ne egm_11 (by decide))) (up_ne egm_9 (by decide))) (up_ne egm_7 (by decide))) (up_ne egm_5 (by decide))) (up_ne egm_3 (by decide))) (Eq.trans (Eq.trans (Eq.trans (Eq.trans (Eq.trans (Eq.trans (up_ne egm_15 (by decide)) (up_ne egm_13 (by decide))) (up_ne egm_11 (by decide))) (up_ne egm_9 (by decide))) (up_ne egm_7 (by decide))) (up_ne egm_5 (by decide))) (up_ne egm_3 (by decide))) (Eq.trans (Eq.trans (Eq.trans (Eq.trans (Eq.trans (Eq.trans (up_ne egm_15 (by decide)) (up_ne egm_13 (by decide))) (up_ne egm_11 (by decide))) (up_ne egm_9 (by decide))) (up_ne egm_7 (by decide))) (up_ne egm_5 (by decide))) (up_ne egm_3 (by decide))) (Eq.trans (Eq.trans (Eq.trans (Eq.trans (Eq.trans (Eq.trans (up_ne egm_15 (by decide)) (up_ne egm_13 (by decide))) (up_ne egm_11 (by decide))) (up_ne egm_9 (by decide))) (up_ne egm_7 (by decide))) (up_ne egm_5 (by decide))) (up_ne egm_3 (by decide))) (Eq.trans (Eq.trans (Eq.trans (Eq.trans (Eq.trans (Eq.trans (up_ne egm_15 (by decide)) (up_ne egm_13 (by decide))) (up_ne egm_11 (by decide))) (up_ne egm_9 (by decide))) (up_ne egm_7 (by decide))) (up_ne egm_5 (by decide))) (up_ne egm_3 (by decide))) (Eq.trans (Eq.trans (Eq.trans (Eq.trans (Eq.trans (Eq.trans (up_ne egm_15 (by decide)) (up_ne egm_13 (by decide))) (up_ne egm_11 (by decide))) (up_ne egm_9 (by decide))) (up_ne egm_7 (by decide))) (up_ne egm_5 (by decide))) (up_ne egm_3 (by decide))) (Eq.trans (Eq.trans (Eq.trans (Eq.trans (Eq.trans (Eq.trans (up_ne egm_15 (by decide)) (up_ne egm_13 (by decide))) (up_ne egm_11 (by decide))) (up_ne egm_9 (by decide))) (up_ne egm_7 (by decide))) (up_ne egm_5 (by decide))) (up_ne egm_3 (by decide))) (show gm_15 62 = upd (gm 62) (b : Int32).toNatClampNeg (vp_nar .boolean 1) from ((up_ne egm_15 (by decide)).trans ((up_ne egm_13 (by decide)).trans ((up_ne egm_11 (by decide)).trans ((up_ne egm_9 (by decide)).trans ((up_ne egm_7 (by decide)).trans ((up_ne egm_5 (by decide)).trans ((up_at egm_3).trans (by rw [show gm 62 = gm 62 from rfl]))))))))) hm62 (by decide) h83b.1 (h97z.resolve_left (fun q => absurd q.1 h97)).2, (h97z.resolve_left (fun q => absurd q.1 h97)).2, fun n9 => gt_m (by have := i32_0; have := i32_1; have := i32_2; have := i32_m1; have := (hsx1_97).1; have := (hsx1_97).2; have := (h_2).1; have := (h_2).2; have := (h106).1; have := (h106).2; have := (hz_17).1; have := (hz_17).2; omega) h83b.2 h83b.1, (show gm_15 64 = upd (gm 64) ((sg 63) : Int32).toNatClampNeg b from ((up_ne egm_15 (by decide)).trans ((up_ne egm_13 (by decide)).trans ((up_ne egm_11 (by decide)).trans ((up_ne egm_9 (by decide)).trans ((up_ne egm_7 (by decide)).trans ((up_at egm_5).trans (by rw [show gm_3 64 = gm 64 from ((up_ne egm_3 (by decide)).trans rfl)])))))))), (show gm_15 68 = upd (gm 68) ((sg 63) : Int32).toNatClampNeg (-1) from ((up_ne egm_15 (by decide)).trans ((up_at egm_13).trans (by rw [show gm_11 68 = gm 68 from ((up_ne egm_11 (by decide)).trans ((up_ne egm_9 (by decide)).trans ((up_ne egm_7 (by decide)).trans ((up_ne egm_5 (by decide)).trans ((up_ne egm_3 (by decide)).trans rfl)))))]))))⟩))⟩, by rw [ht]; exact hP, va_K.moved hW.alike hK, hD⟩, hS.F ht⟩) hS.2.2 dX13_gets_184
    · have h_19 : iv 1 8 (sg_j97 51) := iv_neL c_1 (show iv 0 8 (sg_j97 51) from MI_s hI_j97 51) (by decide)
      refine lv_iconst (v := 0) hx hb dX13_gets_104 (by decide) ?_
      exact W.zret (v := 0) hx hb hr (iv_nb (iv_w (iv_k (by decide) : iv 0 0 0) (by decide))) (fun t ht hW => ⟨⟨0, (sg_j97, gm, lg), rfl, ⟨sg_j97, gm, lg, rfl, hI_j97, (KS_tr (L := [51, 52, 63, 74]) KS_rf hks_j97 (by decide)), KS_rf, KS_rf, (iv_w (iv_k (by decide) : iv 0 0 0) (by decide)), (GI0_of hgi (show KS [51, 52] sg sg_j97 from (KS_tr (L := [51, 52]) KS_rf hks_j97 (by decide))) (show KS [] gm gm from KS_rf) (show KS [] lg lg from KS_rf) (by decide) (by decide) (by decide) (by decide) (by decide) (by decide)), (Or.inr ⟨rfl, Or.inl (by have := i32_0; have := i32_1; have := i32_2; have := i32_m1; have := (show iv 0 8 (sg_j97 51) from MI_s hI_j97 51).1; have := (show iv 0 8 (sg_j97 51) from MI_s hI_j97 51).2; have := (show iv 0 8 (sg 51) from MI_s hI 51).1; have := (show iv 0 8 (sg 51) from MI_s hI 51).2; have := (hsx1_97).1; have := (hsx1_97).2; have := (h_19).1; have := (h_19).2; omega)⟩), (Or.inl ⟨rfl, (by have := i32_0; have := i32_1; have := i32_2; have := i32_m1; have := (show iv 0 8 (sg_j97 51) from MI_s hI_j97 51).1; have := (show iv 0 8 (sg_j97 51) from MI_s hI_j97 51).2; have := (show iv 0 8 (sg 51) from MI_s hI 51).1; have := (show iv 0 8 (sg 51) from MI_s hI 51).2; have := (hsx1_97).1; have := (hsx1_97).2; have := (h_19).1; have := (h_19).2; omega), (RR_ks (L := [51, 52]) (M := []) hRR (KS_tr (L := [51, 52]) KS_rf hks_j97 (by decide)) KS_rf (by decide) (by decide)), fun n9 => (gt_m (by have := i32_0; have := i32_1; have := i32_2; have := i32_m1; have := (hsx1_97).1; have := (hsx1_97).2; have := (h_19).1; have := (h_19).2; omega) h83b.2 h83b.1).trans (oMK_z1 (h97z.resolve_right (fun q => absurd q.1 (by have := i32_0; have := i32_1; have := i32_2; have := i32_m1; have := (show iv 0 8 (sg_j97 51) from MI_s hI_j97 51).1; have := (show iv 0 8 (sg_j97 51) from MI_s hI_j97 51).2; have := (show iv 0 8 (sg 51) from MI_s hI 51).1; have := (show iv 0 8 (sg 51) from MI_s hI 51).2; have := (hsx1_97).1; have := (hsx1_97).2; have := (h_19).1; have := (h_19).2; omega))).2)⟩)⟩, by rw [ht]; exact hP, va_K.moved hW.alike hK, hD⟩, hS.F ht⟩) hS.2.2 dX13_gets_105
  have hj83 : ∀ (sg_j83 : Nat → Int32) (_ : iv 0 79 b) (_ : KS [51, 52] sg sg_j83) (_ : MI sg_j83 gm) (_ : gm 61 b.toNatClampNeg = 0) (_ : sg_j83 51 = sg 51) (_ : ¬ rdy9 wg wl S b.toNatClampNeg ∧ wg 34 b.toNatClampNeg = 0 ∧ (sg_j83 51).toInt = 0) (H : Heap) (locs : List Loc) (ls : Array Slot), va_P (dC, dI) vwCl (mW h0 ad cid sg_j83 gm lg) H → va_D A (mW h0 ad cid sg_j83 gm lg) → va_S A s.heap H locs → lv_has ls 2 [(0, .ref h0), (1, .int b)] → W p l e (headSpec wm_X13_gets ({ frames := 3, cells := 0, slots := 0, locals := 72 })).room s m ([.ref h0, .int b] : List Value).toArray below meth c H locs 0 0 (MQ below (va_Qi (fun r v => ∃ (sg2 : Nat → Int32) (gm2 : Nat → Nat → Int32) (lg2 : Nat → Nat → Int64), v = (sg2, gm2, lg2) ∧ MI sg2 gm2 ∧ KS [51, 52, 63, 74] sg sg2 ∧ KS [62, 64, 65, 66, 67, 68, 69] gm gm2 ∧ KS [] lg lg2 ∧ (iv 0 1 r) ∧ (GI0 sg2 gm2 lg2) ∧ (GETS sg gm sg2 gm2 r) ∧ ((r.toInt = 0 ∧ 1 ≤ (sg2 51).toInt ∧ RR wg wl S sg2 gm2 ∧ ∀ n9, gtR ws wg wl n9 b.toInt S = (none, S)) ∨ (r.toInt = 1 ∧ (sg2 51).toInt = 0 ∧ RR wg wl S sg2 gm2 ∧ ∀ n9, gtR ws wg wl n9 b.toInt S = (some (sg2 74).toInt, S)) ∨ (r.toInt = 0 ∧ (sg2 51).toInt = 0 ∧ 0 ≤ b.toInt ∧ RR wg wl (oBe b.toNatClampNeg S) sg2 gm2 ∧ ¬ zS S b.toNatClampNeg = 1 ∧ (∀ n9, gtR ws wg wl n9 b.toInt S = oMK ws wg wl n9 b.toNatClampNeg S) ∧ gm2 64 = upd (gm 64) (sg 63).toNatClampNeg b ∧ gm2 68 = upd (gm 68) (sg 63).toNatClampNeg (-1)))) (MB dC dI h0 ad cid A) A) ([.ref h0, .int b] : List Value).toArray s 0 0 A) (F0 m 83 ls []) := by
    intro sg_j83 hsx1_83 hks_j83 hI_j83 hnm h51 h83 H locs ls hP hD hS hl
    refine lv_aload_n hx hb dX13_gets_83 rfl (lv_at hl 0 rfl) ?_
    refine mr_get (v := .ref (ad 62)) hx hb htb inX13 hown hK hP 62 (by decide) (htb _ kw_212) rfl dX13_gets_84 ?_
    refine lv_iload_n hx hb dX13_gets_87 rfl (lv_at hl 1 rfl) ?_
    refine mr_zald hx hb hK hP 48 (k := 62) rfl rfl rfl (show vp_in b 80 from (iv_in hsx1_83 (by decide))) dX13_gets_88 ?_
    refine lv_topi (fun z_20 ez_20 => ?_)
    have hz_20 : iv 0 1 z_20 := iv_of ez_20 (MI_a hI_j83 62 hsx1_83 (by decide))
    refine lv_if_eq (tgt := 97) hx hb dX13_gets_89 (by decide) (fun c_21 => ?_) (fun c_21 => ?_)
    · have h_22 : iv 0 0 z_20 := iv_eq c_21 hz_20 (iv_k (by decide) : iv 0 0 0) (by decide)
      exact hj97 sg_j83 hsx1_83 (KS_tr (L := [51, 52]) KS_rf hks_j83 (by decide)) hI_j83 (hnm) (Or.inr (by rw [← ez_20]; exact c_21)) (Or.inr h51) (⟨h83.1, h83.2.1⟩) (Or.inr ⟨(by have := h83.2.2; have := i32_0; have := i32_1; have := i32_2; have := i32_m1; have := (show iv 0 8 (sg_j83 51) from MI_s hI_j83 51).1; have := (show iv 0 8 (sg_j83 51) from MI_s hI_j83 51).2; have := (show iv 0 8 (sg 51) from MI_s hI 51).1; have := (show iv 0 8 (sg 51) from MI_s hI 51).2; have := (hsx1_83).1; have := (hsx1_83).2; have := (h_22).1; have := (h_22).2; omega), fun q => absurd (((show _ from (hRR.2.2.1 b.toNatClampNeg (by have q1 : b.toNatClampNeg = b.toInt.toNat := rfl; have q1 : (sg 41).toNatClampNeg = (sg 41).toInt.toNat := rfl; have := i32_0; have := i32_1; have := i32_2; have := i32_m1; have := congrArg Int32.toInt (show sg_j83 41 = sg 41 from hks_j83 41 (by decide)); have := (show iv 0 80 (sg 41) from MI_s hI 41).1; have := (show iv 0 80 (sg 41) from MI_s hI 41).2; have := (hsx1_83).1; have := (hsx1_83).2; have := (h_22).1; have := (h_22).2; omega))).1).mp q) (by rw [← ez_20]; exact fun q3 => q3 c_21)⟩) _ _ _ hP hD hS (lv_sub hl [0, 1] rfl)
    · have h_23 : iv 1 1 z_20 := iv_neL c_21 hz_20 (by decide)
      refine lv_aload_n hx hb dX13_gets_92 rfl (lv_at hl 0 rfl) ?_
      refine lv_iconst (v := 3) hx hb dX13_gets_93 (by decide) ?_
      refine mr_callv (rest := []) ⟨hx, hb, hml, hown, htb⟩ (f_fails l dC dI h0 ad cid sg_j83 gm lg 3 hI_j83 (iv_w (iv_k (by decide) : iv 3 3 3) (by decide))) (cwV 1 htb (gd_V kw_1162 kw_1163 kw_1164 kw_5 kw_1604) rfl rfl rfl (by decide +kernel) ⟨Nat.le_of_ble_eq_true rfl, Nat.le_of_ble_eq_true rfl⟩) rfl hl.1 rfl (Nat.le_of_ble_eq_true rfl) dX13_gets_94 ⟨Nat.zero_le _, Nat.zero_le _⟩ hK hP hD hS hA (fun u_25 H locs hw hP hD hS => ?_)
      obtain ⟨sgv_26, gmv_26, lgv_26, rfl, hIv_26, ksv_26, kgv_26, klv_26, fFl_r_24⟩ := hw
      obtain rfl := KS_nil kgv_26
      obtain rfl := KS_nil klv_26
      have hP : va_P (dC, dI) vwCl (mW h0 ad cid sgv_26 gm lg) H := hP
      have hD : va_D A (mW h0 ad cid sgv_26 gm lg) := hD
      exact hj97 sgv_26 hsx1_83 (KS_tr (L := [51, 52]) (KS_tr (L := [51, 52]) KS_rf hks_j83 (by decide)) ksv_26 (by decide)) hIv_26 (hnm) (Or.inl (by have := i32_0; have := i32_1; have := i32_2; have := i32_m1; have := (show iv 0 8 (sgv_26 51) from MI_s hIv_26 51).1; have := (show iv 0 8 (sgv_26 51) from MI_s hIv_26 51).2; have := (show iv 0 8 (sg_j83 51) from MI_s hI_j83 51).1; have := (show iv 0 8 (sg_j83 51) from MI_s hI_j83 51).2; have := (show iv 0 8 (sg 51) from MI_s hI 51).1; have := (show iv 0 8 (sg 51) from MI_s hI 51).2; have := (hsx1_83).1; have := (hsx1_83).2; have := (h_23).1; have := (h_23).2; omega)) (Or.inl (by have := i32_0; have := i32_1; have := i32_2; have := i32_m1; have := (show iv 0 8 (sgv_26 51) from MI_s hIv_26 51).1; have := (show iv 0 8 (sgv_26 51) from MI_s hIv_26 51).2; have := (show iv 0 8 (sg_j83 51) from MI_s hI_j83 51).1; have := (show iv 0 8 (sg_j83 51) from MI_s hI_j83 51).2; have := (show iv 0 8 (sg 51) from MI_s hI 51).1; have := (show iv 0 8 (sg 51) from MI_s hI 51).2; have := (hsx1_83).1; have := (hsx1_83).2; have := (h_23).1; have := (h_23).2; omega)) (⟨h83.1, h83.2.1⟩) (Or.inl ⟨(by have := i32_0; have := i32_1; have := i32_2; have := i32_m1; have := (show iv 0 8 (sgv_26 51) from MI_s hIv_26 51).1; have := (show iv 0 8 (sgv_26 51) from MI_s hIv_26 51).2; have := (show iv 0 8 (sg_j83 51) from MI_s hI_j83 51).1; have := (show iv 0 8 (sg_j83 51) from MI_s hI_j83 51).2; have := (show iv 0 8 (sg 51) from MI_s hI 51).1; have := (show iv 0 8 (sg 51) from MI_s hI 51).2; have := (hsx1_83).1; have := (hsx1_83).2; have := (h_23).1; have := (h_23).2; omega), ((show _ from (hRR.2.2.1 b.toNatClampNeg (by have q1 : b.toNatClampNeg = b.toInt.toNat := rfl; have q1 : (sg 41).toNatClampNeg = (sg 41).toInt.toNat := rfl; have := i32_0; have := i32_1; have := i32_2; have := i32_m1; have := congrArg Int32.toInt (show sgv_26 41 = sg_j83 41 from ksv_26 41 (by decide)); have := congrArg Int32.toInt (show sg_j83 41 = sg 41 from hks_j83 41 (by decide)); have := (show iv 0 80 (sg 41) from MI_s hI 41).1; have := (show iv 0 80 (sg 41) from MI_s hI 41).2; have := (hsx1_83).1; have := (hsx1_83).2; have := (h_23).1; have := (h_23).2; omega))).1).mpr (by rw [← ez_20]; exact c_21)⟩) _ _ _ hP hD hS (lv_sub hl [0, 1] rfl)
  have hj71 : ∀ (sg_j71 : Nat → Int32) (_ : iv 0 79 b) (_ : KS [51, 52] sg sg_j71) (_ : MI sg_j71 gm) (_ : 0 ≤ (gm 60 b.toNatClampNeg).toInt) (_ : sg_j71 51 = sg 51) (_ : rdy9 wg wl S b.toNatClampNeg ∧ wg 34 b.toNatClampNeg = 0 ∧ (sg_j71 51).toInt = 0) (H : Heap) (locs : List Loc) (ls : Array Slot), va_P (dC, dI) vwCl (mW h0 ad cid sg_j71 gm lg) H → va_D A (mW h0 ad cid sg_j71 gm lg) → va_S A s.heap H locs → lv_has ls 2 [(0, .ref h0), (1, .int b)] → W p l e (headSpec wm_X13_gets ({ frames := 3, cells := 0, slots := 0, locals := 72 })).room s m ([.ref h0, .int b] : List Value).toArray below meth c H locs 0 0 (MQ below (va_Qi (fun r v => ∃ (sg2 : Nat → Int32) (gm2 : Nat → Nat → Int32) (lg2 : Nat → Nat → Int64), v = (sg2, gm2, lg2) ∧ MI sg2 gm2 ∧ KS [51, 52, 63, 74] sg sg2 ∧ KS [62, 64, 65, 66, 67, 68, 69] gm gm2 ∧ KS [] lg lg2 ∧ (iv 0 1 r) ∧ (GI0 sg2 gm2 lg2) ∧ (GETS sg gm sg2 gm2 r) ∧ ((r.toInt = 0 ∧ 1 ≤ (sg2 51).toInt ∧ RR wg wl S sg2 gm2 ∧ ∀ n9, gtR ws wg wl n9 b.toInt S = (none, S)) ∨ (r.toInt = 1 ∧ (sg2 51).toInt = 0 ∧ RR wg wl S sg2 gm2 ∧ ∀ n9, gtR ws wg wl n9 b.toInt S = (some (sg2 74).toInt, S)) ∨ (r.toInt = 0 ∧ (sg2 51).toInt = 0 ∧ 0 ≤ b.toInt ∧ RR wg wl (oBe b.toNatClampNeg S) sg2 gm2 ∧ ¬ zS S b.toNatClampNeg = 1 ∧ (∀ n9, gtR ws wg wl n9 b.toInt S = oMK ws wg wl n9 b.toNatClampNeg S) ∧ gm2 64 = upd (gm 64) (sg 63).toNatClampNeg b ∧ gm2 68 = upd (gm 68) (sg 63).toNatClampNeg (-1)))) (MB dC dI h0 ad cid A) A) ([.ref h0, .int b] : List Value).toArray s 0 0 A) (F0 m 71 ls []) := by
    intro sg_j71 hsx1_71 hks_j71 hI_j71 hown9 h51 h71 H locs ls hP hD hS hl
    refine lv_aload_n hx hb dX13_gets_71 rfl (lv_at hl 0 rfl) ?_
    refine lv_aload_n hx hb dX13_gets_72 rfl (lv_at hl 0 rfl) ?_
    refine mr_get (v := .ref (ad 60)) hx hb htb inX13 hown hK hP 60 (by decide) (htb _ kw_210) rfl dX13_gets_73 ?_
    refine lv_iload_n hx hb dX13_gets_76 rfl (lv_at hl 1 rfl) ?_
    refine mr_iald hx hb hK hP 46 (k := 60) rfl rfl rfl (show vp_in b 80 from (iv_in hsx1_71 (by decide))) dX13_gets_77 ?_
    refine lv_topi (fun z_27 ez_27 => ?_)
    have hz_27 : iv (-1) 59 z_27 := iv_of ez_27 (MI_a hI_j71 60 hsx1_71 (by decide))
    have h_28 : iv 0 59 z_27 := ⟨by rw [ez_27]; exact hown9, (hz_27).2⟩
    refine ma_put (x := z_27) hx hb htb inX13 hown hK hP hD hS 74 (by decide) (by decide) (htb _ kw_1161) rfl rfl rfl dX13_gets_78 (fun sg_29 H locs esg_29 hP hD hS => ?_)
    have hI_sg_29 := MI_put hI_j71 esg_29 h_28 (by decide)
    refine lv_iconst (v := 1) hx hb dX13_gets_81 (by decide) ?_
    exact W.zret (v := 1) hx hb hr (iv_nb (iv_w (iv_k (by decide) : iv 1 1 1) (by decide))) (fun t ht hW => ⟨⟨1, (sg_29, gm, lg), rfl, ⟨sg_29, gm, lg, rfl, hI_sg_29, (KS_up (KS_tr (L := [51, 52, 63, 74]) KS_rf hks_j71 (by decide)) esg_29 (by decide)), KS_rf, KS_rf, (iv_w (iv_k (by decide) : iv 1 1 1) (by decide)), (GI0_of hgi (show KS [51, 52, 74] sg sg_29 from (KS_up (KS_tr (L := [51, 52, 74]) KS_rf hks_j71 (by decide)) esg_29 (by decide))) (show KS [] gm gm from KS_rf) (show KS [] lg lg from KS_rf) (by decide) (by decide) (by decide) (by decide) (by decide) (by decide)), (Or.inl ⟨rfl, by have := i32_0; have := i32_1; have := i32_2; have := i32_m1; have := congrArg Int32.toInt (show sg_29 74 = z_27 from up_at esg_29); have := (h_28).1; have := (h_28).2; have := (hsx1_71).1; have := (hsx1_71).2; omega, ⟨(Eq.trans (up_ne esg_29 (by decide)) (hks_j71 63 (by decide))), rfl, rfl, rfl, rfl, rfl, rfl, rfl, Eq.trans (up_ne esg_29 (by decide)) h51⟩⟩), (Or.inr (Or.inl ⟨rfl, (by have := h71.2.2; have := i32_0; have := i32_1; have := i32_2; have := i32_m1; have := congrArg Int32.toInt (show sg_29 51 = sg_j71 51 from up_ne esg_29 (by decide)); have := (show iv 0 8 (sg_j71 51) from MI_s hI_j71 51).1; have := (show iv 0 8 (sg_j71 51) from MI_s hI_j71 51).2; have := (show iv 0 8 (sg 51) from MI_s hI 51).1; have := (show iv 0 8 (sg 51) from MI_s hI 51).2; have := (hsx1_71).1; have := (hsx1_71).2; have := (h_28).1; have := (h_28).2; omega), (RR_ks (L := [51, 52, 74]) (M := []) hRR (KS_up (KS_tr (L := [51, 52, 74]) KS_rf hks_j71 (by decide)) esg_29 (by decide)) KS_rf (by decide) (by decide)), fun n9 => (gt_r (by have := i32_0; have := i32_1; have := i32_2; have := i32_m1; have := (hsx1_71).1; have := (hsx1_71).2; have := (h_28).1; have := (h_28).2; omega) h71.2.1 h71.1).trans (by have q4 := ((show _ from (hRR.2.2.1 b.toNatClampNeg (by have q1 : b.toNatClampNeg = b.toInt.toNat := rfl; have q1 : (sg 41).toNatClampNeg = (sg 41).toInt.toNat := rfl; have := i32_0; have := i32_1; have := i32_2; have := i32_m1; have := congrArg Int32.toInt (show sg_29 41 = sg_j71 41 from up_ne esg_29 (by decide)); have := congrArg Int32.toInt (show sg_j71 41 = sg 41 from hks_j71 41 (by decide)); have := (show iv 0 80 (sg 41) from MI_s hI 41).1; have := (show iv 0 80 (sg 41) from MI_s hI 41).2; have := (hsx1_71).1; have := (hsx1_71).2; have := (h_28).1; have := (h_28).2; omega))).2.1 h71.1.1).2; rw [if_neg (by have := h71.1.2; omega), ← ez_27] at q4; rw [show zW S b.toInt.toNat = zW S b.toNatClampNeg from rfl, ← q4, show sg_29 74 = z_27 from up_at esg_29])⟩))⟩, by rw [ht]; exact hP, va_K.moved hW.alike hK, hD⟩, hS.F ht⟩) hS.2.2 dX13_gets_82
  have hj26 : ∀ (sg_j26 : Nat → Int32) (_ : iv (-1) 79 b) (_ : KS [51, 52] sg sg_j26) (_ : MI sg_j26 gm) (_ : 1 ≤ (sg_j26 51).toInt ∨ (0 ≤ b.toInt ∧ sg_j26 51 = sg 51)) (_ : (1 ≤ (sg_j26 51).toInt ∧ (b.toInt < 0 ∨ ¬ wg 34 b.toNatClampNeg = 0)) ∨ ((sg_j26 51).toInt = 0 ∧ wg 34 b.toNatClampNeg = 0)) (H : Heap) (locs : List Loc) (ls : Array Slot), va_P (dC, dI) vwCl (mW h0 ad cid sg_j26 gm lg) H → va_D A (mW h0 ad cid sg_j26 gm lg) → va_S A s.heap H locs → lv_has ls 2 [(0, .ref h0), (1, .int b)] → W p l e (headSpec wm_X13_gets ({ frames := 3, cells := 0, slots := 0, locals := 72 })).room s m ([.ref h0, .int b] : List Value).toArray below meth c H locs 0 0 (MQ below (va_Qi (fun r v => ∃ (sg2 : Nat → Int32) (gm2 : Nat → Nat → Int32) (lg2 : Nat → Nat → Int64), v = (sg2, gm2, lg2) ∧ MI sg2 gm2 ∧ KS [51, 52, 63, 74] sg sg2 ∧ KS [62, 64, 65, 66, 67, 68, 69] gm gm2 ∧ KS [] lg lg2 ∧ (iv 0 1 r) ∧ (GI0 sg2 gm2 lg2) ∧ (GETS sg gm sg2 gm2 r) ∧ ((r.toInt = 0 ∧ 1 ≤ (sg2 51).toInt ∧ RR wg wl S sg2 gm2 ∧ ∀ n9, gtR ws wg wl n9 b.toInt S = (none, S)) ∨ (r.toInt = 1 ∧ (sg2 51).toInt = 0 ∧ RR wg wl S sg2 gm2 ∧ ∀ n9, gtR ws wg wl n9 b.toInt S = (some (sg2 74).toInt, S)) ∨ (r.toInt = 0 ∧ (sg2 51).toInt = 0 ∧ 0 ≤ b.toInt ∧ RR wg wl (oBe b.toNatClampNeg S) sg2 gm2 ∧ ¬ zS S b.toNatClampNeg = 1 ∧ (∀ n9, gtR ws wg wl n9 b.toInt S = oMK ws wg wl n9 b.toNatClampNeg S) ∧ gm2 64 = upd (gm 64) (sg 63).toNatClampNeg b ∧ gm2 68 = upd (gm 68) (sg 63).toNatClampNeg (-1)))) (MB dC dI h0 ad cid A) A) ([.ref h0, .int b] : List Value).toArray s 0 0 A) (F0 m 26 ls []) := by
    intro sg_j26 hsx1_26 hks_j26 hI_j26 hb0 h26 H locs ls hP hD hS hl
    refine lv_aload_n hx hb dX13_gets_26 rfl (lv_at hl 0 rfl) ?_
    refine mr_get (v := .int (sg_j26 51)) hx hb htb inX13 hown hK hP 51 (by decide) (htb _ kw_980) rfl dX13_gets_27 ?_
    refine lv_if_eq (tgt := 35) hx hb dX13_gets_30 (by decide) (fun c_30 => ?_) (fun c_30 => ?_)
    · have h_31 : iv 0 0 (sg_j26 51) := iv_eq c_30 (show iv 0 8 (sg_j26 51) from MI_s hI_j26 51) (iv_k (by decide) : iv 0 0 0) (by decide)
      have hb35 : iv 0 79 b := ⟨by have := i32_0; have := i32_1; have := i32_2; have := i32_m1; have := (show iv 0 8 (sg_j26 51) from MI_s hI_j26 51).1; have := (show iv 0 8 (sg_j26 51) from MI_s hI_j26 51).2; have := (show iv 0 8 (sg 51) from MI_s hI 51).1; have := (show iv 0 8 (sg 51) from MI_s hI 51).2; have := (hsx1_26).1; have := (hsx1_26).2; have := (h_31).1; have := (h_31).2; omega, (hsx1_26).2⟩
      refine lv_aload_n hx hb dX13_gets_35 rfl (lv_at hl 0 rfl) ?_
      refine lv_iload_n hx hb dX13_gets_36 rfl (lv_at hl 1 rfl) ?_
      refine mr_calli (rest := []) ⟨hx, hb, hml, hown, htb⟩ (f_isMany l dC dI h0 ad cid sg_j26 gm lg b hI_j26 hb35) (cwV 1 htb (gd_V kw_1151 kw_1152 kw_1153 kw_5 kw_1601) rfl rfl rfl (by decide +kernel) ⟨Nat.le_of_ble_eq_true rfl, Nat.le_of_ble_eq_true rfl⟩) rfl hl.1 rfl (Nat.le_of_ble_eq_true rfl) dX13_gets_37 ⟨Nat.zero_le _, Nat.zero_le _⟩ hK hP hD hS hA (fun r_32 u_33 H locs hw hP hD hS => ?_)
      obtain ⟨hr_32, fY_r_32, rfl⟩ := hw
      have hP : va_P (dC, dI) vwCl (mW h0 ad cid sg_j26 gm lg) H := hP
      have hD : va_D A (mW h0 ad cid sg_j26 gm lg) := hD
      refine lv_if_ne (tgt := 83) hx hb dX13_gets_40 (by decide) (fun c_34 => ?_) (fun c_34 => ?_)
      · have h_35 : iv 1 1 r_32 := iv_neL c_34 hr_32 (by decide)
        exact hj83 sg_j26 hb35 (KS_tr (L := [51, 52]) KS_rf hks_j26 (by decide)) hI_j26 (Decidable.byContradiction (fun q9 => (hgi.2.1 _ (by have := iv_cl hb35 (by decide); have := (hb35).2; omega) q9).2.1 ((fY_r_32.resolve_left (fun q8 => c_34 (Int32.toInt_inj.mp q8.1))).2))) ((hb0.resolve_left (by have := i32_0; have := i32_1; have := i32_2; have := i32_m1; have := (show iv 0 8 (sg_j26 51) from MI_s hI_j26 51).1; have := (show iv 0 8 (sg_j26 51) from MI_s hI_j26 51).2; have := (show iv 0 8 (sg 51) from MI_s hI 51).1; have := (show iv 0 8 (sg 51) from MI_s hI 51).2; have := (hb35).1; have := (hb35).2; have := (h_31).1; have := (h_31).2; have := (h_35).1; have := (h_35).2; omega)).2) (⟨(fun q => (BR_many hBR hRW hRS hb35 hbl).mp (fY_r_32.resolve_left (fun q8 => absurd q8.1 (by have := i32_0; have := i32_1; have := i32_2; have := i32_m1; have := (hb35).1; have := (hb35).2; have := (h_31).1; have := (h_31).2; have := (h_35).1; have := (h_35).2; omega))).2 q.1), (h26.resolve_left (fun q => absurd q.1 (by have := i32_0; have := i32_1; have := i32_2; have := i32_m1; have := (show iv 0 8 (sg_j26 51) from MI_s hI_j26 51).1; have := (show iv 0 8 (sg_j26 51) from MI_s hI_j26 51).2; have := (show iv 0 8 (sg 51) from MI_s hI 51).1; have := (show iv 0 8 (sg 51) from MI_s hI 51).2; have := (hb35).1; have := (hb35).2; have := (h_31).1; have := (h_31).2; have := (h_35).1; have := (h_35).2; omega))).2, (h26.resolve_left (fun q => absurd q.1 (by have := i32_0; have := i32_1; have := i32_2; have := i32_m1; have := (show iv 0 8 (sg_j26 51) from MI_s hI_j26 51).1; have := (show iv 0 8 (sg_j26 51) from MI_s hI_j26 51).2; have := (show iv 0 8 (sg 51) from MI_s hI 51).1; have := (show iv 0 8 (sg 51) from MI_s hI 51).2; have := (hb35).1; have := (hb35).2; have := (h_31).1; have := (h_31).2; have := (h_35).1; have := (h_35).2; omega))).1⟩) _ _ _ hP hD hS (lv_sub hl [0, 1] rfl)
      · have h_36 : iv 0 0 r_32 := iv_eq c_34 hr_32 (iv_k (by decide) : iv 0 0 0) (by decide)
        refine lv_aload_n hx hb dX13_gets_43 rfl (lv_at hl 0 rfl) ?_
        refine mr_get (v := .ref (ad 61)) hx hb htb inX13 hown hK hP 61 (by decide) (htb _ kw_211) rfl dX13_gets_44 ?_
        refine lv_iload_n hx hb dX13_gets_47 rfl (lv_at hl 1 rfl) ?_
        refine mr_zald hx hb hK hP 47 (k := 61) rfl rfl rfl (show vp_in b 80 from (iv_in hb35 (by decide))) dX13_gets_48 ?_
        refine lv_topi (fun z_37 ez_37 => ?_)
        have hz_37 : iv 0 1 z_37 := iv_of ez_37 (MI_a hI_j26 61 hb35 (by decide))
        refine lv_if_ne (tgt := 71) hx hb dX13_gets_49 (by decide) (fun c_38 => ?_) (fun c_38 => ?_)
        · have h_39 : iv 1 1 z_37 := iv_neL c_38 hz_37 (by decide)
          exact hj71 sg_j26 hb35 (KS_tr (L := [51, 52]) KS_rf hks_j26 (by decide)) hI_j26 ((hgi.2.1 _ (by have := iv_cl hb35 (by decide); have := (hb35).2; omega) (by rw [← ez_37]; exact c_38)).1) ((hb0.resolve_left (by have := i32_0; have := i32_1; have := i32_2; have := i32_m1; have := (show iv 0 8 (sg_j26 51) from MI_s hI_j26 51).1; have := (show iv 0 8 (sg_j26 51) from MI_s hI_j26 51).2; have := (show iv 0 8 (sg 51) from MI_s hI 51).1; have := (show iv 0 8 (sg 51) from MI_s hI 51).2; have := (hb35).1; have := (hb35).2; have := (h_31).1; have := (h_31).2; have := (h_36).1; have := (h_36).2; have := (h_39).1; have := (h_39).2; omega)).2) (⟨⟨(show one9 wg wl b.toNatClampNeg from Decidable.byContradiction (fun q => (fY_r_32.resolve_right (fun q8 => absurd q8.1 (by have := i32_0; have := i32_1; have := i32_2; have := i32_m1; have := (hb35).1; have := (hb35).2; have := (h_31).1; have := (h_31).2; have := (h_36).1; have := (h_36).2; have := (h_39).1; have := (h_39).2; omega))).2 ((BR_many hBR hRW hRS hb35 hbl).mpr q))), Or.inl (((show _ from (hRR.2.2.1 b.toNatClampNeg (by have q1 : b.toNatClampNeg = b.toInt.toNat := rfl; have q1 : (sg 41).toNatClampNeg = (sg 41).toInt.toNat := rfl; have := i32_0; have := i32_1; have := i32_2; have := i32_m1; have := congrArg Int32.toInt (show sg_j26 41 = sg 41 from hks_j26 41 (by decide)); have := (show iv 0 80 (sg 41) from MI_s hI 41).1; have := (show iv 0 80 (sg 41) from MI_s hI 41).2; have := (hb35).1; have := (hb35).2; have := (h_31).1; have := (h_31).2; have := (h_36).1; have := (h_36).2; have := (h_39).1; have := (h_39).2; omega))).2.1 (show one9 wg wl b.toNatClampNeg from Decidable.byContradiction (fun q => (fY_r_32.resolve_right (fun q8 => absurd q8.1 (by have := i32_0; have := i32_1; have := i32_2; have := i32_m1; have := (hb35).1; have := (hb35).2; have := (h_31).1; have := (h_31).2; have := (h_36).1; have := (h_36).2; have := (h_39).1; have := (h_39).2; omega))).2 ((BR_many hBR hRW hRS hb35 hbl).mpr q)))).1.mpr (by rw [← ez_37]; exact c_38))⟩, (h26.resolve_left (fun q => absurd q.1 (by have := i32_0; have := i32_1; have := i32_2; have := i32_m1; have := (show iv 0 8 (sg_j26 51) from MI_s hI_j26 51).1; have := (show iv 0 8 (sg_j26 51) from MI_s hI_j26 51).2; have := (show iv 0 8 (sg 51) from MI_s hI 51).1; have := (show iv 0 8 (sg 51) from MI_s hI 51).2; have := (hb35).1; have := (hb35).2; have := (h_31).1; have := (h_31).2; have := (h_36).1; have := (h_36).2; have := (h_39).1; have := (h_39).2; omega))).2, (h26.resolve_left (fun q => absurd q.1 (by have := i32_0; have := i32_1; have := i32_2; have := i32_m1; have := (show iv 0 8 (sg_j26 51) from MI_s hI_j26 51).1; have := (show iv 0 8 (sg_j26 51) from MI_s hI_j26 51).2; have := (show iv 0 8 (sg 51) from MI_s hI 51).1; have := (show iv 0 8 (sg 51) from MI_s hI 51).2; have := (hb35).1; have := (hb35).2; have := (h_31).1; have := (h_31).2; have := (h_36).1; have := (h_36).2; have := (h_39).1; have := (h_39).2; omega))).1⟩) _ _ _ hP hD hS (lv_sub hl [0, 1] rfl)
        · have h_40 : iv 0 0 z_37 := iv_eq c_38 hz_37 (iv_k (by decide) : iv 0 0 0) (by decide)
          refine lv_aload_n hx hb dX13_gets_52 rfl (lv_at hl 0 rfl) ?_
          refine mr_get (v := .ref (ad 62)) hx hb htb inX13 hown hK hP 62 (by decide) (htb _ kw_212) rfl dX13_gets_53 ?_
          refine lv_iload_n hx hb dX13_gets_56 rfl (lv_at hl 1 rfl) ?_
          refine mr_zald hx hb hK hP 48 (k := 62) rfl rfl rfl (show vp_in b 80 from (iv_in hb35 (by decide))) dX13_gets_57 ?_
          refine lv_topi (fun z_41 ez_41 => ?_)
          have hz_41 : iv 0 1 z_41 := iv_of ez_41 (MI_a hI_j26 62 hb35 (by decide))
          refine lv_if_eq (tgt := 83) hx hb dX13_gets_58 (by decide) (fun c_42 => ?_) (fun c_42 => ?_)
          · have h_43 : iv 0 0 z_41 := iv_eq c_42 hz_41 (iv_k (by decide) : iv 0 0 0) (by decide)
            exact hj83 sg_j26 hb35 (KS_tr (L := [51, 52]) KS_rf hks_j26 (by decide)) hI_j26 (by rw [← ez_37]; exact c_38) ((hb0.resolve_left (by have := i32_0; have := i32_1; have := i32_2; have := i32_m1; have := (show iv 0 8 (sg_j26 51) from MI_s hI_j26 51).1; have := (show iv 0 8 (sg_j26 51) from MI_s hI_j26 51).2; have := (show iv 0 8 (sg 51) from MI_s hI 51).1; have := (show iv 0 8 (sg 51) from MI_s hI 51).2; have := (hb35).1; have := (hb35).2; have := (h_31).1; have := (h_31).2; have := (h_36).1; have := (h_36).2; have := (h_40).1; have := (h_40).2; have := (h_43).1; have := (h_43).2; omega)).2) (⟨(fun q => q.2.elim (fun q2 => absurd (((show _ from (hRR.2.2.1 b.toNatClampNeg (by have q1 : b.toNatClampNeg = b.toInt.toNat := rfl; have q1 : (sg 41).toNatClampNeg = (sg 41).toInt.toNat := rfl; have := i32_0; have := i32_1; have := i32_2; have := i32_m1; have := congrArg Int32.toInt (show sg_j26 41 = sg 41 from hks_j26 41 (by decide)); have := (show iv 0 80 (sg 41) from MI_s hI 41).1; have := (show iv 0 80 (sg 41) from MI_s hI 41).2; have := (hb35).1; have := (hb35).2; have := (h_31).1; have := (h_31).2; have := (h_36).1; have := (h_36).2; have := (h_40).1; have := (h_40).2; have := (h_43).1; have := (h_43).2; omega))).2.1 q.1).1.mp q2) (by rw [← ez_37]; exact fun q3 => q3 c_38)) (fun q2 => absurd ((show _ from (hRR.2.2.1 b.toNatClampNeg (by have q1 : b.toNatClampNeg = b.toInt.toNat := rfl; have q1 : (sg 41).toNatClampNeg = (sg 41).toInt.toNat := rfl; have := i32_0; have := i32_1; have := i32_2; have := i32_m1; have := congrArg Int32.toInt (show sg_j26 41 = sg 41 from hks_j26 41 (by decide)); have := (show iv 0 80 (sg 41) from MI_s hI 41).1; have := (show iv 0 80 (sg 41) from MI_s hI 41).2; have := (hb35).1; have := (hb35).2; have := (h_31).1; have := (h_31).2; have := (h_36).1; have := (h_36).2; have := (h_40).1; have := (h_40).2; have := (h_43).1; have := (h_43).2; omega))).1.mp q2.1) (by rw [← ez_41]; exact fun q3 => q3 c_42))), (h26.resolve_left (fun q => absurd q.1 (by have := i32_0; have := i32_1; have := i32_2; have := i32_m1; have := (show iv 0 8 (sg_j26 51) from MI_s hI_j26 51).1; have := (show iv 0 8 (sg_j26 51) from MI_s hI_j26 51).2; have := (show iv 0 8 (sg 51) from MI_s hI 51).1; have := (show iv 0 8 (sg 51) from MI_s hI 51).2; have := (hb35).1; have := (hb35).2; have := (h_31).1; have := (h_31).2; have := (h_36).1; have := (h_36).2; have := (h_40).1; have := (h_40).2; have := (h_43).1; have := (h_43).2; omega))).2, (h26.resolve_left (fun q => absurd q.1 (by have := i32_0; have := i32_1; have := i32_2; have := i32_m1; have := (show iv 0 8 (sg_j26 51) from MI_s hI_j26 51).1; have := (show iv 0 8 (sg_j26 51) from MI_s hI_j26 51).2; have := (show iv 0 8 (sg 51) from MI_s hI 51).1; have := (show iv 0 8 (sg 51) from MI_s hI 51).2; have := (hb35).1; have := (hb35).2; have := (h_31).1; have := (h_31).2; have := (h_36).1; have := (h_36).2; have := (h_40).1; have := (h_40).2; have := (h_43).1; have := (h_43).2; omega))).1⟩) _ _ _ hP hD hS (lv_sub hl [0, 1] rfl)
          · have h_44 : iv 1 1 z_41 := iv_neL c_42 hz_41 (by decide)
            refine lv_aload_n hx hb dX13_gets_61 rfl (lv_at hl 0 rfl) ?_
            refine mr_get (v := .ref (ad 60)) hx hb htb inX13 hown hK hP 60 (by decide) (htb _ kw_210) rfl dX13_gets_62 ?_
            refine lv_iload_n hx hb dX13_gets_65 rfl (lv_at hl 1 rfl) ?_
            refine mr_iald hx hb hK hP 46 (k := 60) rfl rfl rfl (show vp_in b 80 from (iv_in hb35 (by decide))) dX13_gets_66 ?_
            refine lv_topi (fun z_45 ez_45 => ?_)
            have hz_45 : iv (-1) 59 z_45 := iv_of ez_45 (MI_a hI_j26 60 hb35 (by decide))
            refine lv_iconst (v := (-1)) hx hb dX13_gets_67 (by decide) ?_
            refine lv_icmp_eq (tgt := 83) hx hb dX13_gets_68 (by decide) (fun c_46 => ?_) (fun c_46 => ?_)
            · have h_47 : iv (-1) (-1) z_45 := iv_eq c_46 hz_45 (iv_k (by decide) : iv (-1) (-1) (-1)) (by decide)
              exact hj83 sg_j26 hb35 (KS_tr (L := [51, 52]) KS_rf hks_j26 (by decide)) hI_j26 (by rw [← ez_37]; exact c_38) ((hb0.resolve_left (by have := i32_0; have := i32_1; have := i32_2; have := i32_m1; have := (show iv 0 8 (sg_j26 51) from MI_s hI_j26 51).1; have := (show iv 0 8 (sg_j26 51) from MI_s hI_j26 51).2; have := (show iv 0 8 (sg 51) from MI_s hI 51).1; have := (show iv 0 8 (sg 51) from MI_s hI 51).2; have := (hb35).1; have := (hb35).2; have := (h_31).1; have := (h_31).2; have := (h_36).1; have := (h_36).2; have := (h_40).1; have := (h_40).2; have := (h_44).1; have := (h_44).2; have := (h_47).1; have := (h_47).2; omega)).2) (⟨(fun q => q.2.elim (fun q2 => absurd (((show _ from (hRR.2.2.1 b.toNatClampNeg (by have q1 : b.toNatClampNeg = b.toInt.toNat := rfl; have q1 : (sg 41).toNatClampNeg = (sg 41).toInt.toNat := rfl; have := i32_0; have := i32_1; have := i32_2; have := i32_m1; have := congrArg Int32.toInt (show sg_j26 41 = sg 41 from hks_j26 41 (by decide)); have := (show iv 0 80 (sg 41) from MI_s hI 41).1; have := (show iv 0 80 (sg 41) from MI_s hI 41).2; have := (hb35).1; have := (hb35).2; have := (h_31).1; have := (h_31).2; have := (h_36).1; have := (h_36).2; have := (h_40).1; have := (h_40).2; have := (h_44).1; have := (h_44).2; have := (h_47).1; have := (h_47).2; omega))).2.1 q.1).1.mp q2) (by rw [← ez_37]; exact fun q3 => q3 c_38)) (fun q2 => q2.2 (by have q4 := ((show _ from (hRR.2.2.1 b.toNatClampNeg (by have q1 : b.toNatClampNeg = b.toInt.toNat := rfl; have q1 : (sg 41).toNatClampNeg = (sg 41).toInt.toNat := rfl; have := i32_0; have := i32_1; have := i32_2; have := i32_m1; have := congrArg Int32.toInt (show sg_j26 41 = sg 41 from hks_j26 41 (by decide)); have := (show iv 0 80 (sg 41) from MI_s hI 41).1; have := (show iv 0 80 (sg 41) from MI_s hI 41).2; have := (hb35).1; have := (hb35).2; have := (h_31).1; have := (h_31).2; have := (h_36).1; have := (h_36).2; have := (h_40).1; have := (h_40).2; have := (h_44).1; have := (h_44).2; have := (h_47).1; have := (h_47).2; omega))).2.1 q.1).2; rw [if_neg (by omega), ← ez_45] at q4; rw [← q4]; have := i32_0; have := i32_1; have := i32_2; have := i32_m1; have := (hb35).1; have := (hb35).2; have := (h_31).1; have := (h_31).2; have := (h_36).1; have := (h_36).2; have := (h_40).1; have := (h_40).2; have := (h_44).1; have := (h_44).2; have := (h_47).1; have := (h_47).2; omega))), (h26.resolve_left (fun q => absurd q.1 (by have := i32_0; have := i32_1; have := i32_2; have := i32_m1; have := (show iv 0 8 (sg_j26 51) from MI_s hI_j26 51).1; have := (show iv 0 8 (sg_j26 51) from MI_s hI_j26 51).2; have := (show iv 0 8 (sg 51) from MI_s hI 51).1; have := (show iv 0 8 (sg 51) from MI_s hI 51).2; have := (hb35).1; have := (hb35).2; have := (h_31).1; have := (h_31).2; have := (h_36).1; have := (h_36).2; have := (h_40).1; have := (h_40).2; have := (h_44).1; have := (h_44).2; have := (h_47).1; have := (h_47).2; omega))).2, (h26.resolve_left (fun q => absurd q.1 (by have := i32_0; have := i32_1; have := i32_2; have := i32_m1; have := (show iv 0 8 (sg_j26 51) from MI_s hI_j26 51).1; have := (show iv 0 8 (sg_j26 51) from MI_s hI_j26 51).2; have := (show iv 0 8 (sg 51) from MI_s hI 51).1; have := (show iv 0 8 (sg 51) from MI_s hI 51).2; have := (hb35).1; have := (hb35).2; have := (h_31).1; have := (h_31).2; have := (h_36).1; have := (h_36).2; have := (h_40).1; have := (h_40).2; have := (h_44).1; have := (h_44).2; have := (h_47).1; have := (h_47).2; omega))).1⟩) _ _ _ hP hD hS (lv_sub hl [0, 1] rfl)
            · have h_48 : iv 0 59 z_45 := iv_neL c_46 hz_45 (by decide)
              exact hj71 sg_j26 hb35 (KS_tr (L := [51, 52]) KS_rf hks_j26 (by decide)) hI_j26 (by rw [← ez_45]; exact (h_48).1) ((hb0.resolve_left (by have := i32_0; have := i32_1; have := i32_2; have := i32_m1; have := (show iv 0 8 (sg_j26 51) from MI_s hI_j26 51).1; have := (show iv 0 8 (sg_j26 51) from MI_s hI_j26 51).2; have := (show iv 0 8 (sg 51) from MI_s hI 51).1; have := (show iv 0 8 (sg 51) from MI_s hI 51).2; have := (hb35).1; have := (hb35).2; have := (h_31).1; have := (h_31).2; have := (h_36).1; have := (h_36).2; have := (h_40).1; have := (h_40).2; have := (h_44).1; have := (h_44).2; have := (h_48).1; have := (h_48).2; omega)).2) (⟨(by have q1 := ((show _ from (hRR.2.2.1 b.toNatClampNeg (by have q1 : b.toNatClampNeg = b.toInt.toNat := rfl; have q1 : (sg 41).toNatClampNeg = (sg 41).toInt.toNat := rfl; have := i32_0; have := i32_1; have := i32_2; have := i32_m1; have := congrArg Int32.toInt (show sg_j26 41 = sg 41 from hks_j26 41 (by decide)); have := (show iv 0 80 (sg 41) from MI_s hI 41).1; have := (show iv 0 80 (sg 41) from MI_s hI 41).2; have := (hb35).1; have := (hb35).2; have := (h_31).1; have := (h_31).2; have := (h_36).1; have := (h_36).2; have := (h_40).1; have := (h_40).2; have := (h_44).1; have := (h_44).2; have := (h_48).1; have := (h_48).2; omega))).1).mpr (by rw [← ez_41]; exact c_42); exact ⟨(show one9 wg wl b.toNatClampNeg from Decidable.byContradiction (fun q => (fY_r_32.resolve_right (fun q8 => absurd q8.1 (by have := i32_0; have := i32_1; have := i32_2; have := i32_m1; have := (hb35).1; have := (hb35).2; have := (h_31).1; have := (h_31).2; have := (h_36).1; have := (h_36).2; have := (h_40).1; have := (h_40).2; have := (h_44).1; have := (h_44).2; have := (h_48).1; have := (h_48).2; omega))).2 ((BR_many hBR hRW hRS hb35 hbl).mpr q))), Or.inr ⟨q1, (by have q2 := ((show _ from (hRR.2.2.1 b.toNatClampNeg (by have q1 : b.toNatClampNeg = b.toInt.toNat := rfl; have q1 : (sg 41).toNatClampNeg = (sg 41).toInt.toNat := rfl; have := i32_0; have := i32_1; have := i32_2; have := i32_m1; have := congrArg Int32.toInt (show sg_j26 41 = sg 41 from hks_j26 41 (by decide)); have := (show iv 0 80 (sg 41) from MI_s hI 41).1; have := (show iv 0 80 (sg 41) from MI_s hI 41).2; have := (hb35).1; have := (hb35).2; have := (h_31).1; have := (h_31).2; have := (h_36).1; have := (h_36).2; have := (h_40).1; have := (h_40).2; have := (h_44).1; have := (h_44).2; have := (h_48).1; have := (h_48).2; omega))).2.1 (show one9 wg wl b.toNatClampNeg from Decidable.byContradiction (fun q => (fY_r_32.resolve_right (fun q8 => absurd q8.1 (by have := i32_0; have := i32_1; have := i32_2; have := i32_m1; have := (hb35).1; have := (hb35).2; have := (h_31).1; have := (h_31).2; have := (h_36).1; have := (h_36).2; have := (h_40).1; have := (h_40).2; have := (h_44).1; have := (h_44).2; have := (h_48).1; have := (h_48).2; omega))).2 ((BR_many hBR hRW hRS hb35 hbl).mpr q)))).2; rw [if_neg (by omega), ← ez_45] at q2; rw [← q2]; exact fun q7 => c_46 (Int32.toInt_inj.mp (q7.trans (by decide))))⟩⟩), (h26.resolve_left (fun q => absurd q.1 (by have := i32_0; have := i32_1; have := i32_2; have := i32_m1; have := (show iv 0 8 (sg_j26 51) from MI_s hI_j26 51).1; have := (show iv 0 8 (sg_j26 51) from MI_s hI_j26 51).2; have := (show iv 0 8 (sg 51) from MI_s hI 51).1; have := (show iv 0 8 (sg 51) from MI_s hI 51).2; have := (hb35).1; have := (hb35).2; have := (h_31).1; have := (h_31).2; have := (h_36).1; have := (h_36).2; have := (h_40).1; have := (h_40).2; have := (h_44).1; have := (h_44).2; have := (h_48).1; have := (h_48).2; omega))).2, (h26.resolve_left (fun q => absurd q.1 (by have := i32_0; have := i32_1; have := i32_2; have := i32_m1; have := (show iv 0 8 (sg_j26 51) from MI_s hI_j26 51).1; have := (show iv 0 8 (sg_j26 51) from MI_s hI_j26 51).2; have := (show iv 0 8 (sg 51) from MI_s hI 51).1; have := (show iv 0 8 (sg 51) from MI_s hI 51).2; have := (hb35).1; have := (hb35).2; have := (h_31).1; have := (h_31).2; have := (h_36).1; have := (h_36).2; have := (h_40).1; have := (h_40).2; have := (h_44).1; have := (h_44).2; have := (h_48).1; have := (h_48).2; omega))).1⟩) _ _ _ hP hD hS (lv_sub hl [0, 1] rfl)
    · have h_49 : iv 1 8 (sg_j26 51) := iv_neL c_30 (show iv 0 8 (sg_j26 51) from MI_s hI_j26 51) (by decide)
      refine lv_iconst (v := 0) hx hb dX13_gets_33 (by decide) ?_
      exact W.zret (v := 0) hx hb hr (iv_nb (iv_w (iv_k (by decide) : iv 0 0 0) (by decide))) (fun t ht hW => ⟨⟨0, (sg_j26, gm, lg), rfl, ⟨sg_j26, gm, lg, rfl, hI_j26, (KS_tr (L := [51, 52, 63, 74]) KS_rf hks_j26 (by decide)), KS_rf, KS_rf, (iv_w (iv_k (by decide) : iv 0 0 0) (by decide)), (GI0_of hgi (show KS [51, 52] sg sg_j26 from (KS_tr (L := [51, 52]) KS_rf hks_j26 (by decide))) (show KS [] gm gm from KS_rf) (show KS [] lg lg from KS_rf) (by decide) (by decide) (by decide) (by decide) (by decide) (by decide)), (Or.inr ⟨rfl, Or.inl (by have := i32_0; have := i32_1; have := i32_2; have := i32_m1; have := (show iv 0 8 (sg_j26 51) from MI_s hI_j26 51).1; have := (show iv 0 8 (sg_j26 51) from MI_s hI_j26 51).2; have := (show iv 0 8 (sg 51) from MI_s hI 51).1; have := (show iv 0 8 (sg 51) from MI_s hI 51).2; have := (hsx1_26).1; have := (hsx1_26).2; have := (h_49).1; have := (h_49).2; omega)⟩), (Or.inl ⟨rfl, (by have := i32_0; have := i32_1; have := i32_2; have := i32_m1; have := (show iv 0 8 (sg_j26 51) from MI_s hI_j26 51).1; have := (show iv 0 8 (sg_j26 51) from MI_s hI_j26 51).2; have := (show iv 0 8 (sg 51) from MI_s hI 51).1; have := (show iv 0 8 (sg 51) from MI_s hI 51).2; have := (hsx1_26).1; have := (hsx1_26).2; have := (h_49).1; have := (h_49).2; omega), (RR_ks (L := [51, 52]) (M := []) hRR (KS_tr (L := [51, 52]) KS_rf hks_j26 (by decide)) KS_rf (by decide) (by decide)), fun n9 => (h26.resolve_right (fun q => absurd q.1 (by have := i32_0; have := i32_1; have := i32_2; have := i32_m1; have := (show iv 0 8 (sg_j26 51) from MI_s hI_j26 51).1; have := (show iv 0 8 (sg_j26 51) from MI_s hI_j26 51).2; have := (show iv 0 8 (sg 51) from MI_s hI 51).1; have := (show iv 0 8 (sg 51) from MI_s hI 51).2; have := (hsx1_26).1; have := (hsx1_26).2; have := (h_49).1; have := (h_49).2; omega))).2.elim (fun q => gt_0 q) (fun q => gt_a q)⟩)⟩, by rw [ht]; exact hP, va_K.moved hW.alike hK, hD⟩, hS.F ht⟩) hS.2.2 dX13_gets_34
  refine lv_iload_n hx hb dX13_gets_0 rfl (lv_at hl 1 rfl) ?_
  refine lv_iconst (v := (-1)) hx hb dX13_gets_1 (by decide) ?_
  refine lv_icmp_ne (tgt := 13) hx hb dX13_gets_2 (by decide) (fun c_50 => ?_) (fun c_50 => ?_)
  · have h_51 : iv 0 79 b := iv_neL c_50 hvb (by decide)
    refine lv_aload_n hx hb dX13_gets_13 rfl (lv_at hl 0 rfl) ?_
    refine lv_iload_n hx hb dX13_gets_14 rfl (lv_at hl 1 rfl) ?_
    refine mr_calli (rest := []) ⟨hx, hb, hml, hown, htb⟩ (f_isAbstract9 l dC dI h0 ad cid sg gm lg b hI h_51) (cwV 1 htb (gd_V kw_1148 kw_1149 kw_1150 kw_5 kw_1600) rfl rfl rfl (by decide +kernel) ⟨Nat.le_of_ble_eq_true rfl, Nat.le_of_ble_eq_true rfl⟩) rfl hl.1 rfl (Nat.le_of_ble_eq_true rfl) dX13_gets_15 ⟨Nat.zero_le _, Nat.zero_le _⟩ hK hP hD hS hA (fun r_52 u_53 H locs hw hP hD hS => ?_)
    obtain ⟨hr_52, fAb_r_52, rfl⟩ := hw
    have hP : va_P (dC, dI) vwCl (mW h0 ad cid sg gm lg) H := hP
    have hD : va_D A (mW h0 ad cid sg gm lg) := hD
    refine lv_if_eq (tgt := 26) hx hb dX13_gets_18 (by decide) (fun c_54 => ?_) (fun c_54 => ?_)
    · have h_55 : iv 0 0 r_52 := iv_eq c_54 hr_52 (iv_k (by decide) : iv 0 0 0) (by decide)
      exact hj26 sg (iv_w h_51 (by decide)) KS_rf hI (Or.inr ⟨by have := i32_0; have := i32_1; have := i32_2; have := i32_m1; have := (show iv 0 8 (sg 51) from MI_s hI 51).1; have := (show iv 0 8 (sg 51) from MI_s hI 51).2; have := (h_51).1; have := (h_51).2; have := (h_55).1; have := (h_55).2; omega, rfl⟩) (Or.inr ⟨h510, Decidable.byContradiction (fun q => (fAb_r_52.resolve_left (fun q8 => absurd q8.1 (by have := i32_0; have := i32_1; have := i32_2; have := i32_m1; have := (h_51).1; have := (h_51).2; have := (h_55).1; have := (h_55).2; omega))).2 ((show absR gm lg b.toNatClampNeg ↔ ¬ wg 34 b.toNatClampNeg = 0 from (by have q := (BR_s hBR hRS h_51 hbl).2.1; have d := DK_r (lg := lg) hRW hRS; unfold absR at *; rw [mWord_k d.1, show rg 42 = gm 42 from d.2.2.1] at q; exact q)).mpr q))⟩) _ _ _ hP hD hS (lv_sub hl [0, 1] rfl)
    · have h_56 : iv 1 1 r_52 := iv_neL c_54 hr_52 (by decide)
      refine lv_aload_n hx hb dX13_gets_21 rfl (lv_at hl 0 rfl) ?_
      refine lv_iconst (v := 2) hx hb dX13_gets_22 (by decide) ?_
      refine mr_callv (rest := []) ⟨hx, hb, hml, hown, htb⟩ (f_fails l dC dI h0 ad cid sg gm lg 2 hI (iv_w (iv_k (by decide) : iv 2 2 2) (by decide))) (cwV 1 htb (gd_V kw_1162 kw_1163 kw_1164 kw_5 kw_1604) rfl rfl rfl (by decide +kernel) ⟨Nat.le_of_ble_eq_true rfl, Nat.le_of_ble_eq_true rfl⟩) rfl hl.1 rfl (Nat.le_of_ble_eq_true rfl) dX13_gets_23 ⟨Nat.zero_le _, Nat.zero_le _⟩ hK hP hD hS hA (fun u_58 H locs hw hP hD hS => ?_)
      obtain ⟨sgv_59, gmv_59, lgv_59, rfl, hIv_59, ksv_59, kgv_59, klv_59, fFl_r_57⟩ := hw
      obtain rfl := KS_nil kgv_59
      obtain rfl := KS_nil klv_59
      have hP : va_P (dC, dI) vwCl (mW h0 ad cid sgv_59 gm lg) H := hP
      have hD : va_D A (mW h0 ad cid sgv_59 gm lg) := hD
      exact hj26 sgv_59 (iv_w h_51 (by decide)) (KS_tr (L := [51, 52]) KS_rf ksv_59 (by decide)) hIv_59 (Or.inl (by have := i32_0; have := i32_1; have := i32_2; have := i32_m1; have := (show iv 0 8 (sgv_59 51) from MI_s hIv_59 51).1; have := (show iv 0 8 (sgv_59 51) from MI_s hIv_59 51).2; have := (show iv 0 8 (sg 51) from MI_s hI 51).1; have := (show iv 0 8 (sg 51) from MI_s hI 51).2; have := (h_51).1; have := (h_51).2; have := (h_56).1; have := (h_56).2; omega)) (Or.inl ⟨(by have := i32_0; have := i32_1; have := i32_2; have := i32_m1; have := (show iv 0 8 (sgv_59 51) from MI_s hIv_59 51).1; have := (show iv 0 8 (sgv_59 51) from MI_s hIv_59 51).2; have := (show iv 0 8 (sg 51) from MI_s hI 51).1; have := (show iv 0 8 (sg 51) from MI_s hI 51).2; have := (h_51).1; have := (h_51).2; have := (h_56).1; have := (h_56).2; omega), Or.inr ((show absR gm lg b.toNatClampNeg ↔ ¬ wg 34 b.toNatClampNeg = 0 from (by have q := (BR_s hBR hRS h_51 hbl).2.1; have d := DK_r (lg := lg) hRW hRS; unfold absR at *; rw [mWord_k d.1, show rg 42 = gm 42 from d.2.2.1] at q; exact q)).mp (fAb_r_52.resolve_right (fun q => absurd q.1 (by have := i32_0; have := i32_1; have := i32_2; have := i32_m1; have := (h_51).1; have := (h_51).2; have := (h_56).1; have := (h_56).2; omega))).2)⟩) _ _ _ hP hD hS (lv_sub hl [0, 1] rfl)
  · have h_60 : iv (-1) (-1) b := iv_eq c_50 hvb (iv_k (by decide) : iv (-1) (-1) (-1)) (by decide)
    refine lv_aload_n hx hb dX13_gets_5 rfl (lv_at hl 0 rfl) ?_
    refine lv_iconst (v := 1) hx hb dX13_gets_6 (by decide) ?_
    refine mr_callv (rest := []) ⟨hx, hb, hml, hown, htb⟩ (f_fails l dC dI h0 ad cid sg gm lg 1 hI (iv_w (iv_k (by decide) : iv 1 1 1) (by decide))) (cwV 1 htb (gd_V kw_1162 kw_1163 kw_1164 kw_5 kw_1604) rfl rfl rfl (by decide +kernel) ⟨Nat.le_of_ble_eq_true rfl, Nat.le_of_ble_eq_true rfl⟩) rfl hl.1 rfl (Nat.le_of_ble_eq_true rfl) dX13_gets_7 ⟨Nat.zero_le _, Nat.zero_le _⟩ hK hP hD hS hA (fun u_62 H locs hw hP hD hS => ?_)
    obtain ⟨sgv_63, gmv_63, lgv_63, rfl, hIv_63, ksv_63, kgv_63, klv_63, fFl_r_61⟩ := hw
    obtain rfl := KS_nil kgv_63
    obtain rfl := KS_nil klv_63
    have hP : va_P (dC, dI) vwCl (mW h0 ad cid sgv_63 gm lg) H := hP
    have hD : va_D A (mW h0 ad cid sgv_63 gm lg) := hD
    refine lv_goto (tgt := 26) hx hb dX13_gets_10 (by decide) ?_
    exact hj26 sgv_63 (iv_w h_60 (by decide)) (KS_tr (L := [51, 52]) KS_rf ksv_63 (by decide)) hIv_63 (Or.inl (by have := i32_0; have := i32_1; have := i32_2; have := i32_m1; have := (show iv 0 8 (sgv_63 51) from MI_s hIv_63 51).1; have := (show iv 0 8 (sgv_63 51) from MI_s hIv_63 51).2; have := (show iv 0 8 (sg 51) from MI_s hI 51).1; have := (show iv 0 8 (sg 51) from MI_s hI 51).2; have := (h_60).1; have := (h_60).2; omega)) (Or.inl ⟨(by have := i32_0; have := i32_1; have := i32_2; have := i32_m1; have := (show iv 0 8 (sgv_63 51) from MI_s hIv_63 51).1; have := (show iv 0 8 (sgv_63 51) from MI_s hIv_63 51).2; have := (show iv 0 8 (sg 51) from MI_s hI 51).1; have := (show iv 0 8 (sg 51) from MI_s hI 51).2; have := (h_60).1; have := (h_60).2; omega), Or.inl (by have := i32_0; have := i32_1; have := i32_2; have := i32_m1; have := (h_60).1; have := (h_60).2; omega)⟩) _ _ _ hP hD hS (lv_sub hl [0, 1] rfl)
end
section
theorem oSe_t {wg : Nat → Nat → Int32} {wl : Nat → Nat → Int64} {o t : Int} {h : Nat} {V : List Int} {S : S9} (ht : t = sgF wg (wg 22 h).toNatClampNeg 8 (((zO S)[o.toNat]?).getD (0, 0)).1) (h1 : t = -1) : oSe wg wl o h V S = (none, S) := by
  unfold oSe; simp only []; rw [← ht, if_pos h1]
theorem oSe_w {wg : Nat → Nat → Int32} {wl : Nat → Nat → Int64} {o t : Int} {h : Nat} {V : List Int} {S : S9} (ht : t = sgF wg (wg 22 h).toNatClampNeg 8 (((zO S)[o.toNat]?).getD (0, 0)).1) (h1 : ¬ t = -1) (hw : wCo wg wl (zO S) (ctE wg h) V t = -1) : oSe wg wl o h V S = (none, S) := by
  unfold oSe; simp only []; rw [← ht, if_neg h1, if_pos hw]
theorem oSe_y {wg : Nat → Nat → Int32} {wl : Nat → Nat → Int64} {o t : Int} {h : Nat} {V : List Int} {S : S9} (ht : t = sgF wg (wg 22 h).toNatClampNeg 8 (((zO S)[o.toNat]?).getD (0, 0)).1) (h1 : ¬ t = -1) (hw : ¬ wCo wg wl (zO S) (ctE wg h) V t = -1) : oSe wg wl o h V S = (some 0, tlV wg wl 4 o (wg 22 h).toInt (ctE wg h) V t S) := by
  unfold oSe; simp only []; rw [← ht, if_neg h1, if_neg hw]
theorem BR_e {ws : Nat → Int32} {wg : Nat → Nat → Int32} {wl : Nat → Nat → Int64} {rs sg : Nat → Int32} {rg gm : Nat → Nat → Int32} {lg : Nat → Nat → Int64} {b : Int32} (h : BRG ws wg wl rs rg lg) (hRW : rt9 gm = rg) (hRS : rs9 sg = rs) (hv : iv 0 79 b) (hb : b.toInt < (sg 41).toInt) : (gm 44 b.toNatClampNeg).toInt = (wg 41 (3 * b.toNatClampNeg + 1)).toInt ∧ ∀ n, n < (wg 41 (3 * b.toNatClampNeg + 1)).toNatClampNeg → gm 45 (26 * b.toNatClampNeg + n) = wg 57 (128 * (3 * b.toNatClampNeg + 1) + n) ∧ HLB ws wg wl rs rg lg (wg 57 (128 * (3 * b.toNatClampNeg + 1) + n)).toNatClampNeg
    ∧ ((mWord gm lg (wg 57 (128 * (3 * b.toNatClampNeg + 1) + n)).toNatClampNeg 1851878757).toInt32 - 97).toInt = (wg 22 (wg 57 (128 * (3 * b.toNatClampNeg + 1) + n)).toNatClampNeg).toInt ∧ 0 ≤ (wg 22 (wg 57 (128 * (3 * b.toNatClampNeg + 1) + n)).toNatClampNeg).toInt ∧ (wg 22 (wg 57 (128 * (3 * b.toNatClampNeg + 1) + n)).toNatClampNeg).toInt ≤ 25 := by
  have q := (h.2.1 _ (BR_lt hRS hv hb)).2.2.1
  have d := DK_r (lg := lg) hRW hRS
  unfold BNe at q
  rw [rw9 hRW 44 rfl] at q
  refine ⟨q.1, fun n hn => ?_⟩
  have q9 := q.2 n hn
  rw [rw9 hRW 45 rfl, mWord_k d.1] at q9
  exact q9

theorem sgF_ty {wg : Nat → Nat → Int32} {nm : Nat} (hn : nm < 26) (h4 : ∀ c : Nat, c < 8 → (wg 4 c).toInt < (c : Int)) (h : ∀ c n, c < 8 → n < 26 → (wg 55 (26 * c + n)).toInt = -1 ∨ ty9 (wg 55 (26 * c + n)).toInt) : ∀ (f : Nat) (c : Int), c < 8 → sgF wg nm f c = -1 ∨ ty9 (sgF wg nm f c)
  | 0, c, _ => Or.inl rfl
  | f + 1, c, hc => by
    show (if c < 0 then (-1 : Int) else if ¬ (wg 55 (26 * c.toNat + nm)).toInt = -1 then (wg 55 (26 * c.toNat + nm)).toInt else sgF wg nm f (wg 4 c.toNat).toInt) = -1 ∨ ty9 (if c < 0 then (-1 : Int) else if ¬ (wg 55 (26 * c.toNat + nm)).toInt = -1 then (wg 55 (26 * c.toNat + nm)).toInt else sgF wg nm f (wg 4 c.toNat).toInt)
    by_cases q : c < 0
    · rw [if_pos q]; exact Or.inl rfl
    · rw [if_neg q]
      by_cases q2 : (wg 55 (26 * c.toNat + nm)).toInt = -1
      · rw [if_neg (fun p => p q2)]
        exact sgF_ty hn h4 h f _ (by have := h4 c.toNat (by omega); omega)
      · rw [if_pos q2]; exact h c.toNat nm (by omega) hn

set_option maxHeartbeats 4000000 in
set_option maxRecDepth 100000 in
theorem f_setOne9 (l : Launch) (dC : Nat → ClassId) (dI : Nat → Nat → Nat) (h0 : Nat) (ad : Nat → Nat) (cid : Nat → ClassId) (sg : Nat → Int32) (gm : Nat → Nat → Int32) (lg : Nat → Nat → Int64) (b : Int32) (ws : Nat → Int32) (wg : Nat → Nat → Int32) (wl : Nat → Nat → Int64) (rs : Nat → Int32) (rg : Nat → Nat → Int32) (S : S9) (V9 : List Int) (hI : MI sg gm) (hvb : iv 0 79 b) (hdoc : DOC sg gm lg) (hva : VAL gm) (hPR : PR gm) (hh1 : 1 ≤ (sg 63).toInt) (hob : 0 ≤ (gm 69 (TOPn sg)).toInt) (hi25 : (gm 66 (TOPn sg)).toInt ≤ 25) (hbl : b.toInt < (sg 41).toInt) (hRW : rt9 gm = rg) (hRS : rs9 sg = rs) (hBR : BRG ws wg wl rs rg lg) (hCL : CLS9 wg rg) (hRR : RR wg wl S sg gm) (hWD : WD9 lg) (h510 : (sg 51).toInt = 0) (hkx : (gm 66 (TOPn sg)).toNatClampNeg < (wg 41 (3 * b.toNatClampNeg + 1)).toNatClampNeg) (hV : VR9 wg wl rg (zO S) (ctE wg (wg 57 (128 * (3 * b.toNatClampNeg + 1) + (gm 66 (TOPn sg)).toNatClampNeg)).toNatClampNeg) V9 (gm 70 (5 * (TOPn sg) + 4)) (gm 71 (5 * (TOPn sg) + 4))) (hIT : ITS9 wg rg gm (ctE wg (wg 57 (128 * (3 * b.toNatClampNeg + 1) + (gm 66 (TOPn sg)).toNatClampNeg)).toNatClampNeg) (5 * (TOPn sg) + 4) V9) (hol : (gm 69 (TOPn sg)).toInt < ((zO S).length : Int)) (hST2 : ∀ c n, c < 8 → n < 26 → (wg 55 (26 * c + n)).toInt = -1 ∨ ty9 (wg 55 (26 * c + n)).toInt) : MMv l dC dI yX13_setOne wm_X13_setOne ({ frames := 4, cells := 0, slots := 0, locals := 98 }) h0 ad cid [.int b] sg gm lg (fun v => ∃ (sg2 : Nat → Int32) (gm2 : Nat → Nat → Int32) (lg2 : Nat → Nat → Int64), v = (sg2, gm2, lg2) ∧ MI sg2 gm2 ∧ KS [49, 51, 52] sg sg2 ∧ KS [55, 56, 57, 58] gm gm2 ∧ KS [] lg lg2 ∧ ((1 ≤ (sg2 51).toInt ∧ ∃ S2, oSe wg wl (gm 69 (TOPn sg)).toInt (wg 57 (128 * (3 * b.toNatClampNeg + 1) + (gm 66 (TOPn sg)).toNatClampNeg)).toNatClampNeg V9 S = (none, S2) ∧ RR wg wl S2 sg2 gm2) ∨ ((sg2 51).toInt = 0 ∧ ∃ S2, oSe wg wl (gm 69 (TOPn sg)).toInt (wg 57 (128 * (3 * b.toNatClampNeg + 1) + (gm 66 (TOPn sg)).toNatClampNeg)).toNatClampNeg V9 S = (some 0, S2) ∧ RR wg wl S2 sg2 gm2))) := by
  intro sz
  refine Met.ofW (cc := cX13_setOne) (maxL := 6) (ret := none) (by decide) rfl ?_
  intro p e s m args below meth c s₁ B hml hv
  obtain ⟨rfl, hsz, hP, hK, hD0⟩ := hv
  have hx := B.exec
  have hb := B.bytes
  have hr := B.returns
  have hts := atoms_spec (ws := wm_X13_setOne) B.pre
  have htb := fun (w : Cond) (h : w ∈ tb) => hts w (List.mem_cons_of_mem _ h)
  have hown : s.vm.findClass RX13 = some m.cls := findClass_of_methodNamed B.named
  have hlocks := B.notSynchronized
  subst hsz
  have hD := hD0.self (sz := s.heap.size)
  generalize hAe : va_A (mW h0 ad cid sg gm lg) s.heap.size = A at hD ⊢
  have hA : ∀ q : Nat, s.heap.size ≤ q → A q := fun q h => by rw [← hAe]; exact Or.inr h
  have hS : va_S A s.heap s.heap [] := va_S.rf
  have hl := lv_entry ([.ref h0, .int b]) (n := 6) (Nat.le_of_ble_eq_true rfl)
  rw [lg_entry_eq]
  generalize (lg_sl ([.ref h0, .int b]) ++ List.replicate (6 - (lg_sl ([.ref h0, .int b])).length) Slot.unset).toArray = ls at hl ⊢
  have hl : lv_has ls 6 [(0, .ref h0), (1, .int b)] := hl
  have h63 : iv 1 80 (sg 63) := ⟨hh1, (show iv 0 80 (sg 63) from MI_s hI 63).2⟩
  refine lv_aload_n hx hb dX13_setOne_0 rfl (lv_at hl 0 rfl) ?_
  refine mr_get (v := .int (sg 63)) hx hb htb inX13 hown hK hP 63 (by decide) (htb _ kw_1157) rfl dX13_setOne_1 ?_
  refine lv_iconst (v := 1) hx hb dX13_setOne_4 (by decide) ?_
  refine lv_isub hx hb dX13_setOne_5 ?_
  refine lv_topi (fun z_1 ez_1 => ?_)
  have hz_1 : iv 0 79 z_1 := iv_of ez_1 (iv_sub h63 (iv_k (by decide) : iv 1 1 1) (by decide))
  have tz_1 : z_1.toInt = ((sg 63) : Int32).toInt - 1 := by rw [ez_1]; exact iv_subE h63 (iv_k (by decide) : iv 1 1 1) (by decide)
  refine lv_istore_n (lv' := [(2, .int z_1), (0, .ref h0), (1, .int b)]) hx hb dX13_setOne_6 rfl hl (by decide) rfl (fun ls hl => ?_)
  have htop := top_n h63 tz_1
  refine lv_aload_n hx hb dX13_setOne_7 rfl (lv_at hl 1 rfl) ?_
  refine lv_aload_n hx hb dX13_setOne_8 rfl (lv_at hl 1 rfl) ?_
  refine mr_get (v := .ref (ad 45)) hx hb htb inX13 hown hK hP 45 (by decide) (htb _ kw_199) rfl dX13_setOne_9 ?_
  refine lv_bipush (v := 26) hx hb dX13_setOne_12 (by decide) ?_
  refine lv_iload_n hx hb dX13_setOne_14 rfl (lv_at hl 2 rfl) ?_
  refine lv_imul hx hb dX13_setOne_15 ?_
  refine lv_topi (fun z_2 ez_2 => ?_)
  have hz_2 : iv 0 2054 z_2 := iv_of ez_2 (iv_mul (iv_k (by decide) : iv 26 26 26) hvb (by decide))
  have tz_2 : z_2.toInt = 26 * (b : Int32).toInt := by rw [ez_2]; exact iv_mulE (iv_k (by decide) : iv 26 26 26) hvb (by decide)
  refine lv_aload_n hx hb dX13_setOne_16 rfl (lv_at hl 1 rfl) ?_
  refine mr_get (v := .ref (ad 66)) hx hb htb inX13 hown hK hP 66 (by decide) (htb _ kw_215) rfl dX13_setOne_17 ?_
  refine lv_iload_n hx hb dX13_setOne_20 rfl (lv_at hl 0 rfl) ?_
  refine mr_iald hx hb hK hP 51 (k := 66) rfl rfl rfl (show vp_in z_1 81 from (iv_in hz_1 (by decide))) dX13_setOne_21 ?_
  refine lv_topi (fun z_3 ez_3 => ?_)
  have hz_3 : iv 0 26 z_3 := iv_of ez_3 (MI_a hI 66 hz_1 (by decide))
  have h_4 : iv 0 25 z_3 := ⟨(hz_3).1, by have q9 := ez_3; rw [htop] at q9; rw [q9]; exact hi25⟩
  refine lv_iadd hx hb dX13_setOne_22 ?_
  refine lv_topi (fun z_5 ez_5 => ?_)
  have hz_5 : iv 0 2079 z_5 := iv_of ez_5 (iv_add hz_2 h_4 (by decide))
  have tz_5 : z_5.toInt = (z_2 : Int32).toInt + (z_3 : Int32).toInt := by rw [ez_5]; exact iv_addE hz_2 h_4 (by decide)
  refine mr_iald hx hb hK hP 36 (k := 45) rfl rfl rfl (show vp_in z_5 2080 from (iv_in hz_5 (by decide))) dX13_setOne_23 ?_
  refine lv_topi (fun z_6 ez_6 => ?_)
  have hz_6 : iv 0 79 z_6 := iv_of ez_6 (MI_a hI 45 hz_5 (by decide))
  have hel5 : z_6.toNatClampNeg = (wg 57 (128 * (3 * b.toNatClampNeg + 1) + (gm 66 (TOPn sg)).toNatClampNeg)).toNatClampNeg := (by rw [← ((BR_e hBR hRW hRS hvb hbl).2 _ hkx).1, ez_6, show z_5.toNatClampNeg = 26 * b.toNatClampNeg + (gm 66 (TOPn sg)).toNatClampNeg from (by have q5 : z_3.toNatClampNeg = (gm 66 (TOPn sg)).toNatClampNeg := (by rw [ez_3, htop]); have q1 : z_5.toNatClampNeg = z_5.toInt.toNat := rfl; have q1 : b.toNatClampNeg = b.toInt.toNat := rfl; have q1 : z_3.toNatClampNeg = z_3.toInt.toNat := rfl; have := i32_0; have := i32_1; have := i32_2; have := i32_m1; have := (hvb).1; have := (hvb).2; have := (h63).1; have := (h63).2; have := (hz_1).1; have := (hz_1).2; have := (hz_2).1; have := (hz_2).2; have := (h_4).1; have := (h_4).2; have := (hz_5).1; have := (hz_5).2; have := (hz_6).1; have := (hz_6).2; omega)])
  refine lv_ldc2 (own := RX13) (v := 1851878757) hx hb hown (htb _ kw_887) dX13_setOne_24 ?_
  refine mr_calll (rest := []) ⟨hx, hb, hml, hown, htb⟩ (f_word l dC dI h0 ad cid sg gm lg z_6 1851878757 hI hz_6) (cwV 2 htb (gd_V kw_923 kw_924 kw_925 kw_5 kw_1545) rfl rfl rfl (by decide +kernel) ⟨Nat.le_of_ble_eq_true rfl, Nat.le_of_ble_eq_true rfl⟩) rfl hl.1 rfl (Nat.le_of_ble_eq_true rfl) dX13_setOne_27 ⟨Nat.zero_le _, Nat.zero_le _⟩ hK hP hD hS hA (fun r_7 u_8 H locs hw hP hD hS => ?_)
  obtain ⟨fW_r_7, rfl⟩ := hw
  have hP : va_P (dC, dI) vwCl (mW h0 ad cid sg gm lg) H := hP
  have hD : va_D A (mW h0 ad cid sg gm lg) := hD
  refine lv_l2i (v := (r_7).toInt32) hx hb dX13_setOne_30 rfl ?_
  refine lv_topi (fun z_9 ez_9 => ?_)
  refine lv_bipush (v := 97) hx hb dX13_setOne_31 (by decide) ?_
  refine lv_isub hx hb dX13_setOne_33 ?_
  refine lv_topi (fun z_10 ez_10 => ?_)
  refine lv_istore_n (lv' := [(3, .int z_10), (2, .int z_1), (0, .ref h0), (1, .int b)]) hx hb dX13_setOne_34 rfl hl (by decide) rfl (fun ls hl => ?_)
  have hn35 : z_10.toInt = (wg 22 (wg 57 (128 * (3 * b.toNatClampNeg + 1) + (gm 66 (TOPn sg)).toNatClampNeg)).toNatClampNeg).toInt := (by have q5 := ((BR_e hBR hRW hRS hvb hbl).2 _ hkx).2.2.1; have q6 := fW_r_7; rw [hel5] at q6; rw [← q6, ← ez_9, ← ez_10] at q5; exact q5)
  have hx35 : iv 0 25 z_10 := ⟨(by rw [hn35]; exact ((BR_e hBR hRW hRS hvb hbl).2 _ hkx).2.2.2.1), (by rw [hn35]; exact ((BR_e hBR hRW hRS hvb hbl).2 _ hkx).2.2.2.2)⟩
  refine lv_aload_n hx hb dX13_setOne_35 rfl (lv_at hl 2 rfl) ?_
  refine mr_get (v := .ref (ad 69)) hx hb htb inX13 hown hK hP 69 (by decide) (htb _ kw_218) rfl dX13_setOne_36 ?_
  refine lv_iload_n hx hb dX13_setOne_39 rfl (lv_at hl 1 rfl) ?_
  refine mr_iald hx hb hK hP 54 (k := 69) rfl rfl rfl (show vp_in z_1 81 from (iv_in hz_1 (by decide))) dX13_setOne_40 ?_
  refine lv_topi (fun z_11 ez_11 => ?_)
  have hz_11 : iv (-1) 59 z_11 := iv_of ez_11 (MI_a hI 69 hz_1 (by decide))
  have h_12 : iv 0 59 z_11 := ⟨by have q9 := ez_11; rw [htop] at q9; rw [q9]; exact hob, (hz_11).2⟩
  refine lv_istore (lv' := [(4, .int z_11), (3, .int z_10), (2, .int z_1), (0, .ref h0), (1, .int b)]) hx hb dX13_setOne_41 hl (by decide) rfl (fun ls hl => ?_)
  refine lv_aload_n hx hb dX13_setOne_43 rfl (lv_at hl 3 rfl) ?_
  refine lv_aload_n hx hb dX13_setOne_44 rfl (lv_at hl 3 rfl) ?_
  refine mr_get (v := .ref (ad 53)) hx hb htb inX13 hown hK hP 53 (by decide) (htb _ kw_203) rfl dX13_setOne_45 ?_
  refine lv_iload hx hb dX13_setOne_48 (lv_at hl 0 rfl) ?_
  refine mr_iald hx hb hK hP 39 (k := 53) rfl rfl rfl (show vp_in z_11 60 from (iv_in h_12 (by decide))) dX13_setOne_50 ?_
  refine lv_topi (fun z_13 ez_13 => ?_)
  have hz_13 : iv 0 7 z_13 := iv_of ez_13 (MI_a hI 53 h_12 (by decide))
  refine lv_iload_n hx hb dX13_setOne_51 rfl (lv_at hl 1 rfl) ?_
  refine mr_calli (rest := []) ⟨hx, hb, hml, hown, htb⟩ (f_typeOfSetter9 l dC dI h0 ad cid sg gm lg z_13 z_10 wg rg hI (iv_w hz_13 (by decide)) hx35 hPR hRW hCL) (cwV 2 htb (gd_V kw_1257 kw_1258 kw_1259 kw_5 kw_1634) rfl rfl rfl (by decide +kernel) ⟨Nat.le_of_ble_eq_true rfl, Nat.le_of_ble_eq_true rfl⟩) rfl hl.1 rfl (Nat.le_of_ble_eq_true rfl) dX13_setOne_52 ⟨Nat.zero_le _, Nat.zero_le _⟩ hK hP hD hS hA (fun r_14 u_15 H locs hw hP hD hS => ?_)
  obtain ⟨hr_14, fT_r_14, rfl⟩ := hw
  have hP : va_P (dC, dI) vwCl (mW h0 ad cid sg gm lg) H := hP
  have hD : va_D A (mW h0 ad cid sg gm lg) := hD
  refine lv_istore (lv' := [(5, .int r_14), (4, .int z_11), (3, .int z_10), (2, .int z_1), (0, .ref h0), (1, .int b)]) hx hb dX13_setOne_55 hl (by decide) rfl (fun ls hl => ?_)
  have h69 : z_11 = gm 69 (TOPn sg) := (by rw [ez_11, htop])
  have ht57 : r_14.toInt = sgF wg (wg 22 (wg 57 (128 * (3 * b.toNatClampNeg + 1) + (gm 66 (TOPn sg)).toNatClampNeg)).toNatClampNeg).toNatClampNeg 8 (((zO S)[(gm 69 (TOPn sg)).toInt.toNat]?).getD (0, 0)).1 := (by have q5 := (RR_cl hRR (nb := gm 69 (TOPn sg)) hob hol).1; rw [q5, ← h69, ← ez_13]; have q6 := fT_r_14; rw [show z_10.toNatClampNeg = (wg 22 (wg 57 (128 * (3 * b.toNatClampNeg + 1) + (gm 66 (TOPn sg)).toNatClampNeg)).toNatClampNeg).toNatClampNeg from (by show z_10.toInt.toNat = (wg 22 (wg 57 (128 * (3 * b.toNatClampNeg + 1) + (gm 66 (TOPn sg)).toNatClampNeg)).toNatClampNeg).toInt.toNat; rw [hn35])] at q6; exact q6)
  refine lv_iload hx hb dX13_setOne_57 (lv_at hl 0 rfl) ?_
  refine lv_iconst (v := (-1)) hx hb dX13_setOne_59 (by decide) ?_
  refine lv_icmp_ne (tgt := 69) hx hb dX13_setOne_60 (by decide) (fun c_16 => ?_) (fun c_16 => ?_)
  · have h_17 : iv 0 15 r_14 := iv_neL c_16 hr_14 (by decide)
    refine lv_aload_n hx hb dX13_setOne_69 rfl (lv_at hl 4 rfl) ?_
    refine mr_get (v := .int (sg 51)) hx hb htb inX13 hown hK hP 51 (by decide) (htb _ kw_980) rfl dX13_setOne_70 ?_
    refine lv_if_ne (tgt := 112) hx hb dX13_setOne_73 (by decide) (fun c_18 => ?_) (fun c_18 => ?_)
    · have h_19 : iv 1 8 (sg 51) := iv_neL c_18 (show iv 0 8 (sg 51) from MI_s hI 51) (by decide)
      exfalso; have := h510; have := i32_0; have := i32_1; have := i32_2; have := i32_m1; have := (show iv 0 8 (sg 51) from MI_s hI 51).1; have := (show iv 0 8 (sg 51) from MI_s hI 51).2; have := (hvb).1; have := (hvb).2; have := (h63).1; have := (h63).2; have := (hz_1).1; have := (hz_1).2; have := (hz_2).1; have := (hz_2).2; have := (h_4).1; have := (h_4).2; have := (hz_5).1; have := (hz_5).2; have := (hz_6).1; have := (hz_6).2; have := (hx35).1; have := (hx35).2; have := (h_12).1; have := (h_12).2; have := (hz_13).1; have := (hz_13).2; have := (h_17).1; have := (h_17).2; have := (h_19).1; have := (h_19).2; omega
    · have h_20 : iv 0 0 (sg 51) := iv_eq c_18 (show iv 0 8 (sg 51) from MI_s hI 51) (iv_k (by decide) : iv 0 0 0) (by decide)
      refine lv_aload_n hx hb dX13_setOne_76 rfl (lv_at hl 4 rfl) ?_
      refine lv_aload_n hx hb dX13_setOne_77 rfl (lv_at hl 4 rfl) ?_
      refine mr_get (v := .ref (ad 70)) hx hb htb inX13 hown hK hP 70 (by decide) (htb _ kw_219) rfl dX13_setOne_78 ?_
      refine lv_iconst (v := 5) hx hb dX13_setOne_81 (by decide) ?_
      refine lv_iload_n hx hb dX13_setOne_82 rfl (lv_at hl 3 rfl) ?_
      refine lv_imul hx hb dX13_setOne_83 ?_
      refine lv_topi (fun z_21 ez_21 => ?_)
      have hz_21 : iv 0 395 z_21 := iv_of ez_21 (iv_mul (iv_k (by decide) : iv 5 5 5) hz_1 (by decide))
      have tz_21 : z_21.toInt = 5 * (z_1 : Int32).toInt := by rw [ez_21]; exact iv_mulE (iv_k (by decide) : iv 5 5 5) hz_1 (by decide)
      refine lv_iconst (v := 4) hx hb dX13_setOne_84 (by decide) ?_
      refine lv_iadd hx hb dX13_setOne_85 ?_
      refine lv_topi (fun z_22 ez_22 => ?_)
      have hz_22 : iv 4 399 z_22 := iv_of ez_22 (iv_add hz_21 (iv_k (by decide) : iv 4 4 4) (by decide))
      have tz_22 : z_22.toInt = (z_21 : Int32).toInt + 4 := by rw [ez_22]; exact iv_addE hz_21 (iv_k (by decide) : iv 4 4 4) (by decide)
      refine mr_iald hx hb hK hP 55 (k := 70) rfl rfl rfl (show vp_in z_22 405 from (iv_in hz_22 (by decide))) dX13_setOne_86 ?_
      refine lv_topi (fun z_23 ez_23 => ?_)
      have hz_23 : iv 0 3 z_23 := iv_of ez_23 (MI_a hI 70 hz_22 (by decide))
      refine lv_aload_n hx hb dX13_setOne_87 rfl (lv_at hl 4 rfl) ?_
      refine mr_get (v := .ref (ad 71)) hx hb htb inX13 hown hK hP 71 (by decide) (htb _ kw_220) rfl dX13_setOne_88 ?_
      refine lv_iconst (v := 5) hx hb dX13_setOne_91 (by decide) ?_
      refine lv_iload_n hx hb dX13_setOne_92 rfl (lv_at hl 3 rfl) ?_
      refine lv_imul hx hb dX13_setOne_93 ?_
      refine lv_topi (fun z_24 ez_24 => ?_)
      obtain rfl : z_21 = z_24 := ez_21.trans ez_24.symm
      refine lv_iconst (v := 4) hx hb dX13_setOne_94 (by decide) ?_
      refine lv_iadd hx hb dX13_setOne_95 ?_
      refine lv_topi (fun z_25 ez_25 => ?_)
      obtain rfl : z_22 = z_25 := ez_22.trans ez_25.symm
      refine mr_iald hx hb hK hP 56 (k := 71) rfl rfl rfl (show vp_in z_22 405 from (iv_in hz_22 (by decide))) dX13_setOne_96 ?_
      refine lv_topi (fun z_26 ez_26 => ?_)
      have hz_26 : iv 0 1079 z_26 := iv_of ez_26 (MI_a hI 71 hz_22 (by decide))
      refine lv_iload hx hb dX13_setOne_97 (lv_at hl 0 rfl) ?_
      refine mr_calli (rest := []) ⟨hx, hb, hml, hown, htb⟩ (f_weight9 l dC dI h0 ad cid sg gm lg z_23 z_26 r_14 wg wl rg S (ctE wg (wg 57 (128 * (3 * b.toNatClampNeg + 1) + (gm 66 (TOPn sg)).toNatClampNeg)).toNatClampNeg) V9 hI hz_23 hz_26 (VAL_at hva (show iv 0 404 z_22 from (iv_w hz_22 (by decide))) ez_23 ez_26) hPR hRW hCL hRR hWD (by rw [ez_23, ez_26, (show z_22.toNatClampNeg = (5 * (TOPn sg) + 4) from (by have q5 := htop; have q1 : z_22.toNatClampNeg = z_22.toInt.toNat := rfl; have q1 : z_1.toNatClampNeg = z_1.toInt.toNat := rfl; have := i32_0; have := i32_1; have := i32_2; have := i32_m1; have := (hvb).1; have := (hvb).2; have := (h63).1; have := (h63).2; have := (hz_1).1; have := (hz_1).2; have := (hz_2).1; have := (hz_2).2; have := (h_4).1; have := (h_4).2; have := (hz_5).1; have := (hz_5).2; have := (hz_6).1; have := (hz_6).2; have := (hx35).1; have := (hx35).2; have := (h_12).1; have := (h_12).2; have := (hz_13).1; have := (hz_13).2; have := (h_17).1; have := (h_17).2; have := (h_20).1; have := (h_20).2; have := (hz_21).1; have := (hz_21).2; have := (hz_22).1; have := (hz_22).2; have := (hz_23).1; have := (hz_23).2; have := (hz_26).1; have := (hz_26).2; omega))]; exact hV) (by rw [ht57]; exact ((sgF_ty (by have q5 := ((BR_e hBR hRW hRS hvb hbl).2 _ hkx).2.2.2; have q6 : (wg 22 (wg 57 (128 * (3 * b.toNatClampNeg + 1) + (gm 66 (TOPn sg)).toNatClampNeg)).toNatClampNeg).toNatClampNeg = (wg 22 (wg 57 (128 * (3 * b.toNatClampNeg + 1) + (gm 66 (TOPn sg)).toNatClampNeg)).toNatClampNeg).toInt.toNat := rfl; omega) (CL_pw hCL hRW hPR) hST2 8 _ (by have q5 := (RR_cl hRR (nb := gm 69 (TOPn sg)) hob hol).1; rw [q5, ← h69, ← ez_13]; have := i32_0; have := i32_1; have := i32_2; have := i32_m1; have := (hvb).1; have := (hvb).2; have := (h63).1; have := (h63).2; have := (hz_1).1; have := (hz_1).2; have := (hz_2).1; have := (hz_2).2; have := (h_4).1; have := (h_4).2; have := (hz_5).1; have := (hz_5).2; have := (hz_6).1; have := (hz_6).2; have := (hx35).1; have := (hx35).2; have := (h_12).1; have := (h_12).2; have := (hz_13).1; have := (hz_13).2; have := (h_17).1; have := (h_17).2; have := (h_20).1; have := (h_20).2; have := (hz_21).1; have := (hz_21).2; have := (hz_22).1; have := (hz_22).2; have := (hz_23).1; have := (hz_23).2; have := (hz_26).1; have := (hz_26).2; omega)).resolve_left (by rw [← ht57]; exact (fun q7 => c_16 (Int32.toInt_inj.mp (q7.trans (by decide)))))))) (cwV 3 htb (gd_V kw_1223 kw_1224 kw_1225 kw_5 kw_1624) rfl rfl rfl (by decide +kernel) ⟨Nat.le_of_ble_eq_true rfl, Nat.le_of_ble_eq_true rfl⟩) rfl hl.1 rfl (Nat.le_of_ble_eq_true rfl) dX13_setOne_99 ⟨Nat.zero_le _, Nat.zero_le _⟩ hK hP hD hS hA (fun r_27 u_28 H locs hw hP hD hS => ?_)
      obtain ⟨hr_27, fw_r_27, rfl⟩ := hw
      have hP : va_P (dC, dI) vwCl (mW h0 ad cid sg gm lg) H := hP
      have hD : va_D A (mW h0 ad cid sg gm lg) := hD
      refine lv_iconst (v := (-1)) hx hb dX13_setOne_102 (by decide) ?_
      refine lv_icmp_ne (tgt := 112) hx hb dX13_setOne_103 (by decide) (fun c_29 => ?_) (fun c_29 => ?_)
      · have h_30 : iv 0 14 r_27 := iv_neL c_29 hr_27 (by decide)
        refine lv_aload_n hx hb dX13_setOne_112 rfl (lv_at hl 4 rfl) ?_
        refine mr_get (v := .int (sg 51)) hx hb htb inX13 hown hK hP 51 (by decide) (htb _ kw_980) rfl dX13_setOne_113 ?_
        refine lv_if_ne (tgt := 134) hx hb dX13_setOne_116 (by decide) (fun c_31 => ?_) (fun c_31 => ?_)
        · have h_32 : iv 1 0 (sg 51) := iv_neL c_31 h_20 (by decide)
          exact (iv_no h_32 (by decide)).elim
        · refine lv_aload_n hx hb dX13_setOne_119 rfl (lv_at hl 4 rfl) ?_
          refine lv_iconst (v := 4) hx hb dX13_setOne_120 (by decide) ?_
          refine lv_iload hx hb dX13_setOne_121 (lv_at hl 1 rfl) ?_
          refine lv_iload_n hx hb dX13_setOne_123 rfl (lv_at hl 2 rfl) ?_
          refine lv_iconst (v := 5) hx hb dX13_setOne_124 (by decide) ?_
          refine lv_iload_n hx hb dX13_setOne_125 rfl (lv_at hl 3 rfl) ?_
          refine lv_imul hx hb dX13_setOne_126 ?_
          refine lv_topi (fun z_33 ez_33 => ?_)
          obtain rfl : z_21 = z_33 := ez_21.trans ez_33.symm
          refine lv_iconst (v := 4) hx hb dX13_setOne_127 (by decide) ?_
          refine lv_iadd hx hb dX13_setOne_128 ?_
          refine lv_topi (fun z_34 ez_34 => ?_)
          obtain rfl : z_22 = z_34 := ez_22.trans ez_34.symm
          refine lv_iload hx hb dX13_setOne_129 (lv_at hl 0 rfl) ?_
          refine mr_callv (rest := []) ⟨hx, hb, hml, hown, htb⟩ (f_tell9 l dC dI h0 ad cid sg gm lg 4 z_11 z_10 z_22 r_14 wg wl rg S (ctE wg (wg 57 (128 * (3 * b.toNatClampNeg + 1) + (gm 66 (TOPn sg)).toNatClampNeg)).toNatClampNeg) V9 (zO S) hI (iv_w hz_22 (by decide)) hva hRW hRR hWD (by rw [(show z_22.toNatClampNeg = (5 * (TOPn sg) + 4) from (by have q5 := htop; have q1 : z_22.toNatClampNeg = z_22.toInt.toNat := rfl; have q1 : z_1.toNatClampNeg = z_1.toInt.toNat := rfl; have := i32_0; have := i32_1; have := i32_2; have := i32_m1; have := (hvb).1; have := (hvb).2; have := (h63).1; have := (h63).2; have := (hz_1).1; have := (hz_1).2; have := (hz_2).1; have := (hz_2).2; have := (h_4).1; have := (h_4).2; have := (hz_5).1; have := (hz_5).2; have := (hz_6).1; have := (hz_6).2; have := (hx35).1; have := (hx35).2; have := (h_12).1; have := (h_12).2; have := (hz_13).1; have := (hz_13).2; have := (h_17).1; have := (h_17).2; have := (h_20).1; have := (h_20).2; have := (hz_21).1; have := (hz_21).2; have := (hz_22).1; have := (hz_22).2; have := (hz_23).1; have := (hz_23).2; have := (hz_26).1; have := (hz_26).2; have := (h_30).1; have := (h_30).2; omega)), show gm 70 = gm 70 from rfl, show gm 71 = gm 71 from rfl]; exact hV) (by rw [← fw_r_27]; exact (fun q7 => c_29 (Int32.toInt_inj.mp (q7.trans (by decide))))) (by rw [(show z_22.toNatClampNeg = (5 * (TOPn sg) + 4) from (by have q5 := htop; have q1 : z_22.toNatClampNeg = z_22.toInt.toNat := rfl; have q1 : z_1.toNatClampNeg = z_1.toInt.toNat := rfl; have := i32_0; have := i32_1; have := i32_2; have := i32_m1; have := (hvb).1; have := (hvb).2; have := (h63).1; have := (h63).2; have := (hz_1).1; have := (hz_1).2; have := (hz_2).1; have := (hz_2).2; have := (h_4).1; have := (h_4).2; have := (hz_5).1; have := (hz_5).2; have := (hz_6).1; have := (hz_6).2; have := (hx35).1; have := (hx35).2; have := (h_12).1; have := (h_12).2; have := (hz_13).1; have := (hz_13).2; have := (h_17).1; have := (h_17).2; have := (h_20).1; have := (h_20).2; have := (hz_21).1; have := (hz_21).2; have := (hz_22).1; have := (hz_22).2; have := (hz_23).1; have := (hz_23).2; have := (hz_26).1; have := (hz_26).2; have := (h_30).1; have := (h_30).2; omega))]; exact hIT)) (cwV 5 htb (gd_V kw_1245 kw_1246 kw_1247 kw_5 kw_1630) rfl rfl rfl (by decide +kernel) ⟨Nat.le_of_ble_eq_true rfl, Nat.le_of_ble_eq_true rfl⟩) rfl hl.1 rfl (Nat.le_of_ble_eq_true rfl) dX13_setOne_131 ⟨Nat.zero_le _, Nat.zero_le _⟩ hK hP hD hS hA (fun u_36 H locs hw hP hD hS => ?_)
          obtain ⟨sgv_37, gmv_37, lgv_37, rfl, hIv_37, ksv_37, kgv_37, klv_37, fR_r_35⟩ := hw
          obtain rfl := KS_nil klv_37
          have hP : va_P (dC, dI) vwCl (mW h0 ad cid sgv_37 gmv_37 lg) H := hP
          have hD : va_D A (mW h0 ad cid sgv_37 gmv_37 lg) := hD
          exact W.vret hx hb hr (fun t ht hW => ⟨⟨(sgv_37, gmv_37, lg), rfl, ⟨sgv_37, gmv_37, lg, rfl, hIv_37, (KS_tr (L := [49, 51, 52]) KS_rf ksv_37 (by decide)), (KS_tr (L := [55, 56, 57, 58]) KS_rf kgv_37 (by decide)), KS_rf, (Or.inr ⟨(by have := h510; have := i32_0; have := i32_1; have := i32_2; have := i32_m1; have := congrArg Int32.toInt (show sgv_37 51 = sg 51 from ksv_37 51 (by decide)); have := (show iv 0 8 (sg 51) from MI_s hI 51).1; have := (show iv 0 8 (sg 51) from MI_s hI 51).2; have := (hvb).1; have := (hvb).2; have := (h63).1; have := (h63).2; have := (hz_1).1; have := (hz_1).2; have := (hz_2).1; have := (hz_2).2; have := (h_4).1; have := (h_4).2; have := (hz_5).1; have := (hz_5).2; have := (hz_6).1; have := (hz_6).2; have := (hx35).1; have := (hx35).2; have := (h_12).1; have := (h_12).2; have := (hz_13).1; have := (hz_13).2; have := (h_17).1; have := (h_17).2; have := (h_20).1; have := (h_20).2; have := (hz_21).1; have := (hz_21).2; have := (hz_22).1; have := (hz_22).2; have := (hz_23).1; have := (hz_23).2; have := (hz_26).1; have := (hz_26).2; have := (h_30).1; have := (h_30).2; omega), _, (oSe_y ht57 (fun q7 => c_16 (Int32.toInt_inj.mp (q7.trans (by decide)))) (by rw [← fw_r_27]; exact (fun q7 => c_29 (Int32.toInt_inj.mp (q7.trans (by decide)))))).trans (by rw [← hn35, ← h69]; rfl), fR_r_35⟩)⟩, by rw [ht]; exact hP, va_K.moved hW.alike hK, hD⟩, hS.F ht⟩) hS.2.2 dX13_setOne_134
      · have h_38 : iv (-1) (-1) r_27 := iv_eq c_29 hr_27 (iv_k (by decide) : iv (-1) (-1) (-1)) (by decide)
        refine lv_aload_n hx hb dX13_setOne_106 rfl (lv_at hl 4 rfl) ?_
        refine lv_bipush (v := 8) hx hb dX13_setOne_107 (by decide) ?_
        refine mr_callv (rest := []) ⟨hx, hb, hml, hown, htb⟩ (f_fails l dC dI h0 ad cid sg gm lg 8 hI (iv_w (iv_k (by decide) : iv 8 8 8) (by decide))) (cwV 1 htb (gd_V kw_1162 kw_1163 kw_1164 kw_5 kw_1604) rfl rfl rfl (by decide +kernel) ⟨Nat.le_of_ble_eq_true rfl, Nat.le_of_ble_eq_true rfl⟩) rfl hl.1 rfl (Nat.le_of_ble_eq_true rfl) dX13_setOne_109 ⟨Nat.zero_le _, Nat.zero_le _⟩ hK hP hD hS hA (fun u_40 H locs hw hP hD hS => ?_)
        obtain ⟨sgv_41, gmv_41, lgv_41, rfl, hIv_41, ksv_41, kgv_41, klv_41, fFl_r_39⟩ := hw
        obtain rfl := KS_nil kgv_41
        obtain rfl := KS_nil klv_41
        have hP : va_P (dC, dI) vwCl (mW h0 ad cid sgv_41 gm lg) H := hP
        have hD : va_D A (mW h0 ad cid sgv_41 gm lg) := hD
        refine lv_aload_n hx hb dX13_setOne_112 rfl (lv_at hl 4 rfl) ?_
        refine mr_get (v := .int (sgv_41 51)) hx hb htb inX13 hown hK hP 51 (by decide) (htb _ kw_980) rfl dX13_setOne_113 ?_
        refine lv_if_ne (tgt := 134) hx hb dX13_setOne_116 (by decide) (fun c_42 => ?_) (fun c_42 => ?_)
        · have h_43 : iv 1 8 (sgv_41 51) := iv_neL c_42 (show iv 0 8 (sgv_41 51) from MI_s hIv_41 51) (by decide)
          exact W.vret hx hb hr (fun t ht hW => ⟨⟨(sgv_41, gm, lg), rfl, ⟨sgv_41, gm, lg, rfl, hIv_41, (KS_tr (L := [49, 51, 52]) KS_rf ksv_41 (by decide)), KS_rf, KS_rf, (Or.inl ⟨fFl_r_39, S, oSe_w ht57 (fun q7 => c_16 (Int32.toInt_inj.mp (q7.trans (by decide)))) (by rw [← fw_r_27]; have := i32_0; have := i32_1; have := i32_2; have := i32_m1; have := (hvb).1; have := (hvb).2; have := (h63).1; have := (h63).2; have := (hz_1).1; have := (hz_1).2; have := (hz_2).1; have := (hz_2).2; have := (h_4).1; have := (h_4).2; have := (hz_5).1; have := (hz_5).2; have := (hz_6).1; have := (hz_6).2; have := (hx35).1; have := (hx35).2; have := (h_12).1; have := (h_12).2; have := (hz_13).1; have := (hz_13).2; have := (h_17).1; have := (h_17).2; have := (h_20).1; have := (h_20).2; have := (hz_21).1; have := (hz_21).2; have := (hz_22).1; have := (hz_22).2; have := (hz_23).1; have := (hz_23).2; have := (hz_26).1; have := (hz_26).2; have := (h_38).1; have := (h_38).2; have := (h_43).1; have := (h_43).2; omega), (RR_ks (L := [51, 52]) (M := []) hRR (KS_tr (L := [51, 52]) KS_rf ksv_41 (by decide)) KS_rf (by decide) (by decide))⟩)⟩, by rw [ht]; exact hP, va_K.moved hW.alike hK, hD⟩, hS.F ht⟩) hS.2.2 dX13_setOne_134
        · have h_44 : iv 0 0 (sgv_41 51) := iv_eq c_42 (show iv 0 8 (sgv_41 51) from MI_s hIv_41 51) (iv_k (by decide) : iv 0 0 0) (by decide)
          exact absurd (show (1 : Int) ≤ _ from fFl_r_39) (by have := i32_0; have := i32_1; have := i32_2; have := i32_m1; have := (show iv 0 8 (sgv_41 51) from MI_s hIv_41 51).1; have := (show iv 0 8 (sgv_41 51) from MI_s hIv_41 51).2; have := (show iv 0 8 (sg 51) from MI_s hI 51).1; have := (show iv 0 8 (sg 51) from MI_s hI 51).2; have := (hvb).1; have := (hvb).2; have := (h63).1; have := (h63).2; have := (hz_1).1; have := (hz_1).2; have := (hz_2).1; have := (hz_2).2; have := (h_4).1; have := (h_4).2; have := (hz_5).1; have := (hz_5).2; have := (hz_6).1; have := (hz_6).2; have := (hx35).1; have := (hx35).2; have := (h_12).1; have := (h_12).2; have := (hz_13).1; have := (hz_13).2; have := (h_17).1; have := (h_17).2; have := (h_20).1; have := (h_20).2; have := (hz_21).1; have := (hz_21).2; have := (hz_22).1; have := (hz_22).2; have := (hz_23).1; have := (hz_23).2; have := (hz_26).1; have := (hz_26).2; have := (h_38).1; have := (h_38).2; have := (h_44).1; have := (h_44).2; omega)
  · have h_45 : iv (-1) (-1) r_14 := iv_eq c_16 hr_14 (iv_k (by decide) : iv (-1) (-1) (-1)) (by decide)
    refine lv_aload_n hx hb dX13_setOne_63 rfl (lv_at hl 4 rfl) ?_
    refine lv_bipush (v := 7) hx hb dX13_setOne_64 (by decide) ?_
    refine mr_callv (rest := []) ⟨hx, hb, hml, hown, htb⟩ (f_fails l dC dI h0 ad cid sg gm lg 7 hI (iv_w (iv_k (by decide) : iv 7 7 7) (by decide))) (cwV 1 htb (gd_V kw_1162 kw_1163 kw_1164 kw_5 kw_1604) rfl rfl rfl (by decide +kernel) ⟨Nat.le_of_ble_eq_true rfl, Nat.le_of_ble_eq_true rfl⟩) rfl hl.1 rfl (Nat.le_of_ble_eq_true rfl) dX13_setOne_66 ⟨Nat.zero_le _, Nat.zero_le _⟩ hK hP hD hS hA (fun u_47 H locs hw hP hD hS => ?_)
    obtain ⟨sgv_48, gmv_48, lgv_48, rfl, hIv_48, ksv_48, kgv_48, klv_48, fFl_r_46⟩ := hw
    obtain rfl := KS_nil kgv_48
    obtain rfl := KS_nil klv_48
    have hP : va_P (dC, dI) vwCl (mW h0 ad cid sgv_48 gm lg) H := hP
    have hD : va_D A (mW h0 ad cid sgv_48 gm lg) := hD
    refine lv_aload_n hx hb dX13_setOne_69 rfl (lv_at hl 4 rfl) ?_
    refine mr_get (v := .int (sgv_48 51)) hx hb htb inX13 hown hK hP 51 (by decide) (htb _ kw_980) rfl dX13_setOne_70 ?_
    refine lv_if_ne (tgt := 112) hx hb dX13_setOne_73 (by decide) (fun c_49 => ?_) (fun c_49 => ?_)
    · have h_50 : iv 1 8 (sgv_48 51) := iv_neL c_49 (show iv 0 8 (sgv_48 51) from MI_s hIv_48 51) (by decide)
      refine lv_aload_n hx hb dX13_setOne_112 rfl (lv_at hl 4 rfl) ?_
      refine mr_get (v := .int (sgv_48 51)) hx hb htb inX13 hown hK hP 51 (by decide) (htb _ kw_980) rfl dX13_setOne_113 ?_
      refine lv_if_ne (tgt := 134) hx hb dX13_setOne_116 (by decide) (fun c_51 => ?_) (fun c_51 => ?_)
      · exact W.vret hx hb hr (fun t ht hW => ⟨⟨(sgv_48, gm, lg), rfl, ⟨sgv_48, gm, lg, rfl, hIv_48, (KS_tr (L := [49, 51, 52]) KS_rf ksv_48 (by decide)), KS_rf, KS_rf, (Or.inl ⟨fFl_r_46, S, oSe_t ht57 (by have := i32_0; have := i32_1; have := i32_2; have := i32_m1; have := (hvb).1; have := (hvb).2; have := (h63).1; have := (h63).2; have := (hz_1).1; have := (hz_1).2; have := (hz_2).1; have := (hz_2).2; have := (h_4).1; have := (h_4).2; have := (hz_5).1; have := (hz_5).2; have := (hz_6).1; have := (hz_6).2; have := (hx35).1; have := (hx35).2; have := (h_12).1; have := (h_12).2; have := (hz_13).1; have := (hz_13).2; have := (h_45).1; have := (h_45).2; have := (h_50).1; have := (h_50).2; omega), (RR_ks (L := [51, 52]) (M := []) hRR (KS_tr (L := [51, 52]) KS_rf ksv_48 (by decide)) KS_rf (by decide) (by decide))⟩)⟩, by rw [ht]; exact hP, va_K.moved hW.alike hK, hD⟩, hS.F ht⟩) hS.2.2 dX13_setOne_134
      · have h_52 : iv 1 0 (sgv_48 51) := iv_eq c_51 h_50 (iv_k (by decide) : iv 0 0 0) (by decide)
        exact (iv_no h_52 (by decide)).elim
    · have h_53 : iv 0 0 (sgv_48 51) := iv_eq c_49 (show iv 0 8 (sgv_48 51) from MI_s hIv_48 51) (iv_k (by decide) : iv 0 0 0) (by decide)
      exact absurd (show (1 : Int) ≤ _ from fFl_r_46) (by have := i32_0; have := i32_1; have := i32_2; have := i32_m1; have := (show iv 0 8 (sgv_48 51) from MI_s hIv_48 51).1; have := (show iv 0 8 (sgv_48 51) from MI_s hIv_48 51).2; have := (show iv 0 8 (sg 51) from MI_s hI 51).1; have := (show iv 0 8 (sg 51) from MI_s hI 51).2; have := (hvb).1; have := (hvb).2; have := (h63).1; have := (h63).2; have := (hz_1).1; have := (hz_1).2; have := (hz_2).1; have := (hz_2).2; have := (h_4).1; have := (h_4).2; have := (hz_5).1; have := (hz_5).2; have := (hz_6).1; have := (hz_6).2; have := (hx35).1; have := (hx35).2; have := (h_12).1; have := (h_12).2; have := (hz_13).1; have := (hz_13).2; have := (h_45).1; have := (h_45).2; have := (h_53).1; have := (h_53).2; omega)
end
section
section MP9
variable {wg rg gm : Nat → Nat → Int32} {wl : Nat → Nat → Int64} {ob : List Ob9} {b : Nat} {vs : List (List Int)} {fo : Int}
theorem chF_in9 {w : Nat → Int} : ∀ (l : List Nat) (b : Option (Nat × Int)) {s : Nat} {v : Int}, chF9 w l b = some (s, v) → (∃ u, b = some (s, u)) ∨ s ∈ l
  | [], b, s, v, h => Or.inl ⟨v, h⟩
  | a :: l, b, s, v, h => by
    rcases chF_in9 l _ h with ⟨u, q⟩ | q
    · cases b with
      | none =>
        have q : (if w a = -1 then none else some (a, w a)) = some (s, u) := q
        by_cases e : w a = -1
        · rw [if_pos e] at q; exact absurd q (by simp)
        · rw [if_neg e] at q
          have q1 : a = s := congrArg Prod.fst (Option.some.inj q)
          subst q1; exact Or.inr (List.mem_cons_self ..)
      | some x =>
        obtain ⟨s0, w0⟩ := x
        have q : (if ¬ w a = -1 ∧ w a < w0 then some (a, w a) else some (s0, w0)) = some (s, u) := q
        by_cases e : ¬ w a = -1 ∧ w a < w0
        · rw [if_pos e] at q
          have q1 : a = s := congrArg Prod.fst (Option.some.inj q)
          subst q1; exact Or.inr (List.mem_cons_self ..)
        · rw [if_neg e] at q; exact Or.inl ⟨u, q⟩
    · exact Or.inr (List.mem_cons_of_mem _ q)
/-- the signature that is chosen, on both sides -/
theorem PK_1 {cs cc v : Int} {c i : Nat} (h : HCS9 wg b fo ob cs cc) (h1 : cs = 1) (hc : cc = (c : Int)) (hm : chM wg wl b fo ob vs = some (ix9 1 i, v)) (h4 : (wg 0 c).toNatClampNeg ≤ 4) : ∃ k, k < (wg 0 c).toNatClampNeg ∧ k < 4 ∧ i = 4 * c + k ∧ ix9 1 i = 8 * c + 0 + k := by
  have q := (chF_in9 _ _ hm).resolve_left (fun ⟨u, q⟩ => absurd q (by simp))
  rw [HC_1 h h1 hc, List.mem_map] at q
  obtain ⟨k, hk, e⟩ := q
  have hk := List.mem_range.mp hk
  have e2 : ix9 1 i = 8 * (i / 4) + i % 4 := by unfold ix9; rw [if_pos rfl]
  exact ⟨k, hk, by omega, by omega, e.symm⟩
theorem PK_0 {cs cc v : Int} {c i : Nat} (h : HCS9 wg b fo ob cs cc) (h1 : cs = 0) (hc : cc = (c : Int)) (hm : chM wg wl b fo ob vs = some (ix9 0 i, v)) (h4 : (wg 1 c).toNatClampNeg ≤ 4) : ∃ k, k < (wg 1 c).toNatClampNeg ∧ k < 4 ∧ i = 4 * c + k ∧ ix9 0 i = 8 * c + 4 + k := by
  have q := (chF_in9 _ _ hm).resolve_left (fun ⟨u, q⟩ => absurd q (by simp))
  rw [HC_0 h h1 hc, List.mem_map] at q
  obtain ⟨k, hk, e⟩ := q
  have hk := List.mem_range.mp hk
  have e2 : ix9 0 i = 8 * (i / 4) + 4 + i % 4 := by unfold ix9; rw [if_neg (by decide)]
  exact ⟨k, hk, by omega, by omega, e.symm⟩
theorem bs_s {cs : Int} {x y : Int32} {R : Option (Nat × Int)} (h : R = bsR cs x y) (h0 : 0 ≤ x.toInt) : R = some (ix9 cs x.toNatClampNeg, y.toInt) := by rw [h, bs_1 h0]
theorem bs_n {cs : Int} {x y : Int32} {R : Option (Nat × Int)} (h : R = bsR cs x y) (h0 : x.toInt = -1) : R = none := by rw [h]; unfold bsR; rw [if_pos (by omega)]
theorem rem4 {x z : Int32} (h : iv 0 31 x) (hz : z = x - x / 4 * 4) : z.toInt = x.toInt % 4 := by
  have h1 := cln9 h.1
  have h2 := h.2
  have e : x = nI x.toNatClampNeg := (nI_c ⟨h.1, by omega⟩).symm
  have d : ∀ k : Nat, k < 32 → (nI k - nI k / 4 * 4).toInt = (k : Int) % 4 := by decide +kernel
  rw [hz]
  have q := d x.toNatClampNeg (by omega)
  rw [← e] at q
  rw [q, h1]
theorem div4 {x z : Int32} (h : iv 0 31 x) (hz : z = x / 4) : z.toInt = x.toInt / 4 := by
  have h1 := h.1; have h2 := h.2
  rw [hz, Int32.toInt_div_of_ne_left _ _ (fun q => by rw [q] at h1; exact absurd h1 (by decide)), Int.tdiv_eq_ediv_of_nonneg h1]; rfl
end MP9
theorem f75_e {gm gm2 : Nat → Nat → Int32} (h : gm2 75 = gm 75) : f75 gm = f75 gm2 := by unfold f75; rw [h]
end
