section
section WK9
variable {ws : Nat → Int32} {wg rg gm gm2 : Nat → Nat → Int32} {wl : Nat → Nat → Int64} {rs sg sg2 : Nat → Int32} {lg : Nat → Nat → Int64} {S : S9} {e : Nat}
theorem caF_ok (hn : iv 0 80 (ws 12)) : ∀ (f : Nat) (v : Int64), caF ws wg wl f v = -1 ∨ (0 ≤ (caF ws wg wl f v).toInt ∧ (caF ws wg wl f v).toInt < (ws 12).toInt ∧ ¬ wl 4 (caF ws wg wl f v).toNatClampNeg = 0)
  | 0, v => Or.inl rfl
  | f + 1, v => by
    have u : caF ws wg wl (f + 1) v = if v = 0 then -1 else if cWid ws wl v = -1 then caF ws wg wl f (alN ws wg wl v) else cWid ws wl v := rfl
    rw [u]
    by_cases h0 : v = 0
    · rw [if_pos h0]; exact Or.inl rfl
    · rw [if_neg h0]
      by_cases h1 : cWid ws wl v = -1
      · rw [if_pos h1]; exact caF_ok hn f _
      · rw [if_neg h1]; exact cWd_r v hn
theorem gt_nm {n : Nat} {v : Int64} (hn : iv 0 80 (ws 12)) : oGet wg (oMK ws wg wl n) (caN ws wg wl v) S = gtR ws wg wl n (caN ws wg wl v) S := by
  unfold oGet gtR
  by_cases h0 : caN ws wg wl v < 0
  · rw [if_pos h0, if_pos h0]
  · rw [if_neg h0, if_neg h0]
    by_cases h1 : ¬ wg 34 (caN ws wg wl v).toNat = 0
    · rw [if_pos h1, if_pos h1]
    · rw [if_neg h1, if_neg h1]
      have h4 : ¬ wl 4 (caN ws wg wl v).toNat = 0 := by
        rcases caF_ok (wg := wg) (wl := wl) hn 21 v with q | q
        · exact absurd (show caN ws wg wl v < 0 by unfold caN; rw [q]; decide) h0
        · exact q.2.2
      by_cases h2 : wg 35 (caN ws wg wl v).toNat = 0 ∧ (zS S (caN ws wg wl v).toNat = 2 ∨ (zS S (caN ws wg wl v).toNat = 1 ∧ ¬ zW S (caN ws wg wl v).toNat = -1))
      · rw [if_pos h2, if_pos ⟨⟨h4, h2.1⟩, h2.2⟩]
      · rw [if_neg h2, if_neg (fun q => h2 ⟨q.1.2, q.2⟩)]
theorem gt_in {n : Nat} {t : Int} (h0 : 0 ≤ t) (h4 : wl 4 t.toNat = 0) (h34 : wg 34 t.toNat = 0) : oMK ws wg wl n t.toNat S = gtR ws wg wl n t S := (gt_m h0 h34 (fun q => q.1.1 h4)).symm
abbrev kd8 (wg : Nat → Nat → Int32) (e : Nat) : Prop := (wg 25 e).toInt = 8 ∨ (wg 25 e).toInt = 2
/-- the bean that an element asks for -/
def ASK (ws : Nat → Int32) (wg : Nat → Nat → Int32) (wl : Nat → Nat → Int64) (e : Nat) (t : Int) : Prop := kd8 wg e ∧ ∀ n S, oObj ws wg wl (oMK ws wg wl n) e S = gtR ws wg wl n t S
theorem ASK_b (h : WKB ws wg wl rs rg lg e) (hv : ¬ hva9 rg lg e) (h3 : rg 26 e = 3) : ASK ws wg wl e (rg 43 e).toInt := by
  obtain ⟨hk, h27, h0, _, h4, h34⟩ := h.2.2.2.1 hv h3
  refine ⟨hk, fun n S => ?_⟩
  unfold oObj
  rw [if_neg (by omega), h27]
  exact gt_in h0 h4 h34
theorem ASK_n (h : WKB ws wg wl rs rg lg e) (hv : ¬ hva9 rg lg e) (h7 : ¬ rg 26 e = 7) (h9 : ¬ rg 26 e = 9) (h3 : ¬ rg 26 e = 3) (hn : iv 0 80 (ws 12)) {r : Int32} (hr : r = cdR rs rg lg (mWord rg lg e (if hol9 rg e then 7497062 else 1650811246))) : ASK ws wg wl e r.toInt := by
  obtain ⟨hk, h27, hc⟩ := h.2.2.2.2 hv h7 h9 h3
  refine ⟨hk, fun n S => ?_⟩
  rw [oObj_n h27, hr, hc]
  exact gt_nm hn
theorem oCon_z1 {mk : Nat → S9 → Option Int × S9} {o : Int} {S2 : S9} (hk : kd8 wg e) (h : oObj ws wg wl mk e S = (some o, S2)) : oCon ws wg wl mk e S = (some [o], S2) := by
  unfold oCon; rw [if_neg (by omega), if_pos hk, h]; rfl
theorem oItm_z1 {mk : Nat → S9 → Option Int × S9} {o : Int} {S2 : S9} (hk : kd8 wg e) (h : oObj ws wg wl mk e S = (some o, S2)) : oItm ws wg wl mk e S = (some (3000 + o), S2) := by
  unfold oItm; rw [if_neg (by omega), if_neg (by omega), h]; rfl
theorem oCon_z0 {mk : Nat → S9 → Option Int × S9} (hk : (wg 25 e).toInt = 7 ∨ (wg 25 e).toInt = 9) : oCon ws wg wl mk e S = (some [], S) := by
  unfold oCon; rw [if_neg (by omega), if_neg (by omega)]
theorem oItm_z7 {mk : Nat → S9 → Option Int × S9} (hk : (wg 25 e).toInt = 7) : oItm ws wg wl mk e S = (some (1000 + (wg 11 e).toInt), S) := by unfold oItm; rw [if_pos hk]
theorem oItm_z9 {mk : Nat → S9 → Option Int × S9} (hk : (wg 25 e).toInt = 9) : oItm ws wg wl mk e S = (some (-1), S) := by unfold oItm; rw [if_neg (by omega), if_pos hk]
/-- own objects are there -/
def WF9 (S : S9) : Prop := ∀ t, (zS S t = 2 ∨ (zS S t = 1 ∧ ¬ zW S t = -1)) → 0 ≤ zW S t ∧ zW S t < ((zO S).length : Int)
/-- a value is there: in a slot (it < 0), as an item -/
def VAL9 (ws : Nat → Int32) (wg : Nat → Nat → Int32) (wl : Nat → Nat → Int64) (rg gm : Nat → Nat → Int32) (S : S9) (e sl : Nat) (it : Int32) : Prop :=
  (it.toInt < 0 ∧ ∃ V, (∀ n, oCon ws wg wl (oMK ws wg wl n) e S = (some V, S)) ∧ VR9 wg wl rg (zO S) e V (gm 70 sl) (gm 71 sl))
  ∨ (0 ≤ it.toInt ∧ ∃ x, (∀ n, oItm ws wg wl (oMK ws wg wl n) e S = (some x, S)) ∧ IT1 rg (gm 72 (6 * sl + it.toNatClampNeg)) (gm 73 (6 * sl + it.toNatClampNeg)) x)
def KP9 (gm gm2 : Nat → Nat → Int32) (sl : Nat) (it kd vl : Int32) : Prop := (it.toInt < 0 ∧ gm2 70 = upd (gm 70) sl kd ∧ gm2 71 = upd (gm 71) sl vl) ∨ (0 ≤ it.toInt ∧ gm2 72 = upd (gm 72) (6 * sl + it.toNatClampNeg) kd ∧ gm2 73 = upd (gm 73) (6 * sl + it.toNatClampNeg) vl)
theorem VL_t {sl : Nat} {it kd vl : Int32} {T : List Int} (hk : KP9 gm gm2 sl it kd vl) (h0 : kd.toInt = 0) (h7 : (wg 25 e).toInt = 7) (hs : SRq rg vl T) (ht : TXT9 wg wl e T) : VAL9 ws wg wl rg gm2 S e sl it := by
  rcases hk with ⟨h, e1, e2⟩ | ⟨h, e1, e2⟩
  · refine Or.inl ⟨h, [], fun n => oCon_z0 (Or.inl h7), Or.inl ⟨h7, ?_⟩⟩
    rw [e1, e2, upd_at, upd_at]; exact ⟨h0, T, hs, ht⟩
  · refine Or.inr ⟨h, _, fun n => oItm_z7 h7, Or.inl ?_⟩
    rw [e1, e2, upd_at, upd_at]; exact ⟨h0, T, hs, by rw [ht.1]⟩
theorem VL_n {sl : Nat} {it kd vl : Int32} (hk : KP9 gm gm2 sl it kd vl) (h0 : kd.toInt = 2) (h9 : (wg 25 e).toInt = 9) : VAL9 ws wg wl rg gm2 S e sl it := by
  rcases hk with ⟨h, e1, e2⟩ | ⟨h, e1, e2⟩
  · refine Or.inl ⟨h, [], fun n => oCon_z0 (Or.inr h9), Or.inr (Or.inl ⟨h9, ?_⟩)⟩
    rw [e1, upd_at]; exact h0
  · refine Or.inr ⟨h, _, fun n => oItm_z9 h9, Or.inr (Or.inl ⟨?_, rfl⟩)⟩
    rw [e1, upd_at]; exact h0
theorem VL_o {sl : Nat} {it kd vl : Int32} {t : Int} (hk : KP9 gm gm2 sl it kd vl) (h0 : kd.toInt = 1) (ha : ASK ws wg wl e t) (hg : ∀ n, gtR ws wg wl n t S = (some vl.toInt, S)) (hv : 0 ≤ vl.toInt ∧ vl.toInt < ((zO S).length : Int)) : VAL9 ws wg wl rg gm2 S e sl it := by
  rcases hk with ⟨h, e1, e2⟩ | ⟨h, e1, e2⟩
  · refine Or.inl ⟨h, [vl.toInt], fun n => oCon_z1 ha.1 ((ha.2 n S).trans (hg n)), Or.inr (Or.inr (Or.inr ⟨ha.1, ?_⟩))⟩
    rw [e1, e2, upd_at, upd_at]; exact ⟨h0, rfl, hv⟩
  · refine Or.inr ⟨h, _, fun n => oItm_z1 ha.1 ((ha.2 n S).trans (hg n)), Or.inr (Or.inr ?_)⟩
    rw [e1, e2, upd_at, upd_at]; exact ⟨h0, rfl⟩
theorem gt_v {t v : Int} (hw : WF9 S) (h : gtR ws wg wl 0 t S = (some v, S)) : 0 ≤ v ∧ v < ((zO S).length : Int) := by
  unfold gtR at h
  by_cases h0 : t < 0
  · rw [if_pos h0] at h; exact absurd h (by simp)
  · rw [if_neg h0] at h
    by_cases h1 : ¬ wg 34 t.toNat = 0
    · rw [if_pos h1] at h; exact absurd h (by simp)
    · rw [if_neg h1] at h
      by_cases h2 : rdy9 wg wl S t.toNat
      · rw [if_pos h2] at h
        have q : zW S t.toNat = v := Option.some.inj (congrArg Prod.fst h)
        rw [← q]; exact hw _ h2.2
      · rw [if_neg h2] at h
        have : oMK ws wg wl 0 t.toNat S = (none, S) := rfl
        rw [this] at h; exact absurd h (by simp)
end WK9
def KP8 (gm gm2 : Nat → Nat → Int32) (sl : Nat) (it kd vl : Int32) : Prop := (it.toInt < 0 ∧ gm2 70 = upd (gm 70) sl kd ∧ gm2 71 = upd (gm 71) sl vl ∧ gm2 72 = gm 72 ∧ gm2 73 = gm 73) ∨ (0 ≤ it.toInt ∧ gm2 70 = gm 70 ∧ gm2 71 = gm 71 ∧ gm2 72 = upd (gm 72) (6 * sl + it.toNatClampNeg) kd ∧ gm2 73 = upd (gm 73) (6 * sl + it.toNatClampNeg) vl)
theorem KP8_k {gm gm1 gm2 : Nat → Nat → Int32} {sl sl2 : Nat} {it kd vl : Int32} (h : KP8 gm gm1 sl it kd vl) (es : sl = sl2) (h0 : gm2 70 = gm1 70) (h1 : gm2 71 = gm1 71) (h2 : gm2 72 = gm1 72) (h3 : gm2 73 = gm1 73) : KP8 gm gm2 sl2 it kd vl := by
  subst es
  unfold KP8 at *; rw [h0, h1, h2, h3]; exact h
/-- the values are as they were -/
def SV4 (gm gm2 : Nat → Nat → Int32) : Prop := gm2 70 = gm 70 ∧ gm2 71 = gm 71 ∧ gm2 72 = gm 72 ∧ gm2 73 = gm 73
theorem KP8_b {gm gm1 gm2 : Nat → Nat → Int32} {sl : Nat} {it kd vl : Int32} (h : KP8 gm1 gm2 sl it kd vl) (e : SV4 gm gm1) : KP8 gm gm2 sl it kd vl := by
  unfold KP8 at *; rw [e.1, e.2.1, e.2.2.1, e.2.2.2] at h; exact h
section WO9
variable {ws : Nat → Int32} {wg rg gm gm2 : Nat → Nat → Int32} {wl : Nat → Nat → Int64} {S S2 : S9} {e c sl : Nat} {mk : Nat → S9 → Option Int × S9} {l : List Nat} {acc : List Int}
theorem oIts_v {x : Int} (h : oItm ws wg wl mk e S = (some x, S2)) : oIts ws wg wl mk (e :: l) acc S = oIts ws wg wl mk l (acc ++ [x]) S2 := by
  show bd9 (oItm ws wg wl mk e S) _ = _; rw [h]; rfl
theorem oItm_p {t : Nat} (hk : kd8 wg e) (h : oObj ws wg wl mk e S = mk t S2) : oItm ws wg wl mk e S = bd9 (mk t S2) (fun o S => (some (3000 + o), S)) := by
  unfold oItm; rw [if_neg (by omega), if_neg (by omega), h]
theorem oItm_f (hk : kd8 wg e) (h : oObj ws wg wl mk e S = (none, S2)) : oItm ws wg wl mk e S = (none, S2) := by
  unfold oItm; rw [if_neg (by omega), if_neg (by omega), h]; rfl
theorem oIts_f (h : oItm ws wg wl mk e S = (none, S2)) : oIts ws wg wl mk (e :: l) acc S = (none, S2) := by
  show bd9 (oItm ws wg wl mk e S) _ = _; rw [h]; rfl
theorem oIts_p {t : Nat} (hk : kd8 wg e) (h : oObj ws wg wl mk e S = mk t S2) : oIts ws wg wl mk (e :: l) acc S = bd9 (mk t S2) (fun o S => oIts ws wg wl mk l (acc ++ [3000 + o]) S) := by
  show bd9 (oItm ws wg wl mk e S) _ = _
  rw [oItm_p hk h, bd9_a]; rfl
theorem oCon_p {t : Nat} (hk : kd8 wg e) (h : oObj ws wg wl mk e S = mk t S2) : oCon ws wg wl mk e S = bd9 (mk t S2) (fun o S => (some [o], S)) := by
  unfold oCon; rw [if_neg (by omega), if_pos hk, h]
theorem oCon_f (hk : kd8 wg e) (h : oObj ws wg wl mk e S = (none, S2)) : oCon ws wg wl mk e S = (none, S2) := by
  unfold oCon; rw [if_neg (by omega), if_pos hk, h]; rfl
/-- the items that stand already -/
def PIT9 (rg gm : Nat → Nat → Int32) (sl : Nat) (acc : List Int) : Prop := ∀ j x, acc[j]? = some x → IT1 rg (gm 72 (6 * sl + j)) (gm 73 (6 * sl + j)) x
theorem PIT_s {it kd vl : Int32} {x : Int} (h : PIT9 rg gm sl acc) (hk : KP8 gm gm2 sl it kd vl) (hi : it.toInt = (acc.length : Int)) (hx : IT1 rg (gm2 72 (6 * sl + it.toNatClampNeg)) (gm2 73 (6 * sl + it.toNatClampNeg)) x) : PIT9 rg gm2 sl (acc ++ [x]) := by
  have c1 := cln9 (u := it) (by omega)
  rcases hk with ⟨h0, _⟩ | ⟨_, _, _, e2, e3⟩
  · omega
  · intro j y hy
    rcases ga9 hy with ⟨hl, hy⟩ | ⟨hl, hy⟩
    · rw [e2, e3, upd_ne (by omega), upd_ne (by omega)]; exact h j y hy
    · subst hy
      rw [hl, show acc.length = it.toNatClampNeg by omega]; exact hx
theorem PIT_k (h : PIT9 rg gm sl acc) (e2 : gm2 72 = gm 72) (e3 : gm2 73 = gm 73) : PIT9 rg gm2 sl acc := by unfold PIT9; rw [e2, e3]; exact h
end WO9
end
section
theorem rwz9 {gm rg : Nat → Nat → Int32} (h : rt9 gm = rg) {k i : Nat} {z : Int32} (hk : dynR.contains k = false) (e : z = gm k i) : rg k i = z := (rw9 h k hk i).trans e.symm
theorem hol_n {rg : Nat → Nat → Int32} {e : Nat} (h4 : ¬ rg 26 e = 4) (h5 : ¬ rg 26 e = 5) : ¬ hol9 rg e := fun q => q.elim h4 h5

set_option maxHeartbeats 4000000 in
set_option maxRecDepth 100000 in
theorem f_worked9 (l : Launch) (dC : Nat → ClassId) (dI : Nat → Nat → Nat) (h0 : Nat) (ad : Nat → Nat) (cid : Nat → ClassId) (sg : Nat → Int32) (gm : Nat → Nat → Int32) (lg : Nat → Nat → Int64) (x : Int32) (sl : Int32) (it : Int32) (ws : Nat → Int32) (wg : Nat → Nat → Int32) (wl : Nat → Nat → Int64) (rs : Nat → Int32) (rg : Nat → Nat → Int32) (S : S9) (hI : MI sg gm) (hvx : iv 0 79 x) (hvsl : iv 0 404 sl) (hvit : iv (-1) 5 it) (hdoc : DOC sg gm lg) (hxe : x.toNatClampNeg < (sg 24).toNatClampNeg) (hgi : GI0 sg gm lg) (hpi : PIL sg gm) (hRW : rt9 gm = rg) (hRS : rs9 sg = rs) (hBR : BRG ws wg wl rs rg lg) (hRR : RR wg wl S sg gm) (hWK : WKB ws wg wl rs rg lg x.toNatClampNeg) (hWF : WF9 S) (h510 : (sg 51).toInt = 0) : MMi l dC dI yX13_worked wm_X13_worked ({ frames := 4, cells := 0, slots := 0, locals := 103 }) h0 ad cid [.int x, .int sl, .int it] sg gm lg (fun r v => ∃ (sg2 : Nat → Int32) (gm2 : Nat → Nat → Int32) (lg2 : Nat → Nat → Int64), v = (sg2, gm2, lg2) ∧ MI sg2 gm2 ∧ KS [51, 52, 63, 74] sg sg2 ∧ KS [62, 64, 65, 66, 67, 68, 69, 70, 71, 72, 73] gm gm2 ∧ KS [] lg lg2 ∧ (iv 0 1 r) ∧ (GI0 sg2 gm2 lg2) ∧ (WRK sg gm sg2 gm2 r) ∧ ((r.toInt = 1 ∧ (sg2 51).toInt = 0 ∧ RR wg wl S sg2 gm2 ∧ VAL9 ws wg wl rg gm2 S x.toNatClampNeg sl.toNatClampNeg it ∧ ∃ k9 v9, KP8 gm gm2 sl.toNatClampNeg it k9 v9) ∨ (r.toInt = 0 ∧ 1 ≤ (sg2 51).toInt ∧ RR wg wl S sg2 gm2 ∧ kd8 wg x.toNatClampNeg ∧ ∀ n9, oObj ws wg wl (oMK ws wg wl n9) x.toNatClampNeg S = (none, S)) ∨ (r.toInt = 0 ∧ SV4 gm gm2 ∧ (sg2 51).toInt = 0 ∧ kd8 wg x.toNatClampNeg ∧ ∃ t9 : Int32, iv 0 79 t9 ∧ t9.toInt < (sg 41).toInt ∧ RR wg wl (oBe t9.toNatClampNeg S) sg2 gm2 ∧ ¬ zS S t9.toNatClampNeg = 1 ∧ (∀ n9, oObj ws wg wl (oMK ws wg wl n9) x.toNatClampNeg S = oMK ws wg wl n9 t9.toNatClampNeg S) ∧ gm2 64 = upd (gm 64) (sg 63).toNatClampNeg t9 ∧ gm2 68 = upd (gm 68) (sg 63).toNatClampNeg (-1)))) := by
  intro sz
  refine Met.ofW (cc := cX13_worked) (maxL := 6) (ret := (some .boolean)) (by decide) rfl ?_
  intro p e s m args below meth c s₁ B hml hv
  obtain ⟨rfl, hsz, hP, hK, hD0⟩ := hv
  have hx := B.exec
  have hb := B.bytes
  have hr := B.returns
  have hts := atoms_spec (ws := wm_X13_worked) B.pre
  have htb := fun (w : Cond) (h : w ∈ tb) => hts w (List.mem_cons_of_mem _ h)
  have hown : s.vm.findClass RX13 = some m.cls := findClass_of_methodNamed B.named
  have hlocks := B.notSynchronized
  subst hsz
  have hD := hD0.self (sz := s.heap.size)
  generalize hAe : va_A (mW h0 ad cid sg gm lg) s.heap.size = A at hD ⊢
  have hA : ∀ q : Nat, s.heap.size ≤ q → A q := fun q h => by rw [← hAe]; exact Or.inr h
  have hS : va_S A s.heap s.heap [] := va_S.rf
  have hl := lv_entry ([.ref h0, .int x, .int sl, .int it]) (n := 6) (Nat.le_of_ble_eq_true rfl)
  rw [lg_entry_eq]
  generalize (lg_sl ([.ref h0, .int x, .int sl, .int it]) ++ List.replicate (6 - (lg_sl ([.ref h0, .int x, .int sl, .int it])).length) Slot.unset).toArray = ls at hl ⊢
  have hl : lv_has ls 6 [(0, .ref h0), (1, .int x), (2, .int sl), (3, .int it)] := hl
  refine lv_aload_n hx hb dX13_worked_0 rfl (lv_at hl 0 rfl) ?_
  refine mr_get (v := .ref (ad 26)) hx hb htb inX13 hown hK hP 26 (by decide) (htb _ kw_182) rfl dX13_worked_1 ?_
  refine lv_iload_n hx hb dX13_worked_4 rfl (lv_at hl 1 rfl) ?_
  refine mr_iald hx hb hK hP 19 (k := 26) rfl rfl rfl (show vp_in x 80 from (iv_in hvx (by decide))) dX13_worked_5 ?_
  refine lv_topi (fun z_1 ez_1 => ?_)
  have hz_1 : iv 0 10 z_1 := iv_of ez_1 (MI_a hI 26 hvx (by decide))
  refine lv_iconst (v := 4) hx hb dX13_worked_6 (by decide) ?_
  refine lv_icmp_eq (tgt := 20) hx hb dX13_worked_7 (by decide) (fun c_2 => ?_) (fun c_2 => ?_)
  · have h_3 : iv 4 4 z_1 := iv_eq c_2 hz_1 (iv_k (by decide) : iv 4 4 4) (by decide)
    refine lv_iconst (v := 1) hx hb dX13_worked_20 (by decide) ?_
    refine lv_goto (tgt := 25) hx hb dX13_worked_21 (by decide) ?_
    refine lv_istore (lv' := [(4, .int 1), (0, .ref h0), (1, .int x), (2, .int sl), (3, .int it)]) hx hb dX13_worked_25 hl (by decide) rfl (fun ls hl => ?_)
    refine lv_iload hx hb dX13_worked_27 (lv_at hl 0 rfl) ?_
    refine lv_if_eq (tgt := 61) hx hb dX13_worked_29 (by decide) (fun c_4 => absurd c_4 (by decide)) (fun _ => ?_)
    refine lv_aload_n hx hb dX13_worked_32 rfl (lv_at hl 1 rfl) ?_
    refine lv_iload_n hx hb dX13_worked_33 rfl (lv_at hl 2 rfl) ?_
    refine lv_ldc2 (own := RX13) (v := 508440638821) hx hb hown (htb _ kw_140) dX13_worked_34 ?_
    refine mr_calli (rest := []) ⟨hx, hb, hml, hown, htb⟩ (f_has l dC dI h0 ad cid sg gm lg x 508440638821 hI hvx) (cwV 2 htb (gd_V kw_916 kw_917 kw_918 kw_5 kw_1543) rfl rfl rfl (by decide +kernel) ⟨Nat.le_of_ble_eq_true rfl, Nat.le_of_ble_eq_true rfl⟩) rfl hl.1 rfl (Nat.le_of_ble_eq_true rfl) dX13_worked_37 ⟨Nat.zero_le _, Nat.zero_le _⟩ hK hP hD hS hA (fun r_5 u_6 H locs hw hP hD hS => ?_)
    obtain ⟨hr_5, fH_r_5, rfl⟩ := hw
    have hP : va_P (dC, dI) vwCl (mW h0 ad cid sg gm lg) H := hP
    have hD : va_D A (mW h0 ad cid sg gm lg) := hD
    refine lv_if_eq (tgt := 61) hx hb dX13_worked_40 (by decide) (fun c_7 => ?_) (fun c_7 => ?_)
    · have h_8 : iv 0 0 r_5 := iv_eq c_7 hr_5 (iv_k (by decide) : iv 0 0 0) (by decide)
      refine lv_aload_n hx hb dX13_worked_61 rfl (lv_at hl 1 rfl) ?_
      refine mr_get (v := .ref (ad 26)) hx hb htb inX13 hown hK hP 26 (by decide) (htb _ kw_182) rfl dX13_worked_62 ?_
      refine lv_iload_n hx hb dX13_worked_65 rfl (lv_at hl 2 rfl) ?_
      refine mr_iald hx hb hK hP 19 (k := 26) rfl rfl rfl (show vp_in x 80 from (iv_in hvx (by decide))) dX13_worked_66 ?_
      refine lv_topi (fun z_9 ez_9 => ?_)
      obtain rfl : z_1 = z_9 := ez_1.trans ez_9.symm
      refine lv_bipush (v := 7) hx hb dX13_worked_67 (by decide) ?_
      refine lv_icmp_ne (tgt := 87) hx hb dX13_worked_69 (by decide) (fun c_10 => ?_) (fun c_10 => ?_)
      · refine lv_aload_n hx hb dX13_worked_87 rfl (lv_at hl 1 rfl) ?_
        refine mr_get (v := .ref (ad 26)) hx hb htb inX13 hown hK hP 26 (by decide) (htb _ kw_182) rfl dX13_worked_88 ?_
        refine lv_iload_n hx hb dX13_worked_91 rfl (lv_at hl 2 rfl) ?_
        refine mr_iald hx hb hK hP 19 (k := 26) rfl rfl rfl (show vp_in x 80 from (iv_in hvx (by decide))) dX13_worked_92 ?_
        refine lv_topi (fun z_11 ez_11 => ?_)
        obtain rfl : z_1 = z_11 := ez_1.trans ez_11.symm
        refine lv_bipush (v := 9) hx hb dX13_worked_93 (by decide) ?_
        refine lv_icmp_ne (tgt := 109) hx hb dX13_worked_95 (by decide) (fun c_12 => ?_) (fun c_12 => ?_)
        · refine lv_aload_n hx hb dX13_worked_109 rfl (lv_at hl 1 rfl) ?_
          refine mr_get (v := .ref (ad 26)) hx hb htb inX13 hown hK hP 26 (by decide) (htb _ kw_182) rfl dX13_worked_110 ?_
          refine lv_iload_n hx hb dX13_worked_113 rfl (lv_at hl 2 rfl) ?_
          refine mr_iald hx hb hK hP 19 (k := 26) rfl rfl rfl (show vp_in x 80 from (iv_in hvx (by decide))) dX13_worked_114 ?_
          refine lv_topi (fun z_13 ez_13 => ?_)
          obtain rfl : z_1 = z_13 := ez_1.trans ez_13.symm
          refine lv_iconst (v := 3) hx hb dX13_worked_115 (by decide) ?_
          refine lv_icmp_ne (tgt := 128) hx hb dX13_worked_116 (by decide) (fun c_14 => ?_) (fun c_14 => ?_)
          · refine lv_aload_n hx hb dX13_worked_128 rfl (lv_at hl 1 rfl) ?_
            refine lv_aload_n hx hb dX13_worked_129 rfl (lv_at hl 1 rfl) ?_
            refine lv_iload_n hx hb dX13_worked_130 rfl (lv_at hl 2 rfl) ?_
            refine lv_iload hx hb dX13_worked_131 (lv_at hl 0 rfl) ?_
            refine lv_if_eq (tgt := 142) hx hb dX13_worked_133 (by decide) (fun c_15 => absurd c_15 (by decide)) (fun _ => ?_)
            refine lv_ldc2 (own := RX13) (v := 7497062) hx hb hown (htb _ kw_141) dX13_worked_136 ?_
            refine lv_goto (tgt := 145) hx hb dX13_worked_139 (by decide) ?_
            refine mr_calll (rest := [.ref h0]) ⟨hx, hb, hml, hown, htb⟩ (f_word l dC dI h0 ad cid sg gm lg x 7497062 hI hvx) (cwV 2 htb (gd_V kw_923 kw_924 kw_925 kw_5 kw_1545) rfl rfl rfl (by decide +kernel) ⟨Nat.le_of_ble_eq_true rfl, Nat.le_of_ble_eq_true rfl⟩) rfl hl.1 rfl (Nat.le_of_ble_eq_true rfl) dX13_worked_145 ⟨Nat.zero_le _, Nat.zero_le _⟩ hK hP hD hS hA (fun r_16 u_17 H locs hw hP hD hS => ?_)
            obtain ⟨fW_r_16, rfl⟩ := hw
            have hP : va_P (dC, dI) vwCl (mW h0 ad cid sg gm lg) H := hP
            have hD : va_D A (mW h0 ad cid sg gm lg) := hD
            refine mr_calli (rest := []) ⟨hx, hb, hml, hown, htb⟩ (f_called9 l dC dI h0 ad cid sg gm lg r_16 hI) (cwV 1 htb (gd_V kw_1168 kw_1169 kw_1170 kw_5 kw_1606) rfl rfl rfl (by decide +kernel) ⟨Nat.le_of_ble_eq_true rfl, Nat.le_of_ble_eq_true rfl⟩) rfl hl.1 rfl (Nat.le_of_ble_eq_true rfl) dX13_worked_148 ⟨Nat.zero_le _, Nat.zero_le _⟩ hK hP hD hS hA (fun r_18 u_19 H locs hw hP hD hS => ?_)
            obtain ⟨hr_18, fLt_r_18, fCd_r_18, rfl⟩ := hw
            have hP : va_P (dC, dI) vwCl (mW h0 ad cid sg gm lg) H := hP
            have hD : va_D A (mW h0 ad cid sg gm lg) := hD
            have hb9 : r_18.toInt < (sg 41).toInt := fLt_r_18
            have hAS : ASK ws wg wl x.toNatClampNeg r_18.toInt := ASK_n hWK (fun q => q.2 (by rw [mHas_k (DK_r (lg := lg) hRW hRS).1, ← fH_r_5]; exact c_7)) (show ¬ rg 26 x.toNatClampNeg = 7 from (by rw [rwz9 hRW (by decide) ez_1]; exact fun q => absurd (congrArg Int32.toInt q) (by show ¬ _ = (7 : Int); have := i32_0; have := i32_1; have := i32_2; have := i32_m1; have := (hvx).1; have := (hvx).2; have := (hvsl).1; have := (hvsl).2; have := (hvit).1; have := (hvit).2; have := (h_3).1; have := (h_3).2; have := (h_8).1; have := (h_8).2; have := (hr_18).1; have := (hr_18).2; omega))) (show ¬ rg 26 x.toNatClampNeg = 9 from (by rw [rwz9 hRW (by decide) ez_1]; exact fun q => absurd (congrArg Int32.toInt q) (by show ¬ _ = (9 : Int); have := i32_0; have := i32_1; have := i32_2; have := i32_m1; have := (hvx).1; have := (hvx).2; have := (hvsl).1; have := (hvsl).2; have := (hvit).1; have := (hvit).2; have := (h_3).1; have := (h_3).2; have := (h_8).1; have := (h_8).2; have := (hr_18).1; have := (hr_18).2; omega))) (show ¬ rg 26 x.toNatClampNeg = 3 from (by rw [rwz9 hRW (by decide) ez_1]; exact fun q => absurd (congrArg Int32.toInt q) (by show ¬ _ = (3 : Int); have := i32_0; have := i32_1; have := i32_2; have := i32_m1; have := (hvx).1; have := (hvx).2; have := (hvsl).1; have := (hvsl).2; have := (hvit).1; have := (hvit).2; have := (h_3).1; have := (h_3).2; have := (h_8).1; have := (h_8).2; have := (hr_18).1; have := (hr_18).2; omega))) (show iv 0 80 (ws 12) from (by have q5 := hBR.1; rw [rs9_41 hRS] at q5; have q6 := (show iv 0 80 (sg 41) from MI_s hI 41); exact ⟨by rw [← q5]; exact q6.1, by rw [← q5]; exact q6.2⟩)) (by rw [if_pos (show hol9 rg x.toNatClampNeg from Or.inl (show rg 26 x.toNatClampNeg = 4 from (by rw [rwz9 hRW (by decide) ez_1]; exact Int32.toInt_inj.mp (by show _ = (4 : Int); have := i32_0; have := i32_1; have := i32_2; have := i32_m1; have := (hvx).1; have := (hvx).2; have := (hvsl).1; have := (hvsl).2; have := (hvit).1; have := (hvit).2; have := (h_3).1; have := (h_3).2; have := (h_8).1; have := (h_8).2; have := (hr_18).1; have := (hr_18).2; omega)))), mWord_k (DK_r (lg := lg) hRW hRS).1, ← fW_r_16]; unfold cdR; rw [cdF_k (DK_r (lg := lg) hRW hRS)]; exact fCd_r_18)
            refine lv_istore (lv' := [(5, .int r_18), (4, .int 1), (0, .ref h0), (1, .int x), (2, .int sl), (3, .int it)]) hx hb dX13_worked_151 hl (by decide) rfl (fun ls hl => ?_)
            refine lv_aload_n hx hb dX13_worked_153 rfl (lv_at hl 2 rfl) ?_
            refine lv_iload hx hb dX13_worked_154 (lv_at hl 0 rfl) ?_
            refine mr_calli (rest := []) ⟨hx, hb, hml, hown, htb⟩ (f_gets9 l dC dI h0 ad cid sg gm lg r_18 ws wg wl rs rg S hI hr_18 hb9 hgi hpi hRW hRS hBR hRR h510) (cwV 1 htb (gd_V kw_1158 kw_1159 kw_1160 kw_5 kw_1603) rfl rfl rfl (by decide +kernel) ⟨Nat.le_of_ble_eq_true rfl, Nat.le_of_ble_eq_true rfl⟩) rfl hl.1 rfl (Nat.le_of_ble_eq_true rfl) dX13_worked_156 ⟨Nat.zero_le _, Nat.zero_le _⟩ hK hP hD hS hA (fun r_20 u_21 H locs hw hP hD hS => ?_)
            obtain ⟨sgv_22, gmv_22, lgv_22, rfl, hIv_22, ksv_22, kgv_22, klv_22, hr_20, fGI_r_20, fGt_r_20, fG9_r_20⟩ := hw
            obtain rfl := KS_nil klv_22
            have hP : va_P (dC, dI) vwCl (mW h0 ad cid sgv_22 gmv_22 lg) H := hP
            have hD : va_D A (mW h0 ad cid sgv_22 gmv_22 lg) := hD
            refine lv_if_ne (tgt := 164) hx hb dX13_worked_159 (by decide) (fun c_23 => ?_) (fun c_23 => ?_)
            · have h_24 : iv 1 1 r_20 := iv_neL c_23 hr_20 (by decide)
              refine lv_aload_n hx hb dX13_worked_164 rfl (lv_at hl 2 rfl) ?_
              obtain ⟨hg0, hg1⟩ : 0 ≤ (sgv_22 74).toInt ∧ SAMEP sg gm sgv_22 gmv_22 := by { rcases fGt_r_20 with ⟨_, q9, q8⟩ | ⟨q9, _⟩; exact ⟨q9, q8⟩; exact absurd (Int32.toInt_inj.mp q9) c_23 }
              have h165 : iv 0 59 (sgv_22 74) := ⟨hg0, (show iv (-1) 59 (sgv_22 74) from MI_s hIv_22 74).2⟩
              refine lv_iload_n hx hb dX13_worked_165 rfl (lv_at hl 4 rfl) ?_
              refine lv_iload_n hx hb dX13_worked_166 rfl (lv_at hl 5 rfl) ?_
              refine lv_iconst (v := 1) hx hb dX13_worked_167 (by decide) ?_
              refine lv_aload_n hx hb dX13_worked_168 rfl (lv_at hl 2 rfl) ?_
              refine mr_get (v := .int (sgv_22 74)) hx hb htb inX13 hown hK hP 74 (by decide) (htb _ kw_1161) rfl dX13_worked_169 ?_
              refine mr_callv (rest := []) ⟨hx, hb, hml, hown, htb⟩ (f_keep9 l dC dI h0 ad cid sgv_22 gmv_22 lg sl it 1 (sgv_22 74) hIv_22 hvsl hvit (iv_w (iv_k (by decide) : iv 1 1 1) (by decide)) (iv_w h165 (by decide)) (fGI_r_20.1) (vok_1 (h165).2)) (cwV 4 htb (gd_V kw_1180 kw_1181 kw_1182 kw_5 kw_1610) rfl rfl rfl (by decide +kernel) ⟨Nat.le_of_ble_eq_true rfl, Nat.le_of_ble_eq_true rfl⟩) rfl hl.1 rfl (Nat.le_of_ble_eq_true rfl) dX13_worked_172 ⟨Nat.zero_le _, Nat.zero_le _⟩ hK hP hD hS hA (fun u_26 H locs hw hP hD hS => ?_)
              obtain ⟨sgv_27, gmv_27, lgv_27, rfl, hIv_27, ksv_27, kgv_27, klv_27, fV_r_25, fK_r_25⟩ := hw
              obtain rfl := KS_nil ksv_27
              obtain rfl := KS_nil klv_27
              have hP : va_P (dC, dI) vwCl (mW h0 ad cid sgv_22 gmv_27 lg) H := hP
              have hD : va_D A (mW h0 ad cid sgv_22 gmv_27 lg) := hD
              refine lv_iconst (v := 1) hx hb dX13_worked_175 (by decide) ?_
              exact W.zret (v := 1) hx hb hr (iv_nb (iv_w (iv_k (by decide) : iv 1 1 1) (by decide))) (fun t ht hW => ⟨⟨1, (sgv_22, gmv_27, lg), rfl, ⟨sgv_22, gmv_27, lg, rfl, hIv_27, (KS_tr (L := [51, 52, 63, 74]) KS_rf ksv_22 (by decide)), (KS_tr (L := [62, 64, 65, 66, 67, 68, 69, 70, 71, 72, 73]) (KS_tr (L := [62, 64, 65, 66, 67, 68, 69, 70, 71, 72, 73]) KS_rf kgv_22 (by decide)) kgv_27 (by decide)), KS_rf, (iv_w (iv_k (by decide) : iv 1 1 1) (by decide)), (GI0_k fGI_r_20 (DK_of (show KS [] sgv_22 sgv_22 from KS_rf) (show KS [70, 71, 72, 73] gmv_22 gmv_27 from (KS_tr (L := [70, 71, 72, 73]) KS_rf kgv_27 (by decide))) (show KS [] lg lg from KS_rf) (by decide) (by decide) (by decide)) ((show KS [] lg lg from KS_rf) 1 (by decide)) ((show KS [70, 71, 72, 73] gmv_22 gmv_27 from (KS_tr (L := [70, 71, 72, 73]) KS_rf kgv_27 (by decide))) 60 (by decide)) ((show KS [70, 71, 72, 73] gmv_22 gmv_27 from (KS_tr (L := [70, 71, 72, 73]) KS_rf kgv_27 (by decide))) 61 (by decide)) ((show KS [70, 71, 72, 73] gmv_22 gmv_27 from (KS_tr (L := [70, 71, 72, 73]) KS_rf kgv_27 (by decide))) 62 (by decide)) (fV_r_25) ((show KS [] sgv_22 sgv_22 from KS_rf) 50 (by decide))), (Or.inl ⟨rfl, SAMEP_tr hg1 ⟨((show KS [] sgv_22 sgv_22 from KS_rf) 63 (by decide)), ((show KS [70, 71, 72, 73] gmv_22 gmv_27 from (KS_tr (L := [70, 71, 72, 73]) KS_rf kgv_27 (by decide))) 62 (by decide)), ((show KS [70, 71, 72, 73] gmv_22 gmv_27 from (KS_tr (L := [70, 71, 72, 73]) KS_rf kgv_27 (by decide))) 64 (by decide)), ((show KS [70, 71, 72, 73] gmv_22 gmv_27 from (KS_tr (L := [70, 71, 72, 73]) KS_rf kgv_27 (by decide))) 65 (by decide)), ((show KS [70, 71, 72, 73] gmv_22 gmv_27 from (KS_tr (L := [70, 71, 72, 73]) KS_rf kgv_27 (by decide))) 66 (by decide)), ((show KS [70, 71, 72, 73] gmv_22 gmv_27 from (KS_tr (L := [70, 71, 72, 73]) KS_rf kgv_27 (by decide))) 67 (by decide)), ((show KS [70, 71, 72, 73] gmv_22 gmv_27 from (KS_tr (L := [70, 71, 72, 73]) KS_rf kgv_27 (by decide))) 68 (by decide)), ((show KS [70, 71, 72, 73] gmv_22 gmv_27 from (KS_tr (L := [70, 71, 72, 73]) KS_rf kgv_27 (by decide))) 69 (by decide)), ((show KS [] sgv_22 sgv_22 from KS_rf) 51 (by decide))⟩⟩), (Or.inl ⟨rfl, ((fG9_r_20.resolve_left (fun q => absurd q.1 (by have := i32_0; have := i32_1; have := i32_2; have := i32_m1; have := (hvx).1; have := (hvx).2; have := (hvsl).1; have := (hvsl).2; have := (hvit).1; have := (hvit).2; have := (h_3).1; have := (h_3).2; have := (h_8).1; have := (h_8).2; have := (hr_18).1; have := (hr_18).2; have := (h_24).1; have := (h_24).2; have := (h165).1; have := (h165).2; omega))).resolve_right (fun q => absurd q.1 (by have := i32_0; have := i32_1; have := i32_2; have := i32_m1; have := (hvx).1; have := (hvx).2; have := (hvsl).1; have := (hvsl).2; have := (hvit).1; have := (hvit).2; have := (h_3).1; have := (h_3).2; have := (h_8).1; have := (h_8).2; have := (hr_18).1; have := (hr_18).2; have := (h_24).1; have := (h_24).2; have := (h165).1; have := (h165).2; omega))).2.1, (RR_ks (L := []) (M := [70, 71, 72, 73]) ((fG9_r_20.resolve_left (fun q => absurd q.1 (by have := i32_0; have := i32_1; have := i32_2; have := i32_m1; have := (hvx).1; have := (hvx).2; have := (hvsl).1; have := (hvsl).2; have := (hvit).1; have := (hvit).2; have := (h_3).1; have := (h_3).2; have := (h_8).1; have := (h_8).2; have := (hr_18).1; have := (hr_18).2; have := (h_24).1; have := (h_24).2; have := (h165).1; have := (h165).2; omega))).resolve_right (fun q => absurd q.1 (by have := i32_0; have := i32_1; have := i32_2; have := i32_m1; have := (hvx).1; have := (hvx).2; have := (hvsl).1; have := (hvsl).2; have := (hvit).1; have := (hvit).2; have := (h_3).1; have := (h_3).2; have := (h_8).1; have := (h_8).2; have := (hr_18).1; have := (hr_18).2; have := (h_24).1; have := (h_24).2; have := (h165).1; have := (h165).2; omega))).2.2.1 KS_rf (show KS [70, 71, 72, 73] gmv_22 gmv_27 from (KS_tr (L := [70, 71, 72, 73]) KS_rf kgv_27 (by decide))) (by decide) (by decide)), VL_o (show KP9 gmv_22 gmv_27 sl.toNatClampNeg it 1 (sgv_22 74) from fK_r_25.imp (fun q => ⟨q.1, q.2.1, q.2.2.1⟩) (fun q => ⟨q.1, q.2.2.2.1, q.2.2.2.2⟩)) (by decide) hAS ((fG9_r_20.resolve_left (fun q => absurd q.1 (by have := i32_0; have := i32_1; have := i32_2; have := i32_m1; have := (hvx).1; have := (hvx).2; have := (hvsl).1; have := (hvsl).2; have := (hvit).1; have := (hvit).2; have := (h_3).1; have := (h_3).2; have := (h_8).1; have := (h_8).2; have := (hr_18).1; have := (hr_18).2; have := (h_24).1; have := (h_24).2; have := (h165).1; have := (h165).2; omega))).resolve_right (fun q => absurd q.1 (by have := i32_0; have := i32_1; have := i32_2; have := i32_m1; have := (hvx).1; have := (hvx).2; have := (hvsl).1; have := (hvsl).2; have := (hvit).1; have := (hvit).2; have := (h_3).1; have := (h_3).2; have := (h_8).1; have := (h_8).2; have := (hr_18).1; have := (hr_18).2; have := (h_24).1; have := (h_24).2; have := (h165).1; have := (h165).2; omega))).2.2.2 (gt_v hWF (((fG9_r_20.resolve_left (fun q => absurd q.1 (by have := i32_0; have := i32_1; have := i32_2; have := i32_m1; have := (hvx).1; have := (hvx).2; have := (hvsl).1; have := (hvsl).2; have := (hvit).1; have := (hvit).2; have := (h_3).1; have := (h_3).2; have := (h_8).1; have := (h_8).2; have := (hr_18).1; have := (hr_18).2; have := (h_24).1; have := (h_24).2; have := (h165).1; have := (h165).2; omega))).resolve_right (fun q => absurd q.1 (by have := i32_0; have := i32_1; have := i32_2; have := i32_m1; have := (hvx).1; have := (hvx).2; have := (hvsl).1; have := (hvsl).2; have := (hvit).1; have := (hvit).2; have := (h_3).1; have := (h_3).2; have := (h_8).1; have := (h_8).2; have := (hr_18).1; have := (hr_18).2; have := (h_24).1; have := (h_24).2; have := (h165).1; have := (h165).2; omega))).2.2.2 0)), _, _, (KP8_b fK_r_25 ⟨(kgv_22 70 (by decide)), (kgv_22 71 (by decide)), (kgv_22 72 (by decide)), (kgv_22 73 (by decide))⟩)⟩)⟩, by rw [ht]; exact hP, va_K.moved hW.alike hK, hD⟩, hS.F ht⟩) hS.2.2 dX13_worked_176
            · have h_28 : iv 0 0 r_20 := iv_eq c_23 hr_20 (iv_k (by decide) : iv 0 0 0) (by decide)
              refine lv_iconst (v := 0) hx hb dX13_worked_162 (by decide) ?_
              exact W.zret (v := 0) hx hb hr (iv_nb (iv_w (iv_k (by decide) : iv 0 0 0) (by decide))) (fun t ht hW => ⟨⟨0, (sgv_22, gmv_22, lg), rfl, ⟨sgv_22, gmv_22, lg, rfl, hIv_22, (KS_tr (L := [51, 52, 63, 74]) KS_rf ksv_22 (by decide)), (KS_tr (L := [62, 64, 65, 66, 67, 68, 69, 70, 71, 72, 73]) KS_rf kgv_22 (by decide)), KS_rf, (iv_w (iv_k (by decide) : iv 0 0 0) (by decide)), (fGI_r_20), (Or.inr ⟨rfl, by { rcases fGt_r_20 with ⟨q9, _⟩ | ⟨_, q9⟩; exact absurd (congrArg Int32.toInt c_23) (by rw [q9]; decide); exact q9 }⟩), ((by rcases fG9_r_20 with q | q | q; (exact Or.inr (Or.inl ⟨rfl, q.2.1, q.2.2.1, hAS.1, fun n9 => (hAS.2 n9 S).trans (q.2.2.2 n9)⟩)); (exact absurd q.1 (by have := i32_0; have := i32_1; have := i32_2; have := i32_m1; have := (hvx).1; have := (hvx).2; have := (hvsl).1; have := (hvsl).2; have := (hvit).1; have := (hvit).2; have := (h_3).1; have := (h_3).2; have := (h_8).1; have := (h_8).2; have := (hr_18).1; have := (hr_18).2; have := (h_28).1; have := (h_28).2; omega)); (exact Or.inr (Or.inr ⟨rfl, ⟨(kgv_22 70 (by decide)), (kgv_22 71 (by decide)), (kgv_22 72 (by decide)), (kgv_22 73 (by decide))⟩, q.2.1, hAS.1, r_18, ⟨q.2.2.1, (hr_18).2⟩, hb9, q.2.2.2.1, q.2.2.2.2.1, fun n9 => (hAS.2 n9 S).trans (q.2.2.2.2.2.1 n9), q.2.2.2.2.2.2.1, q.2.2.2.2.2.2.2⟩))))⟩, by rw [ht]; exact hP, va_K.moved hW.alike hK, hD⟩, hS.F ht⟩) hS.2.2 dX13_worked_163
          · have h_29 : iv 4 3 z_1 := iv_eq c_14 h_3 (iv_k (by decide) : iv 3 3 3) (by decide)
            exact (iv_no h_29 (by decide)).elim
        · have h_30 : iv 9 4 z_1 := iv_eq c_12 h_3 (iv_k (by decide) : iv 9 9 9) (by decide)
          exact (iv_no h_30 (by decide)).elim
      · have h_31 : iv 7 4 z_1 := iv_eq c_10 h_3 (iv_k (by decide) : iv 7 7 7) (by decide)
        exact (iv_no h_31 (by decide)).elim
    · have h_32 : iv 1 1 r_5 := iv_neL c_7 hr_5 (by decide)
      refine lv_aload_n hx hb dX13_worked_43 rfl (lv_at hl 1 rfl) ?_
      refine lv_iload_n hx hb dX13_worked_44 rfl (lv_at hl 3 rfl) ?_
      refine lv_iload_n hx hb dX13_worked_45 rfl (lv_at hl 4 rfl) ?_
      refine lv_iconst (v := 0) hx hb dX13_worked_46 (by decide) ?_
      refine lv_aload_n hx hb dX13_worked_47 rfl (lv_at hl 1 rfl) ?_
      refine lv_iload_n hx hb dX13_worked_48 rfl (lv_at hl 2 rfl) ?_
      refine lv_ldc2 (own := RX13) (v := 508440638821) hx hb hown (htb _ kw_140) dX13_worked_49 ?_
      refine mr_calli (rest := [.int 0, .int it, .int sl, .ref h0]) ⟨hx, hb, hml, hown, htb⟩ (f_find l dC dI h0 ad cid sg gm lg x 508440638821 hI hvx) (cwV 2 htb (gd_V kw_862 kw_863 kw_864 kw_5 kw_1531) rfl rfl rfl (by decide +kernel) ⟨Nat.le_of_ble_eq_true rfl, Nat.le_of_ble_eq_true rfl⟩) rfl hl.1 rfl (Nat.le_of_ble_eq_true rfl) dX13_worked_52 ⟨Nat.zero_le _, Nat.zero_le _⟩ hK hP hD hS hA (fun r_33 u_34 H locs hw hP hD hS => ?_)
      obtain ⟨hr_33, fF_r_33, rfl⟩ := hw
      have hP : va_P (dC, dI) vwCl (mW h0 ad cid sg gm lg) H := hP
      have hD : va_D A (mW h0 ad cid sg gm lg) := hD
      have h55 : iv 0 959 r_33 := iv_neL (b := 959) (by rw [fF_r_33]; exact has_find (by rw [← fH_r_5]; exact c_7)) hr_33 (by decide)
      refine mr_callv (rest := []) ⟨hx, hb, hml, hown, htb⟩ (f_keep9 l dC dI h0 ad cid sg gm lg sl it 0 r_33 hI hvsl hvit (iv_w (iv_k (by decide) : iv 0 0 0) (by decide)) (iv_w h55 (by decide)) hgi.1 (vok_0 (Or.inl (h55).2))) (cwV 4 htb (gd_V kw_1180 kw_1181 kw_1182 kw_5 kw_1610) rfl rfl rfl (by decide +kernel) ⟨Nat.le_of_ble_eq_true rfl, Nat.le_of_ble_eq_true rfl⟩) rfl hl.1 rfl (Nat.le_of_ble_eq_true rfl) dX13_worked_55 ⟨Nat.zero_le _, Nat.zero_le _⟩ hK hP hD hS hA (fun u_36 H locs hw hP hD hS => ?_)
      obtain ⟨sgv_37, gmv_37, lgv_37, rfl, hIv_37, ksv_37, kgv_37, klv_37, fV_r_35, fK_r_35⟩ := hw
      obtain rfl := KS_nil ksv_37
      obtain rfl := KS_nil klv_37
      have hP : va_P (dC, dI) vwCl (mW h0 ad cid sg gmv_37 lg) H := hP
      have hD : va_D A (mW h0 ad cid sg gmv_37 lg) := hD
      refine lv_goto (tgt := 175) hx hb dX13_worked_58 (by decide) ?_
      refine lv_iconst (v := 1) hx hb dX13_worked_175 (by decide) ?_
      exact W.zret (v := 1) hx hb hr (iv_nb (iv_w (iv_k (by decide) : iv 1 1 1) (by decide))) (fun t ht hW => ⟨⟨1, (sg, gmv_37, lg), rfl, ⟨sg, gmv_37, lg, rfl, hIv_37, KS_rf, (KS_tr (L := [62, 64, 65, 66, 67, 68, 69, 70, 71, 72, 73]) KS_rf kgv_37 (by decide)), KS_rf, (iv_w (iv_k (by decide) : iv 1 1 1) (by decide)), (GI0_k hgi (DK_of (show KS [] sg sg from KS_rf) (show KS [70, 71, 72, 73] gm gmv_37 from (KS_tr (L := [70, 71, 72, 73]) KS_rf kgv_37 (by decide))) (show KS [] lg lg from KS_rf) (by decide) (by decide) (by decide)) ((show KS [] lg lg from KS_rf) 1 (by decide)) ((show KS [70, 71, 72, 73] gm gmv_37 from (KS_tr (L := [70, 71, 72, 73]) KS_rf kgv_37 (by decide))) 60 (by decide)) ((show KS [70, 71, 72, 73] gm gmv_37 from (KS_tr (L := [70, 71, 72, 73]) KS_rf kgv_37 (by decide))) 61 (by decide)) ((show KS [70, 71, 72, 73] gm gmv_37 from (KS_tr (L := [70, 71, 72, 73]) KS_rf kgv_37 (by decide))) 62 (by decide)) (fV_r_35) ((show KS [] sg sg from KS_rf) 50 (by decide))), (Or.inl ⟨rfl, ⟨((show KS [] sg sg from KS_rf) 63 (by decide)), ((show KS [70, 71, 72, 73] gm gmv_37 from (KS_tr (L := [70, 71, 72, 73]) KS_rf kgv_37 (by decide))) 62 (by decide)), ((show KS [70, 71, 72, 73] gm gmv_37 from (KS_tr (L := [70, 71, 72, 73]) KS_rf kgv_37 (by decide))) 64 (by decide)), ((show KS [70, 71, 72, 73] gm gmv_37 from (KS_tr (L := [70, 71, 72, 73]) KS_rf kgv_37 (by decide))) 65 (by decide)), ((show KS [70, 71, 72, 73] gm gmv_37 from (KS_tr (L := [70, 71, 72, 73]) KS_rf kgv_37 (by decide))) 66 (by decide)), ((show KS [70, 71, 72, 73] gm gmv_37 from (KS_tr (L := [70, 71, 72, 73]) KS_rf kgv_37 (by decide))) 67 (by decide)), ((show KS [70, 71, 72, 73] gm gmv_37 from (KS_tr (L := [70, 71, 72, 73]) KS_rf kgv_37 (by decide))) 68 (by decide)), ((show KS [70, 71, 72, 73] gm gmv_37 from (KS_tr (L := [70, 71, 72, 73]) KS_rf kgv_37 (by decide))) 69 (by decide)), ((show KS [] sg sg from KS_rf) 51 (by decide))⟩⟩), (Or.inl ⟨rfl, h510, (RR_ks (L := []) (M := [70, 71, 72, 73]) hRR KS_rf (KS_tr (L := [70, 71, 72, 73]) KS_rf kgv_37 (by decide)) (by decide) (by decide)), (by obtain ⟨h7, T9, hs9, ht9⟩ := hWK.1 (show hva9 rg lg x.toNatClampNeg from ⟨(show hol9 rg x.toNatClampNeg from Or.inl (show rg 26 x.toNatClampNeg = 4 from (by rw [rwz9 hRW (by decide) ez_1]; exact Int32.toInt_inj.mp (by show _ = (4 : Int); have := i32_0; have := i32_1; have := i32_2; have := i32_m1; have := (hvx).1; have := (hvx).2; have := (hvsl).1; have := (hvsl).2; have := (hvit).1; have := (hvit).2; have := (h_3).1; have := (h_3).2; have := (h_32).1; have := (h_32).2; have := (h55).1; have := (h55).2; omega)))), (by rw [mHas_k (DK_r (lg := lg) hRW hRS).1, ← fH_r_5]; exact c_7)⟩); rw [mFind_k (DK_r (lg := lg) hRW hRS).1, ← fF_r_33] at hs9; exact VL_t (show KP9 gm gmv_37 sl.toNatClampNeg it 0 r_33 from fK_r_35.imp (fun q => ⟨q.1, q.2.1, q.2.2.1⟩) (fun q => ⟨q.1, q.2.2.2.1, q.2.2.2.2⟩)) (by decide) h7 hs9 ht9), _, _, fK_r_35⟩)⟩, by rw [ht]; exact hP, va_K.moved hW.alike hK, hD⟩, hS.F ht⟩) hS.2.2 dX13_worked_176
  · have d_38 : ¬ (z_1 : Int32).toInt = 4 := lv_neT c_2 rfl
    refine lv_aload_n hx hb dX13_worked_10 rfl (lv_at hl 0 rfl) ?_
    refine mr_get (v := .ref (ad 26)) hx hb htb inX13 hown hK hP 26 (by decide) (htb _ kw_182) rfl dX13_worked_11 ?_
    refine lv_iload_n hx hb dX13_worked_14 rfl (lv_at hl 1 rfl) ?_
    refine mr_iald hx hb hK hP 19 (k := 26) rfl rfl rfl (show vp_in x 80 from (iv_in hvx (by decide))) dX13_worked_15 ?_
    refine lv_topi (fun z_39 ez_39 => ?_)
    obtain rfl : z_1 = z_39 := ez_1.trans ez_39.symm
    refine lv_iconst (v := 5) hx hb dX13_worked_16 (by decide) ?_
    refine lv_icmp_ne (tgt := 24) hx hb dX13_worked_17 (by decide) (fun c_40 => ?_) (fun c_40 => ?_)
    · have d_41 : ¬ (z_1 : Int32).toInt = 5 := lv_neT c_40 rfl
      refine lv_iconst (v := 0) hx hb dX13_worked_24 (by decide) ?_
      refine lv_istore (lv' := [(4, .int 0), (0, .ref h0), (1, .int x), (2, .int sl), (3, .int it)]) hx hb dX13_worked_25 hl (by decide) rfl (fun ls hl => ?_)
      refine lv_iload hx hb dX13_worked_27 (lv_at hl 0 rfl) ?_
      refine lv_if_eq (tgt := 61) hx hb dX13_worked_29 (by decide) (fun _ => ?_) (fun c_42 => absurd (by decide) c_42)
      refine lv_aload_n hx hb dX13_worked_61 rfl (lv_at hl 1 rfl) ?_
      refine mr_get (v := .ref (ad 26)) hx hb htb inX13 hown hK hP 26 (by decide) (htb _ kw_182) rfl dX13_worked_62 ?_
      refine lv_iload_n hx hb dX13_worked_65 rfl (lv_at hl 2 rfl) ?_
      refine mr_iald hx hb hK hP 19 (k := 26) rfl rfl rfl (show vp_in x 80 from (iv_in hvx (by decide))) dX13_worked_66 ?_
      refine lv_topi (fun z_43 ez_43 => ?_)
      obtain rfl : z_1 = z_43 := ez_1.trans ez_43.symm
      refine lv_bipush (v := 7) hx hb dX13_worked_67 (by decide) ?_
      refine lv_icmp_ne (tgt := 87) hx hb dX13_worked_69 (by decide) (fun c_44 => ?_) (fun c_44 => ?_)
      · have d_45 : ¬ (z_1 : Int32).toInt = 7 := lv_neT c_44 rfl
        refine lv_aload_n hx hb dX13_worked_87 rfl (lv_at hl 1 rfl) ?_
        refine mr_get (v := .ref (ad 26)) hx hb htb inX13 hown hK hP 26 (by decide) (htb _ kw_182) rfl dX13_worked_88 ?_
        refine lv_iload_n hx hb dX13_worked_91 rfl (lv_at hl 2 rfl) ?_
        refine mr_iald hx hb hK hP 19 (k := 26) rfl rfl rfl (show vp_in x 80 from (iv_in hvx (by decide))) dX13_worked_92 ?_
        refine lv_topi (fun z_46 ez_46 => ?_)
        obtain rfl : z_1 = z_46 := ez_1.trans ez_46.symm
        refine lv_bipush (v := 9) hx hb dX13_worked_93 (by decide) ?_
        refine lv_icmp_ne (tgt := 109) hx hb dX13_worked_95 (by decide) (fun c_47 => ?_) (fun c_47 => ?_)
        · have d_48 : ¬ (z_1 : Int32).toInt = 9 := lv_neT c_47 rfl
          refine lv_aload_n hx hb dX13_worked_109 rfl (lv_at hl 1 rfl) ?_
          refine mr_get (v := .ref (ad 26)) hx hb htb inX13 hown hK hP 26 (by decide) (htb _ kw_182) rfl dX13_worked_110 ?_
          refine lv_iload_n hx hb dX13_worked_113 rfl (lv_at hl 2 rfl) ?_
          refine mr_iald hx hb hK hP 19 (k := 26) rfl rfl rfl (show vp_in x 80 from (iv_in hvx (by decide))) dX13_worked_114 ?_
          refine lv_topi (fun z_49 ez_49 => ?_)
          obtain rfl : z_1 = z_49 := ez_1.trans ez_49.symm
          refine lv_iconst (v := 3) hx hb dX13_worked_115 (by decide) ?_
          refine lv_icmp_ne (tgt := 128) hx hb dX13_worked_116 (by decide) (fun c_50 => ?_) (fun c_50 => ?_)
          · have d_51 : ¬ (z_1 : Int32).toInt = 3 := lv_neT c_50 rfl
            refine lv_aload_n hx hb dX13_worked_128 rfl (lv_at hl 1 rfl) ?_
            refine lv_aload_n hx hb dX13_worked_129 rfl (lv_at hl 1 rfl) ?_
            refine lv_iload_n hx hb dX13_worked_130 rfl (lv_at hl 2 rfl) ?_
            refine lv_iload hx hb dX13_worked_131 (lv_at hl 0 rfl) ?_
            refine lv_if_eq (tgt := 142) hx hb dX13_worked_133 (by decide) (fun _ => ?_) (fun c_52 => absurd (by decide) c_52)
            refine lv_ldc2 (own := RX13) (v := 1650811246) hx hb hown (htb _ kw_136) dX13_worked_142 ?_
            refine mr_calll (rest := [.ref h0]) ⟨hx, hb, hml, hown, htb⟩ (f_word l dC dI h0 ad cid sg gm lg x 1650811246 hI hvx) (cwV 2 htb (gd_V kw_923 kw_924 kw_925 kw_5 kw_1545) rfl rfl rfl (by decide +kernel) ⟨Nat.le_of_ble_eq_true rfl, Nat.le_of_ble_eq_true rfl⟩) rfl hl.1 rfl (Nat.le_of_ble_eq_true rfl) dX13_worked_145 ⟨Nat.zero_le _, Nat.zero_le _⟩ hK hP hD hS hA (fun r_53 u_54 H locs hw hP hD hS => ?_)
            obtain ⟨fW_r_53, rfl⟩ := hw
            have hP : va_P (dC, dI) vwCl (mW h0 ad cid sg gm lg) H := hP
            have hD : va_D A (mW h0 ad cid sg gm lg) := hD
            refine mr_calli (rest := []) ⟨hx, hb, hml, hown, htb⟩ (f_called9 l dC dI h0 ad cid sg gm lg r_53 hI) (cwV 1 htb (gd_V kw_1168 kw_1169 kw_1170 kw_5 kw_1606) rfl rfl rfl (by decide +kernel) ⟨Nat.le_of_ble_eq_true rfl, Nat.le_of_ble_eq_true rfl⟩) rfl hl.1 rfl (Nat.le_of_ble_eq_true rfl) dX13_worked_148 ⟨Nat.zero_le _, Nat.zero_le _⟩ hK hP hD hS hA (fun r_55 u_56 H locs hw hP hD hS => ?_)
            obtain ⟨hr_55, fLt_r_55, fCd_r_55, rfl⟩ := hw
            have hP : va_P (dC, dI) vwCl (mW h0 ad cid sg gm lg) H := hP
            have hD : va_D A (mW h0 ad cid sg gm lg) := hD
            have hb9 : r_55.toInt < (sg 41).toInt := fLt_r_55
            have hAS : ASK ws wg wl x.toNatClampNeg r_55.toInt := ASK_n hWK (fun q => absurd q.1 (show ¬ hol9 rg x.toNatClampNeg from hol_n (show ¬ rg 26 x.toNatClampNeg = 4 from (by rw [rwz9 hRW (by decide) ez_1]; exact fun q => absurd (congrArg Int32.toInt q) (by show ¬ _ = (4 : Int); have := i32_0; have := i32_1; have := i32_2; have := i32_m1; have := (hvx).1; have := (hvx).2; have := (hvsl).1; have := (hvsl).2; have := (hvit).1; have := (hvit).2; have := (hz_1).1; have := (hz_1).2; have := (hr_55).1; have := (hr_55).2; omega))) (show ¬ rg 26 x.toNatClampNeg = 5 from (by rw [rwz9 hRW (by decide) ez_1]; exact fun q => absurd (congrArg Int32.toInt q) (by show ¬ _ = (5 : Int); have := i32_0; have := i32_1; have := i32_2; have := i32_m1; have := (hvx).1; have := (hvx).2; have := (hvsl).1; have := (hvsl).2; have := (hvit).1; have := (hvit).2; have := (hz_1).1; have := (hz_1).2; have := (hr_55).1; have := (hr_55).2; omega))))) (show ¬ rg 26 x.toNatClampNeg = 7 from (by rw [rwz9 hRW (by decide) ez_1]; exact fun q => absurd (congrArg Int32.toInt q) (by show ¬ _ = (7 : Int); have := i32_0; have := i32_1; have := i32_2; have := i32_m1; have := (hvx).1; have := (hvx).2; have := (hvsl).1; have := (hvsl).2; have := (hvit).1; have := (hvit).2; have := (hz_1).1; have := (hz_1).2; have := (hr_55).1; have := (hr_55).2; omega))) (show ¬ rg 26 x.toNatClampNeg = 9 from (by rw [rwz9 hRW (by decide) ez_1]; exact fun q => absurd (congrArg Int32.toInt q) (by show ¬ _ = (9 : Int); have := i32_0; have := i32_1; have := i32_2; have := i32_m1; have := (hvx).1; have := (hvx).2; have := (hvsl).1; have := (hvsl).2; have := (hvit).1; have := (hvit).2; have := (hz_1).1; have := (hz_1).2; have := (hr_55).1; have := (hr_55).2; omega))) (show ¬ rg 26 x.toNatClampNeg = 3 from (by rw [rwz9 hRW (by decide) ez_1]; exact fun q => absurd (congrArg Int32.toInt q) (by show ¬ _ = (3 : Int); have := i32_0; have := i32_1; have := i32_2; have := i32_m1; have := (hvx).1; have := (hvx).2; have := (hvsl).1; have := (hvsl).2; have := (hvit).1; have := (hvit).2; have := (hz_1).1; have := (hz_1).2; have := (hr_55).1; have := (hr_55).2; omega))) (show iv 0 80 (ws 12) from (by have q5 := hBR.1; rw [rs9_41 hRS] at q5; have q6 := (show iv 0 80 (sg 41) from MI_s hI 41); exact ⟨by rw [← q5]; exact q6.1, by rw [← q5]; exact q6.2⟩)) (by rw [if_neg (show ¬ hol9 rg x.toNatClampNeg from hol_n (show ¬ rg 26 x.toNatClampNeg = 4 from (by rw [rwz9 hRW (by decide) ez_1]; exact fun q => absurd (congrArg Int32.toInt q) (by show ¬ _ = (4 : Int); have := i32_0; have := i32_1; have := i32_2; have := i32_m1; have := (hvx).1; have := (hvx).2; have := (hvsl).1; have := (hvsl).2; have := (hvit).1; have := (hvit).2; have := (hz_1).1; have := (hz_1).2; have := (hr_55).1; have := (hr_55).2; omega))) (show ¬ rg 26 x.toNatClampNeg = 5 from (by rw [rwz9 hRW (by decide) ez_1]; exact fun q => absurd (congrArg Int32.toInt q) (by show ¬ _ = (5 : Int); have := i32_0; have := i32_1; have := i32_2; have := i32_m1; have := (hvx).1; have := (hvx).2; have := (hvsl).1; have := (hvsl).2; have := (hvit).1; have := (hvit).2; have := (hz_1).1; have := (hz_1).2; have := (hr_55).1; have := (hr_55).2; omega)))), mWord_k (DK_r (lg := lg) hRW hRS).1, ← fW_r_53]; unfold cdR; rw [cdF_k (DK_r (lg := lg) hRW hRS)]; exact fCd_r_55)
            refine lv_istore (lv' := [(5, .int r_55), (4, .int 0), (0, .ref h0), (1, .int x), (2, .int sl), (3, .int it)]) hx hb dX13_worked_151 hl (by decide) rfl (fun ls hl => ?_)
            refine lv_aload_n hx hb dX13_worked_153 rfl (lv_at hl 2 rfl) ?_
            refine lv_iload hx hb dX13_worked_154 (lv_at hl 0 rfl) ?_
            refine mr_calli (rest := []) ⟨hx, hb, hml, hown, htb⟩ (f_gets9 l dC dI h0 ad cid sg gm lg r_55 ws wg wl rs rg S hI hr_55 hb9 hgi hpi hRW hRS hBR hRR h510) (cwV 1 htb (gd_V kw_1158 kw_1159 kw_1160 kw_5 kw_1603) rfl rfl rfl (by decide +kernel) ⟨Nat.le_of_ble_eq_true rfl, Nat.le_of_ble_eq_true rfl⟩) rfl hl.1 rfl (Nat.le_of_ble_eq_true rfl) dX13_worked_156 ⟨Nat.zero_le _, Nat.zero_le _⟩ hK hP hD hS hA (fun r_57 u_58 H locs hw hP hD hS => ?_)
            obtain ⟨sgv_59, gmv_59, lgv_59, rfl, hIv_59, ksv_59, kgv_59, klv_59, hr_57, fGI_r_57, fGt_r_57, fG9_r_57⟩ := hw
            obtain rfl := KS_nil klv_59
            have hP : va_P (dC, dI) vwCl (mW h0 ad cid sgv_59 gmv_59 lg) H := hP
            have hD : va_D A (mW h0 ad cid sgv_59 gmv_59 lg) := hD
            refine lv_if_ne (tgt := 164) hx hb dX13_worked_159 (by decide) (fun c_60 => ?_) (fun c_60 => ?_)
            · have h_61 : iv 1 1 r_57 := iv_neL c_60 hr_57 (by decide)
              refine lv_aload_n hx hb dX13_worked_164 rfl (lv_at hl 2 rfl) ?_
              obtain ⟨hg0, hg1⟩ : 0 ≤ (sgv_59 74).toInt ∧ SAMEP sg gm sgv_59 gmv_59 := by { rcases fGt_r_57 with ⟨_, q9, q8⟩ | ⟨q9, _⟩; exact ⟨q9, q8⟩; exact absurd (Int32.toInt_inj.mp q9) c_60 }
              have h165 : iv 0 59 (sgv_59 74) := ⟨hg0, (show iv (-1) 59 (sgv_59 74) from MI_s hIv_59 74).2⟩
              refine lv_iload_n hx hb dX13_worked_165 rfl (lv_at hl 4 rfl) ?_
              refine lv_iload_n hx hb dX13_worked_166 rfl (lv_at hl 5 rfl) ?_
              refine lv_iconst (v := 1) hx hb dX13_worked_167 (by decide) ?_
              refine lv_aload_n hx hb dX13_worked_168 rfl (lv_at hl 2 rfl) ?_
              refine mr_get (v := .int (sgv_59 74)) hx hb htb inX13 hown hK hP 74 (by decide) (htb _ kw_1161) rfl dX13_worked_169 ?_
              refine mr_callv (rest := []) ⟨hx, hb, hml, hown, htb⟩ (f_keep9 l dC dI h0 ad cid sgv_59 gmv_59 lg sl it 1 (sgv_59 74) hIv_59 hvsl hvit (iv_w (iv_k (by decide) : iv 1 1 1) (by decide)) (iv_w h165 (by decide)) (fGI_r_57.1) (vok_1 (h165).2)) (cwV 4 htb (gd_V kw_1180 kw_1181 kw_1182 kw_5 kw_1610) rfl rfl rfl (by decide +kernel) ⟨Nat.le_of_ble_eq_true rfl, Nat.le_of_ble_eq_true rfl⟩) rfl hl.1 rfl (Nat.le_of_ble_eq_true rfl) dX13_worked_172 ⟨Nat.zero_le _, Nat.zero_le _⟩ hK hP hD hS hA (fun u_63 H locs hw hP hD hS => ?_)
              obtain ⟨sgv_64, gmv_64, lgv_64, rfl, hIv_64, ksv_64, kgv_64, klv_64, fV_r_62, fK_r_62⟩ := hw
              obtain rfl := KS_nil ksv_64
              obtain rfl := KS_nil klv_64
              have hP : va_P (dC, dI) vwCl (mW h0 ad cid sgv_59 gmv_64 lg) H := hP
              have hD : va_D A (mW h0 ad cid sgv_59 gmv_64 lg) := hD
              refine lv_iconst (v := 1) hx hb dX13_worked_175 (by decide) ?_
              exact W.zret (v := 1) hx hb hr (iv_nb (iv_w (iv_k (by decide) : iv 1 1 1) (by decide))) (fun t ht hW => ⟨⟨1, (sgv_59, gmv_64, lg), rfl, ⟨sgv_59, gmv_64, lg, rfl, hIv_64, (KS_tr (L := [51, 52, 63, 74]) KS_rf ksv_59 (by decide)), (KS_tr (L := [62, 64, 65, 66, 67, 68, 69, 70, 71, 72, 73]) (KS_tr (L := [62, 64, 65, 66, 67, 68, 69, 70, 71, 72, 73]) KS_rf kgv_59 (by decide)) kgv_64 (by decide)), KS_rf, (iv_w (iv_k (by decide) : iv 1 1 1) (by decide)), (GI0_k fGI_r_57 (DK_of (show KS [] sgv_59 sgv_59 from KS_rf) (show KS [70, 71, 72, 73] gmv_59 gmv_64 from (KS_tr (L := [70, 71, 72, 73]) KS_rf kgv_64 (by decide))) (show KS [] lg lg from KS_rf) (by decide) (by decide) (by decide)) ((show KS [] lg lg from KS_rf) 1 (by decide)) ((show KS [70, 71, 72, 73] gmv_59 gmv_64 from (KS_tr (L := [70, 71, 72, 73]) KS_rf kgv_64 (by decide))) 60 (by decide)) ((show KS [70, 71, 72, 73] gmv_59 gmv_64 from (KS_tr (L := [70, 71, 72, 73]) KS_rf kgv_64 (by decide))) 61 (by decide)) ((show KS [70, 71, 72, 73] gmv_59 gmv_64 from (KS_tr (L := [70, 71, 72, 73]) KS_rf kgv_64 (by decide))) 62 (by decide)) (fV_r_62) ((show KS [] sgv_59 sgv_59 from KS_rf) 50 (by decide))), (Or.inl ⟨rfl, SAMEP_tr hg1 ⟨((show KS [] sgv_59 sgv_59 from KS_rf) 63 (by decide)), ((show KS [70, 71, 72, 73] gmv_59 gmv_64 from (KS_tr (L := [70, 71, 72, 73]) KS_rf kgv_64 (by decide))) 62 (by decide)), ((show KS [70, 71, 72, 73] gmv_59 gmv_64 from (KS_tr (L := [70, 71, 72, 73]) KS_rf kgv_64 (by decide))) 64 (by decide)), ((show KS [70, 71, 72, 73] gmv_59 gmv_64 from (KS_tr (L := [70, 71, 72, 73]) KS_rf kgv_64 (by decide))) 65 (by decide)), ((show KS [70, 71, 72, 73] gmv_59 gmv_64 from (KS_tr (L := [70, 71, 72, 73]) KS_rf kgv_64 (by decide))) 66 (by decide)), ((show KS [70, 71, 72, 73] gmv_59 gmv_64 from (KS_tr (L := [70, 71, 72, 73]) KS_rf kgv_64 (by decide))) 67 (by decide)), ((show KS [70, 71, 72, 73] gmv_59 gmv_64 from (KS_tr (L := [70, 71, 72, 73]) KS_rf kgv_64 (by decide))) 68 (by decide)), ((show KS [70, 71, 72, 73] gmv_59 gmv_64 from (KS_tr (L := [70, 71, 72, 73]) KS_rf kgv_64 (by decide))) 69 (by decide)), ((show KS [] sgv_59 sgv_59 from KS_rf) 51 (by decide))⟩⟩), (Or.inl ⟨rfl, ((fG9_r_57.resolve_left (fun q => absurd q.1 (by have := i32_0; have := i32_1; have := i32_2; have := i32_m1; have := (hvx).1; have := (hvx).2; have := (hvsl).1; have := (hvsl).2; have := (hvit).1; have := (hvit).2; have := (hz_1).1; have := (hz_1).2; have := (hr_55).1; have := (hr_55).2; have := (h_61).1; have := (h_61).2; have := (h165).1; have := (h165).2; omega))).resolve_right (fun q => absurd q.1 (by have := i32_0; have := i32_1; have := i32_2; have := i32_m1; have := (hvx).1; have := (hvx).2; have := (hvsl).1; have := (hvsl).2; have := (hvit).1; have := (hvit).2; have := (hz_1).1; have := (hz_1).2; have := (hr_55).1; have := (hr_55).2; have := (h_61).1; have := (h_61).2; have := (h165).1; have := (h165).2; omega))).2.1, (RR_ks (L := []) (M := [70, 71, 72, 73]) ((fG9_r_57.resolve_left (fun q => absurd q.1 (by have := i32_0; have := i32_1; have := i32_2; have := i32_m1; have := (hvx).1; have := (hvx).2; have := (hvsl).1; have := (hvsl).2; have := (hvit).1; have := (hvit).2; have := (hz_1).1; have := (hz_1).2; have := (hr_55).1; have := (hr_55).2; have := (h_61).1; have := (h_61).2; have := (h165).1; have := (h165).2; omega))).resolve_right (fun q => absurd q.1 (by have := i32_0; have := i32_1; have := i32_2; have := i32_m1; have := (hvx).1; have := (hvx).2; have := (hvsl).1; have := (hvsl).2; have := (hvit).1; have := (hvit).2; have := (hz_1).1; have := (hz_1).2; have := (hr_55).1; have := (hr_55).2; have := (h_61).1; have := (h_61).2; have := (h165).1; have := (h165).2; omega))).2.2.1 KS_rf (show KS [70, 71, 72, 73] gmv_59 gmv_64 from (KS_tr (L := [70, 71, 72, 73]) KS_rf kgv_64 (by decide))) (by decide) (by decide)), VL_o (show KP9 gmv_59 gmv_64 sl.toNatClampNeg it 1 (sgv_59 74) from fK_r_62.imp (fun q => ⟨q.1, q.2.1, q.2.2.1⟩) (fun q => ⟨q.1, q.2.2.2.1, q.2.2.2.2⟩)) (by decide) hAS ((fG9_r_57.resolve_left (fun q => absurd q.1 (by have := i32_0; have := i32_1; have := i32_2; have := i32_m1; have := (hvx).1; have := (hvx).2; have := (hvsl).1; have := (hvsl).2; have := (hvit).1; have := (hvit).2; have := (hz_1).1; have := (hz_1).2; have := (hr_55).1; have := (hr_55).2; have := (h_61).1; have := (h_61).2; have := (h165).1; have := (h165).2; omega))).resolve_right (fun q => absurd q.1 (by have := i32_0; have := i32_1; have := i32_2; have := i32_m1; have := (hvx).1; have := (hvx).2; have := (hvsl).1; have := (hvsl).2; have := (hvit).1; have := (hvit).2; have := (hz_1).1; have := (hz_1).2; have := (hr_55).1; have := (hr_55).2; have := (h_61).1; have := (h_61).2; have := (h165).1; have := (h165).2; omega))).2.2.2 (gt_v hWF (((fG9_r_57.resolve_left (fun q => absurd q.1 (by have := i32_0; have := i32_1; have := i32_2; have := i32_m1; have := (hvx).1; have := (hvx).2; have := (hvsl).1; have := (hvsl).2; have := (hvit).1; have := (hvit).2; have := (hz_1).1; have := (hz_1).2; have := (hr_55).1; have := (hr_55).2; have := (h_61).1; have := (h_61).2; have := (h165).1; have := (h165).2; omega))).resolve_right (fun q => absurd q.1 (by have := i32_0; have := i32_1; have := i32_2; have := i32_m1; have := (hvx).1; have := (hvx).2; have := (hvsl).1; have := (hvsl).2; have := (hvit).1; have := (hvit).2; have := (hz_1).1; have := (hz_1).2; have := (hr_55).1; have := (hr_55).2; have := (h_61).1; have := (h_61).2; have := (h165).1; have := (h165).2; omega))).2.2.2 0)), _, _, (KP8_b fK_r_62 ⟨(kgv_59 70 (by decide)), (kgv_59 71 (by decide)), (kgv_59 72 (by decide)), (kgv_59 73 (by decide))⟩)⟩)⟩, by rw [ht]; exact hP, va_K.moved hW.alike hK, hD⟩, hS.F ht⟩) hS.2.2 dX13_worked_176
            · have h_65 : iv 0 0 r_57 := iv_eq c_60 hr_57 (iv_k (by decide) : iv 0 0 0) (by decide)
              refine lv_iconst (v := 0) hx hb dX13_worked_162 (by decide) ?_
              exact W.zret (v := 0) hx hb hr (iv_nb (iv_w (iv_k (by decide) : iv 0 0 0) (by decide))) (fun t ht hW => ⟨⟨0, (sgv_59, gmv_59, lg), rfl, ⟨sgv_59, gmv_59, lg, rfl, hIv_59, (KS_tr (L := [51, 52, 63, 74]) KS_rf ksv_59 (by decide)), (KS_tr (L := [62, 64, 65, 66, 67, 68, 69, 70, 71, 72, 73]) KS_rf kgv_59 (by decide)), KS_rf, (iv_w (iv_k (by decide) : iv 0 0 0) (by decide)), (fGI_r_57), (Or.inr ⟨rfl, by { rcases fGt_r_57 with ⟨q9, _⟩ | ⟨_, q9⟩; exact absurd (congrArg Int32.toInt c_60) (by rw [q9]; decide); exact q9 }⟩), ((by rcases fG9_r_57 with q | q | q; (exact Or.inr (Or.inl ⟨rfl, q.2.1, q.2.2.1, hAS.1, fun n9 => (hAS.2 n9 S).trans (q.2.2.2 n9)⟩)); (exact absurd q.1 (by have := i32_0; have := i32_1; have := i32_2; have := i32_m1; have := (hvx).1; have := (hvx).2; have := (hvsl).1; have := (hvsl).2; have := (hvit).1; have := (hvit).2; have := (hz_1).1; have := (hz_1).2; have := (hr_55).1; have := (hr_55).2; have := (h_65).1; have := (h_65).2; omega)); (exact Or.inr (Or.inr ⟨rfl, ⟨(kgv_59 70 (by decide)), (kgv_59 71 (by decide)), (kgv_59 72 (by decide)), (kgv_59 73 (by decide))⟩, q.2.1, hAS.1, r_55, ⟨q.2.2.1, (hr_55).2⟩, hb9, q.2.2.2.1, q.2.2.2.2.1, fun n9 => (hAS.2 n9 S).trans (q.2.2.2.2.2.1 n9), q.2.2.2.2.2.2.1, q.2.2.2.2.2.2.2⟩))))⟩, by rw [ht]; exact hP, va_K.moved hW.alike hK, hD⟩, hS.F ht⟩) hS.2.2 dX13_worked_163
          · have h_66 : iv 3 3 z_1 := iv_eq c_50 hz_1 (iv_k (by decide) : iv 3 3 3) (by decide)
            refine lv_aload_n hx hb dX13_worked_119 rfl (lv_at hl 1 rfl) ?_
            refine mr_get (v := .ref (ad 43)) hx hb htb inX13 hown hK hP 43 (by decide) (htb _ kw_197) rfl dX13_worked_120 ?_
            refine lv_iload_n hx hb dX13_worked_123 rfl (lv_at hl 2 rfl) ?_
            refine mr_iald hx hb hK hP 34 (k := 43) rfl rfl rfl (show vp_in x 80 from (iv_in hvx (by decide))) dX13_worked_124 ?_
            refine lv_topi (fun z_67 ez_67 => ?_)
            have hz_67 : iv 0 79 z_67 := iv_of ez_67 (MI_a hI 43 hvx (by decide))
            refine lv_goto (tgt := 151) hx hb dX13_worked_125 (by decide) ?_
            have hb9 : z_67.toInt < (sg 41).toInt := (by rw [ez_67]; exact hdoc.1.2.2.1.1 _ hxe (by rw [← ez_1]; exact congrArg Int32.toInt c_50))
            have hAS : ASK ws wg wl x.toNatClampNeg z_67.toInt := (by have q5 := ASK_b hWK (fun q => absurd q.1 (show ¬ hol9 rg x.toNatClampNeg from hol_n (show ¬ rg 26 x.toNatClampNeg = 4 from (by rw [rwz9 hRW (by decide) ez_1]; exact fun q => absurd (congrArg Int32.toInt q) (by show ¬ _ = (4 : Int); have := i32_0; have := i32_1; have := i32_2; have := i32_m1; have := (hvx).1; have := (hvx).2; have := (hvsl).1; have := (hvsl).2; have := (hvit).1; have := (hvit).2; have := (h_66).1; have := (h_66).2; have := (hz_67).1; have := (hz_67).2; omega))) (show ¬ rg 26 x.toNatClampNeg = 5 from (by rw [rwz9 hRW (by decide) ez_1]; exact fun q => absurd (congrArg Int32.toInt q) (by show ¬ _ = (5 : Int); have := i32_0; have := i32_1; have := i32_2; have := i32_m1; have := (hvx).1; have := (hvx).2; have := (hvsl).1; have := (hvsl).2; have := (hvit).1; have := (hvit).2; have := (h_66).1; have := (h_66).2; have := (hz_67).1; have := (hz_67).2; omega))))) (show rg 26 x.toNatClampNeg = 3 from (by rw [rwz9 hRW (by decide) ez_1]; exact Int32.toInt_inj.mp (by show _ = (3 : Int); have := i32_0; have := i32_1; have := i32_2; have := i32_m1; have := (hvx).1; have := (hvx).2; have := (hvsl).1; have := (hvsl).2; have := (hvit).1; have := (hvit).2; have := (h_66).1; have := (h_66).2; have := (hz_67).1; have := (hz_67).2; omega))); rw [rwz9 hRW (by decide) ez_67] at q5; exact q5)
            refine lv_istore (lv' := [(5, .int z_67), (4, .int 0), (0, .ref h0), (1, .int x), (2, .int sl), (3, .int it)]) hx hb dX13_worked_151 hl (by decide) rfl (fun ls hl => ?_)
            refine lv_aload_n hx hb dX13_worked_153 rfl (lv_at hl 2 rfl) ?_
            refine lv_iload hx hb dX13_worked_154 (lv_at hl 0 rfl) ?_
            refine mr_calli (rest := []) ⟨hx, hb, hml, hown, htb⟩ (f_gets9 l dC dI h0 ad cid sg gm lg z_67 ws wg wl rs rg S hI (iv_w hz_67 (by decide)) hb9 hgi hpi hRW hRS hBR hRR h510) (cwV 1 htb (gd_V kw_1158 kw_1159 kw_1160 kw_5 kw_1603) rfl rfl rfl (by decide +kernel) ⟨Nat.le_of_ble_eq_true rfl, Nat.le_of_ble_eq_true rfl⟩) rfl hl.1 rfl (Nat.le_of_ble_eq_true rfl) dX13_worked_156 ⟨Nat.zero_le _, Nat.zero_le _⟩ hK hP hD hS hA (fun r_68 u_69 H locs hw hP hD hS => ?_)
            obtain ⟨sgv_70, gmv_70, lgv_70, rfl, hIv_70, ksv_70, kgv_70, klv_70, hr_68, fGI_r_68, fGt_r_68, fG9_r_68⟩ := hw
            obtain rfl := KS_nil klv_70
            have hP : va_P (dC, dI) vwCl (mW h0 ad cid sgv_70 gmv_70 lg) H := hP
            have hD : va_D A (mW h0 ad cid sgv_70 gmv_70 lg) := hD
            refine lv_if_ne (tgt := 164) hx hb dX13_worked_159 (by decide) (fun c_71 => ?_) (fun c_71 => ?_)
            · have h_72 : iv 1 1 r_68 := iv_neL c_71 hr_68 (by decide)
              refine lv_aload_n hx hb dX13_worked_164 rfl (lv_at hl 2 rfl) ?_
              obtain ⟨hg0, hg1⟩ : 0 ≤ (sgv_70 74).toInt ∧ SAMEP sg gm sgv_70 gmv_70 := by { rcases fGt_r_68 with ⟨_, q9, q8⟩ | ⟨q9, _⟩; exact ⟨q9, q8⟩; exact absurd (Int32.toInt_inj.mp q9) c_71 }
              have h165 : iv 0 59 (sgv_70 74) := ⟨hg0, (show iv (-1) 59 (sgv_70 74) from MI_s hIv_70 74).2⟩
              refine lv_iload_n hx hb dX13_worked_165 rfl (lv_at hl 4 rfl) ?_
              refine lv_iload_n hx hb dX13_worked_166 rfl (lv_at hl 5 rfl) ?_
              refine lv_iconst (v := 1) hx hb dX13_worked_167 (by decide) ?_
              refine lv_aload_n hx hb dX13_worked_168 rfl (lv_at hl 2 rfl) ?_
              refine mr_get (v := .int (sgv_70 74)) hx hb htb inX13 hown hK hP 74 (by decide) (htb _ kw_1161) rfl dX13_worked_169 ?_
              refine mr_callv (rest := []) ⟨hx, hb, hml, hown, htb⟩ (f_keep9 l dC dI h0 ad cid sgv_70 gmv_70 lg sl it 1 (sgv_70 74) hIv_70 hvsl hvit (iv_w (iv_k (by decide) : iv 1 1 1) (by decide)) (iv_w h165 (by decide)) (fGI_r_68.1) (vok_1 (h165).2)) (cwV 4 htb (gd_V kw_1180 kw_1181 kw_1182 kw_5 kw_1610) rfl rfl rfl (by decide +kernel) ⟨Nat.le_of_ble_eq_true rfl, Nat.le_of_ble_eq_true rfl⟩) rfl hl.1 rfl (Nat.le_of_ble_eq_true rfl) dX13_worked_172 ⟨Nat.zero_le _, Nat.zero_le _⟩ hK hP hD hS hA (fun u_74 H locs hw hP hD hS => ?_)
              obtain ⟨sgv_75, gmv_75, lgv_75, rfl, hIv_75, ksv_75, kgv_75, klv_75, fV_r_73, fK_r_73⟩ := hw
              obtain rfl := KS_nil ksv_75
              obtain rfl := KS_nil klv_75
              have hP : va_P (dC, dI) vwCl (mW h0 ad cid sgv_70 gmv_75 lg) H := hP
              have hD : va_D A (mW h0 ad cid sgv_70 gmv_75 lg) := hD
              refine lv_iconst (v := 1) hx hb dX13_worked_175 (by decide) ?_
              exact W.zret (v := 1) hx hb hr (iv_nb (iv_w (iv_k (by decide) : iv 1 1 1) (by decide))) (fun t ht hW => ⟨⟨1, (sgv_70, gmv_75, lg), rfl, ⟨sgv_70, gmv_75, lg, rfl, hIv_75, (KS_tr (L := [51, 52, 63, 74]) KS_rf ksv_70 (by decide)), (KS_tr (L := [62, 64, 65, 66, 67, 68, 69, 70, 71, 72, 73]) (KS_tr (L := [62, 64, 65, 66, 67, 68, 69, 70, 71, 72, 73]) KS_rf kgv_70 (by decide)) kgv_75 (by decide)), KS_rf, (iv_w (iv_k (by decide) : iv 1 1 1) (by decide)), (GI0_k fGI_r_68 (DK_of (show KS [] sgv_70 sgv_70 from KS_rf) (show KS [70, 71, 72, 73] gmv_70 gmv_75 from (KS_tr (L := [70, 71, 72, 73]) KS_rf kgv_75 (by decide))) (show KS [] lg lg from KS_rf) (by decide) (by decide) (by decide)) ((show KS [] lg lg from KS_rf) 1 (by decide)) ((show KS [70, 71, 72, 73] gmv_70 gmv_75 from (KS_tr (L := [70, 71, 72, 73]) KS_rf kgv_75 (by decide))) 60 (by decide)) ((show KS [70, 71, 72, 73] gmv_70 gmv_75 from (KS_tr (L := [70, 71, 72, 73]) KS_rf kgv_75 (by decide))) 61 (by decide)) ((show KS [70, 71, 72, 73] gmv_70 gmv_75 from (KS_tr (L := [70, 71, 72, 73]) KS_rf kgv_75 (by decide))) 62 (by decide)) (fV_r_73) ((show KS [] sgv_70 sgv_70 from KS_rf) 50 (by decide))), (Or.inl ⟨rfl, SAMEP_tr hg1 ⟨((show KS [] sgv_70 sgv_70 from KS_rf) 63 (by decide)), ((show KS [70, 71, 72, 73] gmv_70 gmv_75 from (KS_tr (L := [70, 71, 72, 73]) KS_rf kgv_75 (by decide))) 62 (by decide)), ((show KS [70, 71, 72, 73] gmv_70 gmv_75 from (KS_tr (L := [70, 71, 72, 73]) KS_rf kgv_75 (by decide))) 64 (by decide)), ((show KS [70, 71, 72, 73] gmv_70 gmv_75 from (KS_tr (L := [70, 71, 72, 73]) KS_rf kgv_75 (by decide))) 65 (by decide)), ((show KS [70, 71, 72, 73] gmv_70 gmv_75 from (KS_tr (L := [70, 71, 72, 73]) KS_rf kgv_75 (by decide))) 66 (by decide)), ((show KS [70, 71, 72, 73] gmv_70 gmv_75 from (KS_tr (L := [70, 71, 72, 73]) KS_rf kgv_75 (by decide))) 67 (by decide)), ((show KS [70, 71, 72, 73] gmv_70 gmv_75 from (KS_tr (L := [70, 71, 72, 73]) KS_rf kgv_75 (by decide))) 68 (by decide)), ((show KS [70, 71, 72, 73] gmv_70 gmv_75 from (KS_tr (L := [70, 71, 72, 73]) KS_rf kgv_75 (by decide))) 69 (by decide)), ((show KS [] sgv_70 sgv_70 from KS_rf) 51 (by decide))⟩⟩), (Or.inl ⟨rfl, ((fG9_r_68.resolve_left (fun q => absurd q.1 (by have := i32_0; have := i32_1; have := i32_2; have := i32_m1; have := (hvx).1; have := (hvx).2; have := (hvsl).1; have := (hvsl).2; have := (hvit).1; have := (hvit).2; have := (h_66).1; have := (h_66).2; have := (hz_67).1; have := (hz_67).2; have := (h_72).1; have := (h_72).2; have := (h165).1; have := (h165).2; omega))).resolve_right (fun q => absurd q.1 (by have := i32_0; have := i32_1; have := i32_2; have := i32_m1; have := (hvx).1; have := (hvx).2; have := (hvsl).1; have := (hvsl).2; have := (hvit).1; have := (hvit).2; have := (h_66).1; have := (h_66).2; have := (hz_67).1; have := (hz_67).2; have := (h_72).1; have := (h_72).2; have := (h165).1; have := (h165).2; omega))).2.1, (RR_ks (L := []) (M := [70, 71, 72, 73]) ((fG9_r_68.resolve_left (fun q => absurd q.1 (by have := i32_0; have := i32_1; have := i32_2; have := i32_m1; have := (hvx).1; have := (hvx).2; have := (hvsl).1; have := (hvsl).2; have := (hvit).1; have := (hvit).2; have := (h_66).1; have := (h_66).2; have := (hz_67).1; have := (hz_67).2; have := (h_72).1; have := (h_72).2; have := (h165).1; have := (h165).2; omega))).resolve_right (fun q => absurd q.1 (by have := i32_0; have := i32_1; have := i32_2; have := i32_m1; have := (hvx).1; have := (hvx).2; have := (hvsl).1; have := (hvsl).2; have := (hvit).1; have := (hvit).2; have := (h_66).1; have := (h_66).2; have := (hz_67).1; have := (hz_67).2; have := (h_72).1; have := (h_72).2; have := (h165).1; have := (h165).2; omega))).2.2.1 KS_rf (show KS [70, 71, 72, 73] gmv_70 gmv_75 from (KS_tr (L := [70, 71, 72, 73]) KS_rf kgv_75 (by decide))) (by decide) (by decide)), VL_o (show KP9 gmv_70 gmv_75 sl.toNatClampNeg it 1 (sgv_70 74) from fK_r_73.imp (fun q => ⟨q.1, q.2.1, q.2.2.1⟩) (fun q => ⟨q.1, q.2.2.2.1, q.2.2.2.2⟩)) (by decide) hAS ((fG9_r_68.resolve_left (fun q => absurd q.1 (by have := i32_0; have := i32_1; have := i32_2; have := i32_m1; have := (hvx).1; have := (hvx).2; have := (hvsl).1; have := (hvsl).2; have := (hvit).1; have := (hvit).2; have := (h_66).1; have := (h_66).2; have := (hz_67).1; have := (hz_67).2; have := (h_72).1; have := (h_72).2; have := (h165).1; have := (h165).2; omega))).resolve_right (fun q => absurd q.1 (by have := i32_0; have := i32_1; have := i32_2; have := i32_m1; have := (hvx).1; have := (hvx).2; have := (hvsl).1; have := (hvsl).2; have := (hvit).1; have := (hvit).2; have := (h_66).1; have := (h_66).2; have := (hz_67).1; have := (hz_67).2; have := (h_72).1; have := (h_72).2; have := (h165).1; have := (h165).2; omega))).2.2.2 (gt_v hWF (((fG9_r_68.resolve_left (fun q => absurd q.1 (by have := i32_0; have := i32_1; have := i32_2; have := i32_m1; have := (hvx).1; have := (hvx).2; have := (hvsl).1; have := (hvsl).2; have := (hvit).1; have := (hvit).2; have := (h_66).1; have := (h_66).2; have := (hz_67).1; have := (hz_67).2; have := (h_72).1; have := (h_72).2; have := (h165).1; have := (h165).2; omega))).resolve_right (fun q => absurd q.1 (by have := i32_0; have := i32_1; have := i32_2; have := i32_m1; have := (hvx).1; have := (hvx).2; have := (hvsl).1; have := (hvsl).2; have := (hvit).1; have := (hvit).2; have := (h_66).1; have := (h_66).2; have := (hz_67).1; have := (hz_67).2; have := (h_72).1; have := (h_72).2; have := (h165).1; have := (h165).2; omega))).2.2.2 0)), _, _, (KP8_b fK_r_73 ⟨(kgv_70 70 (by decide)), (kgv_70 71 (by decide)), (kgv_70 72 (by decide)), (kgv_70 73 (by decide))⟩)⟩)⟩, by rw [ht]; exact hP, va_K.moved hW.alike hK, hD⟩, hS.F ht⟩) hS.2.2 dX13_worked_176
            · have h_76 : iv 0 0 r_68 := iv_eq c_71 hr_68 (iv_k (by decide) : iv 0 0 0) (by decide)
              refine lv_iconst (v := 0) hx hb dX13_worked_162 (by decide) ?_
              exact W.zret (v := 0) hx hb hr (iv_nb (iv_w (iv_k (by decide) : iv 0 0 0) (by decide))) (fun t ht hW => ⟨⟨0, (sgv_70, gmv_70, lg), rfl, ⟨sgv_70, gmv_70, lg, rfl, hIv_70, (KS_tr (L := [51, 52, 63, 74]) KS_rf ksv_70 (by decide)), (KS_tr (L := [62, 64, 65, 66, 67, 68, 69, 70, 71, 72, 73]) KS_rf kgv_70 (by decide)), KS_rf, (iv_w (iv_k (by decide) : iv 0 0 0) (by decide)), (fGI_r_68), (Or.inr ⟨rfl, by { rcases fGt_r_68 with ⟨q9, _⟩ | ⟨_, q9⟩; exact absurd (congrArg Int32.toInt c_71) (by rw [q9]; decide); exact q9 }⟩), ((by rcases fG9_r_68 with q | q | q; (exact Or.inr (Or.inl ⟨rfl, q.2.1, q.2.2.1, hAS.1, fun n9 => (hAS.2 n9 S).trans (q.2.2.2 n9)⟩)); (exact absurd q.1 (by have := i32_0; have := i32_1; have := i32_2; have := i32_m1; have := (hvx).1; have := (hvx).2; have := (hvsl).1; have := (hvsl).2; have := (hvit).1; have := (hvit).2; have := (h_66).1; have := (h_66).2; have := (hz_67).1; have := (hz_67).2; have := (h_76).1; have := (h_76).2; omega)); (exact Or.inr (Or.inr ⟨rfl, ⟨(kgv_70 70 (by decide)), (kgv_70 71 (by decide)), (kgv_70 72 (by decide)), (kgv_70 73 (by decide))⟩, q.2.1, hAS.1, z_67, ⟨q.2.2.1, (hz_67).2⟩, hb9, q.2.2.2.1, q.2.2.2.2.1, fun n9 => (hAS.2 n9 S).trans (q.2.2.2.2.2.1 n9), q.2.2.2.2.2.2.1, q.2.2.2.2.2.2.2⟩))))⟩, by rw [ht]; exact hP, va_K.moved hW.alike hK, hD⟩, hS.F ht⟩) hS.2.2 dX13_worked_163
        · have h_77 : iv 9 9 z_1 := iv_eq c_47 hz_1 (iv_k (by decide) : iv 9 9 9) (by decide)
          refine lv_aload_n hx hb dX13_worked_98 rfl (lv_at hl 1 rfl) ?_
          refine lv_iload_n hx hb dX13_worked_99 rfl (lv_at hl 3 rfl) ?_
          refine lv_iload_n hx hb dX13_worked_100 rfl (lv_at hl 4 rfl) ?_
          refine lv_iconst (v := 2) hx hb dX13_worked_101 (by decide) ?_
          refine lv_iconst (v := 0) hx hb dX13_worked_102 (by decide) ?_
          refine mr_callv (rest := []) ⟨hx, hb, hml, hown, htb⟩ (f_keep9 l dC dI h0 ad cid sg gm lg sl it 2 0 hI hvsl hvit (iv_w (iv_k (by decide) : iv 2 2 2) (by decide)) (iv_w (iv_k (by decide) : iv 0 0 0) (by decide)) hgi.1 vok_2) (cwV 4 htb (gd_V kw_1180 kw_1181 kw_1182 kw_5 kw_1610) rfl rfl rfl (by decide +kernel) ⟨Nat.le_of_ble_eq_true rfl, Nat.le_of_ble_eq_true rfl⟩) rfl hl.1 rfl (Nat.le_of_ble_eq_true rfl) dX13_worked_103 ⟨Nat.zero_le _, Nat.zero_le _⟩ hK hP hD hS hA (fun u_79 H locs hw hP hD hS => ?_)
          obtain ⟨sgv_80, gmv_80, lgv_80, rfl, hIv_80, ksv_80, kgv_80, klv_80, fV_r_78, fK_r_78⟩ := hw
          obtain rfl := KS_nil ksv_80
          obtain rfl := KS_nil klv_80
          have hP : va_P (dC, dI) vwCl (mW h0 ad cid sg gmv_80 lg) H := hP
          have hD : va_D A (mW h0 ad cid sg gmv_80 lg) := hD
          refine lv_goto (tgt := 175) hx hb dX13_worked_106 (by decide) ?_
          refine lv_iconst (v := 1) hx hb dX13_worked_175 (by decide) ?_
          exact W.zret (v := 1) hx hb hr (iv_nb (iv_w (iv_k (by decide) : iv 1 1 1) (by decide))) (fun t ht hW => ⟨⟨1, (sg, gmv_80, lg), rfl, ⟨sg, gmv_80, lg, rfl, hIv_80, KS_rf, (KS_tr (L := [62, 64, 65, 66, 67, 68, 69, 70, 71, 72, 73]) KS_rf kgv_80 (by decide)), KS_rf, (iv_w (iv_k (by decide) : iv 1 1 1) (by decide)), (GI0_k hgi (DK_of (show KS [] sg sg from KS_rf) (show KS [70, 71, 72, 73] gm gmv_80 from (KS_tr (L := [70, 71, 72, 73]) KS_rf kgv_80 (by decide))) (show KS [] lg lg from KS_rf) (by decide) (by decide) (by decide)) ((show KS [] lg lg from KS_rf) 1 (by decide)) ((show KS [70, 71, 72, 73] gm gmv_80 from (KS_tr (L := [70, 71, 72, 73]) KS_rf kgv_80 (by decide))) 60 (by decide)) ((show KS [70, 71, 72, 73] gm gmv_80 from (KS_tr (L := [70, 71, 72, 73]) KS_rf kgv_80 (by decide))) 61 (by decide)) ((show KS [70, 71, 72, 73] gm gmv_80 from (KS_tr (L := [70, 71, 72, 73]) KS_rf kgv_80 (by decide))) 62 (by decide)) (fV_r_78) ((show KS [] sg sg from KS_rf) 50 (by decide))), (Or.inl ⟨rfl, ⟨((show KS [] sg sg from KS_rf) 63 (by decide)), ((show KS [70, 71, 72, 73] gm gmv_80 from (KS_tr (L := [70, 71, 72, 73]) KS_rf kgv_80 (by decide))) 62 (by decide)), ((show KS [70, 71, 72, 73] gm gmv_80 from (KS_tr (L := [70, 71, 72, 73]) KS_rf kgv_80 (by decide))) 64 (by decide)), ((show KS [70, 71, 72, 73] gm gmv_80 from (KS_tr (L := [70, 71, 72, 73]) KS_rf kgv_80 (by decide))) 65 (by decide)), ((show KS [70, 71, 72, 73] gm gmv_80 from (KS_tr (L := [70, 71, 72, 73]) KS_rf kgv_80 (by decide))) 66 (by decide)), ((show KS [70, 71, 72, 73] gm gmv_80 from (KS_tr (L := [70, 71, 72, 73]) KS_rf kgv_80 (by decide))) 67 (by decide)), ((show KS [70, 71, 72, 73] gm gmv_80 from (KS_tr (L := [70, 71, 72, 73]) KS_rf kgv_80 (by decide))) 68 (by decide)), ((show KS [70, 71, 72, 73] gm gmv_80 from (KS_tr (L := [70, 71, 72, 73]) KS_rf kgv_80 (by decide))) 69 (by decide)), ((show KS [] sg sg from KS_rf) 51 (by decide))⟩⟩), (Or.inl ⟨rfl, h510, (RR_ks (L := []) (M := [70, 71, 72, 73]) hRR KS_rf (KS_tr (L := [70, 71, 72, 73]) KS_rf kgv_80 (by decide)) (by decide) (by decide)), VL_n (show KP9 gm gmv_80 sl.toNatClampNeg it 2 0 from fK_r_78.imp (fun q => ⟨q.1, q.2.1, q.2.2.1⟩) (fun q => ⟨q.1, q.2.2.2.1, q.2.2.2.2⟩)) (by decide) (hWK.2.2.1 (fun q => absurd q.1 (show ¬ hol9 rg x.toNatClampNeg from hol_n (show ¬ rg 26 x.toNatClampNeg = 4 from (by rw [rwz9 hRW (by decide) ez_1]; exact fun q => absurd (congrArg Int32.toInt q) (by show ¬ _ = (4 : Int); have := i32_0; have := i32_1; have := i32_2; have := i32_m1; have := (hvx).1; have := (hvx).2; have := (hvsl).1; have := (hvsl).2; have := (hvit).1; have := (hvit).2; have := (h_77).1; have := (h_77).2; omega))) (show ¬ rg 26 x.toNatClampNeg = 5 from (by rw [rwz9 hRW (by decide) ez_1]; exact fun q => absurd (congrArg Int32.toInt q) (by show ¬ _ = (5 : Int); have := i32_0; have := i32_1; have := i32_2; have := i32_m1; have := (hvx).1; have := (hvx).2; have := (hvsl).1; have := (hvsl).2; have := (hvit).1; have := (hvit).2; have := (h_77).1; have := (h_77).2; omega))))) (show rg 26 x.toNatClampNeg = 9 from (by rw [rwz9 hRW (by decide) ez_1]; exact Int32.toInt_inj.mp (by show _ = (9 : Int); have := i32_0; have := i32_1; have := i32_2; have := i32_m1; have := (hvx).1; have := (hvx).2; have := (hvsl).1; have := (hvsl).2; have := (hvit).1; have := (hvit).2; have := (h_77).1; have := (h_77).2; omega)))), _, _, fK_r_78⟩)⟩, by rw [ht]; exact hP, va_K.moved hW.alike hK, hD⟩, hS.F ht⟩) hS.2.2 dX13_worked_176
      · have h_81 : iv 7 7 z_1 := iv_eq c_44 hz_1 (iv_k (by decide) : iv 7 7 7) (by decide)
        refine lv_aload_n hx hb dX13_worked_72 rfl (lv_at hl 1 rfl) ?_
        refine lv_iload_n hx hb dX13_worked_73 rfl (lv_at hl 3 rfl) ?_
        refine lv_iload_n hx hb dX13_worked_74 rfl (lv_at hl 4 rfl) ?_
        refine lv_iconst (v := 0) hx hb dX13_worked_75 (by decide) ?_
        refine lv_sipush (v := 1000) hx hb dX13_worked_76 (by decide) ?_
        refine lv_iload_n hx hb dX13_worked_79 rfl (lv_at hl 2 rfl) ?_
        refine lv_iadd hx hb dX13_worked_80 ?_
        refine lv_topi (fun z_82 ez_82 => ?_)
        have hz_82 : iv 1000 1079 z_82 := iv_of ez_82 (iv_add (iv_k (by decide) : iv 1000 1000 1000) hvx (by decide))
        have tz_82 : z_82.toInt = 1000 + (x : Int32).toInt := by rw [ez_82]; exact iv_addE (iv_k (by decide) : iv 1000 1000 1000) hvx (by decide)
        refine mr_callv (rest := []) ⟨hx, hb, hml, hown, htb⟩ (f_keep9 l dC dI h0 ad cid sg gm lg sl it 0 z_82 hI hvsl hvit (iv_w (iv_k (by decide) : iv 0 0 0) (by decide)) (iv_w hz_82 (by decide)) hgi.1 (vok_0 (Or.inr (by have := (hz_82).1; omega)))) (cwV 4 htb (gd_V kw_1180 kw_1181 kw_1182 kw_5 kw_1610) rfl rfl rfl (by decide +kernel) ⟨Nat.le_of_ble_eq_true rfl, Nat.le_of_ble_eq_true rfl⟩) rfl hl.1 rfl (Nat.le_of_ble_eq_true rfl) dX13_worked_81 ⟨Nat.zero_le _, Nat.zero_le _⟩ hK hP hD hS hA (fun u_84 H locs hw hP hD hS => ?_)
        obtain ⟨sgv_85, gmv_85, lgv_85, rfl, hIv_85, ksv_85, kgv_85, klv_85, fV_r_83, fK_r_83⟩ := hw
        obtain rfl := KS_nil ksv_85
        obtain rfl := KS_nil klv_85
        have hP : va_P (dC, dI) vwCl (mW h0 ad cid sg gmv_85 lg) H := hP
        have hD : va_D A (mW h0 ad cid sg gmv_85 lg) := hD
        refine lv_goto (tgt := 175) hx hb dX13_worked_84 (by decide) ?_
        refine lv_iconst (v := 1) hx hb dX13_worked_175 (by decide) ?_
        exact W.zret (v := 1) hx hb hr (iv_nb (iv_w (iv_k (by decide) : iv 1 1 1) (by decide))) (fun t ht hW => ⟨⟨1, (sg, gmv_85, lg), rfl, ⟨sg, gmv_85, lg, rfl, hIv_85, KS_rf, (KS_tr (L := [62, 64, 65, 66, 67, 68, 69, 70, 71, 72, 73]) KS_rf kgv_85 (by decide)), KS_rf, (iv_w (iv_k (by decide) : iv 1 1 1) (by decide)), (GI0_k hgi (DK_of (show KS [] sg sg from KS_rf) (show KS [70, 71, 72, 73] gm gmv_85 from (KS_tr (L := [70, 71, 72, 73]) KS_rf kgv_85 (by decide))) (show KS [] lg lg from KS_rf) (by decide) (by decide) (by decide)) ((show KS [] lg lg from KS_rf) 1 (by decide)) ((show KS [70, 71, 72, 73] gm gmv_85 from (KS_tr (L := [70, 71, 72, 73]) KS_rf kgv_85 (by decide))) 60 (by decide)) ((show KS [70, 71, 72, 73] gm gmv_85 from (KS_tr (L := [70, 71, 72, 73]) KS_rf kgv_85 (by decide))) 61 (by decide)) ((show KS [70, 71, 72, 73] gm gmv_85 from (KS_tr (L := [70, 71, 72, 73]) KS_rf kgv_85 (by decide))) 62 (by decide)) (fV_r_83) ((show KS [] sg sg from KS_rf) 50 (by decide))), (Or.inl ⟨rfl, ⟨((show KS [] sg sg from KS_rf) 63 (by decide)), ((show KS [70, 71, 72, 73] gm gmv_85 from (KS_tr (L := [70, 71, 72, 73]) KS_rf kgv_85 (by decide))) 62 (by decide)), ((show KS [70, 71, 72, 73] gm gmv_85 from (KS_tr (L := [70, 71, 72, 73]) KS_rf kgv_85 (by decide))) 64 (by decide)), ((show KS [70, 71, 72, 73] gm gmv_85 from (KS_tr (L := [70, 71, 72, 73]) KS_rf kgv_85 (by decide))) 65 (by decide)), ((show KS [70, 71, 72, 73] gm gmv_85 from (KS_tr (L := [70, 71, 72, 73]) KS_rf kgv_85 (by decide))) 66 (by decide)), ((show KS [70, 71, 72, 73] gm gmv_85 from (KS_tr (L := [70, 71, 72, 73]) KS_rf kgv_85 (by decide))) 67 (by decide)), ((show KS [70, 71, 72, 73] gm gmv_85 from (KS_tr (L := [70, 71, 72, 73]) KS_rf kgv_85 (by decide))) 68 (by decide)), ((show KS [70, 71, 72, 73] gm gmv_85 from (KS_tr (L := [70, 71, 72, 73]) KS_rf kgv_85 (by decide))) 69 (by decide)), ((show KS [] sg sg from KS_rf) 51 (by decide))⟩⟩), (Or.inl ⟨rfl, h510, (RR_ks (L := []) (M := [70, 71, 72, 73]) hRR KS_rf (KS_tr (L := [70, 71, 72, 73]) KS_rf kgv_85 (by decide)) (by decide) (by decide)), (by obtain ⟨h7, T9, hs9, ht9⟩ := hWK.2.1 (fun q => absurd q.1 (show ¬ hol9 rg x.toNatClampNeg from hol_n (show ¬ rg 26 x.toNatClampNeg = 4 from (by rw [rwz9 hRW (by decide) ez_1]; exact fun q => absurd (congrArg Int32.toInt q) (by show ¬ _ = (4 : Int); have := i32_0; have := i32_1; have := i32_2; have := i32_m1; have := (hvx).1; have := (hvx).2; have := (hvsl).1; have := (hvsl).2; have := (hvit).1; have := (hvit).2; have := (h_81).1; have := (h_81).2; have := (hz_82).1; have := (hz_82).2; omega))) (show ¬ rg 26 x.toNatClampNeg = 5 from (by rw [rwz9 hRW (by decide) ez_1]; exact fun q => absurd (congrArg Int32.toInt q) (by show ¬ _ = (5 : Int); have := i32_0; have := i32_1; have := i32_2; have := i32_m1; have := (hvx).1; have := (hvx).2; have := (hvsl).1; have := (hvsl).2; have := (hvit).1; have := (hvit).2; have := (h_81).1; have := (h_81).2; have := (hz_82).1; have := (hz_82).2; omega))))) (show rg 26 x.toNatClampNeg = 7 from (by rw [rwz9 hRW (by decide) ez_1]; exact Int32.toInt_inj.mp (by show _ = (7 : Int); have := i32_0; have := i32_1; have := i32_2; have := i32_m1; have := (hvx).1; have := (hvx).2; have := (hvsl).1; have := (hvsl).2; have := (hvit).1; have := (hvit).2; have := (h_81).1; have := (h_81).2; have := (hz_82).1; have := (hz_82).2; omega))); rw [show nI (1000 + x.toNatClampNeg) = z_82 from Int32.toInt_inj.mp (by rw [nI_toInt (by have q1 : x.toNatClampNeg = x.toInt.toNat := rfl; have := i32_0; have := i32_1; have := i32_2; have := i32_m1; have := (hvx).1; have := (hvx).2; have := (hvsl).1; have := (hvsl).2; have := (hvit).1; have := (hvit).2; have := (h_81).1; have := (h_81).2; have := (hz_82).1; have := (hz_82).2; omega)]; have q1 : x.toNatClampNeg = x.toInt.toNat := rfl; have := i32_0; have := i32_1; have := i32_2; have := i32_m1; have := (hvx).1; have := (hvx).2; have := (hvsl).1; have := (hvsl).2; have := (hvit).1; have := (hvit).2; have := (h_81).1; have := (h_81).2; have := (hz_82).1; have := (hz_82).2; omega)] at hs9; exact VL_t (show KP9 gm gmv_85 sl.toNatClampNeg it 0 z_82 from fK_r_83.imp (fun q => ⟨q.1, q.2.1, q.2.2.1⟩) (fun q => ⟨q.1, q.2.2.2.1, q.2.2.2.2⟩)) (by decide) h7 hs9 ht9), _, _, fK_r_83⟩)⟩, by rw [ht]; exact hP, va_K.moved hW.alike hK, hD⟩, hS.F ht⟩) hS.2.2 dX13_worked_176
    · have h_86 : iv 5 5 z_1 := iv_eq c_40 hz_1 (iv_k (by decide) : iv 5 5 5) (by decide)
      refine lv_iconst (v := 1) hx hb dX13_worked_20 (by decide) ?_
      refine lv_goto (tgt := 25) hx hb dX13_worked_21 (by decide) ?_
      refine lv_istore (lv' := [(4, .int 1), (0, .ref h0), (1, .int x), (2, .int sl), (3, .int it)]) hx hb dX13_worked_25 hl (by decide) rfl (fun ls hl => ?_)
      refine lv_iload hx hb dX13_worked_27 (lv_at hl 0 rfl) ?_
      refine lv_if_eq (tgt := 61) hx hb dX13_worked_29 (by decide) (fun c_87 => absurd c_87 (by decide)) (fun _ => ?_)
      refine lv_aload_n hx hb dX13_worked_32 rfl (lv_at hl 1 rfl) ?_
      refine lv_iload_n hx hb dX13_worked_33 rfl (lv_at hl 2 rfl) ?_
      refine lv_ldc2 (own := RX13) (v := 508440638821) hx hb hown (htb _ kw_140) dX13_worked_34 ?_
      refine mr_calli (rest := []) ⟨hx, hb, hml, hown, htb⟩ (f_has l dC dI h0 ad cid sg gm lg x 508440638821 hI hvx) (cwV 2 htb (gd_V kw_916 kw_917 kw_918 kw_5 kw_1543) rfl rfl rfl (by decide +kernel) ⟨Nat.le_of_ble_eq_true rfl, Nat.le_of_ble_eq_true rfl⟩) rfl hl.1 rfl (Nat.le_of_ble_eq_true rfl) dX13_worked_37 ⟨Nat.zero_le _, Nat.zero_le _⟩ hK hP hD hS hA (fun r_88 u_89 H locs hw hP hD hS => ?_)
      obtain ⟨hr_88, fH_r_88, rfl⟩ := hw
      have hP : va_P (dC, dI) vwCl (mW h0 ad cid sg gm lg) H := hP
      have hD : va_D A (mW h0 ad cid sg gm lg) := hD
      refine lv_if_eq (tgt := 61) hx hb dX13_worked_40 (by decide) (fun c_90 => ?_) (fun c_90 => ?_)
      · have h_91 : iv 0 0 r_88 := iv_eq c_90 hr_88 (iv_k (by decide) : iv 0 0 0) (by decide)
        refine lv_aload_n hx hb dX13_worked_61 rfl (lv_at hl 1 rfl) ?_
        refine mr_get (v := .ref (ad 26)) hx hb htb inX13 hown hK hP 26 (by decide) (htb _ kw_182) rfl dX13_worked_62 ?_
        refine lv_iload_n hx hb dX13_worked_65 rfl (lv_at hl 2 rfl) ?_
        refine mr_iald hx hb hK hP 19 (k := 26) rfl rfl rfl (show vp_in x 80 from (iv_in hvx (by decide))) dX13_worked_66 ?_
        refine lv_topi (fun z_92 ez_92 => ?_)
        obtain rfl : z_1 = z_92 := ez_1.trans ez_92.symm
        refine lv_bipush (v := 7) hx hb dX13_worked_67 (by decide) ?_
        refine lv_icmp_ne (tgt := 87) hx hb dX13_worked_69 (by decide) (fun c_93 => ?_) (fun c_93 => ?_)
        · refine lv_aload_n hx hb dX13_worked_87 rfl (lv_at hl 1 rfl) ?_
          refine mr_get (v := .ref (ad 26)) hx hb htb inX13 hown hK hP 26 (by decide) (htb _ kw_182) rfl dX13_worked_88 ?_
          refine lv_iload_n hx hb dX13_worked_91 rfl (lv_at hl 2 rfl) ?_
          refine mr_iald hx hb hK hP 19 (k := 26) rfl rfl rfl (show vp_in x 80 from (iv_in hvx (by decide))) dX13_worked_92 ?_
          refine lv_topi (fun z_94 ez_94 => ?_)
          obtain rfl : z_1 = z_94 := ez_1.trans ez_94.symm
          refine lv_bipush (v := 9) hx hb dX13_worked_93 (by decide) ?_
          refine lv_icmp_ne (tgt := 109) hx hb dX13_worked_95 (by decide) (fun c_95 => ?_) (fun c_95 => ?_)
          · refine lv_aload_n hx hb dX13_worked_109 rfl (lv_at hl 1 rfl) ?_
            refine mr_get (v := .ref (ad 26)) hx hb htb inX13 hown hK hP 26 (by decide) (htb _ kw_182) rfl dX13_worked_110 ?_
            refine lv_iload_n hx hb dX13_worked_113 rfl (lv_at hl 2 rfl) ?_
            refine mr_iald hx hb hK hP 19 (k := 26) rfl rfl rfl (show vp_in x 80 from (iv_in hvx (by decide))) dX13_worked_114 ?_
            refine lv_topi (fun z_96 ez_96 => ?_)
            obtain rfl : z_1 = z_96 := ez_1.trans ez_96.symm
            refine lv_iconst (v := 3) hx hb dX13_worked_115 (by decide) ?_
            refine lv_icmp_ne (tgt := 128) hx hb dX13_worked_116 (by decide) (fun c_97 => ?_) (fun c_97 => ?_)
            · refine lv_aload_n hx hb dX13_worked_128 rfl (lv_at hl 1 rfl) ?_
              refine lv_aload_n hx hb dX13_worked_129 rfl (lv_at hl 1 rfl) ?_
              refine lv_iload_n hx hb dX13_worked_130 rfl (lv_at hl 2 rfl) ?_
              refine lv_iload hx hb dX13_worked_131 (lv_at hl 0 rfl) ?_
              refine lv_if_eq (tgt := 142) hx hb dX13_worked_133 (by decide) (fun c_98 => absurd c_98 (by decide)) (fun _ => ?_)
              refine lv_ldc2 (own := RX13) (v := 7497062) hx hb hown (htb _ kw_141) dX13_worked_136 ?_
              refine lv_goto (tgt := 145) hx hb dX13_worked_139 (by decide) ?_
              refine mr_calll (rest := [.ref h0]) ⟨hx, hb, hml, hown, htb⟩ (f_word l dC dI h0 ad cid sg gm lg x 7497062 hI hvx) (cwV 2 htb (gd_V kw_923 kw_924 kw_925 kw_5 kw_1545) rfl rfl rfl (by decide +kernel) ⟨Nat.le_of_ble_eq_true rfl, Nat.le_of_ble_eq_true rfl⟩) rfl hl.1 rfl (Nat.le_of_ble_eq_true rfl) dX13_worked_145 ⟨Nat.zero_le _, Nat.zero_le _⟩ hK hP hD hS hA (fun r_99 u_100 H locs hw hP hD hS => ?_)
              obtain ⟨fW_r_99, rfl⟩ := hw
              have hP : va_P (dC, dI) vwCl (mW h0 ad cid sg gm lg) H := hP
              have hD : va_D A (mW h0 ad cid sg gm lg) := hD
              refine mr_calli (rest := []) ⟨hx, hb, hml, hown, htb⟩ (f_called9 l dC dI h0 ad cid sg gm lg r_99 hI) (cwV 1 htb (gd_V kw_1168 kw_1169 kw_1170 kw_5 kw_1606) rfl rfl rfl (by decide +kernel) ⟨Nat.le_of_ble_eq_true rfl, Nat.le_of_ble_eq_true rfl⟩) rfl hl.1 rfl (Nat.le_of_ble_eq_true rfl) dX13_worked_148 ⟨Nat.zero_le _, Nat.zero_le _⟩ hK hP hD hS hA (fun r_101 u_102 H locs hw hP hD hS => ?_)
              obtain ⟨hr_101, fLt_r_101, fCd_r_101, rfl⟩ := hw
              have hP : va_P (dC, dI) vwCl (mW h0 ad cid sg gm lg) H := hP
              have hD : va_D A (mW h0 ad cid sg gm lg) := hD
              have hb9 : r_101.toInt < (sg 41).toInt := fLt_r_101
              have hAS : ASK ws wg wl x.toNatClampNeg r_101.toInt := ASK_n hWK (fun q => q.2 (by rw [mHas_k (DK_r (lg := lg) hRW hRS).1, ← fH_r_88]; exact c_90)) (show ¬ rg 26 x.toNatClampNeg = 7 from (by rw [rwz9 hRW (by decide) ez_1]; exact fun q => absurd (congrArg Int32.toInt q) (by show ¬ _ = (7 : Int); have := i32_0; have := i32_1; have := i32_2; have := i32_m1; have := (hvx).1; have := (hvx).2; have := (hvsl).1; have := (hvsl).2; have := (hvit).1; have := (hvit).2; have := (h_86).1; have := (h_86).2; have := (h_91).1; have := (h_91).2; have := (hr_101).1; have := (hr_101).2; omega))) (show ¬ rg 26 x.toNatClampNeg = 9 from (by rw [rwz9 hRW (by decide) ez_1]; exact fun q => absurd (congrArg Int32.toInt q) (by show ¬ _ = (9 : Int); have := i32_0; have := i32_1; have := i32_2; have := i32_m1; have := (hvx).1; have := (hvx).2; have := (hvsl).1; have := (hvsl).2; have := (hvit).1; have := (hvit).2; have := (h_86).1; have := (h_86).2; have := (h_91).1; have := (h_91).2; have := (hr_101).1; have := (hr_101).2; omega))) (show ¬ rg 26 x.toNatClampNeg = 3 from (by rw [rwz9 hRW (by decide) ez_1]; exact fun q => absurd (congrArg Int32.toInt q) (by show ¬ _ = (3 : Int); have := i32_0; have := i32_1; have := i32_2; have := i32_m1; have := (hvx).1; have := (hvx).2; have := (hvsl).1; have := (hvsl).2; have := (hvit).1; have := (hvit).2; have := (h_86).1; have := (h_86).2; have := (h_91).1; have := (h_91).2; have := (hr_101).1; have := (hr_101).2; omega))) (show iv 0 80 (ws 12) from (by have q5 := hBR.1; rw [rs9_41 hRS] at q5; have q6 := (show iv 0 80 (sg 41) from MI_s hI 41); exact ⟨by rw [← q5]; exact q6.1, by rw [← q5]; exact q6.2⟩)) (by rw [if_pos (show hol9 rg x.toNatClampNeg from Or.inr (show rg 26 x.toNatClampNeg = 5 from (by rw [rwz9 hRW (by decide) ez_1]; exact Int32.toInt_inj.mp (by show _ = (5 : Int); have := i32_0; have := i32_1; have := i32_2; have := i32_m1; have := (hvx).1; have := (hvx).2; have := (hvsl).1; have := (hvsl).2; have := (hvit).1; have := (hvit).2; have := (h_86).1; have := (h_86).2; have := (h_91).1; have := (h_91).2; have := (hr_101).1; have := (hr_101).2; omega)))), mWord_k (DK_r (lg := lg) hRW hRS).1, ← fW_r_99]; unfold cdR; rw [cdF_k (DK_r (lg := lg) hRW hRS)]; exact fCd_r_101)
              refine lv_istore (lv' := [(5, .int r_101), (4, .int 1), (0, .ref h0), (1, .int x), (2, .int sl), (3, .int it)]) hx hb dX13_worked_151 hl (by decide) rfl (fun ls hl => ?_)
              refine lv_aload_n hx hb dX13_worked_153 rfl (lv_at hl 2 rfl) ?_
              refine lv_iload hx hb dX13_worked_154 (lv_at hl 0 rfl) ?_
              refine mr_calli (rest := []) ⟨hx, hb, hml, hown, htb⟩ (f_gets9 l dC dI h0 ad cid sg gm lg r_101 ws wg wl rs rg S hI hr_101 hb9 hgi hpi hRW hRS hBR hRR h510) (cwV 1 htb (gd_V kw_1158 kw_1159 kw_1160 kw_5 kw_1603) rfl rfl rfl (by decide +kernel) ⟨Nat.le_of_ble_eq_true rfl, Nat.le_of_ble_eq_true rfl⟩) rfl hl.1 rfl (Nat.le_of_ble_eq_true rfl) dX13_worked_156 ⟨Nat.zero_le _, Nat.zero_le _⟩ hK hP hD hS hA (fun r_103 u_104 H locs hw hP hD hS => ?_)
              obtain ⟨sgv_105, gmv_105, lgv_105, rfl, hIv_105, ksv_105, kgv_105, klv_105, hr_103, fGI_r_103, fGt_r_103, fG9_r_103⟩ := hw
              obtain rfl := KS_nil klv_105
              have hP : va_P (dC, dI) vwCl (mW h0 ad cid sgv_105 gmv_105 lg) H := hP
              have hD : va_D A (mW h0 ad cid sgv_105 gmv_105 lg) := hD
              refine lv_if_ne (tgt := 164) hx hb dX13_worked_159 (by decide) (fun c_106 => ?_) (fun c_106 => ?_)
              · have h_107 : iv 1 1 r_103 := iv_neL c_106 hr_103 (by decide)
                refine lv_aload_n hx hb dX13_worked_164 rfl (lv_at hl 2 rfl) ?_
                obtain ⟨hg0, hg1⟩ : 0 ≤ (sgv_105 74).toInt ∧ SAMEP sg gm sgv_105 gmv_105 := by { rcases fGt_r_103 with ⟨_, q9, q8⟩ | ⟨q9, _⟩; exact ⟨q9, q8⟩; exact absurd (Int32.toInt_inj.mp q9) c_106 }
                have h165 : iv 0 59 (sgv_105 74) := ⟨hg0, (show iv (-1) 59 (sgv_105 74) from MI_s hIv_105 74).2⟩
                refine lv_iload_n hx hb dX13_worked_165 rfl (lv_at hl 4 rfl) ?_
                refine lv_iload_n hx hb dX13_worked_166 rfl (lv_at hl 5 rfl) ?_
                refine lv_iconst (v := 1) hx hb dX13_worked_167 (by decide) ?_
                refine lv_aload_n hx hb dX13_worked_168 rfl (lv_at hl 2 rfl) ?_
                refine mr_get (v := .int (sgv_105 74)) hx hb htb inX13 hown hK hP 74 (by decide) (htb _ kw_1161) rfl dX13_worked_169 ?_
                refine mr_callv (rest := []) ⟨hx, hb, hml, hown, htb⟩ (f_keep9 l dC dI h0 ad cid sgv_105 gmv_105 lg sl it 1 (sgv_105 74) hIv_105 hvsl hvit (iv_w (iv_k (by decide) : iv 1 1 1) (by decide)) (iv_w h165 (by decide)) (fGI_r_103.1) (vok_1 (h165).2)) (cwV 4 htb (gd_V kw_1180 kw_1181 kw_1182 kw_5 kw_1610) rfl rfl rfl (by decide +kernel) ⟨Nat.le_of_ble_eq_true rfl, Nat.le_of_ble_eq_true rfl⟩) rfl hl.1 rfl (Nat.le_of_ble_eq_true rfl) dX13_worked_172 ⟨Nat.zero_le _, Nat.zero_le _⟩ hK hP hD hS hA (fun u_109 H locs hw hP hD hS => ?_)
                obtain ⟨sgv_110, gmv_110, lgv_110, rfl, hIv_110, ksv_110, kgv_110, klv_110, fV_r_108, fK_r_108⟩ := hw
                obtain rfl := KS_nil ksv_110
                obtain rfl := KS_nil klv_110
                have hP : va_P (dC, dI) vwCl (mW h0 ad cid sgv_105 gmv_110 lg) H := hP
                have hD : va_D A (mW h0 ad cid sgv_105 gmv_110 lg) := hD
                refine lv_iconst (v := 1) hx hb dX13_worked_175 (by decide) ?_
                exact W.zret (v := 1) hx hb hr (iv_nb (iv_w (iv_k (by decide) : iv 1 1 1) (by decide))) (fun t ht hW => ⟨⟨1, (sgv_105, gmv_110, lg), rfl, ⟨sgv_105, gmv_110, lg, rfl, hIv_110, (KS_tr (L := [51, 52, 63, 74]) KS_rf ksv_105 (by decide)), (KS_tr (L := [62, 64, 65, 66, 67, 68, 69, 70, 71, 72, 73]) (KS_tr (L := [62, 64, 65, 66, 67, 68, 69, 70, 71, 72, 73]) KS_rf kgv_105 (by decide)) kgv_110 (by decide)), KS_rf, (iv_w (iv_k (by decide) : iv 1 1 1) (by decide)), (GI0_k fGI_r_103 (DK_of (show KS [] sgv_105 sgv_105 from KS_rf) (show KS [70, 71, 72, 73] gmv_105 gmv_110 from (KS_tr (L := [70, 71, 72, 73]) KS_rf kgv_110 (by decide))) (show KS [] lg lg from KS_rf) (by decide) (by decide) (by decide)) ((show KS [] lg lg from KS_rf) 1 (by decide)) ((show KS [70, 71, 72, 73] gmv_105 gmv_110 from (KS_tr (L := [70, 71, 72, 73]) KS_rf kgv_110 (by decide))) 60 (by decide)) ((show KS [70, 71, 72, 73] gmv_105 gmv_110 from (KS_tr (L := [70, 71, 72, 73]) KS_rf kgv_110 (by decide))) 61 (by decide)) ((show KS [70, 71, 72, 73] gmv_105 gmv_110 from (KS_tr (L := [70, 71, 72, 73]) KS_rf kgv_110 (by decide))) 62 (by decide)) (fV_r_108) ((show KS [] sgv_105 sgv_105 from KS_rf) 50 (by decide))), (Or.inl ⟨rfl, SAMEP_tr hg1 ⟨((show KS [] sgv_105 sgv_105 from KS_rf) 63 (by decide)), ((show KS [70, 71, 72, 73] gmv_105 gmv_110 from (KS_tr (L := [70, 71, 72, 73]) KS_rf kgv_110 (by decide))) 62 (by decide)), ((show KS [70, 71, 72, 73] gmv_105 gmv_110 from (KS_tr (L := [70, 71, 72, 73]) KS_rf kgv_110 (by decide))) 64 (by decide)), ((show KS [70, 71, 72, 73] gmv_105 gmv_110 from (KS_tr (L := [70, 71, 72, 73]) KS_rf kgv_110 (by decide))) 65 (by decide)), ((show KS [70, 71, 72, 73] gmv_105 gmv_110 from (KS_tr (L := [70, 71, 72, 73]) KS_rf kgv_110 (by decide))) 66 (by decide)), ((show KS [70, 71, 72, 73] gmv_105 gmv_110 from (KS_tr (L := [70, 71, 72, 73]) KS_rf kgv_110 (by decide))) 67 (by decide)), ((show KS [70, 71, 72, 73] gmv_105 gmv_110 from (KS_tr (L := [70, 71, 72, 73]) KS_rf kgv_110 (by decide))) 68 (by decide)), ((show KS [70, 71, 72, 73] gmv_105 gmv_110 from (KS_tr (L := [70, 71, 72, 73]) KS_rf kgv_110 (by decide))) 69 (by decide)), ((show KS [] sgv_105 sgv_105 from KS_rf) 51 (by decide))⟩⟩), (Or.inl ⟨rfl, ((fG9_r_103.resolve_left (fun q => absurd q.1 (by have := i32_0; have := i32_1; have := i32_2; have := i32_m1; have := (hvx).1; have := (hvx).2; have := (hvsl).1; have := (hvsl).2; have := (hvit).1; have := (hvit).2; have := (h_86).1; have := (h_86).2; have := (h_91).1; have := (h_91).2; have := (hr_101).1; have := (hr_101).2; have := (h_107).1; have := (h_107).2; have := (h165).1; have := (h165).2; omega))).resolve_right (fun q => absurd q.1 (by have := i32_0; have := i32_1; have := i32_2; have := i32_m1; have := (hvx).1; have := (hvx).2; have := (hvsl).1; have := (hvsl).2; have := (hvit).1; have := (hvit).2; have := (h_86).1; have := (h_86).2; have := (h_91).1; have := (h_91).2; have := (hr_101).1; have := (hr_101).2; have := (h_107).1; have := (h_107).2; have := (h165).1; have := (h165).2; omega))).2.1, (RR_ks (L := []) (M := [70, 71, 72, 73]) ((fG9_r_103.resolve_left (fun q => absurd q.1 (by have := i32_0; have := i32_1; have := i32_2; have := i32_m1; have := (hvx).1; have := (hvx).2; have := (hvsl).1; have := (hvsl).2; have := (hvit).1; have := (hvit).2; have := (h_86).1; have := (h_86).2; have := (h_91).1; have := (h_91).2; have := (hr_101).1; have := (hr_101).2; have := (h_107).1; have := (h_107).2; have := (h165).1; have := (h165).2; omega))).resolve_right (fun q => absurd q.1 (by have := i32_0; have := i32_1; have := i32_2; have := i32_m1; have := (hvx).1; have := (hvx).2; have := (hvsl).1; have := (hvsl).2; have := (hvit).1; have := (hvit).2; have := (h_86).1; have := (h_86).2; have := (h_91).1; have := (h_91).2; have := (hr_101).1; have := (hr_101).2; have := (h_107).1; have := (h_107).2; have := (h165).1; have := (h165).2; omega))).2.2.1 KS_rf (show KS [70, 71, 72, 73] gmv_105 gmv_110 from (KS_tr (L := [70, 71, 72, 73]) KS_rf kgv_110 (by decide))) (by decide) (by decide)), VL_o (show KP9 gmv_105 gmv_110 sl.toNatClampNeg it 1 (sgv_105 74) from fK_r_108.imp (fun q => ⟨q.1, q.2.1, q.2.2.1⟩) (fun q => ⟨q.1, q.2.2.2.1, q.2.2.2.2⟩)) (by decide) hAS ((fG9_r_103.resolve_left (fun q => absurd q.1 (by have := i32_0; have := i32_1; have := i32_2; have := i32_m1; have := (hvx).1; have := (hvx).2; have := (hvsl).1; have := (hvsl).2; have := (hvit).1; have := (hvit).2; have := (h_86).1; have := (h_86).2; have := (h_91).1; have := (h_91).2; have := (hr_101).1; have := (hr_101).2; have := (h_107).1; have := (h_107).2; have := (h165).1; have := (h165).2; omega))).resolve_right (fun q => absurd q.1 (by have := i32_0; have := i32_1; have := i32_2; have := i32_m1; have := (hvx).1; have := (hvx).2; have := (hvsl).1; have := (hvsl).2; have := (hvit).1; have := (hvit).2; have := (h_86).1; have := (h_86).2; have := (h_91).1; have := (h_91).2; have := (hr_101).1; have := (hr_101).2; have := (h_107).1; have := (h_107).2; have := (h165).1; have := (h165).2; omega))).2.2.2 (gt_v hWF (((fG9_r_103.resolve_left (fun q => absurd q.1 (by have := i32_0; have := i32_1; have := i32_2; have := i32_m1; have := (hvx).1; have := (hvx).2; have := (hvsl).1; have := (hvsl).2; have := (hvit).1; have := (hvit).2; have := (h_86).1; have := (h_86).2; have := (h_91).1; have := (h_91).2; have := (hr_101).1; have := (hr_101).2; have := (h_107).1; have := (h_107).2; have := (h165).1; have := (h165).2; omega))).resolve_right (fun q => absurd q.1 (by have := i32_0; have := i32_1; have := i32_2; have := i32_m1; have := (hvx).1; have := (hvx).2; have := (hvsl).1; have := (hvsl).2; have := (hvit).1; have := (hvit).2; have := (h_86).1; have := (h_86).2; have := (h_91).1; have := (h_91).2; have := (hr_101).1; have := (hr_101).2; have := (h_107).1; have := (h_107).2; have := (h165).1; have := (h165).2; omega))).2.2.2 0)), _, _, (KP8_b fK_r_108 ⟨(kgv_105 70 (by decide)), (kgv_105 71 (by decide)), (kgv_105 72 (by decide)), (kgv_105 73 (by decide))⟩)⟩)⟩, by rw [ht]; exact hP, va_K.moved hW.alike hK, hD⟩, hS.F ht⟩) hS.2.2 dX13_worked_176
              · have h_111 : iv 0 0 r_103 := iv_eq c_106 hr_103 (iv_k (by decide) : iv 0 0 0) (by decide)
                refine lv_iconst (v := 0) hx hb dX13_worked_162 (by decide) ?_
                exact W.zret (v := 0) hx hb hr (iv_nb (iv_w (iv_k (by decide) : iv 0 0 0) (by decide))) (fun t ht hW => ⟨⟨0, (sgv_105, gmv_105, lg), rfl, ⟨sgv_105, gmv_105, lg, rfl, hIv_105, (KS_tr (L := [51, 52, 63, 74]) KS_rf ksv_105 (by decide)), (KS_tr (L := [62, 64, 65, 66, 67, 68, 69, 70, 71, 72, 73]) KS_rf kgv_105 (by decide)), KS_rf, (iv_w (iv_k (by decide) : iv 0 0 0) (by decide)), (fGI_r_103), (Or.inr ⟨rfl, by { rcases fGt_r_103 with ⟨q9, _⟩ | ⟨_, q9⟩; exact absurd (congrArg Int32.toInt c_106) (by rw [q9]; decide); exact q9 }⟩), ((by rcases fG9_r_103 with q | q | q; (exact Or.inr (Or.inl ⟨rfl, q.2.1, q.2.2.1, hAS.1, fun n9 => (hAS.2 n9 S).trans (q.2.2.2 n9)⟩)); (exact absurd q.1 (by have := i32_0; have := i32_1; have := i32_2; have := i32_m1; have := (hvx).1; have := (hvx).2; have := (hvsl).1; have := (hvsl).2; have := (hvit).1; have := (hvit).2; have := (h_86).1; have := (h_86).2; have := (h_91).1; have := (h_91).2; have := (hr_101).1; have := (hr_101).2; have := (h_111).1; have := (h_111).2; omega)); (exact Or.inr (Or.inr ⟨rfl, ⟨(kgv_105 70 (by decide)), (kgv_105 71 (by decide)), (kgv_105 72 (by decide)), (kgv_105 73 (by decide))⟩, q.2.1, hAS.1, r_101, ⟨q.2.2.1, (hr_101).2⟩, hb9, q.2.2.2.1, q.2.2.2.2.1, fun n9 => (hAS.2 n9 S).trans (q.2.2.2.2.2.1 n9), q.2.2.2.2.2.2.1, q.2.2.2.2.2.2.2⟩))))⟩, by rw [ht]; exact hP, va_K.moved hW.alike hK, hD⟩, hS.F ht⟩) hS.2.2 dX13_worked_163
            · have h_112 : iv 5 3 z_1 := iv_eq c_97 h_86 (iv_k (by decide) : iv 3 3 3) (by decide)
              exact (iv_no h_112 (by decide)).elim
          · have h_113 : iv 9 5 z_1 := iv_eq c_95 h_86 (iv_k (by decide) : iv 9 9 9) (by decide)
            exact (iv_no h_113 (by decide)).elim
        · have h_114 : iv 7 5 z_1 := iv_eq c_93 h_86 (iv_k (by decide) : iv 7 7 7) (by decide)
          exact (iv_no h_114 (by decide)).elim
      · have h_115 : iv 1 1 r_88 := iv_neL c_90 hr_88 (by decide)
        refine lv_aload_n hx hb dX13_worked_43 rfl (lv_at hl 1 rfl) ?_
        refine lv_iload_n hx hb dX13_worked_44 rfl (lv_at hl 3 rfl) ?_
        refine lv_iload_n hx hb dX13_worked_45 rfl (lv_at hl 4 rfl) ?_
        refine lv_iconst (v := 0) hx hb dX13_worked_46 (by decide) ?_
        refine lv_aload_n hx hb dX13_worked_47 rfl (lv_at hl 1 rfl) ?_
        refine lv_iload_n hx hb dX13_worked_48 rfl (lv_at hl 2 rfl) ?_
        refine lv_ldc2 (own := RX13) (v := 508440638821) hx hb hown (htb _ kw_140) dX13_worked_49 ?_
        refine mr_calli (rest := [.int 0, .int it, .int sl, .ref h0]) ⟨hx, hb, hml, hown, htb⟩ (f_find l dC dI h0 ad cid sg gm lg x 508440638821 hI hvx) (cwV 2 htb (gd_V kw_862 kw_863 kw_864 kw_5 kw_1531) rfl rfl rfl (by decide +kernel) ⟨Nat.le_of_ble_eq_true rfl, Nat.le_of_ble_eq_true rfl⟩) rfl hl.1 rfl (Nat.le_of_ble_eq_true rfl) dX13_worked_52 ⟨Nat.zero_le _, Nat.zero_le _⟩ hK hP hD hS hA (fun r_116 u_117 H locs hw hP hD hS => ?_)
        obtain ⟨hr_116, fF_r_116, rfl⟩ := hw
        have hP : va_P (dC, dI) vwCl (mW h0 ad cid sg gm lg) H := hP
        have hD : va_D A (mW h0 ad cid sg gm lg) := hD
        have h55 : iv 0 959 r_116 := iv_neL (b := 959) (by rw [fF_r_116]; exact has_find (by rw [← fH_r_88]; exact c_90)) hr_116 (by decide)
        refine mr_callv (rest := []) ⟨hx, hb, hml, hown, htb⟩ (f_keep9 l dC dI h0 ad cid sg gm lg sl it 0 r_116 hI hvsl hvit (iv_w (iv_k (by decide) : iv 0 0 0) (by decide)) (iv_w h55 (by decide)) hgi.1 (vok_0 (Or.inl (h55).2))) (cwV 4 htb (gd_V kw_1180 kw_1181 kw_1182 kw_5 kw_1610) rfl rfl rfl (by decide +kernel) ⟨Nat.le_of_ble_eq_true rfl, Nat.le_of_ble_eq_true rfl⟩) rfl hl.1 rfl (Nat.le_of_ble_eq_true rfl) dX13_worked_55 ⟨Nat.zero_le _, Nat.zero_le _⟩ hK hP hD hS hA (fun u_119 H locs hw hP hD hS => ?_)
        obtain ⟨sgv_120, gmv_120, lgv_120, rfl, hIv_120, ksv_120, kgv_120, klv_120, fV_r_118, fK_r_118⟩ := hw
        obtain rfl := KS_nil ksv_120
        obtain rfl := KS_nil klv_120
        have hP : va_P (dC, dI) vwCl (mW h0 ad cid sg gmv_120 lg) H := hP
        have hD : va_D A (mW h0 ad cid sg gmv_120 lg) := hD
        refine lv_goto (tgt := 175) hx hb dX13_worked_58 (by decide) ?_
        refine lv_iconst (v := 1) hx hb dX13_worked_175 (by decide) ?_
        exact W.zret (v := 1) hx hb hr (iv_nb (iv_w (iv_k (by decide) : iv 1 1 1) (by decide))) (fun t ht hW => ⟨⟨1, (sg, gmv_120, lg), rfl, ⟨sg, gmv_120, lg, rfl, hIv_120, KS_rf, (KS_tr (L := [62, 64, 65, 66, 67, 68, 69, 70, 71, 72, 73]) KS_rf kgv_120 (by decide)), KS_rf, (iv_w (iv_k (by decide) : iv 1 1 1) (by decide)), (GI0_k hgi (DK_of (show KS [] sg sg from KS_rf) (show KS [70, 71, 72, 73] gm gmv_120 from (KS_tr (L := [70, 71, 72, 73]) KS_rf kgv_120 (by decide))) (show KS [] lg lg from KS_rf) (by decide) (by decide) (by decide)) ((show KS [] lg lg from KS_rf) 1 (by decide)) ((show KS [70, 71, 72, 73] gm gmv_120 from (KS_tr (L := [70, 71, 72, 73]) KS_rf kgv_120 (by decide))) 60 (by decide)) ((show KS [70, 71, 72, 73] gm gmv_120 from (KS_tr (L := [70, 71, 72, 73]) KS_rf kgv_120 (by decide))) 61 (by decide)) ((show KS [70, 71, 72, 73] gm gmv_120 from (KS_tr (L := [70, 71, 72, 73]) KS_rf kgv_120 (by decide))) 62 (by decide)) (fV_r_118) ((show KS [] sg sg from KS_rf) 50 (by decide))), (Or.inl ⟨rfl, ⟨((show KS [] sg sg from KS_rf) 63 (by decide)), ((show KS [70, 71, 72, 73] gm gmv_120 from (KS_tr (L := [70, 71, 72, 73]) KS_rf kgv_120 (by decide))) 62 (by decide)), ((show KS [70, 71, 72, 73] gm gmv_120 from (KS_tr (L := [70, 71, 72, 73]) KS_rf kgv_120 (by decide))) 64 (by decide)), ((show KS [70, 71, 72, 73] gm gmv_120 from (KS_tr (L := [70, 71, 72, 73]) KS_rf kgv_120 (by decide))) 65 (by decide)), ((show KS [70, 71, 72, 73] gm gmv_120 from (KS_tr (L := [70, 71, 72, 73]) KS_rf kgv_120 (by decide))) 66 (by decide)), ((show KS [70, 71, 72, 73] gm gmv_120 from (KS_tr (L := [70, 71, 72, 73]) KS_rf kgv_120 (by decide))) 67 (by decide)), ((show KS [70, 71, 72, 73] gm gmv_120 from (KS_tr (L := [70, 71, 72, 73]) KS_rf kgv_120 (by decide))) 68 (by decide)), ((show KS [70, 71, 72, 73] gm gmv_120 from (KS_tr (L := [70, 71, 72, 73]) KS_rf kgv_120 (by decide))) 69 (by decide)), ((show KS [] sg sg from KS_rf) 51 (by decide))⟩⟩), (Or.inl ⟨rfl, h510, (RR_ks (L := []) (M := [70, 71, 72, 73]) hRR KS_rf (KS_tr (L := [70, 71, 72, 73]) KS_rf kgv_120 (by decide)) (by decide) (by decide)), (by obtain ⟨h7, T9, hs9, ht9⟩ := hWK.1 (show hva9 rg lg x.toNatClampNeg from ⟨(show hol9 rg x.toNatClampNeg from Or.inr (show rg 26 x.toNatClampNeg = 5 from (by rw [rwz9 hRW (by decide) ez_1]; exact Int32.toInt_inj.mp (by show _ = (5 : Int); have := i32_0; have := i32_1; have := i32_2; have := i32_m1; have := (hvx).1; have := (hvx).2; have := (hvsl).1; have := (hvsl).2; have := (hvit).1; have := (hvit).2; have := (h_86).1; have := (h_86).2; have := (h_115).1; have := (h_115).2; have := (h55).1; have := (h55).2; omega)))), (by rw [mHas_k (DK_r (lg := lg) hRW hRS).1, ← fH_r_88]; exact c_90)⟩); rw [mFind_k (DK_r (lg := lg) hRW hRS).1, ← fF_r_116] at hs9; exact VL_t (show KP9 gm gmv_120 sl.toNatClampNeg it 0 r_116 from fK_r_118.imp (fun q => ⟨q.1, q.2.1, q.2.2.1⟩) (fun q => ⟨q.1, q.2.2.2.1, q.2.2.2.2⟩)) (by decide) h7 hs9 ht9), _, _, fK_r_118⟩)⟩, by rw [ht]; exact hP, va_K.moved hW.alike hK, hD⟩, hS.F ht⟩) hS.2.2 dX13_worked_176
end
section
/-- the element in hand of a frame; whether it holds a list -/
def elR (sg : Nat → Int32) (gm : Nat → Nat → Int32) (lg : Nat → Nat → Int64) (tp : Nat) : Int32 := if (gm 65 tp).toInt = 3 then mArg sg gm lg (gm 64 tp) (gm 66 tp).toNatClampNeg else gm 45 (26 * (gm 64 tp).toNatClampNeg + (gm 66 tp).toNatClampNeg)
abbrev liR (sg : Nat → Int32) (gm : Nat → Nat → Int32) (x : Int32) : Prop := 0 < (gm 29 x.toNatClampNeg).toInt ∧ gm 26 (mInn sg gm x 0 x).toNatClampNeg = 6
def slR (gm : Nat → Nat → Int32) (tp : Nat) : Nat := 5 * tp + (if (gm 65 tp).toInt = 3 then (gm 66 tp).toNatClampNeg else 4)
def DL9 (sg : Nat → Int32) (gm : Nat → Nat → Int32) (lg : Nat → Nat → Int64) (gm2 : Nat → Nat → Int32) (tp : Nat) (got : Int32) : Prop :=
  ((gm 65 tp).toInt = 1 ∧ gm2 68 = gm 68 ∧ gm2 70 = gm 70 ∧ gm2 71 = gm 71 ∧ gm2 72 = gm 72 ∧ gm2 73 = gm 73)
  ∨ ((gm 65 tp).toInt = 2 ∧ gm2 68 = upd (gm 68) tp got ∧ gm2 70 = gm 70 ∧ gm2 71 = gm 71 ∧ gm2 72 = gm 72 ∧ gm2 73 = gm 73)
  ∨ (3 ≤ (gm 65 tp).toInt ∧ gm2 68 = gm 68 ∧ ∃ it, KP8 gm gm2 (slR gm tp) it 1 got ∧ ((liR sg gm (elR sg gm lg tp) ∧ it = gm 67 tp) ∨ (¬ liR sg gm (elR sg gm lg tp) ∧ it.toInt = -1)))

set_option maxHeartbeats 4000000 in
set_option maxRecDepth 100000 in
theorem f_deliver9 (l : Launch) (dC : Nat → ClassId) (dI : Nat → Nat → Nat) (h0 : Nat) (ad : Nat → Nat) (cid : Nat → ClassId) (sg : Nat → Int32) (gm : Nat → Nat → Int32) (lg : Nat → Nat → Int64) (hI : MI sg gm) (hdoc : DOC sg gm lg) (hva : VAL gm) (hh1 : 1 ≤ (sg 63).toInt) (hgo : 0 ≤ (sg 74).toInt) (hfr : FR sg gm lg (TOPn sg) 1) (hph : 1 ≤ (gm 65 (TOPn sg)).toInt) (hpb : iv 0 79 (gm 64 (TOPn sg)) ∧ (gm 64 (TOPn sg)).toInt < (sg 41).toInt) (hit0 : 0 ≤ (gm 67 (TOPn sg)).toInt) : MMv l dC dI yX13_deliver wm_X13_deliver ({ frames := 6, cells := 0, slots := 0, locals := 142 }) h0 ad cid [] sg gm lg (fun v => ∃ (sg2 : Nat → Int32) (gm2 : Nat → Nat → Int32) (lg2 : Nat → Nat → Int64), v = (sg2, gm2, lg2) ∧ MI sg2 gm2 ∧ KS [] sg sg2 ∧ KS [67, 68, 70, 71, 72, 73] gm gm2 ∧ KS [] lg lg2 ∧ (VAL gm2) ∧ (DLV sg gm gm2) ∧ (DL9 sg gm lg gm2 (TOPn sg) (sg 74))) := by
  intro sz
  refine Met.ofW (cc := cX13_deliver) (maxL := 5) (ret := none) (by decide) rfl ?_
  intro p e s m args below meth c s₁ B hml hv
  obtain ⟨rfl, hsz, hP, hK, hD0⟩ := hv
  have hx := B.exec
  have hb := B.bytes
  have hr := B.returns
  have hts := atoms_spec (ws := wm_X13_deliver) B.pre
  have htb := fun (w : Cond) (h : w ∈ tb) => hts w (List.mem_cons_of_mem _ h)
  have hown : s.vm.findClass RX13 = some m.cls := findClass_of_methodNamed B.named
  have hlocks := B.notSynchronized
  subst hsz
  have hD := hD0.self (sz := s.heap.size)
  generalize hAe : va_A (mW h0 ad cid sg gm lg) s.heap.size = A at hD ⊢
  have hA : ∀ q : Nat, s.heap.size ≤ q → A q := fun q h => by rw [← hAe]; exact Or.inr h
  have hS : va_S A s.heap s.heap [] := va_S.rf
  have hl := lv_entry ([.ref h0]) (n := 5) (Nat.le_of_ble_eq_true rfl)
  rw [lg_entry_eq]
  generalize (lg_sl ([.ref h0]) ++ List.replicate (5 - (lg_sl ([.ref h0])).length) Slot.unset).toArray = ls at hl ⊢
  have hl : lv_has ls 5 [(0, .ref h0)] := hl
  have h63 : iv 1 80 (sg 63) := ⟨hh1, (show iv 0 80 (sg 63) from MI_s hI 63).2⟩
  have h74 : iv 0 59 (sg 74) := ⟨hgo, (show iv (-1) 59 (sg 74) from MI_s hI 74).2⟩
  refine lv_aload_n hx hb dX13_deliver_0 rfl (lv_at hl 0 rfl) ?_
  refine mr_get (v := .int (sg 63)) hx hb htb inX13 hown hK hP 63 (by decide) (htb _ kw_1157) rfl dX13_deliver_1 ?_
  refine lv_iconst (v := 1) hx hb dX13_deliver_4 (by decide) ?_
  refine lv_isub hx hb dX13_deliver_5 ?_
  refine lv_topi (fun z_1 ez_1 => ?_)
  have hz_1 : iv 0 79 z_1 := iv_of ez_1 (iv_sub h63 (iv_k (by decide) : iv 1 1 1) (by decide))
  have tz_1 : z_1.toInt = ((sg 63) : Int32).toInt - 1 := by rw [ez_1]; exact iv_subE h63 (iv_k (by decide) : iv 1 1 1) (by decide)
  refine lv_istore_n (lv' := [(1, .int z_1), (0, .ref h0)]) hx hb dX13_deliver_6 rfl hl (by decide) rfl (fun ls hl => ?_)
  have htop := top_n h63 tz_1
  refine lv_aload_n hx hb dX13_deliver_7 rfl (lv_at hl 1 rfl) ?_
  refine mr_get (v := .ref (ad 65)) hx hb htb inX13 hown hK hP 65 (by decide) (htb _ kw_214) rfl dX13_deliver_8 ?_
  refine lv_iload_n hx hb dX13_deliver_11 rfl (lv_at hl 0 rfl) ?_
  refine mr_iald hx hb hK hP 50 (k := 65) rfl rfl rfl (show vp_in z_1 81 from (iv_in hz_1 (by decide))) dX13_deliver_12 ?_
  refine lv_topi (fun z_2 ez_2 => ?_)
  have hz_2 : iv 0 4 z_2 := iv_of ez_2 (MI_a hI 65 hz_1 (by decide))
  by_cases c_3 : (z_2 : Int32).toInt = 1
  · refine lv_lookup (off := 27) (tgt := 40) hx hb dX13_deliver_13 (by decide) (by rw [c_3]; rfl) (by decide) ?_
    have h_4 : iv 1 1 z_2 := iv_at c_3
    refine lv_goto (tgt := 200) hx hb dX13_deliver_40 (by decide) ?_
    exact W.vret hx hb hr (fun t ht hW => ⟨⟨(sg, gm, lg), rfl, ⟨sg, gm, lg, rfl, hI, KS_rf, KS_rf, KS_rf, ((VAL_k rfl rfl rfl rfl hva)), (Or.inl ⟨by rw [← (show z_2 = gm 65 (TOPn sg) from (by have q9 := ez_2; rw [htop] at q9; exact q9))]; have := (h_4).2; omega, rfl⟩), (Or.inl ⟨(by rw [← (show z_2 = gm 65 (TOPn sg) from (by have q9 := ez_2; rw [htop] at q9; exact q9))]; have := i32_0; have := i32_1; have := i32_2; have := i32_m1; have := (h63).1; have := (h63).2; have := (h74).1; have := (h74).2; have := (hz_1).1; have := (hz_1).2; have := (h_4).1; have := (h_4).2; omega), rfl, rfl, rfl, rfl, rfl⟩)⟩, by rw [ht]; exact hP, va_K.moved hW.alike hK, hD⟩, hS.F ht⟩) hS.2.2 dX13_deliver_200
  by_cases c_5 : (z_2 : Int32).toInt = 2
  · refine lv_lookup (off := 30) (tgt := 43) hx hb dX13_deliver_13 (by decide) (by rw [c_5]; rfl) (by decide) ?_
    have h_6 : iv 2 2 z_2 := iv_at c_5
    refine lv_aload_n hx hb dX13_deliver_43 rfl (lv_at hl 1 rfl) ?_
    refine mr_get (v := .ref (ad 68)) hx hb htb inX13 hown hK hP 68 (by decide) (htb _ kw_217) rfl dX13_deliver_44 ?_
    refine lv_iload_n hx hb dX13_deliver_47 rfl (lv_at hl 0 rfl) ?_
    refine lv_aload_n hx hb dX13_deliver_48 rfl (lv_at hl 1 rfl) ?_
    refine mr_get (v := .int (sg 74)) hx hb htb inX13 hown hK hP 74 (by decide) (htb _ kw_1161) rfl dX13_deliver_49 ?_
    refine ma_iast (x := (sg 74)) hx hb hK hP hD hS 53 (k := 68) rfl rfl rfl (show vp_in z_1 81 from (iv_in hz_1 (by decide))) dX13_deliver_52 (fun gm_7 H locs egm_7 hP hD hS => ?_)
    have hI_gm_7 := MI_st hI egm_7 h74 (by decide)
    refine lv_goto (tgt := 200) hx hb dX13_deliver_53 (by decide) ?_
    exact W.vret hx hb hr (fun t ht hW => ⟨⟨(sg, gm_7, lg), rfl, ⟨sg, gm_7, lg, rfl, hI_gm_7, KS_rf, (KS_up KS_rf egm_7 (by decide)), KS_rf, ((VAL_k (up_ne egm_7 (by decide)) (up_ne egm_7 (by decide)) (up_ne egm_7 (by decide)) (up_ne egm_7 (by decide)) hva)), (Or.inl ⟨by rw [← (show z_2 = gm 65 (TOPn sg) from (by have q9 := ez_2; rw [htop] at q9; exact q9))]; have := (h_6).2; omega, (up_ne egm_7 (by decide))⟩), (Or.inr (Or.inl ⟨(by rw [← (show z_2 = gm 65 (TOPn sg) from (by have q9 := ez_2; rw [htop] at q9; exact q9))]; have := i32_0; have := i32_1; have := i32_2; have := i32_m1; have := (h63).1; have := (h63).2; have := (h74).1; have := (h74).2; have := (hz_1).1; have := (hz_1).2; have := (h_6).1; have := (h_6).2; omega), (by rw [← htop]; exact (show gm_7 68 = upd (gm 68) (z_1 : Int32).toNatClampNeg (sg 74) from ((up_at egm_7).trans (by rw [show gm 68 = gm 68 from rfl])))), (up_ne egm_7 (by decide)), (up_ne egm_7 (by decide)), (up_ne egm_7 (by decide)), (up_ne egm_7 (by decide))⟩))⟩, by rw [ht]; exact hP, va_K.moved hW.alike hK, hD⟩, hS.F ht⟩) hS.2.2 dX13_deliver_200
  refine lv_lookup (off := 43) (tgt := 56) hx hb dX13_deliver_13 (by decide) (by simp only [Op.lookupswitch.offset_cons, Op.lookupswitch.offset_nil, if_neg (Ne.symm c_3), if_neg (Ne.symm c_5)]) (by decide) ?_
  have h56 : iv 3 4 z_2 := ⟨by have := congrArg Int32.toInt (show z_2 = gm 65 (TOPn sg) from (by have q9 := ez_2; rw [htop] at q9; exact q9)); have := hph; have := (hz_2).1; omega, (hz_2).2⟩
  refine lv_aload_n hx hb dX13_deliver_56 rfl (lv_at hl 1 rfl) ?_
  refine mr_get (v := .ref (ad 65)) hx hb htb inX13 hown hK hP 65 (by decide) (htb _ kw_214) rfl dX13_deliver_57 ?_
  refine lv_iload_n hx hb dX13_deliver_60 rfl (lv_at hl 0 rfl) ?_
  refine mr_iald hx hb hK hP 50 (k := 65) rfl rfl rfl (show vp_in z_1 81 from (iv_in hz_1 (by decide))) dX13_deliver_61 ?_
  refine lv_topi (fun z_8 ez_8 => ?_)
  obtain rfl : z_2 = z_8 := ez_2.trans ez_8.symm
  refine lv_iconst (v := 3) hx hb dX13_deliver_62 (by decide) ?_
  refine lv_icmp_ne (tgt := 85) hx hb dX13_deliver_63 (by decide) (fun c_9 => ?_) (fun c_9 => ?_)
  · have h_10 : iv 4 4 z_2 := iv_neL c_9 h56 (by decide)
    have hp4 : (gm 65 (TOPn sg)).toInt = 4 := by rw [← (show z_2 = gm 65 (TOPn sg) from (by have q9 := ez_2; rw [htop] at q9; exact q9))]; have := (h_10).1; have := (h_10).2; omega
    obtain ⟨hi4, hl4⟩ := FR_4 hfr hp4 hit0
    refine lv_aload_n hx hb dX13_deliver_85 rfl (lv_at hl 1 rfl) ?_
    refine mr_get (v := .ref (ad 45)) hx hb htb inX13 hown hK hP 45 (by decide) (htb _ kw_199) rfl dX13_deliver_86 ?_
    refine lv_bipush (v := 26) hx hb dX13_deliver_89 (by decide) ?_
    refine lv_aload_n hx hb dX13_deliver_91 rfl (lv_at hl 1 rfl) ?_
    refine mr_get (v := .ref (ad 64)) hx hb htb inX13 hown hK hP 64 (by decide) (htb _ kw_213) rfl dX13_deliver_92 ?_
    refine lv_iload_n hx hb dX13_deliver_95 rfl (lv_at hl 0 rfl) ?_
    refine mr_iald hx hb hK hP 49 (k := 64) rfl rfl rfl (show vp_in z_1 81 from (iv_in hz_1 (by decide))) dX13_deliver_96 ?_
    refine lv_topi (fun z_11 ez_11 => ?_)
    have hz_11 : iv 0 79 z_11 := iv_of ez_11 (MI_a hI 64 hz_1 (by decide))
    refine lv_imul hx hb dX13_deliver_97 ?_
    refine lv_topi (fun z_12 ez_12 => ?_)
    have hz_12 : iv 0 2054 z_12 := iv_of ez_12 (iv_mul (iv_k (by decide) : iv 26 26 26) hz_11 (by decide))
    have tz_12 : z_12.toInt = 26 * (z_11 : Int32).toInt := by rw [ez_12]; exact iv_mulE (iv_k (by decide) : iv 26 26 26) hz_11 (by decide)
    refine lv_aload_n hx hb dX13_deliver_98 rfl (lv_at hl 1 rfl) ?_
    refine mr_get (v := .ref (ad 66)) hx hb htb inX13 hown hK hP 66 (by decide) (htb _ kw_215) rfl dX13_deliver_99 ?_
    refine lv_iload_n hx hb dX13_deliver_102 rfl (lv_at hl 0 rfl) ?_
    refine mr_iald hx hb hK hP 51 (k := 66) rfl rfl rfl (show vp_in z_1 81 from (iv_in hz_1 (by decide))) dX13_deliver_103 ?_
    refine lv_topi (fun z_13 ez_13 => ?_)
    have hz_13 : iv 0 26 z_13 := iv_of ez_13 (MI_a hI 66 hz_1 (by decide))
    have h_14 : iv 0 25 z_13 := ⟨(hz_13).1, by have q9 := ez_13; rw [htop] at q9; rw [q9]; have := (show iv 0 26 (gm 44 (gm 64 (TOPn sg)).toNatClampNeg) from hI.2 44 _ (show _ < 80 by have := iv_cl hpb.1 (by decide); have := hpb.1.2; omega)).2; omega⟩
    refine lv_iadd hx hb dX13_deliver_104 ?_
    refine lv_topi (fun z_15 ez_15 => ?_)
    have hz_15 : iv 0 2079 z_15 := iv_of ez_15 (iv_add hz_12 h_14 (by decide))
    have tz_15 : z_15.toInt = (z_12 : Int32).toInt + (z_13 : Int32).toInt := by rw [ez_15]; exact iv_addE hz_12 h_14 (by decide)
    refine mr_iald hx hb hK hP 36 (k := 45) rfl rfl rfl (show vp_in z_15 2080 from (iv_in hz_15 (by decide))) dX13_deliver_105 ?_
    refine lv_topi (fun z_16 ez_16 => ?_)
    have hz_16 : iv 0 79 z_16 := iv_of ez_16 (MI_a hI 45 hz_15 (by decide))
    have hHE : HEL sg gm z_16 ((gm 67 (TOPn sg)).toInt + 1) := HEL_5 (by rw [ez_16, cl_add hz_12 h_14 (by decide) (by decide) tz_15, cl26 hz_11 tz_12, (show z_11 = gm 64 (TOPn sg) from (by have q9 := ez_11; rw [htop] at q9; exact q9)), (show z_13 = gm 66 (TOPn sg) from (by have q9 := ez_13; rw [htop] at q9; exact q9))]; exact hdoc.2 _ (by have := lt_cl hpb.1 (show iv 0 80 (sg 41) from MI_s hI 41) (by decide) (by decide) hpb.2; exact this) _ (lt_cl (show iv 0 26 (gm 66 (TOPn sg)) from by rw [← (show z_13 = gm 66 (TOPn sg) from (by have q9 := ez_13; rw [htop] at q9; exact q9))]; exact iv_w h_14 (by decide)) (show iv 0 26 _ from hI.2 44 _ (show _ < 80 by have := iv_cl hpb.1 (by decide); have := hpb.1.2; omega)) (by decide) (by decide) hi4)) (by rw [ez_16, cl_add hz_12 h_14 (by decide) (by decide) tz_15, cl26 hz_11 tz_12, (show z_11 = gm 64 (TOPn sg) from (by have q9 := ez_11; rw [htop] at q9; exact q9)), (show z_13 = gm 66 (TOPn sg) from (by have q9 := ez_13; rw [htop] at q9; exact q9))]; exact hl4)
    have h3i : (gm 65 (TOPn sg)).toInt = 3 → (gm 66 (TOPn sg)).toNatClampNeg ≤ 3 := fun q9 => absurd q9 (by omega)
    have hp9 : 3 ≤ (gm 65 (TOPn sg)).toInt := by rw [← (show z_2 = gm 65 (TOPn sg) from (by have q9 := ez_2; rw [htop] at q9; exact q9))]; have := (h_10).1; omega
    have hel : z_16 = elR sg gm lg (TOPn sg) := (by unfold elR; rw [if_neg (by rw [(show (gm 65 (TOPn sg)).toInt = 4 from (by rw [← (show z_2 = gm 65 (TOPn sg) from (by have q9 := ez_2; rw [htop] at q9; exact q9))]; have := i32_0; have := i32_1; have := i32_2; have := i32_m1; have := (h63).1; have := (h63).2; have := (h74).1; have := (h74).2; have := (hz_1).1; have := (hz_1).2; have := (h_10).1; have := (h_10).2; have := (hz_11).1; have := (hz_11).2; have := (hz_12).1; have := (hz_12).2; have := (h_14).1; have := (h_14).2; have := (hz_15).1; have := (hz_15).2; have := (hHE.1).1; have := (hHE.1).2; omega))]; decide), ← (show z_11 = gm 64 (TOPn sg) from (by have q9 := ez_11; rw [htop] at q9; exact q9)), ← (show z_13 = gm 66 (TOPn sg) from (by have q9 := ez_13; rw [htop] at q9; exact q9)), ez_16, show z_15.toNatClampNeg = 26 * z_11.toNatClampNeg + z_13.toNatClampNeg from (by have q1 : z_15.toNatClampNeg = z_15.toInt.toNat := rfl; have q1 : z_11.toNatClampNeg = z_11.toInt.toNat := rfl; have q1 : z_13.toNatClampNeg = z_13.toInt.toNat := rfl; have := i32_0; have := i32_1; have := i32_2; have := i32_m1; have := (h63).1; have := (h63).2; have := (h74).1; have := (h74).2; have := (hz_1).1; have := (hz_1).2; have := (h_10).1; have := (h_10).2; have := (hz_11).1; have := (hz_11).2; have := (hz_12).1; have := (hz_12).2; have := (h_14).1; have := (h_14).2; have := (hz_15).1; have := (hz_15).2; have := (hHE.1).1; have := (hHE.1).2; omega)])
    refine lv_istore_n (lv' := [(2, .int z_16), (1, .int z_1), (0, .ref h0)]) hx hb dX13_deliver_106 rfl hl (by decide) rfl (fun ls hl => ?_)
    refine lv_iconst (v := 5) hx hb dX13_deliver_107 (by decide) ?_
    refine lv_iload_n hx hb dX13_deliver_108 rfl (lv_at hl 1 rfl) ?_
    refine lv_imul hx hb dX13_deliver_109 ?_
    refine lv_topi (fun z_17 ez_17 => ?_)
    have hz_17 : iv 0 395 z_17 := iv_of ez_17 (iv_mul (iv_k (by decide) : iv 5 5 5) hz_1 (by decide))
    have tz_17 : z_17.toInt = 5 * (z_1 : Int32).toInt := by rw [ez_17]; exact iv_mulE (iv_k (by decide) : iv 5 5 5) hz_1 (by decide)
    refine lv_aload_n hx hb dX13_deliver_110 rfl (lv_at hl 2 rfl) ?_
    refine mr_get (v := .ref (ad 65)) hx hb htb inX13 hown hK hP 65 (by decide) (htb _ kw_214) rfl dX13_deliver_111 ?_
    refine lv_iload_n hx hb dX13_deliver_114 rfl (lv_at hl 1 rfl) ?_
    refine mr_iald hx hb hK hP 50 (k := 65) rfl rfl rfl (show vp_in z_1 81 from (iv_in hz_1 (by decide))) dX13_deliver_115 ?_
    refine lv_topi (fun z_18 ez_18 => ?_)
    obtain rfl : z_2 = z_18 := ez_2.trans ez_18.symm
    refine lv_iconst (v := 3) hx hb dX13_deliver_116 (by decide) ?_
    refine lv_icmp_ne (tgt := 129) hx hb dX13_deliver_117 (by decide) (fun c_19 => ?_) (fun c_19 => ?_)
    · refine lv_iconst (v := 4) hx hb dX13_deliver_129 (by decide) ?_
      refine lv_iadd hx hb dX13_deliver_130 ?_
      refine lv_topi (fun z_20 ez_20 => ?_)
      have hz_20 : iv 4 399 z_20 := iv_of ez_20 (iv_add hz_17 (iv_k (by decide) : iv 4 4 4) (by decide))
      have tz_20 : z_20.toInt = (z_17 : Int32).toInt + 4 := by rw [ez_20]; exact iv_addE hz_17 (iv_k (by decide) : iv 4 4 4) (by decide)
      refine lv_istore_n (lv' := [(3, .int z_20), (2, .int z_16), (1, .int z_1), (0, .ref h0)]) hx hb dX13_deliver_131 rfl hl (by decide) rfl (fun ls hl => ?_)
      refine lv_aload_n hx hb dX13_deliver_132 rfl (lv_at hl 3 rfl) ?_
      refine mr_get (v := .ref (ad 29)) hx hb htb inX13 hown hK hP 29 (by decide) (htb _ kw_185) rfl dX13_deliver_133 ?_
      refine lv_iload_n hx hb dX13_deliver_136 rfl (lv_at hl 1 rfl) ?_
      refine mr_iald hx hb hK hP 22 (k := 29) rfl rfl rfl (show vp_in z_16 80 from (iv_in hHE.1 (by decide))) dX13_deliver_137 ?_
      refine lv_topi (fun z_21 ez_21 => ?_)
      have hz_21 : iv 0 80 z_21 := iv_of ez_21 (MI_a hI 29 hHE.1 (by decide))
      refine lv_if_le (tgt := 162) hx hb dX13_deliver_138 (by decide) (fun c_22 => ?_) (fun c_22 => ?_)
      · have h_23 : iv 0 0 z_21 := iv_leL c_22 hz_21 (iv_k (by decide) : iv 0 0 0) (by decide)
        refine lv_iconst (v := 0) hx hb dX13_deliver_162 (by decide) ?_
        refine lv_istore (lv' := [(4, .int 0), (3, .int z_20), (2, .int z_16), (1, .int z_1), (0, .ref h0)]) hx hb dX13_deliver_163 hl (by decide) rfl (fun ls hl => ?_)
        refine lv_aload_n hx hb dX13_deliver_165 rfl (lv_at hl 4 rfl) ?_
        refine lv_iload_n hx hb dX13_deliver_166 rfl (lv_at hl 1 rfl) ?_
        refine lv_iload hx hb dX13_deliver_167 (lv_at hl 0 rfl) ?_
        refine lv_if_eq (tgt := 181) hx hb dX13_deliver_169 (by decide) (fun _ => ?_) (fun c_24 => absurd (by decide) c_24)
        refine lv_iconst (v := (-1)) hx hb dX13_deliver_181 (by decide) ?_
        refine lv_iconst (v := 1) hx hb dX13_deliver_182 (by decide) ?_
        refine lv_aload_n hx hb dX13_deliver_183 rfl (lv_at hl 4 rfl) ?_
        refine mr_get (v := .int (sg 74)) hx hb htb inX13 hown hK hP 74 (by decide) (htb _ kw_1161) rfl dX13_deliver_184 ?_
        refine mr_callv (rest := []) ⟨hx, hb, hml, hown, htb⟩ (f_keep9 l dC dI h0 ad cid sg gm lg z_20 (-1) 1 (sg 74) hI (iv_w hz_20 (by decide)) (iv_w (iv_k (by decide) : iv (-1) (-1) (-1)) (by decide)) (iv_w (iv_k (by decide) : iv 1 1 1) (by decide)) (iv_w h74 (by decide)) hva (vok_1 h74.2)) (cwV 4 htb (gd_V kw_1180 kw_1181 kw_1182 kw_5 kw_1610) rfl rfl rfl (by decide +kernel) ⟨Nat.le_of_ble_eq_true rfl, Nat.le_of_ble_eq_true rfl⟩) rfl hl.1 rfl (Nat.le_of_ble_eq_true rfl) dX13_deliver_187 ⟨Nat.zero_le _, Nat.zero_le _⟩ hK hP hD hS hA (fun u_26 H locs hw hP hD hS => ?_)
        obtain ⟨sgv_27, gmv_27, lgv_27, rfl, hIv_27, ksv_27, kgv_27, klv_27, fV_r_25, fK_r_25⟩ := hw
        obtain rfl := KS_nil ksv_27
        obtain rfl := KS_nil klv_27
        have hP : va_P (dC, dI) vwCl (mW h0 ad cid sg gmv_27 lg) H := hP
        have hD : va_D A (mW h0 ad cid sg gmv_27 lg) := hD
        refine lv_aload_n hx hb dX13_deliver_190 rfl (lv_at hl 4 rfl) ?_
        refine mr_get (v := .ref (ad 67)) hx hb htb inX13 hown hK hP 67 (by decide) (htb _ kw_216) rfl dX13_deliver_191 ?_
        refine lv_iload_n hx hb dX13_deliver_194 rfl (lv_at hl 3 rfl) ?_
        refine lv_dup2_11 hx hb dX13_deliver_195 rfl rfl ?_
        refine mr_iald hx hb hK hP 52 (k := 67) rfl rfl rfl (show vp_in z_1 81 from (iv_in hz_1 (by decide))) dX13_deliver_196 ?_
        refine lv_topi (fun z_28 ez_28 => ?_)
        have hz_28 : iv 0 6 z_28 := iv_of ez_28 (MI_a hIv_27 67 hz_1 (by decide))
        have ez_28 := ez_28.trans (congrFun (kgv_27 67 (by decide)) _)
        have h_29 : iv 0 5 z_28 := ⟨(hz_28).1, by have q9 := ez_28; rw [htop] at q9; rw [q9]; have q8 := (LIM_iv hdoc.1.1 (show iv 0 80 (sg 24) from MI_s hI 24) hdoc.1.2.1 hHE.1 hHE.2.1).2; have := hHE.2.2.2; omega⟩
        refine lv_iconst (v := 1) hx hb dX13_deliver_197 (by decide) ?_
        refine lv_iadd hx hb dX13_deliver_198 ?_
        refine lv_topi (fun z_30 ez_30 => ?_)
        have hz_30 : iv 1 6 z_30 := iv_of ez_30 (iv_add h_29 (iv_k (by decide) : iv 1 1 1) (by decide))
        have tz_30 : z_30.toInt = (z_28 : Int32).toInt + 1 := by rw [ez_30]; exact iv_addE h_29 (iv_k (by decide) : iv 1 1 1) (by decide)
        refine ma_iast (x := z_30) hx hb hK hP hD hS 52 (k := 67) rfl rfl rfl (show vp_in z_1 81 from (iv_in hz_1 (by decide))) dX13_deliver_199 (fun gm_31 H locs egm_31 hP hD hS => ?_)
        have hI_gm_31 := MI_st hIv_27 egm_31 hz_30 (by decide)
        exact W.vret hx hb hr (fun t ht hW => ⟨⟨(sg, gm_31, lg), rfl, ⟨sg, gm_31, lg, rfl, hI_gm_31, KS_rf, (KS_up (KS_tr (L := [67, 68, 70, 71, 72, 73]) KS_rf kgv_27 (by decide)) egm_31 (by decide)), KS_rf, ((VAL_k ((show KS [67] gmv_27 gm_31 from (KS_up KS_rf egm_31 (by decide))) 70 (by decide)) ((show KS [67] gmv_27 gm_31 from (KS_up KS_rf egm_31 (by decide))) 71 (by decide)) ((show KS [67] gmv_27 gm_31 from (KS_up KS_rf egm_31 (by decide))) 72 (by decide)) ((show KS [67] gmv_27 gm_31 from (KS_up KS_rf egm_31 (by decide))) 73 (by decide)) fV_r_25)), (Or.inr ⟨hp9, z_30, by rw [← htop]; exact (show gm_31 67 = upd (gm 67) (z_1 : Int32).toNatClampNeg z_30 from ((up_at egm_31).trans (by rw [show gmv_27 67 = gm 67 from ((kgv_27 67 (by decide)).trans rfl)]))), by have := tz_30; have := congrArg Int32.toInt (show z_28 = gm 67 (TOPn sg) from (by have q9 := ez_28; rw [htop] at q9; exact q9)); omega⟩), (Or.inr (Or.inr ⟨hp9, (Eq.trans (up_ne egm_31 (by decide)) (kgv_27 68 (by decide))), _, KP8_k fK_r_25 (show z_20.toNatClampNeg = slR gm (TOPn sg) from (by unfold slR; rw [if_neg (by rw [(show (gm 65 (TOPn sg)).toInt = 4 from (by rw [← (show z_2 = gm 65 (TOPn sg) from (by have q9 := ez_2; rw [htop] at q9; exact q9))]; have := i32_0; have := i32_1; have := i32_2; have := i32_m1; have := (h63).1; have := (h63).2; have := (h74).1; have := (h74).2; have := (hz_1).1; have := (hz_1).2; have := (h_10).1; have := (h_10).2; have := (hz_11).1; have := (hz_11).2; have := (hz_12).1; have := (hz_12).2; have := (h_14).1; have := (h_14).2; have := (hz_15).1; have := (hz_15).2; have := (hHE.1).1; have := (hHE.1).2; have := (hz_17).1; have := (hz_17).2; have := (hz_20).1; have := (hz_20).2; have := (h_23).1; have := (h_23).2; have := (h_29).1; have := (h_29).2; have := (hz_30).1; have := (hz_30).2; omega))]; decide)]; have q5 := htop; have q1 : z_20.toNatClampNeg = z_20.toInt.toNat := rfl; have q1 : z_1.toNatClampNeg = z_1.toInt.toNat := rfl; have := i32_0; have := i32_1; have := i32_2; have := i32_m1; have := (h63).1; have := (h63).2; have := (h74).1; have := (h74).2; have := (hz_1).1; have := (hz_1).2; have := (h_10).1; have := (h_10).2; have := (hz_11).1; have := (hz_11).2; have := (hz_12).1; have := (hz_12).2; have := (h_14).1; have := (h_14).2; have := (hz_15).1; have := (hz_15).2; have := (hHE.1).1; have := (hHE.1).2; have := (hz_17).1; have := (hz_17).2; have := (hz_20).1; have := (hz_20).2; have := (h_23).1; have := (h_23).2; have := (h_29).1; have := (h_29).2; have := (hz_30).1; have := (hz_30).2; omega)) ((show KS [67] gmv_27 gm_31 from (KS_up KS_rf egm_31 (by decide))) 70 (by decide)) ((show KS [67] gmv_27 gm_31 from (KS_up KS_rf egm_31 (by decide))) 71 (by decide)) ((show KS [67] gmv_27 gm_31 from (KS_up KS_rf egm_31 (by decide))) 72 (by decide)) ((show KS [67] gmv_27 gm_31 from (KS_up KS_rf egm_31 (by decide))) 73 (by decide)), Or.inr ⟨(show ¬ liR sg gm (elR sg gm lg (TOPn sg)) from (by rw [← hel]; exact fun q => absurd q.1 (by rw [← ez_21]; have := i32_0; have := i32_1; have := i32_2; have := i32_m1; have := (h63).1; have := (h63).2; have := (h74).1; have := (h74).2; have := (hz_1).1; have := (hz_1).2; have := (h_10).1; have := (h_10).2; have := (hz_11).1; have := (hz_11).2; have := (hz_12).1; have := (hz_12).2; have := (h_14).1; have := (h_14).2; have := (hz_15).1; have := (hz_15).2; have := (hHE.1).1; have := (hHE.1).2; have := (hz_17).1; have := (hz_17).2; have := (hz_20).1; have := (hz_20).2; have := (h_23).1; have := (h_23).2; have := (h_29).1; have := (h_29).2; have := (hz_30).1; have := (hz_30).2; omega))), by decide⟩⟩))⟩, by rw [ht]; exact hP, va_K.moved hW.alike hK, hD⟩, hS.F ht⟩) hS.2.2 dX13_deliver_200
      · have h_32 : iv 1 80 z_21 := iv_ltR (i32_lt c_22) (iv_k (by decide) : iv 0 0 0) hz_21 (by decide)
        refine lv_aload_n hx hb dX13_deliver_141 rfl (lv_at hl 3 rfl) ?_
        refine mr_get (v := .ref (ad 26)) hx hb htb inX13 hown hK hP 26 (by decide) (htb _ kw_182) rfl dX13_deliver_142 ?_
        refine lv_aload_n hx hb dX13_deliver_145 rfl (lv_at hl 3 rfl) ?_
        refine lv_iload_n hx hb dX13_deliver_146 rfl (lv_at hl 1 rfl) ?_
        refine lv_iconst (v := 0) hx hb dX13_deliver_147 (by decide) ?_
        refine lv_iload_n hx hb dX13_deliver_148 rfl (lv_at hl 1 rfl) ?_
        refine mr_calli (rest := [.ref (ad 26)]) ⟨hx, hb, hml, hown, htb⟩ (f_inner l dC dI h0 ad cid sg gm lg z_16 0 z_16 hI (iv_w hHE.1 (by decide)) (iv_w (iv_k (by decide) : iv 0 0 0) (by decide)) hHE.1) (cwV 3 htb (gd_V kw_961 kw_962 kw_963 kw_5 kw_1557) rfl rfl rfl (by decide +kernel) ⟨Nat.le_of_ble_eq_true rfl, Nat.le_of_ble_eq_true rfl⟩) rfl hl.1 rfl (Nat.le_of_ble_eq_true rfl) dX13_deliver_149 ⟨Nat.zero_le _, Nat.zero_le _⟩ hK hP hD hS hA (fun r_33 u_34 H locs hw hP hD hS => ?_)
        obtain ⟨hr_33, fN_r_33, rfl⟩ := hw
        have hP : va_P (dC, dI) vwCl (mW h0 ad cid sg gm lg) H := hP
        have hD : va_D A (mW h0 ad cid sg gm lg) := hD
        have h152 := (chF_in (n := 0) hdoc.1.1 (show iv 0 80 (sg 24) from MI_s hI 24) hHE.1 hHE.2.1 fN_r_33 (by rw [← ez_21]; have := (h_32).1; omega)).1
        refine mr_iald hx hb hK hP 19 (k := 26) rfl rfl rfl (show vp_in r_33 80 from (iv_in h152 (by decide))) dX13_deliver_152 ?_
        refine lv_topi (fun z_35 ez_35 => ?_)
        have hz_35 : iv 0 10 z_35 := iv_of ez_35 (MI_a hI 26 h152 (by decide))
        refine lv_bipush (v := 6) hx hb dX13_deliver_153 (by decide) ?_
        refine lv_icmp_ne (tgt := 162) hx hb dX13_deliver_155 (by decide) (fun c_36 => ?_) (fun c_36 => ?_)
        · have d_37 : ¬ (z_35 : Int32).toInt = 6 := lv_neT c_36 rfl
          refine lv_iconst (v := 0) hx hb dX13_deliver_162 (by decide) ?_
          refine lv_istore (lv' := [(4, .int 0), (3, .int z_20), (2, .int z_16), (1, .int z_1), (0, .ref h0)]) hx hb dX13_deliver_163 hl (by decide) rfl (fun ls hl => ?_)
          refine lv_aload_n hx hb dX13_deliver_165 rfl (lv_at hl 4 rfl) ?_
          refine lv_iload_n hx hb dX13_deliver_166 rfl (lv_at hl 1 rfl) ?_
          refine lv_iload hx hb dX13_deliver_167 (lv_at hl 0 rfl) ?_
          refine lv_if_eq (tgt := 181) hx hb dX13_deliver_169 (by decide) (fun _ => ?_) (fun c_38 => absurd (by decide) c_38)
          refine lv_iconst (v := (-1)) hx hb dX13_deliver_181 (by decide) ?_
          refine lv_iconst (v := 1) hx hb dX13_deliver_182 (by decide) ?_
          refine lv_aload_n hx hb dX13_deliver_183 rfl (lv_at hl 4 rfl) ?_
          refine mr_get (v := .int (sg 74)) hx hb htb inX13 hown hK hP 74 (by decide) (htb _ kw_1161) rfl dX13_deliver_184 ?_
          refine mr_callv (rest := []) ⟨hx, hb, hml, hown, htb⟩ (f_keep9 l dC dI h0 ad cid sg gm lg z_20 (-1) 1 (sg 74) hI (iv_w hz_20 (by decide)) (iv_w (iv_k (by decide) : iv (-1) (-1) (-1)) (by decide)) (iv_w (iv_k (by decide) : iv 1 1 1) (by decide)) (iv_w h74 (by decide)) hva (vok_1 h74.2)) (cwV 4 htb (gd_V kw_1180 kw_1181 kw_1182 kw_5 kw_1610) rfl rfl rfl (by decide +kernel) ⟨Nat.le_of_ble_eq_true rfl, Nat.le_of_ble_eq_true rfl⟩) rfl hl.1 rfl (Nat.le_of_ble_eq_true rfl) dX13_deliver_187 ⟨Nat.zero_le _, Nat.zero_le _⟩ hK hP hD hS hA (fun u_40 H locs hw hP hD hS => ?_)
          obtain ⟨sgv_41, gmv_41, lgv_41, rfl, hIv_41, ksv_41, kgv_41, klv_41, fV_r_39, fK_r_39⟩ := hw
          obtain rfl := KS_nil ksv_41
          obtain rfl := KS_nil klv_41
          have hP : va_P (dC, dI) vwCl (mW h0 ad cid sg gmv_41 lg) H := hP
          have hD : va_D A (mW h0 ad cid sg gmv_41 lg) := hD
          refine lv_aload_n hx hb dX13_deliver_190 rfl (lv_at hl 4 rfl) ?_
          refine mr_get (v := .ref (ad 67)) hx hb htb inX13 hown hK hP 67 (by decide) (htb _ kw_216) rfl dX13_deliver_191 ?_
          refine lv_iload_n hx hb dX13_deliver_194 rfl (lv_at hl 3 rfl) ?_
          refine lv_dup2_11 hx hb dX13_deliver_195 rfl rfl ?_
          refine mr_iald hx hb hK hP 52 (k := 67) rfl rfl rfl (show vp_in z_1 81 from (iv_in hz_1 (by decide))) dX13_deliver_196 ?_
          refine lv_topi (fun z_42 ez_42 => ?_)
          have hz_42 : iv 0 6 z_42 := iv_of ez_42 (MI_a hIv_41 67 hz_1 (by decide))
          have ez_42 := ez_42.trans (congrFun (kgv_41 67 (by decide)) _)
          have h_43 : iv 0 5 z_42 := ⟨(hz_42).1, by have q9 := ez_42; rw [htop] at q9; rw [q9]; have q8 := (LIM_iv hdoc.1.1 (show iv 0 80 (sg 24) from MI_s hI 24) hdoc.1.2.1 hHE.1 hHE.2.1).2; have := hHE.2.2.2; omega⟩
          refine lv_iconst (v := 1) hx hb dX13_deliver_197 (by decide) ?_
          refine lv_iadd hx hb dX13_deliver_198 ?_
          refine lv_topi (fun z_44 ez_44 => ?_)
          have hz_44 : iv 1 6 z_44 := iv_of ez_44 (iv_add h_43 (iv_k (by decide) : iv 1 1 1) (by decide))
          have tz_44 : z_44.toInt = (z_42 : Int32).toInt + 1 := by rw [ez_44]; exact iv_addE h_43 (iv_k (by decide) : iv 1 1 1) (by decide)
          refine ma_iast (x := z_44) hx hb hK hP hD hS 52 (k := 67) rfl rfl rfl (show vp_in z_1 81 from (iv_in hz_1 (by decide))) dX13_deliver_199 (fun gm_45 H locs egm_45 hP hD hS => ?_)
          have hI_gm_45 := MI_st hIv_41 egm_45 hz_44 (by decide)
          exact W.vret hx hb hr (fun t ht hW => ⟨⟨(sg, gm_45, lg), rfl, ⟨sg, gm_45, lg, rfl, hI_gm_45, KS_rf, (KS_up (KS_tr (L := [67, 68, 70, 71, 72, 73]) KS_rf kgv_41 (by decide)) egm_45 (by decide)), KS_rf, ((VAL_k ((show KS [67] gmv_41 gm_45 from (KS_up KS_rf egm_45 (by decide))) 70 (by decide)) ((show KS [67] gmv_41 gm_45 from (KS_up KS_rf egm_45 (by decide))) 71 (by decide)) ((show KS [67] gmv_41 gm_45 from (KS_up KS_rf egm_45 (by decide))) 72 (by decide)) ((show KS [67] gmv_41 gm_45 from (KS_up KS_rf egm_45 (by decide))) 73 (by decide)) fV_r_39)), (Or.inr ⟨hp9, z_44, by rw [← htop]; exact (show gm_45 67 = upd (gm 67) (z_1 : Int32).toNatClampNeg z_44 from ((up_at egm_45).trans (by rw [show gmv_41 67 = gm 67 from ((kgv_41 67 (by decide)).trans rfl)]))), by have := tz_44; have := congrArg Int32.toInt (show z_42 = gm 67 (TOPn sg) from (by have q9 := ez_42; rw [htop] at q9; exact q9)); omega⟩), (Or.inr (Or.inr ⟨hp9, (Eq.trans (up_ne egm_45 (by decide)) (kgv_41 68 (by decide))), _, KP8_k fK_r_39 (show z_20.toNatClampNeg = slR gm (TOPn sg) from (by unfold slR; rw [if_neg (by rw [(show (gm 65 (TOPn sg)).toInt = 4 from (by rw [← (show z_2 = gm 65 (TOPn sg) from (by have q9 := ez_2; rw [htop] at q9; exact q9))]; have := i32_0; have := i32_1; have := i32_2; have := i32_m1; have := (h63).1; have := (h63).2; have := (h74).1; have := (h74).2; have := (hz_1).1; have := (hz_1).2; have := (h_10).1; have := (h_10).2; have := (hz_11).1; have := (hz_11).2; have := (hz_12).1; have := (hz_12).2; have := (h_14).1; have := (h_14).2; have := (hz_15).1; have := (hz_15).2; have := (hHE.1).1; have := (hHE.1).2; have := (hz_17).1; have := (hz_17).2; have := (hz_20).1; have := (hz_20).2; have := (h_32).1; have := (h_32).2; have := (h152).1; have := (h152).2; have := (hz_35).1; have := (hz_35).2; have := (h_43).1; have := (h_43).2; have := (hz_44).1; have := (hz_44).2; omega))]; decide)]; have q5 := htop; have q1 : z_20.toNatClampNeg = z_20.toInt.toNat := rfl; have q1 : z_1.toNatClampNeg = z_1.toInt.toNat := rfl; have := i32_0; have := i32_1; have := i32_2; have := i32_m1; have := (h63).1; have := (h63).2; have := (h74).1; have := (h74).2; have := (hz_1).1; have := (hz_1).2; have := (h_10).1; have := (h_10).2; have := (hz_11).1; have := (hz_11).2; have := (hz_12).1; have := (hz_12).2; have := (h_14).1; have := (h_14).2; have := (hz_15).1; have := (hz_15).2; have := (hHE.1).1; have := (hHE.1).2; have := (hz_17).1; have := (hz_17).2; have := (hz_20).1; have := (hz_20).2; have := (h_32).1; have := (h_32).2; have := (h152).1; have := (h152).2; have := (hz_35).1; have := (hz_35).2; have := (h_43).1; have := (h_43).2; have := (hz_44).1; have := (hz_44).2; omega)) ((show KS [67] gmv_41 gm_45 from (KS_up KS_rf egm_45 (by decide))) 70 (by decide)) ((show KS [67] gmv_41 gm_45 from (KS_up KS_rf egm_45 (by decide))) 71 (by decide)) ((show KS [67] gmv_41 gm_45 from (KS_up KS_rf egm_45 (by decide))) 72 (by decide)) ((show KS [67] gmv_41 gm_45 from (KS_up KS_rf egm_45 (by decide))) 73 (by decide)), Or.inr ⟨(show ¬ liR sg gm (elR sg gm lg (TOPn sg)) from (by rw [← hel]; exact fun q => absurd q.2 (by rw [← fN_r_33, ← ez_35]; exact c_36))), by decide⟩⟩))⟩, by rw [ht]; exact hP, va_K.moved hW.alike hK, hD⟩, hS.F ht⟩) hS.2.2 dX13_deliver_200
        · have h_46 : iv 6 6 z_35 := iv_eq c_36 hz_35 (iv_k (by decide) : iv 6 6 6) (by decide)
          refine lv_iconst (v := 1) hx hb dX13_deliver_158 (by decide) ?_
          refine lv_goto (tgt := 163) hx hb dX13_deliver_159 (by decide) ?_
          refine lv_istore (lv' := [(4, .int 1), (3, .int z_20), (2, .int z_16), (1, .int z_1), (0, .ref h0)]) hx hb dX13_deliver_163 hl (by decide) rfl (fun ls hl => ?_)
          refine lv_aload_n hx hb dX13_deliver_165 rfl (lv_at hl 4 rfl) ?_
          refine lv_iload_n hx hb dX13_deliver_166 rfl (lv_at hl 1 rfl) ?_
          refine lv_iload hx hb dX13_deliver_167 (lv_at hl 0 rfl) ?_
          refine lv_if_eq (tgt := 181) hx hb dX13_deliver_169 (by decide) (fun c_47 => absurd c_47 (by decide)) (fun _ => ?_)
          refine lv_aload_n hx hb dX13_deliver_172 rfl (lv_at hl 4 rfl) ?_
          refine mr_get (v := .ref (ad 67)) hx hb htb inX13 hown hK hP 67 (by decide) (htb _ kw_216) rfl dX13_deliver_173 ?_
          refine lv_iload_n hx hb dX13_deliver_176 rfl (lv_at hl 3 rfl) ?_
          refine mr_iald hx hb hK hP 52 (k := 67) rfl rfl rfl (show vp_in z_1 81 from (iv_in hz_1 (by decide))) dX13_deliver_177 ?_
          refine lv_topi (fun z_48 ez_48 => ?_)
          have hz_48 : iv 0 6 z_48 := iv_of ez_48 (MI_a hI 67 hz_1 (by decide))
          have h_49 : iv 0 5 z_48 := ⟨(hz_48).1, by have q9 := ez_48; rw [htop] at q9; rw [q9]; have q8 := (LIM_iv hdoc.1.1 (show iv 0 80 (sg 24) from MI_s hI 24) hdoc.1.2.1 hHE.1 hHE.2.1).2; have := hHE.2.2.2; omega⟩
          refine lv_goto (tgt := 182) hx hb dX13_deliver_178 (by decide) ?_
          refine lv_iconst (v := 1) hx hb dX13_deliver_182 (by decide) ?_
          refine lv_aload_n hx hb dX13_deliver_183 rfl (lv_at hl 4 rfl) ?_
          refine mr_get (v := .int (sg 74)) hx hb htb inX13 hown hK hP 74 (by decide) (htb _ kw_1161) rfl dX13_deliver_184 ?_
          refine mr_callv (rest := []) ⟨hx, hb, hml, hown, htb⟩ (f_keep9 l dC dI h0 ad cid sg gm lg z_20 z_48 1 (sg 74) hI (iv_w hz_20 (by decide)) (iv_w h_49 (by decide)) (iv_w (iv_k (by decide) : iv 1 1 1) (by decide)) (iv_w h74 (by decide)) hva (vok_1 h74.2)) (cwV 4 htb (gd_V kw_1180 kw_1181 kw_1182 kw_5 kw_1610) rfl rfl rfl (by decide +kernel) ⟨Nat.le_of_ble_eq_true rfl, Nat.le_of_ble_eq_true rfl⟩) rfl hl.1 rfl (Nat.le_of_ble_eq_true rfl) dX13_deliver_187 ⟨Nat.zero_le _, Nat.zero_le _⟩ hK hP hD hS hA (fun u_51 H locs hw hP hD hS => ?_)
          obtain ⟨sgv_52, gmv_52, lgv_52, rfl, hIv_52, ksv_52, kgv_52, klv_52, fV_r_50, fK_r_50⟩ := hw
          obtain rfl := KS_nil ksv_52
          obtain rfl := KS_nil klv_52
          have hP : va_P (dC, dI) vwCl (mW h0 ad cid sg gmv_52 lg) H := hP
          have hD : va_D A (mW h0 ad cid sg gmv_52 lg) := hD
          refine lv_aload_n hx hb dX13_deliver_190 rfl (lv_at hl 4 rfl) ?_
          refine mr_get (v := .ref (ad 67)) hx hb htb inX13 hown hK hP 67 (by decide) (htb _ kw_216) rfl dX13_deliver_191 ?_
          refine lv_iload_n hx hb dX13_deliver_194 rfl (lv_at hl 3 rfl) ?_
          refine lv_dup2_11 hx hb dX13_deliver_195 rfl rfl ?_
          refine mr_iald hx hb hK hP 52 (k := 67) rfl rfl rfl (show vp_in z_1 81 from (iv_in hz_1 (by decide))) dX13_deliver_196 ?_
          refine lv_topi (fun z_53 ez_53 => ?_)
          obtain rfl : z_48 = z_53 := ez_48.trans (ez_53.trans (congrFun (kgv_52 67 (by decide)) _)).symm
          refine lv_iconst (v := 1) hx hb dX13_deliver_197 (by decide) ?_
          refine lv_iadd hx hb dX13_deliver_198 ?_
          refine lv_topi (fun z_54 ez_54 => ?_)
          have hz_54 : iv 1 6 z_54 := iv_of ez_54 (iv_add h_49 (iv_k (by decide) : iv 1 1 1) (by decide))
          have tz_54 : z_54.toInt = (z_48 : Int32).toInt + 1 := by rw [ez_54]; exact iv_addE h_49 (iv_k (by decide) : iv 1 1 1) (by decide)
          refine ma_iast (x := z_54) hx hb hK hP hD hS 52 (k := 67) rfl rfl rfl (show vp_in z_1 81 from (iv_in hz_1 (by decide))) dX13_deliver_199 (fun gm_55 H locs egm_55 hP hD hS => ?_)
          have hI_gm_55 := MI_st hIv_52 egm_55 hz_54 (by decide)
          exact W.vret hx hb hr (fun t ht hW => ⟨⟨(sg, gm_55, lg), rfl, ⟨sg, gm_55, lg, rfl, hI_gm_55, KS_rf, (KS_up (KS_tr (L := [67, 68, 70, 71, 72, 73]) KS_rf kgv_52 (by decide)) egm_55 (by decide)), KS_rf, ((VAL_k ((show KS [67] gmv_52 gm_55 from (KS_up KS_rf egm_55 (by decide))) 70 (by decide)) ((show KS [67] gmv_52 gm_55 from (KS_up KS_rf egm_55 (by decide))) 71 (by decide)) ((show KS [67] gmv_52 gm_55 from (KS_up KS_rf egm_55 (by decide))) 72 (by decide)) ((show KS [67] gmv_52 gm_55 from (KS_up KS_rf egm_55 (by decide))) 73 (by decide)) fV_r_50)), (Or.inr ⟨hp9, z_54, by rw [← htop]; exact (show gm_55 67 = upd (gm 67) (z_1 : Int32).toNatClampNeg z_54 from ((up_at egm_55).trans (by rw [show gmv_52 67 = gm 67 from ((kgv_52 67 (by decide)).trans rfl)]))), by have := tz_54; have := congrArg Int32.toInt (show z_48 = gm 67 (TOPn sg) from (by have q9 := ez_48; rw [htop] at q9; exact q9)); omega⟩), (Or.inr (Or.inr ⟨hp9, (Eq.trans (up_ne egm_55 (by decide)) (kgv_52 68 (by decide))), _, KP8_k fK_r_50 (show z_20.toNatClampNeg = slR gm (TOPn sg) from (by unfold slR; rw [if_neg (by rw [(show (gm 65 (TOPn sg)).toInt = 4 from (by rw [← (show z_2 = gm 65 (TOPn sg) from (by have q9 := ez_2; rw [htop] at q9; exact q9))]; have := i32_0; have := i32_1; have := i32_2; have := i32_m1; have := (h63).1; have := (h63).2; have := (h74).1; have := (h74).2; have := (hz_1).1; have := (hz_1).2; have := (h_10).1; have := (h_10).2; have := (hz_11).1; have := (hz_11).2; have := (hz_12).1; have := (hz_12).2; have := (h_14).1; have := (h_14).2; have := (hz_15).1; have := (hz_15).2; have := (hHE.1).1; have := (hHE.1).2; have := (hz_17).1; have := (hz_17).2; have := (hz_20).1; have := (hz_20).2; have := (h_32).1; have := (h_32).2; have := (h152).1; have := (h152).2; have := (h_46).1; have := (h_46).2; have := (h_49).1; have := (h_49).2; have := (hz_54).1; have := (hz_54).2; omega))]; decide)]; have q5 := htop; have q1 : z_20.toNatClampNeg = z_20.toInt.toNat := rfl; have q1 : z_1.toNatClampNeg = z_1.toInt.toNat := rfl; have := i32_0; have := i32_1; have := i32_2; have := i32_m1; have := (h63).1; have := (h63).2; have := (h74).1; have := (h74).2; have := (hz_1).1; have := (hz_1).2; have := (h_10).1; have := (h_10).2; have := (hz_11).1; have := (hz_11).2; have := (hz_12).1; have := (hz_12).2; have := (h_14).1; have := (h_14).2; have := (hz_15).1; have := (hz_15).2; have := (hHE.1).1; have := (hHE.1).2; have := (hz_17).1; have := (hz_17).2; have := (hz_20).1; have := (hz_20).2; have := (h_32).1; have := (h_32).2; have := (h152).1; have := (h152).2; have := (h_46).1; have := (h_46).2; have := (h_49).1; have := (h_49).2; have := (hz_54).1; have := (hz_54).2; omega)) ((show KS [67] gmv_52 gm_55 from (KS_up KS_rf egm_55 (by decide))) 70 (by decide)) ((show KS [67] gmv_52 gm_55 from (KS_up KS_rf egm_55 (by decide))) 71 (by decide)) ((show KS [67] gmv_52 gm_55 from (KS_up KS_rf egm_55 (by decide))) 72 (by decide)) ((show KS [67] gmv_52 gm_55 from (KS_up KS_rf egm_55 (by decide))) 73 (by decide)), Or.inl ⟨(show liR sg gm (elR sg gm lg (TOPn sg)) from (by rw [← hel]; exact ⟨(by rw [← ez_21]; have := i32_0; have := i32_1; have := i32_2; have := i32_m1; have := (h63).1; have := (h63).2; have := (h74).1; have := (h74).2; have := (hz_1).1; have := (hz_1).2; have := (h_10).1; have := (h_10).2; have := (hz_11).1; have := (hz_11).2; have := (hz_12).1; have := (hz_12).2; have := (h_14).1; have := (h_14).2; have := (hz_15).1; have := (hz_15).2; have := (hHE.1).1; have := (hHE.1).2; have := (hz_17).1; have := (hz_17).2; have := (hz_20).1; have := (hz_20).2; have := (h_32).1; have := (h_32).2; have := (h152).1; have := (h152).2; have := (h_46).1; have := (h_46).2; have := (h_49).1; have := (h_49).2; have := (hz_54).1; have := (hz_54).2; omega), (by rw [← fN_r_33, ← ez_35]; exact c_36)⟩)), (by rw [ez_48, htop])⟩⟩))⟩, by rw [ht]; exact hP, va_K.moved hW.alike hK, hD⟩, hS.F ht⟩) hS.2.2 dX13_deliver_200
    · have h_56 : iv 4 3 z_2 := iv_eq c_19 h_10 (iv_k (by decide) : iv 3 3 3) (by decide)
      exact (iv_no h_56 (by decide)).elim
  · have h_57 : iv 3 3 z_2 := iv_eq c_9 h56 (iv_k (by decide) : iv 3 3 3) (by decide)
    refine lv_aload_n hx hb dX13_deliver_66 rfl (lv_at hl 1 rfl) ?_
    refine lv_aload_n hx hb dX13_deliver_67 rfl (lv_at hl 1 rfl) ?_
    refine mr_get (v := .ref (ad 64)) hx hb htb inX13 hown hK hP 64 (by decide) (htb _ kw_213) rfl dX13_deliver_68 ?_
    refine lv_iload_n hx hb dX13_deliver_71 rfl (lv_at hl 0 rfl) ?_
    refine mr_iald hx hb hK hP 49 (k := 64) rfl rfl rfl (show vp_in z_1 81 from (iv_in hz_1 (by decide))) dX13_deliver_72 ?_
    refine lv_topi (fun z_58 ez_58 => ?_)
    have hz_58 : iv 0 79 z_58 := iv_of ez_58 (MI_a hI 64 hz_1 (by decide))
    refine lv_aload_n hx hb dX13_deliver_73 rfl (lv_at hl 1 rfl) ?_
    refine mr_get (v := .ref (ad 66)) hx hb htb inX13 hown hK hP 66 (by decide) (htb _ kw_215) rfl dX13_deliver_74 ?_
    refine lv_iload_n hx hb dX13_deliver_77 rfl (lv_at hl 0 rfl) ?_
    refine mr_iald hx hb hK hP 51 (k := 66) rfl rfl rfl (show vp_in z_1 81 from (iv_in hz_1 (by decide))) dX13_deliver_78 ?_
    refine lv_topi (fun z_59 ez_59 => ?_)
    have hz_59 : iv 0 26 z_59 := iv_of ez_59 (MI_a hI 66 hz_1 (by decide))
    refine mr_calli (rest := []) ⟨hx, hb, hml, hown, htb⟩ (f_arg l dC dI h0 ad cid sg gm lg z_58 z_59 hI hz_58 (iv_w hz_59 (by decide)) (by rw [(show z_58 = gm 64 (TOPn sg) from (by have q9 := ez_58; rw [htop] at q9; exact q9))]; exact hpb.2) hdoc.1.2.2.2) (cwV 2 htb (gd_V kw_1174 kw_1175 kw_1176 kw_5 kw_1608) rfl rfl rfl (by decide +kernel) ⟨Nat.le_of_ble_eq_true rfl, Nat.le_of_ble_eq_true rfl⟩) rfl hl.1 rfl (Nat.le_of_ble_eq_true rfl) dX13_deliver_79 ⟨Nat.zero_le _, Nat.zero_le _⟩ hK hP hD hS hA (fun r_60 u_61 H locs hw hP hD hS => ?_)
    obtain ⟨hr_60, fR_r_60, rfl⟩ := hw
    have hP : va_P (dC, dI) vwCl (mW h0 ad cid sg gm lg) H := hP
    have hD : va_D A (mW h0 ad cid sg gm lg) := hD
    have hp3 : (gm 65 (TOPn sg)).toInt = 3 := by rw [← (show z_2 = gm 65 (TOPn sg) from (by have q9 := ez_2; rw [htop] at q9; exact q9))]; exact congrArg Int32.toInt c_9
    obtain ⟨hHE, hi3⟩ := FR_3 (r := r_60) (show iv 0 80 (sg 24) from MI_s hI 24) hdoc.1.2.1 hfr hp3 hit0 (by rw [← (show z_58 = gm 64 (TOPn sg) from (by have q9 := ez_58; rw [htop] at q9; exact q9)), ← (show z_59 = gm 66 (TOPn sg) from (by have q9 := ez_59; rw [htop] at q9; exact q9))]; exact fR_r_60)
    refine lv_goto (tgt := 106) hx hb dX13_deliver_82 (by decide) ?_
    have hHE : HEL sg gm r_60 ((gm 67 (TOPn sg)).toInt + 1) := hHE
    have h3i : (gm 65 (TOPn sg)).toInt = 3 → (gm 66 (TOPn sg)).toNatClampNeg ≤ 3 := fun _ => hi3
    have hp9 : 3 ≤ (gm 65 (TOPn sg)).toInt := by rw [← (show z_2 = gm 65 (TOPn sg) from (by have q9 := ez_2; rw [htop] at q9; exact q9))]; have := (h_57).1; omega
    have hel : r_60 = elR sg gm lg (TOPn sg) := (by unfold elR; rw [if_pos (show (gm 65 (TOPn sg)).toInt = 3 from (by rw [← (show z_2 = gm 65 (TOPn sg) from (by have q9 := ez_2; rw [htop] at q9; exact q9))]; have := i32_0; have := i32_1; have := i32_2; have := i32_m1; have := (h63).1; have := (h63).2; have := (h74).1; have := (h74).2; have := (hz_1).1; have := (hz_1).2; have := (h_57).1; have := (h_57).2; have := (hz_58).1; have := (hz_58).2; have := (hz_59).1; have := (hz_59).2; have := (hHE.1).1; have := (hHE.1).2; omega)), ← (show z_58 = gm 64 (TOPn sg) from (by have q9 := ez_58; rw [htop] at q9; exact q9)), ← (show z_59 = gm 66 (TOPn sg) from (by have q9 := ez_59; rw [htop] at q9; exact q9))]; exact fR_r_60)
    refine lv_istore_n (lv' := [(2, .int r_60), (1, .int z_1), (0, .ref h0)]) hx hb dX13_deliver_106 rfl hl (by decide) rfl (fun ls hl => ?_)
    refine lv_iconst (v := 5) hx hb dX13_deliver_107 (by decide) ?_
    refine lv_iload_n hx hb dX13_deliver_108 rfl (lv_at hl 1 rfl) ?_
    refine lv_imul hx hb dX13_deliver_109 ?_
    refine lv_topi (fun z_62 ez_62 => ?_)
    have hz_62 : iv 0 395 z_62 := iv_of ez_62 (iv_mul (iv_k (by decide) : iv 5 5 5) hz_1 (by decide))
    have tz_62 : z_62.toInt = 5 * (z_1 : Int32).toInt := by rw [ez_62]; exact iv_mulE (iv_k (by decide) : iv 5 5 5) hz_1 (by decide)
    refine lv_aload_n hx hb dX13_deliver_110 rfl (lv_at hl 2 rfl) ?_
    refine mr_get (v := .ref (ad 65)) hx hb htb inX13 hown hK hP 65 (by decide) (htb _ kw_214) rfl dX13_deliver_111 ?_
    refine lv_iload_n hx hb dX13_deliver_114 rfl (lv_at hl 1 rfl) ?_
    refine mr_iald hx hb hK hP 50 (k := 65) rfl rfl rfl (show vp_in z_1 81 from (iv_in hz_1 (by decide))) dX13_deliver_115 ?_
    refine lv_topi (fun z_63 ez_63 => ?_)
    obtain rfl : z_2 = z_63 := ez_2.trans ez_63.symm
    refine lv_iconst (v := 3) hx hb dX13_deliver_116 (by decide) ?_
    refine lv_icmp_ne (tgt := 129) hx hb dX13_deliver_117 (by decide) (fun c_64 => ?_) (fun c_64 => ?_)
    · have h_65 : iv 4 3 z_2 := iv_neL c_64 h_57 (by decide)
      exact (iv_no h_65 (by decide)).elim
    · refine lv_aload_n hx hb dX13_deliver_120 rfl (lv_at hl 2 rfl) ?_
      refine mr_get (v := .ref (ad 66)) hx hb htb inX13 hown hK hP 66 (by decide) (htb _ kw_215) rfl dX13_deliver_121 ?_
      refine lv_iload_n hx hb dX13_deliver_124 rfl (lv_at hl 1 rfl) ?_
      refine mr_iald hx hb hK hP 51 (k := 66) rfl rfl rfl (show vp_in z_1 81 from (iv_in hz_1 (by decide))) dX13_deliver_125 ?_
      refine lv_topi (fun z_66 ez_66 => ?_)
      obtain rfl : z_59 = z_66 := ez_59.trans ez_66.symm
      have h126 : iv 0 3 z_59 := ⟨(hz_59).1, (by have q8 := h3i (show (gm 65 (TOPn sg)).toInt = 3 from (by rw [← (show z_2 = gm 65 (TOPn sg) from (by have q9 := ez_2; rw [htop] at q9; exact q9))]; have := i32_0; have := i32_1; have := i32_2; have := i32_m1; have := (h63).1; have := (h63).2; have := (h74).1; have := (h74).2; have := (hz_1).1; have := (hz_1).2; have := (h_57).1; have := (h_57).2; have := (hz_58).1; have := (hz_58).2; have := (hz_59).1; have := (hz_59).2; have := (hHE.1).1; have := (hHE.1).2; have := (hz_62).1; have := (hz_62).2; omega)); rw [← (show z_59 = gm 66 (TOPn sg) from (by rw [ez_59, htop]))] at q8; have q1 : z_59.toNatClampNeg = z_59.toInt.toNat := rfl; have := i32_0; have := i32_1; have := i32_2; have := i32_m1; have := (h63).1; have := (h63).2; have := (h74).1; have := (h74).2; have := (hz_1).1; have := (hz_1).2; have := (h_57).1; have := (h_57).2; have := (hz_58).1; have := (hz_58).2; have := (hz_59).1; have := (hz_59).2; have := (hHE.1).1; have := (hHE.1).2; have := (hz_62).1; have := (hz_62).2; omega)⟩
      refine lv_goto (tgt := 130) hx hb dX13_deliver_126 (by decide) ?_
      refine lv_iadd hx hb dX13_deliver_130 ?_
      refine lv_topi (fun z_67 ez_67 => ?_)
      have hz_67 : iv 0 398 z_67 := iv_of ez_67 (iv_add hz_62 h126 (by decide))
      have tz_67 : z_67.toInt = (z_62 : Int32).toInt + (z_59 : Int32).toInt := by rw [ez_67]; exact iv_addE hz_62 h126 (by decide)
      refine lv_istore_n (lv' := [(3, .int z_67), (2, .int r_60), (1, .int z_1), (0, .ref h0)]) hx hb dX13_deliver_131 rfl hl (by decide) rfl (fun ls hl => ?_)
      refine lv_aload_n hx hb dX13_deliver_132 rfl (lv_at hl 3 rfl) ?_
      refine mr_get (v := .ref (ad 29)) hx hb htb inX13 hown hK hP 29 (by decide) (htb _ kw_185) rfl dX13_deliver_133 ?_
      refine lv_iload_n hx hb dX13_deliver_136 rfl (lv_at hl 1 rfl) ?_
      refine mr_iald hx hb hK hP 22 (k := 29) rfl rfl rfl (show vp_in r_60 80 from (iv_in hHE.1 (by decide))) dX13_deliver_137 ?_
      refine lv_topi (fun z_68 ez_68 => ?_)
      have hz_68 : iv 0 80 z_68 := iv_of ez_68 (MI_a hI 29 hHE.1 (by decide))
      refine lv_if_le (tgt := 162) hx hb dX13_deliver_138 (by decide) (fun c_69 => ?_) (fun c_69 => ?_)
      · have h_70 : iv 0 0 z_68 := iv_leL c_69 hz_68 (iv_k (by decide) : iv 0 0 0) (by decide)
        refine lv_iconst (v := 0) hx hb dX13_deliver_162 (by decide) ?_
        refine lv_istore (lv' := [(4, .int 0), (3, .int z_67), (2, .int r_60), (1, .int z_1), (0, .ref h0)]) hx hb dX13_deliver_163 hl (by decide) rfl (fun ls hl => ?_)
        refine lv_aload_n hx hb dX13_deliver_165 rfl (lv_at hl 4 rfl) ?_
        refine lv_iload_n hx hb dX13_deliver_166 rfl (lv_at hl 1 rfl) ?_
        refine lv_iload hx hb dX13_deliver_167 (lv_at hl 0 rfl) ?_
        refine lv_if_eq (tgt := 181) hx hb dX13_deliver_169 (by decide) (fun _ => ?_) (fun c_71 => absurd (by decide) c_71)
        refine lv_iconst (v := (-1)) hx hb dX13_deliver_181 (by decide) ?_
        refine lv_iconst (v := 1) hx hb dX13_deliver_182 (by decide) ?_
        refine lv_aload_n hx hb dX13_deliver_183 rfl (lv_at hl 4 rfl) ?_
        refine mr_get (v := .int (sg 74)) hx hb htb inX13 hown hK hP 74 (by decide) (htb _ kw_1161) rfl dX13_deliver_184 ?_
        refine mr_callv (rest := []) ⟨hx, hb, hml, hown, htb⟩ (f_keep9 l dC dI h0 ad cid sg gm lg z_67 (-1) 1 (sg 74) hI (iv_w hz_67 (by decide)) (iv_w (iv_k (by decide) : iv (-1) (-1) (-1)) (by decide)) (iv_w (iv_k (by decide) : iv 1 1 1) (by decide)) (iv_w h74 (by decide)) hva (vok_1 h74.2)) (cwV 4 htb (gd_V kw_1180 kw_1181 kw_1182 kw_5 kw_1610) rfl rfl rfl (by decide +kernel) ⟨Nat.le_of_ble_eq_true rfl, Nat.le_of_ble_eq_true rfl⟩) rfl hl.1 rfl (Nat.le_of_ble_eq_true rfl) dX13_deliver_187 ⟨Nat.zero_le _, Nat.zero_le _⟩ hK hP hD hS hA (fun u_73 H locs hw hP hD hS => ?_)
        obtain ⟨sgv_74, gmv_74, lgv_74, rfl, hIv_74, ksv_74, kgv_74, klv_74, fV_r_72, fK_r_72⟩ := hw
        obtain rfl := KS_nil ksv_74
        obtain rfl := KS_nil klv_74
        have hP : va_P (dC, dI) vwCl (mW h0 ad cid sg gmv_74 lg) H := hP
        have hD : va_D A (mW h0 ad cid sg gmv_74 lg) := hD
        refine lv_aload_n hx hb dX13_deliver_190 rfl (lv_at hl 4 rfl) ?_
        refine mr_get (v := .ref (ad 67)) hx hb htb inX13 hown hK hP 67 (by decide) (htb _ kw_216) rfl dX13_deliver_191 ?_
        refine lv_iload_n hx hb dX13_deliver_194 rfl (lv_at hl 3 rfl) ?_
        refine lv_dup2_11 hx hb dX13_deliver_195 rfl rfl ?_
        refine mr_iald hx hb hK hP 52 (k := 67) rfl rfl rfl (show vp_in z_1 81 from (iv_in hz_1 (by decide))) dX13_deliver_196 ?_
        refine lv_topi (fun z_75 ez_75 => ?_)
        have hz_75 : iv 0 6 z_75 := iv_of ez_75 (MI_a hIv_74 67 hz_1 (by decide))
        have ez_75 := ez_75.trans (congrFun (kgv_74 67 (by decide)) _)
        have h_76 : iv 0 5 z_75 := ⟨(hz_75).1, by have q9 := ez_75; rw [htop] at q9; rw [q9]; have q8 := (LIM_iv hdoc.1.1 (show iv 0 80 (sg 24) from MI_s hI 24) hdoc.1.2.1 hHE.1 hHE.2.1).2; have := hHE.2.2.2; omega⟩
        refine lv_iconst (v := 1) hx hb dX13_deliver_197 (by decide) ?_
        refine lv_iadd hx hb dX13_deliver_198 ?_
        refine lv_topi (fun z_77 ez_77 => ?_)
        have hz_77 : iv 1 6 z_77 := iv_of ez_77 (iv_add h_76 (iv_k (by decide) : iv 1 1 1) (by decide))
        have tz_77 : z_77.toInt = (z_75 : Int32).toInt + 1 := by rw [ez_77]; exact iv_addE h_76 (iv_k (by decide) : iv 1 1 1) (by decide)
        refine ma_iast (x := z_77) hx hb hK hP hD hS 52 (k := 67) rfl rfl rfl (show vp_in z_1 81 from (iv_in hz_1 (by decide))) dX13_deliver_199 (fun gm_78 H locs egm_78 hP hD hS => ?_)
        have hI_gm_78 := MI_st hIv_74 egm_78 hz_77 (by decide)
        exact W.vret hx hb hr (fun t ht hW => ⟨⟨(sg, gm_78, lg), rfl, ⟨sg, gm_78, lg, rfl, hI_gm_78, KS_rf, (KS_up (KS_tr (L := [67, 68, 70, 71, 72, 73]) KS_rf kgv_74 (by decide)) egm_78 (by decide)), KS_rf, ((VAL_k ((show KS [67] gmv_74 gm_78 from (KS_up KS_rf egm_78 (by decide))) 70 (by decide)) ((show KS [67] gmv_74 gm_78 from (KS_up KS_rf egm_78 (by decide))) 71 (by decide)) ((show KS [67] gmv_74 gm_78 from (KS_up KS_rf egm_78 (by decide))) 72 (by decide)) ((show KS [67] gmv_74 gm_78 from (KS_up KS_rf egm_78 (by decide))) 73 (by decide)) fV_r_72)), (Or.inr ⟨hp9, z_77, by rw [← htop]; exact (show gm_78 67 = upd (gm 67) (z_1 : Int32).toNatClampNeg z_77 from ((up_at egm_78).trans (by rw [show gmv_74 67 = gm 67 from ((kgv_74 67 (by decide)).trans rfl)]))), by have := tz_77; have := congrArg Int32.toInt (show z_75 = gm 67 (TOPn sg) from (by have q9 := ez_75; rw [htop] at q9; exact q9)); omega⟩), (Or.inr (Or.inr ⟨hp9, (Eq.trans (up_ne egm_78 (by decide)) (kgv_74 68 (by decide))), _, KP8_k fK_r_72 (show z_67.toNatClampNeg = slR gm (TOPn sg) from (by unfold slR; rw [if_pos (show (gm 65 (TOPn sg)).toInt = 3 from (by rw [← (show z_2 = gm 65 (TOPn sg) from (by have q9 := ez_2; rw [htop] at q9; exact q9))]; have := i32_0; have := i32_1; have := i32_2; have := i32_m1; have := (h63).1; have := (h63).2; have := (h74).1; have := (h74).2; have := (hz_1).1; have := (hz_1).2; have := (h_57).1; have := (h_57).2; have := (hz_58).1; have := (hz_58).2; have := (h126).1; have := (h126).2; have := (hHE.1).1; have := (hHE.1).2; have := (hz_62).1; have := (hz_62).2; have := (hz_67).1; have := (hz_67).2; have := (h_70).1; have := (h_70).2; have := (h_76).1; have := (h_76).2; have := (hz_77).1; have := (hz_77).2; omega)), ← (show z_59 = gm 66 (TOPn sg) from (by rw [ez_59, htop]))]; have q5 := htop; have q1 : z_67.toNatClampNeg = z_67.toInt.toNat := rfl; have q1 : z_1.toNatClampNeg = z_1.toInt.toNat := rfl; have q1 : z_59.toNatClampNeg = z_59.toInt.toNat := rfl; have := i32_0; have := i32_1; have := i32_2; have := i32_m1; have := (h63).1; have := (h63).2; have := (h74).1; have := (h74).2; have := (hz_1).1; have := (hz_1).2; have := (h_57).1; have := (h_57).2; have := (hz_58).1; have := (hz_58).2; have := (h126).1; have := (h126).2; have := (hHE.1).1; have := (hHE.1).2; have := (hz_62).1; have := (hz_62).2; have := (hz_67).1; have := (hz_67).2; have := (h_70).1; have := (h_70).2; have := (h_76).1; have := (h_76).2; have := (hz_77).1; have := (hz_77).2; omega)) ((show KS [67] gmv_74 gm_78 from (KS_up KS_rf egm_78 (by decide))) 70 (by decide)) ((show KS [67] gmv_74 gm_78 from (KS_up KS_rf egm_78 (by decide))) 71 (by decide)) ((show KS [67] gmv_74 gm_78 from (KS_up KS_rf egm_78 (by decide))) 72 (by decide)) ((show KS [67] gmv_74 gm_78 from (KS_up KS_rf egm_78 (by decide))) 73 (by decide)), Or.inr ⟨(show ¬ liR sg gm (elR sg gm lg (TOPn sg)) from (by rw [← hel]; exact fun q => absurd q.1 (by rw [← ez_68]; have := i32_0; have := i32_1; have := i32_2; have := i32_m1; have := (h63).1; have := (h63).2; have := (h74).1; have := (h74).2; have := (hz_1).1; have := (hz_1).2; have := (h_57).1; have := (h_57).2; have := (hz_58).1; have := (hz_58).2; have := (h126).1; have := (h126).2; have := (hHE.1).1; have := (hHE.1).2; have := (hz_62).1; have := (hz_62).2; have := (hz_67).1; have := (hz_67).2; have := (h_70).1; have := (h_70).2; have := (h_76).1; have := (h_76).2; have := (hz_77).1; have := (hz_77).2; omega))), by decide⟩⟩))⟩, by rw [ht]; exact hP, va_K.moved hW.alike hK, hD⟩, hS.F ht⟩) hS.2.2 dX13_deliver_200
      · have h_79 : iv 1 80 z_68 := iv_ltR (i32_lt c_69) (iv_k (by decide) : iv 0 0 0) hz_68 (by decide)
        refine lv_aload_n hx hb dX13_deliver_141 rfl (lv_at hl 3 rfl) ?_
        refine mr_get (v := .ref (ad 26)) hx hb htb inX13 hown hK hP 26 (by decide) (htb _ kw_182) rfl dX13_deliver_142 ?_
        refine lv_aload_n hx hb dX13_deliver_145 rfl (lv_at hl 3 rfl) ?_
        refine lv_iload_n hx hb dX13_deliver_146 rfl (lv_at hl 1 rfl) ?_
        refine lv_iconst (v := 0) hx hb dX13_deliver_147 (by decide) ?_
        refine lv_iload_n hx hb dX13_deliver_148 rfl (lv_at hl 1 rfl) ?_
        refine mr_calli (rest := [.ref (ad 26)]) ⟨hx, hb, hml, hown, htb⟩ (f_inner l dC dI h0 ad cid sg gm lg r_60 0 r_60 hI (iv_w hHE.1 (by decide)) (iv_w (iv_k (by decide) : iv 0 0 0) (by decide)) hHE.1) (cwV 3 htb (gd_V kw_961 kw_962 kw_963 kw_5 kw_1557) rfl rfl rfl (by decide +kernel) ⟨Nat.le_of_ble_eq_true rfl, Nat.le_of_ble_eq_true rfl⟩) rfl hl.1 rfl (Nat.le_of_ble_eq_true rfl) dX13_deliver_149 ⟨Nat.zero_le _, Nat.zero_le _⟩ hK hP hD hS hA (fun r_80 u_81 H locs hw hP hD hS => ?_)
        obtain ⟨hr_80, fN_r_80, rfl⟩ := hw
        have hP : va_P (dC, dI) vwCl (mW h0 ad cid sg gm lg) H := hP
        have hD : va_D A (mW h0 ad cid sg gm lg) := hD
        have h152 := (chF_in (n := 0) hdoc.1.1 (show iv 0 80 (sg 24) from MI_s hI 24) hHE.1 hHE.2.1 fN_r_80 (by rw [← ez_68]; have := (h_79).1; omega)).1
        refine mr_iald hx hb hK hP 19 (k := 26) rfl rfl rfl (show vp_in r_80 80 from (iv_in h152 (by decide))) dX13_deliver_152 ?_
        refine lv_topi (fun z_82 ez_82 => ?_)
        have hz_82 : iv 0 10 z_82 := iv_of ez_82 (MI_a hI 26 h152 (by decide))
        refine lv_bipush (v := 6) hx hb dX13_deliver_153 (by decide) ?_
        refine lv_icmp_ne (tgt := 162) hx hb dX13_deliver_155 (by decide) (fun c_83 => ?_) (fun c_83 => ?_)
        · have d_84 : ¬ (z_82 : Int32).toInt = 6 := lv_neT c_83 rfl
          refine lv_iconst (v := 0) hx hb dX13_deliver_162 (by decide) ?_
          refine lv_istore (lv' := [(4, .int 0), (3, .int z_67), (2, .int r_60), (1, .int z_1), (0, .ref h0)]) hx hb dX13_deliver_163 hl (by decide) rfl (fun ls hl => ?_)
          refine lv_aload_n hx hb dX13_deliver_165 rfl (lv_at hl 4 rfl) ?_
          refine lv_iload_n hx hb dX13_deliver_166 rfl (lv_at hl 1 rfl) ?_
          refine lv_iload hx hb dX13_deliver_167 (lv_at hl 0 rfl) ?_
          refine lv_if_eq (tgt := 181) hx hb dX13_deliver_169 (by decide) (fun _ => ?_) (fun c_85 => absurd (by decide) c_85)
          refine lv_iconst (v := (-1)) hx hb dX13_deliver_181 (by decide) ?_
          refine lv_iconst (v := 1) hx hb dX13_deliver_182 (by decide) ?_
          refine lv_aload_n hx hb dX13_deliver_183 rfl (lv_at hl 4 rfl) ?_
          refine mr_get (v := .int (sg 74)) hx hb htb inX13 hown hK hP 74 (by decide) (htb _ kw_1161) rfl dX13_deliver_184 ?_
          refine mr_callv (rest := []) ⟨hx, hb, hml, hown, htb⟩ (f_keep9 l dC dI h0 ad cid sg gm lg z_67 (-1) 1 (sg 74) hI (iv_w hz_67 (by decide)) (iv_w (iv_k (by decide) : iv (-1) (-1) (-1)) (by decide)) (iv_w (iv_k (by decide) : iv 1 1 1) (by decide)) (iv_w h74 (by decide)) hva (vok_1 h74.2)) (cwV 4 htb (gd_V kw_1180 kw_1181 kw_1182 kw_5 kw_1610) rfl rfl rfl (by decide +kernel) ⟨Nat.le_of_ble_eq_true rfl, Nat.le_of_ble_eq_true rfl⟩) rfl hl.1 rfl (Nat.le_of_ble_eq_true rfl) dX13_deliver_187 ⟨Nat.zero_le _, Nat.zero_le _⟩ hK hP hD hS hA (fun u_87 H locs hw hP hD hS => ?_)
          obtain ⟨sgv_88, gmv_88, lgv_88, rfl, hIv_88, ksv_88, kgv_88, klv_88, fV_r_86, fK_r_86⟩ := hw
          obtain rfl := KS_nil ksv_88
          obtain rfl := KS_nil klv_88
          have hP : va_P (dC, dI) vwCl (mW h0 ad cid sg gmv_88 lg) H := hP
          have hD : va_D A (mW h0 ad cid sg gmv_88 lg) := hD
          refine lv_aload_n hx hb dX13_deliver_190 rfl (lv_at hl 4 rfl) ?_
          refine mr_get (v := .ref (ad 67)) hx hb htb inX13 hown hK hP 67 (by decide) (htb _ kw_216) rfl dX13_deliver_191 ?_
          refine lv_iload_n hx hb dX13_deliver_194 rfl (lv_at hl 3 rfl) ?_
          refine lv_dup2_11 hx hb dX13_deliver_195 rfl rfl ?_
          refine mr_iald hx hb hK hP 52 (k := 67) rfl rfl rfl (show vp_in z_1 81 from (iv_in hz_1 (by decide))) dX13_deliver_196 ?_
          refine lv_topi (fun z_89 ez_89 => ?_)
          have hz_89 : iv 0 6 z_89 := iv_of ez_89 (MI_a hIv_88 67 hz_1 (by decide))
          have ez_89 := ez_89.trans (congrFun (kgv_88 67 (by decide)) _)
          have h_90 : iv 0 5 z_89 := ⟨(hz_89).1, by have q9 := ez_89; rw [htop] at q9; rw [q9]; have q8 := (LIM_iv hdoc.1.1 (show iv 0 80 (sg 24) from MI_s hI 24) hdoc.1.2.1 hHE.1 hHE.2.1).2; have := hHE.2.2.2; omega⟩
          refine lv_iconst (v := 1) hx hb dX13_deliver_197 (by decide) ?_
          refine lv_iadd hx hb dX13_deliver_198 ?_
          refine lv_topi (fun z_91 ez_91 => ?_)
          have hz_91 : iv 1 6 z_91 := iv_of ez_91 (iv_add h_90 (iv_k (by decide) : iv 1 1 1) (by decide))
          have tz_91 : z_91.toInt = (z_89 : Int32).toInt + 1 := by rw [ez_91]; exact iv_addE h_90 (iv_k (by decide) : iv 1 1 1) (by decide)
          refine ma_iast (x := z_91) hx hb hK hP hD hS 52 (k := 67) rfl rfl rfl (show vp_in z_1 81 from (iv_in hz_1 (by decide))) dX13_deliver_199 (fun gm_92 H locs egm_92 hP hD hS => ?_)
          have hI_gm_92 := MI_st hIv_88 egm_92 hz_91 (by decide)
          exact W.vret hx hb hr (fun t ht hW => ⟨⟨(sg, gm_92, lg), rfl, ⟨sg, gm_92, lg, rfl, hI_gm_92, KS_rf, (KS_up (KS_tr (L := [67, 68, 70, 71, 72, 73]) KS_rf kgv_88 (by decide)) egm_92 (by decide)), KS_rf, ((VAL_k ((show KS [67] gmv_88 gm_92 from (KS_up KS_rf egm_92 (by decide))) 70 (by decide)) ((show KS [67] gmv_88 gm_92 from (KS_up KS_rf egm_92 (by decide))) 71 (by decide)) ((show KS [67] gmv_88 gm_92 from (KS_up KS_rf egm_92 (by decide))) 72 (by decide)) ((show KS [67] gmv_88 gm_92 from (KS_up KS_rf egm_92 (by decide))) 73 (by decide)) fV_r_86)), (Or.inr ⟨hp9, z_91, by rw [← htop]; exact (show gm_92 67 = upd (gm 67) (z_1 : Int32).toNatClampNeg z_91 from ((up_at egm_92).trans (by rw [show gmv_88 67 = gm 67 from ((kgv_88 67 (by decide)).trans rfl)]))), by have := tz_91; have := congrArg Int32.toInt (show z_89 = gm 67 (TOPn sg) from (by have q9 := ez_89; rw [htop] at q9; exact q9)); omega⟩), (Or.inr (Or.inr ⟨hp9, (Eq.trans (up_ne egm_92 (by decide)) (kgv_88 68 (by decide))), _, KP8_k fK_r_86 (show z_67.toNatClampNeg = slR gm (TOPn sg) from (by unfold slR; rw [if_pos (show (gm 65 (TOPn sg)).toInt = 3 from (by rw [← (show z_2 = gm 65 (TOPn sg) from (by have q9 := ez_2; rw [htop] at q9; exact q9))]; have := i32_0; have := i32_1; have := i32_2; have := i32_m1; have := (h63).1; have := (h63).2; have := (h74).1; have := (h74).2; have := (hz_1).1; have := (hz_1).2; have := (h_57).1; have := (h_57).2; have := (hz_58).1; have := (hz_58).2; have := (h126).1; have := (h126).2; have := (hHE.1).1; have := (hHE.1).2; have := (hz_62).1; have := (hz_62).2; have := (hz_67).1; have := (hz_67).2; have := (h_79).1; have := (h_79).2; have := (h152).1; have := (h152).2; have := (hz_82).1; have := (hz_82).2; have := (h_90).1; have := (h_90).2; have := (hz_91).1; have := (hz_91).2; omega)), ← (show z_59 = gm 66 (TOPn sg) from (by rw [ez_59, htop]))]; have q5 := htop; have q1 : z_67.toNatClampNeg = z_67.toInt.toNat := rfl; have q1 : z_1.toNatClampNeg = z_1.toInt.toNat := rfl; have q1 : z_59.toNatClampNeg = z_59.toInt.toNat := rfl; have := i32_0; have := i32_1; have := i32_2; have := i32_m1; have := (h63).1; have := (h63).2; have := (h74).1; have := (h74).2; have := (hz_1).1; have := (hz_1).2; have := (h_57).1; have := (h_57).2; have := (hz_58).1; have := (hz_58).2; have := (h126).1; have := (h126).2; have := (hHE.1).1; have := (hHE.1).2; have := (hz_62).1; have := (hz_62).2; have := (hz_67).1; have := (hz_67).2; have := (h_79).1; have := (h_79).2; have := (h152).1; have := (h152).2; have := (hz_82).1; have := (hz_82).2; have := (h_90).1; have := (h_90).2; have := (hz_91).1; have := (hz_91).2; omega)) ((show KS [67] gmv_88 gm_92 from (KS_up KS_rf egm_92 (by decide))) 70 (by decide)) ((show KS [67] gmv_88 gm_92 from (KS_up KS_rf egm_92 (by decide))) 71 (by decide)) ((show KS [67] gmv_88 gm_92 from (KS_up KS_rf egm_92 (by decide))) 72 (by decide)) ((show KS [67] gmv_88 gm_92 from (KS_up KS_rf egm_92 (by decide))) 73 (by decide)), Or.inr ⟨(show ¬ liR sg gm (elR sg gm lg (TOPn sg)) from (by rw [← hel]; exact fun q => absurd q.2 (by rw [← fN_r_80, ← ez_82]; exact c_83))), by decide⟩⟩))⟩, by rw [ht]; exact hP, va_K.moved hW.alike hK, hD⟩, hS.F ht⟩) hS.2.2 dX13_deliver_200
        · have h_93 : iv 6 6 z_82 := iv_eq c_83 hz_82 (iv_k (by decide) : iv 6 6 6) (by decide)
          refine lv_iconst (v := 1) hx hb dX13_deliver_158 (by decide) ?_
          refine lv_goto (tgt := 163) hx hb dX13_deliver_159 (by decide) ?_
          refine lv_istore (lv' := [(4, .int 1), (3, .int z_67), (2, .int r_60), (1, .int z_1), (0, .ref h0)]) hx hb dX13_deliver_163 hl (by decide) rfl (fun ls hl => ?_)
          refine lv_aload_n hx hb dX13_deliver_165 rfl (lv_at hl 4 rfl) ?_
          refine lv_iload_n hx hb dX13_deliver_166 rfl (lv_at hl 1 rfl) ?_
          refine lv_iload hx hb dX13_deliver_167 (lv_at hl 0 rfl) ?_
          refine lv_if_eq (tgt := 181) hx hb dX13_deliver_169 (by decide) (fun c_94 => absurd c_94 (by decide)) (fun _ => ?_)
          refine lv_aload_n hx hb dX13_deliver_172 rfl (lv_at hl 4 rfl) ?_
          refine mr_get (v := .ref (ad 67)) hx hb htb inX13 hown hK hP 67 (by decide) (htb _ kw_216) rfl dX13_deliver_173 ?_
          refine lv_iload_n hx hb dX13_deliver_176 rfl (lv_at hl 3 rfl) ?_
          refine mr_iald hx hb hK hP 52 (k := 67) rfl rfl rfl (show vp_in z_1 81 from (iv_in hz_1 (by decide))) dX13_deliver_177 ?_
          refine lv_topi (fun z_95 ez_95 => ?_)
          have hz_95 : iv 0 6 z_95 := iv_of ez_95 (MI_a hI 67 hz_1 (by decide))
          have h_96 : iv 0 5 z_95 := ⟨(hz_95).1, by have q9 := ez_95; rw [htop] at q9; rw [q9]; have q8 := (LIM_iv hdoc.1.1 (show iv 0 80 (sg 24) from MI_s hI 24) hdoc.1.2.1 hHE.1 hHE.2.1).2; have := hHE.2.2.2; omega⟩
          refine lv_goto (tgt := 182) hx hb dX13_deliver_178 (by decide) ?_
          refine lv_iconst (v := 1) hx hb dX13_deliver_182 (by decide) ?_
          refine lv_aload_n hx hb dX13_deliver_183 rfl (lv_at hl 4 rfl) ?_
          refine mr_get (v := .int (sg 74)) hx hb htb inX13 hown hK hP 74 (by decide) (htb _ kw_1161) rfl dX13_deliver_184 ?_
          refine mr_callv (rest := []) ⟨hx, hb, hml, hown, htb⟩ (f_keep9 l dC dI h0 ad cid sg gm lg z_67 z_95 1 (sg 74) hI (iv_w hz_67 (by decide)) (iv_w h_96 (by decide)) (iv_w (iv_k (by decide) : iv 1 1 1) (by decide)) (iv_w h74 (by decide)) hva (vok_1 h74.2)) (cwV 4 htb (gd_V kw_1180 kw_1181 kw_1182 kw_5 kw_1610) rfl rfl rfl (by decide +kernel) ⟨Nat.le_of_ble_eq_true rfl, Nat.le_of_ble_eq_true rfl⟩) rfl hl.1 rfl (Nat.le_of_ble_eq_true rfl) dX13_deliver_187 ⟨Nat.zero_le _, Nat.zero_le _⟩ hK hP hD hS hA (fun u_98 H locs hw hP hD hS => ?_)
          obtain ⟨sgv_99, gmv_99, lgv_99, rfl, hIv_99, ksv_99, kgv_99, klv_99, fV_r_97, fK_r_97⟩ := hw
          obtain rfl := KS_nil ksv_99
          obtain rfl := KS_nil klv_99
          have hP : va_P (dC, dI) vwCl (mW h0 ad cid sg gmv_99 lg) H := hP
          have hD : va_D A (mW h0 ad cid sg gmv_99 lg) := hD
          refine lv_aload_n hx hb dX13_deliver_190 rfl (lv_at hl 4 rfl) ?_
          refine mr_get (v := .ref (ad 67)) hx hb htb inX13 hown hK hP 67 (by decide) (htb _ kw_216) rfl dX13_deliver_191 ?_
          refine lv_iload_n hx hb dX13_deliver_194 rfl (lv_at hl 3 rfl) ?_
          refine lv_dup2_11 hx hb dX13_deliver_195 rfl rfl ?_
          refine mr_iald hx hb hK hP 52 (k := 67) rfl rfl rfl (show vp_in z_1 81 from (iv_in hz_1 (by decide))) dX13_deliver_196 ?_
          refine lv_topi (fun z_100 ez_100 => ?_)
          obtain rfl : z_95 = z_100 := ez_95.trans (ez_100.trans (congrFun (kgv_99 67 (by decide)) _)).symm
          refine lv_iconst (v := 1) hx hb dX13_deliver_197 (by decide) ?_
          refine lv_iadd hx hb dX13_deliver_198 ?_
          refine lv_topi (fun z_101 ez_101 => ?_)
          have hz_101 : iv 1 6 z_101 := iv_of ez_101 (iv_add h_96 (iv_k (by decide) : iv 1 1 1) (by decide))
          have tz_101 : z_101.toInt = (z_95 : Int32).toInt + 1 := by rw [ez_101]; exact iv_addE h_96 (iv_k (by decide) : iv 1 1 1) (by decide)
          refine ma_iast (x := z_101) hx hb hK hP hD hS 52 (k := 67) rfl rfl rfl (show vp_in z_1 81 from (iv_in hz_1 (by decide))) dX13_deliver_199 (fun gm_102 H locs egm_102 hP hD hS => ?_)
          have hI_gm_102 := MI_st hIv_99 egm_102 hz_101 (by decide)
          exact W.vret hx hb hr (fun t ht hW => ⟨⟨(sg, gm_102, lg), rfl, ⟨sg, gm_102, lg, rfl, hI_gm_102, KS_rf, (KS_up (KS_tr (L := [67, 68, 70, 71, 72, 73]) KS_rf kgv_99 (by decide)) egm_102 (by decide)), KS_rf, ((VAL_k ((show KS [67] gmv_99 gm_102 from (KS_up KS_rf egm_102 (by decide))) 70 (by decide)) ((show KS [67] gmv_99 gm_102 from (KS_up KS_rf egm_102 (by decide))) 71 (by decide)) ((show KS [67] gmv_99 gm_102 from (KS_up KS_rf egm_102 (by decide))) 72 (by decide)) ((show KS [67] gmv_99 gm_102 from (KS_up KS_rf egm_102 (by decide))) 73 (by decide)) fV_r_97)), (Or.inr ⟨hp9, z_101, by rw [← htop]; exact (show gm_102 67 = upd (gm 67) (z_1 : Int32).toNatClampNeg z_101 from ((up_at egm_102).trans (by rw [show gmv_99 67 = gm 67 from ((kgv_99 67 (by decide)).trans rfl)]))), by have := tz_101; have := congrArg Int32.toInt (show z_95 = gm 67 (TOPn sg) from (by have q9 := ez_95; rw [htop] at q9; exact q9)); omega⟩), (Or.inr (Or.inr ⟨hp9, (Eq.trans (up_ne egm_102 (by decide)) (kgv_99 68 (by decide))), _, KP8_k fK_r_97 (show z_67.toNatClampNeg = slR gm (TOPn sg) from (by unfold slR; rw [if_pos (show (gm 65 (TOPn sg)).toInt = 3 from (by rw [← (show z_2 = gm 65 (TOPn sg) from (by have q9 := ez_2; rw [htop] at q9; exact q9))]; have := i32_0; have := i32_1; have := i32_2; have := i32_m1; have := (h63).1; have := (h63).2; have := (h74).1; have := (h74).2; have := (hz_1).1; have := (hz_1).2; have := (h_57).1; have := (h_57).2; have := (hz_58).1; have := (hz_58).2; have := (h126).1; have := (h126).2; have := (hHE.1).1; have := (hHE.1).2; have := (hz_62).1; have := (hz_62).2; have := (hz_67).1; have := (hz_67).2; have := (h_79).1; have := (h_79).2; have := (h152).1; have := (h152).2; have := (h_93).1; have := (h_93).2; have := (h_96).1; have := (h_96).2; have := (hz_101).1; have := (hz_101).2; omega)), ← (show z_59 = gm 66 (TOPn sg) from (by rw [ez_59, htop]))]; have q5 := htop; have q1 : z_67.toNatClampNeg = z_67.toInt.toNat := rfl; have q1 : z_1.toNatClampNeg = z_1.toInt.toNat := rfl; have q1 : z_59.toNatClampNeg = z_59.toInt.toNat := rfl; have := i32_0; have := i32_1; have := i32_2; have := i32_m1; have := (h63).1; have := (h63).2; have := (h74).1; have := (h74).2; have := (hz_1).1; have := (hz_1).2; have := (h_57).1; have := (h_57).2; have := (hz_58).1; have := (hz_58).2; have := (h126).1; have := (h126).2; have := (hHE.1).1; have := (hHE.1).2; have := (hz_62).1; have := (hz_62).2; have := (hz_67).1; have := (hz_67).2; have := (h_79).1; have := (h_79).2; have := (h152).1; have := (h152).2; have := (h_93).1; have := (h_93).2; have := (h_96).1; have := (h_96).2; have := (hz_101).1; have := (hz_101).2; omega)) ((show KS [67] gmv_99 gm_102 from (KS_up KS_rf egm_102 (by decide))) 70 (by decide)) ((show KS [67] gmv_99 gm_102 from (KS_up KS_rf egm_102 (by decide))) 71 (by decide)) ((show KS [67] gmv_99 gm_102 from (KS_up KS_rf egm_102 (by decide))) 72 (by decide)) ((show KS [67] gmv_99 gm_102 from (KS_up KS_rf egm_102 (by decide))) 73 (by decide)), Or.inl ⟨(show liR sg gm (elR sg gm lg (TOPn sg)) from (by rw [← hel]; exact ⟨(by rw [← ez_68]; have := i32_0; have := i32_1; have := i32_2; have := i32_m1; have := (h63).1; have := (h63).2; have := (h74).1; have := (h74).2; have := (hz_1).1; have := (hz_1).2; have := (h_57).1; have := (h_57).2; have := (hz_58).1; have := (hz_58).2; have := (h126).1; have := (h126).2; have := (hHE.1).1; have := (hHE.1).2; have := (hz_62).1; have := (hz_62).2; have := (hz_67).1; have := (hz_67).2; have := (h_79).1; have := (h_79).2; have := (h152).1; have := (h152).2; have := (h_93).1; have := (h_93).2; have := (h_96).1; have := (h_96).2; have := (hz_101).1; have := (hz_101).2; omega), (by rw [← fN_r_80, ← ez_82]; exact c_83)⟩)), (by rw [ez_95, htop])⟩⟩))⟩, by rw [ht]; exact hP, va_K.moved hW.alike hK, hD⟩, hS.F ht⟩) hS.2.2 dX13_deliver_200
end
section
section FN9
variable {wg gm gm2 : Nat → Nat → Int32} {wl : Nat → Nat → Int64} {sg sg2 : Nat → Int32} {S : S9} {b : Nat}
theorem oF2_o (h : one9 wg wl b) : oF2 wg wl b S = (zO S, zE S, fu9 (zS S) b 2, zW S, zF S ++ [b]) := by unfold oF2; rw [if_pos h]
theorem oF2_m (h : ¬ one9 wg wl b) : oF2 wg wl b S = (zO S, zE S, fu9 (zS S) b 0, zW S, zF S) := by unfold oF2; rw [if_neg h]
/-- a bean of which there are many is finished -/
theorem RR_fm {j : Nat} {v : Int32} (h : RR wg wl S sg gm) (e41 : sg2 41 = sg 41) (e48 : sg2 48 = sg 48) (e49 : sg2 49 = sg 49) (e50 : sg2 50 = sg 50) (e53 : gm2 53 = gm 53) (e54 : gm2 54 = gm 54) (e55 : gm2 55 = gm 55) (e56 : gm2 56 = gm 56) (e57 : gm2 57 = gm 57) (e58 : gm2 58 = gm 58) (e59 : gm2 59 = gm 59) (e60 : gm2 60 = gm 60) (e61 : gm2 61 = gm 61) (e62 : gm2 62 = upd (gm 62) j v) (hj : j = b) (hv : v = 0) (hm : ¬ one9 wg wl b) : RR wg wl (oF2 wg wl b S) sg2 gm2 := by
  obtain ⟨hO, hE, hB, hF⟩ := h
  subst hj; subst hv
  rw [oF2_m hm]
  refine ⟨?_, ?_, ?_, ?_⟩
  · unfold RRo; rw [e48, e53, e54]; exact hO
  · unfold RRe; rw [e49, e55, e56, e57, e58]; exact hE
  · intro i hi
    rw [e41] at hi
    have q := hB i hi
    rw [e60, e61, e62]
    show (fu9 (zS S) j 0 i = 1 ↔ _) ∧ (_ → (fu9 (zS S) j 0 i = 2 ↔ _) ∧ (gm 60 i).toInt = (if fu9 (zS S) j 0 i = 0 then -1 else zW S i)) ∧ fu9 (zS S) j 0 i ≤ 2
    by_cases e : i = j
    · subst e
      rw [fu9_at, upd_at]
      exact ⟨⟨fun p => absurd p (by decide), fun p => absurd rfl p⟩, fun o => absurd o hm, by omega⟩
    · rw [fu9_ne e, upd_ne e]; exact q
  · refine ⟨by rw [e50]; exact hF.1, fun k x hx => ?_, hF.2.2⟩
    have q := hF.2.1 k x hx
    rw [e41, e59]
    refine ⟨q.1, q.2.1, q.2.2.1, ?_⟩
    show fu9 (zS S) j 0 x = 2
    by_cases e : x = j
    · subst e; exact absurd q.2.2.1 hm
    · rw [fu9_ne e]; exact q.2.2.2
/-- a bean of which there is one is finished -/
theorem RR_fo {j j2 k : Nat} {v w d : Int32} (h : RR wg wl S sg gm) (e41 : sg2 41 = sg 41) (e48 : sg2 48 = sg 48) (e49 : sg2 49 = sg 49) (e50 : (sg2 50).toInt = (sg 50).toInt + 1) (e53 : gm2 53 = gm 53) (e54 : gm2 54 = gm 54) (e55 : gm2 55 = gm 55) (e56 : gm2 56 = gm 56) (e57 : gm2 57 = gm 57) (e58 : gm2 58 = gm 58) (e59 : gm2 59 = upd (gm 59) k d) (e60 : gm2 60 = gm 60) (e61 : gm2 61 = upd (gm 61) j2 w) (e62 : gm2 62 = upd (gm 62) j v) (hj : j = b) (hj2 : j2 = b) (hv : v = 0) (hw : ¬ w = 0) (hk : k = (sg 50).toNatClampNeg) (h0 : 0 ≤ (sg 50).toInt) (hd : d.toInt = (b : Int)) (hb : b < (sg 41).toNatClampNeg) (hs : zS S b = 1) (hm : one9 wg wl b) : RR wg wl (oF2 wg wl b S) sg2 gm2 := by
  obtain ⟨hO, hE, hB, hF⟩ := h
  subst hj; subst hj2; subst hv
  have c1 := cln9 h0
  have l1 := hF.1
  rw [oF2_o hm]
  have hni : ∀ i : Nat, (zF S)[i]? = some j2 → False := fun i hi => by
    have := (hF.2.1 i j2 hi).2.2.2
    omega
  refine ⟨?_, ?_, ?_, ?_⟩
  · unfold RRo; rw [e48, e53, e54]; exact hO
  · unfold RRe; rw [e49, e55, e56, e57, e58]; exact hE
  · intro i hi
    rw [e41] at hi
    have q := hB i hi
    rw [e60, e61, e62]
    show (fu9 (zS S) j2 2 i = 1 ↔ _) ∧ (_ → (fu9 (zS S) j2 2 i = 2 ↔ _) ∧ (gm 60 i).toInt = (if fu9 (zS S) j2 2 i = 0 then -1 else zW S i)) ∧ fu9 (zS S) j2 2 i ≤ 2
    by_cases e : i = j2
    · subst e
      rw [fu9_at, upd_at, upd_at]
      refine ⟨⟨fun p => absurd p (by decide), fun p => absurd rfl p⟩, fun o => ⟨⟨fun _ => hw, fun _ => rfl⟩, ?_⟩, by omega⟩
      have q9 := (q.2.1 o).2
      rw [if_neg (by omega)] at q9
      rw [if_neg (by decide)]; exact q9
    · rw [fu9_ne e, upd_ne e, upd_ne e]; exact q
  · refine ⟨?_, fun i x hx => ?_, ?_⟩
    · rw [e50, l1]; show _ = ((zF S ++ [j2]).length : Int); rw [List.length_append]; rfl
    · have hx : (zF S ++ [j2])[i]? = some x := hx
      rw [e41, e59]
      rcases ga9 hx with ⟨hl, hx⟩ | ⟨hl, hx⟩
      · have q := hF.2.1 i x hx
        rw [upd_ne (by omega)]
        refine ⟨q.1, q.2.1, q.2.2.1, ?_⟩
        show fu9 (zS S) j2 2 x = 2
        by_cases e : x = j2
        · rw [e, fu9_at]
        · rw [fu9_ne e]; exact q.2.2.2
      · subst hx
        have e9 : i = k := by omega
        subst e9
        rw [upd_at]
        exact ⟨hd, hb, hm, by show fu9 (zS S) j2 2 j2 = 2; rw [fu9_at]⟩
    · show (zF S ++ [j2]).Nodup
      rw [List.nodup_append]
      refine ⟨hF.2.2, List.nodup_cons.mpr ⟨by simp, List.nodup_nil⟩, fun x hx y hy e => ?_⟩
      have hy : y = j2 := by simpa using hy
      subst e; subst hy
      obtain ⟨i, hi⟩ := List.getElem?_of_mem hx
      exact hni i hi
end FN9
end
