/-- the characters of an attribute's value -/
def VW7 (gm : Nat → Nat → Int32) (a : Nat) (v : List Int) : Prop := (gm 45 a).toInt = (v.length : Int) ∧ ∀ (i : Nat) (c : Int), v[i]? = some c → (gm 46 ((gm 44 a).toNatClampNeg + i)).toInt = c
theorem gA_at : ∀ (q : At7) (i : Nat) (y : Int64 × List Int) (k : Int64), q[i]? = some y → y.1 = k → (∀ i' y', i' < i → q[i']? = some y' → ¬ y'.1 = k) → gA q k = some y.2 := by
  intro q
  induction q with
  | nil => intro i y k h; cases h
  | cons z r ih =>
    intro i y k h hk hn
    cases i with
    | zero =>
      have h : some z = some y := h
      cases h
      unfold gA
      rw [List.find?_cons_of_pos (p := fun x : Int64 × List Int => x.1 == k) (beq_iff_eq.mpr hk)]
    | succ i =>
      have h0 : ¬ z.1 = k := hn 0 z (by omega) rfl
      have h1 := ih i y k h hk (fun i' y' hi hy => hn (i' + 1) y' (by omega) hy)
      unfold gA at h1 ⊢
      rw [List.find?_cons_of_neg (p := fun x : Int64 × List Int => x.1 == k) (fun q => h0 (beq_iff_eq.mp q))]
      exact h1
theorem FND_l {A7 : At7} {gm : Nat → Nat → Int32} {lg : Nat → Nat → Int64} {j : Nat} {k : Int64} {r : Int32} {P5 P6 : Int} (h : FND gm lg j k r) (ha : ATC A7 gm lg j P5 P6) : (r.toInt = -1 ∧ gA A7 k = none) ∨ (0 ≤ r.toInt ∧ ∃ v, gA A7 k = some v ∧ VW7 gm r.toNatClampNeg v) := by
  have hn : (gm 20 j).toNatClampNeg = A7.length := by have := ha.1; show (gm 20 j).toInt.toNat = _; omega
  rcases h with ⟨a1, a2⟩ | ⟨i, a1, a2, a3, a4, a5⟩
  · refine Or.inl ⟨a1, gA_n ?_⟩
    unfold hasK
    rw [List.any_eq_false]
    intro x hx
    obtain ⟨i, hi, e⟩ := List.mem_iff_getElem.mp hx
    have q := a2 i (Nat.zero_le _) (by omega)
    have q2 := (ha.2.2.2 i _ (List.getElem?_eq_getElem hi)).1
    rw [e] at q2
    intro w
    exact q (q2.trans (beq_iff_eq.mp w))
  · have hi : i < A7.length := by omega
    have hg := List.getElem?_eq_getElem hi
    obtain ⟨b1, b2, b3, b4, b5⟩ := ha.2.2.2 i _ hg
    refine Or.inr ⟨a3, A7[i].2, gA_at A7 i _ k hg (b1.symm.trans a5) (fun i' y' h1 h2 => ?_), ?_, ?_⟩
    · have := a4 i' (Nat.zero_le _) h1
      rw [show lg 0 ((gm 19 j).toNatClampNeg + i') = y'.1 from (ha.2.2.2 i' y' h2).1] at this
      exact this
    · rw [a2]; exact b2
    · intro i2 c hc; rw [a2]; exact b5 i2 c hc
theorem one_l {v : List Int} (h : v.length = 1) : ∃ c, v = [c] := by
  cases v with
  | nil => cases h
  | cons c r => cases r with
    | nil => exact ⟨c, rfl⟩
    | cons d t => simp at h
theorem two_l {v : List Int} (h : v.length = 2) : ∃ c d, v = [c, d] := by
  cases v with
  | nil => cases h
  | cons c r => cases r with
    | nil => simp at h
    | cons d t => cases t with
      | nil => exact ⟨c, d, rfl⟩
      | cons e s => simp at h
theorem lv_n {A7 : At7} {gm : Nat → Nat → Int32} {lg : Nat → Nat → Int64} {j : Nat} {k : Int64} {r z : Int32} {P5 P6 : Int} (h : FND gm lg j k r) (ha : ATC A7 gm lg j P5 P6) (hV : (r.toInt = -1 ∧ z.toInt = 0) ∨ (0 ≤ r.toInt ∧ z = gm 45 r.toNatClampNeg)) (hl : ¬ z.toInt = 1) : lv7 A7 k = -1 ∧ pl7 A7 k = -1 := by
  rcases FND_l h ha with ⟨a1, a2⟩ | ⟨a1, v, a2, a3⟩
  · unfold lv7 pl7; rw [a2]; exact ⟨rfl, rfl⟩
  · have hz : z = gm 45 r.toNatClampNeg := (hV.resolve_left (fun q => by omega)).2
    rw [hz, a3.1] at hl
    have hl : ¬ v.length = 1 := by omega
    unfold lv7 pl7
    rw [a2]
    cases v with
    | nil => exact ⟨rfl, rfl⟩
    | cons c r => cases r with
      | nil => exact absurd rfl hl
      | cons d t => exact ⟨rfl, rfl⟩
theorem v_1 {A7 : At7} {gm : Nat → Nat → Int32} {lg : Nat → Nat → Int64} {j : Nat} {k : Int64} {r z : Int32} {P5 P6 : Int} (h : FND gm lg j k r) (ha : ATC A7 gm lg j P5 P6) (h0 : 0 ≤ r.toInt) (hl : (gm 45 r.toNatClampNeg).toInt = 1) (hc : z = gm 46 ((gm 44 r.toNatClampNeg).toNatClampNeg + (0 : Int32).toNatClampNeg)) : gA A7 k = some [z.toInt] := by
  rcases FND_l h ha with ⟨a1, a2⟩ | ⟨a1, v, a2, a3⟩
  · omega
  · rw [a3.1] at hl
    obtain ⟨c, rfl⟩ := one_l (v := v) (by omega)
    rw [a2, hc]
    have := a3.2 0 c rfl
    rw [show (0 : Int32).toNatClampNeg = 0 by decide, this]
theorem v_2 {A7 : At7} {gm : Nat → Nat → Int32} {lg : Nat → Nat → Int64} {j : Nat} {k : Int64} {r z y : Int32} {P5 P6 : Int} (h : FND gm lg j k r) (ha : ATC A7 gm lg j P5 P6) (h0 : 0 ≤ r.toInt) (hl : (gm 45 r.toNatClampNeg).toInt = 2) (hc : z = gm 46 ((gm 44 r.toNatClampNeg).toNatClampNeg + (0 : Int32).toNatClampNeg)) : ∃ d, gA A7 k = some [z.toInt, d] ∧ ∀ y : Int32, y = gm 46 ((gm 44 r.toNatClampNeg).toNatClampNeg + (1 : Int32).toNatClampNeg) → y.toInt = d := by
  rcases FND_l h ha with ⟨a1, a2⟩ | ⟨a1, v, a2, a3⟩
  · omega
  · rw [a3.1] at hl
    obtain ⟨c, d, rfl⟩ := two_l (v := v) (by omega)
    refine ⟨d, ?_, fun y hy => ?_⟩
    · rw [a2, hc, show (0 : Int32).toNatClampNeg = 0 by decide, a3.2 0 c rfl]
    · rw [hy, show (1 : Int32).toNatClampNeg = 1 by decide]; exact a3.2 1 d rfl
theorem cv_n {A7 : At7} {gm : Nat → Nat → Int32} {lg : Nat → Nat → Int64} {j : Nat} {k : Int64} {r z : Int32} {P5 P6 : Int} (h : FND gm lg j k r) (ha : ATC A7 gm lg j P5 P6) (hV : (r.toInt = -1 ∧ z.toInt = 0) ∨ (0 ≤ r.toInt ∧ z = gm 45 r.toNatClampNeg)) (hl : ¬ z.toInt = 2) : cv7 A7 k = -1 := by
  rcases FND_l h ha with ⟨a1, a2⟩ | ⟨a1, v, a2, a3⟩
  · unfold cv7; rw [a2]
  · have hz : z = gm 45 r.toNatClampNeg := (hV.resolve_left (fun q => by omega)).2
    rw [hz, a3.1] at hl
    have hl : ¬ v.length = 2 := by omega
    unfold cv7
    rw [a2]
    cases v with
    | nil => rfl
    | cons c r => cases r with
      | nil => rfl
      | cons d t => cases t with
        | nil => exact absurd rfl hl
        | cons e s => rfl
theorem lv_s {A7 : At7} {k : Int64} {x : Int} (h : gA A7 k = some [x]) : lv7 A7 k = (if 97 ≤ x ∧ x ≤ 122 then x - 97 else -1) ∧ pl7 A7 k = (if 48 ≤ x ∧ x ≤ 50 then x - 48 else -1) := by unfold lv7 pl7; rw [h]; exact ⟨rfl, rfl⟩
theorem cv_s {A7 : At7} {k : Int64} {x y : Int} (h : gA A7 k = some [x, y]) : cv7 A7 k = if x = 75 ∧ 48 ≤ y ∧ y ≤ 55 then y - 48 else -1 := by unfold cv7; rw [h]
theorem foL_ap : ∀ (u : List Int) (x : Int) (w : Int64), foL (u ++ [x]) w = (foL u w) <<< 8 ||| Int64.ofInt x := by
  intro u
  induction u with
  | nil => intro x w; rfl
  | cons c r ih => intro x w; exact ih x _
theorem allL_ap {u : List Int} {x : Int} : allL (u ++ [x]) = (allL u && decide (97 ≤ x ∧ x ≤ 122)) := by unfold allL; rw [List.all_append]; simp
theorem tk_s {gm : Nat → Nat → Int32} {a i : Nat} {v : List Int} {z : Int32} (h : VW7 gm a v) (hi : i < v.length) (hz : z = gm 46 ((gm 44 a).toNatClampNeg + i)) : v.take (i + 1) = v.take i ++ [z.toInt] := by
  rw [List.take_add_one, List.getElem?_eq_getElem hi, hz, h.2 i _ (List.getElem?_eq_getElem hi)]
  rfl
def vv7 (A7 : At7) (k : Int64) : List Int := (gA A7 k).getD []
theorem FND_v {A7 : At7} {gm : Nat → Nat → Int32} {lg : Nat → Nat → Int64} {j : Nat} {k : Int64} {r : Int32} {P5 P6 : Int} (h : FND gm lg j k r) (ha : ATC A7 gm lg j P5 P6) (h0 : 0 ≤ r.toInt) : gA A7 k = some (vv7 A7 k) ∧ VW7 gm r.toNatClampNeg (vv7 A7 k) := by
  rcases FND_l h ha with ⟨a1, a2⟩ | ⟨a1, v, a2, a3⟩
  · omega
  · have e : vv7 A7 k = v := by unfold vv7; rw [a2]; rfl
    rw [e]; exact ⟨a2, a3⟩
theorem nv_n {A7 : At7} {gm : Nat → Nat → Int32} {lg : Nat → Nat → Int64} {j : Nat} {k : Int64} {r z : Int32} {P5 P6 : Int} (h : FND gm lg j k r) (ha : ATC A7 gm lg j P5 P6) (hV : (r.toInt = -1 ∧ z.toInt = 0) ∨ (0 ≤ r.toInt ∧ z = gm 45 r.toNatClampNeg)) (hl : z.toInt < 1 ∨ 8 < z.toInt) : nv7 A7 k = 0 := by
  have hI : ¬ aI A7 k = 1 := by
    rcases FND_l h ha with ⟨a1, a2⟩ | ⟨a1, v, a2, a3⟩
    · rw [aI_n a2]; decide
    · have hz : z = gm 45 r.toNatClampNeg := (hV.resolve_left (fun q => by omega)).2
      rw [hz, a3.1] at hl
      rw [aI_s a2, if_neg (by omega)]; decide
  unfold nv7
  rw [if_neg hI]
theorem nv_x {A7 : At7} {gm : Nat → Nat → Int32} {a i : Nat} {k : Int64} {z : Int32} (h : gA A7 k = some (vv7 A7 k) ∧ VW7 gm a (vv7 A7 k)) (hi : i < (vv7 A7 k).length) (hz : z = gm 46 ((gm 44 a).toNatClampNeg + i)) (hx : z.toInt < 97 ∨ 122 < z.toInt) : nv7 A7 k = 0 := by
  have hI : ¬ aI A7 k = 1 := by
    rw [aI_s h.1, if_neg]; decide
    intro w
    have q := w.2.2
    unfold allL at q
    rw [List.all_eq_true] at q
    have q2 := q _ (List.getElem_mem hi)
    have q3 := h.2.2 i _ (List.getElem?_eq_getElem hi)
    have q4 := of_decide_eq_true q2
    rw [hz] at hx
    omega
  unfold nv7
  rw [if_neg hI]
theorem nv_e {A7 : At7} {k : Int64} (h : gA A7 k = some (vv7 A7 k)) (h1 : 1 ≤ (vv7 A7 k).length) (h8 : (vv7 A7 k).length ≤ 8) (ha : allL (vv7 A7 k) = true) : nv7 A7 k = foL (vv7 A7 k) 0 := by
  have hI : aI A7 k = 1 := by rw [aI_s h, if_pos ⟨h1, h8, ha⟩]
  unfold nv7
  rw [if_pos hI, aW_s h, if_pos h8]
theorem swT : ∀ n, n < 34 → ((((wSw.getD n 0).toInt < 1 ∨ 5 < (wSw.getD n 0).toInt) ∧ ¬ (29 ≤ n ∧ n ≤ 33)) ∨ ((wSw.getD n 0).toInt = (n : Int) - 28 ∧ 29 ≤ n)) := by decide
theorem nvH {A7 : At7} {k : Int64} (h : ¬ nv7 A7 k = 0) : hasK A7 k = true := by
  unfold nv7 at h
  by_cases hI : aI A7 k = 1
  · cases hk : hasK A7 k with
    | true => rfl
    | false => rw [aI_n (gA_n hk)] at hI; exact absurd hI (by decide)
  · rw [if_neg hI] at h; exact absurd rfl h

set_option maxHeartbeats 4000000 in
set_option maxRecDepth 100000 in
theorem d_has2 (l : Launch) (dC : Nat → ClassId) (dI : Nat → Nat → Nat) (ad : Nat → Nat → Nat) (cid : Nat → ClassId) (a2 : Nat → Nat) (lx : List Nat) (sg : Nat → Int32) (gm : Nat → Nat → Int32) (lg : Nat → Nat → Int64) (x : Int32) (o : Int32) (w : Int32) (A7 : At7) (hI : CI sg gm) (hvx : iv 0 0 x) (hvo : iv 0 79 o) (hvw : iv 0 33 w) (hFA : FA sg gm) (how : o.toInt < (sg 4).toInt) (hat : ATC A7 gm lg o.toNatClampNeg (sg 5).toInt (sg 6).toInt) : CMt dC dI ad cid a2 lx l yX6_has wm_X6_has ({ frames := 1, cells := 1, slots := 6, locals := 24 }) [eV (ad 1) x, eV (ad 9) o, eV (ad 33) w] sg gm lg (fun v u => ∃ r : Int32, v = some (.int r) ∧ u = (sg, gm, lg) ∧ (iv 0 1 r) ∧ (r.toInt = aH A7 (wKy.getD w.toNatClampNeg 0))) (fun _ _ => False) := by
  intro sz
  refine vx_ofW (cc := cX6_has) (maxL := 3) (ret := (some .boolean)) (by decide) rfl ?_
  intro p e s m args below meth c s₁ B hml hxt hv
  obtain ⟨rfl, hsz, hP, hK, hD0, hG⟩ := hv
  have hx := B.exec
  have hb := B.bytes
  have hr := B.returns
  have hts := atoms_spec (ws := wm_X6_has) B.pre
  have htb := fun (w : Cond) (h : w ∈ tb) => hts w (List.mem_cons_of_mem _ h)
  have hown : s.vm.findClass RX6 = some m.cls := findClass_of_methodNamed B.named
  have hlocks := B.notSynchronized
  subst hsz
  have hD := hD0.self (sz := s.heap.size)
  generalize hAe : va_A (cW ad cid a2 lx sg gm lg) s.heap.size = A at hD hG ⊢
  have hA : ∀ q : Nat, s.heap.size ≤ q → A q := fun q h => by rw [← hAe]; exact Or.inr h
  have hS : va_S A s.heap s.heap [] := va_S.rf
  have hl := lv_entry ([eV (ad 1) x, eV (ad 9) o, eV (ad 33) w]) (n := 3) (by rw [show (lg_sl ([eV (ad 1) x, eV (ad 9) o, eV (ad 33) w])).length = 3 from by simp [lg_sl, eV_cat, cat_i, cat_l]]; exact Nat.le_of_ble_eq_true rfl)
  rw [lg_entry_eq]
  generalize (lg_sl ([eV (ad 1) x, eV (ad 9) o, eV (ad 33) w]) ++ List.replicate (3 - (lg_sl ([eV (ad 1) x, eV (ad 9) o, eV (ad 33) w])).length) Slot.unset).toArray = ls at hl ⊢
  have hl : lv_has ls 3 [(0, eV (ad 1) x), (1, eV (ad 9) o), (2, eV (ad 33) w)] := by simp [lv_args, eV_cat, cat_i, cat_l] at hl; exact hl
  refine ec_aload_n hx hb dX6_has_0 rfl (lv_at hl 0 rfl) ?_
  refine ec_aload_n hx hb dX6_has_1 rfl (lv_at hl 1 rfl) ?_
  refine ec_aload_n hx hb dX6_has_2 rfl (lv_at hl 2 rfl) ?_
  refine cw_key hx hb hG hS hvw hown (htb _ kw_548) dX6_has_3 ?_
  refine lv_topl (fun z_1 ez_1 => ?_)
  refine cm_callV (t := 1) (C := RX6) (T := TX6) (N := 8) (rest := []) (as := [eV (ad 9) o, .long z_1]) ⟨hx, hb, hml, hown, htb⟩ (d_hasKey2 l dC dI ad cid a2 lx sg gm lg x o z_1 hI hvx hvo hFA how) (cwV 2 htb (gd_V kw_607 kw_418 kw_419 kw_20 kw_1433) rfl rfl rfl (by decide +kernel) ⟨Nat.le_of_ble_eq_true rfl, Nat.le_of_ble_eq_true rfl⟩) hvx (by decide) (by decide) rfl rfl hl.1 rfl (Nat.le_trans cs_n (by decide)) dX6_has_6 ⟨Nat.le_of_ble_eq_true rfl, Nat.le_of_ble_eq_true rfl⟩ hK hP hD hS hA hG (fun E ce q9 u_3 H locs hw hP hD hS hce hcv hcl => ?_) (fun v9 u_3 H locs hw hP hD hS => ?_)
  · exact hw.elim
  obtain ⟨r_2, rfl, rfl, hr_2, fH_r_2⟩ := hw
  have hP : va_P (dC, dI) vwCl (cW ad cid a2 lx sg gm lg) H := hP
  have hD : va_D A (cW ad cid a2 lx sg gm lg) := hD
  refine W.eq (g2 := F0 m 9 ls [.int r_2]) rfl ?_
  exact W.nb (fun hN => W.widen (k := 1) (n := 6) (by decide) (by decide) (vx_ret (W.zret (v := r_2) hx hb hr (iv_nb hr_2) (fun t ht hW => ⟨⟨some (.int r_2), (sg, gm, lg), rfl, ⟨r_2, rfl, rfl, hr_2, ((by unfold aH; rw [← ez_1]; exact fH_r_2.elim (fun q => by rw [if_pos ((hsk_h hat).mp q.2)]; exact q.1) (fun q => by rw [if_neg (fun w9 => q.2 ((hsk_h hat).mpr w9))]; exact q.1)))⟩, by rw [ht]; exact hP, va_K.moved hW.alike hK, hD⟩, hS.F ht, by rw [ht]; exact hN⟩) hS.2.2 dX6_has_9)))

set_option maxHeartbeats 4000000 in
set_option maxRecDepth 100000 in
theorem d_letterValue2 (l : Launch) (dC : Nat → ClassId) (dI : Nat → Nat → Nat) (ad : Nat → Nat → Nat) (cid : Nat → ClassId) (a2 : Nat → Nat) (lx : List Nat) (sg : Nat → Int32) (gm : Nat → Nat → Int32) (lg : Nat → Nat → Int64) (x : Int32) (o : Int32) (w : Int32) (A7 : At7) (hI : CI sg gm) (hvx : iv 0 0 x) (hvo : iv 0 79 o) (hvw : iv 0 33 w) (hFA : FA sg gm) (how : o.toInt < (sg 4).toInt) (hVS : VS sg gm) (hat : ATC A7 gm lg o.toNatClampNeg (sg 5).toInt (sg 6).toInt) : CMt dC dI ad cid a2 lx l yX6_letterValue wm_X6_letterValue ({ frames := 1, cells := 1, slots := 6, locals := 23 }) [eV (ad 1) x, eV (ad 9) o, eV (ad 33) w] sg gm lg (fun v u => ∃ r : Int32, v = some (.int r) ∧ u = (sg, gm, lg) ∧ (iv (-1) 25 r) ∧ (r.toInt = lv7 A7 (wKy.getD w.toNatClampNeg 0))) (fun _ _ => False) := by
  intro sz
  refine vx_ofW (cc := cX6_letterValue) (maxL := 5) (ret := (some .int)) (by decide) rfl ?_
  intro p e s m args below meth c s₁ B hml hxt hv
  obtain ⟨rfl, hsz, hP, hK, hD0, hG⟩ := hv
  have hx := B.exec
  have hb := B.bytes
  have hr := B.returns
  have hts := atoms_spec (ws := wm_X6_letterValue) B.pre
  have htb := fun (w : Cond) (h : w ∈ tb) => hts w (List.mem_cons_of_mem _ h)
  have hown : s.vm.findClass RX6 = some m.cls := findClass_of_methodNamed B.named
  have hlocks := B.notSynchronized
  subst hsz
  have hD := hD0.self (sz := s.heap.size)
  generalize hAe : va_A (cW ad cid a2 lx sg gm lg) s.heap.size = A at hD hG ⊢
  have hA : ∀ q : Nat, s.heap.size ≤ q → A q := fun q h => by rw [← hAe]; exact Or.inr h
  have hS : va_S A s.heap s.heap [] := va_S.rf
  have hl := lv_entry ([eV (ad 1) x, eV (ad 9) o, eV (ad 33) w]) (n := 5) (by rw [show (lg_sl ([eV (ad 1) x, eV (ad 9) o, eV (ad 33) w])).length = 3 from by simp [lg_sl, eV_cat, cat_i, cat_l]]; exact Nat.le_of_ble_eq_true rfl)
  rw [lg_entry_eq]
  generalize (lg_sl ([eV (ad 1) x, eV (ad 9) o, eV (ad 33) w]) ++ List.replicate (5 - (lg_sl ([eV (ad 1) x, eV (ad 9) o, eV (ad 33) w])).length) Slot.unset).toArray = ls at hl ⊢
  have hl : lv_has ls 5 [(0, eV (ad 1) x), (1, eV (ad 9) o), (2, eV (ad 33) w)] := by simp [lv_args, eV_cat, cat_i, cat_l] at hl; exact hl
  have hj49 : ∀ (x4_49 : Int32) (x3_49 : Int32) (y0_49 : Int32) (_ : iv 0 65535 x4_49) (_ : iv 0 239 x3_49) (_ : iv 0 0 x) (_ : iv 0 79 o) (_ : iv 0 33 w) (_ : iv (-1) 25 y0_49) (_ : y0_49.toInt = lv7 A7 (wKy.getD w.toNatClampNeg 0)) (H : Heap) (locs : List Loc) (ls : Array Slot), va_P (dC, dI) vwCl (cW ad cid a2 lx sg gm lg) H → va_D A (cW ad cid a2 lx sg gm lg) → va_S A s.heap H locs → lv_has ls 5 [(4, .int x4_49), (3, .int x3_49), (0, eV (ad 1) x), (1, eV (ad 9) o), (2, eV (ad 33) w)] → W p l e (headSpec wm_X6_letterValue ({ frames := 1, cells := 1, slots := 6, locals := 23 })).room s m ([eV (ad 1) x, eV (ad 9) o, eV (ad 33) w] : List Value).toArray below meth c H locs 0 0 (vx_MQ below (cQx dC dI ad cid a2 lx (fun v u => ∃ r : Int32, v = some (.int r) ∧ u = (sg, gm, lg) ∧ (iv (-1) 25 r) ∧ (r.toInt = lv7 A7 (wKy.getD w.toNatClampNeg 0))) A) (cX dC dI ad cid a2 lx (fun _ _ => False) A) ([eV (ad 1) x, eV (ad 9) o, eV (ad 33) w] : List Value).toArray s 1 6 A) (F0 m 49 ls [.int y0_49]) := by
    intro x4_49 x3_49 y0_49 hx4_49 hx3_49 hsx0_49 hsx1_49 hsx2_49 hy0_49 hR49 H locs ls hP hD hS hl
    exact W.nb (fun hN => W.widen (k := 1) (n := 6) (by decide) (by decide) (vx_ret (W.iret (v := y0_49) hx hb hr (fun t ht hW => ⟨⟨some (.int y0_49), (sg, gm, lg), rfl, ⟨y0_49, rfl, rfl, hy0_49, (hR49)⟩, by rw [ht]; exact hP, va_K.moved hW.alike hK, hD⟩, hS.F ht, by rw [ht]; exact hN⟩) hS.2.2 dX6_letterValue_49)))
  have hj48 : ∀ (x4_48 : Int32) (x3_48 : Int32) (_ : iv 0 65535 x4_48) (_ : iv 0 239 x3_48) (_ : iv 0 0 x) (_ : iv 0 79 o) (_ : iv 0 33 w) (_ : lv7 A7 (wKy.getD w.toNatClampNeg 0) = -1) (H : Heap) (locs : List Loc) (ls : Array Slot), va_P (dC, dI) vwCl (cW ad cid a2 lx sg gm lg) H → va_D A (cW ad cid a2 lx sg gm lg) → va_S A s.heap H locs → lv_has ls 5 [(4, .int x4_48), (3, .int x3_48), (0, eV (ad 1) x), (1, eV (ad 9) o), (2, eV (ad 33) w)] → W p l e (headSpec wm_X6_letterValue ({ frames := 1, cells := 1, slots := 6, locals := 23 })).room s m ([eV (ad 1) x, eV (ad 9) o, eV (ad 33) w] : List Value).toArray below meth c H locs 0 0 (vx_MQ below (cQx dC dI ad cid a2 lx (fun v u => ∃ r : Int32, v = some (.int r) ∧ u = (sg, gm, lg) ∧ (iv (-1) 25 r) ∧ (r.toInt = lv7 A7 (wKy.getD w.toNatClampNeg 0))) A) (cX dC dI ad cid a2 lx (fun _ _ => False) A) ([eV (ad 1) x, eV (ad 9) o, eV (ad 33) w] : List Value).toArray s 1 6 A) (F0 m 48 ls []) := by
    intro x4_48 x3_48 hx4_48 hx3_48 hsx0_48 hsx1_48 hsx2_48 hN48 H locs ls hP hD hS hl
    refine lv_iconst (v := (-1)) hx hb dX6_letterValue_48 (by decide) ?_
    exact hj49 x4_48 x3_48 (-1) hx4_48 hx3_48 hsx0_48 hsx1_48 hsx2_48 (iv_w (iv_k (by decide) : iv (-1) (-1) (-1)) (by decide)) ((by rw [hN48]; decide)) _ _ _ hP hD hS (lv_sub hl [0, 1, 2, 3, 4] rfl)
  refine ec_aload_n hx hb dX6_letterValue_0 rfl (lv_at hl 0 rfl) ?_
  refine ec_aload_n hx hb dX6_letterValue_1 rfl (lv_at hl 1 rfl) ?_
  refine ec_aload_n hx hb dX6_letterValue_2 rfl (lv_at hl 2 rfl) ?_
  refine cm_callV (t := 1) (C := RX6) (T := TX6) (N := 8) (rest := []) (as := [eV (ad 9) o, eV (ad 33) w]) ⟨hx, hb, hml, hown, htb⟩ (d_find l dC dI ad cid a2 lx sg gm lg x o w hI hvx hvo hvw hFA how) (cwV 2 htb (gd_V kw_545 kw_546 kw_547 kw_20 kw_1467) rfl rfl rfl (by decide +kernel) ⟨Nat.le_of_ble_eq_true rfl, Nat.le_of_ble_eq_true rfl⟩) hvx (by decide) (by decide) rfl rfl hl.1 rfl (Nat.le_trans cs_n (by decide)) dX6_letterValue_3 ⟨Nat.le_of_ble_eq_true rfl, Nat.le_of_ble_eq_true rfl⟩ hK hP hD hS hA hG (fun E ce q9 u_2 H locs hw hP hD hS hce hcv hcl => ?_) (fun v9 u_2 H locs hw hP hD hS => ?_)
  · exact hw.elim
  obtain ⟨r_1, rfl, rfl, hr_1, fF_r_1, fLt_r_1⟩ := hw
  have hP : va_P (dC, dI) vwCl (cW ad cid a2 lx sg gm lg) H := hP
  have hD : va_D A (cW ad cid a2 lx sg gm lg) := hD
  refine W.eq (g2 := F0 m 6 ls [.int r_1]) rfl ?_
  refine lv_istore_n (i := 3) (lv' := [(3, .int r_1), (0, eV (ad 1) x), (1, eV (ad 9) o), (2, eV (ad 33) w)]) hx hb dX6_letterValue_6 rfl hl (by decide) (by simp [List.filter, eV_cat, cat_i, cat_l]) (fun ls hl => ?_)
  refine ec_aload_n hx hb dX6_letterValue_7 rfl (lv_at hl 1 rfl) ?_
  refine lv_iload_n hx hb dX6_letterValue_8 rfl (lv_at hl 0 rfl) ?_
  refine cm_callV (t := 1) (C := RX6) (T := TX6) (N := 8) (rest := []) (as := [.int r_1]) ⟨hx, hb, hml, hown, htb⟩ (d_valueLength l dC dI ad cid a2 lx sg gm lg x r_1 hI hvx hr_1) (cwV 1 htb (gd_V kw_549 kw_550 kw_551 kw_20 kw_1468) rfl rfl rfl (by decide +kernel) ⟨Nat.le_of_ble_eq_true rfl, Nat.le_of_ble_eq_true rfl⟩) hvx (by decide) (by decide) rfl rfl hl.1 rfl (Nat.le_trans cs_n (by decide)) dX6_letterValue_9 ⟨Nat.le_of_ble_eq_true rfl, Nat.le_of_ble_eq_true rfl⟩ hK hP hD hS hA hG (fun E ce q9 u_5 H locs hw hP hD hS hce hcv hcl => ?_) (fun v9 u_5 H locs hw hP hD hS => ?_)
  · exact hw.elim
  obtain ⟨r_4, rfl, rfl, hr_4, fV_r_4⟩ := hw
  have hP : va_P (dC, dI) vwCl (cW ad cid a2 lx sg gm lg) H := hP
  have hD : va_D A (cW ad cid a2 lx sg gm lg) := hD
  refine W.eq (g2 := F0 m 12 ls [.int r_4]) rfl ?_
  refine lv_iconst (v := 1) hx hb dX6_letterValue_12 (by decide) ?_
  refine lv_icmp_eq (tgt := 18) hx hb dX6_letterValue_13 (by decide) (fun c_7 => ?_) (fun c_7 => ?_)
  · have h_8 : iv 1 1 r_4 := iv_eq c_7 hr_4 (iv_k (by decide) : iv 1 1 1) (by decide)
    obtain ⟨h9z, h9e⟩ : 0 ≤ r_1.toInt ∧ r_4 = gm 45 r_1.toNatClampNeg := fV_r_4.resolve_left (fun q9 => by have := q9.2; have := i32_0; have := i32_1; have := i32_2; have := i32_m1; have := (hvx).1; have := (hvx).2; have := (hvo).1; have := (hvo).2; have := (hvw).1; have := (hvw).2; have := (hr_1).1; have := (hr_1).2; have := (h_8).1; have := (h_8).2; omega)
    have h9p : iv 0 239 r_1 := ⟨h9z, (hr_1).2⟩
    refine ec_aload_n hx hb dX6_letterValue_18 rfl (lv_at hl 1 rfl) ?_
    refine lv_iload_n hx hb dX6_letterValue_19 rfl (lv_at hl 0 rfl) ?_
    refine lv_iconst (v := 0) hx hb dX6_letterValue_20 (by decide) ?_
    refine cm_callV (t := 1) (C := RX6) (T := TX6) (N := 8) (rest := []) (as := [.int r_1, .int 0]) ⟨hx, hb, hml, hown, htb⟩ (d_valueChar l dC dI ad cid a2 lx sg gm lg x r_1 0 hI hvx h9p (iv_w (iv_k (by decide) : iv 0 0 0) (by decide)) hVS fLt_r_1 (by rw [← h9e]; have q8 : (0 : Int32).toInt = 0 := (by decide); have := i32_0; have := i32_1; have := i32_2; have := i32_m1; have := (hvx).1; have := (hvx).2; have := (hvo).1; have := (hvo).2; have := (hvw).1; have := (hvw).2; have := (h9p).1; have := (h9p).2; have := (h_8).1; have := (h_8).2; omega)) (cwV 2 htb (gd_V kw_552 kw_553 kw_554 kw_20 kw_1469) rfl rfl rfl (by decide +kernel) ⟨Nat.le_of_ble_eq_true rfl, Nat.le_of_ble_eq_true rfl⟩) hvx (by decide) (by decide) rfl rfl hl.1 rfl (Nat.le_trans cs_n (by decide)) dX6_letterValue_21 ⟨Nat.le_of_ble_eq_true rfl, Nat.le_of_ble_eq_true rfl⟩ hK hP hD hS hA hG (fun E ce q9 u_10 H locs hw hP hD hS hce hcv hcl => ?_) (fun v9 u_10 H locs hw hP hD hS => ?_)
    · exact hw.elim
    obtain ⟨r_9, rfl, rfl, hr_9, fC_r_9⟩ := hw
    have hP : va_P (dC, dI) vwCl (cW ad cid a2 lx sg gm lg) H := hP
    have hD : va_D A (cW ad cid a2 lx sg gm lg) := hD
    refine W.eq (g2 := F0 m 24 ls [.int r_9]) rfl ?_
    refine lv_istore (i := 4) (lv' := [(4, .int r_9), (3, .int r_1), (0, eV (ad 1) x), (1, eV (ad 9) o), (2, eV (ad 33) w)]) hx hb dX6_letterValue_24 hl (by decide) rfl (fun ls hl => ?_)
    refine lv_iload hx hb dX6_letterValue_26 (lv_at hl 0 rfl) ?_
    refine lv_bipush (v := 97) hx hb dX6_letterValue_28 (by decide) ?_
    refine lv_icmp_lt (tgt := 48) hx hb dX6_letterValue_30 (by decide) (fun c_12 => ?_) (fun c_12 => ?_)
    · have h_13 : iv 0 96 r_9 := iv_ltL c_12 hr_9 (iv_k (by decide) : iv 97 97 97) (by decide)
      exact hj48 r_9 r_1 (iv_w h_13 (by decide)) h9p hvx hvo hvw ((by rw [(lv_s (v_1 fF_r_1 hat h9z (by rw [← h9e]; have := i32_0; have := i32_1; have := i32_2; have := i32_m1; have := (hvx).1; have := (hvx).2; have := (hvo).1; have := (hvo).2; have := (hvw).1; have := (hvw).2; have := (h9p).1; have := (h9p).2; have := (h_8).1; have := (h_8).2; have := (h_13).1; have := (h_13).2; omega) fC_r_9)).1, if_neg (by have := i32_0; have := i32_1; have := i32_2; have := i32_m1; have := (hvx).1; have := (hvx).2; have := (hvo).1; have := (hvo).2; have := (hvw).1; have := (hvw).2; have := (h9p).1; have := (h9p).2; have := (h_8).1; have := (h_8).2; have := (h_13).1; have := (h_13).2; omega)])) _ _ _ hP hD hS (lv_sub hl [0, 1, 2, 3, 4] rfl)
    · have h_14 : iv 97 65535 r_9 := iv_leR (i32_ge c_12) (iv_k (by decide) : iv 97 97 97) hr_9 (by decide)
      refine lv_iload hx hb dX6_letterValue_33 (lv_at hl 0 rfl) ?_
      refine lv_bipush (v := 122) hx hb dX6_letterValue_35 (by decide) ?_
      refine lv_icmp_gt (tgt := 48) hx hb dX6_letterValue_37 (by decide) (fun c_15 => ?_) (fun c_15 => ?_)
      · have h_16 : iv 123 65535 r_9 := iv_ltR c_15 (iv_k (by decide) : iv 122 122 122) h_14 (by decide)
        exact hj48 r_9 r_1 (iv_w h_16 (by decide)) h9p hvx hvo hvw ((by rw [(lv_s (v_1 fF_r_1 hat h9z (by rw [← h9e]; have := i32_0; have := i32_1; have := i32_2; have := i32_m1; have := (hvx).1; have := (hvx).2; have := (hvo).1; have := (hvo).2; have := (hvw).1; have := (hvw).2; have := (h9p).1; have := (h9p).2; have := (h_8).1; have := (h_8).2; have := (h_16).1; have := (h_16).2; omega) fC_r_9)).1, if_neg (by have := i32_0; have := i32_1; have := i32_2; have := i32_m1; have := (hvx).1; have := (hvx).2; have := (hvo).1; have := (hvo).2; have := (hvw).1; have := (hvw).2; have := (h9p).1; have := (h9p).2; have := (h_8).1; have := (h_8).2; have := (h_16).1; have := (h_16).2; omega)])) _ _ _ hP hD hS (lv_sub hl [0, 1, 2, 3, 4] rfl)
      · have h_17 : iv 97 122 r_9 := iv_leL (i32_ge c_15) h_14 (iv_k (by decide) : iv 122 122 122) (by decide)
        refine lv_iload hx hb dX6_letterValue_40 (lv_at hl 0 rfl) ?_
        refine lv_bipush (v := 97) hx hb dX6_letterValue_42 (by decide) ?_
        refine lv_isub hx hb dX6_letterValue_44 ?_
        refine lv_topi (fun z_18 ez_18 => ?_)
        have hz_18 : iv 0 25 z_18 := iv_of ez_18 (iv_sub h_17 (iv_k (by decide) : iv 97 97 97) (by decide))
        have tz_18 : z_18.toInt = (r_9 : Int32).toInt - 97 := by rw [ez_18]; exact iv_subE h_17 (iv_k (by decide) : iv 97 97 97) (by decide)
        refine lv_goto (tgt := 49) hx hb dX6_letterValue_45 (by decide) ?_
        exact hj49 r_9 r_1 z_18 (iv_w h_17 (by decide)) h9p hvx hvo hvw (iv_w hz_18 (by decide)) ((by rw [(lv_s (v_1 fF_r_1 hat h9z (by rw [← h9e]; have := i32_0; have := i32_1; have := i32_2; have := i32_m1; have := (hvx).1; have := (hvx).2; have := (hvo).1; have := (hvo).2; have := (hvw).1; have := (hvw).2; have := (h9p).1; have := (h9p).2; have := (h_8).1; have := (h_8).2; have := (h_17).1; have := (h_17).2; have := (hz_18).1; have := (hz_18).2; omega) fC_r_9)).1, if_pos ⟨(by have := i32_0; have := i32_1; have := i32_2; have := i32_m1; have := (hvx).1; have := (hvx).2; have := (hvo).1; have := (hvo).2; have := (hvw).1; have := (hvw).2; have := (h9p).1; have := (h9p).2; have := (h_8).1; have := (h_8).2; have := (h_17).1; have := (h_17).2; have := (hz_18).1; have := (hz_18).2; omega), (by have := i32_0; have := i32_1; have := i32_2; have := i32_m1; have := (hvx).1; have := (hvx).2; have := (hvo).1; have := (hvo).2; have := (hvw).1; have := (hvw).2; have := (h9p).1; have := (h9p).2; have := (h_8).1; have := (h_8).2; have := (h_17).1; have := (h_17).2; have := (hz_18).1; have := (hz_18).2; omega)⟩]; have := i32_0; have := i32_1; have := i32_2; have := i32_m1; have := (hvx).1; have := (hvx).2; have := (hvo).1; have := (hvo).2; have := (hvw).1; have := (hvw).2; have := (h9p).1; have := (h9p).2; have := (h_8).1; have := (h_8).2; have := (h_17).1; have := (h_17).2; have := (hz_18).1; have := (hz_18).2; omega)) _ _ _ hP hD hS (lv_sub hl [0, 1, 2, 3, 4] rfl)
  · have d_19 : ¬ (r_4 : Int32).toInt = 1 := lv_neT c_7 rfl
    refine lv_iconst (v := (-1)) hx hb dX6_letterValue_16 (by decide) ?_
    exact W.nb (fun hN => W.widen (k := 1) (n := 6) (by decide) (by decide) (vx_ret (W.iret (v := (-1)) hx hb hr (fun t ht hW => ⟨⟨some (.int (-1)), (sg, gm, lg), rfl, ⟨(-1), rfl, rfl, (iv_w (iv_k (by decide) : iv (-1) (-1) (-1)) (by decide)), ((by rw [(lv_n fF_r_1 hat fV_r_4 (by have := i32_0; have := i32_1; have := i32_2; have := i32_m1; have := (hvx).1; have := (hvx).2; have := (hvo).1; have := (hvo).2; have := (hvw).1; have := (hvw).2; have := (hr_1).1; have := (hr_1).2; have := (hr_4).1; have := (hr_4).2; omega)).1]; decide))⟩, by rw [ht]; exact hP, va_K.moved hW.alike hK, hD⟩, hS.F ht, by rw [ht]; exact hN⟩) hS.2.2 dX6_letterValue_17)))

set_option maxHeartbeats 4000000 in
set_option maxRecDepth 100000 in
theorem d_placeValue2 (l : Launch) (dC : Nat → ClassId) (dI : Nat → Nat → Nat) (ad : Nat → Nat → Nat) (cid : Nat → ClassId) (a2 : Nat → Nat) (lx : List Nat) (sg : Nat → Int32) (gm : Nat → Nat → Int32) (lg : Nat → Nat → Int64) (x : Int32) (o : Int32) (w : Int32) (A7 : At7) (hI : CI sg gm) (hvx : iv 0 0 x) (hvo : iv 0 79 o) (hvw : iv 0 33 w) (hFA : FA sg gm) (how : o.toInt < (sg 4).toInt) (hVS : VS sg gm) (hat : ATC A7 gm lg o.toNatClampNeg (sg 5).toInt (sg 6).toInt) : CMt dC dI ad cid a2 lx l yX6_placeValue wm_X6_placeValue ({ frames := 1, cells := 1, slots := 6, locals := 23 }) [eV (ad 1) x, eV (ad 9) o, eV (ad 33) w] sg gm lg (fun v u => ∃ r : Int32, v = some (.int r) ∧ u = (sg, gm, lg) ∧ (iv (-1) 2 r) ∧ (r.toInt = pl7 A7 (wKy.getD w.toNatClampNeg 0))) (fun _ _ => False) := by
  intro sz
  refine vx_ofW (cc := cX6_placeValue) (maxL := 5) (ret := (some .int)) (by decide) rfl ?_
  intro p e s m args below meth c s₁ B hml hxt hv
  obtain ⟨rfl, hsz, hP, hK, hD0, hG⟩ := hv
  have hx := B.exec
  have hb := B.bytes
  have hr := B.returns
  have hts := atoms_spec (ws := wm_X6_placeValue) B.pre
  have htb := fun (w : Cond) (h : w ∈ tb) => hts w (List.mem_cons_of_mem _ h)
  have hown : s.vm.findClass RX6 = some m.cls := findClass_of_methodNamed B.named
  have hlocks := B.notSynchronized
  subst hsz
  have hD := hD0.self (sz := s.heap.size)
  generalize hAe : va_A (cW ad cid a2 lx sg gm lg) s.heap.size = A at hD hG ⊢
  have hA : ∀ q : Nat, s.heap.size ≤ q → A q := fun q h => by rw [← hAe]; exact Or.inr h
  have hS : va_S A s.heap s.heap [] := va_S.rf
  have hl := lv_entry ([eV (ad 1) x, eV (ad 9) o, eV (ad 33) w]) (n := 5) (by rw [show (lg_sl ([eV (ad 1) x, eV (ad 9) o, eV (ad 33) w])).length = 3 from by simp [lg_sl, eV_cat, cat_i, cat_l]]; exact Nat.le_of_ble_eq_true rfl)
  rw [lg_entry_eq]
  generalize (lg_sl ([eV (ad 1) x, eV (ad 9) o, eV (ad 33) w]) ++ List.replicate (5 - (lg_sl ([eV (ad 1) x, eV (ad 9) o, eV (ad 33) w])).length) Slot.unset).toArray = ls at hl ⊢
  have hl : lv_has ls 5 [(0, eV (ad 1) x), (1, eV (ad 9) o), (2, eV (ad 33) w)] := by simp [lv_args, eV_cat, cat_i, cat_l] at hl; exact hl
  have hj49 : ∀ (x4_49 : Int32) (x3_49 : Int32) (y0_49 : Int32) (_ : iv 0 65535 x4_49) (_ : iv 0 239 x3_49) (_ : iv 0 0 x) (_ : iv 0 79 o) (_ : iv 0 33 w) (_ : iv (-1) 2 y0_49) (_ : y0_49.toInt = pl7 A7 (wKy.getD w.toNatClampNeg 0)) (H : Heap) (locs : List Loc) (ls : Array Slot), va_P (dC, dI) vwCl (cW ad cid a2 lx sg gm lg) H → va_D A (cW ad cid a2 lx sg gm lg) → va_S A s.heap H locs → lv_has ls 5 [(4, .int x4_49), (3, .int x3_49), (0, eV (ad 1) x), (1, eV (ad 9) o), (2, eV (ad 33) w)] → W p l e (headSpec wm_X6_placeValue ({ frames := 1, cells := 1, slots := 6, locals := 23 })).room s m ([eV (ad 1) x, eV (ad 9) o, eV (ad 33) w] : List Value).toArray below meth c H locs 0 0 (vx_MQ below (cQx dC dI ad cid a2 lx (fun v u => ∃ r : Int32, v = some (.int r) ∧ u = (sg, gm, lg) ∧ (iv (-1) 2 r) ∧ (r.toInt = pl7 A7 (wKy.getD w.toNatClampNeg 0))) A) (cX dC dI ad cid a2 lx (fun _ _ => False) A) ([eV (ad 1) x, eV (ad 9) o, eV (ad 33) w] : List Value).toArray s 1 6 A) (F0 m 49 ls [.int y0_49]) := by
    intro x4_49 x3_49 y0_49 hx4_49 hx3_49 hsx0_49 hsx1_49 hsx2_49 hy0_49 hR49 H locs ls hP hD hS hl
    exact W.nb (fun hN => W.widen (k := 1) (n := 6) (by decide) (by decide) (vx_ret (W.iret (v := y0_49) hx hb hr (fun t ht hW => ⟨⟨some (.int y0_49), (sg, gm, lg), rfl, ⟨y0_49, rfl, rfl, hy0_49, (hR49)⟩, by rw [ht]; exact hP, va_K.moved hW.alike hK, hD⟩, hS.F ht, by rw [ht]; exact hN⟩) hS.2.2 dX6_placeValue_49)))
  have hj48 : ∀ (x4_48 : Int32) (x3_48 : Int32) (_ : iv 0 65535 x4_48) (_ : iv 0 239 x3_48) (_ : iv 0 0 x) (_ : iv 0 79 o) (_ : iv 0 33 w) (_ : pl7 A7 (wKy.getD w.toNatClampNeg 0) = -1) (H : Heap) (locs : List Loc) (ls : Array Slot), va_P (dC, dI) vwCl (cW ad cid a2 lx sg gm lg) H → va_D A (cW ad cid a2 lx sg gm lg) → va_S A s.heap H locs → lv_has ls 5 [(4, .int x4_48), (3, .int x3_48), (0, eV (ad 1) x), (1, eV (ad 9) o), (2, eV (ad 33) w)] → W p l e (headSpec wm_X6_placeValue ({ frames := 1, cells := 1, slots := 6, locals := 23 })).room s m ([eV (ad 1) x, eV (ad 9) o, eV (ad 33) w] : List Value).toArray below meth c H locs 0 0 (vx_MQ below (cQx dC dI ad cid a2 lx (fun v u => ∃ r : Int32, v = some (.int r) ∧ u = (sg, gm, lg) ∧ (iv (-1) 2 r) ∧ (r.toInt = pl7 A7 (wKy.getD w.toNatClampNeg 0))) A) (cX dC dI ad cid a2 lx (fun _ _ => False) A) ([eV (ad 1) x, eV (ad 9) o, eV (ad 33) w] : List Value).toArray s 1 6 A) (F0 m 48 ls []) := by
    intro x4_48 x3_48 hx4_48 hx3_48 hsx0_48 hsx1_48 hsx2_48 hN48 H locs ls hP hD hS hl
    refine lv_iconst (v := (-1)) hx hb dX6_placeValue_48 (by decide) ?_
    exact hj49 x4_48 x3_48 (-1) hx4_48 hx3_48 hsx0_48 hsx1_48 hsx2_48 (iv_w (iv_k (by decide) : iv (-1) (-1) (-1)) (by decide)) ((by rw [hN48]; decide)) _ _ _ hP hD hS (lv_sub hl [0, 1, 2, 3, 4] rfl)
  refine ec_aload_n hx hb dX6_placeValue_0 rfl (lv_at hl 0 rfl) ?_
  refine ec_aload_n hx hb dX6_placeValue_1 rfl (lv_at hl 1 rfl) ?_
  refine ec_aload_n hx hb dX6_placeValue_2 rfl (lv_at hl 2 rfl) ?_
  refine cm_callV (t := 1) (C := RX6) (T := TX6) (N := 8) (rest := []) (as := [eV (ad 9) o, eV (ad 33) w]) ⟨hx, hb, hml, hown, htb⟩ (d_find l dC dI ad cid a2 lx sg gm lg x o w hI hvx hvo hvw hFA how) (cwV 2 htb (gd_V kw_545 kw_546 kw_547 kw_20 kw_1467) rfl rfl rfl (by decide +kernel) ⟨Nat.le_of_ble_eq_true rfl, Nat.le_of_ble_eq_true rfl⟩) hvx (by decide) (by decide) rfl rfl hl.1 rfl (Nat.le_trans cs_n (by decide)) dX6_placeValue_3 ⟨Nat.le_of_ble_eq_true rfl, Nat.le_of_ble_eq_true rfl⟩ hK hP hD hS hA hG (fun E ce q9 u_2 H locs hw hP hD hS hce hcv hcl => ?_) (fun v9 u_2 H locs hw hP hD hS => ?_)
  · exact hw.elim
  obtain ⟨r_1, rfl, rfl, hr_1, fF_r_1, fLt_r_1⟩ := hw
  have hP : va_P (dC, dI) vwCl (cW ad cid a2 lx sg gm lg) H := hP
  have hD : va_D A (cW ad cid a2 lx sg gm lg) := hD
  refine W.eq (g2 := F0 m 6 ls [.int r_1]) rfl ?_
  refine lv_istore_n (i := 3) (lv' := [(3, .int r_1), (0, eV (ad 1) x), (1, eV (ad 9) o), (2, eV (ad 33) w)]) hx hb dX6_placeValue_6 rfl hl (by decide) (by simp [List.filter, eV_cat, cat_i, cat_l]) (fun ls hl => ?_)
  refine ec_aload_n hx hb dX6_placeValue_7 rfl (lv_at hl 1 rfl) ?_
  refine lv_iload_n hx hb dX6_placeValue_8 rfl (lv_at hl 0 rfl) ?_
  refine cm_callV (t := 1) (C := RX6) (T := TX6) (N := 8) (rest := []) (as := [.int r_1]) ⟨hx, hb, hml, hown, htb⟩ (d_valueLength l dC dI ad cid a2 lx sg gm lg x r_1 hI hvx hr_1) (cwV 1 htb (gd_V kw_549 kw_550 kw_551 kw_20 kw_1468) rfl rfl rfl (by decide +kernel) ⟨Nat.le_of_ble_eq_true rfl, Nat.le_of_ble_eq_true rfl⟩) hvx (by decide) (by decide) rfl rfl hl.1 rfl (Nat.le_trans cs_n (by decide)) dX6_placeValue_9 ⟨Nat.le_of_ble_eq_true rfl, Nat.le_of_ble_eq_true rfl⟩ hK hP hD hS hA hG (fun E ce q9 u_5 H locs hw hP hD hS hce hcv hcl => ?_) (fun v9 u_5 H locs hw hP hD hS => ?_)
  · exact hw.elim
  obtain ⟨r_4, rfl, rfl, hr_4, fV_r_4⟩ := hw
  have hP : va_P (dC, dI) vwCl (cW ad cid a2 lx sg gm lg) H := hP
  have hD : va_D A (cW ad cid a2 lx sg gm lg) := hD
  refine W.eq (g2 := F0 m 12 ls [.int r_4]) rfl ?_
  refine lv_iconst (v := 1) hx hb dX6_placeValue_12 (by decide) ?_
  refine lv_icmp_eq (tgt := 18) hx hb dX6_placeValue_13 (by decide) (fun c_7 => ?_) (fun c_7 => ?_)
  · have h_8 : iv 1 1 r_4 := iv_eq c_7 hr_4 (iv_k (by decide) : iv 1 1 1) (by decide)
    obtain ⟨h9z, h9e⟩ : 0 ≤ r_1.toInt ∧ r_4 = gm 45 r_1.toNatClampNeg := fV_r_4.resolve_left (fun q9 => by have := q9.2; have := i32_0; have := i32_1; have := i32_2; have := i32_m1; have := (hvx).1; have := (hvx).2; have := (hvo).1; have := (hvo).2; have := (hvw).1; have := (hvw).2; have := (hr_1).1; have := (hr_1).2; have := (h_8).1; have := (h_8).2; omega)
    have h9p : iv 0 239 r_1 := ⟨h9z, (hr_1).2⟩
    refine ec_aload_n hx hb dX6_placeValue_18 rfl (lv_at hl 1 rfl) ?_
    refine lv_iload_n hx hb dX6_placeValue_19 rfl (lv_at hl 0 rfl) ?_
    refine lv_iconst (v := 0) hx hb dX6_placeValue_20 (by decide) ?_
    refine cm_callV (t := 1) (C := RX6) (T := TX6) (N := 8) (rest := []) (as := [.int r_1, .int 0]) ⟨hx, hb, hml, hown, htb⟩ (d_valueChar l dC dI ad cid a2 lx sg gm lg x r_1 0 hI hvx h9p (iv_w (iv_k (by decide) : iv 0 0 0) (by decide)) hVS fLt_r_1 (by rw [← h9e]; have q8 : (0 : Int32).toInt = 0 := (by decide); have := i32_0; have := i32_1; have := i32_2; have := i32_m1; have := (hvx).1; have := (hvx).2; have := (hvo).1; have := (hvo).2; have := (hvw).1; have := (hvw).2; have := (h9p).1; have := (h9p).2; have := (h_8).1; have := (h_8).2; omega)) (cwV 2 htb (gd_V kw_552 kw_553 kw_554 kw_20 kw_1469) rfl rfl rfl (by decide +kernel) ⟨Nat.le_of_ble_eq_true rfl, Nat.le_of_ble_eq_true rfl⟩) hvx (by decide) (by decide) rfl rfl hl.1 rfl (Nat.le_trans cs_n (by decide)) dX6_placeValue_21 ⟨Nat.le_of_ble_eq_true rfl, Nat.le_of_ble_eq_true rfl⟩ hK hP hD hS hA hG (fun E ce q9 u_10 H locs hw hP hD hS hce hcv hcl => ?_) (fun v9 u_10 H locs hw hP hD hS => ?_)
    · exact hw.elim
    obtain ⟨r_9, rfl, rfl, hr_9, fC_r_9⟩ := hw
    have hP : va_P (dC, dI) vwCl (cW ad cid a2 lx sg gm lg) H := hP
    have hD : va_D A (cW ad cid a2 lx sg gm lg) := hD
    refine W.eq (g2 := F0 m 24 ls [.int r_9]) rfl ?_
    refine lv_istore (i := 4) (lv' := [(4, .int r_9), (3, .int r_1), (0, eV (ad 1) x), (1, eV (ad 9) o), (2, eV (ad 33) w)]) hx hb dX6_placeValue_24 hl (by decide) rfl (fun ls hl => ?_)
    refine lv_iload hx hb dX6_placeValue_26 (lv_at hl 0 rfl) ?_
    refine lv_bipush (v := 48) hx hb dX6_placeValue_28 (by decide) ?_
    refine lv_icmp_lt (tgt := 48) hx hb dX6_placeValue_30 (by decide) (fun c_12 => ?_) (fun c_12 => ?_)
    · have h_13 : iv 0 47 r_9 := iv_ltL c_12 hr_9 (iv_k (by decide) : iv 48 48 48) (by decide)
      exact hj48 r_9 r_1 (iv_w h_13 (by decide)) h9p hvx hvo hvw ((by rw [(lv_s (v_1 fF_r_1 hat h9z (by rw [← h9e]; have := i32_0; have := i32_1; have := i32_2; have := i32_m1; have := (hvx).1; have := (hvx).2; have := (hvo).1; have := (hvo).2; have := (hvw).1; have := (hvw).2; have := (h9p).1; have := (h9p).2; have := (h_8).1; have := (h_8).2; have := (h_13).1; have := (h_13).2; omega) fC_r_9)).2, if_neg (by have := i32_0; have := i32_1; have := i32_2; have := i32_m1; have := (hvx).1; have := (hvx).2; have := (hvo).1; have := (hvo).2; have := (hvw).1; have := (hvw).2; have := (h9p).1; have := (h9p).2; have := (h_8).1; have := (h_8).2; have := (h_13).1; have := (h_13).2; omega)])) _ _ _ hP hD hS (lv_sub hl [0, 1, 2, 3, 4] rfl)
    · have h_14 : iv 48 65535 r_9 := iv_leR (i32_ge c_12) (iv_k (by decide) : iv 48 48 48) hr_9 (by decide)
      refine lv_iload hx hb dX6_placeValue_33 (lv_at hl 0 rfl) ?_
      refine lv_bipush (v := 51) hx hb dX6_placeValue_35 (by decide) ?_
      refine lv_icmp_ge (tgt := 48) hx hb dX6_placeValue_37 (by decide) (fun c_15 => ?_) (fun c_15 => ?_)
      · have h_16 : iv 51 65535 r_9 := iv_leR c_15 (iv_k (by decide) : iv 51 51 51) h_14 (by decide)
        exact hj48 r_9 r_1 (iv_w h_16 (by decide)) h9p hvx hvo hvw ((by rw [(lv_s (v_1 fF_r_1 hat h9z (by rw [← h9e]; have := i32_0; have := i32_1; have := i32_2; have := i32_m1; have := (hvx).1; have := (hvx).2; have := (hvo).1; have := (hvo).2; have := (hvw).1; have := (hvw).2; have := (h9p).1; have := (h9p).2; have := (h_8).1; have := (h_8).2; have := (h_16).1; have := (h_16).2; omega) fC_r_9)).2, if_neg (by have := i32_0; have := i32_1; have := i32_2; have := i32_m1; have := (hvx).1; have := (hvx).2; have := (hvo).1; have := (hvo).2; have := (hvw).1; have := (hvw).2; have := (h9p).1; have := (h9p).2; have := (h_8).1; have := (h_8).2; have := (h_16).1; have := (h_16).2; omega)])) _ _ _ hP hD hS (lv_sub hl [0, 1, 2, 3, 4] rfl)
      · have h_17 : iv 48 50 r_9 := iv_ltL (i32_lt c_15) h_14 (iv_k (by decide) : iv 51 51 51) (by decide)
        refine lv_iload hx hb dX6_placeValue_40 (lv_at hl 0 rfl) ?_
        refine lv_bipush (v := 48) hx hb dX6_placeValue_42 (by decide) ?_
        refine lv_isub hx hb dX6_placeValue_44 ?_
        refine lv_topi (fun z_18 ez_18 => ?_)
        have hz_18 : iv 0 2 z_18 := iv_of ez_18 (iv_sub h_17 (iv_k (by decide) : iv 48 48 48) (by decide))
        have tz_18 : z_18.toInt = (r_9 : Int32).toInt - 48 := by rw [ez_18]; exact iv_subE h_17 (iv_k (by decide) : iv 48 48 48) (by decide)
        refine lv_goto (tgt := 49) hx hb dX6_placeValue_45 (by decide) ?_
        exact hj49 r_9 r_1 z_18 (iv_w h_17 (by decide)) h9p hvx hvo hvw (iv_w hz_18 (by decide)) ((by rw [(lv_s (v_1 fF_r_1 hat h9z (by rw [← h9e]; have := i32_0; have := i32_1; have := i32_2; have := i32_m1; have := (hvx).1; have := (hvx).2; have := (hvo).1; have := (hvo).2; have := (hvw).1; have := (hvw).2; have := (h9p).1; have := (h9p).2; have := (h_8).1; have := (h_8).2; have := (h_17).1; have := (h_17).2; have := (hz_18).1; have := (hz_18).2; omega) fC_r_9)).2, if_pos ⟨(by have := i32_0; have := i32_1; have := i32_2; have := i32_m1; have := (hvx).1; have := (hvx).2; have := (hvo).1; have := (hvo).2; have := (hvw).1; have := (hvw).2; have := (h9p).1; have := (h9p).2; have := (h_8).1; have := (h_8).2; have := (h_17).1; have := (h_17).2; have := (hz_18).1; have := (hz_18).2; omega), (by have := i32_0; have := i32_1; have := i32_2; have := i32_m1; have := (hvx).1; have := (hvx).2; have := (hvo).1; have := (hvo).2; have := (hvw).1; have := (hvw).2; have := (h9p).1; have := (h9p).2; have := (h_8).1; have := (h_8).2; have := (h_17).1; have := (h_17).2; have := (hz_18).1; have := (hz_18).2; omega)⟩]; have := i32_0; have := i32_1; have := i32_2; have := i32_m1; have := (hvx).1; have := (hvx).2; have := (hvo).1; have := (hvo).2; have := (hvw).1; have := (hvw).2; have := (h9p).1; have := (h9p).2; have := (h_8).1; have := (h_8).2; have := (h_17).1; have := (h_17).2; have := (hz_18).1; have := (hz_18).2; omega)) _ _ _ hP hD hS (lv_sub hl [0, 1, 2, 3, 4] rfl)
  · have d_19 : ¬ (r_4 : Int32).toInt = 1 := lv_neT c_7 rfl
    refine lv_iconst (v := (-1)) hx hb dX6_placeValue_16 (by decide) ?_
    exact W.nb (fun hN => W.widen (k := 1) (n := 6) (by decide) (by decide) (vx_ret (W.iret (v := (-1)) hx hb hr (fun t ht hW => ⟨⟨some (.int (-1)), (sg, gm, lg), rfl, ⟨(-1), rfl, rfl, (iv_w (iv_k (by decide) : iv (-1) (-1) (-1)) (by decide)), ((by rw [(lv_n fF_r_1 hat fV_r_4 (by have := i32_0; have := i32_1; have := i32_2; have := i32_m1; have := (hvx).1; have := (hvx).2; have := (hvo).1; have := (hvo).2; have := (hvw).1; have := (hvw).2; have := (hr_1).1; have := (hr_1).2; have := (hr_4).1; have := (hr_4).2; omega)).2]; decide))⟩, by rw [ht]; exact hP, va_K.moved hW.alike hK, hD⟩, hS.F ht, by rw [ht]; exact hN⟩) hS.2.2 dX6_placeValue_17)))

set_option maxHeartbeats 4000000 in
set_option maxRecDepth 100000 in
theorem d_classValue2 (l : Launch) (dC : Nat → ClassId) (dI : Nat → Nat → Nat) (ad : Nat → Nat → Nat) (cid : Nat → ClassId) (a2 : Nat → Nat) (lx : List Nat) (sg : Nat → Int32) (gm : Nat → Nat → Int32) (lg : Nat → Nat → Int64) (x : Int32) (o : Int32) (w : Int32) (A7 : At7) (hI : CI sg gm) (hvx : iv 0 0 x) (hvo : iv 0 79 o) (hvw : iv 0 33 w) (hFA : FA sg gm) (how : o.toInt < (sg 4).toInt) (hVS : VS sg gm) (hat : ATC A7 gm lg o.toNatClampNeg (sg 5).toInt (sg 6).toInt) : CMt dC dI ad cid a2 lx l yX6_classValue wm_X6_classValue ({ frames := 1, cells := 1, slots := 6, locals := 23 }) [eV (ad 1) x, eV (ad 9) o, eV (ad 33) w] sg gm lg (fun v u => ∃ r : Int32, v = some (.int r) ∧ u = (sg, gm, lg) ∧ (iv (-1) 7 r) ∧ (r.toInt = cv7 A7 (wKy.getD w.toNatClampNeg 0))) (fun _ _ => False) := by
  intro sz
  refine vx_ofW (cc := cX6_classValue) (maxL := 5) (ret := (some .int)) (by decide) rfl ?_
  intro p e s m args below meth c s₁ B hml hxt hv
  obtain ⟨rfl, hsz, hP, hK, hD0, hG⟩ := hv
  have hx := B.exec
  have hb := B.bytes
  have hr := B.returns
  have hts := atoms_spec (ws := wm_X6_classValue) B.pre
  have htb := fun (w : Cond) (h : w ∈ tb) => hts w (List.mem_cons_of_mem _ h)
  have hown : s.vm.findClass RX6 = some m.cls := findClass_of_methodNamed B.named
  have hlocks := B.notSynchronized
  subst hsz
  have hD := hD0.self (sz := s.heap.size)
  generalize hAe : va_A (cW ad cid a2 lx sg gm lg) s.heap.size = A at hD hG ⊢
  have hA : ∀ q : Nat, s.heap.size ≤ q → A q := fun q h => by rw [← hAe]; exact Or.inr h
  have hS : va_S A s.heap s.heap [] := va_S.rf
  have hl := lv_entry ([eV (ad 1) x, eV (ad 9) o, eV (ad 33) w]) (n := 5) (by rw [show (lg_sl ([eV (ad 1) x, eV (ad 9) o, eV (ad 33) w])).length = 3 from by simp [lg_sl, eV_cat, cat_i, cat_l]]; exact Nat.le_of_ble_eq_true rfl)
  rw [lg_entry_eq]
  generalize (lg_sl ([eV (ad 1) x, eV (ad 9) o, eV (ad 33) w]) ++ List.replicate (5 - (lg_sl ([eV (ad 1) x, eV (ad 9) o, eV (ad 33) w])).length) Slot.unset).toArray = ls at hl ⊢
  have hl : lv_has ls 5 [(0, eV (ad 1) x), (1, eV (ad 9) o), (2, eV (ad 33) w)] := by simp [lv_args, eV_cat, cat_i, cat_l] at hl; exact hl
  have hj27 : ∀ (x3_27 : Int32) (_ : iv (-1) 239 x3_27) (_ : iv 0 0 x) (_ : iv 0 79 o) (_ : iv 0 33 w) (_ : cv7 A7 (wKy.getD w.toNatClampNeg 0) = -1) (H : Heap) (locs : List Loc) (ls : Array Slot), va_P (dC, dI) vwCl (cW ad cid a2 lx sg gm lg) H → va_D A (cW ad cid a2 lx sg gm lg) → va_S A s.heap H locs → lv_has ls 5 [(3, .int x3_27), (0, eV (ad 1) x), (1, eV (ad 9) o), (2, eV (ad 33) w)] → W p l e (headSpec wm_X6_classValue ({ frames := 1, cells := 1, slots := 6, locals := 23 })).room s m ([eV (ad 1) x, eV (ad 9) o, eV (ad 33) w] : List Value).toArray below meth c H locs 0 0 (vx_MQ below (cQx dC dI ad cid a2 lx (fun v u => ∃ r : Int32, v = some (.int r) ∧ u = (sg, gm, lg) ∧ (iv (-1) 7 r) ∧ (r.toInt = cv7 A7 (wKy.getD w.toNatClampNeg 0))) A) (cX dC dI ad cid a2 lx (fun _ _ => False) A) ([eV (ad 1) x, eV (ad 9) o, eV (ad 33) w] : List Value).toArray s 1 6 A) (F0 m 27 ls []) := by
    intro x3_27 hx3_27 hsx0_27 hsx1_27 hsx2_27 hN27 H locs ls hP hD hS hl
    refine lv_iconst (v := (-1)) hx hb dX6_classValue_27 (by decide) ?_
    exact W.nb (fun hN => W.widen (k := 1) (n := 6) (by decide) (by decide) (vx_ret (W.iret (v := (-1)) hx hb hr (fun t ht hW => ⟨⟨some (.int (-1)), (sg, gm, lg), rfl, ⟨(-1), rfl, rfl, (iv_w (iv_k (by decide) : iv (-1) (-1) (-1)) (by decide)), ((by rw [hN27]; decide))⟩, by rw [ht]; exact hP, va_K.moved hW.alike hK, hD⟩, hS.F ht, by rw [ht]; exact hN⟩) hS.2.2 dX6_classValue_28)))
  have hj60 : ∀ (x4_60 : Int32) (x3_60 : Int32) (y0_60 : Int32) (_ : iv 0 65535 x4_60) (_ : iv 0 239 x3_60) (_ : iv 0 0 x) (_ : iv 0 79 o) (_ : iv 0 33 w) (_ : iv (-1) 7 y0_60) (_ : y0_60.toInt = cv7 A7 (wKy.getD w.toNatClampNeg 0)) (H : Heap) (locs : List Loc) (ls : Array Slot), va_P (dC, dI) vwCl (cW ad cid a2 lx sg gm lg) H → va_D A (cW ad cid a2 lx sg gm lg) → va_S A s.heap H locs → lv_has ls 5 [(4, .int x4_60), (3, .int x3_60), (0, eV (ad 1) x), (1, eV (ad 9) o), (2, eV (ad 33) w)] → W p l e (headSpec wm_X6_classValue ({ frames := 1, cells := 1, slots := 6, locals := 23 })).room s m ([eV (ad 1) x, eV (ad 9) o, eV (ad 33) w] : List Value).toArray below meth c H locs 0 0 (vx_MQ below (cQx dC dI ad cid a2 lx (fun v u => ∃ r : Int32, v = some (.int r) ∧ u = (sg, gm, lg) ∧ (iv (-1) 7 r) ∧ (r.toInt = cv7 A7 (wKy.getD w.toNatClampNeg 0))) A) (cX dC dI ad cid a2 lx (fun _ _ => False) A) ([eV (ad 1) x, eV (ad 9) o, eV (ad 33) w] : List Value).toArray s 1 6 A) (F0 m 60 ls [.int y0_60]) := by
    intro x4_60 x3_60 y0_60 hx4_60 hx3_60 hsx0_60 hsx1_60 hsx2_60 hy0_60 hR60 H locs ls hP hD hS hl
    exact W.nb (fun hN => W.widen (k := 1) (n := 6) (by decide) (by decide) (vx_ret (W.iret (v := y0_60) hx hb hr (fun t ht hW => ⟨⟨some (.int y0_60), (sg, gm, lg), rfl, ⟨y0_60, rfl, rfl, hy0_60, (hR60)⟩, by rw [ht]; exact hP, va_K.moved hW.alike hK, hD⟩, hS.F ht, by rw [ht]; exact hN⟩) hS.2.2 dX6_classValue_60)))
  have hj59 : ∀ (x4_59 : Int32) (x3_59 : Int32) (_ : iv 0 65535 x4_59) (_ : iv 0 239 x3_59) (_ : iv 0 0 x) (_ : iv 0 79 o) (_ : iv 0 33 w) (_ : cv7 A7 (wKy.getD w.toNatClampNeg 0) = -1) (H : Heap) (locs : List Loc) (ls : Array Slot), va_P (dC, dI) vwCl (cW ad cid a2 lx sg gm lg) H → va_D A (cW ad cid a2 lx sg gm lg) → va_S A s.heap H locs → lv_has ls 5 [(4, .int x4_59), (3, .int x3_59), (0, eV (ad 1) x), (1, eV (ad 9) o), (2, eV (ad 33) w)] → W p l e (headSpec wm_X6_classValue ({ frames := 1, cells := 1, slots := 6, locals := 23 })).room s m ([eV (ad 1) x, eV (ad 9) o, eV (ad 33) w] : List Value).toArray below meth c H locs 0 0 (vx_MQ below (cQx dC dI ad cid a2 lx (fun v u => ∃ r : Int32, v = some (.int r) ∧ u = (sg, gm, lg) ∧ (iv (-1) 7 r) ∧ (r.toInt = cv7 A7 (wKy.getD w.toNatClampNeg 0))) A) (cX dC dI ad cid a2 lx (fun _ _ => False) A) ([eV (ad 1) x, eV (ad 9) o, eV (ad 33) w] : List Value).toArray s 1 6 A) (F0 m 59 ls []) := by
    intro x4_59 x3_59 hx4_59 hx3_59 hsx0_59 hsx1_59 hsx2_59 hN59 H locs ls hP hD hS hl
    refine lv_iconst (v := (-1)) hx hb dX6_classValue_59 (by decide) ?_
    exact hj60 x4_59 x3_59 (-1) hx4_59 hx3_59 hsx0_59 hsx1_59 hsx2_59 (iv_w (iv_k (by decide) : iv (-1) (-1) (-1)) (by decide)) ((by rw [hN59]; decide)) _ _ _ hP hD hS (lv_sub hl [0, 1, 2, 3, 4] rfl)
  refine ec_aload_n hx hb dX6_classValue_0 rfl (lv_at hl 0 rfl) ?_
  refine ec_aload_n hx hb dX6_classValue_1 rfl (lv_at hl 1 rfl) ?_
  refine ec_aload_n hx hb dX6_classValue_2 rfl (lv_at hl 2 rfl) ?_
  refine cm_callV (t := 1) (C := RX6) (T := TX6) (N := 8) (rest := []) (as := [eV (ad 9) o, eV (ad 33) w]) ⟨hx, hb, hml, hown, htb⟩ (d_find l dC dI ad cid a2 lx sg gm lg x o w hI hvx hvo hvw hFA how) (cwV 2 htb (gd_V kw_545 kw_546 kw_547 kw_20 kw_1467) rfl rfl rfl (by decide +kernel) ⟨Nat.le_of_ble_eq_true rfl, Nat.le_of_ble_eq_true rfl⟩) hvx (by decide) (by decide) rfl rfl hl.1 rfl (Nat.le_trans cs_n (by decide)) dX6_classValue_3 ⟨Nat.le_of_ble_eq_true rfl, Nat.le_of_ble_eq_true rfl⟩ hK hP hD hS hA hG (fun E ce q9 u_2 H locs hw hP hD hS hce hcv hcl => ?_) (fun v9 u_2 H locs hw hP hD hS => ?_)
  · exact hw.elim
  obtain ⟨r_1, rfl, rfl, hr_1, fF_r_1, fLt_r_1⟩ := hw
  have hP : va_P (dC, dI) vwCl (cW ad cid a2 lx sg gm lg) H := hP
  have hD : va_D A (cW ad cid a2 lx sg gm lg) := hD
  refine W.eq (g2 := F0 m 6 ls [.int r_1]) rfl ?_
  refine lv_istore_n (i := 3) (lv' := [(3, .int r_1), (0, eV (ad 1) x), (1, eV (ad 9) o), (2, eV (ad 33) w)]) hx hb dX6_classValue_6 rfl hl (by decide) (by simp [List.filter, eV_cat, cat_i, cat_l]) (fun ls hl => ?_)
  refine ec_aload_n hx hb dX6_classValue_7 rfl (lv_at hl 1 rfl) ?_
  refine lv_iload_n hx hb dX6_classValue_8 rfl (lv_at hl 0 rfl) ?_
  refine cm_callV (t := 1) (C := RX6) (T := TX6) (N := 8) (rest := []) (as := [.int r_1]) ⟨hx, hb, hml, hown, htb⟩ (d_valueLength l dC dI ad cid a2 lx sg gm lg x r_1 hI hvx hr_1) (cwV 1 htb (gd_V kw_549 kw_550 kw_551 kw_20 kw_1468) rfl rfl rfl (by decide +kernel) ⟨Nat.le_of_ble_eq_true rfl, Nat.le_of_ble_eq_true rfl⟩) hvx (by decide) (by decide) rfl rfl hl.1 rfl (Nat.le_trans cs_n (by decide)) dX6_classValue_9 ⟨Nat.le_of_ble_eq_true rfl, Nat.le_of_ble_eq_true rfl⟩ hK hP hD hS hA hG (fun E ce q9 u_5 H locs hw hP hD hS hce hcv hcl => ?_) (fun v9 u_5 H locs hw hP hD hS => ?_)
  · exact hw.elim
  obtain ⟨r_4, rfl, rfl, hr_4, fV_r_4⟩ := hw
  have hP : va_P (dC, dI) vwCl (cW ad cid a2 lx sg gm lg) H := hP
  have hD : va_D A (cW ad cid a2 lx sg gm lg) := hD
  refine W.eq (g2 := F0 m 12 ls [.int r_4]) rfl ?_
  refine lv_iconst (v := 2) hx hb dX6_classValue_12 (by decide) ?_
  refine lv_icmp_ne (tgt := 27) hx hb dX6_classValue_13 (by decide) (fun c_7 => ?_) (fun c_7 => ?_)
  · have d_8 : ¬ (r_4 : Int32).toInt = 2 := lv_neT c_7 rfl
    exact hj27 r_1 hr_1 hvx hvo hvw ((cv_n fF_r_1 hat fV_r_4 (by have := i32_0; have := i32_1; have := i32_2; have := i32_m1; have := (hvx).1; have := (hvx).2; have := (hvo).1; have := (hvo).2; have := (hvw).1; have := (hvw).2; have := (hr_1).1; have := (hr_1).2; have := (hr_4).1; have := (hr_4).2; omega))) _ _ _ hP hD hS (lv_sub hl [0, 1, 2, 3] rfl)
  · have h_9 : iv 2 2 r_4 := iv_eq c_7 hr_4 (iv_k (by decide) : iv 2 2 2) (by decide)
    obtain ⟨h9z, h9e⟩ : 0 ≤ r_1.toInt ∧ r_4 = gm 45 r_1.toNatClampNeg := fV_r_4.resolve_left (fun q9 => by have := q9.2; have := i32_0; have := i32_1; have := i32_2; have := i32_m1; have := (hvx).1; have := (hvx).2; have := (hvo).1; have := (hvo).2; have := (hvw).1; have := (hvw).2; have := (hr_1).1; have := (hr_1).2; have := (h_9).1; have := (h_9).2; omega)
    have h9p : iv 0 239 r_1 := ⟨h9z, (hr_1).2⟩
    refine ec_aload_n hx hb dX6_classValue_16 rfl (lv_at hl 1 rfl) ?_
    refine lv_iload_n hx hb dX6_classValue_17 rfl (lv_at hl 0 rfl) ?_
    refine lv_iconst (v := 0) hx hb dX6_classValue_18 (by decide) ?_
    refine cm_callV (t := 1) (C := RX6) (T := TX6) (N := 8) (rest := []) (as := [.int r_1, .int 0]) ⟨hx, hb, hml, hown, htb⟩ (d_valueChar l dC dI ad cid a2 lx sg gm lg x r_1 0 hI hvx h9p (iv_w (iv_k (by decide) : iv 0 0 0) (by decide)) hVS fLt_r_1 (by rw [← h9e]; have q8 : (0 : Int32).toInt = 0 := (by decide); have := i32_0; have := i32_1; have := i32_2; have := i32_m1; have := (hvx).1; have := (hvx).2; have := (hvo).1; have := (hvo).2; have := (hvw).1; have := (hvw).2; have := (h9p).1; have := (h9p).2; have := (h_9).1; have := (h_9).2; omega)) (cwV 2 htb (gd_V kw_552 kw_553 kw_554 kw_20 kw_1469) rfl rfl rfl (by decide +kernel) ⟨Nat.le_of_ble_eq_true rfl, Nat.le_of_ble_eq_true rfl⟩) hvx (by decide) (by decide) rfl rfl hl.1 rfl (Nat.le_trans cs_n (by decide)) dX6_classValue_19 ⟨Nat.le_of_ble_eq_true rfl, Nat.le_of_ble_eq_true rfl⟩ hK hP hD hS hA hG (fun E ce q9 u_11 H locs hw hP hD hS hce hcv hcl => ?_) (fun v9 u_11 H locs hw hP hD hS => ?_)
    · exact hw.elim
    obtain ⟨r_10, rfl, rfl, hr_10, fC_r_10⟩ := hw
    have hP : va_P (dC, dI) vwCl (cW ad cid a2 lx sg gm lg) H := hP
    have hD : va_D A (cW ad cid a2 lx sg gm lg) := hD
    refine W.eq (g2 := F0 m 22 ls [.int r_10]) rfl ?_
    refine lv_bipush (v := 75) hx hb dX6_classValue_22 (by decide) ?_
    refine lv_icmp_eq (tgt := 29) hx hb dX6_classValue_24 (by decide) (fun c_13 => ?_) (fun c_13 => ?_)
    · have h_14 : iv 75 75 r_10 := iv_eq c_13 hr_10 (iv_k (by decide) : iv 75 75 75) (by decide)
      refine ec_aload_n hx hb dX6_classValue_29 rfl (lv_at hl 1 rfl) ?_
      refine lv_iload_n hx hb dX6_classValue_30 rfl (lv_at hl 0 rfl) ?_
      refine lv_iconst (v := 1) hx hb dX6_classValue_31 (by decide) ?_
      refine cm_callV (t := 1) (C := RX6) (T := TX6) (N := 8) (rest := []) (as := [.int r_1, .int 1]) ⟨hx, hb, hml, hown, htb⟩ (d_valueChar l dC dI ad cid a2 lx sg gm lg x r_1 1 hI hvx h9p (iv_w (iv_k (by decide) : iv 1 1 1) (by decide)) hVS fLt_r_1 (by rw [← h9e]; have q8 : (1 : Int32).toInt = 1 := (by decide); have := i32_0; have := i32_1; have := i32_2; have := i32_m1; have := (hvx).1; have := (hvx).2; have := (hvo).1; have := (hvo).2; have := (hvw).1; have := (hvw).2; have := (h9p).1; have := (h9p).2; have := (h_9).1; have := (h_9).2; have := (h_14).1; have := (h_14).2; omega)) (cwV 2 htb (gd_V kw_552 kw_553 kw_554 kw_20 kw_1469) rfl rfl rfl (by decide +kernel) ⟨Nat.le_of_ble_eq_true rfl, Nat.le_of_ble_eq_true rfl⟩) hvx (by decide) (by decide) rfl rfl hl.1 rfl (Nat.le_trans cs_n (by decide)) dX6_classValue_32 ⟨Nat.le_of_ble_eq_true rfl, Nat.le_of_ble_eq_true rfl⟩ hK hP hD hS hA hG (fun E ce q9 u_16 H locs hw hP hD hS hce hcv hcl => ?_) (fun v9 u_16 H locs hw hP hD hS => ?_)
      · exact hw.elim
      obtain ⟨r_15, rfl, rfl, hr_15, fC_r_15⟩ := hw
      have hP : va_P (dC, dI) vwCl (cW ad cid a2 lx sg gm lg) H := hP
      have hD : va_D A (cW ad cid a2 lx sg gm lg) := hD
      refine W.eq (g2 := F0 m 35 ls [.int r_15]) rfl ?_
      refine lv_istore (i := 4) (lv' := [(4, .int r_15), (3, .int r_1), (0, eV (ad 1) x), (1, eV (ad 9) o), (2, eV (ad 33) w)]) hx hb dX6_classValue_35 hl (by decide) rfl (fun ls hl => ?_)
      refine lv_iload hx hb dX6_classValue_37 (lv_at hl 0 rfl) ?_
      refine lv_bipush (v := 48) hx hb dX6_classValue_39 (by decide) ?_
      refine lv_icmp_lt (tgt := 59) hx hb dX6_classValue_41 (by decide) (fun c_18 => ?_) (fun c_18 => ?_)
      · have h_19 : iv 0 47 r_15 := iv_ltL c_18 hr_15 (iv_k (by decide) : iv 48 48 48) (by decide)
        exact hj59 r_15 r_1 (iv_w h_19 (by decide)) h9p hvx hvo hvw ((by obtain ⟨d9, e9, f9⟩ := v_2 (y := 0) fF_r_1 hat h9z (by rw [← h9e]; have := i32_0; have := i32_1; have := i32_2; have := i32_m1; have := (hvx).1; have := (hvx).2; have := (hvo).1; have := (hvo).2; have := (hvw).1; have := (hvw).2; have := (h9p).1; have := (h9p).2; have := (h_9).1; have := (h_9).2; have := (h_14).1; have := (h_14).2; have := (h_19).1; have := (h_19).2; omega) fC_r_10; have f8 := f9 _ fC_r_15; rw [cv_s e9, if_neg (by have := i32_0; have := i32_1; have := i32_2; have := i32_m1; have := (hvx).1; have := (hvx).2; have := (hvo).1; have := (hvo).2; have := (hvw).1; have := (hvw).2; have := (h9p).1; have := (h9p).2; have := (h_9).1; have := (h_9).2; have := (h_14).1; have := (h_14).2; have := (h_19).1; have := (h_19).2; omega)])) _ _ _ hP hD hS (lv_sub hl [0, 1, 2, 3, 4] rfl)
      · have h_20 : iv 48 65535 r_15 := iv_leR (i32_ge c_18) (iv_k (by decide) : iv 48 48 48) hr_15 (by decide)
        refine lv_iload hx hb dX6_classValue_44 (lv_at hl 0 rfl) ?_
        refine lv_bipush (v := 56) hx hb dX6_classValue_46 (by decide) ?_
        refine lv_icmp_ge (tgt := 59) hx hb dX6_classValue_48 (by decide) (fun c_21 => ?_) (fun c_21 => ?_)
        · have h_22 : iv 56 65535 r_15 := iv_leR c_21 (iv_k (by decide) : iv 56 56 56) h_20 (by decide)
          exact hj59 r_15 r_1 (iv_w h_22 (by decide)) h9p hvx hvo hvw ((by obtain ⟨d9, e9, f9⟩ := v_2 (y := 0) fF_r_1 hat h9z (by rw [← h9e]; have := i32_0; have := i32_1; have := i32_2; have := i32_m1; have := (hvx).1; have := (hvx).2; have := (hvo).1; have := (hvo).2; have := (hvw).1; have := (hvw).2; have := (h9p).1; have := (h9p).2; have := (h_9).1; have := (h_9).2; have := (h_14).1; have := (h_14).2; have := (h_22).1; have := (h_22).2; omega) fC_r_10; have f8 := f9 _ fC_r_15; rw [cv_s e9, if_neg (by have := i32_0; have := i32_1; have := i32_2; have := i32_m1; have := (hvx).1; have := (hvx).2; have := (hvo).1; have := (hvo).2; have := (hvw).1; have := (hvw).2; have := (h9p).1; have := (h9p).2; have := (h_9).1; have := (h_9).2; have := (h_14).1; have := (h_14).2; have := (h_22).1; have := (h_22).2; omega)])) _ _ _ hP hD hS (lv_sub hl [0, 1, 2, 3, 4] rfl)
        · have h_23 : iv 48 55 r_15 := iv_ltL (i32_lt c_21) h_20 (iv_k (by decide) : iv 56 56 56) (by decide)
          refine lv_iload hx hb dX6_classValue_51 (lv_at hl 0 rfl) ?_
          refine lv_bipush (v := 48) hx hb dX6_classValue_53 (by decide) ?_
          refine lv_isub hx hb dX6_classValue_55 ?_
          refine lv_topi (fun z_24 ez_24 => ?_)
          have hz_24 : iv 0 7 z_24 := iv_of ez_24 (iv_sub h_23 (iv_k (by decide) : iv 48 48 48) (by decide))
          have tz_24 : z_24.toInt = (r_15 : Int32).toInt - 48 := by rw [ez_24]; exact iv_subE h_23 (iv_k (by decide) : iv 48 48 48) (by decide)
          refine lv_goto (tgt := 60) hx hb dX6_classValue_56 (by decide) ?_
          exact hj60 r_15 r_1 z_24 (iv_w h_23 (by decide)) h9p hvx hvo hvw (iv_w hz_24 (by decide)) ((by obtain ⟨d9, e9, f9⟩ := v_2 (y := 0) fF_r_1 hat h9z (by rw [← h9e]; have := i32_0; have := i32_1; have := i32_2; have := i32_m1; have := (hvx).1; have := (hvx).2; have := (hvo).1; have := (hvo).2; have := (hvw).1; have := (hvw).2; have := (h9p).1; have := (h9p).2; have := (h_9).1; have := (h_9).2; have := (h_14).1; have := (h_14).2; have := (h_23).1; have := (h_23).2; have := (hz_24).1; have := (hz_24).2; omega) fC_r_10; have f8 := f9 _ fC_r_15; rw [cv_s e9, if_pos ⟨(by have := i32_0; have := i32_1; have := i32_2; have := i32_m1; have := (hvx).1; have := (hvx).2; have := (hvo).1; have := (hvo).2; have := (hvw).1; have := (hvw).2; have := (h9p).1; have := (h9p).2; have := (h_9).1; have := (h_9).2; have := (h_14).1; have := (h_14).2; have := (h_23).1; have := (h_23).2; have := (hz_24).1; have := (hz_24).2; omega), (by have := i32_0; have := i32_1; have := i32_2; have := i32_m1; have := (hvx).1; have := (hvx).2; have := (hvo).1; have := (hvo).2; have := (hvw).1; have := (hvw).2; have := (h9p).1; have := (h9p).2; have := (h_9).1; have := (h_9).2; have := (h_14).1; have := (h_14).2; have := (h_23).1; have := (h_23).2; have := (hz_24).1; have := (hz_24).2; omega), (by have := i32_0; have := i32_1; have := i32_2; have := i32_m1; have := (hvx).1; have := (hvx).2; have := (hvo).1; have := (hvo).2; have := (hvw).1; have := (hvw).2; have := (h9p).1; have := (h9p).2; have := (h_9).1; have := (h_9).2; have := (h_14).1; have := (h_14).2; have := (h_23).1; have := (h_23).2; have := (hz_24).1; have := (hz_24).2; omega)⟩]; have := i32_0; have := i32_1; have := i32_2; have := i32_m1; have := (hvx).1; have := (hvx).2; have := (hvo).1; have := (hvo).2; have := (hvw).1; have := (hvw).2; have := (h9p).1; have := (h9p).2; have := (h_9).1; have := (h_9).2; have := (h_14).1; have := (h_14).2; have := (h_23).1; have := (h_23).2; have := (hz_24).1; have := (hz_24).2; omega)) _ _ _ hP hD hS (lv_sub hl [0, 1, 2, 3, 4] rfl)
    · have d_25 : ¬ (r_10 : Int32).toInt = 75 := lv_neT c_13 rfl
      exact hj27 r_1 (iv_w h9p (by decide)) hvx hvo hvw ((by obtain ⟨d9, e9, f9⟩ := v_2 (y := 0) fF_r_1 hat h9z (by rw [← h9e]; have := i32_0; have := i32_1; have := i32_2; have := i32_m1; have := (hvx).1; have := (hvx).2; have := (hvo).1; have := (hvo).2; have := (hvw).1; have := (hvw).2; have := (h9p).1; have := (h9p).2; have := (h_9).1; have := (h_9).2; have := (hr_10).1; have := (hr_10).2; omega) fC_r_10; rw [cv_s e9, if_neg (fun q => absurd q.1 (by have := i32_0; have := i32_1; have := i32_2; have := i32_m1; have := (hvx).1; have := (hvx).2; have := (hvo).1; have := (hvo).2; have := (hvw).1; have := (hvw).2; have := (h9p).1; have := (h9p).2; have := (h_9).1; have := (h_9).2; have := (hr_10).1; have := (hr_10).2; omega))])) _ _ _ hP hD hS (lv_sub hl [0, 1, 2, 3] rfl)

set_option maxHeartbeats 4000000 in
set_option maxRecDepth 100000 in
theorem d_nameValue3 (l : Launch) (dC : Nat → ClassId) (dI : Nat → Nat → Nat) (ad : Nat → Nat → Nat) (cid : Nat → ClassId) (a2 : Nat → Nat) (lx : List Nat) (sg : Nat → Int32) (gm : Nat → Nat → Int32) (lg : Nat → Nat → Int64) (x : Int32) (o : Int32) (w : Int32) (A7 : At7) (hI : CI sg gm) (hvx : iv 0 0 x) (hvo : iv 0 79 o) (hvw : iv 0 33 w) (hFA : FA sg gm) (how : o.toInt < (sg 4).toInt) (hVS : VS sg gm) (hat : ATC A7 gm lg o.toNatClampNeg (sg 5).toInt (sg 6).toInt) : CMt dC dI ad cid a2 lx l yX6_nameValue wm_X6_nameValue ({ frames := 1, cells := 1, slots := 6, locals := 23 }) [eV (ad 1) x, eV (ad 9) o, eV (ad 33) w] sg gm lg (fun v u => ∃ r : Int64, v = some (.long r) ∧ u = (sg, gm, lg) ∧ (r = nv7 A7 (wKy.getD w.toNatClampNeg 0)) ∧ (r = 0 ∨ HSK gm lg o.toNatClampNeg (wKy.getD w.toNatClampNeg 0))) (fun _ _ => False) := by
  intro sz
  refine vx_ofW (cc := cX6_nameValue) (maxL := 9) (ret := (some .long)) (by decide) rfl ?_
  intro p e s m args below meth c s₁ B hml hxt hv
  obtain ⟨rfl, hsz, hP, hK, hD0, hG⟩ := hv
  have hx := B.exec
  have hb := B.bytes
  have hr := B.returns
  have hts := atoms_spec (ws := wm_X6_nameValue) B.pre
  have htb := fun (w : Cond) (h : w ∈ tb) => hts w (List.mem_cons_of_mem _ h)
  have hown : s.vm.findClass RX6 = some m.cls := findClass_of_methodNamed B.named
  have hlocks := B.notSynchronized
  subst hsz
  have hD := hD0.self (sz := s.heap.size)
  generalize hAe : va_A (cW ad cid a2 lx sg gm lg) s.heap.size = A at hD hG ⊢
  have hA : ∀ q : Nat, s.heap.size ≤ q → A q := fun q h => by rw [← hAe]; exact Or.inr h
  have hS : va_S A s.heap s.heap [] := va_S.rf
  have hl := lv_entry ([eV (ad 1) x, eV (ad 9) o, eV (ad 33) w]) (n := 9) (by rw [show (lg_sl ([eV (ad 1) x, eV (ad 9) o, eV (ad 33) w])).length = 3 from by simp [lg_sl, eV_cat, cat_i, cat_l]]; exact Nat.le_of_ble_eq_true rfl)
  rw [lg_entry_eq]
  generalize (lg_sl ([eV (ad 1) x, eV (ad 9) o, eV (ad 33) w]) ++ List.replicate (9 - (lg_sl ([eV (ad 1) x, eV (ad 9) o, eV (ad 33) w])).length) Slot.unset).toArray = ls at hl ⊢
  have hl : lv_has ls 9 [(0, eV (ad 1) x), (1, eV (ad 9) o), (2, eV (ad 33) w)] := by simp [lv_args, eV_cat, cat_i, cat_l] at hl; exact hl
  have hj27 : ∀ (x4_27 : Int32) (x3_27 : Int32) (_ : iv 0 24 x4_27) (_ : iv (-1) 239 x3_27) (_ : iv 0 0 x) (_ : iv 0 79 o) (_ : iv 0 33 w) (_ : nv7 A7 (wKy.getD w.toNatClampNeg 0) = 0) (H : Heap) (locs : List Loc) (ls : Array Slot), va_P (dC, dI) vwCl (cW ad cid a2 lx sg gm lg) H → va_D A (cW ad cid a2 lx sg gm lg) → va_S A s.heap H locs → lv_has ls 9 [(4, .int x4_27), (3, .int x3_27), (0, eV (ad 1) x), (1, eV (ad 9) o), (2, eV (ad 33) w)] → W p l e (headSpec wm_X6_nameValue ({ frames := 1, cells := 1, slots := 6, locals := 23 })).room s m ([eV (ad 1) x, eV (ad 9) o, eV (ad 33) w] : List Value).toArray below meth c H locs 0 0 (vx_MQ below (cQx dC dI ad cid a2 lx (fun v u => ∃ r : Int64, v = some (.long r) ∧ u = (sg, gm, lg) ∧ (r = nv7 A7 (wKy.getD w.toNatClampNeg 0)) ∧ (r = 0 ∨ HSK gm lg o.toNatClampNeg (wKy.getD w.toNatClampNeg 0))) A) (cX dC dI ad cid a2 lx (fun _ _ => False) A) ([eV (ad 1) x, eV (ad 9) o, eV (ad 33) w] : List Value).toArray s 1 6 A) (F0 m 27 ls []) := by
    intro x4_27 x3_27 hx4_27 hx3_27 hsx0_27 hsx1_27 hsx2_27 hN27 H locs ls hP hD hS hl
    refine lv_lconst (v := 0) hx hb dX6_nameValue_27 (by decide) ?_
    exact W.nb (fun hN => W.widen (k := 1) (n := 6) (by decide) (by decide) (vx_ret (W.lret (v := 0) hx hb hr (fun t ht hW => ⟨⟨some (.long 0), (sg, gm, lg), rfl, ⟨0, rfl, rfl, (hN27.symm), ((by by_cases h9 : nv7 A7 (wKy.getD w.toNatClampNeg 0) = 0; (exact Or.inl (Eq.trans hN27.symm h9)); exact Or.inr ((hsk_h hat).mpr (nvH h9))))⟩, by rw [ht]; exact hP, va_K.moved hW.alike hK, hD⟩, hS.F ht, by rw [ht]; exact hN⟩) hS.2.2 dX6_nameValue_28)))
  have hj65 : ∀ (x8_65 : Int32) (x7_65 : Int32) (x5_65 : Int64) (x4_65 : Int32) (x3_65 : Int32) (_ : iv 0 65535 x8_65) (_ : iv 0 7 x7_65) (_ : iv 1 8 x4_65) (_ : iv 0 239 x3_65) (_ : iv 0 0 x) (_ : iv 0 79 o) (_ : iv 0 33 w) (_ : nv7 A7 (wKy.getD w.toNatClampNeg 0) = 0) (H : Heap) (locs : List Loc) (ls : Array Slot), va_P (dC, dI) vwCl (cW ad cid a2 lx sg gm lg) H → va_D A (cW ad cid a2 lx sg gm lg) → va_S A s.heap H locs → lv_has ls 9 [(8, .int x8_65), (7, .int x7_65), (5, .long x5_65), (4, .int x4_65), (3, .int x3_65), (0, eV (ad 1) x), (1, eV (ad 9) o), (2, eV (ad 33) w)] → W p l e (headSpec wm_X6_nameValue ({ frames := 1, cells := 1, slots := 6, locals := 23 })).room s m ([eV (ad 1) x, eV (ad 9) o, eV (ad 33) w] : List Value).toArray below meth c H locs 0 0 (vx_MQ below (cQx dC dI ad cid a2 lx (fun v u => ∃ r : Int64, v = some (.long r) ∧ u = (sg, gm, lg) ∧ (r = nv7 A7 (wKy.getD w.toNatClampNeg 0)) ∧ (r = 0 ∨ HSK gm lg o.toNatClampNeg (wKy.getD w.toNatClampNeg 0))) A) (cX dC dI ad cid a2 lx (fun _ _ => False) A) ([eV (ad 1) x, eV (ad 9) o, eV (ad 33) w] : List Value).toArray s 1 6 A) (F0 m 65 ls []) := by
    intro x8_65 x7_65 x5_65 x4_65 x3_65 hx8_65 hx7_65 hx4_65 hx3_65 hsx0_65 hsx1_65 hsx2_65 hN65 H locs ls hP hD hS hl
    refine lv_lconst (v := 0) hx hb dX6_nameValue_65 (by decide) ?_
    exact W.nb (fun hN => W.widen (k := 1) (n := 6) (by decide) (by decide) (vx_ret (W.lret (v := 0) hx hb hr (fun t ht hW => ⟨⟨some (.long 0), (sg, gm, lg), rfl, ⟨0, rfl, rfl, (hN65.symm), ((by by_cases h9 : nv7 A7 (wKy.getD w.toNatClampNeg 0) = 0; (exact Or.inl (Eq.trans hN65.symm h9)); exact Or.inr ((hsk_h hat).mpr (nvH h9))))⟩, by rw [ht]; exact hP, va_K.moved hW.alike hK, hD⟩, hS.F ht, by rw [ht]; exact hN⟩) hS.2.2 dX6_nameValue_66)))
  have hj35 : ∀ (n : Nat) (x7_35 : Int32) (x5_35 : Int64) (x4_35 : Int32) (x3_35 : Int32) (_ : (8 - x7_35.toInt).toNat = n) (_ : iv 0 8 x7_35) (_ : iv 1 8 x4_35) (_ : iv 0 239 x3_35) (_ : iv 0 0 x) (_ : iv 0 79 o) (_ : iv 0 33 w) (_ : 0 ≤ x3_35.toInt) (_ : x3_35.toInt < (sg 5).toInt) (_ : x4_35 = gm 45 x3_35.toNatClampNeg) (_ : gA A7 (wKy.getD w.toNatClampNeg 0) = some (vv7 A7 (wKy.getD w.toNatClampNeg 0)) ∧ VW7 gm x3_35.toNatClampNeg (vv7 A7 (wKy.getD w.toNatClampNeg 0))) (_ : x5_35 = foL ((vv7 A7 (wKy.getD w.toNatClampNeg 0)).take x7_35.toNatClampNeg) 0) (_ : allL ((vv7 A7 (wKy.getD w.toNatClampNeg 0)).take x7_35.toNatClampNeg) = true) (H : Heap) (locs : List Loc) (ls : Array Slot), va_P (dC, dI) vwCl (cW ad cid a2 lx sg gm lg) H → va_D A (cW ad cid a2 lx sg gm lg) → va_S A s.heap H locs → lv_has ls 9 [(7, .int x7_35), (5, .long x5_35), (4, .int x4_35), (3, .int x3_35), (0, eV (ad 1) x), (1, eV (ad 9) o), (2, eV (ad 33) w)] → W p l e (headSpec wm_X6_nameValue ({ frames := 1, cells := 1, slots := 6, locals := 23 })).room s m ([eV (ad 1) x, eV (ad 9) o, eV (ad 33) w] : List Value).toArray below meth c H locs 0 0 (vx_MQ below (cQx dC dI ad cid a2 lx (fun v u => ∃ r : Int64, v = some (.long r) ∧ u = (sg, gm, lg) ∧ (r = nv7 A7 (wKy.getD w.toNatClampNeg 0)) ∧ (r = 0 ∨ HSK gm lg o.toNatClampNeg (wKy.getD w.toNatClampNeg 0))) A) (cX dC dI ad cid a2 lx (fun _ _ => False) A) ([eV (ad 1) x, eV (ad 9) o, eV (ad 33) w] : List Value).toArray s 1 6 A) (F0 m 35 ls []) := by
    intro n
    induction n using Nat.strongRecOn with
    | ind n ih35 =>
      intro x7_35 x5_35 x4_35 x3_35 hn35 hx7_35 hx4_35 hx3_35 hsx0_35 hsx1_35 hsx2_35 h3p h3l h4e hvw hky hal9 H locs ls hP hD hS hl
      refine lv_iload hx hb dX6_nameValue_35 (lv_at hl 0 rfl) ?_
      refine lv_iload hx hb dX6_nameValue_37 (lv_at hl 2 rfl) ?_
      refine lv_icmp_ge (tgt := 84) hx hb dX6_nameValue_39 (by decide) (fun c_1 => ?_) (fun c_1 => ?_)
      · have d_2 : (x4_35 : Int32).toInt ≤ (x7_35 : Int32).toInt := Int32.le_iff_toInt_le.mp c_1
        have h_3 : iv 1 8 x7_35 := iv_leR c_1 hx4_35 hx7_35 (by decide)
        refine lv_lload hx hb dX6_nameValue_84 (lv_at hl 1 rfl) ?_
        exact W.nb (fun hN => W.widen (k := 1) (n := 6) (by decide) (by decide) (vx_ret (W.lret (v := x5_35) hx hb hr (fun t ht hW => ⟨⟨some (.long x5_35), (sg, gm, lg), rfl, ⟨x5_35, rfl, rfl, ((by have e9 : (vv7 A7 (wKy.getD w.toNatClampNeg 0)).take x7_35.toNatClampNeg = (vv7 A7 (wKy.getD w.toNatClampNeg 0)) := List.take_of_length_le (by have k7 : x7_35.toNatClampNeg = x7_35.toInt.toNat := rfl; have k4 := congrArg Int32.toInt h4e; have k5 := hvw.2.1; have := i32_0; have := i32_1; have := i32_2; have := i32_m1; have := (hsx0_35).1; have := (hsx0_35).2; have := (hsx1_35).1; have := (hsx1_35).2; have := (hsx2_35).1; have := (hsx2_35).2; have := (h_3).1; have := (h_3).2; have := (hx4_35).1; have := (hx4_35).2; have := (hx3_35).1; have := (hx3_35).2; omega); rw [e9] at hky hal9; rw [nv_e hvw.1 (by have k7 : x7_35.toNatClampNeg = x7_35.toInt.toNat := rfl; have k4 := congrArg Int32.toInt h4e; have k5 := hvw.2.1; have := i32_0; have := i32_1; have := i32_2; have := i32_m1; have := (hsx0_35).1; have := (hsx0_35).2; have := (hsx1_35).1; have := (hsx1_35).2; have := (hsx2_35).1; have := (hsx2_35).2; have := (h_3).1; have := (h_3).2; have := (hx4_35).1; have := (hx4_35).2; have := (hx3_35).1; have := (hx3_35).2; omega) (by have k7 : x7_35.toNatClampNeg = x7_35.toInt.toNat := rfl; have k4 := congrArg Int32.toInt h4e; have k5 := hvw.2.1; have := i32_0; have := i32_1; have := i32_2; have := i32_m1; have := (hsx0_35).1; have := (hsx0_35).2; have := (hsx1_35).1; have := (hsx1_35).2; have := (hsx2_35).1; have := (hsx2_35).2; have := (h_3).1; have := (h_3).2; have := (hx4_35).1; have := (hx4_35).2; have := (hx3_35).1; have := (hx3_35).2; omega) hal9]; exact hky)), ((by by_cases h9 : nv7 A7 (wKy.getD w.toNatClampNeg 0) = 0; (exact Or.inl (Eq.trans (by have e9 : (vv7 A7 (wKy.getD w.toNatClampNeg 0)).take x7_35.toNatClampNeg = (vv7 A7 (wKy.getD w.toNatClampNeg 0)) := List.take_of_length_le (by have k7 : x7_35.toNatClampNeg = x7_35.toInt.toNat := rfl; have k4 := congrArg Int32.toInt h4e; have k5 := hvw.2.1; have := i32_0; have := i32_1; have := i32_2; have := i32_m1; have := (hsx0_35).1; have := (hsx0_35).2; have := (hsx1_35).1; have := (hsx1_35).2; have := (hsx2_35).1; have := (hsx2_35).2; have := (h_3).1; have := (h_3).2; have := (hx4_35).1; have := (hx4_35).2; have := (hx3_35).1; have := (hx3_35).2; omega); rw [e9] at hky hal9; rw [nv_e hvw.1 (by have k7 : x7_35.toNatClampNeg = x7_35.toInt.toNat := rfl; have k4 := congrArg Int32.toInt h4e; have k5 := hvw.2.1; have := i32_0; have := i32_1; have := i32_2; have := i32_m1; have := (hsx0_35).1; have := (hsx0_35).2; have := (hsx1_35).1; have := (hsx1_35).2; have := (hsx2_35).1; have := (hsx2_35).2; have := (h_3).1; have := (h_3).2; have := (hx4_35).1; have := (hx4_35).2; have := (hx3_35).1; have := (hx3_35).2; omega) (by have k7 : x7_35.toNatClampNeg = x7_35.toInt.toNat := rfl; have k4 := congrArg Int32.toInt h4e; have k5 := hvw.2.1; have := i32_0; have := i32_1; have := i32_2; have := i32_m1; have := (hsx0_35).1; have := (hsx0_35).2; have := (hsx1_35).1; have := (hsx1_35).2; have := (hsx2_35).1; have := (hsx2_35).2; have := (h_3).1; have := (h_3).2; have := (hx4_35).1; have := (hx4_35).2; have := (hx3_35).1; have := (hx3_35).2; omega) hal9]; exact hky) h9)); exact Or.inr ((hsk_h hat).mpr (nvH h9))))⟩, by rw [ht]; exact hP, va_K.moved hW.alike hK, hD⟩, hS.F ht, by rw [ht]; exact hN⟩) hS.2.2 dX6_nameValue_86)))
      · have d_4 : (x7_35 : Int32).toInt < (x4_35 : Int32).toInt := Int32.lt_iff_toInt_lt.mp (i32_lt c_1)
        have h_5 : iv 0 7 x7_35 := iv_ltL (i32_lt c_1) hx7_35 hx4_35 (by decide)
        have h42 : iv 0 239 x3_35 := ⟨h3p, (hx3_35).2⟩
        refine ec_aload_n hx hb dX6_nameValue_42 rfl (lv_at hl 4 rfl) ?_
        refine lv_iload_n hx hb dX6_nameValue_43 rfl (lv_at hl 3 rfl) ?_
        refine lv_iload hx hb dX6_nameValue_44 (lv_at hl 0 rfl) ?_
        refine cm_callV (t := 1) (C := RX6) (T := TX6) (N := 8) (rest := []) (as := [.int x3_35, .int x7_35]) ⟨hx, hb, hml, hown, htb⟩ (d_valueChar l dC dI ad cid a2 lx sg gm lg x x3_35 x7_35 hI hsx0_35 h42 (iv_w h_5 (by decide)) hVS h3l (by rw [← h4e]; have := i32_0; have := i32_1; have := i32_2; have := i32_m1; have := (hsx0_35).1; have := (hsx0_35).2; have := (hsx1_35).1; have := (hsx1_35).2; have := (hsx2_35).1; have := (hsx2_35).2; have := (h_5).1; have := (h_5).2; have := (hx4_35).1; have := (hx4_35).2; have := (h42).1; have := (h42).2; omega)) (cwV 2 htb (gd_V kw_552 kw_553 kw_554 kw_20 kw_1469) rfl rfl rfl (by decide +kernel) ⟨Nat.le_of_ble_eq_true rfl, Nat.le_of_ble_eq_true rfl⟩) hsx0_35 (by decide) (by decide) rfl rfl hl.1 rfl (Nat.le_trans cs_n (by decide)) dX6_nameValue_46 ⟨Nat.le_of_ble_eq_true rfl, Nat.le_of_ble_eq_true rfl⟩ hK hP hD hS hA hG (fun E ce q9 u_7 H locs hw hP hD hS hce hcv hcl => ?_) (fun v9 u_7 H locs hw hP hD hS => ?_)
        · exact hw.elim
        obtain ⟨r_6, rfl, rfl, hr_6, fC_r_6⟩ := hw
        have hP : va_P (dC, dI) vwCl (cW ad cid a2 lx sg gm lg) H := hP
        have hD : va_D A (cW ad cid a2 lx sg gm lg) := hD
        refine W.eq (g2 := F0 m 49 ls [.int r_6]) rfl ?_
        refine lv_istore (i := 8) (lv' := [(8, .int r_6), (7, .int x7_35), (5, .long x5_35), (4, .int x4_35), (3, .int x3_35), (0, eV (ad 1) x), (1, eV (ad 9) o), (2, eV (ad 33) w)]) hx hb dX6_nameValue_49 hl (by decide) rfl (fun ls hl => ?_)
        refine lv_iload hx hb dX6_nameValue_51 (lv_at hl 0 rfl) ?_
        refine lv_bipush (v := 97) hx hb dX6_nameValue_53 (by decide) ?_
        refine lv_icmp_lt (tgt := 65) hx hb dX6_nameValue_55 (by decide) (fun c_9 => ?_) (fun c_9 => ?_)
        · have h_10 : iv 0 96 r_6 := iv_ltL c_9 hr_6 (iv_k (by decide) : iv 97 97 97) (by decide)
          exact hj65 r_6 x7_35 x5_35 x4_35 x3_35 (iv_w h_10 (by decide)) h_5 hx4_35 h42 hsx0_35 hsx1_35 hsx2_35 ((nv_x hvw (show x7_35.toNatClampNeg < (vv7 A7 (wKy.getD w.toNatClampNeg 0)).length from (by have k7 : x7_35.toNatClampNeg = x7_35.toInt.toNat := rfl; have k4 := congrArg Int32.toInt h4e; have k5 := hvw.2.1; have := i32_0; have := i32_1; have := i32_2; have := i32_m1; have := (hsx0_35).1; have := (hsx0_35).2; have := (hsx1_35).1; have := (hsx1_35).2; have := (hsx2_35).1; have := (hsx2_35).2; have := (h_5).1; have := (h_5).2; have := (hx4_35).1; have := (hx4_35).2; have := (h42).1; have := (h42).2; have := (h_10).1; have := (h_10).2; omega)) fC_r_6 (by have := i32_0; have := i32_1; have := i32_2; have := i32_m1; have := (hsx0_35).1; have := (hsx0_35).2; have := (hsx1_35).1; have := (hsx1_35).2; have := (hsx2_35).1; have := (hsx2_35).2; have := (h_5).1; have := (h_5).2; have := (hx4_35).1; have := (hx4_35).2; have := (h42).1; have := (h42).2; have := (h_10).1; have := (h_10).2; omega))) _ _ _ hP hD hS (lv_sub hl [0, 1, 2, 3, 4, 5, 6, 7] rfl)
        · have h_11 : iv 97 65535 r_6 := iv_leR (i32_ge c_9) (iv_k (by decide) : iv 97 97 97) hr_6 (by decide)
          refine lv_iload hx hb dX6_nameValue_58 (lv_at hl 0 rfl) ?_
          refine lv_bipush (v := 122) hx hb dX6_nameValue_60 (by decide) ?_
          refine lv_icmp_le (tgt := 67) hx hb dX6_nameValue_62 (by decide) (fun c_12 => ?_) (fun c_12 => ?_)
          · have h_13 : iv 97 122 r_6 := iv_leL c_12 h_11 (iv_k (by decide) : iv 122 122 122) (by decide)
            refine lv_lload hx hb dX6_nameValue_67 (lv_at hl 2 rfl) ?_
            refine lv_bipush (v := 8) hx hb dX6_nameValue_69 (by decide) ?_
            refine lv_lshl (v := x5_35 <<< ((8 : Int32).toInt64 &&& 63)) hx hb dX6_nameValue_71 rfl ?_
            refine lv_topl (fun z_14 ez_14 => ?_)
            refine lv_iload hx hb dX6_nameValue_72 (lv_at hl 0 rfl) ?_
            refine lv_i2l (v := (r_6 : Int32).toInt64) hx hb dX6_nameValue_74 rfl ?_
            refine lv_topl (fun z_15 ez_15 => ?_)
            refine lv_lor hx hb dX6_nameValue_75 ?_
            refine lv_topl (fun z_16 ez_16 => ?_)
            refine lv_lstore (i := 5) (lv' := [(5, .long z_16), (8, .int r_6), (7, .int x7_35), (4, .int x4_35), (3, .int x3_35), (0, eV (ad 1) x), (1, eV (ad 9) o), (2, eV (ad 33) w)]) hx hb dX6_nameValue_76 hl (by decide) rfl (fun ls hl => ?_)
            obtain ⟨z_17, ez_17⟩ : ∃ z : Int32, z = x7_35 + 1 := ⟨_, rfl⟩
            have hz_17 : iv 1 8 z_17 := iv_of ez_17 (iv_add h_5 (iv_k (by decide) : iv 1 1 1) (by decide))
            have tz_17 : z_17.toInt = x7_35.toInt + 1 := by rw [ez_17]; exact iv_addE h_5 (iv_k (by decide) : iv 1 1 1) (by decide)
            refine lv_iinc (v := z_17) (lv' := [(7, .int z_17), (5, .long z_16), (8, .int r_6), (4, .int x4_35), (3, .int x3_35), (0, eV (ad 1) x), (1, eV (ad 9) o), (2, eV (ad 33) w)]) hx hb dX6_nameValue_78 hl (k := 2) rfl ez_17.symm (by decide) rfl (fun ls hl => ?_)
            refine lv_goto (tgt := 35) hx hb dX6_nameValue_81 (by decide) ?_
            exact ih35 _ (by rw [← hn35]; exact (iv_meas tz_17 h_5 (by decide))) z_17 z_16 x4_35 x3_35 rfl (iv_w hz_17 (by decide)) hx4_35 h42 hsx0_35 hsx1_35 hsx2_35 (h3p) (h3l) (h4e) (hvw) ((by rw [s_cl h_5 (by decide) tz_17, (tk_s hvw.2 (show x7_35.toNatClampNeg < (vv7 A7 (wKy.getD w.toNatClampNeg 0)).length from (by have k7 : x7_35.toNatClampNeg = x7_35.toInt.toNat := rfl; have k4 := congrArg Int32.toInt h4e; have k5 := hvw.2.1; have := i32_0; have := i32_1; have := i32_2; have := i32_m1; have := (hsx0_35).1; have := (hsx0_35).2; have := (hsx1_35).1; have := (hsx1_35).2; have := (hsx2_35).1; have := (hsx2_35).2; have := (h_5).1; have := (h_5).2; have := (hx4_35).1; have := (hx4_35).2; have := (h42).1; have := (h42).2; have := (h_13).1; have := (h_13).2; have := (hz_17).1; have := (hz_17).2; omega)) fC_r_6), foL_ap, ← hky, ← nm_or rfl]; (try rw [← ez_14]); (try rw [← ez_15]); exact ez_16)) ((by rw [s_cl h_5 (by decide) tz_17, (tk_s hvw.2 (show x7_35.toNatClampNeg < (vv7 A7 (wKy.getD w.toNatClampNeg 0)).length from (by have k7 : x7_35.toNatClampNeg = x7_35.toInt.toNat := rfl; have k4 := congrArg Int32.toInt h4e; have k5 := hvw.2.1; have := i32_0; have := i32_1; have := i32_2; have := i32_m1; have := (hsx0_35).1; have := (hsx0_35).2; have := (hsx1_35).1; have := (hsx1_35).2; have := (hsx2_35).1; have := (hsx2_35).2; have := (h_5).1; have := (h_5).2; have := (hx4_35).1; have := (hx4_35).2; have := (h42).1; have := (h42).2; have := (h_13).1; have := (h_13).2; have := (hz_17).1; have := (hz_17).2; omega)) fC_r_6), allL_ap, hal9, decide_eq_true (show 97 ≤ r_6.toInt ∧ r_6.toInt ≤ 122 from ⟨(by have := i32_0; have := i32_1; have := i32_2; have := i32_m1; have := (hsx0_35).1; have := (hsx0_35).2; have := (hsx1_35).1; have := (hsx1_35).2; have := (hsx2_35).1; have := (hsx2_35).2; have := (h_5).1; have := (h_5).2; have := (hx4_35).1; have := (hx4_35).2; have := (h42).1; have := (h42).2; have := (h_13).1; have := (h_13).2; have := (hz_17).1; have := (hz_17).2; omega), (by have := i32_0; have := i32_1; have := i32_2; have := i32_m1; have := (hsx0_35).1; have := (hsx0_35).2; have := (hsx1_35).1; have := (hsx1_35).2; have := (hsx2_35).1; have := (hsx2_35).2; have := (h_5).1; have := (h_5).2; have := (hx4_35).1; have := (hx4_35).2; have := (h42).1; have := (h42).2; have := (h_13).1; have := (h_13).2; have := (hz_17).1; have := (hz_17).2; omega)⟩)]; rfl)) _ _ _ hP hD hS (lv_sub hl [0, 1, 3, 4, 5, 6, 7] rfl)
          · have h_18 : iv 123 65535 r_6 := iv_ltR (i32_lt c_12) (iv_k (by decide) : iv 122 122 122) h_11 (by decide)
            exact hj65 r_6 x7_35 x5_35 x4_35 x3_35 (iv_w h_18 (by decide)) h_5 hx4_35 h42 hsx0_35 hsx1_35 hsx2_35 ((nv_x hvw (show x7_35.toNatClampNeg < (vv7 A7 (wKy.getD w.toNatClampNeg 0)).length from (by have k7 : x7_35.toNatClampNeg = x7_35.toInt.toNat := rfl; have k4 := congrArg Int32.toInt h4e; have k5 := hvw.2.1; have := i32_0; have := i32_1; have := i32_2; have := i32_m1; have := (hsx0_35).1; have := (hsx0_35).2; have := (hsx1_35).1; have := (hsx1_35).2; have := (hsx2_35).1; have := (hsx2_35).2; have := (h_5).1; have := (h_5).2; have := (hx4_35).1; have := (hx4_35).2; have := (h42).1; have := (h42).2; have := (h_18).1; have := (h_18).2; omega)) fC_r_6 (by have := i32_0; have := i32_1; have := i32_2; have := i32_m1; have := (hsx0_35).1; have := (hsx0_35).2; have := (hsx1_35).1; have := (hsx1_35).2; have := (hsx2_35).1; have := (hsx2_35).2; have := (h_5).1; have := (h_5).2; have := (hx4_35).1; have := (hx4_35).2; have := (h42).1; have := (h42).2; have := (h_18).1; have := (h_18).2; omega))) _ _ _ hP hD hS (lv_sub hl [0, 1, 2, 3, 4, 5, 6, 7] rfl)
  refine ec_aload_n hx hb dX6_nameValue_0 rfl (lv_at hl 0 rfl) ?_
  refine ec_aload_n hx hb dX6_nameValue_1 rfl (lv_at hl 1 rfl) ?_
  refine ec_aload_n hx hb dX6_nameValue_2 rfl (lv_at hl 2 rfl) ?_
  refine cm_callV (t := 1) (C := RX6) (T := TX6) (N := 8) (rest := []) (as := [eV (ad 9) o, eV (ad 33) w]) ⟨hx, hb, hml, hown, htb⟩ (d_find l dC dI ad cid a2 lx sg gm lg x o w hI hvx hvo hvw hFA how) (cwV 2 htb (gd_V kw_545 kw_546 kw_547 kw_20 kw_1467) rfl rfl rfl (by decide +kernel) ⟨Nat.le_of_ble_eq_true rfl, Nat.le_of_ble_eq_true rfl⟩) hvx (by decide) (by decide) rfl rfl hl.1 rfl (Nat.le_trans cs_n (by decide)) dX6_nameValue_3 ⟨Nat.le_of_ble_eq_true rfl, Nat.le_of_ble_eq_true rfl⟩ hK hP hD hS hA hG (fun E ce q9 u_20 H locs hw hP hD hS hce hcv hcl => ?_) (fun v9 u_20 H locs hw hP hD hS => ?_)
  · exact hw.elim
  obtain ⟨r_19, rfl, rfl, hr_19, fF_r_19, fLt_r_19⟩ := hw
  have hP : va_P (dC, dI) vwCl (cW ad cid a2 lx sg gm lg) H := hP
  have hD : va_D A (cW ad cid a2 lx sg gm lg) := hD
  refine W.eq (g2 := F0 m 6 ls [.int r_19]) rfl ?_
  refine lv_istore_n (i := 3) (lv' := [(3, .int r_19), (0, eV (ad 1) x), (1, eV (ad 9) o), (2, eV (ad 33) w)]) hx hb dX6_nameValue_6 rfl hl (by decide) (by simp [List.filter, eV_cat, cat_i, cat_l]) (fun ls hl => ?_)
  refine ec_aload_n hx hb dX6_nameValue_7 rfl (lv_at hl 1 rfl) ?_
  refine lv_iload_n hx hb dX6_nameValue_8 rfl (lv_at hl 0 rfl) ?_
  refine cm_callV (t := 1) (C := RX6) (T := TX6) (N := 8) (rest := []) (as := [.int r_19]) ⟨hx, hb, hml, hown, htb⟩ (d_valueLength l dC dI ad cid a2 lx sg gm lg x r_19 hI hvx hr_19) (cwV 1 htb (gd_V kw_549 kw_550 kw_551 kw_20 kw_1468) rfl rfl rfl (by decide +kernel) ⟨Nat.le_of_ble_eq_true rfl, Nat.le_of_ble_eq_true rfl⟩) hvx (by decide) (by decide) rfl rfl hl.1 rfl (Nat.le_trans cs_n (by decide)) dX6_nameValue_9 ⟨Nat.le_of_ble_eq_true rfl, Nat.le_of_ble_eq_true rfl⟩ hK hP hD hS hA hG (fun E ce q9 u_23 H locs hw hP hD hS hce hcv hcl => ?_) (fun v9 u_23 H locs hw hP hD hS => ?_)
  · exact hw.elim
  obtain ⟨r_22, rfl, rfl, hr_22, fV_r_22⟩ := hw
  have hP : va_P (dC, dI) vwCl (cW ad cid a2 lx sg gm lg) H := hP
  have hD : va_D A (cW ad cid a2 lx sg gm lg) := hD
  refine W.eq (g2 := F0 m 12 ls [.int r_22]) rfl ?_
  refine lv_istore (i := 4) (lv' := [(4, .int r_22), (3, .int r_19), (0, eV (ad 1) x), (1, eV (ad 9) o), (2, eV (ad 33) w)]) hx hb dX6_nameValue_12 hl (by decide) rfl (fun ls hl => ?_)
  refine lv_iload hx hb dX6_nameValue_14 (lv_at hl 0 rfl) ?_
  refine lv_iconst (v := 1) hx hb dX6_nameValue_16 (by decide) ?_
  refine lv_icmp_lt (tgt := 27) hx hb dX6_nameValue_17 (by decide) (fun c_25 => ?_) (fun c_25 => ?_)
  · have h_26 : iv 0 0 r_22 := iv_ltL c_25 hr_22 (iv_k (by decide) : iv 1 1 1) (by decide)
    exact hj27 r_22 r_19 (iv_w h_26 (by decide)) hr_19 hvx hvo hvw ((nv_n fF_r_19 hat fV_r_22 (by have := i32_0; have := i32_1; have := i32_2; have := i32_m1; have := (hvx).1; have := (hvx).2; have := (hvo).1; have := (hvo).2; have := (hvw).1; have := (hvw).2; have := (hr_19).1; have := (hr_19).2; have := (h_26).1; have := (h_26).2; omega))) _ _ _ hP hD hS (lv_sub hl [0, 1, 2, 3, 4] rfl)
  · have h_27 : iv 1 24 r_22 := iv_leR (i32_ge c_25) (iv_k (by decide) : iv 1 1 1) hr_22 (by decide)
    refine lv_iload hx hb dX6_nameValue_20 (lv_at hl 0 rfl) ?_
    refine lv_bipush (v := 8) hx hb dX6_nameValue_22 (by decide) ?_
    refine lv_icmp_le (tgt := 29) hx hb dX6_nameValue_24 (by decide) (fun c_28 => ?_) (fun c_28 => ?_)
    · have h_29 : iv 1 8 r_22 := iv_leL c_28 h_27 (iv_k (by decide) : iv 8 8 8) (by decide)
      obtain ⟨h9z, h9e⟩ : 0 ≤ r_19.toInt ∧ r_22 = gm 45 r_19.toNatClampNeg := fV_r_22.resolve_left (fun q9 => by have := q9.2; have := i32_0; have := i32_1; have := i32_2; have := i32_m1; have := (hvx).1; have := (hvx).2; have := (hvo).1; have := (hvo).2; have := (hvw).1; have := (hvw).2; have := (hr_19).1; have := (hr_19).2; have := (h_29).1; have := (h_29).2; omega)
      have h9p : iv 0 239 r_19 := ⟨h9z, (hr_19).2⟩
      refine lv_lconst (v := 0) hx hb dX6_nameValue_29 (by decide) ?_
      refine lv_lstore (i := 5) (lv' := [(5, .long 0), (4, .int r_22), (3, .int r_19), (0, eV (ad 1) x), (1, eV (ad 9) o), (2, eV (ad 33) w)]) hx hb dX6_nameValue_30 hl (by decide) rfl (fun ls hl => ?_)
      refine lv_iconst (v := 0) hx hb dX6_nameValue_32 (by decide) ?_
      refine lv_istore (i := 7) (lv' := [(7, .int 0), (5, .long 0), (4, .int r_22), (3, .int r_19), (0, eV (ad 1) x), (1, eV (ad 9) o), (2, eV (ad 33) w)]) hx hb dX6_nameValue_33 hl (by decide) rfl (fun ls hl => ?_)
      exact hj35 _ 0 0 r_22 r_19 rfl (iv_w (iv_k (by decide) : iv 0 0 0) (by decide)) h_29 h9p hvx hvo hvw (h9z) (fLt_r_19) (h9e) ((FND_v fF_r_19 hat h9z)) (rfl) (rfl) _ _ _ hP hD hS (lv_sub hl [0, 1, 2, 3, 4, 5, 6] rfl)
    · have h_30 : iv 9 24 r_22 := iv_ltR (i32_lt c_28) (iv_k (by decide) : iv 8 8 8) h_27 (by decide)
      exact hj27 r_22 r_19 (iv_w h_30 (by decide)) hr_19 hvx hvo hvw ((nv_n fF_r_19 hat fV_r_22 (by have := i32_0; have := i32_1; have := i32_2; have := i32_m1; have := (hvx).1; have := (hvx).2; have := (hvo).1; have := (hvo).2; have := (hvw).1; have := (hvw).2; have := (hr_19).1; have := (hr_19).2; have := (h_30).1; have := (h_30).2; omega))) _ _ _ hP hD hS (lv_sub hl [0, 1, 2, 3, 4] rfl)
