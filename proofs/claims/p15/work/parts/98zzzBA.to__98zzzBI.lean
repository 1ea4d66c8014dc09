section
section TO9
variable {wg rg : Nat → Nat → Int32} {wl : Nat → Nat → Int64} {ob : List Ob9} {c : Nat} {V : List Int} {kd v : Int32} {t x : Int}
/-- what is told of a value -/
def TO9 (rg : Nat → Nat → Int32) (kd v : Int32) (t x : Int) : Prop :=
  (kd.toInt = 2 ∧ x = -1) ∨ (kd.toInt = 3 ∧ x = 2000 + v.toInt) ∨ (kd.toInt = 1 ∧ x = 3000 + v.toInt)
  ∨ (kd.toInt = 0 ∧ ∃ T, SRq rg v T ∧ ((t = 0 ∧ nuL T = some x) ∨ (t = 1 ∧ trL T = x ∧ (x = 0 ∨ x = 1)) ∨ (t = 2 ∧ T = [x]) ∨ ((¬ (t = 0 ∨ t = 1 ∨ t = 2)) ∧ x = 1000 + (T.length : Int))))
theorem TO_2 (h : TO9 rg kd v t x) (hk : kd.toInt = 2) : x = -1 := by
  rcases h with q | q | q | q
  · exact q.2
  · omega
  · omega
  · omega
theorem TO_3 (h : TO9 rg kd v t x) (hk : kd.toInt = 3) : x = 2000 + v.toInt := by
  rcases h with q | q | q | q
  · omega
  · exact q.2
  · omega
  · omega
theorem TO_1 (h : TO9 rg kd v t x) (hk : kd.toInt = 1) : x = 3000 + v.toInt := by
  rcases h with q | q | q | q
  · omega
  · omega
  · exact q.2
  · omega
theorem TO_0 (h : TO9 rg kd v t x) (hk : kd.toInt = 0) : ∃ T, SRq rg v T ∧ ((t = 0 ∧ nuL T = some x) ∨ (t = 1 ∧ trL T = x ∧ (x = 0 ∨ x = 1)) ∨ (t = 2 ∧ T = [x]) ∨ ((¬ (t = 0 ∨ t = 1 ∨ t = 2)) ∧ x = 1000 + (T.length : Int))) := by
  rcases h with q | q | q | q
  · omega
  · omega
  · omega
  · exact q.2
theorem tr_01 {T : List Int} (h : ¬ trL T = -1) : trL T = 0 ∨ trL T = 1 := by
  unfold trL at *
  by_cases q : T = [116, 114, 117, 101]
  · rw [if_pos q]; exact Or.inr rfl
  · rw [if_neg q] at *
    by_cases q : T = [102, 97, 108, 115, 101]
    · rw [if_pos q]; exact Or.inl rfl
    · rw [if_neg q] at h; exact absurd rfl h
theorem of32 {m : Int} (h1 : -2147483648 ≤ m) (h2 : m ≤ 2147483647) : (Int32.ofInt m).toInt = m := Int32.toInt_ofInt_of_le (by show (-2147483648 : Int) ≤ m; exact h1) (by show m < (2147483648 : Int); omega)
theorem TO_v (h : VR9 wg wl rg ob c V kd v) (hw : ¬ wCo wg wl ob c V t = -1) : TO9 rg kd v t (vCo wg wl c V t) := by
  rcases h with q | q | q | q
  · obtain ⟨h7, hk, T, hS, hX⟩ := q
    refine Or.inr (Or.inr (Or.inr ⟨hk, T, hS, ?_⟩))
    rw [wC_7 h7] at hw
    rw [vC_7 h7]
    by_cases t0 : t = 0
    · subst t0
      refine Or.inl ⟨rfl, ?_⟩
      rcases nuL_r (T := T) with q | ⟨m, q, h1, h2⟩
      · exact absurd (by rw [wT_0 hX rfl, q]; rfl) hw
      · rw [q]
        unfold vTx
        rw [if_pos rfl, hX.2.1, q]
        show some m = some (Int32.ofInt m).toInt
        rw [of32 h1 h2]
    · by_cases t1 : t = 1
      · subst t1
        refine Or.inr (Or.inl ⟨rfl, (vT_1 hX).symm, ?_⟩)
        rw [vT_1 hX]
        refine tr_01 (fun q => hw ?_)
        rw [wT_1 hX, if_pos q]
      · by_cases t2 : t = 2
        · subst t2
          refine Or.inr (Or.inr (Or.inl ⟨rfl, ?_⟩))
          rw [wT_2 hX] at hw
          have hl : T.length = 1 := by
            by_cases q : (T.length : Int) = 1
            · omega
            · rw [if_neg q] at hw; exact absurd rfl hw
          rw [vT_2 hX hl]
          match T, hl with
          | [y], _ => rfl
        · refine Or.inr (Or.inr (Or.inr ⟨by omega, ?_⟩))
          rw [vT_o hX (by omega)]
  · exact Or.inl ⟨q.2, vC_9 q.1⟩
  · exact Or.inr (Or.inl ⟨q.2.1, by rw [vC_6 q.1, q.2.2]⟩)
  · have hh : VR9 wg wl rg ob c V kd v := Or.inr (Or.inr (Or.inr q))
    exact Or.inr (Or.inr (Or.inl ⟨q.2.1, vC_o hh q.2.1⟩))
theorem TO_i (h : IT1 rg kd v x) : TO9 rg kd v 3 x := by
  rcases h with ⟨h1, T, h2, h3⟩ | h | h
  · exact Or.inr (Or.inr (Or.inr ⟨h1, T, h2, Or.inr (Or.inr (Or.inr ⟨by decide, h3⟩))⟩))
  · exact Or.inl h
  · exact Or.inr (Or.inr (Or.inl h))
theorem l2i9 {z : Int64} {y : Int32} {m : Int} (hy : y = z.toInt32) (hz : z.toInt = m) (h1 : -2147483648 ≤ m) (h2 : m ≤ 2147483647) : y.toInt = m := by
  have : y = Int32.ofInt m := by rw [hy, ← hz]; rfl
  rw [this, of32 h1 h2]
theorem nu_get {T : List Int} {x : Int} (h : nuL T = some x) : (nuL T).getD (-9000000000000000000) = x ∧ -2147483648 ≤ x ∧ x ≤ 2147483647 := by
  rcases nuL_r (T := T) with q | ⟨m, q, h1, h2⟩
  · rw [q] at h; exact absurd h (by simp)
  · rw [q] at h; have h := Option.some.inj h; subst h; rw [q]; exact ⟨rfl, h1, h2⟩
/-- the items of a row that is worked out -/
def ITS9 (wg rg : Nat → Nat → Int32) (gm : Nat → Nat → Int32) (c sl : Nat) (V : List Int) : Prop := (wg 25 c).toInt = 6 → (V.length : Int) = (wg 18 c).toInt ∧ V.length ≤ 6 ∧ ∀ i x, V[i]? = some x → IT1 rg (gm 72 (6 * sl + i)) (gm 73 (6 * sl + i)) x
end TO9
end
section
theorem isq_t {T : List Int} (h : trL T = 1) : isq T 1953658213 := by
  have : T = [116, 114, 117, 101] := by
    unfold trL at h
    by_cases q : T = [116, 114, 117, 101]
    · exact q
    · rw [if_neg q] at h
      by_cases q : T = [102, 97, 108, 115, 101]
      · rw [if_pos q] at h; exact absurd h (by decide)
      · rw [if_neg q] at h; exact absurd h (by decide)
  rw [this]; decide

set_option maxHeartbeats 4000000 in
set_option maxRecDepth 100000 in
theorem f_told9 (l : Launch) (dC : Nat → ClassId) (dI : Nat → Nat → Nat) (h0 : Nat) (ad : Nat → Nat) (cid : Nat → ClassId) (sg : Nat → Int32) (gm : Nat → Nat → Int32) (lg : Nat → Nat → Int64) (kd : Int32) (vl : Int32) (ty : Int32) (rg : Nat → Nat → Int32) (x9 : Int) (hI : MI sg gm) (hvkd : iv 0 3 kd) (hvvl : iv 0 1079 vl) (hvo : vok kd vl) (hRW : rt9 gm = rg) (hWD : WD9 lg) (hX : TO9 rg kd vl ty.toInt x9) : MMi l dC dI yX13_told wm_X13_told ({ frames := 2, cells := 0, slots := 0, locals := 49 }) h0 ad cid [.int kd, .int vl, .int ty] sg gm lg (fun r v => (r.toInt = x9) ∧ v = (sg, gm, lg)) := by
  intro sz
  refine Met.ofW (cc := cX13_told) (maxL := 4) (ret := (some .int)) (by decide) rfl ?_
  intro p e s m args below meth c s₁ B hml hv
  obtain ⟨rfl, hsz, hP, hK, hD0⟩ := hv
  have hx := B.exec
  have hb := B.bytes
  have hr := B.returns
  have hts := atoms_spec (ws := wm_X13_told) B.pre
  have htb := fun (w : Cond) (h : w ∈ tb) => hts w (List.mem_cons_of_mem _ h)
  have hown : s.vm.findClass RX13 = some m.cls := findClass_of_methodNamed B.named
  have hlocks := B.notSynchronized
  subst hsz
  have hD := hD0.self (sz := s.heap.size)
  generalize hAe : va_A (mW h0 ad cid sg gm lg) s.heap.size = A at hD ⊢
  have hA : ∀ q : Nat, s.heap.size ≤ q → A q := fun q h => by rw [← hAe]; exact Or.inr h
  have hS : va_S A s.heap s.heap [] := va_S.rf
  have hl := lv_entry ([.ref h0, .int kd, .int vl, .int ty]) (n := 4) (Nat.le_of_ble_eq_true rfl)
  rw [lg_entry_eq]
  generalize (lg_sl ([.ref h0, .int kd, .int vl, .int ty]) ++ List.replicate (4 - (lg_sl ([.ref h0, .int kd, .int vl, .int ty])).length) Slot.unset).toArray = ls at hl ⊢
  have hl : lv_has ls 4 [(0, .ref h0), (1, .int kd), (2, .int vl), (3, .int ty)] := hl
  refine lv_iload_n hx hb dX13_told_0 rfl (lv_at hl 1 rfl) ?_
  refine lv_iconst (v := 2) hx hb dX13_told_1 (by decide) ?_
  refine lv_icmp_ne (tgt := 7) hx hb dX13_told_2 (by decide) (fun c_1 => ?_) (fun c_1 => ?_)
  · have d_2 : ¬ (kd : Int32).toInt = 2 := lv_neT c_1 rfl
    refine lv_iload_n hx hb dX13_told_7 rfl (lv_at hl 1 rfl) ?_
    refine lv_iconst (v := 3) hx hb dX13_told_8 (by decide) ?_
    refine lv_icmp_ne (tgt := 18) hx hb dX13_told_9 (by decide) (fun c_3 => ?_) (fun c_3 => ?_)
    · have h_4 : iv 0 2 kd := iv_neH c_3 hvkd (by decide)
      refine lv_iload_n hx hb dX13_told_18 rfl (lv_at hl 1 rfl) ?_
      refine lv_iconst (v := 1) hx hb dX13_told_19 (by decide) ?_
      refine lv_icmp_ne (tgt := 29) hx hb dX13_told_20 (by decide) (fun c_5 => ?_) (fun c_5 => ?_)
      · have d_6 : ¬ (kd : Int32).toInt = 1 := lv_neT c_5 rfl
        obtain ⟨T9, hT9, hX9⟩ := TO_0 hX (by have := i32_0; have := i32_1; have := i32_2; have := i32_m1; have := (h_4).1; have := (h_4).2; have := (hvvl).1; have := (hvvl).2; omega)
        refine lv_iload_n hx hb dX13_told_29 rfl (lv_at hl 3 rfl) ?_
        by_cases c_7 : (ty : Int32).toInt = 0
        · refine lv_tableIn (tgt := 56) hx hb dX13_told_30 (by rw [c_7]; decide) (by rw [c_7]; decide) (by rw [c_7]; rfl) (by decide) ?_
          have h_8 : iv 0 0 ty := iv_at c_7
          refine lv_aload_n hx hb dX13_told_56 rfl (lv_at hl 0 rfl) ?_
          refine lv_iload_n hx hb dX13_told_57 rfl (lv_at hl 2 rfl) ?_
          refine mr_calll (rest := []) ⟨hx, hb, hml, hown, htb⟩ (f_numberIn9 l dC dI h0 ad cid sg gm lg vl rg T9 hI hvvl hRW hT9) (cwV 1 htb (gd_V kw_1292 kw_1293 kw_134 kw_160 kw_1644) rfl rfl rfl (by decide +kernel) ⟨Nat.le_of_ble_eq_true rfl, Nat.le_of_ble_eq_true rfl⟩) rfl hl.1 rfl (Nat.le_of_ble_eq_true rfl) dX13_told_58 ⟨Nat.zero_le _, Nat.zero_le _⟩ hK hP hD hS hA (fun r_9 u_10 H locs hw hP hD hS => ?_)
          obtain ⟨fn_r_9, rfl⟩ := hw
          have hP : va_P (dC, dI) vwCl (mW h0 ad cid sg gm lg) H := hP
          have hD : va_D A (mW h0 ad cid sg gm lg) := hD
          refine lv_l2i (v := (r_9).toInt32) hx hb dX13_told_61 rfl ?_
          refine lv_topi (fun z_11 ez_11 => ?_)
          exact W.iret (v := z_11) hx hb hr (fun t ht hW => ⟨⟨z_11, (sg, gm, lg), rfl, ⟨((by have q9 := nu_get (hX9.resolve_right (fun q => absurd q (by intro q; rcases q with q | q | q; (have := q.1; have := i32_0; have := i32_1; have := i32_2; have := i32_m1; have := (h_4).1; have := (h_4).2; have := (hvvl).1; have := (hvvl).2; have := (h_8).1; have := (h_8).2; omega); (have := q.1; have := i32_0; have := i32_1; have := i32_2; have := i32_m1; have := (h_4).1; have := (h_4).2; have := (hvvl).1; have := (hvvl).2; have := (h_8).1; have := (h_8).2; omega); (have := q.1; have := i32_0; have := i32_1; have := i32_2; have := i32_m1; have := (h_4).1; have := (h_4).2; have := (hvvl).1; have := (hvvl).2; have := (h_8).1; have := (h_8).2; omega)))).2; exact l2i9 ez_11 (fn_r_9.trans q9.1) q9.2.1 q9.2.2)), rfl⟩, by rw [ht]; exact hP, va_K.moved hW.alike hK, hD⟩, hS.F ht⟩) hS.2.2 dX13_told_62
        by_cases c_12 : (ty : Int32).toInt = 1
        · refine lv_tableIn (tgt := 63) hx hb dX13_told_30 (by rw [c_12]; decide) (by rw [c_12]; decide) (by rw [c_12]; rfl) (by decide) ?_
          have h_13 : iv 1 1 ty := iv_at c_12
          refine lv_aload_n hx hb dX13_told_63 rfl (lv_at hl 0 rfl) ?_
          refine lv_iload_n hx hb dX13_told_64 rfl (lv_at hl 2 rfl) ?_
          refine lv_bipush (v := 9) hx hb dX13_told_65 (by decide) ?_
          refine mr_calli (rest := []) ⟨hx, hb, hml, hown, htb⟩ (f_is9 l dC dI h0 ad cid sg gm lg vl 9 rg T9 hI hvvl (iv_w (iv_k (by decide) : iv 9 9 9) (by decide)) hRW hT9 (by show ¬ (lg 1 9).toInt = 0; rw [hWD.1]; decide)) (cwV 2 htb (gd_V kw_1302 kw_1303 kw_137 kw_160 kw_1647) rfl rfl rfl (by decide +kernel) ⟨Nat.le_of_ble_eq_true rfl, Nat.le_of_ble_eq_true rfl⟩) rfl hl.1 rfl (Nat.le_of_ble_eq_true rfl) dX13_told_67 ⟨Nat.zero_le _, Nat.zero_le _⟩ hK hP hD hS hA (fun r_14 u_15 H locs hw hP hD hS => ?_)
          obtain ⟨hr_14, fi_r_14, rfl⟩ := hw
          have hP : va_P (dC, dI) vwCl (mW h0 ad cid sg gm lg) H := hP
          have hD : va_D A (mW h0 ad cid sg gm lg) := hD
          refine lv_if_eq (tgt := 77) hx hb dX13_told_70 (by decide) (fun c_16 => ?_) (fun c_16 => ?_)
          · have h_17 : iv 0 0 r_14 := iv_eq c_16 hr_14 (iv_k (by decide) : iv 0 0 0) (by decide)
            refine lv_iconst (v := 0) hx hb dX13_told_77 (by decide) ?_
            exact W.iret (v := 0) hx hb hr (fun t ht hW => ⟨⟨0, (sg, gm, lg), rfl, ⟨((by have q9 := (fi_r_14.resolve_left (fun q => absurd q.1 (by have := i32_0; have := i32_1; have := i32_2; have := i32_m1; have := (h_4).1; have := (h_4).2; have := (hvvl).1; have := (hvvl).2; have := (h_13).1; have := (h_13).2; have := (h_17).1; have := (h_17).2; omega))).2; rw [show (9 : Int32).toNatClampNeg = 9 from rfl, hWD.1] at q9; have e9 := (show trL T9 = x9 ∧ (x9 = 0 ∨ x9 = 1) from (by rcases hX9 with q | q | q | q; (have := q.1; exfalso; have := i32_0; have := i32_1; have := i32_2; have := i32_m1; have := (h_4).1; have := (h_4).2; have := (hvvl).1; have := (hvvl).2; have := (h_13).1; have := (h_13).2; have := (h_17).1; have := (h_17).2; omega); (exact q.2); (have := q.1; exfalso; have := i32_0; have := i32_1; have := i32_2; have := i32_m1; have := (h_4).1; have := (h_4).2; have := (hvvl).1; have := (hvvl).2; have := (h_13).1; have := (h_13).2; have := (h_17).1; have := (h_17).2; omega); (have := q.1; exfalso; have := i32_0; have := i32_1; have := i32_2; have := i32_m1; have := (h_4).1; have := (h_4).2; have := (hvvl).1; have := (hvvl).2; have := (h_13).1; have := (h_13).2; have := (h_17).1; have := (h_17).2; omega))); rcases e9.2 with q8 | q8; (rw [q8]; rfl); (exfalso; rw [q8] at e9; exact q9 (isq_t e9.1)))), rfl⟩, by rw [ht]; exact hP, va_K.moved hW.alike hK, hD⟩, hS.F ht⟩) hS.2.2 dX13_told_78
          · have h_18 : iv 1 1 r_14 := iv_neL c_16 hr_14 (by decide)
            refine lv_iconst (v := 1) hx hb dX13_told_73 (by decide) ?_
            refine lv_goto (tgt := 78) hx hb dX13_told_74 (by decide) ?_
            exact W.iret (v := 1) hx hb hr (fun t ht hW => ⟨⟨1, (sg, gm, lg), rfl, ⟨((by have q9 := (fi_r_14.resolve_right (fun q => absurd q.1 (by have := i32_0; have := i32_1; have := i32_2; have := i32_m1; have := (h_4).1; have := (h_4).2; have := (hvvl).1; have := (hvvl).2; have := (h_13).1; have := (h_13).2; have := (h_18).1; have := (h_18).2; omega))).2; rw [show (9 : Int32).toNatClampNeg = 9 from rfl, hWD.1] at q9; have e9 := (show trL T9 = x9 ∧ (x9 = 0 ∨ x9 = 1) from (by rcases hX9 with q | q | q | q; (have := q.1; exfalso; have := i32_0; have := i32_1; have := i32_2; have := i32_m1; have := (h_4).1; have := (h_4).2; have := (hvvl).1; have := (hvvl).2; have := (h_13).1; have := (h_13).2; have := (h_18).1; have := (h_18).2; omega); (exact q.2); (have := q.1; exfalso; have := i32_0; have := i32_1; have := i32_2; have := i32_m1; have := (h_4).1; have := (h_4).2; have := (hvvl).1; have := (hvvl).2; have := (h_13).1; have := (h_13).2; have := (h_18).1; have := (h_18).2; omega); (have := q.1; exfalso; have := i32_0; have := i32_1; have := i32_2; have := i32_m1; have := (h_4).1; have := (h_4).2; have := (hvvl).1; have := (hvvl).2; have := (h_13).1; have := (h_13).2; have := (h_18).1; have := (h_18).2; omega))); rw [← e9.1, tr_t hT9.2.1 q9]; rfl)), rfl⟩, by rw [ht]; exact hP, va_K.moved hW.alike hK, hD⟩, hS.F ht⟩) hS.2.2 dX13_told_78
        by_cases c_19 : (ty : Int32).toInt = 2
        · refine lv_tableIn (tgt := 79) hx hb dX13_told_30 (by rw [c_19]; decide) (by rw [c_19]; decide) (by rw [c_19]; rfl) (by decide) ?_
          have h_20 : iv 2 2 ty := iv_at c_19
          have hT2 : T9 = [x9] := (by rcases hX9 with q | q | q | q; (have := q.1; exfalso; have := i32_0; have := i32_1; have := i32_2; have := i32_m1; have := (h_4).1; have := (h_4).2; have := (hvvl).1; have := (hvvl).2; have := (h_20).1; have := (h_20).2; omega); (have := q.1; exfalso; have := i32_0; have := i32_1; have := i32_2; have := i32_m1; have := (h_4).1; have := (h_4).2; have := (hvvl).1; have := (hvvl).2; have := (h_20).1; have := (h_20).2; omega); (exact q.2); (have := q.1; exfalso; have := i32_0; have := i32_1; have := i32_2; have := i32_m1; have := (h_4).1; have := (h_4).2; have := (hvvl).1; have := (hvvl).2; have := (h_20).1; have := (h_20).2; omega))
          have hy9 : (0 : Int32).toInt < (T9.length : Int) := (by rw [hT2]; show (0 : Int) < 1; decide)
          refine lv_aload_n hx hb dX13_told_79 rfl (lv_at hl 0 rfl) ?_
          refine lv_iload_n hx hb dX13_told_80 rfl (lv_at hl 2 rfl) ?_
          refine lv_iconst (v := 0) hx hb dX13_told_81 (by decide) ?_
          refine mr_calli (rest := []) ⟨hx, hb, hml, hown, htb⟩ (f_sign9 l dC dI h0 ad cid sg gm lg vl 0 rg T9 hI hvvl (iv_w (iv_k (by decide) : iv 0 0 0) (by decide)) hRW hT9 hy9) (cwV 2 htb (gd_V kw_1296 kw_1297 kw_136 kw_160 kw_1646) rfl rfl rfl (by decide +kernel) ⟨Nat.le_of_ble_eq_true rfl, Nat.le_of_ble_eq_true rfl⟩) rfl hl.1 rfl (Nat.le_of_ble_eq_true rfl) dX13_told_82 ⟨Nat.zero_le _, Nat.zero_le _⟩ hK hP hD hS hA (fun r_21 u_22 H locs hw hP hD hS => ?_)
          obtain ⟨hr_21, fs_r_21, rfl⟩ := hw
          have hP : va_P (dC, dI) vwCl (mW h0 ad cid sg gm lg) H := hP
          have hD : va_D A (mW h0 ad cid sg gm lg) := hD
          exact W.iret (v := r_21) hx hb hr (fun t ht hW => ⟨⟨r_21, (sg, gm, lg), rfl, ⟨((by have q9 := fs_r_21; rw [q9, hT2]; rfl)), rfl⟩, by rw [ht]; exact hP, va_K.moved hW.alike hK, hD⟩, hS.F ht⟩) hS.2.2 dX13_told_85
        refine lv_tableOut (tgt := 86) hx hb dX13_told_30 (by have q1 := ((iv_all ty)).1; have q2 := ((iv_all ty)).2; omega) (by decide) ?_
        refine lv_sipush (v := 1000) hx hb dX13_told_86 (by decide) ?_
        refine lv_aload_n hx hb dX13_told_89 rfl (lv_at hl 0 rfl) ?_
        refine lv_iload_n hx hb dX13_told_90 rfl (lv_at hl 2 rfl) ?_
        refine mr_calli (rest := [.int 1000]) ⟨hx, hb, hml, hown, htb⟩ (f_length9 l dC dI h0 ad cid sg gm lg vl rg T9 hI hvvl hRW hT9) (cwV 1 htb (gd_V kw_1294 kw_1295 kw_135 kw_160 kw_1645) rfl rfl rfl (by decide +kernel) ⟨Nat.le_of_ble_eq_true rfl, Nat.le_of_ble_eq_true rfl⟩) rfl hl.1 rfl (Nat.le_of_ble_eq_true rfl) dX13_told_91 ⟨Nat.zero_le _, Nat.zero_le _⟩ hK hP hD hS hA (fun r_23 u_24 H locs hw hP hD hS => ?_)
        obtain ⟨hr_23, fl_r_23, rfl⟩ := hw
        have hP : va_P (dC, dI) vwCl (mW h0 ad cid sg gm lg) H := hP
        have hD : va_D A (mW h0 ad cid sg gm lg) := hD
        refine lv_iadd hx hb dX13_told_94 ?_
        refine lv_topi (fun z_25 ez_25 => ?_)
        have hz_25 : iv 1000 1024 z_25 := iv_of ez_25 (iv_add (iv_k (by decide) : iv 1000 1000 1000) hr_23 (by decide))
        have tz_25 : z_25.toInt = 1000 + (r_23 : Int32).toInt := by rw [ez_25]; exact iv_addE (iv_k (by decide) : iv 1000 1000 1000) hr_23 (by decide)
        exact W.iret (v := z_25) hx hb hr (fun t ht hW => ⟨⟨z_25, (sg, gm, lg), rfl, ⟨((by have q9 := fl_r_23; rw [(show x9 = 1000 + (T9.length : Int) from (by rcases hX9 with q | q | q | q; (have := q.1; exfalso; have := i32_0; have := i32_1; have := i32_2; have := i32_m1; have := (h_4).1; have := (h_4).2; have := (hvvl).1; have := (hvvl).2; have := (hr_23).1; have := (hr_23).2; have := (hz_25).1; have := (hz_25).2; omega); (have := q.1; exfalso; have := i32_0; have := i32_1; have := i32_2; have := i32_m1; have := (h_4).1; have := (h_4).2; have := (hvvl).1; have := (hvvl).2; have := (hr_23).1; have := (hr_23).2; have := (hz_25).1; have := (hz_25).2; omega); (have := q.1; exfalso; have := i32_0; have := i32_1; have := i32_2; have := i32_m1; have := (h_4).1; have := (h_4).2; have := (hvvl).1; have := (hvvl).2; have := (hr_23).1; have := (hr_23).2; have := (hz_25).1; have := (hz_25).2; omega); (exact q.2)))]; have := i32_0; have := i32_1; have := i32_2; have := i32_m1; have := (h_4).1; have := (h_4).2; have := (hvvl).1; have := (hvvl).2; have := (hr_23).1; have := (hr_23).2; have := (hz_25).1; have := (hz_25).2; omega)), rfl⟩, by rw [ht]; exact hP, va_K.moved hW.alike hK, hD⟩, hS.F ht⟩) hS.2.2 dX13_told_95
      · have h_26 : iv 1 1 kd := iv_eq c_5 h_4 (iv_k (by decide) : iv 1 1 1) (by decide)
        refine lv_sipush (v := 3000) hx hb dX13_told_23 (by decide) ?_
        refine lv_iload_n hx hb dX13_told_26 rfl (lv_at hl 2 rfl) ?_
        refine lv_iadd hx hb dX13_told_27 ?_
        refine lv_topi (fun z_27 ez_27 => ?_)
        have hz_27 : iv 3000 4079 z_27 := iv_of ez_27 (iv_add (iv_k (by decide) : iv 3000 3000 3000) hvvl (by decide))
        have tz_27 : z_27.toInt = 3000 + (vl : Int32).toInt := by rw [ez_27]; exact iv_addE (iv_k (by decide) : iv 3000 3000 3000) hvvl (by decide)
        exact W.iret (v := z_27) hx hb hr (fun t ht hW => ⟨⟨z_27, (sg, gm, lg), rfl, ⟨((by rw [TO_1 hX (by have := i32_0; have := i32_1; have := i32_2; have := i32_m1; have := (h_26).1; have := (h_26).2; have := (hvvl).1; have := (hvvl).2; have := (hz_27).1; have := (hz_27).2; omega)]; have := i32_0; have := i32_1; have := i32_2; have := i32_m1; have := (h_26).1; have := (h_26).2; have := (hvvl).1; have := (hvvl).2; have := (hz_27).1; have := (hz_27).2; omega)), rfl⟩, by rw [ht]; exact hP, va_K.moved hW.alike hK, hD⟩, hS.F ht⟩) hS.2.2 dX13_told_28
    · have h_28 : iv 3 3 kd := iv_eq c_3 hvkd (iv_k (by decide) : iv 3 3 3) (by decide)
      refine lv_sipush (v := 2000) hx hb dX13_told_12 (by decide) ?_
      refine lv_iload_n hx hb dX13_told_15 rfl (lv_at hl 2 rfl) ?_
      refine lv_iadd hx hb dX13_told_16 ?_
      refine lv_topi (fun z_29 ez_29 => ?_)
      have hz_29 : iv 2000 3079 z_29 := iv_of ez_29 (iv_add (iv_k (by decide) : iv 2000 2000 2000) hvvl (by decide))
      have tz_29 : z_29.toInt = 2000 + (vl : Int32).toInt := by rw [ez_29]; exact iv_addE (iv_k (by decide) : iv 2000 2000 2000) hvvl (by decide)
      exact W.iret (v := z_29) hx hb hr (fun t ht hW => ⟨⟨z_29, (sg, gm, lg), rfl, ⟨((by rw [TO_3 hX (by have := i32_0; have := i32_1; have := i32_2; have := i32_m1; have := (h_28).1; have := (h_28).2; have := (hvvl).1; have := (hvvl).2; have := (hz_29).1; have := (hz_29).2; omega)]; have := i32_0; have := i32_1; have := i32_2; have := i32_m1; have := (h_28).1; have := (h_28).2; have := (hvvl).1; have := (hvvl).2; have := (hz_29).1; have := (hz_29).2; omega)), rfl⟩, by rw [ht]; exact hP, va_K.moved hW.alike hK, hD⟩, hS.F ht⟩) hS.2.2 dX13_told_17
  · have h_30 : iv 2 2 kd := iv_eq c_1 hvkd (iv_k (by decide) : iv 2 2 2) (by decide)
    refine lv_iconst (v := (-1)) hx hb dX13_told_5 (by decide) ?_
    exact W.iret (v := (-1)) hx hb hr (fun t ht hW => ⟨⟨(-1), (sg, gm, lg), rfl, ⟨((TO_2 hX (by have := i32_0; have := i32_1; have := i32_2; have := i32_m1; have := (h_30).1; have := (h_30).2; have := (hvvl).1; have := (hvvl).2; omega)).symm), rfl⟩, by rw [ht]; exact hP, va_K.moved hW.alike hK, hD⟩, hS.F ht⟩) hS.2.2 dX13_told_6

theorem VR_k3 {wg rg : Nat → Nat → Int32} {wl : Nat → Nat → Int64} {ob : List Ob9} {c : Nat} {V : List Int} {kd v : Int32} (h : VR9 wg wl rg ob c V kd v) (h6 : (wg 25 c).toInt = 6) : kd.toInt = 3 := by
  rcases h with q | q | q | q
  · omega
  · omega
  · exact q.2.1
  · omega

set_option maxHeartbeats 4000000 in
set_option maxRecDepth 100000 in
theorem f_tell9 (l : Launch) (dC : Nat → ClassId) (dI : Nat → Nat → Nat) (h0 : Nat) (ad : Nat → Nat) (cid : Nat → ClassId) (sg : Nat → Int32) (gm : Nat → Nat → Int32) (lg : Nat → Nat → Int64) (a : Int32) (o : Int32) (k2 : Int32) (sl : Int32) (ty : Int32) (wg : Nat → Nat → Int32) (wl : Nat → Nat → Int64) (rg : Nat → Nat → Int32) (S : S9) (c9 : Nat) (V9 : List Int) (ob9 : List Ob9) (hI : MI sg gm) (hvsl : iv 0 404 sl) (hva : VAL gm) (hRW : rt9 gm = rg) (hRR : RR wg wl S sg gm) (hWD : WD9 lg) (hV : VR9 wg wl rg ob9 c9 V9 (gm 70 sl.toNatClampNeg) (gm 71 sl.toNatClampNeg)) (hw9 : ¬ wCo wg wl ob9 c9 V9 ty.toInt = -1) (hIT : ITS9 wg rg gm c9 sl.toNatClampNeg V9) : MMv l dC dI yX13_tell wm_X13_tell ({ frames := 3, cells := 0, slots := 0, locals := 72 }) h0 ad cid [.int a, .int o, .int k2, .int sl, .int ty] sg gm lg (fun v => ∃ (sg2 : Nat → Int32) (gm2 : Nat → Nat → Int32) (lg2 : Nat → Nat → Int64), v = (sg2, gm2, lg2) ∧ MI sg2 gm2 ∧ KS [49] sg sg2 ∧ KS [55, 56, 57, 58] gm gm2 ∧ KS [] lg lg2 ∧ (RR wg wl (tlV wg wl a.toInt o.toInt k2.toInt c9 V9 ty.toInt S) sg2 gm2)) := by
  intro sz
  refine Met.ofW (cc := cX13_tell) (maxL := 7) (ret := none) (by decide) rfl ?_
  intro p e s m args below meth c s₁ B hml hv
  obtain ⟨rfl, hsz, hP, hK, hD0⟩ := hv
  have hx := B.exec
  have hb := B.bytes
  have hr := B.returns
  have hts := atoms_spec (ws := wm_X13_tell) B.pre
  have htb := fun (w : Cond) (h : w ∈ tb) => hts w (List.mem_cons_of_mem _ h)
  have hown : s.vm.findClass RX13 = some m.cls := findClass_of_methodNamed B.named
  have hlocks := B.notSynchronized
  subst hsz
  have hD := hD0.self (sz := s.heap.size)
  generalize hAe : va_A (mW h0 ad cid sg gm lg) s.heap.size = A at hD ⊢
  have hA : ∀ q : Nat, s.heap.size ≤ q → A q := fun q h => by rw [← hAe]; exact Or.inr h
  have hS : va_S A s.heap s.heap [] := va_S.rf
  have hl := lv_entry ([.ref h0, .int a, .int o, .int k2, .int sl, .int ty]) (n := 7) (Nat.le_of_ble_eq_true rfl)
  rw [lg_entry_eq]
  generalize (lg_sl ([.ref h0, .int a, .int o, .int k2, .int sl, .int ty]) ++ List.replicate (7 - (lg_sl ([.ref h0, .int a, .int o, .int k2, .int sl, .int ty])).length) Slot.unset).toArray = ls at hl ⊢
  have hl : lv_has ls 7 [(0, .ref h0), (1, .int a), (2, .int o), (3, .int k2), (4, .int sl), (5, .int ty)] := hl
  have hj99 : ∀ (sg_j99 : Nat → Int32) (gm_j99 : Nat → Nat → Int32) (x6_99 : Int32) (_ : iv 0 6 x6_99) (_ : iv 0 404 sl) (_ : KS [49] sg sg_j99) (_ : KS [55, 56, 57, 58] gm gm_j99) (_ : MI sg_j99 gm_j99) (_ : RR wg wl (tlV wg wl a.toInt o.toInt k2.toInt c9 V9 ty.toInt S) sg_j99 gm_j99) (H : Heap) (locs : List Loc) (ls : Array Slot), va_P (dC, dI) vwCl (mW h0 ad cid sg_j99 gm_j99 lg) H → va_D A (mW h0 ad cid sg_j99 gm_j99 lg) → va_S A s.heap H locs → lv_has ls 7 [(6, .int x6_99), (0, .ref h0), (1, .int a), (2, .int o), (3, .int k2), (4, .int sl), (5, .int ty)] → W p l e (headSpec wm_X13_tell ({ frames := 3, cells := 0, slots := 0, locals := 72 })).room s m ([.ref h0, .int a, .int o, .int k2, .int sl, .int ty] : List Value).toArray below meth c H locs 0 0 (MQ below (va_Qv (fun v => ∃ (sg2 : Nat → Int32) (gm2 : Nat → Nat → Int32) (lg2 : Nat → Nat → Int64), v = (sg2, gm2, lg2) ∧ MI sg2 gm2 ∧ KS [49] sg sg2 ∧ KS [55, 56, 57, 58] gm gm2 ∧ KS [] lg lg2 ∧ (RR wg wl (tlV wg wl a.toInt o.toInt k2.toInt c9 V9 ty.toInt S) sg2 gm2)) (MB dC dI h0 ad cid A) A) ([.ref h0, .int a, .int o, .int k2, .int sl, .int ty] : List Value).toArray s 0 0 A) (F0 m 99 ls []) := by
    intro sg_j99 gm_j99 x6_99 hx6_99 hsx4_99 hks_j99 hkg_j99 hI_j99 u99 H locs ls hP hD hS hl
    exact W.vret hx hb hr (fun t ht hW => ⟨⟨(sg_j99, gm_j99, lg), rfl, ⟨sg_j99, gm_j99, lg, rfl, hI_j99, (KS_tr (L := [49]) KS_rf hks_j99 (by decide)), (KS_tr (L := [55, 56, 57, 58]) KS_rf hkg_j99 (by decide)), KS_rf, (u99)⟩, by rw [ht]; exact hP, va_K.moved hW.alike hK, hD⟩, hS.F ht⟩) hS.2.2 dX13_tell_99
  have hj30 : ∀ (n : Nat) (sg_j30 : Nat → Int32) (gm_j30 : Nat → Nat → Int32) (x6_30 : Int32) (_ : (6 - x6_30.toInt).toNat = n) (_ : iv 0 6 x6_30) (_ : iv 0 404 sl) (_ : KS [49] sg sg_j30) (_ : KS [55, 56, 57, 58] gm gm_j30) (_ : MI sg_j30 gm_j30) (_ : ∃ S2, RR wg wl S2 sg_j30 gm_j30 ∧ ((gm 70 sl.toNatClampNeg).toInt = 3 → tlV wg wl a.toInt o.toInt k2.toInt c9 V9 ty.toInt S = tlI V9 ((wg 18 c9).toNatClampNeg - x6_30.toNatClampNeg) x6_30.toNatClampNeg S2) ∧ (¬ (gm 70 sl.toNatClampNeg).toInt = 3 → tlV wg wl a.toInt o.toInt k2.toInt c9 V9 ty.toInt S = S2)) (H : Heap) (locs : List Loc) (ls : Array Slot), va_P (dC, dI) vwCl (mW h0 ad cid sg_j30 gm_j30 lg) H → va_D A (mW h0 ad cid sg_j30 gm_j30 lg) → va_S A s.heap H locs → lv_has ls 7 [(6, .int x6_30), (0, .ref h0), (1, .int a), (2, .int o), (3, .int k2), (4, .int sl), (5, .int ty)] → W p l e (headSpec wm_X13_tell ({ frames := 3, cells := 0, slots := 0, locals := 72 })).room s m ([.ref h0, .int a, .int o, .int k2, .int sl, .int ty] : List Value).toArray below meth c H locs 0 0 (MQ below (va_Qv (fun v => ∃ (sg2 : Nat → Int32) (gm2 : Nat → Nat → Int32) (lg2 : Nat → Nat → Int64), v = (sg2, gm2, lg2) ∧ MI sg2 gm2 ∧ KS [49] sg sg2 ∧ KS [55, 56, 57, 58] gm gm2 ∧ KS [] lg lg2 ∧ (RR wg wl (tlV wg wl a.toInt o.toInt k2.toInt c9 V9 ty.toInt S) sg2 gm2)) (MB dC dI h0 ad cid A) A) ([.ref h0, .int a, .int o, .int k2, .int sl, .int ty] : List Value).toArray s 0 0 A) (F0 m 30 ls []) := by
    intro n
    induction n using Nat.strongRecOn with
    | ind n ih30 =>
      intro sg_j30 gm_j30 x6_30 hn30 hx6_30 hsx4_30 hks_j30 hkg_j30 hI_j30 hTL H locs ls hP hD hS hl
      refine lv_aload_n hx hb dX13_tell_30 rfl (lv_at hl 1 rfl) ?_
      obtain ⟨S2, hR2, hT2, hN2⟩ := hTL
      refine mr_get (v := .ref (ad 70)) hx hb htb inX13 hown hK hP 70 (by decide) (htb _ kw_1097) rfl dX13_tell_31 ?_
      refine lv_iload hx hb dX13_tell_34 (lv_at hl 5 rfl) ?_
      refine mr_iald hx hb hK hP 55 (k := 70) rfl rfl rfl (show vp_in sl 405 from (iv_in hsx4_30 (by decide))) dX13_tell_36 ?_
      refine lv_topi (fun z_1 ez_1 => ?_)
      have hz_1 : iv 0 3 z_1 := iv_of ez_1 (MI_a hI_j30 70 hsx4_30 (by decide))
      have ez_1 := ez_1.trans (congrFun (hkg_j30 70 (by decide)) _)
      refine lv_iconst (v := 3) hx hb dX13_tell_37 (by decide) ?_
      refine lv_icmp_ne (tgt := 99) hx hb dX13_tell_38 (by decide) (fun c_2 => ?_) (fun c_2 => ?_)
      · have h_3 : iv 0 2 z_1 := iv_neH c_2 hz_1 (by decide)
        exact hj99 sg_j30 gm_j30 x6_30 hx6_30 hsx4_30 (KS_tr (L := [49]) KS_rf hks_j30 (by decide)) (KS_tr (L := [55, 56, 57, 58]) KS_rf hkg_j30 (by decide)) hI_j30 ((by rw [hN2 (fun q => c_2 (Int32.toInt_inj.mp ((by rw [ez_1]; exact q))))]; exact hR2)) _ _ _ hP hD hS (lv_sub hl [0, 1, 2, 3, 4, 5, 6] rfl)
      · have h_4 : iv 3 3 z_1 := iv_eq c_2 hz_1 (iv_k (by decide) : iv 3 3 3) (by decide)
        refine lv_iload hx hb dX13_tell_41 (lv_at hl 0 rfl) ?_
        refine lv_aload_n hx hb dX13_tell_43 rfl (lv_at hl 1 rfl) ?_
        refine mr_get (v := .ref (ad 71)) hx hb htb inX13 hown hK hP 71 (by decide) (htb _ kw_1098) rfl dX13_tell_44 ?_
        refine lv_iload hx hb dX13_tell_47 (lv_at hl 5 rfl) ?_
        refine mr_iald hx hb hK hP 56 (k := 71) rfl rfl rfl (show vp_in sl 405 from (iv_in hsx4_30 (by decide))) dX13_tell_49 ?_
        refine lv_topi (fun z_5 ez_5 => ?_)
        have hz_5 : iv 0 1079 z_5 := iv_of ez_5 (MI_a hI_j30 71 hsx4_30 (by decide))
        have ez_5 := ez_5.trans (congrFun (hkg_j30 71 (by decide)) _)
        refine lv_icmp_ge (tgt := 99) hx hb dX13_tell_50 (by decide) (fun c_6 => ?_) (fun c_6 => ?_)
        · have d_7 : (z_5 : Int32).toInt ≤ (x6_30 : Int32).toInt := Int32.le_iff_toInt_le.mp c_6
          have h_8 : iv 0 6 z_5 := iv_leL c_6 hz_5 hx6_30 (by decide)
          exact hj99 sg_j30 gm_j30 x6_30 hx6_30 hsx4_30 (KS_tr (L := [49]) KS_rf hks_j30 (by decide)) (KS_tr (L := [55, 56, 57, 58]) KS_rf hkg_j30 (by decide)) hI_j30 ((by have h3k : (gm 70 sl.toNatClampNeg).toInt = 3 := (by have q9 : (gm 70 sl.toNatClampNeg) = z_1 := ez_1.symm; rw [q9]; have := i32_0; have := i32_1; have := i32_2; have := i32_m1; have := (hsx4_30).1; have := (hsx4_30).2; have := (hx6_30).1; have := (hx6_30).2; have := (h_4).1; have := (h_4).2; have := (h_8).1; have := (h_8).2; omega); rw [tlI_e (hT2 h3k) (hx6_30).1 (by have q9 := (VR_3 hV h3k).2; have q8 : (wg 18 c9).toNatClampNeg = (wg 18 c9).toInt.toNat := rfl; have q7 : (gm 71 sl.toNatClampNeg) = z_5 := ez_5.symm; rw [q7] at q9; have := i32_0; have := i32_1; have := i32_2; have := i32_m1; have := (hsx4_30).1; have := (hsx4_30).2; have := (hx6_30).1; have := (hx6_30).2; have := (h_4).1; have := (h_4).2; have := (h_8).1; have := (h_8).2; omega)]; exact hR2)) _ _ _ hP hD hS (lv_sub hl [0, 1, 2, 3, 4, 5, 6] rfl)
        · have d_9 : (x6_30 : Int32).toInt < (z_5 : Int32).toInt := Int32.lt_iff_toInt_lt.mp (i32_lt c_6)
          have h_10 : iv 1 1079 z_5 := iv_ltR (i32_lt c_6) hx6_30 hz_5 (by decide)
          have h53 : iv 0 5 x6_30 := ⟨(hx6_30).1, by have q9 := (VAL_at hva hvsl ez_1 ez_5).2.2 (congrArg Int32.toInt c_2); have := i32_0; have := i32_1; have := i32_2; have := i32_m1; have := (hsx4_30).1; have := (hsx4_30).2; have := (hx6_30).1; have := (hx6_30).2; have := (h_4).1; have := (h_4).2; have := (h_10).1; have := (h_10).2; have := q9; omega⟩
          have h3k : (gm 70 sl.toNatClampNeg).toInt = 3 := (by have q9 : (gm 70 sl.toNatClampNeg) = z_1 := ez_1.symm; rw [q9]; have := i32_0; have := i32_1; have := i32_2; have := i32_m1; have := (hsx4_30).1; have := (hsx4_30).2; have := (h53).1; have := (h53).2; have := (h_4).1; have := (h_4).2; have := (h_10).1; have := (h_10).2; omega)
          have hk6 : x6_30.toNatClampNeg < V9.length := (by have q9 := (VR_3 hV h3k).2; have q6 := (hIT (VR_3 hV h3k).1).1; have q1 : x6_30.toNatClampNeg = x6_30.toInt.toNat := rfl; have q7 : (gm 71 sl.toNatClampNeg) = z_5 := ez_5.symm; rw [q7] at q9; have := i32_0; have := i32_1; have := i32_2; have := i32_m1; have := (hsx4_30).1; have := (hsx4_30).2; have := (h53).1; have := (h53).2; have := (h_4).1; have := (h_4).2; have := (h_10).1; have := (h_10).2; omega)
          refine lv_aload_n hx hb dX13_tell_53 rfl (lv_at hl 1 rfl) ?_
          refine lv_bipush (v := 6) hx hb dX13_tell_54 (by decide) ?_
          refine lv_iconst (v := (-1)) hx hb dX13_tell_56 (by decide) ?_
          refine lv_iload hx hb dX13_tell_57 (lv_at hl 0 rfl) ?_
          refine lv_aload_n hx hb dX13_tell_59 rfl (lv_at hl 1 rfl) ?_
          refine lv_aload_n hx hb dX13_tell_60 rfl (lv_at hl 1 rfl) ?_
          refine mr_get (v := .ref (ad 72)) hx hb htb inX13 hown hK hP 72 (by decide) (htb _ kw_1099) rfl dX13_tell_61 ?_
          refine lv_bipush (v := 6) hx hb dX13_tell_64 (by decide) ?_
          refine lv_iload hx hb dX13_tell_66 (lv_at hl 5 rfl) ?_
          refine lv_imul hx hb dX13_tell_68 ?_
          refine lv_topi (fun z_11 ez_11 => ?_)
          have hz_11 : iv 0 2424 z_11 := iv_of ez_11 (iv_mul (iv_k (by decide) : iv 6 6 6) hsx4_30 (by decide))
          have tz_11 : z_11.toInt = 6 * (sl : Int32).toInt := by rw [ez_11]; exact iv_mulE (iv_k (by decide) : iv 6 6 6) hsx4_30 (by decide)
          refine lv_iload hx hb dX13_tell_69 (lv_at hl 0 rfl) ?_
          refine lv_iadd hx hb dX13_tell_71 ?_
          refine lv_topi (fun z_12 ez_12 => ?_)
          have hz_12 : iv 0 2429 z_12 := iv_of ez_12 (iv_add hz_11 h53 (by decide))
          have tz_12 : z_12.toInt = (z_11 : Int32).toInt + (x6_30 : Int32).toInt := by rw [ez_12]; exact iv_addE hz_11 h53 (by decide)
          refine mr_iald hx hb hK hP 57 (k := 72) rfl rfl rfl (show vp_in z_12 2430 from (iv_in hz_12 (by decide))) dX13_tell_72 ?_
          refine lv_topi (fun z_13 ez_13 => ?_)
          have hz_13 : iv 0 3 z_13 := iv_of ez_13 (MI_a hI_j30 72 hz_12 (by decide))
          have ez_13 := ez_13.trans (congrFun (hkg_j30 72 (by decide)) _)
          refine lv_aload_n hx hb dX13_tell_73 rfl (lv_at hl 1 rfl) ?_
          refine mr_get (v := .ref (ad 73)) hx hb htb inX13 hown hK hP 73 (by decide) (htb _ kw_1100) rfl dX13_tell_74 ?_
          refine lv_bipush (v := 6) hx hb dX13_tell_77 (by decide) ?_
          refine lv_iload hx hb dX13_tell_79 (lv_at hl 5 rfl) ?_
          refine lv_imul hx hb dX13_tell_81 ?_
          refine lv_topi (fun z_14 ez_14 => ?_)
          obtain rfl : z_11 = z_14 := ez_11.trans ez_14.symm
          refine lv_iload hx hb dX13_tell_82 (lv_at hl 0 rfl) ?_
          refine lv_iadd hx hb dX13_tell_84 ?_
          refine lv_topi (fun z_15 ez_15 => ?_)
          obtain rfl : z_12 = z_15 := ez_12.trans ez_15.symm
          refine mr_iald hx hb hK hP 58 (k := 73) rfl rfl rfl (show vp_in z_12 2430 from (iv_in hz_12 (by decide))) dX13_tell_85 ?_
          refine lv_topi (fun z_16 ez_16 => ?_)
          have hz_16 : iv 0 1079 z_16 := iv_of ez_16 (MI_a hI_j30 73 hz_12 (by decide))
          have ez_16 := ez_16.trans (congrFun (hkg_j30 73 (by decide)) _)
          refine lv_iconst (v := 3) hx hb dX13_tell_86 (by decide) ?_
          refine mr_calli (rest := [.int x6_30, .int (-1), .int 6, .ref h0]) ⟨hx, hb, hml, hown, htb⟩ (f_told9 l dC dI h0 ad cid sg_j30 gm_j30 lg z_13 z_16 3 rg ((V9[x6_30.toNatClampNeg]?).getD 0) hI_j30 hz_13 hz_16 (VAL_it hva hz_12 ez_13 ez_16) ((rt9_ks (L := [55, 56, 57, 58]) (KS_tr (L := [55, 56, 57, 58]) KS_rf hkg_j30 (by decide)) (by decide)).trans hRW) hWD (by rw [ez_13, ez_16, (show z_12.toNatClampNeg = 6 * sl.toNatClampNeg + x6_30.toNatClampNeg from (by have q1 : z_12.toNatClampNeg = z_12.toInt.toNat := rfl; have q1 : sl.toNatClampNeg = sl.toInt.toNat := rfl; have q1 : x6_30.toNatClampNeg = x6_30.toInt.toNat := rfl; have := i32_0; have := i32_1; have := i32_2; have := i32_m1; have := (hsx4_30).1; have := (hsx4_30).2; have := (h53).1; have := (h53).2; have := (h_4).1; have := (h_4).2; have := (h_10).1; have := (h_10).2; have := (hz_11).1; have := (hz_11).2; have := (hz_12).1; have := (hz_12).2; have := (hz_13).1; have := (hz_13).2; have := (hz_16).1; have := (hz_16).2; omega))]; exact TO_i ((hIT (VR_3 hV h3k).1).2.2 _ _ (gd9 (d := 0) hk6)))) (cwV 3 htb (gd_V kw_1308 kw_1309 kw_140 kw_160 kw_1650) rfl rfl rfl (by decide +kernel) ⟨Nat.le_of_ble_eq_true rfl, Nat.le_of_ble_eq_true rfl⟩) rfl hl.1 rfl (Nat.le_of_ble_eq_true rfl) dX13_tell_87 ⟨Nat.zero_le _, Nat.zero_le _⟩ hK hP hD hS hA (fun r_17 u_18 H locs hw hP hD hS => ?_)
          obtain ⟨ft_r_17, rfl⟩ := hw
          have hP : va_P (dC, dI) vwCl (mW h0 ad cid sg_j30 gm_j30 lg) H := hP
          have hD : va_D A (mW h0 ad cid sg_j30 gm_j30 lg) := hD
          refine mr_callv (rest := []) ⟨hx, hb, hml, hown, htb⟩ (f_happens9 l dC dI h0 ad cid sg_j30 gm_j30 lg 6 (-1) x6_30 r_17 wg wl S2 hI_j30 hR2) (cwV 4 htb (gd_V kw_1304 kw_1305 kw_138 kw_160 kw_1648) rfl rfl rfl (by decide +kernel) ⟨Nat.le_of_ble_eq_true rfl, Nat.le_of_ble_eq_true rfl⟩) rfl hl.1 rfl (Nat.le_of_ble_eq_true rfl) dX13_tell_90 ⟨Nat.zero_le _, Nat.zero_le _⟩ hK hP hD hS hA (fun u_20 H locs hw hP hD hS => ?_)
          obtain ⟨sgv_21, gmv_21, lgv_21, rfl, hIv_21, ksv_21, kgv_21, klv_21, fR_r_19⟩ := hw
          obtain rfl := KS_nil klv_21
          have hP : va_P (dC, dI) vwCl (mW h0 ad cid sgv_21 gmv_21 lg) H := hP
          have hD : va_D A (mW h0 ad cid sgv_21 gmv_21 lg) := hD
          obtain ⟨z_22, ez_22⟩ : ∃ z : Int32, z = x6_30 + 1 := ⟨_, rfl⟩
          have hz_22 : iv 1 6 z_22 := iv_of ez_22 (iv_add h53 (iv_k (by decide) : iv 1 1 1) (by decide))
          have tz_22 : z_22.toInt = x6_30.toInt + 1 := by rw [ez_22]; exact iv_addE h53 (iv_k (by decide) : iv 1 1 1) (by decide)
          refine lv_iinc (v := z_22) (lv' := [(6, .int z_22), (0, .ref h0), (1, .int a), (2, .int o), (3, .int k2), (4, .int sl), (5, .int ty)]) hx hb dX13_tell_93 hl (k := 0) rfl ez_22.symm (by decide) rfl (fun ls hl => ?_)
          refine lv_goto (tgt := 30) hx hb dX13_tell_96 (by decide) ?_
          exact ih30 _ (by rw [← hn30]; exact (iv_meas tz_22 h53 (by decide))) sgv_21 gmv_21 z_22 rfl (iv_w hz_22 (by decide)) hsx4_30 (KS_tr (L := [49]) (KS_tr (L := [49]) KS_rf hks_j30 (by decide)) ksv_21 (by decide)) (KS_tr (L := [55, 56, 57, 58]) (KS_tr (L := [55, 56, 57, 58]) KS_rf hkg_j30 (by decide)) kgv_21 (by decide)) hIv_21 (⟨_, fR_r_19, fun h => tlI_st (hT2 h) (h53).1 (by have q9 := (VR_3 hV h).2; have q8 : (wg 18 c9).toNatClampNeg = (wg 18 c9).toInt.toNat := rfl; have q7 : (gm 71 sl.toNatClampNeg) = z_5 := ez_5.symm; rw [q7] at q9; have := i32_0; have := i32_1; have := i32_2; have := i32_m1; have := (hsx4_30).1; have := (hsx4_30).2; have := (h53).1; have := (h53).2; have := (h_4).1; have := (h_4).2; have := (h_10).1; have := (h_10).2; have := (hz_11).1; have := (hz_11).2; have := (hz_12).1; have := (hz_12).2; have := (hz_13).1; have := (hz_13).2; have := (hz_16).1; have := (hz_16).2; have := (hz_22).1; have := (hz_22).2; omega) tz_22 (by decide) (by decide) (ft_r_17).symm, fun h => absurd h3k h⟩) _ _ _ hP hD hS (lv_sub hl [0, 1, 2, 3, 4, 5, 6] rfl)
  refine lv_aload_n hx hb dX13_tell_0 rfl (lv_at hl 0 rfl) ?_
  refine lv_iload_n hx hb dX13_tell_1 rfl (lv_at hl 1 rfl) ?_
  refine lv_iload_n hx hb dX13_tell_2 rfl (lv_at hl 2 rfl) ?_
  refine lv_iload_n hx hb dX13_tell_3 rfl (lv_at hl 3 rfl) ?_
  refine lv_aload_n hx hb dX13_tell_4 rfl (lv_at hl 0 rfl) ?_
  refine lv_aload_n hx hb dX13_tell_5 rfl (lv_at hl 0 rfl) ?_
  refine mr_get (v := .ref (ad 70)) hx hb htb inX13 hown hK hP 70 (by decide) (htb _ kw_1097) rfl dX13_tell_6 ?_
  refine lv_iload hx hb dX13_tell_9 (lv_at hl 4 rfl) ?_
  refine mr_iald hx hb hK hP 55 (k := 70) rfl rfl rfl (show vp_in sl 405 from (iv_in hvsl (by decide))) dX13_tell_11 ?_
  refine lv_topi (fun z_23 ez_23 => ?_)
  have hz_23 : iv 0 3 z_23 := iv_of ez_23 (MI_a hI 70 hvsl (by decide))
  refine lv_aload_n hx hb dX13_tell_12 rfl (lv_at hl 0 rfl) ?_
  refine mr_get (v := .ref (ad 71)) hx hb htb inX13 hown hK hP 71 (by decide) (htb _ kw_1098) rfl dX13_tell_13 ?_
  refine lv_iload hx hb dX13_tell_16 (lv_at hl 4 rfl) ?_
  refine mr_iald hx hb hK hP 56 (k := 71) rfl rfl rfl (show vp_in sl 405 from (iv_in hvsl (by decide))) dX13_tell_18 ?_
  refine lv_topi (fun z_24 ez_24 => ?_)
  have hz_24 : iv 0 1079 z_24 := iv_of ez_24 (MI_a hI 71 hvsl (by decide))
  refine lv_iload hx hb dX13_tell_19 (lv_at hl 5 rfl) ?_
  refine mr_calli (rest := [.int k2, .int o, .int a, .ref h0]) ⟨hx, hb, hml, hown, htb⟩ (f_told9 l dC dI h0 ad cid sg gm lg z_23 z_24 ty rg (vCo wg wl c9 V9 ty.toInt) hI hz_23 hz_24 (VAL_at hva hvsl ez_23 ez_24) hRW hWD (by rw [ez_23, ez_24]; exact TO_v hV hw9)) (cwV 3 htb (gd_V kw_1308 kw_1309 kw_140 kw_160 kw_1650) rfl rfl rfl (by decide +kernel) ⟨Nat.le_of_ble_eq_true rfl, Nat.le_of_ble_eq_true rfl⟩) rfl hl.1 rfl (Nat.le_of_ble_eq_true rfl) dX13_tell_21 ⟨Nat.zero_le _, Nat.zero_le _⟩ hK hP hD hS hA (fun r_25 u_26 H locs hw hP hD hS => ?_)
  obtain ⟨ft_r_25, rfl⟩ := hw
  have hP : va_P (dC, dI) vwCl (mW h0 ad cid sg gm lg) H := hP
  have hD : va_D A (mW h0 ad cid sg gm lg) := hD
  refine mr_callv (rest := []) ⟨hx, hb, hml, hown, htb⟩ (f_happens9 l dC dI h0 ad cid sg gm lg a o k2 r_25 wg wl S hI hRR) (cwV 4 htb (gd_V kw_1304 kw_1305 kw_138 kw_160 kw_1648) rfl rfl rfl (by decide +kernel) ⟨Nat.le_of_ble_eq_true rfl, Nat.le_of_ble_eq_true rfl⟩) rfl hl.1 rfl (Nat.le_of_ble_eq_true rfl) dX13_tell_24 ⟨Nat.zero_le _, Nat.zero_le _⟩ hK hP hD hS hA (fun u_28 H locs hw hP hD hS => ?_)
  obtain ⟨sgv_29, gmv_29, lgv_29, rfl, hIv_29, ksv_29, kgv_29, klv_29, fR_r_27⟩ := hw
  obtain rfl := KS_nil klv_29
  have hP : va_P (dC, dI) vwCl (mW h0 ad cid sgv_29 gmv_29 lg) H := hP
  have hD : va_D A (mW h0 ad cid sgv_29 gmv_29 lg) := hD
  refine lv_iconst (v := 0) hx hb dX13_tell_27 (by decide) ?_
  refine lv_istore (lv' := [(6, .int 0), (0, .ref h0), (1, .int a), (2, .int o), (3, .int k2), (4, .int sl), (5, .int ty)]) hx hb dX13_tell_28 hl (by decide) rfl (fun ls hl => ?_)
  exact hj30 _ sgv_29 gmv_29 0 rfl (iv_w (iv_k (by decide) : iv 0 0 0) (by decide)) hvsl (KS_tr (L := [49]) KS_rf ksv_29 (by decide)) (KS_tr (L := [55, 56, 57, 58]) KS_rf kgv_29 (by decide)) hIv_29 (⟨_, (by have q9 := fR_r_27; rw [ft_r_25] at q9; exact q9), fun h => tlV_l (VR_3 hV h).1, fun h => tlV_n (fun q => h (VR_k3 hV q))⟩) _ _ _ hP hD hS (lv_sub hl [0, 1, 2, 3, 4, 5, 6] rfl)
end
section
section BR9
/-- what the reference reads off its elements -/
abbrev clQ (w x : Int) : Prop := (x = -1 ∧ ¬ CLSV w) ∨ (x = w % 256 - 48 ∧ CLSV w)
theorem clQ_u {w x y : Int} (h : clQ w x) (g : clQ w y) : x = y := by
  rcases h with h | h <;> rcases g with g | g
  · rw [h.1, g.1]
  · exact absurd g.2 h.2
  · exact absurd h.2 g.2
  · rw [h.1, g.1]
def TYQ (lg : Nat → Nat → Int64) (w : Int64) (h : Int32) (r : Int) : Prop := (∃ k : Nat, k < 5 ∧ r = (k : Int) ∧ w = lg 1 (4 + k) ∧ ∀ j, j < k → ¬ w = lg 1 (4 + j)) ∨ ((∀ j, j < 5 → ¬ w = lg 1 (4 + j)) ∧ ((¬ h = 0 ∧ CLSV w.toInt ∧ r = 8 + (w.toInt % 256 - 48)) ∨ ((h = 0 ∨ ¬ CLSV w.toInt) ∧ r = -1)))
theorem TYQ_u {lg : Nat → Nat → Int64} {w : Int64} {h : Int32} {r s : Int} (a : TYQ lg w h r) (b : TYQ lg w h s) : r = s := by
  rcases a with ⟨k, hk, hr, hw, hm⟩ | ⟨hn, a⟩
  · rcases b with ⟨j, hj, hs, hv, hl⟩ | ⟨hn, _⟩
    · rcases Nat.lt_trichotomy k j with q | q | q
      · exact absurd hw (hl k q)
      · rw [hr, hs, q]
      · exact absurd hv (hm j q)
    · exact absurd hw (hn k hk)
  · rcases b with ⟨j, hj, hs, hv, hl⟩ | ⟨_, b⟩
    · exact absurd hv (hn j hj)
    · rcases a with ⟨a1, a2, a3⟩ | ⟨a1, a3⟩ <;> rcases b with ⟨b1, b2, b3⟩ | ⟨b1, b3⟩
      · rw [a3, b3]
      · exact absurd b1 (fun q => q.elim a1 (fun q => q a2))
      · exact absurd a1 (fun q => q.elim b1 (fun q => q b2))
      · rw [a3, b3]
def absR (gm : Nat → Nat → Int32) (lg : Nat → Nat → Int64) (b : Nat) : Prop := mWord gm lg (gm 42 b).toNatClampNeg 7017298113369039732 = lg 1 0
def ltR (sg : Nat → Int32) (gm : Nat → Nat → Int32) (lg : Nat → Nat → Int64) (b : Int32) (nn : Int64) : Int32 := if mTel sg gm lg b nn = -1 then -1 else (mWord gm lg (mTel sg gm lg b nn).toNatClampNeg nn).toInt32 - 97
def thR (gm : Nat → Nat → Int32) (lg : Nat → Nat → Int64) (v : Int64) : Nat → Int64
  | 0 => -1
  | k + 1 => if k = 0 then -1 else if gm 26 k = 2 ∧ mWord gm lg k 29807 = v then mWord gm lg k 1851878757 else thR gm lg v k
def cdF (sg : Nat → Int32) (gm : Nat → Nat → Int32) (lg : Nat → Nat → Int64) : Nat → Int64 → Int32
  | 0, _ => -1
  | f + 1, v => if ¬ mWid sg gm lg v = -1 then mWid sg gm lg v else if (thR gm lg v (sg 24).toNatClampNeg).toInt < 0 then -1 else cdF sg gm lg f (thR gm lg v (sg 24).toNatClampNeg)
def cdR (sg : Nat → Int32) (gm : Nat → Nat → Int32) (lg : Nat → Nat → Int64) (v : Int64) : Int32 := cdF sg gm lg 21 v
section
variable {sg sg2 : Nat → Int32} {gm gm2 : Nat → Nat → Int32} {lg lg2 : Nat → Nat → Int64}
theorem thR_h {v : Int64} {i : Nat} (h0 : 0 < i) (h1 : gm 26 i = 2) (h2 : mWord gm lg i 29807 = v) : thR gm lg v (i + 1) = mWord gm lg i 1851878757 := by
  show (if i = 0 then _ else if gm 26 i = 2 ∧ mWord gm lg i 29807 = v then _ else _) = _
  rw [if_neg (by omega), if_pos ⟨h1, h2⟩]
theorem thR_n {v : Int64} {i : Nat} (h0 : 0 < i) (h1 : ¬ (gm 26 i = 2 ∧ mWord gm lg i 29807 = v)) : thR gm lg v (i + 1) = thR gm lg v i := by
  show (if i = 0 then _ else if gm 26 i = 2 ∧ mWord gm lg i 29807 = v then _ else _) = _
  rw [if_neg (by omega), if_neg h1]
theorem cd_h {v : Int64} {n : Nat} {R : Int32} (hR : R = cdF sg gm lg n v) (hn : 0 < n) (h : ¬ mWid sg gm lg v = -1) : R = mWid sg gm lg v := by
  cases n with
  | zero => omega
  | succ n =>
    have : cdF sg gm lg (n + 1) v = if ¬ mWid sg gm lg v = -1 then mWid sg gm lg v else if (thR gm lg v (sg 24).toNatClampNeg).toInt < 0 then -1 else cdF sg gm lg n (thR gm lg v (sg 24).toNatClampNeg) := rfl
    rw [hR, this, if_pos h]
theorem cd_e {v : Int64} {n : Nat} {R : Int32} (hR : R = cdF sg gm lg n v) (h : mWid sg gm lg v = -1) (ht : (thR gm lg v (sg 24).toNatClampNeg).toInt < 0) : R = -1 := by
  cases n with
  | zero => exact hR
  | succ n =>
    have : cdF sg gm lg (n + 1) v = if ¬ mWid sg gm lg v = -1 then mWid sg gm lg v else if (thR gm lg v (sg 24).toNatClampNeg).toInt < 0 then -1 else cdF sg gm lg n (thR gm lg v (sg 24).toNatClampNeg) := rfl
    rw [hR, this, if_neg (fun q => q h), if_pos ht]
theorem cd_s {v u : Int64} {n : Nat} {R : Int32} (hR : R = cdF sg gm lg (n + 1) v) (h : mWid sg gm lg v = -1) (hu : u = thR gm lg v (sg 24).toNatClampNeg) (ht : ¬ u.toInt < 0) : R = cdF sg gm lg n u := by
  have : cdF sg gm lg (n + 1) v = if ¬ mWid sg gm lg v = -1 then mWid sg gm lg v else if (thR gm lg v (sg 24).toNatClampNeg).toInt < 0 then -1 else cdF sg gm lg n (thR gm lg v (sg 24).toNatClampNeg) := rfl
  rw [hR, this, if_neg (fun q => q h), ← hu, if_neg ht]
theorem thR_k (h : DK sg gm lg sg2 gm2 lg2) (v : Int64) (k : Nat) : thR gm2 lg2 v k = thR gm lg v k := by
  induction k with
  | zero => rfl
  | succ k ih =>
    show (if k = 0 then _ else if gm2 26 k = 2 ∧ mWord gm2 lg2 k 29807 = v then mWord gm2 lg2 k 1851878757 else thR gm2 lg2 v k) = (if k = 0 then _ else if gm 26 k = 2 ∧ mWord gm lg k 29807 = v then mWord gm lg k 1851878757 else thR gm lg v k)
    rw [ih, mWord_k h.1, mWord_k h.1, h.1.2.1]
theorem cdF_k (h : DK sg gm lg sg2 gm2 lg2) : ∀ n v, cdF sg2 gm2 lg2 n v = cdF sg gm lg n v := by
  intro n
  induction n with
  | zero => intro v; rfl
  | succ n ih =>
    intro v
    show (if ¬ mWid sg2 gm2 lg2 v = -1 then mWid sg2 gm2 lg2 v else if (thR gm2 lg2 v (sg2 24).toNatClampNeg).toInt < 0 then -1 else cdF sg2 gm2 lg2 n (thR gm2 lg2 v (sg2 24).toNatClampNeg)) = (if ¬ mWid sg gm lg v = -1 then mWid sg gm lg v else if (thR gm lg v (sg 24).toNatClampNeg).toInt < 0 then -1 else cdF sg gm lg n (thR gm lg v (sg 24).toNatClampNeg))
    rw [mWid_k h, thR_k h, h.1.1, ih]
theorem ltR_k (h : DK sg gm lg sg2 gm2 lg2) (b : Int32) (nn : Int64) : ltR sg2 gm2 lg2 b nn = ltR sg gm lg b nn := by unfold ltR; rw [mTel_k h, mWord_k h.1]
end
end BR9
end
section
set_option maxHeartbeats 4000000 in
set_option maxRecDepth 100000 in
theorem f_isAbstract9 (l : Launch) (dC : Nat → ClassId) (dI : Nat → Nat → Nat) (h0 : Nat) (ad : Nat → Nat) (cid : Nat → ClassId) (sg : Nat → Int32) (gm : Nat → Nat → Int32) (lg : Nat → Nat → Int64) (b : Int32) (hI : MI sg gm) (hvb : iv 0 79 b) : MMi l dC dI yX13_isAbstract wm_X13_isAbstract ({ frames := 2, cells := 0, slots := 0, locals := 51 }) h0 ad cid [.int b] sg gm lg (fun r v => (iv 0 1 r) ∧ ((r.toInt = 1 ∧ absR gm lg b.toNatClampNeg) ∨ (r.toInt = 0 ∧ ¬ (absR gm lg b.toNatClampNeg))) ∧ v = (sg, gm, lg)) := by
  intro sz
  refine Met.ofW (cc := cX13_isAbstract) (maxL := 2) (ret := (some .boolean)) (by decide) rfl ?_
  intro p e s m args below meth c s₁ B hml hv
  obtain ⟨rfl, hsz, hP, hK, hD0⟩ := hv
  have hx := B.exec
  have hb := B.bytes
  have hr := B.returns
  have hts := atoms_spec (ws := wm_X13_isAbstract) B.pre
  have htb := fun (w : Cond) (h : w ∈ tb) => hts w (List.mem_cons_of_mem _ h)
  have hown : s.vm.findClass RX13 = some m.cls := findClass_of_methodNamed B.named
  have hlocks := B.notSynchronized
  subst hsz
  have hD := hD0.self (sz := s.heap.size)
  generalize hAe : va_A (mW h0 ad cid sg gm lg) s.heap.size = A at hD ⊢
  have hA : ∀ q : Nat, s.heap.size ≤ q → A q := fun q h => by rw [← hAe]; exact Or.inr h
  have hS : va_S A s.heap s.heap [] := va_S.rf
  have hl := lv_entry ([.ref h0, .int b]) (n := 2) (Nat.le_of_ble_eq_true rfl)
  rw [lg_entry_eq]
  generalize (lg_sl ([.ref h0, .int b]) ++ List.replicate (2 - (lg_sl ([.ref h0, .int b])).length) Slot.unset).toArray = ls at hl ⊢
  have hl : lv_has ls 2 [(0, .ref h0), (1, .int b)] := hl
  have hj28 : ∀ (y0_28 : Int32) (_ : iv 0 79 b) (_ : iv 0 1 y0_28) (_ : (y0_28.toInt = 1 ∧ absR gm lg b.toNatClampNeg) ∨ (y0_28.toInt = 0 ∧ ¬ (absR gm lg b.toNatClampNeg))) (H : Heap) (locs : List Loc) (ls : Array Slot), va_P (dC, dI) vwCl (mW h0 ad cid sg gm lg) H → va_D A (mW h0 ad cid sg gm lg) → va_S A s.heap H locs → lv_has ls 2 [(0, .ref h0), (1, .int b)] → W p l e (headSpec wm_X13_isAbstract ({ frames := 2, cells := 0, slots := 0, locals := 51 })).room s m ([.ref h0, .int b] : List Value).toArray below meth c H locs 0 0 (MQ below (va_Qi (fun r v => (iv 0 1 r) ∧ ((r.toInt = 1 ∧ absR gm lg b.toNatClampNeg) ∨ (r.toInt = 0 ∧ ¬ (absR gm lg b.toNatClampNeg))) ∧ v = (sg, gm, lg)) (MB dC dI h0 ad cid A) A) ([.ref h0, .int b] : List Value).toArray s 0 0 A) (F0 m 28 ls [.int y0_28]) := by
    intro y0_28 hsx1_28 hy0_28 u28 H locs ls hP hD hS hl
    exact W.zret (v := y0_28) hx hb hr (iv_nb hy0_28) (fun t ht hW => ⟨⟨y0_28, (sg, gm, lg), rfl, ⟨hy0_28, (u28), rfl⟩, by rw [ht]; exact hP, va_K.moved hW.alike hK, hD⟩, hS.F ht⟩) hS.2.2 dX13_isAbstract_28
  refine lv_aload_n hx hb dX13_isAbstract_0 rfl (lv_at hl 0 rfl) ?_
  refine lv_aload_n hx hb dX13_isAbstract_1 rfl (lv_at hl 0 rfl) ?_
  refine mr_get (v := .ref (ad 42)) hx hb htb inX13 hown hK hP 42 (by decide) (htb _ kw_1069) rfl dX13_isAbstract_2 ?_
  refine lv_iload_n hx hb dX13_isAbstract_5 rfl (lv_at hl 1 rfl) ?_
  refine mr_iald hx hb hK hP 33 (k := 42) rfl rfl rfl (show vp_in b 80 from (iv_in hvb (by decide))) dX13_isAbstract_6 ?_
  refine lv_topi (fun z_1 ez_1 => ?_)
  have hz_1 : iv 0 79 z_1 := iv_of ez_1 (MI_a hI 42 hvb (by decide))
  refine lv_ldc2 (own := RX13) (v := 7017298113369039732) hx hb hown (htb _ kw_1183) dX13_isAbstract_7 ?_
  refine mr_calll (rest := []) ⟨hx, hb, hml, hown, htb⟩ (f_word l dC dI h0 ad cid sg gm lg z_1 7017298113369039732 hI hz_1) (cwV 2 htb (gd_V kw_1201 kw_1202 kw_96 kw_160 kw_1603) rfl rfl rfl (by decide +kernel) ⟨Nat.le_of_ble_eq_true rfl, Nat.le_of_ble_eq_true rfl⟩) rfl hl.1 rfl (Nat.le_of_ble_eq_true rfl) dX13_isAbstract_10 ⟨Nat.zero_le _, Nat.zero_le _⟩ hK hP hD hS hA (fun r_2 u_3 H locs hw hP hD hS => ?_)
  obtain ⟨fW_r_2, rfl⟩ := hw
  have hP : va_P (dC, dI) vwCl (mW h0 ad cid sg gm lg) H := hP
  have hD : va_D A (mW h0 ad cid sg gm lg) := hD
  refine lv_aload_n hx hb dX13_isAbstract_13 rfl (lv_at hl 0 rfl) ?_
  refine mr_get (v := .ref (ad 1)) hx hb htb inX13 hown hK hP 1 (by decide) (htb _ kw_1028) rfl dX13_isAbstract_14 ?_
  refine lv_iconst (v := 0) hx hb dX13_isAbstract_17 (by decide) ?_
  refine mr_lald hx hb hK hP 1 (k := 1) rfl rfl rfl (show vp_in 0 11 from (iv_in (iv_k (by decide) : iv 0 0 0) (by decide))) dX13_isAbstract_18 ?_
  refine lv_topl (fun z_4 ez_4 => ?_)
  refine W.lcmp hx hb dX13_isAbstract_19 ?_
  refine lv_topi (fun z_5 ez_5 => ?_)
  have hz_5 : iv (-1) 1 z_5 := iv_of ez_5 (iv_cmp _ _)
  refine lv_if_ne (tgt := 27) hx hb dX13_isAbstract_20 (by decide) (fun c_6 => ?_) (fun c_6 => ?_)
  · have d_7 : ¬ (z_5 : Int32).toInt = 0 := lv_neT c_6 rfl
    refine lv_iconst (v := 0) hx hb dX13_isAbstract_27 (by decide) ?_
    exact hj28 0 hvb (iv_w (iv_k (by decide) : iv 0 0 0) (by decide)) (Or.inr ⟨rfl, fun q => c_6 (ez_5.trans ((show lg_cmp r_2 z_4 = 0 ↔ absR gm lg b.toNatClampNeg from (by rw [lg_cmp_eq, fW_r_2, ez_4, ez_1]; exact Iff.rfl)).mpr q))⟩) _ _ _ hP hD hS (lv_sub hl [0, 1] rfl)
  · have h_8 : iv 0 0 z_5 := iv_eq c_6 hz_5 (iv_k (by decide) : iv 0 0 0) (by decide)
    refine lv_iconst (v := 1) hx hb dX13_isAbstract_23 (by decide) ?_
    refine lv_goto (tgt := 28) hx hb dX13_isAbstract_24 (by decide) ?_
    exact hj28 1 hvb (iv_w (iv_k (by decide) : iv 1 1 1) (by decide)) (Or.inl ⟨rfl, (show lg_cmp r_2 z_4 = 0 ↔ absR gm lg b.toNatClampNeg from (by rw [lg_cmp_eq, fW_r_2, ez_4, ez_1]; exact Iff.rfl)).mp (ez_5.symm.trans c_6)⟩) _ _ _ hP hD hS (lv_sub hl [0, 1] rfl)

set_option maxHeartbeats 4000000 in
set_option maxRecDepth 100000 in
theorem f_letter9 (l : Launch) (dC : Nat → ClassId) (dI : Nat → Nat → Nat) (h0 : Nat) (ad : Nat → Nat) (cid : Nat → ClassId) (sg : Nat → Int32) (gm : Nat → Nat → Int32) (lg : Nat → Nat → Int64) (b : Int32) (nn : Int64) (hI : MI sg gm) (hvb : iv (-1) 79 b) (hbl : b.toInt < (sg 41).toInt) (hac : ACY sg gm lg) : MMi l dC dI yX13_letter wm_X13_letter ({ frames := 5, cells := 0, slots := 0, locals := 119 }) h0 ad cid [.int b, .long nn] sg gm lg (fun r v => (r = ltR sg gm lg b nn) ∧ v = (sg, gm, lg)) := by
  intro sz
  refine Met.ofW (cc := cX13_letter) (maxL := 5) (ret := (some .int)) (by decide) rfl ?_
  intro p e s m args below meth c s₁ B hml hv
  obtain ⟨rfl, hsz, hP, hK, hD0⟩ := hv
  have hx := B.exec
  have hb := B.bytes
  have hr := B.returns
  have hts := atoms_spec (ws := wm_X13_letter) B.pre
  have htb := fun (w : Cond) (h : w ∈ tb) => hts w (List.mem_cons_of_mem _ h)
  have hown : s.vm.findClass RX13 = some m.cls := findClass_of_methodNamed B.named
  have hlocks := B.notSynchronized
  subst hsz
  have hD := hD0.self (sz := s.heap.size)
  generalize hAe : va_A (mW h0 ad cid sg gm lg) s.heap.size = A at hD ⊢
  have hA : ∀ q : Nat, s.heap.size ≤ q → A q := fun q h => by rw [← hAe]; exact Or.inr h
  have hS : va_S A s.heap s.heap [] := va_S.rf
  have hl := lv_entry ([.ref h0, .int b, .long nn]) (n := 5) (Nat.le_of_ble_eq_true rfl)
  rw [lg_entry_eq]
  generalize (lg_sl ([.ref h0, .int b, .long nn]) ++ List.replicate (5 - (lg_sl ([.ref h0, .int b, .long nn])).length) Slot.unset).toArray = ls at hl ⊢
  have hl : lv_has ls 5 [(0, .ref h0), (1, .int b), (2, .long nn)] := hl
  have hj29 : ∀ (x4_29 : Int32) (y0_29 : Int32) (_ : iv (-1) 79 x4_29) (_ : iv (-1) 79 b) (_ : y0_29 = ltR sg gm lg b nn) (H : Heap) (locs : List Loc) (ls : Array Slot), va_P (dC, dI) vwCl (mW h0 ad cid sg gm lg) H → va_D A (mW h0 ad cid sg gm lg) → va_S A s.heap H locs → lv_has ls 5 [(4, .int x4_29), (0, .ref h0), (1, .int b), (2, .long nn)] → W p l e (headSpec wm_X13_letter ({ frames := 5, cells := 0, slots := 0, locals := 119 })).room s m ([.ref h0, .int b, .long nn] : List Value).toArray below meth c H locs 0 0 (MQ below (va_Qi (fun r v => (r = ltR sg gm lg b nn) ∧ v = (sg, gm, lg)) (MB dC dI h0 ad cid A) A) ([.ref h0, .int b, .long nn] : List Value).toArray s 0 0 A) (F0 m 29 ls [.int y0_29]) := by
    intro x4_29 y0_29 hx4_29 hsx1_29 u29 H locs ls hP hD hS hl
    exact W.iret (v := y0_29) hx hb hr (fun t ht hW => ⟨⟨y0_29, (sg, gm, lg), rfl, ⟨(u29), rfl⟩, by rw [ht]; exact hP, va_K.moved hW.alike hK, hD⟩, hS.F ht⟩) hS.2.2 dX13_letter_29
  refine lv_aload_n hx hb dX13_letter_0 rfl (lv_at hl 0 rfl) ?_
  refine lv_iload_n hx hb dX13_letter_1 rfl (lv_at hl 1 rfl) ?_
  refine lv_lload_n hx hb dX13_letter_2 rfl (lv_at hl 2 rfl) ?_
  refine mr_calli (rest := []) ⟨hx, hb, hml, hown, htb⟩ (f_tells l dC dI h0 ad cid sg gm lg b nn hI hvb (by have := i32_0; have := i32_1; have := i32_2; have := i32_m1; have := (show iv 0 80 (sg 41) from MI_s hI 41).1; have := (show iv 0 80 (sg 41) from MI_s hI 41).2; have := (hvb).1; have := (hvb).2; omega) hac) (cwV 2 htb (gd_V kw_1263 kw_1264 kw_120 kw_160 kw_1630) rfl rfl rfl (by decide +kernel) ⟨Nat.le_of_ble_eq_true rfl, Nat.le_of_ble_eq_true rfl⟩) rfl hl.1 rfl (Nat.le_of_ble_eq_true rfl) dX13_letter_3 ⟨Nat.zero_le _, Nat.zero_le _⟩ hK hP hD hS hA (fun r_1 u_2 H locs hw hP hD hS => ?_)
  obtain ⟨hr_1, fL_r_1, rfl⟩ := hw
  have hP : va_P (dC, dI) vwCl (mW h0 ad cid sg gm lg) H := hP
  have hD : va_D A (mW h0 ad cid sg gm lg) := hD
  refine lv_istore (lv' := [(4, .int r_1), (0, .ref h0), (1, .int b), (2, .long nn)]) hx hb dX13_letter_6 hl (by decide) rfl (fun ls hl => ?_)
  refine lv_iload hx hb dX13_letter_8 (lv_at hl 0 rfl) ?_
  refine lv_iconst (v := (-1)) hx hb dX13_letter_10 (by decide) ?_
  refine lv_icmp_ne (tgt := 18) hx hb dX13_letter_11 (by decide) (fun c_3 => ?_) (fun c_3 => ?_)
  · have h_4 : iv 0 79 r_1 := iv_neL c_3 hr_1 (by decide)
    refine lv_aload_n hx hb dX13_letter_18 rfl (lv_at hl 1 rfl) ?_
    refine lv_iload hx hb dX13_letter_19 (lv_at hl 0 rfl) ?_
    refine lv_lload_n hx hb dX13_letter_21 rfl (lv_at hl 3 rfl) ?_
    refine mr_calll (rest := []) ⟨hx, hb, hml, hown, htb⟩ (f_word l dC dI h0 ad cid sg gm lg r_1 nn hI h_4) (cwV 2 htb (gd_V kw_1201 kw_1202 kw_96 kw_160 kw_1603) rfl rfl rfl (by decide +kernel) ⟨Nat.le_of_ble_eq_true rfl, Nat.le_of_ble_eq_true rfl⟩) rfl hl.1 rfl (Nat.le_of_ble_eq_true rfl) dX13_letter_22 ⟨Nat.zero_le _, Nat.zero_le _⟩ hK hP hD hS hA (fun r_5 u_6 H locs hw hP hD hS => ?_)
    obtain ⟨fW_r_5, rfl⟩ := hw
    have hP : va_P (dC, dI) vwCl (mW h0 ad cid sg gm lg) H := hP
    have hD : va_D A (mW h0 ad cid sg gm lg) := hD
    refine lv_l2i (v := (r_5).toInt32) hx hb dX13_letter_25 rfl ?_
    refine lv_topi (fun z_7 ez_7 => ?_)
    refine lv_bipush (v := 97) hx hb dX13_letter_26 (by decide) ?_
    refine lv_isub hx hb dX13_letter_28 ?_
    refine lv_topi (fun z_8 ez_8 => ?_)
    exact hj29 r_1 z_8 (iv_w h_4 (by decide)) hvb ((by unfold ltR; rw [if_neg (by rw [← fL_r_1]; exact c_3), ← fL_r_1, ← fW_r_5]; exact ez_8.trans (by rw [ez_7]))) _ _ _ hP hD hS (lv_sub hl [0, 1, 2, 3] rfl)
  · have h_9 : iv (-1) (-1) r_1 := iv_eq c_3 hr_1 (iv_k (by decide) : iv (-1) (-1) (-1)) (by decide)
    refine lv_iconst (v := (-1)) hx hb dX13_letter_14 (by decide) ?_
    refine lv_goto (tgt := 29) hx hb dX13_letter_15 (by decide) ?_
    exact hj29 r_1 (-1) (iv_w h_9 (by decide)) hvb ((by unfold ltR; rw [if_pos (by rw [← fL_r_1]; exact c_3)])) _ _ _ hP hD hS (lv_sub hl [0, 1, 2, 3] rfl)

set_option maxHeartbeats 4000000 in
set_option maxRecDepth 100000 in
theorem f_classOf9 (l : Launch) (dC : Nat → ClassId) (dI : Nat → Nat → Nat) (h0 : Nat) (ad : Nat → Nat) (cid : Nat → ClassId) (sg : Nat → Int32) (gm : Nat → Nat → Int32) (lg : Nat → Nat → Int64) (b : Int32) (hI : MI sg gm) (hvb : iv (-1) 79 b) (hbl : b.toInt < (sg 41).toInt) (hac : ACY sg gm lg) : MMi l dC dI yX13_classOf wm_X13_classOf ({ frames := 5, cells := 0, slots := 0, locals := 119 }) h0 ad cid [.int b] sg gm lg (fun r v => (iv (-1) 7 r) ∧ ((mTel sg gm lg b 427020088179 = -1 ∧ r.toInt = -1) ∨ (¬ mTel sg gm lg b 427020088179 = -1 ∧ clQ (mWord gm lg (mTel sg gm lg b 427020088179).toNatClampNeg 427020088179).toInt r.toInt)) ∧ v = (sg, gm, lg)) := by
  intro sz
  refine Met.ofW (cc := cX13_classOf) (maxL := 3) (ret := (some .int)) (by decide) rfl ?_
  intro p e s m args below meth c s₁ B hml hv
  obtain ⟨rfl, hsz, hP, hK, hD0⟩ := hv
  have hx := B.exec
  have hb := B.bytes
  have hr := B.returns
  have hts := atoms_spec (ws := wm_X13_classOf) B.pre
  have htb := fun (w : Cond) (h : w ∈ tb) => hts w (List.mem_cons_of_mem _ h)
  have hown : s.vm.findClass RX13 = some m.cls := findClass_of_methodNamed B.named
  have hlocks := B.notSynchronized
  subst hsz
  have hD := hD0.self (sz := s.heap.size)
  generalize hAe : va_A (mW h0 ad cid sg gm lg) s.heap.size = A at hD ⊢
  have hA : ∀ q : Nat, s.heap.size ≤ q → A q := fun q h => by rw [← hAe]; exact Or.inr h
  have hS : va_S A s.heap s.heap [] := va_S.rf
  have hl := lv_entry ([.ref h0, .int b]) (n := 3) (Nat.le_of_ble_eq_true rfl)
  rw [lg_entry_eq]
  generalize (lg_sl ([.ref h0, .int b]) ++ List.replicate (3 - (lg_sl ([.ref h0, .int b])).length) Slot.unset).toArray = ls at hl ⊢
  have hl : lv_has ls 3 [(0, .ref h0), (1, .int b)] := hl
  have hj29 : ∀ (x2_29 : Int32) (y0_29 : Int32) (_ : iv (-1) 79 x2_29) (_ : iv (-1) 79 b) (_ : iv (-1) 7 y0_29) (_ : (mTel sg gm lg b 427020088179 = -1 ∧ y0_29.toInt = -1) ∨ (¬ mTel sg gm lg b 427020088179 = -1 ∧ clQ (mWord gm lg (mTel sg gm lg b 427020088179).toNatClampNeg 427020088179).toInt y0_29.toInt)) (H : Heap) (locs : List Loc) (ls : Array Slot), va_P (dC, dI) vwCl (mW h0 ad cid sg gm lg) H → va_D A (mW h0 ad cid sg gm lg) → va_S A s.heap H locs → lv_has ls 3 [(2, .int x2_29), (0, .ref h0), (1, .int b)] → W p l e (headSpec wm_X13_classOf ({ frames := 5, cells := 0, slots := 0, locals := 119 })).room s m ([.ref h0, .int b] : List Value).toArray below meth c H locs 0 0 (MQ below (va_Qi (fun r v => (iv (-1) 7 r) ∧ ((mTel sg gm lg b 427020088179 = -1 ∧ r.toInt = -1) ∨ (¬ mTel sg gm lg b 427020088179 = -1 ∧ clQ (mWord gm lg (mTel sg gm lg b 427020088179).toNatClampNeg 427020088179).toInt r.toInt)) ∧ v = (sg, gm, lg)) (MB dC dI h0 ad cid A) A) ([.ref h0, .int b] : List Value).toArray s 0 0 A) (F0 m 29 ls [.int y0_29]) := by
    intro x2_29 y0_29 hx2_29 hsx1_29 hy0_29 u29 H locs ls hP hD hS hl
    exact W.iret (v := y0_29) hx hb hr (fun t ht hW => ⟨⟨y0_29, (sg, gm, lg), rfl, ⟨hy0_29, (u29), rfl⟩, by rw [ht]; exact hP, va_K.moved hW.alike hK, hD⟩, hS.F ht⟩) hS.2.2 dX13_classOf_29
  refine lv_aload_n hx hb dX13_classOf_0 rfl (lv_at hl 0 rfl) ?_
  refine lv_iload_n hx hb dX13_classOf_1 rfl (lv_at hl 1 rfl) ?_
  refine lv_ldc2 (own := RX13) (v := 427020088179) hx hb hown (htb _ kw_1181) dX13_classOf_2 ?_
  refine mr_calli (rest := []) ⟨hx, hb, hml, hown, htb⟩ (f_tells l dC dI h0 ad cid sg gm lg b 427020088179 hI hvb (by have := i32_0; have := i32_1; have := i32_2; have := i32_m1; have := (show iv 0 80 (sg 41) from MI_s hI 41).1; have := (show iv 0 80 (sg 41) from MI_s hI 41).2; have := (hvb).1; have := (hvb).2; omega) hac) (cwV 2 htb (gd_V kw_1263 kw_1264 kw_120 kw_160 kw_1630) rfl rfl rfl (by decide +kernel) ⟨Nat.le_of_ble_eq_true rfl, Nat.le_of_ble_eq_true rfl⟩) rfl hl.1 rfl (Nat.le_of_ble_eq_true rfl) dX13_classOf_5 ⟨Nat.zero_le _, Nat.zero_le _⟩ hK hP hD hS hA (fun r_1 u_2 H locs hw hP hD hS => ?_)
  obtain ⟨hr_1, fL_r_1, rfl⟩ := hw
  have hP : va_P (dC, dI) vwCl (mW h0 ad cid sg gm lg) H := hP
  have hD : va_D A (mW h0 ad cid sg gm lg) := hD
  refine lv_istore_n (lv' := [(2, .int r_1), (0, .ref h0), (1, .int b)]) hx hb dX13_classOf_8 rfl hl (by decide) rfl (fun ls hl => ?_)
  refine lv_iload_n hx hb dX13_classOf_9 rfl (lv_at hl 0 rfl) ?_
  refine lv_iconst (v := (-1)) hx hb dX13_classOf_10 (by decide) ?_
  refine lv_icmp_ne (tgt := 18) hx hb dX13_classOf_11 (by decide) (fun c_3 => ?_) (fun c_3 => ?_)
  · have h_4 : iv 0 79 r_1 := iv_neL c_3 hr_1 (by decide)
    refine lv_aload_n hx hb dX13_classOf_18 rfl (lv_at hl 1 rfl) ?_
    refine lv_iload_n hx hb dX13_classOf_19 rfl (lv_at hl 0 rfl) ?_
    refine lv_ldc2 (own := RX13) (v := 427020088179) hx hb hown (htb _ kw_1181) dX13_classOf_20 ?_
    refine mr_calll (rest := []) ⟨hx, hb, hml, hown, htb⟩ (f_word l dC dI h0 ad cid sg gm lg r_1 427020088179 hI h_4) (cwV 2 htb (gd_V kw_1201 kw_1202 kw_96 kw_160 kw_1603) rfl rfl rfl (by decide +kernel) ⟨Nat.le_of_ble_eq_true rfl, Nat.le_of_ble_eq_true rfl⟩) rfl hl.1 rfl (Nat.le_of_ble_eq_true rfl) dX13_classOf_23 ⟨Nat.zero_le _, Nat.zero_le _⟩ hK hP hD hS hA (fun r_5 u_6 H locs hw hP hD hS => ?_)
    obtain ⟨fW_r_5, rfl⟩ := hw
    have hP : va_P (dC, dI) vwCl (mW h0 ad cid sg gm lg) H := hP
    have hD : va_D A (mW h0 ad cid sg gm lg) := hD
    have hPc := hP.sub (ws' := []) [] rfl
    have hDc := hD.sub (ws' := []) [] (by decide) rfl
    have hKc := hK.sub (tys' := []) [] rfl
    have hFc := va_free (wc := []) hD hS hA [] rfl
    refine va_calli (va_runS (As := [.long r_5]) (rest := []) ⟨hx, hb, hml, hown, htb⟩ (a_classIn2 l dC dI H.size r_5) (va_cwS 1 htb (gd_S kw_1205 kw_1206 kw_160 kw_1604) rfl rfl rfl (by decide +kernel) ⟨Nat.le_of_ble_eq_true rfl, Nat.le_of_ble_eq_true rfl⟩) ⟨fun a U g mk q => by obtain ⟨q0, q1, qP, qK, qD⟩ := q; exact ⟨q0, q1, qP, va_K.moved (u := U) (U := U.calling g mk a) (Vm.Alike.refl U.vm) qK, qD⟩, fun U hU hW => ⟨rfl, by rw [hU], by rw [hU]; exact hPc, va_K.moved hW.alike hKc, hDc.weaken (fun _ _ _ _ => trivial)⟩⟩ rfl rfl hl.1 rfl (lv_room (Nat.le_of_ble_eq_true rfl)) dX13_classOf_26 ⟨Nat.zero_le _, Nat.zero_le _⟩) hS (fun q _ h => hFc q h) hFc (fun r_7 u9 t H1 locs ht hvm hw hB hz1 hk1 hS => ?_)
    have hP := ms_kept hP hz1 hk1
    generalize H1 = H at hP hS ⊢
    have fK_r_7 := hw.2
    have hw := hw.1
    have hr_7 := hw
    exact hj29 r_1 r_7 (iv_w h_4 (by decide)) hvb hr_7 (Or.inr ⟨(by rw [← fL_r_1]; exact c_3), (by rw [← fL_r_1, ← fW_r_5]; exact fK_r_7)⟩) _ _ _ hP hD hS (lv_sub hl [0, 1, 2] rfl)
  · have h_8 : iv (-1) (-1) r_1 := iv_eq c_3 hr_1 (iv_k (by decide) : iv (-1) (-1) (-1)) (by decide)
    refine lv_iconst (v := (-1)) hx hb dX13_classOf_14 (by decide) ?_
    refine lv_goto (tgt := 29) hx hb dX13_classOf_15 (by decide) ?_
    exact hj29 r_1 (-1) (iv_w h_8 (by decide)) hvb (iv_w (iv_k (by decide) : iv (-1) (-1) (-1)) (by decide)) (Or.inl ⟨(by rw [← fL_r_1]; exact c_3), rfl⟩) _ _ _ hP hD hS (lv_sub hl [0, 1, 2] rfl)

set_option maxHeartbeats 4000000 in
set_option maxRecDepth 100000 in
theorem f_typeIn9 (l : Launch) (dC : Nat → ClassId) (dI : Nat → Nat → Nat) (h0 : Nat) (ad : Nat → Nat) (cid : Nat → ClassId) (sg : Nat → Int32) (gm : Nat → Nat → Int32) (lg : Nat → Nat → Int64) (x : Int32) (hI : MI sg gm) (hvx : iv 0 79 x) : MMi l dC dI yX13_typeIn wm_X13_typeIn ({ frames := 2, cells := 0, slots := 0, locals := 51 }) h0 ad cid [.int x] sg gm lg (fun r v => (iv (-1) 15 r) ∧ (TYQ lg (mWord gm lg x.toNatClampNeg 1954115685) (mHas gm lg x.toNatClampNeg 1954115685) r.toInt) ∧ v = (sg, gm, lg)) := by
  intro sz
  refine Met.ofW (cc := cX13_typeIn) (maxL := 5) (ret := (some .int)) (by decide) rfl ?_
  intro p e s m args below meth c s₁ B hml hv
  obtain ⟨rfl, hsz, hP, hK, hD0⟩ := hv
  have hx := B.exec
  have hb := B.bytes
  have hr := B.returns
  have hts := atoms_spec (ws := wm_X13_typeIn) B.pre
  have htb := fun (w : Cond) (h : w ∈ tb) => hts w (List.mem_cons_of_mem _ h)
  have hown : s.vm.findClass RX13 = some m.cls := findClass_of_methodNamed B.named
  have hlocks := B.notSynchronized
  subst hsz
  have hD := hD0.self (sz := s.heap.size)
  generalize hAe : va_A (mW h0 ad cid sg gm lg) s.heap.size = A at hD ⊢
  have hA : ∀ q : Nat, s.heap.size ≤ q → A q := fun q h => by rw [← hAe]; exact Or.inr h
  have hS : va_S A s.heap s.heap [] := va_S.rf
  have hl := lv_entry ([.ref h0, .int x]) (n := 5) (Nat.le_of_ble_eq_true rfl)
  rw [lg_entry_eq]
  generalize (lg_sl ([.ref h0, .int x]) ++ List.replicate (5 - (lg_sl ([.ref h0, .int x])).length) Slot.unset).toArray = ls at hl ⊢
  have hl : lv_has ls 5 [(0, .ref h0), (1, .int x)] := hl
  have hj12 : ∀ (n : Nat) (x4_12 : Int32) (x2_12 : Int64) (_ : (6 - x4_12.toInt).toNat = n) (_ : iv 0 6 x4_12) (_ : iv 0 79 x) (_ : ∀ j, j < x4_12.toNatClampNeg → ¬ mWord gm lg x.toNatClampNeg 1954115685 = lg 1 (4 + j)) (_ : x2_12 = mWord gm lg x.toNatClampNeg 1954115685) (H : Heap) (locs : List Loc) (ls : Array Slot), va_P (dC, dI) vwCl (mW h0 ad cid sg gm lg) H → va_D A (mW h0 ad cid sg gm lg) → va_S A s.heap H locs → lv_has ls 5 [(4, .int x4_12), (2, .long x2_12), (0, .ref h0), (1, .int x)] → W p l e (headSpec wm_X13_typeIn ({ frames := 2, cells := 0, slots := 0, locals := 51 })).room s m ([.ref h0, .int x] : List Value).toArray below meth c H locs 0 0 (MQ below (va_Qi (fun r v => (iv (-1) 15 r) ∧ (TYQ lg (mWord gm lg x.toNatClampNeg 1954115685) (mHas gm lg x.toNatClampNeg 1954115685) r.toInt) ∧ v = (sg, gm, lg)) (MB dC dI h0 ad cid A) A) ([.ref h0, .int x] : List Value).toArray s 0 0 A) (F0 m 12 ls []) := by
    intro n
    induction n using Nat.strongRecOn with
    | ind n ih12 =>
      intro x4_12 x2_12 hn12 hx4_12 hsx1_12 hno hwm H locs ls hP hD hS hl
      refine lv_iload hx hb dX13_typeIn_12 (lv_at hl 0 rfl) ?_
      refine lv_iconst (v := 5) hx hb dX13_typeIn_14 (by decide) ?_
      refine lv_icmp_ge (tgt := 41) hx hb dX13_typeIn_15 (by decide) (fun c_1 => ?_) (fun c_1 => ?_)
      · have h_2 : iv 5 6 x4_12 := iv_leR c_1 (iv_k (by decide) : iv 5 5 5) hx4_12 (by decide)
        refine lv_aload_n hx hb dX13_typeIn_41 rfl (lv_at hl 2 rfl) ?_
        refine lv_iload_n hx hb dX13_typeIn_42 rfl (lv_at hl 3 rfl) ?_
        refine lv_ldc2 (own := RX13) (v := 1954115685) hx hb hown (htb _ kw_1192) dX13_typeIn_43 ?_
        refine mr_calli (rest := []) ⟨hx, hb, hml, hown, htb⟩ (f_has l dC dI h0 ad cid sg gm lg x 1954115685 hI hsx1_12) (cwV 2 htb (gd_V kw_1197 kw_1198 kw_94 kw_160 kw_1601) rfl rfl rfl (by decide +kernel) ⟨Nat.le_of_ble_eq_true rfl, Nat.le_of_ble_eq_true rfl⟩) rfl hl.1 rfl (Nat.le_of_ble_eq_true rfl) dX13_typeIn_46 ⟨Nat.zero_le _, Nat.zero_le _⟩ hK hP hD hS hA (fun r_3 u_4 H locs hw hP hD hS => ?_)
        obtain ⟨hr_3, fH_r_3, rfl⟩ := hw
        have hP : va_P (dC, dI) vwCl (mW h0 ad cid sg gm lg) H := hP
        have hD : va_D A (mW h0 ad cid sg gm lg) := hD
        refine lv_if_eq (tgt := 70) hx hb dX13_typeIn_49 (by decide) (fun c_5 => ?_) (fun c_5 => ?_)
        · have h_6 : iv 0 0 r_3 := iv_eq c_5 hr_3 (iv_k (by decide) : iv 0 0 0) (by decide)
          refine lv_iconst (v := (-1)) hx hb dX13_typeIn_70 (by decide) ?_
          exact W.iret (v := (-1)) hx hb hr (fun t ht hW => ⟨⟨(-1), (sg, gm, lg), rfl, ⟨(iv_w (iv_k (by decide) : iv (-1) (-1) (-1)) (by decide)), (Or.inr ⟨(fun j hj => hno j (by have q1 : x4_12.toNatClampNeg = x4_12.toInt.toNat := rfl; have := i32_0; have := i32_1; have := i32_2; have := i32_m1; have := (hsx1_12).1; have := (hsx1_12).2; have := (h_2).1; have := (h_2).2; have := (h_6).1; have := (h_6).2; omega)), Or.inr ⟨Or.inl (by rw [← fH_r_3]; exact c_5), rfl⟩⟩), rfl⟩, by rw [ht]; exact hP, va_K.moved hW.alike hK, hD⟩, hS.F ht⟩) hS.2.2 dX13_typeIn_71
        · have h_7 : iv 1 1 r_3 := iv_neL c_5 hr_3 (by decide)
          refine lv_lload_n hx hb dX13_typeIn_52 rfl (lv_at hl 1 rfl) ?_
          have hPc := hP.sub (ws' := []) [] rfl
          have hDc := hD.sub (ws' := []) [] (by decide) rfl
          have hKc := hK.sub (tys' := []) [] rfl
          have hFc := va_free (wc := []) hD hS hA [] rfl
          refine va_calli (va_runS (As := [.long x2_12]) (rest := []) ⟨hx, hb, hml, hown, htb⟩ (a_classIn2 l dC dI H.size x2_12) (va_cwS 1 htb (gd_S kw_1205 kw_1206 kw_160 kw_1604) rfl rfl rfl (by decide +kernel) ⟨Nat.le_of_ble_eq_true rfl, Nat.le_of_ble_eq_true rfl⟩) ⟨fun a U g mk q => by obtain ⟨q0, q1, qP, qK, qD⟩ := q; exact ⟨q0, q1, qP, va_K.moved (u := U) (U := U.calling g mk a) (Vm.Alike.refl U.vm) qK, qD⟩, fun U hU hW => ⟨rfl, by rw [hU], by rw [hU]; exact hPc, va_K.moved hW.alike hKc, hDc.weaken (fun _ _ _ _ => trivial)⟩⟩ rfl rfl hl.1 rfl (lv_room (Nat.le_of_ble_eq_true rfl)) dX13_typeIn_53 ⟨Nat.zero_le _, Nat.zero_le _⟩) hS (fun q _ h => hFc q h) hFc (fun r_8 u9 t H1 locs ht hvm hw hB hz1 hk1 hS => ?_)
          have hP := ms_kept hP hz1 hk1
          generalize H1 = H at hP hS ⊢
          have fK_r_8 := hw.2
          have hw := hw.1
          have hr_8 := hw
          refine lv_iconst (v := (-1)) hx hb dX13_typeIn_56 (by decide) ?_
          refine lv_icmp_eq (tgt := 70) hx hb dX13_typeIn_57 (by decide) (fun c_9 => ?_) (fun c_9 => ?_)
          · have h_10 : iv (-1) (-1) r_8 := iv_eq c_9 hr_8 (iv_k (by decide) : iv (-1) (-1) (-1)) (by decide)
            refine lv_iconst (v := (-1)) hx hb dX13_typeIn_70 (by decide) ?_
            exact W.iret (v := (-1)) hx hb hr (fun t ht hW => ⟨⟨(-1), (sg, gm, lg), rfl, ⟨(iv_w (iv_k (by decide) : iv (-1) (-1) (-1)) (by decide)), (Or.inr ⟨(fun j hj => hno j (by have q1 : x4_12.toNatClampNeg = x4_12.toInt.toNat := rfl; have := i32_0; have := i32_1; have := i32_2; have := i32_m1; have := (hsx1_12).1; have := (hsx1_12).2; have := (h_2).1; have := (h_2).2; have := (h_7).1; have := (h_7).2; have := (h_10).1; have := (h_10).2; omega)), Or.inr ⟨Or.inr (by rw [← hwm]; exact (fK_r_8.resolve_right (fun q => by have := q.1; have := q.2; have := i32_0; have := i32_1; have := i32_2; have := i32_m1; have := (hsx1_12).1; have := (hsx1_12).2; have := (h_2).1; have := (h_2).2; have := (h_7).1; have := (h_7).2; have := (h_10).1; have := (h_10).2; omega)).2), rfl⟩⟩), rfl⟩, by rw [ht]; exact hP, va_K.moved hW.alike hK, hD⟩, hS.F ht⟩) hS.2.2 dX13_typeIn_71
          · have h_11 : iv 0 7 r_8 := iv_neL c_9 hr_8 (by decide)
            refine lv_bipush (v := 8) hx hb dX13_typeIn_60 (by decide) ?_
            refine lv_lload_n hx hb dX13_typeIn_62 rfl (lv_at hl 1 rfl) ?_
            have hPc := hP.sub (ws' := []) [] rfl
            have hDc := hD.sub (ws' := []) [] (by decide) rfl
            have hKc := hK.sub (tys' := []) [] rfl
            have hFc := va_free (wc := []) hD hS hA [] rfl
            refine va_calli (va_runS (As := [.long x2_12]) (rest := [.int 8]) ⟨hx, hb, hml, hown, htb⟩ (a_classIn2 l dC dI H.size x2_12) (va_cwS 1 htb (gd_S kw_1205 kw_1206 kw_160 kw_1604) rfl rfl rfl (by decide +kernel) ⟨Nat.le_of_ble_eq_true rfl, Nat.le_of_ble_eq_true rfl⟩) ⟨fun a U g mk q => by obtain ⟨q0, q1, qP, qK, qD⟩ := q; exact ⟨q0, q1, qP, va_K.moved (u := U) (U := U.calling g mk a) (Vm.Alike.refl U.vm) qK, qD⟩, fun U hU hW => ⟨rfl, by rw [hU], by rw [hU]; exact hPc, va_K.moved hW.alike hKc, hDc.weaken (fun _ _ _ _ => trivial)⟩⟩ rfl rfl hl.1 rfl (lv_room (Nat.le_of_ble_eq_true rfl)) dX13_typeIn_63 ⟨Nat.zero_le _, Nat.zero_le _⟩) hS (fun q _ h => hFc q h) hFc (fun r_12 u9 t H1 locs ht hvm hw hB hz1 hk1 hS => ?_)
            have hP := ms_kept hP hz1 hk1
            generalize H1 = H at hP hS ⊢
            have fK_r_12 := hw.2
            have hw := hw.1
            have hr_12 := hw
            refine lv_iadd hx hb dX13_typeIn_66 ?_
            refine lv_topi (fun z_13 ez_13 => ?_)
            have hz_13 : iv 7 15 z_13 := iv_of ez_13 (iv_add (iv_k (by decide) : iv 8 8 8) hr_12 (by decide))
            have tz_13 : z_13.toInt = 8 + (r_12 : Int32).toInt := by rw [ez_13]; exact iv_addE (iv_k (by decide) : iv 8 8 8) hr_12 (by decide)
            refine lv_goto (tgt := 71) hx hb dX13_typeIn_67 (by decide) ?_
            exact W.iret (v := z_13) hx hb hr (fun t ht hW => ⟨⟨z_13, (sg, gm, lg), rfl, ⟨(iv_w hz_13 (by decide)), (Or.inr ⟨(fun j hj => hno j (by have q1 : x4_12.toNatClampNeg = x4_12.toInt.toNat := rfl; have := i32_0; have := i32_1; have := i32_2; have := i32_m1; have := (hsx1_12).1; have := (hsx1_12).2; have := (h_2).1; have := (h_2).2; have := (h_7).1; have := (h_7).2; have := (h_11).1; have := (h_11).2; have := (hr_12).1; have := (hr_12).2; have := (hz_13).1; have := (hz_13).2; omega)), Or.inl ⟨(by rw [← fH_r_3]; exact c_5), (by rw [← hwm]; exact (fK_r_8.resolve_left (fun q => absurd q.1 (by intro q7; exact c_9 (Int32.toInt_inj.mp (q7.trans (by decide)))))).2), (by rw [← hwm]; have q9 := (fK_r_8.resolve_left (fun q => absurd q.1 (by intro q7; exact c_9 (Int32.toInt_inj.mp (q7.trans (by decide)))))).1; have q8 := (fK_r_12.resolve_left (fun q => absurd (fK_r_8.resolve_left (fun q => absurd q.1 (by intro q7; exact c_9 (Int32.toInt_inj.mp (q7.trans (by decide)))))).2 q.2)).1; have := i32_0; have := i32_1; have := i32_2; have := i32_m1; have := (hsx1_12).1; have := (hsx1_12).2; have := (h_2).1; have := (h_2).2; have := (h_7).1; have := (h_7).2; have := (h_11).1; have := (h_11).2; have := (hr_12).1; have := (hr_12).2; have := (hz_13).1; have := (hz_13).2; omega)⟩⟩), rfl⟩, by rw [ht]; exact hP, va_K.moved hW.alike hK, hD⟩, hS.F ht⟩) hS.2.2 dX13_typeIn_71
      · have h_14 : iv 0 4 x4_12 := iv_ltL (i32_lt c_1) hx4_12 (iv_k (by decide) : iv 5 5 5) (by decide)
        refine lv_lload_n hx hb dX13_typeIn_18 rfl (lv_at hl 1 rfl) ?_
        refine lv_aload_n hx hb dX13_typeIn_19 rfl (lv_at hl 2 rfl) ?_
        refine mr_get (v := .ref (ad 1)) hx hb htb inX13 hown hK hP 1 (by decide) (htb _ kw_1028) rfl dX13_typeIn_20 ?_
        refine lv_iconst (v := 4) hx hb dX13_typeIn_23 (by decide) ?_
        refine lv_iload hx hb dX13_typeIn_24 (lv_at hl 0 rfl) ?_
        refine lv_iadd hx hb dX13_typeIn_26 ?_
        refine lv_topi (fun z_15 ez_15 => ?_)
        have hz_15 : iv 4 8 z_15 := iv_of ez_15 (iv_add (iv_k (by decide) : iv 4 4 4) h_14 (by decide))
        have tz_15 : z_15.toInt = 4 + (x4_12 : Int32).toInt := by rw [ez_15]; exact iv_addE (iv_k (by decide) : iv 4 4 4) h_14 (by decide)
        refine mr_lald hx hb hK hP 1 (k := 1) rfl rfl rfl (show vp_in z_15 11 from (iv_in hz_15 (by decide))) dX13_typeIn_27 ?_
        refine lv_topl (fun z_16 ez_16 => ?_)
        refine W.lcmp hx hb dX13_typeIn_28 ?_
        refine lv_topi (fun z_17 ez_17 => ?_)
        have hz_17 : iv (-1) 1 z_17 := iv_of ez_17 (iv_cmp _ _)
        refine lv_if_ne (tgt := 35) hx hb dX13_typeIn_29 (by decide) (fun c_18 => ?_) (fun c_18 => ?_)
        · have d_19 : ¬ (z_17 : Int32).toInt = 0 := lv_neT c_18 rfl
          obtain ⟨z_20, ez_20⟩ : ∃ z : Int32, z = x4_12 + 1 := ⟨_, rfl⟩
          have hz_20 : iv 1 5 z_20 := iv_of ez_20 (iv_add h_14 (iv_k (by decide) : iv 1 1 1) (by decide))
          have tz_20 : z_20.toInt = x4_12.toInt + 1 := by rw [ez_20]; exact iv_addE h_14 (iv_k (by decide) : iv 1 1 1) (by decide)
          refine lv_iinc (v := z_20) (lv' := [(4, .int z_20), (2, .long x2_12), (0, .ref h0), (1, .int x)]) hx hb dX13_typeIn_35 hl (k := 0) rfl ez_20.symm (by decide) rfl (fun ls hl => ?_)
          refine lv_goto (tgt := 12) hx hb dX13_typeIn_38 (by decide) ?_
          exact ih12 _ (by rw [← hn12]; exact (iv_meas tz_20 h_14 (by decide))) z_20 x2_12 rfl (iv_w hz_20 (by decide)) hsx1_12 (fun j hj => by { by_cases hq : j = x4_12.toNatClampNeg; (subst hq; intro q; exact c_18 (ez_17.trans ((lg_cmp_eq _ _).mpr (by rw [hwm, ez_16, show z_15.toNatClampNeg = 4 + x4_12.toNatClampNeg from (by have q1 : z_15.toNatClampNeg = z_15.toInt.toNat := rfl; have q1 : x4_12.toNatClampNeg = x4_12.toInt.toNat := rfl; have := i32_0; have := i32_1; have := i32_2; have := i32_m1; have := (hsx1_12).1; have := (hsx1_12).2; have := (h_14).1; have := (h_14).2; have := (hz_15).1; have := (hz_15).2; have := (hz_17).1; have := (hz_17).2; have := (hz_20).1; have := (hz_20).2; omega)]; exact q)))); exact hno j (by have q1 : z_20.toNatClampNeg = z_20.toInt.toNat := rfl; have q1 : x4_12.toNatClampNeg = x4_12.toInt.toNat := rfl; have := i32_0; have := i32_1; have := i32_2; have := i32_m1; have := (hsx1_12).1; have := (hsx1_12).2; have := (h_14).1; have := (h_14).2; have := (hz_15).1; have := (hz_15).2; have := (hz_17).1; have := (hz_17).2; have := (hz_20).1; have := (hz_20).2; omega) }) (hwm) _ _ _ hP hD hS (lv_sub hl [0, 1, 2, 3] rfl)
        · have h_21 : iv 0 0 z_17 := iv_eq c_18 hz_17 (iv_k (by decide) : iv 0 0 0) (by decide)
          refine lv_iload hx hb dX13_typeIn_32 (lv_at hl 0 rfl) ?_
          exact W.iret (v := x4_12) hx hb hr (fun t ht hW => ⟨⟨x4_12, (sg, gm, lg), rfl, ⟨(iv_w h_14 (by decide)), (Or.inl ⟨x4_12.toNatClampNeg, (by have q1 : x4_12.toNatClampNeg = x4_12.toInt.toNat := rfl; have := i32_0; have := i32_1; have := i32_2; have := i32_m1; have := (hsx1_12).1; have := (hsx1_12).2; have := (h_14).1; have := (h_14).2; have := (hz_15).1; have := (hz_15).2; have := (h_21).1; have := (h_21).2; omega), (by have q1 : x4_12.toNatClampNeg = x4_12.toInt.toNat := rfl; have := i32_0; have := i32_1; have := i32_2; have := i32_m1; have := (hsx1_12).1; have := (hsx1_12).2; have := (h_14).1; have := (h_14).2; have := (hz_15).1; have := (hz_15).2; have := (h_21).1; have := (h_21).2; omega), (by rw [← hwm, (lg_cmp_eq _ _).mp (ez_17.symm.trans c_18), ez_16, show z_15.toNatClampNeg = 4 + x4_12.toNatClampNeg from (by have q1 : z_15.toNatClampNeg = z_15.toInt.toNat := rfl; have q1 : x4_12.toNatClampNeg = x4_12.toInt.toNat := rfl; have := i32_0; have := i32_1; have := i32_2; have := i32_m1; have := (hsx1_12).1; have := (hsx1_12).2; have := (h_14).1; have := (h_14).2; have := (hz_15).1; have := (hz_15).2; have := (h_21).1; have := (h_21).2; omega)]), hno⟩), rfl⟩, by rw [ht]; exact hP, va_K.moved hW.alike hK, hD⟩, hS.F ht⟩) hS.2.2 dX13_typeIn_34
  refine lv_aload_n hx hb dX13_typeIn_0 rfl (lv_at hl 0 rfl) ?_
  refine lv_iload_n hx hb dX13_typeIn_1 rfl (lv_at hl 1 rfl) ?_
  refine lv_ldc2 (own := RX13) (v := 1954115685) hx hb hown (htb _ kw_1192) dX13_typeIn_2 ?_
  refine mr_calll (rest := []) ⟨hx, hb, hml, hown, htb⟩ (f_word l dC dI h0 ad cid sg gm lg x 1954115685 hI hvx) (cwV 2 htb (gd_V kw_1201 kw_1202 kw_96 kw_160 kw_1603) rfl rfl rfl (by decide +kernel) ⟨Nat.le_of_ble_eq_true rfl, Nat.le_of_ble_eq_true rfl⟩) rfl hl.1 rfl (Nat.le_of_ble_eq_true rfl) dX13_typeIn_5 ⟨Nat.zero_le _, Nat.zero_le _⟩ hK hP hD hS hA (fun r_22 u_23 H locs hw hP hD hS => ?_)
  obtain ⟨fW_r_22, rfl⟩ := hw
  have hP : va_P (dC, dI) vwCl (mW h0 ad cid sg gm lg) H := hP
  have hD : va_D A (mW h0 ad cid sg gm lg) := hD
  refine lv_lstore_n (lv' := [(2, .long r_22), (0, .ref h0), (1, .int x)]) hx hb dX13_typeIn_8 rfl hl (by decide) rfl (fun ls hl => ?_)
  refine lv_iconst (v := 0) hx hb dX13_typeIn_9 (by decide) ?_
  refine lv_istore (lv' := [(4, .int 0), (2, .long r_22), (0, .ref h0), (1, .int x)]) hx hb dX13_typeIn_10 hl (by decide) rfl (fun ls hl => ?_)
  exact hj12 _ 0 r_22 rfl (iv_w (iv_k (by decide) : iv 0 0 0) (by decide)) hvx (fun j hj => absurd hj (Nat.not_lt_zero _)) (fW_r_22) _ _ _ hP hD hS (lv_sub hl [0, 1, 2, 3] rfl)

theorem th_e {gm : Nat → Nat → Int32} {lg : Nat → Nat → Int64} {v x : Int64} {n i : Nat} (h : x = thR gm lg v i) (h1 : n ≤ i) (h2 : i ≤ n ∨ i = 1) : x = thR gm lg v n := by
  rcases h2 with q | q
  · rw [show n = i by omega]; exact h
  · subst q
    match n, h1 with
    | 0, _ => exact h
    | 1, _ => exact h
theorem lcmp_lt {a : Int64} {z : Int32} (e : z = lg_cmp a 0) (h : ¬ 0 ≤ z) : a.toInt < 0 := by
  have h : z < 0 := Int32.not_le.mp h
  rw [e] at h
  exact Int64.lt_iff_toInt_lt.mp ((lg_cmp_lt _ _).mp h)
theorem lcmp_ge {a : Int64} {z : Int32} (e : z = lg_cmp a 0) (h : 0 ≤ z) : 0 ≤ a.toInt := by
  have h : ¬ z < 0 := Int32.not_lt.mpr h
  rw [e] at h
  exact Int64.le_iff_toInt_le.mp (Int64.not_lt.mp (fun q => h ((lg_cmp_lt _ _).mpr q)))

set_option maxHeartbeats 4000000 in
set_option maxRecDepth 100000 in
theorem f_called9 (l : Launch) (dC : Nat → ClassId) (dI : Nat → Nat → Nat) (h0 : Nat) (ad : Nat → Nat) (cid : Nat → ClassId) (sg : Nat → Int32) (gm : Nat → Nat → Int32) (lg : Nat → Nat → Int64) (w : Int64) (hI : MI sg gm) : MMi l dC dI yX13_called wm_X13_called ({ frames := 3, cells := 0, slots := 0, locals := 74 }) h0 ad cid [.long w] sg gm lg (fun r v => (iv (-1) 79 r) ∧ (r.toInt < (sg 41).toInt) ∧ (r = cdR sg gm lg w) ∧ v = (sg, gm, lg)) := by
  intro sz
  refine Met.ofW (cc := cX13_called) (maxL := 10) (ret := (some .int)) (by decide) rfl ?_
  intro p e s m args below meth c s₁ B hml hv
  obtain ⟨rfl, hsz, hP, hK, hD0⟩ := hv
  have hx := B.exec
  have hb := B.bytes
  have hr := B.returns
  have hts := atoms_spec (ws := wm_X13_called) B.pre
  have htb := fun (w : Cond) (h : w ∈ tb) => hts w (List.mem_cons_of_mem _ h)
  have hown : s.vm.findClass RX13 = some m.cls := findClass_of_methodNamed B.named
  have hlocks := B.notSynchronized
  subst hsz
  have hD := hD0.self (sz := s.heap.size)
  generalize hAe : va_A (mW h0 ad cid sg gm lg) s.heap.size = A at hD ⊢
  have hA : ∀ q : Nat, s.heap.size ≤ q → A q := fun q h => by rw [← hAe]; exact Or.inr h
  have hS : va_S A s.heap s.heap [] := va_S.rf
  have hl := lv_entry ([.ref h0, .long w]) (n := 10) (Nat.le_of_ble_eq_true rfl)
  rw [lg_entry_eq]
  generalize (lg_sl ([.ref h0, .long w]) ++ List.replicate (10 - (lg_sl ([.ref h0, .long w])).length) Slot.unset).toArray = ls at hl ⊢
  have hl : lv_has ls 10 [(0, .ref h0), (1, .long w)] := hl
  have hj5 : ∀ (n : Nat) (x5_5 : Int32) (x3_5 : Int64) (_ : (23 - x5_5.toInt).toNat = n) (_ : iv 0 23 x5_5) (_ : cdR sg gm lg w = cdF sg gm lg (21 - x5_5.toNatClampNeg) x3_5) (H : Heap) (locs : List Loc) (ls : Array Slot), va_P (dC, dI) vwCl (mW h0 ad cid sg gm lg) H → va_D A (mW h0 ad cid sg gm lg) → va_S A s.heap H locs → lv_has ls 10 [(5, .int x5_5), (3, .long x3_5), (0, .ref h0), (1, .long w)] → W p l e (headSpec wm_X13_called ({ frames := 3, cells := 0, slots := 0, locals := 74 })).room s m ([.ref h0, .long w] : List Value).toArray below meth c H locs 0 0 (MQ below (va_Qi (fun r v => (iv (-1) 79 r) ∧ (r.toInt < (sg 41).toInt) ∧ (r = cdR sg gm lg w) ∧ v = (sg, gm, lg)) (MB dC dI h0 ad cid A) A) ([.ref h0, .long w] : List Value).toArray s 0 0 A) (F0 m 5 ls []) := by
    intro n
    induction n using Nat.strongRecOn with
    | ind n ih5 =>
      intro x5_5 x3_5 hn5 hx5_5 hcd H locs ls hP hD hS hl
      have hj36 : ∀ (n : Nat) (x9_36 : Int32) (x7_36 : Int64) (x6_36 : Int32) (_ : (80 - x9_36.toInt).toNat = n) (_ : iv 1 80 x9_36) (_ : iv (-1) (-1) x6_36) (_ : iv 0 20 x5_5) (_ : mWid sg gm lg x3_5 = -1) (_ : x9_36.toInt ≤ (sg 24).toInt ∨ x9_36.toInt = 1) (_ : x7_36 = thR gm lg x3_5 x9_36.toNatClampNeg) (H : Heap) (locs : List Loc) (ls : Array Slot), va_P (dC, dI) vwCl (mW h0 ad cid sg gm lg) H → va_D A (mW h0 ad cid sg gm lg) → va_S A s.heap H locs → lv_has ls 10 [(9, .int x9_36), (7, .long x7_36), (6, .int x6_36), (5, .int x5_5), (3, .long x3_5), (0, .ref h0), (1, .long w)] → W p l e (headSpec wm_X13_called ({ frames := 3, cells := 0, slots := 0, locals := 74 })).room s m ([.ref h0, .long w] : List Value).toArray below meth c H locs 0 0 (MQ below (va_Qi (fun r v => (iv (-1) 79 r) ∧ (r.toInt < (sg 41).toInt) ∧ (r = cdR sg gm lg w) ∧ v = (sg, gm, lg)) (MB dC dI h0 ad cid A) A) ([.ref h0, .long w] : List Value).toArray s 0 0 A) (F0 m 36 ls []) := by
        intro n
        induction n using Nat.strongRecOn with
        | ind n ih36 =>
          intro x9_36 x7_36 x6_36 hn36 hx9_36 hx6_36 hsx5_36 hwi hle hth H locs ls hP hD hS hl
          refine lv_iload hx hb dX13_called_36 (lv_at hl 0 rfl) ?_
          refine lv_aload_n hx hb dX13_called_38 rfl (lv_at hl 5 rfl) ?_
          refine mr_get (v := .int (sg 24)) hx hb htb inX13 hown hK hP 24 (by decide) (htb _ kw_1051) rfl dX13_called_39 ?_
          refine lv_icmp_ge (tgt := 92) hx hb dX13_called_42 (by decide) (fun c_1 => ?_) (fun c_1 => ?_)
          · have d_2 : ((sg 24) : Int32).toInt ≤ (x9_36 : Int32).toInt := Int32.le_iff_toInt_le.mp c_1
            refine lv_lload hx hb dX13_called_92 (lv_at hl 1 rfl) ?_
            refine lv_lconst (v := 0) hx hb dX13_called_94 (by decide) ?_
            refine W.lcmp hx hb dX13_called_95 ?_
            refine lv_topi (fun z_3 ez_3 => ?_)
            have hz_3 : iv (-1) 1 z_3 := iv_of ez_3 (iv_cmp _ _)
            refine lv_if_ge (tgt := 101) hx hb dX13_called_96 (by decide) (fun c_4 => ?_) (fun c_4 => ?_)
            · have h_5 : iv 0 1 z_3 := iv_leR c_4 (iv_k (by decide) : iv 0 0 0) hz_3 (by decide)
              refine lv_lload hx hb dX13_called_101 (lv_at hl 1 rfl) ?_
              refine lv_lstore_n (lv' := [(3, .long x7_36), (9, .int x9_36), (7, .long x7_36), (6, .int x6_36), (5, .int x5_5), (0, .ref h0), (1, .long w)]) hx hb dX13_called_103 rfl hl (by decide) rfl (fun ls hl => ?_)
              obtain ⟨z_6, ez_6⟩ : ∃ z : Int32, z = x5_5 + 1 := ⟨_, rfl⟩
              have hz_6 : iv 1 21 z_6 := iv_of ez_6 (iv_add hsx5_36 (iv_k (by decide) : iv 1 1 1) (by decide))
              have tz_6 : z_6.toInt = x5_5.toInt + 1 := by rw [ez_6]; exact iv_addE hsx5_36 (iv_k (by decide) : iv 1 1 1) (by decide)
              refine lv_iinc (v := z_6) (lv' := [(5, .int z_6), (3, .long x7_36), (9, .int x9_36), (7, .long x7_36), (6, .int x6_36), (0, .ref h0), (1, .long w)]) hx hb dX13_called_104 hl (k := 4) rfl ez_6.symm (by decide) rfl (fun ls hl => ?_)
              refine lv_goto (tgt := 5) hx hb dX13_called_107 (by decide) ?_
              exact ih5 _ (by rw [← hn5]; exact (iv_meas tz_6 hsx5_36 (by decide))) z_6 x7_36 rfl (iv_w hz_6 (by decide)) ((by have q9 : 21 - x5_5.toNatClampNeg = (21 - z_6.toNatClampNeg) + 1 := (by have q1 : z_6.toNatClampNeg = z_6.toInt.toNat := rfl; have q1 : x5_5.toNatClampNeg = x5_5.toInt.toNat := rfl; have := i32_0; have := i32_1; have := i32_2; have := i32_m1; have := (hsx5_36).1; have := (hsx5_36).2; have := (hx9_36).1; have := (hx9_36).2; have := (hx6_36).1; have := (hx6_36).2; have := ((show iv 0 80 (sg 24) from MI_s hI 24)).1; have := ((show iv 0 80 (sg 24) from MI_s hI 24)).2; have := (h_5).1; have := (h_5).2; have := (hz_6).1; have := (hz_6).2; omega); rw [q9] at hcd; exact cd_s hcd hwi (th_e hth (by have q1 : x9_36.toNatClampNeg = x9_36.toInt.toNat := rfl; have q1 : (sg 24).toNatClampNeg = (sg 24).toInt.toNat := rfl; have := i32_0; have := i32_1; have := i32_2; have := i32_m1; have := (show iv 0 80 (sg 24) from MI_s hI 24).1; have := (show iv 0 80 (sg 24) from MI_s hI 24).2; have := (hsx5_36).1; have := (hsx5_36).2; have := (hx9_36).1; have := (hx9_36).2; have := (hx6_36).1; have := (hx6_36).2; have := ((show iv 0 80 (sg 24) from MI_s hI 24)).1; have := ((show iv 0 80 (sg 24) from MI_s hI 24)).2; have := (h_5).1; have := (h_5).2; have := (hz_6).1; have := (hz_6).2; omega) (by have := hle; have q1 : x9_36.toNatClampNeg = x9_36.toInt.toNat := rfl; have q1 : (sg 24).toNatClampNeg = (sg 24).toInt.toNat := rfl; have := i32_0; have := i32_1; have := i32_2; have := i32_m1; have := (show iv 0 80 (sg 24) from MI_s hI 24).1; have := (show iv 0 80 (sg 24) from MI_s hI 24).2; have := (hsx5_36).1; have := (hsx5_36).2; have := (hx9_36).1; have := (hx9_36).2; have := (hx6_36).1; have := (hx6_36).2; have := ((show iv 0 80 (sg 24) from MI_s hI 24)).1; have := ((show iv 0 80 (sg 24) from MI_s hI 24)).2; have := (h_5).1; have := (h_5).2; have := (hz_6).1; have := (hz_6).2; omega)) (by have q8 := lcmp_ge ez_3 c_4; omega))) _ _ _ hP hD hS (lv_sub hl [0, 1, 5, 6] rfl)
            · have h_7 : iv (-1) (-1) z_3 := iv_ltL (i32_lt c_4) hz_3 (iv_k (by decide) : iv 0 0 0) (by decide)
              refine lv_iconst (v := (-1)) hx hb dX13_called_99 (by decide) ?_
              exact W.iret (v := (-1)) hx hb hr (fun t ht hW => ⟨⟨(-1), (sg, gm, lg), rfl, ⟨(iv_w (iv_k (by decide) : iv (-1) (-1) (-1)) (by decide)), (by have := i32_0; have := i32_1; have := i32_2; have := i32_m1; have := (show iv 0 80 (sg 41) from MI_s hI 41).1; have := (show iv 0 80 (sg 41) from MI_s hI 41).2; have := (hsx5_36).1; have := (hsx5_36).2; have := (hx9_36).1; have := (hx9_36).2; have := (hx6_36).1; have := (hx6_36).2; have := ((show iv 0 80 (sg 24) from MI_s hI 24)).1; have := ((show iv 0 80 (sg 24) from MI_s hI 24)).2; have := (h_7).1; have := (h_7).2; omega), ((cd_e hcd hwi (by rw [← (th_e hth (by have q1 : x9_36.toNatClampNeg = x9_36.toInt.toNat := rfl; have q1 : (sg 24).toNatClampNeg = (sg 24).toInt.toNat := rfl; have := i32_0; have := i32_1; have := i32_2; have := i32_m1; have := (show iv 0 80 (sg 24) from MI_s hI 24).1; have := (show iv 0 80 (sg 24) from MI_s hI 24).2; have := (hsx5_36).1; have := (hsx5_36).2; have := (hx9_36).1; have := (hx9_36).2; have := (hx6_36).1; have := (hx6_36).2; have := ((show iv 0 80 (sg 24) from MI_s hI 24)).1; have := ((show iv 0 80 (sg 24) from MI_s hI 24)).2; have := (h_7).1; have := (h_7).2; omega) (by have := hle; have q1 : x9_36.toNatClampNeg = x9_36.toInt.toNat := rfl; have q1 : (sg 24).toNatClampNeg = (sg 24).toInt.toNat := rfl; have := i32_0; have := i32_1; have := i32_2; have := i32_m1; have := (show iv 0 80 (sg 24) from MI_s hI 24).1; have := (show iv 0 80 (sg 24) from MI_s hI 24).2; have := (hsx5_36).1; have := (hsx5_36).2; have := (hx9_36).1; have := (hx9_36).2; have := (hx6_36).1; have := (hx6_36).2; have := ((show iv 0 80 (sg 24) from MI_s hI 24)).1; have := ((show iv 0 80 (sg 24) from MI_s hI 24)).2; have := (h_7).1; have := (h_7).2; omega))]; exact lcmp_lt ez_3 c_4)).symm), rfl⟩, by rw [ht]; exact hP, va_K.moved hW.alike hK, hD⟩, hS.F ht⟩) hS.2.2 dX13_called_100
          · have d_8 : (x9_36 : Int32).toInt < ((sg 24) : Int32).toInt := Int32.lt_iff_toInt_lt.mp (i32_lt c_1)
            have h_9 : iv 1 79 x9_36 := iv_ltL (i32_lt c_1) hx9_36 (show iv 0 80 (sg 24) from MI_s hI 24) (by decide)
            have h_10 : iv 2 80 (sg 24) := iv_ltR (i32_lt c_1) hx9_36 (show iv 0 80 (sg 24) from MI_s hI 24) (by decide)
            refine lv_aload_n hx hb dX13_called_45 rfl (lv_at hl 5 rfl) ?_
            refine mr_get (v := .ref (ad 26)) hx hb htb inX13 hown hK hP 26 (by decide) (htb _ kw_1053) rfl dX13_called_46 ?_
            refine lv_iload hx hb dX13_called_49 (lv_at hl 0 rfl) ?_
            refine mr_iald hx hb hK hP 19 (k := 26) rfl rfl rfl (show vp_in x9_36 80 from (iv_in h_9 (by decide))) dX13_called_51 ?_
            refine lv_topi (fun z_11 ez_11 => ?_)
            have hz_11 : iv 0 10 z_11 := iv_of ez_11 (MI_a hI 26 h_9 (by decide))
            refine lv_iconst (v := 2) hx hb dX13_called_52 (by decide) ?_
            refine lv_icmp_ne (tgt := 82) hx hb dX13_called_53 (by decide) (fun c_12 => ?_) (fun c_12 => ?_)
            · have d_13 : ¬ (z_11 : Int32).toInt = 2 := lv_neT c_12 rfl
              refine lv_lload hx hb dX13_called_82 (lv_at hl 1 rfl) ?_
              refine lv_lstore (lv' := [(7, .long x7_36), (9, .int x9_36), (6, .int x6_36), (5, .int x5_5), (3, .long x3_5), (0, .ref h0), (1, .long w)]) hx hb dX13_called_84 hl (by decide) rfl (fun ls hl => ?_)
              obtain ⟨z_14, ez_14⟩ : ∃ z : Int32, z = x9_36 + 1 := ⟨_, rfl⟩
              have hz_14 : iv 2 80 z_14 := iv_of ez_14 (iv_add h_9 (iv_k (by decide) : iv 1 1 1) (by decide))
              have tz_14 : z_14.toInt = x9_36.toInt + 1 := by rw [ez_14]; exact iv_addE h_9 (iv_k (by decide) : iv 1 1 1) (by decide)
              refine lv_iinc (v := z_14) (lv' := [(9, .int z_14), (7, .long x7_36), (6, .int x6_36), (5, .int x5_5), (3, .long x3_5), (0, .ref h0), (1, .long w)]) hx hb dX13_called_86 hl (k := 1) rfl ez_14.symm (by decide) rfl (fun ls hl => ?_)
              refine lv_goto (tgt := 36) hx hb dX13_called_89 (by decide) ?_
              exact ih36 _ (by rw [← hn36]; exact (iv_meas tz_14 h_9 (by decide))) z_14 x7_36 x6_36 rfl (iv_w hz_14 (by decide)) hx6_36 hsx5_36 (hwi) (Or.inl (by have := i32_0; have := i32_1; have := i32_2; have := i32_m1; have := (show iv 0 80 (sg 24) from MI_s hI 24).1; have := (show iv 0 80 (sg 24) from MI_s hI 24).2; have := (hsx5_36).1; have := (hsx5_36).2; have := (h_9).1; have := (h_9).2; have := (hx6_36).1; have := (hx6_36).2; have := (h_10).1; have := (h_10).2; have := (hz_11).1; have := (hz_11).2; have := (hz_14).1; have := (hz_14).2; omega)) ((by rw [(show z_14.toNatClampNeg = x9_36.toNatClampNeg + 1 from (by have q1 : z_14.toNatClampNeg = z_14.toInt.toNat := rfl; have q1 : x9_36.toNatClampNeg = x9_36.toInt.toNat := rfl; have := i32_0; have := i32_1; have := i32_2; have := i32_m1; have := (hsx5_36).1; have := (hsx5_36).2; have := (h_9).1; have := (h_9).2; have := (hx6_36).1; have := (hx6_36).2; have := (h_10).1; have := (h_10).2; have := (hz_11).1; have := (hz_11).2; have := (hz_14).1; have := (hz_14).2; omega)), thR_n (show 0 < x9_36.toNatClampNeg from (by have q1 : x9_36.toNatClampNeg = x9_36.toInt.toNat := rfl; have := i32_0; have := i32_1; have := i32_2; have := i32_m1; have := (hsx5_36).1; have := (hsx5_36).2; have := (h_9).1; have := (h_9).2; have := (hx6_36).1; have := (hx6_36).2; have := (h_10).1; have := (h_10).2; have := (hz_11).1; have := (hz_11).2; have := (hz_14).1; have := (hz_14).2; omega)) (fun q => c_12 (ez_11.trans q.1))]; exact hth)) _ _ _ hP hD hS (lv_sub hl [0, 1, 2, 3, 4, 5, 6] rfl)
            · have h_15 : iv 2 2 z_11 := iv_eq c_12 hz_11 (iv_k (by decide) : iv 2 2 2) (by decide)
              refine lv_aload_n hx hb dX13_called_56 rfl (lv_at hl 5 rfl) ?_
              refine lv_iload hx hb dX13_called_57 (lv_at hl 0 rfl) ?_
              refine lv_ldc2 (own := RX13) (v := 29807) hx hb hown (htb _ kw_1179) dX13_called_59 ?_
              refine mr_calll (rest := []) ⟨hx, hb, hml, hown, htb⟩ (f_word l dC dI h0 ad cid sg gm lg x9_36 29807 hI (iv_w h_9 (by decide))) (cwV 2 htb (gd_V kw_1201 kw_1202 kw_96 kw_160 kw_1603) rfl rfl rfl (by decide +kernel) ⟨Nat.le_of_ble_eq_true rfl, Nat.le_of_ble_eq_true rfl⟩) rfl hl.1 rfl (Nat.le_of_ble_eq_true rfl) dX13_called_62 ⟨Nat.zero_le _, Nat.zero_le _⟩ hK hP hD hS hA (fun r_16 u_17 H locs hw hP hD hS => ?_)
              obtain ⟨fW_r_16, rfl⟩ := hw
              have hP : va_P (dC, dI) vwCl (mW h0 ad cid sg gm lg) H := hP
              have hD : va_D A (mW h0 ad cid sg gm lg) := hD
              refine lv_lload_n hx hb dX13_called_65 rfl (lv_at hl 4 rfl) ?_
              refine W.lcmp hx hb dX13_called_66 ?_
              refine lv_topi (fun z_18 ez_18 => ?_)
              have hz_18 : iv (-1) 1 z_18 := iv_of ez_18 (iv_cmp _ _)
              refine lv_if_ne (tgt := 82) hx hb dX13_called_67 (by decide) (fun c_19 => ?_) (fun c_19 => ?_)
              · have d_20 : ¬ (z_18 : Int32).toInt = 0 := lv_neT c_19 rfl
                refine lv_lload hx hb dX13_called_82 (lv_at hl 1 rfl) ?_
                refine lv_lstore (lv' := [(7, .long x7_36), (9, .int x9_36), (6, .int x6_36), (5, .int x5_5), (3, .long x3_5), (0, .ref h0), (1, .long w)]) hx hb dX13_called_84 hl (by decide) rfl (fun ls hl => ?_)
                obtain ⟨z_21, ez_21⟩ : ∃ z : Int32, z = x9_36 + 1 := ⟨_, rfl⟩
                have hz_21 : iv 2 80 z_21 := iv_of ez_21 (iv_add h_9 (iv_k (by decide) : iv 1 1 1) (by decide))
                have tz_21 : z_21.toInt = x9_36.toInt + 1 := by rw [ez_21]; exact iv_addE h_9 (iv_k (by decide) : iv 1 1 1) (by decide)
                refine lv_iinc (v := z_21) (lv' := [(9, .int z_21), (7, .long x7_36), (6, .int x6_36), (5, .int x5_5), (3, .long x3_5), (0, .ref h0), (1, .long w)]) hx hb dX13_called_86 hl (k := 1) rfl ez_21.symm (by decide) rfl (fun ls hl => ?_)
                refine lv_goto (tgt := 36) hx hb dX13_called_89 (by decide) ?_
                exact ih36 _ (by rw [← hn36]; exact (iv_meas tz_21 h_9 (by decide))) z_21 x7_36 x6_36 rfl (iv_w hz_21 (by decide)) hx6_36 hsx5_36 (hwi) (Or.inl (by have := i32_0; have := i32_1; have := i32_2; have := i32_m1; have := (show iv 0 80 (sg 24) from MI_s hI 24).1; have := (show iv 0 80 (sg 24) from MI_s hI 24).2; have := (hsx5_36).1; have := (hsx5_36).2; have := (h_9).1; have := (h_9).2; have := (hx6_36).1; have := (hx6_36).2; have := (h_10).1; have := (h_10).2; have := (h_15).1; have := (h_15).2; have := (hz_18).1; have := (hz_18).2; have := (hz_21).1; have := (hz_21).2; omega)) ((by rw [(show z_21.toNatClampNeg = x9_36.toNatClampNeg + 1 from (by have q1 : z_21.toNatClampNeg = z_21.toInt.toNat := rfl; have q1 : x9_36.toNatClampNeg = x9_36.toInt.toNat := rfl; have := i32_0; have := i32_1; have := i32_2; have := i32_m1; have := (hsx5_36).1; have := (hsx5_36).2; have := (h_9).1; have := (h_9).2; have := (hx6_36).1; have := (hx6_36).2; have := (h_10).1; have := (h_10).2; have := (h_15).1; have := (h_15).2; have := (hz_18).1; have := (hz_18).2; have := (hz_21).1; have := (hz_21).2; omega)), thR_n (show 0 < x9_36.toNatClampNeg from (by have q1 : x9_36.toNatClampNeg = x9_36.toInt.toNat := rfl; have := i32_0; have := i32_1; have := i32_2; have := i32_m1; have := (hsx5_36).1; have := (hsx5_36).2; have := (h_9).1; have := (h_9).2; have := (hx6_36).1; have := (hx6_36).2; have := (h_10).1; have := (h_10).2; have := (h_15).1; have := (h_15).2; have := (hz_18).1; have := (hz_18).2; have := (hz_21).1; have := (hz_21).2; omega)) (fun q => c_19 (ez_18.trans ((lg_cmp_eq _ _).mpr (by rw [fW_r_16]; exact q.2))))]; exact hth)) _ _ _ hP hD hS (lv_sub hl [0, 1, 2, 3, 4, 5, 6] rfl)
              · have h_22 : iv 0 0 z_18 := iv_eq c_19 hz_18 (iv_k (by decide) : iv 0 0 0) (by decide)
                refine lv_aload_n hx hb dX13_called_70 rfl (lv_at hl 5 rfl) ?_
                refine lv_iload hx hb dX13_called_71 (lv_at hl 0 rfl) ?_
                refine lv_ldc2 (own := RX13) (v := 1851878757) hx hb hown (htb _ kw_1178) dX13_called_73 ?_
                refine mr_calll (rest := []) ⟨hx, hb, hml, hown, htb⟩ (f_word l dC dI h0 ad cid sg gm lg x9_36 1851878757 hI (iv_w h_9 (by decide))) (cwV 2 htb (gd_V kw_1201 kw_1202 kw_96 kw_160 kw_1603) rfl rfl rfl (by decide +kernel) ⟨Nat.le_of_ble_eq_true rfl, Nat.le_of_ble_eq_true rfl⟩) rfl hl.1 rfl (Nat.le_of_ble_eq_true rfl) dX13_called_76 ⟨Nat.zero_le _, Nat.zero_le _⟩ hK hP hD hS hA (fun r_23 u_24 H locs hw hP hD hS => ?_)
                obtain ⟨fW_r_23, rfl⟩ := hw
                have hP : va_P (dC, dI) vwCl (mW h0 ad cid sg gm lg) H := hP
                have hD : va_D A (mW h0 ad cid sg gm lg) := hD
                refine lv_goto (tgt := 84) hx hb dX13_called_79 (by decide) ?_
                refine lv_lstore (lv' := [(7, .long r_23), (9, .int x9_36), (6, .int x6_36), (5, .int x5_5), (3, .long x3_5), (0, .ref h0), (1, .long w)]) hx hb dX13_called_84 hl (by decide) rfl (fun ls hl => ?_)
                obtain ⟨z_25, ez_25⟩ : ∃ z : Int32, z = x9_36 + 1 := ⟨_, rfl⟩
                have hz_25 : iv 2 80 z_25 := iv_of ez_25 (iv_add h_9 (iv_k (by decide) : iv 1 1 1) (by decide))
                have tz_25 : z_25.toInt = x9_36.toInt + 1 := by rw [ez_25]; exact iv_addE h_9 (iv_k (by decide) : iv 1 1 1) (by decide)
                refine lv_iinc (v := z_25) (lv' := [(9, .int z_25), (7, .long r_23), (6, .int x6_36), (5, .int x5_5), (3, .long x3_5), (0, .ref h0), (1, .long w)]) hx hb dX13_called_86 hl (k := 1) rfl ez_25.symm (by decide) rfl (fun ls hl => ?_)
                refine lv_goto (tgt := 36) hx hb dX13_called_89 (by decide) ?_
                exact ih36 _ (by rw [← hn36]; exact (iv_meas tz_25 h_9 (by decide))) z_25 r_23 x6_36 rfl (iv_w hz_25 (by decide)) hx6_36 hsx5_36 (hwi) (Or.inl (by have := i32_0; have := i32_1; have := i32_2; have := i32_m1; have := (show iv 0 80 (sg 24) from MI_s hI 24).1; have := (show iv 0 80 (sg 24) from MI_s hI 24).2; have := (hsx5_36).1; have := (hsx5_36).2; have := (h_9).1; have := (h_9).2; have := (hx6_36).1; have := (hx6_36).2; have := (h_10).1; have := (h_10).2; have := (h_15).1; have := (h_15).2; have := (h_22).1; have := (h_22).2; have := (hz_25).1; have := (hz_25).2; omega)) ((by rw [(show z_25.toNatClampNeg = x9_36.toNatClampNeg + 1 from (by have q1 : z_25.toNatClampNeg = z_25.toInt.toNat := rfl; have q1 : x9_36.toNatClampNeg = x9_36.toInt.toNat := rfl; have := i32_0; have := i32_1; have := i32_2; have := i32_m1; have := (hsx5_36).1; have := (hsx5_36).2; have := (h_9).1; have := (h_9).2; have := (hx6_36).1; have := (hx6_36).2; have := (h_10).1; have := (h_10).2; have := (h_15).1; have := (h_15).2; have := (h_22).1; have := (h_22).2; have := (hz_25).1; have := (hz_25).2; omega)), thR_h (show 0 < x9_36.toNatClampNeg from (by have q1 : x9_36.toNatClampNeg = x9_36.toInt.toNat := rfl; have := i32_0; have := i32_1; have := i32_2; have := i32_m1; have := (hsx5_36).1; have := (hsx5_36).2; have := (h_9).1; have := (h_9).2; have := (hx6_36).1; have := (hx6_36).2; have := (h_10).1; have := (h_10).2; have := (h_15).1; have := (h_15).2; have := (h_22).1; have := (h_22).2; have := (hz_25).1; have := (hz_25).2; omega)) (by rw [← ez_11]; exact c_12) (by rw [← fW_r_16]; exact (lg_cmp_eq _ _).mp (ez_18.symm.trans c_19))]; exact fW_r_23)) _ _ _ hP hD hS (lv_sub hl [0, 1, 2, 3, 4, 5, 6] rfl)
      refine lv_iload hx hb dX13_called_5 (lv_at hl 0 rfl) ?_
      refine lv_bipush (v := 21) hx hb dX13_called_7 (by decide) ?_
      refine lv_icmp_ge (tgt := 110) hx hb dX13_called_9 (by decide) (fun c_26 => ?_) (fun c_26 => ?_)
      · have h_27 : iv 21 23 x5_5 := iv_leR c_26 (iv_k (by decide) : iv 21 21 21) hx5_5 (by decide)
        refine lv_iconst (v := (-1)) hx hb dX13_called_110 (by decide) ?_
        exact W.iret (v := (-1)) hx hb hr (fun t ht hW => ⟨⟨(-1), (sg, gm, lg), rfl, ⟨(iv_w (iv_k (by decide) : iv (-1) (-1) (-1)) (by decide)), (by have := i32_0; have := i32_1; have := i32_2; have := i32_m1; have := (show iv 0 80 (sg 41) from MI_s hI 41).1; have := (show iv 0 80 (sg 41) from MI_s hI 41).2; have := (h_27).1; have := (h_27).2; omega), ((by rw [show 21 - x5_5.toNatClampNeg = 0 from (by have q1 : x5_5.toNatClampNeg = x5_5.toInt.toNat := rfl; have := i32_0; have := i32_1; have := i32_2; have := i32_m1; have := (h_27).1; have := (h_27).2; omega)] at hcd; exact hcd.symm)), rfl⟩, by rw [ht]; exact hP, va_K.moved hW.alike hK, hD⟩, hS.F ht⟩) hS.2.2 dX13_called_111
      · have h_28 : iv 0 20 x5_5 := iv_ltL (i32_lt c_26) hx5_5 (iv_k (by decide) : iv 21 21 21) (by decide)
        refine lv_aload_n hx hb dX13_called_12 rfl (lv_at hl 2 rfl) ?_
        refine lv_lload_n hx hb dX13_called_13 rfl (lv_at hl 1 rfl) ?_
        refine mr_calli (rest := []) ⟨hx, hb, hml, hown, htb⟩ (f_withId l dC dI h0 ad cid sg gm lg x3_5 hI) (cwV 1 htb (gd_V kw_1225 kw_1226 kw_104 kw_160 kw_1612) rfl rfl rfl (by decide +kernel) ⟨Nat.le_of_ble_eq_true rfl, Nat.le_of_ble_eq_true rfl⟩) rfl hl.1 rfl (Nat.le_of_ble_eq_true rfl) dX13_called_14 ⟨Nat.zero_le _, Nat.zero_le _⟩ hK hP hD hS hA (fun r_29 u_30 H locs hw hP hD hS => ?_)
        obtain ⟨hr_29, fD_r_29, rfl⟩ := hw
        have hP : va_P (dC, dI) vwCl (mW h0 ad cid sg gm lg) H := hP
        have hD : va_D A (mW h0 ad cid sg gm lg) := hD
        refine lv_istore (lv' := [(6, .int r_29), (5, .int x5_5), (3, .long x3_5), (0, .ref h0), (1, .long w)]) hx hb dX13_called_17 hl (by decide) rfl (fun ls hl => ?_)
        refine lv_iload hx hb dX13_called_19 (lv_at hl 0 rfl) ?_
        refine lv_iconst (v := (-1)) hx hb dX13_called_21 (by decide) ?_
        refine lv_icmp_eq (tgt := 28) hx hb dX13_called_22 (by decide) (fun c_31 => ?_) (fun c_31 => ?_)
        · have h_32 : iv (-1) (-1) r_29 := iv_eq c_31 hr_29 (iv_k (by decide) : iv (-1) (-1) (-1)) (by decide)
          refine lv_ldc2 (own := RX13) (v := (-1)) hx hb hown (htb _ kw_1203) dX13_called_28 ?_
          refine lv_lstore (lv' := [(7, .long (-1)), (6, .int r_29), (5, .int x5_5), (3, .long x3_5), (0, .ref h0), (1, .long w)]) hx hb dX13_called_31 hl (by decide) rfl (fun ls hl => ?_)
          refine lv_iconst (v := 1) hx hb dX13_called_33 (by decide) ?_
          refine lv_istore (lv' := [(9, .int 1), (7, .long (-1)), (6, .int r_29), (5, .int x5_5), (3, .long x3_5), (0, .ref h0), (1, .long w)]) hx hb dX13_called_34 hl (by decide) rfl (fun ls hl => ?_)
          exact hj36 _ 1 (-1) r_29 rfl (iv_w (iv_k (by decide) : iv 1 1 1) (by decide)) h_32 h_28 ((by rw [← fD_r_29]; exact c_31)) (Or.inr (by decide)) (rfl) _ _ _ hP hD hS (lv_sub hl [0, 1, 2, 3, 4, 5, 6] rfl)
        · have h_33 : iv 0 79 r_29 := iv_neL c_31 hr_29 (by decide)
          refine lv_iload hx hb dX13_called_25 (lv_at hl 0 rfl) ?_
          exact W.iret (v := r_29) hx hb hr (fun t ht hW => ⟨⟨r_29, (sg, gm, lg), rfl, ⟨(iv_w h_33 (by decide)), (wid_lt (show iv 0 80 (sg 41) from MI_s hI 41) fD_r_29), ((by rw [cd_h hcd (by have q1 : x5_5.toNatClampNeg = x5_5.toInt.toNat := rfl; have := i32_0; have := i32_1; have := i32_2; have := i32_m1; have := (h_28).1; have := (h_28).2; have := (h_33).1; have := (h_33).2; omega) (by rw [← fD_r_29]; exact c_31)]; exact fD_r_29)), rfl⟩, by rw [ht]; exact hP, va_K.moved hW.alike hK, hD⟩, hS.F ht⟩) hS.2.2 dX13_called_27
  refine lv_lload_n hx hb dX13_called_0 rfl (lv_at hl 1 rfl) ?_
  refine lv_lstore_n (lv' := [(3, .long w), (0, .ref h0), (1, .long w)]) hx hb dX13_called_1 rfl hl (by decide) rfl (fun ls hl => ?_)
  refine lv_iconst (v := 0) hx hb dX13_called_2 (by decide) ?_
  refine lv_istore (lv' := [(5, .int 0), (3, .long w), (0, .ref h0), (1, .long w)]) hx hb dX13_called_3 hl (by decide) rfl (fun ls hl => ?_)
  exact hj5 _ 0 w rfl (iv_w (iv_k (by decide) : iv 0 0 0) (by decide)) (rfl) _ _ _ hP hD hS (lv_sub hl [0, 1, 2, 3] rfl)
end
section
section BG9
variable (ws : Nat → Int32) (wg : Nat → Nat → Int32) (wl : Nat → Nat → Int64) (rs : Nat → Int32) (rg : Nat → Nat → Int32) (lg : Nat → Nat → Int64)
/-- an arg or a set that has its value as an attribute -/
abbrev hol9 (e : Nat) : Prop := rg 26 e = 4 ∨ rg 26 e = 5
abbrev hva9 (e : Nat) : Prop := hol9 rg e ∧ ¬ mHas rg lg e 508440638821 = 0
/-- an element that is worked out: both sides alike -/
def WKB (e : Nat) : Prop :=
  (hva9 rg lg e → (wg 25 e).toInt = 7 ∧ ∃ T, SRq rg (mFind rg lg e 508440638821) T ∧ TXT9 wg wl e T)
  ∧ (¬ hva9 rg lg e → rg 26 e = 7 → (wg 25 e).toInt = 7 ∧ ∃ T, SRq rg (nI (1000 + e)) T ∧ TXT9 wg wl e T)
  ∧ (¬ hva9 rg lg e → rg 26 e = 9 → (wg 25 e).toInt = 9)
  ∧ (¬ hva9 rg lg e → rg 26 e = 3 → ((wg 25 e).toInt = 8 ∨ (wg 25 e).toInt = 2) ∧ (wg 27 e).toInt = (rg 43 e).toInt ∧ 0 ≤ (rg 43 e).toInt ∧ (rg 43 e).toInt < (rs 41).toInt ∧ wl 4 (rg 43 e).toNatClampNeg = 0 ∧ wg 34 (rg 43 e).toNatClampNeg = 0)
  ∧ (¬ hva9 rg lg e → ¬ rg 26 e = 7 → ¬ rg 26 e = 9 → ¬ rg 26 e = 3 → ((wg 25 e).toInt = 8 ∨ (wg 25 e).toInt = 2) ∧ (wg 27 e).toInt < 0 ∧ (cdR rs rg lg (mWord rg lg e (if hol9 rg e then 7497062 else 1650811246))).toInt = caN ws wg wl (wl 2 e))
/-- where the content of an arg or a set stands -/
def inR (a : Nat) : Int32 := if ¬ mHas rg lg a 508440638821 = 0 ∨ ¬ mHas rg lg a 7497062 = 0 then nI a else mInn rs rg (nI a) 0 (nI a)
def LSB (c : Nat) : Prop := (wg 25 c).toInt = 6 ∧ (rg 29 c).toInt = (wg 18 c).toInt ∧ ((itC wg c).length : Int) = (wg 18 c).toInt ∧ (itC wg c).length ≤ 6
  ∧ (∀ k x, (itC wg c)[k]? = some x → chF rs rg (nI c) k = nI x ∧ x < 80 ∧ WKB ws wg wl rs rg lg x) ∧ chF rs rg (nI c) (itC wg c).length = -1
def HLB (a : Nat) : Prop := a < 80 ∧ iv 0 79 (inR rs rg lg a) ∧ ctE wg a = (inR rs rg lg a).toNatClampNeg
  ∧ ((0 < (rg 29 a).toInt ∧ rg 26 (mInn rs rg (nI a) 0 (nI a)).toNatClampNeg = 6) ↔ rg 26 (inR rs rg lg a).toNatClampNeg = 6)
  ∧ (rg 26 (inR rs rg lg a).toNatClampNeg = 6 → LSB ws wg wl rs rg lg (ctE wg a))
  ∧ (¬ rg 26 (inR rs rg lg a).toNatClampNeg = 6 → WKB ws wg wl rs rg lg (ctE wg a))
/-- a bean's own rows -/
def BNs (b : Nat) : Prop := (mMny rg lg b ↔ ¬ one9 wg wl b) ∧ (absR rg lg b ↔ ¬ wg 34 b = 0) ∧ (wg 28 b).toInt = (b : Int)
  ∧ (mHas rg lg (rg 42 b).toNatClampNeg 28259031083541619 = 0 ↔ wl 6 b = 0)
  ∧ (¬ wl 6 b = 0 → (cdR rs rg lg (mWord rg lg (rg 42 b).toNatClampNeg 28259031083541619)).toInt = caN ws wg wl (wl 6 b))
  ∧ ((mTel rs rg lg (nI b) 427020088179 = -1 ∧ mTel rs rg lg (nI b) 28817527407604345 = -1) ↔ ((wg 30 b).toInt = -1 ∧ wl 7 b = 0))
  ∧ ((¬ mTel rs rg lg (nI b) 28817527407604345 = -1 ∧ ¬ mTel rs rg lg (nI b) 120282512125796 = -1) ↔ ¬ wl 7 b = 0)
  ∧ (¬ wl 7 b = 0 → (cdR rs rg lg (mWord rg lg (mTel rs rg lg (nI b) 28817527407604345).toNatClampNeg 28817527407604345)).toInt = caN ws wg wl (wl 7 b))
  ∧ ((mTel rs rg lg (nI b) 427020088179 = -1 → (wg 30 b).toInt = -1) ∧ (¬ mTel rs rg lg (nI b) 427020088179 = -1 → clQ (mWord rg lg (mTel rs rg lg (nI b) 427020088179).toNatClampNeg 427020088179).toInt (wg 30 b).toInt))
  ∧ (ltR rs rg lg (nI b) 120282512125796).toInt = (wg 31 b).toInt ∧ (ltR rs rg lg (nI b) 1768843636).toInt = (wg 32 b).toInt ∧ (ltR rs rg lg (nI b) 28259044220366713).toInt = (wg 33 b).toInt
  ∧ (rfW wg wl b ↔ (¬ mMny rg lg b ∧ ¬ absR rg lg b ∧ ¬ mWord rg lg (rg 42 b).toNatClampNeg 1818327673 = lg 1 0))
/-- its args -/
def ARB (a : Nat) : Prop := HLB ws wg wl rs rg lg a ∧ (mHas rg lg a 24948 = 0 → (wg 23 a).toInt = -1) ∧ (¬ mHas rg lg a 24948 = 0 → ((mWord rg lg a 24948).toInt32 - 48).toInt = (wg 23 a).toInt ∧ 0 ≤ (wg 23 a).toInt) ∧ TYQ lg (mWord rg lg a 1954115685) (mHas rg lg a 1954115685) (wg 24 a).toInt
def BNa (b : Nat) : Prop := (wg 41 (3 * b)).toNatClampNeg ≤ 4 ∧ 0 ≤ (wg 41 (3 * b)).toInt ∧ mArg rs rg lg (nI b) (wg 41 (3 * b)).toNatClampNeg = -1 ∧ ∀ n, n < (wg 41 (3 * b)).toNatClampNeg → mArg rs rg lg (nI b) n = wg 57 (128 * (3 * b) + n) ∧ 0 ≤ (wg 57 (128 * (3 * b) + n)).toInt ∧ ARB ws wg wl rs rg lg (wg 57 (128 * (3 * b) + n)).toNatClampNeg
/-- its sets, its lookups -/
def BNe (b : Nat) : Prop := (rg 44 b).toInt = (wg 41 (3 * b + 1)).toInt ∧ ∀ n, n < (wg 41 (3 * b + 1)).toNatClampNeg → rg 45 (26 * b + n) = wg 57 (128 * (3 * b + 1) + n) ∧ HLB ws wg wl rs rg lg (wg 57 (128 * (3 * b + 1) + n)).toNatClampNeg
  ∧ ((mWord rg lg (wg 57 (128 * (3 * b + 1) + n)).toNatClampNeg 1851878757).toInt32 - 97).toInt = (wg 22 (wg 57 (128 * (3 * b + 1) + n)).toNatClampNeg).toInt ∧ 0 ≤ (wg 22 (wg 57 (128 * (3 * b + 1) + n)).toNatClampNeg).toInt ∧ (wg 22 (wg 57 (128 * (3 * b + 1) + n)).toNatClampNeg).toInt ≤ 25
def BNl (b : Nat) : Prop := (rg 46 b).toInt = (wg 41 (3 * b + 2)).toInt ∧ ∀ n, n < (wg 41 (3 * b + 2)).toNatClampNeg → rg 47 (26 * b + n) = wg 57 (128 * (3 * b + 2) + n)
  ∧ ((mWord rg lg (wg 57 (128 * (3 * b + 2) + n)).toNatClampNeg 1851878757).toInt32 - 97).toInt = (wg 22 (wg 57 (128 * (3 * b + 2) + n)).toNatClampNeg).toInt
  ∧ (cdR rs rg lg (mWord rg lg (wg 57 (128 * (3 * b + 2) + n)).toNatClampNeg 1650811246)).toInt = caN ws wg wl (wl 2 (wg 57 (128 * (3 * b + 2) + n)).toNatClampNeg)
  ∧ ∀ k, k < n → ¬ (wg 22 (wg 57 (128 * (3 * b + 2) + k)).toNatClampNeg).toInt = (wg 22 (wg 57 (128 * (3 * b + 2) + n)).toNatClampNeg).toInt
/-- the reference's document and the class's settled one are alike -/
def BRG : Prop := (rs 41).toInt = (ws 12).toInt ∧ (∀ b, b < (rs 41).toNatClampNeg → BNs ws wg wl rs rg lg b ∧ BNa ws wg wl rs rg lg b ∧ BNe ws wg wl rs rg lg b ∧ BNl ws wg wl rs rg lg b) ∧ (∀ v : Int64, (cdR rs rg lg v).toInt = caN ws wg wl v)
end BG9
section BG8
variable {ws : Nat → Int32} {wg : Nat → Nat → Int32} {wl : Nat → Nat → Int64} {rs sg : Nat → Int32} {rg gm : Nat → Nat → Int32} {lg : Nat → Nat → Int64} {b : Int32}
theorem nI_c (h : iv 0 79 b) : nI b.toNatClampNeg = b := by
  have h1 := cln9 h.1
  have h2 := h.2
  refine Int32.toInt_inj.mp ?_
  rw [nI_toInt (by omega)]; omega
theorem BR_lt (hRS : rs9 sg = rs) (hv : iv 0 79 b) (hb : b.toInt < (sg 41).toInt) : b.toNatClampNeg < (rs 41).toNatClampNeg := by
  rw [rs9_41 hRS]
  have h1 := cln9 hv.1
  have h2 := cln9 (u := sg 41) (by have := hv.1; omega)
  omega
theorem BR_a (h : BRG ws wg wl rs rg lg) (hRW : rt9 gm = rg) (hRS : rs9 sg = rs) (hv : iv 0 79 b) (hb : b.toInt < (sg 41).toInt) : (wg 41 (3 * b.toNatClampNeg)).toNatClampNeg ≤ 4 ∧ 0 ≤ (wg 41 (3 * b.toNatClampNeg)).toInt ∧ mArg sg gm lg b (wg 41 (3 * b.toNatClampNeg)).toNatClampNeg = -1 ∧ ∀ n, n < (wg 41 (3 * b.toNatClampNeg)).toNatClampNeg → mArg sg gm lg b n = wg 57 (128 * (3 * b.toNatClampNeg) + n) ∧ 0 ≤ (wg 57 (128 * (3 * b.toNatClampNeg) + n)).toInt ∧ ARB ws wg wl rs rg lg (wg 57 (128 * (3 * b.toNatClampNeg) + n)).toNatClampNeg := by
  have q := (h.2.1 _ (BR_lt hRS hv hb)).2.1
  unfold BNa at q
  rw [nI_c hv] at q
  refine ⟨q.1, q.2.1, (mArg_k (DK_r hRW hRS) b _).symm.trans q.2.2.1, fun n hn => ?_⟩
  have q9 := q.2.2.2 n hn
  exact ⟨(mArg_k (DK_r hRW hRS) b _).symm.trans q9.1, q9.2⟩
theorem BR_at (hRW : rt9 gm = rg) (hRS : rs9 sg = rs) {a : Nat} (h : ARB ws wg wl rs rg lg a) : (mHas gm lg a 24948 = 0 → (wg 23 a).toInt = -1) ∧ (¬ mHas gm lg a 24948 = 0 → ((mWord gm lg a 24948).toInt32 - 48).toInt = (wg 23 a).toInt ∧ 0 ≤ (wg 23 a).toInt) ∧ TYQ lg (mWord gm lg a 1954115685) (mHas gm lg a 1954115685) (wg 24 a).toInt := by
  have q := h.2
  have d := DK_r (lg := lg) hRW hRS
  rw [mHas_k d.1, mWord_k d.1, mHas_k d.1, mWord_k d.1] at q
  exact q
end BG8
/-- the reference's spots -/
def f75 (gm : Nat → Nat → Int32) : Nat → Int := fun p => if p < 3 then (gm 75 p).toInt else -1
theorem f75_at {gm : Nat → Nat → Int32} {p : Nat} (h : p < 3) : f75 gm p = (gm 75 p).toInt := if_pos h
theorem f75_u {gm gm2 : Nat → Nat → Int32} {p : Nat} {v : Int32} (h : gm2 75 = upd (gm 75) p v) (hp : p < 3) : f75 gm2 = fu9 (f75 gm) p v.toInt := by
  funext q
  unfold f75 fu9
  by_cases e : q = p
  · subst e; rw [if_pos hp, if_pos rfl, h, upd_at]
  · rw [if_neg e, h]
    show _ = if q < 3 then (gm 75 q).toInt else -1
    by_cases h3 : q < 3
    · rw [if_pos h3, if_pos h3, upd_ne e]
    · rw [if_neg h3, if_neg h3]
theorem f75_0 {gm : Nat → Nat → Int32} {n : Nat} (hn : 3 ≤ n) (h : ∀ q, 0 ≤ q → q < n → gm 75 q = -1) : f75 gm = fun _ => -1 := by
  funext q
  unfold f75
  by_cases h3 : q < 3
  · rw [if_pos h3, h q (Nat.zero_le _) (by omega)]; decide
  · rw [if_neg h3]
theorem atL_x {wg : Nat → Nat → Int32} {b i a : Nat} (h : i < (wg 41 (3 * b)).toNatClampNeg) (ha : (wg 57 (128 * (3 * b) + i)).toNatClampNeg = a) : (atL wg b).drop i = (wg 23 a).toInt :: (atL wg b).drop (i + 1) := by
  refine dro9 ?_
  unfold atL
  rw [List.getElem?_map, liL_g h, ha]; rfl
end
section
set_option maxHeartbeats 4000000 in
set_option maxRecDepth 100000 in
theorem f_placed9 (l : Launch) (dC : Nat → ClassId) (dI : Nat → Nat → Nat) (h0 : Nat) (ad : Nat → Nat) (cid : Nat → ClassId) (sg : Nat → Int32) (gm : Nat → Nat → Int32) (lg : Nat → Nat → Int64) (b : Int32) (nx : Int32) (ws : Nat → Int32) (wg : Nat → Nat → Int32) (wl : Nat → Nat → Int64) (rs : Nat → Int32) (rg : Nat → Nat → Int32) (hI : MI sg gm) (hvb : iv 0 79 b) (hvnx : iv 0 3 nx) (hbl : b.toInt < (sg 41).toInt) (hac : ACY sg gm lg) (hst : STR sg gm lg) (han : ARGN sg gm lg b nx.toNatClampNeg) (hRW : rt9 gm = rg) (hRS : rs9 sg = rs) (hBR : BRG ws wg wl rs rg lg) (hnx : nx.toInt = (wg 41 (3 * b.toNatClampNeg)).toInt) : MMi l dC dI yX13_placed wm_X13_placed ({ frames := 6, cells := 0, slots := 0, locals := 142 }) h0 ad cid [.int b, .int nx] sg gm lg (fun r v => ∃ (sg2 : Nat → Int32) (gm2 : Nat → Nat → Int32) (lg2 : Nat → Nat → Int64), v = (sg2, gm2, lg2) ∧ MI sg2 gm2 ∧ KS [] sg sg2 ∧ KS [75] gm gm2 ∧ KS [] lg lg2 ∧ (iv 0 1 r) ∧ (r.toInt = 0 ∨ SPF (gm2 75) nx.toNatClampNeg) ∧ ((r.toInt = 0 ∧ plA (atL wg b.toNatClampNeg) = none) ∨ (r.toInt = 1 ∧ plA (atL wg b.toNatClampNeg) = some (f75 gm2)))) := by
  intro sz
  refine Met.ofW (cc := cX13_placed) (maxL := 6) (ret := (some .boolean)) (by decide) rfl ?_
  intro p e s m args below meth c s₁ B hml hv
  obtain ⟨rfl, hsz, hP, hK, hD0⟩ := hv
  have hx := B.exec
  have hb := B.bytes
  have hr := B.returns
  have hts := atoms_spec (ws := wm_X13_placed) B.pre
  have htb := fun (w : Cond) (h : w ∈ tb) => hts w (List.mem_cons_of_mem _ h)
  have hown : s.vm.findClass RX13 = some m.cls := findClass_of_methodNamed B.named
  have hlocks := B.notSynchronized
  subst hsz
  have hD := hD0.self (sz := s.heap.size)
  generalize hAe : va_A (mW h0 ad cid sg gm lg) s.heap.size = A at hD ⊢
  have hA : ∀ q : Nat, s.heap.size ≤ q → A q := fun q h => by rw [← hAe]; exact Or.inr h
  have hS : va_S A s.heap s.heap [] := va_S.rf
  have hl := lv_entry ([.ref h0, .int b, .int nx]) (n := 6) (Nat.le_of_ble_eq_true rfl)
  rw [lg_entry_eq]
  generalize (lg_sl ([.ref h0, .int b, .int nx]) ++ List.replicate (6 - (lg_sl ([.ref h0, .int b, .int nx])).length) Slot.unset).toArray = ls at hl ⊢
  have hl : lv_has ls 6 [(0, .ref h0), (1, .int b), (2, .int nx)] := hl
  have hj103 : ∀ (n : Nat) (gm_j103 : Nat → Nat → Int32) (x4_103 : Int32) (x3_103 : Int32) (_ : (3 - x4_103.toInt).toNat = n) (_ : iv 0 3 x4_103) (_ : iv 0 3 x3_103) (_ : iv 0 79 b) (_ : iv 0 3 nx) (_ : KS [75] gm gm_j103) (_ : MI sg gm_j103) (_ : SPo (gm_j103 75) nx.toNatClampNeg) (_ : cF (gm_j103 75) 4 + nAt sg gm lg b x4_103.toNatClampNeg = nAt sg gm lg b nx.toNatClampNeg + x4_103.toNatClampNeg) (_ : ∀ q9, 0 ≤ q9 → q9 < x3_103.toNatClampNeg → ¬ gm_j103 75 q9 = -1) (_ : x4_103.toInt ≤ nx.toInt) (_ : plA (atL wg b.toNatClampNeg) = some (pl2 ((atL wg b.toNatClampNeg).drop x4_103.toNatClampNeg) x4_103.toNatClampNeg x3_103.toNatClampNeg (f75 gm_j103))) (H : Heap) (locs : List Loc) (ls : Array Slot), va_P (dC, dI) vwCl (mW h0 ad cid sg gm_j103 lg) H → va_D A (mW h0 ad cid sg gm_j103 lg) → va_S A s.heap H locs → lv_has ls 6 [(4, .int x4_103), (3, .int x3_103), (0, .ref h0), (1, .int b), (2, .int nx)] → W p l e (headSpec wm_X13_placed ({ frames := 6, cells := 0, slots := 0, locals := 142 })).room s m ([.ref h0, .int b, .int nx] : List Value).toArray below meth c H locs 0 0 (MQ below (va_Qi (fun r v => ∃ (sg2 : Nat → Int32) (gm2 : Nat → Nat → Int32) (lg2 : Nat → Nat → Int64), v = (sg2, gm2, lg2) ∧ MI sg2 gm2 ∧ KS [] sg sg2 ∧ KS [75] gm gm2 ∧ KS [] lg lg2 ∧ (iv 0 1 r) ∧ (r.toInt = 0 ∨ SPF (gm2 75) nx.toNatClampNeg) ∧ ((r.toInt = 0 ∧ plA (atL wg b.toNatClampNeg) = none) ∨ (r.toInt = 1 ∧ plA (atL wg b.toNatClampNeg) = some (f75 gm2)))) (MB dC dI h0 ad cid A) A) ([.ref h0, .int b, .int nx] : List Value).toArray s 0 0 A) (F0 m 103 ls []) := by
    intro n
    induction n using Nat.strongRecOn with
    | ind n ih103 =>
      intro gm_j103 x4_103 x3_103 hn103 hx4_103 hx3_103 hsx1_103 hsx2_103 hkg_j103 hI_j103 hsp hcf hpf hl4 hp103 H locs ls hP hD hS hl
      have hj153 : ∀ (gm_j153 : Nat → Nat → Int32) (x3_153 : Int32) (_ : iv 0 2 x4_103) (_ : iv 0 3 x3_153) (_ : iv 0 79 b) (_ : iv 1 3 nx) (_ : KS [75] gm gm_j153) (_ : MI sg gm_j153) (_ : SPo (gm_j153 75) nx.toNatClampNeg) (_ : cF (gm_j153 75) 4 + nAt sg gm lg b (x4_103.toNatClampNeg + 1) = nAt sg gm lg b nx.toNatClampNeg + (x4_103.toNatClampNeg + 1)) (_ : ∀ q9, 0 ≤ q9 → q9 < x3_153.toNatClampNeg → ¬ gm_j153 75 q9 = -1) (_ : x4_103.toInt < nx.toInt) (_ : plA (atL wg b.toNatClampNeg) = some (pl2 ((atL wg b.toNatClampNeg).drop (x4_103.toNatClampNeg + 1)) (x4_103.toNatClampNeg + 1) x3_153.toNatClampNeg (f75 gm_j153))) (H : Heap) (locs : List Loc) (ls : Array Slot), va_P (dC, dI) vwCl (mW h0 ad cid sg gm_j153 lg) H → va_D A (mW h0 ad cid sg gm_j153 lg) → va_S A s.heap H locs → lv_has ls 6 [(4, .int x4_103), (3, .int x3_153), (0, .ref h0), (1, .int b), (2, .int nx)] → W p l e (headSpec wm_X13_placed ({ frames := 6, cells := 0, slots := 0, locals := 142 })).room s m ([.ref h0, .int b, .int nx] : List Value).toArray below meth c H locs 0 0 (MQ below (va_Qi (fun r v => ∃ (sg2 : Nat → Int32) (gm2 : Nat → Nat → Int32) (lg2 : Nat → Nat → Int64), v = (sg2, gm2, lg2) ∧ MI sg2 gm2 ∧ KS [] sg sg2 ∧ KS [75] gm gm2 ∧ KS [] lg lg2 ∧ (iv 0 1 r) ∧ (r.toInt = 0 ∨ SPF (gm2 75) nx.toNatClampNeg) ∧ ((r.toInt = 0 ∧ plA (atL wg b.toNatClampNeg) = none) ∨ (r.toInt = 1 ∧ plA (atL wg b.toNatClampNeg) = some (f75 gm2)))) (MB dC dI h0 ad cid A) A) ([.ref h0, .int b, .int nx] : List Value).toArray s 0 0 A) (F0 m 153 ls []) := by
        intro gm_j153 x3_153 hsx4_153 hx3_153 hsx1_153 hsx2_153 hkg_j153 hI_j153 hsp hcf hpf hl1 hp153 H locs ls hP hD hS hl
        obtain ⟨z_1, ez_1⟩ : ∃ z : Int32, z = x4_103 + 1 := ⟨_, rfl⟩
        have hz_1 : iv 1 3 z_1 := iv_of ez_1 (iv_add hsx4_153 (iv_k (by decide) : iv 1 1 1) (by decide))
        have tz_1 : z_1.toInt = x4_103.toInt + 1 := by rw [ez_1]; exact iv_addE hsx4_153 (iv_k (by decide) : iv 1 1 1) (by decide)
        refine lv_iinc (v := z_1) (lv' := [(4, .int z_1), (3, .int x3_153), (0, .ref h0), (1, .int b), (2, .int nx)]) hx hb dX13_placed_153 hl (k := 0) rfl ez_1.symm (by decide) rfl (fun ls hl => ?_)
        refine lv_goto (tgt := 103) hx hb dX13_placed_156 (by decide) ?_
        exact ih103 _ (by rw [← hn103]; exact (iv_meas tz_1 hsx4_153 (by decide))) gm_j153 z_1 x3_153 rfl (iv_w hz_1 (by decide)) hx3_153 hsx1_153 (iv_w hsx2_153 (by decide)) (KS_tr (L := [75]) KS_rf hkg_j153 (by decide)) hI_j153 (hsp) (by rw [s_cl hsx4_153 (by decide) tz_1]; exact hcf) (hpf) (by have := i32_0; have := i32_1; have := i32_2; have := i32_m1; have := (show iv 0 1200 (sg 20) from MI_s hI 20).1; have := (show iv 0 1200 (sg 20) from MI_s hI 20).2; have := (show iv 0 1201 (sg 21) from MI_s hI 21).1; have := (show iv 0 1201 (sg 21) from MI_s hI 21).2; have := (show iv 0 3 (sg 22) from MI_s hI 22).1; have := (show iv 0 3 (sg 22) from MI_s hI 22).2; have := (show iv 0 80 (sg 24) from MI_s hI 24).1; have := (show iv 0 80 (sg 24) from MI_s hI 24).2; have := (show iv 0 1201 (sg 25) from MI_s hI 25).1; have := (show iv 0 1201 (sg 25) from MI_s hI 25).2; have := (hsx1_153).1; have := (hsx1_153).2; have := (hsx2_153).1; have := (hsx2_153).2; have := (hsx4_153).1; have := (hsx4_153).2; have := (hx3_103).1; have := (hx3_103).2; have := (hx3_153).1; have := (hx3_153).2; have := (hz_1).1; have := (hz_1).2; omega) ((by rw [show z_1.toNatClampNeg = x4_103.toNatClampNeg + 1 from (by have q1 : z_1.toNatClampNeg = z_1.toInt.toNat := rfl; have q1 : x4_103.toNatClampNeg = x4_103.toInt.toNat := rfl; have := i32_0; have := i32_1; have := i32_2; have := i32_m1; have := (hsx1_153).1; have := (hsx1_153).2; have := (hsx2_153).1; have := (hsx2_153).2; have := (hsx4_153).1; have := (hsx4_153).2; have := (hx3_103).1; have := (hx3_103).2; have := (hx3_153).1; have := (hx3_153).2; have := (hz_1).1; have := (hz_1).2; omega)]; exact hp153)) _ _ _ hP hD hS (lv_sub hl [0, 1, 2, 3, 4] rfl)
      have hj129 : ∀ (n : Nat) (gm_j129 : Nat → Nat → Int32) (x3_129 : Int32) (_ : (2 - x3_129.toInt).toNat = n) (_ : iv 0 2 x4_103) (_ : iv 0 2 x3_129) (_ : iv 0 79 b) (_ : iv 1 3 nx) (_ : KS [75] gm gm_j129) (_ : MI sg gm_j129) (_ : SPo (gm_j129 75) nx.toNatClampNeg) (_ : cF (gm_j129 75) 4 + nAt sg gm lg b x4_103.toNatClampNeg = nAt sg gm lg b nx.toNatClampNeg + x4_103.toNatClampNeg) (_ : ∀ q9, 0 ≤ q9 → q9 < x3_129.toNatClampNeg → ¬ gm_j129 75 q9 = -1) (_ : cF (gm_j129 75) 4 + 1 ≤ nx.toNatClampNeg) (_ : mHas gm lg (mArg sg gm lg b x4_103.toNatClampNeg).toNatClampNeg 24948 = 0) (_ : x4_103.toInt < nx.toInt) (_ : plA (atL wg b.toNatClampNeg) = some (pl2 ((atL wg b.toNatClampNeg).drop (x4_103.toNatClampNeg + 1)) (x4_103.toNatClampNeg + 1) (nx9 (f75 gm_j129) x3_129.toNatClampNeg) (fu9 (f75 gm_j129) (nx9 (f75 gm_j129) x3_129.toNatClampNeg) (x4_103.toNatClampNeg : Int)))) (H : Heap) (locs : List Loc) (ls : Array Slot), va_P (dC, dI) vwCl (mW h0 ad cid sg gm_j129 lg) H → va_D A (mW h0 ad cid sg gm_j129 lg) → va_S A s.heap H locs → lv_has ls 6 [(4, .int x4_103), (3, .int x3_129), (0, .ref h0), (1, .int b), (2, .int nx)] → W p l e (headSpec wm_X13_placed ({ frames := 6, cells := 0, slots := 0, locals := 142 })).room s m ([.ref h0, .int b, .int nx] : List Value).toArray below meth c H locs 0 0 (MQ below (va_Qi (fun r v => ∃ (sg2 : Nat → Int32) (gm2 : Nat → Nat → Int32) (lg2 : Nat → Nat → Int64), v = (sg2, gm2, lg2) ∧ MI sg2 gm2 ∧ KS [] sg sg2 ∧ KS [75] gm gm2 ∧ KS [] lg lg2 ∧ (iv 0 1 r) ∧ (r.toInt = 0 ∨ SPF (gm2 75) nx.toNatClampNeg) ∧ ((r.toInt = 0 ∧ plA (atL wg b.toNatClampNeg) = none) ∨ (r.toInt = 1 ∧ plA (atL wg b.toNatClampNeg) = some (f75 gm2)))) (MB dC dI h0 ad cid A) A) ([.ref h0, .int b, .int nx] : List Value).toArray s 0 0 A) (F0 m 129 ls []) := by
        intro n
        induction n using Nat.strongRecOn with
        | ind n ih129 =>
          intro gm_j129 x3_129 hn129 hsx4_129 hx3_129 hsx1_129 hsx2_129 hkg_j129 hI_j129 hsp hcf hpf hF hh0 hl1 hp129 H locs ls hP hD hS hl
          refine lv_aload_n hx hb dX13_placed_129 rfl (lv_at hl 2 rfl) ?_
          refine mr_get (v := .ref (ad 75)) hx hb htb inX13 hown hK hP 75 (by decide) (htb _ kw_1102) rfl dX13_placed_130 ?_
          refine lv_iload_n hx hb dX13_placed_133 rfl (lv_at hl 1 rfl) ?_
          refine mr_iald hx hb hK hP 59 (k := 75) rfl rfl rfl (show vp_in x3_129 4 from (iv_in hx3_129 (by decide))) dX13_placed_134 ?_
          refine lv_topi (fun z_2 ez_2 => ?_)
          have hz_2 : iv (-1) 3 z_2 := iv_of ez_2 (MI_a hI_j129 75 hx3_129 (by decide))
          refine lv_iconst (v := (-1)) hx hb dX13_placed_135 (by decide) ?_
          refine lv_icmp_eq (tgt := 145) hx hb dX13_placed_136 (by decide) (fun c_3 => ?_) (fun c_3 => ?_)
          · have h_4 : iv (-1) (-1) z_2 := iv_eq c_3 hz_2 (iv_k (by decide) : iv (-1) (-1) (-1)) (by decide)
            refine lv_aload_n hx hb dX13_placed_145 rfl (lv_at hl 2 rfl) ?_
            refine mr_get (v := .ref (ad 75)) hx hb htb inX13 hown hK hP 75 (by decide) (htb _ kw_1102) rfl dX13_placed_146 ?_
            refine lv_iload_n hx hb dX13_placed_149 rfl (lv_at hl 1 rfl) ?_
            refine lv_iload hx hb dX13_placed_150 (lv_at hl 0 rfl) ?_
            refine ma_iast (x := x4_103) hx hb hK hP hD hS 59 (k := 75) rfl rfl rfl (show vp_in x3_129 4 from (iv_in hx3_129 (by decide))) dX13_placed_152 (fun gm_5 H locs egm_5 hP hD hS => ?_)
            have hI_gm_5 := MI_st hI_j129 egm_5 hsx4_129 (by decide)
            exact hj153 gm_5 x3_129 hsx4_129 (iv_w hx3_129 (by decide)) hsx1_129 hsx2_129 (KS_up (KS_tr (L := [75]) KS_rf hkg_j129 (by decide)) egm_5 (by decide)) hI_gm_5 (SPo_u hsp (show gm_5 75 = upd (gm_j129 75) (x3_129 : Int32).toNatClampNeg x4_103 from ((up_at egm_5).trans (by rw [show gm_j129 75 = gm_j129 75 from rfl]))) (by have := cF_ge hpf 4 (by have := iv_cl hx3_129 (by decide); have := (hx3_129).2; omega); omega) (hsx4_129).1 (by have := iv_cl hvnx (by decide); have := hvnx.1; have := i32_0; have := i32_1; have := i32_2; have := i32_m1; have := (hsx1_129).1; have := (hsx1_129).2; have := (hsx2_129).1; have := (hsx2_129).2; have := (hsx4_129).1; have := (hsx4_129).2; have := (hx3_103).1; have := (hx3_103).2; have := (hx3_129).1; have := (hx3_129).2; have := (h_4).1; have := (h_4).2; omega)) (by rw [nAt_n hh0, cF_upd (show gm_5 75 = upd (gm_j129 75) (x3_129 : Int32).toNatClampNeg x4_103 from ((up_at egm_5).trans (by rw [show gm_j129 75 = gm_j129 75 from rfl]))) (fun q9 => absurd (hsx4_129).1 (by rw [q9]; decide)) (ez_2.symm.trans c_3) 4 (by have := iv_cl hx3_129 (by decide); have := (hx3_129).2; omega)]; omega) (fun q9 h8 h9 => by rw [(show gm_5 75 = upd (gm_j129 75) (x3_129 : Int32).toNatClampNeg x4_103 from ((up_at egm_5).trans (by rw [show gm_j129 75 = gm_j129 75 from rfl]))), upd_ne (by omega)]; exact hpf q9 h8 h9) (by have := i32_0; have := i32_1; have := i32_2; have := i32_m1; have := (show iv 0 1200 (sg 20) from MI_s hI 20).1; have := (show iv 0 1200 (sg 20) from MI_s hI 20).2; have := (show iv 0 1201 (sg 21) from MI_s hI 21).1; have := (show iv 0 1201 (sg 21) from MI_s hI 21).2; have := (show iv 0 3 (sg 22) from MI_s hI 22).1; have := (show iv 0 3 (sg 22) from MI_s hI 22).2; have := (show iv 0 80 (sg 24) from MI_s hI 24).1; have := (show iv 0 80 (sg 24) from MI_s hI 24).2; have := (show iv 0 1201 (sg 25) from MI_s hI 25).1; have := (show iv 0 1201 (sg 25) from MI_s hI 25).2; have := (hsx1_129).1; have := (hsx1_129).2; have := (hsx2_129).1; have := (hsx2_129).2; have := (hsx4_129).1; have := (hsx4_129).2; have := (hx3_103).1; have := (hx3_103).2; have := (hx3_129).1; have := (hx3_129).2; have := (h_4).1; have := (h_4).2; omega) ((by have q9 := hp129; rw [nx9_e (f := f75 gm_j129) (p := x3_129.toNatClampNeg) (by have q1 : x3_129.toNatClampNeg = x3_129.toInt.toNat := rfl; have := i32_0; have := i32_1; have := i32_2; have := i32_m1; have := (hsx1_129).1; have := (hsx1_129).2; have := (hsx2_129).1; have := (hsx2_129).2; have := (hsx4_129).1; have := (hsx4_129).2; have := (hx3_103).1; have := (hx3_103).2; have := (hx3_129).1; have := (hx3_129).2; have := (h_4).1; have := (h_4).2; omega) (Or.inr (by rw [f75_at (by have q1 : x3_129.toNatClampNeg = x3_129.toInt.toNat := rfl; have := i32_0; have := i32_1; have := i32_2; have := i32_m1; have := (hsx1_129).1; have := (hsx1_129).2; have := (hsx2_129).1; have := (hsx2_129).2; have := (hsx4_129).1; have := (hsx4_129).2; have := (hx3_103).1; have := (hx3_103).2; have := (hx3_129).1; have := (hx3_129).2; have := (h_4).1; have := (h_4).2; omega), ← ez_2]; have := i32_0; have := i32_1; have := i32_2; have := i32_m1; have := (hsx1_129).1; have := (hsx1_129).2; have := (hsx2_129).1; have := (hsx2_129).2; have := (hsx4_129).1; have := (hsx4_129).2; have := (hx3_103).1; have := (hx3_103).2; have := (hx3_129).1; have := (hx3_129).2; have := (h_4).1; have := (h_4).2; omega)), cln9 (u := x4_103) ((show iv 0 3 x4_103 from (iv_w hsx4_129 (by decide)))).1] at q9; rw [f75_u (show gm_5 75 = upd (gm_j129 75) (x3_129 : Int32).toNatClampNeg x4_103 from ((up_at egm_5).trans (by rw [show gm_j129 75 = gm_j129 75 from rfl]))) (by have q1 : x3_129.toNatClampNeg = x3_129.toInt.toNat := rfl; have := i32_0; have := i32_1; have := i32_2; have := i32_m1; have := (hsx1_129).1; have := (hsx1_129).2; have := (hsx2_129).1; have := (hsx2_129).2; have := (hsx4_129).1; have := (hsx4_129).2; have := (hx3_103).1; have := (hx3_103).2; have := (hx3_129).1; have := (hx3_129).2; have := (h_4).1; have := (h_4).2; omega)]; exact q9)) _ _ _ hP hD hS (lv_sub hl [0, 1, 2, 3, 4] rfl)
          · have h_6 : iv 0 3 z_2 := iv_neL c_3 hz_2 (by decide)
            have hpg : ∀ q9, 0 ≤ q9 → q9 < x3_129.toNatClampNeg + 1 → ¬ gm_j129 75 q9 = -1 := fun q9 h8 h9 => by { by_cases q7 : q9 = x3_129.toNatClampNeg; (subst q7; rw [← ez_2]; exact c_3); exact hpf q9 h8 (by omega) }
            have hp1 : iv 0 1 x3_129 := ⟨(hx3_129).1, by have q8 := cF_ge hpg 4 (by have := iv_cl hx3_129 (by decide); have := (hx3_129).2; omega); have := iv_cl hx3_129 (by decide); have := iv_cl hvnx (by decide); have := hvnx.2; omega⟩
            obtain ⟨z_7, ez_7⟩ : ∃ z : Int32, z = x3_129 + 1 := ⟨_, rfl⟩
            have hz_7 : iv 1 2 z_7 := iv_of ez_7 (iv_add hp1 (iv_k (by decide) : iv 1 1 1) (by decide))
            have tz_7 : z_7.toInt = x3_129.toInt + 1 := by rw [ez_7]; exact iv_addE hp1 (iv_k (by decide) : iv 1 1 1) (by decide)
            refine lv_iinc (v := z_7) (lv' := [(3, .int z_7), (4, .int x4_103), (0, .ref h0), (1, .int b), (2, .int nx)]) hx hb dX13_placed_139 hl (k := 1) rfl ez_7.symm (by decide) rfl (fun ls hl => ?_)
            refine lv_goto (tgt := 129) hx hb dX13_placed_142 (by decide) ?_
            exact ih129 _ (by rw [← hn129]; exact (iv_meas tz_7 hp1 (by decide))) gm_j129 z_7 rfl hsx4_129 (iv_w hz_7 (by decide)) hsx1_129 hsx2_129 (KS_tr (L := [75]) KS_rf hkg_j129 (by decide)) hI_j129 (hsp) (hcf) (all_s hp1 (by decide) tz_7 hpf (by rw [← ez_2]; exact c_3)) (hF) (hh0) (by have := i32_0; have := i32_1; have := i32_2; have := i32_m1; have := (show iv 0 1200 (sg 20) from MI_s hI 20).1; have := (show iv 0 1200 (sg 20) from MI_s hI 20).2; have := (show iv 0 1201 (sg 21) from MI_s hI 21).1; have := (show iv 0 1201 (sg 21) from MI_s hI 21).2; have := (show iv 0 3 (sg 22) from MI_s hI 22).1; have := (show iv 0 3 (sg 22) from MI_s hI 22).2; have := (show iv 0 80 (sg 24) from MI_s hI 24).1; have := (show iv 0 80 (sg 24) from MI_s hI 24).2; have := (show iv 0 1201 (sg 25) from MI_s hI 25).1; have := (show iv 0 1201 (sg 25) from MI_s hI 25).2; have := (hsx1_129).1; have := (hsx1_129).2; have := (hsx2_129).1; have := (hsx2_129).2; have := (hsx4_129).1; have := (hsx4_129).2; have := (hx3_103).1; have := (hx3_103).2; have := (hp1).1; have := (hp1).2; have := (h_6).1; have := (h_6).2; have := (hz_7).1; have := (hz_7).2; omega) ((by rw [show z_7.toNatClampNeg = x3_129.toNatClampNeg + 1 from (by have q1 : z_7.toNatClampNeg = z_7.toInt.toNat := rfl; have q1 : x3_129.toNatClampNeg = x3_129.toInt.toNat := rfl; have := i32_0; have := i32_1; have := i32_2; have := i32_m1; have := (hsx1_129).1; have := (hsx1_129).2; have := (hsx2_129).1; have := (hsx2_129).2; have := (hsx4_129).1; have := (hsx4_129).2; have := (hx3_103).1; have := (hx3_103).2; have := (hp1).1; have := (hp1).2; have := (h_6).1; have := (h_6).2; have := (hz_7).1; have := (hz_7).2; omega), ← nx9_s (f := f75 gm_j129) (p := x3_129.toNatClampNeg) (by have q1 : x3_129.toNatClampNeg = x3_129.toInt.toNat := rfl; have := i32_0; have := i32_1; have := i32_2; have := i32_m1; have := (hsx1_129).1; have := (hsx1_129).2; have := (hsx2_129).1; have := (hsx2_129).2; have := (hsx4_129).1; have := (hsx4_129).2; have := (hx3_103).1; have := (hx3_103).2; have := (hp1).1; have := (hp1).2; have := (h_6).1; have := (h_6).2; have := (hz_7).1; have := (hz_7).2; omega) (by rw [f75_at (by have q1 : x3_129.toNatClampNeg = x3_129.toInt.toNat := rfl; have := i32_0; have := i32_1; have := i32_2; have := i32_m1; have := (hsx1_129).1; have := (hsx1_129).2; have := (hsx2_129).1; have := (hsx2_129).2; have := (hsx4_129).1; have := (hsx4_129).2; have := (hx3_103).1; have := (hx3_103).2; have := (hp1).1; have := (hp1).2; have := (h_6).1; have := (h_6).2; have := (hz_7).1; have := (hz_7).2; omega), ← ez_2]; exact fun q => c_3 (Int32.toInt_inj.mp q))]; exact hp129)) _ _ _ hP hD hS (lv_sub hl [1, 0, 2, 3, 4] rfl)
      refine lv_iload hx hb dX13_placed_103 (lv_at hl 0 rfl) ?_
      refine lv_iload_n hx hb dX13_placed_105 rfl (lv_at hl 4 rfl) ?_
      refine lv_icmp_ge (tgt := 159) hx hb dX13_placed_106 (by decide) (fun c_8 => ?_) (fun c_8 => ?_)
      · have d_9 : (nx : Int32).toInt ≤ (x4_103 : Int32).toInt := Int32.le_iff_toInt_le.mp c_8
        refine lv_iconst (v := 1) hx hb dX13_placed_159 (by decide) ?_
        exact W.zret (v := 1) hx hb hr (iv_nb (iv_w (iv_k (by decide) : iv 1 1 1) (by decide))) (fun t ht hW => ⟨⟨1, (sg, gm_j103, lg), rfl, ⟨sg, gm_j103, lg, rfl, hI_j103, KS_rf, (KS_tr (L := [75]) KS_rf hkg_j103 (by decide)), KS_rf, (iv_w (iv_k (by decide) : iv 1 1 1) (by decide)), (Or.inr (SPo_full (by have := iv_cl hvnx (by decide); have := hvnx.2; omega) hsp (by have q9 : x4_103.toNatClampNeg = nx.toNatClampNeg := (by have := le_cl hx4_103 hvnx (by decide) (by decide) hl4; have := le_cl hvnx hx4_103 (by decide) (by decide) (by have := i32_0; have := i32_1; have := i32_2; have := i32_m1; have := (hsx1_103).1; have := (hsx1_103).2; have := (hsx2_103).1; have := (hsx2_103).2; have := (hx4_103).1; have := (hx4_103).2; have := (hx3_103).1; have := (hx3_103).2; omega); omega); rw [q9] at hcf; omega))), (Or.inr ⟨rfl, (by have q9 := hp103; rw [List.drop_eq_nil_of_le (by have := (show ((atL wg b.toNatClampNeg).length : Int) = nx.toInt from (by rw [atL_l, hnx]; have q2 : (wg 41 (3 * b.toNatClampNeg)).toNatClampNeg = (wg 41 (3 * b.toNatClampNeg)).toInt.toNat := rfl; have := (BR_a hBR hRW hRS hvb hbl).2.1; omega)); have q1 : x4_103.toNatClampNeg = x4_103.toInt.toNat := rfl; have := i32_0; have := i32_1; have := i32_2; have := i32_m1; have := (hsx1_103).1; have := (hsx1_103).2; have := (hsx2_103).1; have := (hsx2_103).2; have := (hx4_103).1; have := (hx4_103).2; have := (hx3_103).1; have := (hx3_103).2; omega)] at q9; exact q9)⟩)⟩, by rw [ht]; exact hP, va_K.moved hW.alike hK, hD⟩, hS.F ht⟩) hS.2.2 dX13_placed_160
      · have d_10 : (x4_103 : Int32).toInt < (nx : Int32).toInt := Int32.lt_iff_toInt_lt.mp (i32_lt c_8)
        have h_11 : iv 0 2 x4_103 := iv_ltL (i32_lt c_8) hx4_103 hsx2_103 (by decide)
        have h_12 : iv 1 3 nx := iv_ltR (i32_lt c_8) hx4_103 hsx2_103 (by decide)
        refine lv_aload_n hx hb dX13_placed_109 rfl (lv_at hl 2 rfl) ?_
        refine lv_aload_n hx hb dX13_placed_110 rfl (lv_at hl 2 rfl) ?_
        refine lv_iload_n hx hb dX13_placed_111 rfl (lv_at hl 3 rfl) ?_
        refine lv_iload hx hb dX13_placed_112 (lv_at hl 0 rfl) ?_
        refine mr_calli (rest := [.ref h0]) ⟨hx, hb, hml, hown, htb⟩ (f_arg l dC dI h0 ad cid sg gm_j103 lg b x4_103 hI_j103 hsx1_103 (iv_w h_11 (by decide)) (by have := i32_0; have := i32_1; have := i32_2; have := i32_m1; have := (show iv 0 80 (sg 41) from MI_s hI 41).1; have := (show iv 0 80 (sg 41) from MI_s hI 41).2; have := (hsx1_103).1; have := (hsx1_103).2; have := (h_12).1; have := (h_12).2; have := (h_11).1; have := (h_11).2; have := (hx3_103).1; have := (hx3_103).2; omega) (ACY_k (DK_of (show KS [] sg sg from KS_rf) (show KS [75] gm gm_j103 from (KS_tr (L := [75]) KS_rf hkg_j103 (by decide))) (show KS [] lg lg from KS_rf) (by decide) (by decide) (by decide)) hac)) (cwV 2 htb (gd_V kw_1257 kw_1258 kw_117 kw_160 kw_1627) rfl rfl rfl (by decide +kernel) ⟨Nat.le_of_ble_eq_true rfl, Nat.le_of_ble_eq_true rfl⟩) rfl hl.1 rfl (Nat.le_of_ble_eq_true rfl) dX13_placed_114 ⟨Nat.zero_le _, Nat.zero_le _⟩ hK hP hD hS hA (fun r_13 u_14 H locs hw hP hD hS => ?_)
        obtain ⟨hr_13, fR_r_13, rfl⟩ := hw
        have hP : va_P (dC, dI) vwCl (mW h0 ad cid sg gm_j103 lg) H := hP
        have hD : va_D A (mW h0 ad cid sg gm_j103 lg) := hD
        have hla := lt_cl h_11 hvnx (by decide) (by decide) (by have := i32_0; have := i32_1; have := i32_2; have := i32_m1; have := (hsx1_103).1; have := (hsx1_103).2; have := (h_12).1; have := (h_12).2; have := (h_11).1; have := (h_11).2; have := (hx3_103).1; have := (hx3_103).2; have := (hr_13).1; have := (hr_13).2; omega)
        have hbR := (fR_r_13.trans (mArg_k (DK_of (show KS [] sg sg from KS_rf) (show KS [75] gm gm_j103 from (KS_tr (L := [75]) KS_rf hkg_j103 (by decide))) (show KS [] lg lg from KS_rf) (by decide) (by decide) (by decide)) _ _))
        obtain ⟨hr33, hr34, hr35⟩ := arg_el (show iv 0 80 (sg 24) from MI_s hI 24) hbR (han _ (Nat.zero_le _) hla)
        have hel9 : (wg 57 (128 * (3 * b.toNatClampNeg) + x4_103.toNatClampNeg)).toNatClampNeg = r_13.toNatClampNeg := (by rw [← ((BR_a hBR hRW hRS hvb hbl).2.2.2 _ (show x4_103.toNatClampNeg < (wg 41 (3 * b.toNatClampNeg)).toNatClampNeg from (by have q2 : (wg 41 (3 * b.toNatClampNeg)).toNatClampNeg = (wg 41 (3 * b.toNatClampNeg)).toInt.toNat := rfl; have q1 : x4_103.toNatClampNeg = x4_103.toInt.toNat := rfl; have := hnx; have := i32_0; have := i32_1; have := i32_2; have := i32_m1; have := (hsx1_103).1; have := (hsx1_103).2; have := (h_12).1; have := (h_12).2; have := (h_11).1; have := (h_11).2; have := (hx3_103).1; have := (hx3_103).2; have := (hr33).1; have := (hr33).2; omega))).1, ← hbR])
        have hat9 : (mHas gm lg r_13.toNatClampNeg 24948 = 0 → (wg 23 r_13.toNatClampNeg).toInt = -1) ∧ (¬ mHas gm lg r_13.toNatClampNeg 24948 = 0 → ((mWord gm lg r_13.toNatClampNeg 24948).toInt32 - 48).toInt = (wg 23 r_13.toNatClampNeg).toInt ∧ 0 ≤ (wg 23 r_13.toNatClampNeg).toInt) := (by have q5 := BR_at hRW hRS ((BR_a hBR hRW hRS hvb hbl).2.2.2 _ (show x4_103.toNatClampNeg < (wg 41 (3 * b.toNatClampNeg)).toNatClampNeg from (by have q2 : (wg 41 (3 * b.toNatClampNeg)).toNatClampNeg = (wg 41 (3 * b.toNatClampNeg)).toInt.toNat := rfl; have q1 : x4_103.toNatClampNeg = x4_103.toInt.toNat := rfl; have := hnx; have := i32_0; have := i32_1; have := i32_2; have := i32_m1; have := (hsx1_103).1; have := (hsx1_103).2; have := (h_12).1; have := (h_12).2; have := (h_11).1; have := (h_11).2; have := (hx3_103).1; have := (hx3_103).2; have := (hr33).1; have := (hr33).2; omega))).2.2; rw [hel9] at q5; exact ⟨q5.1, q5.2.1⟩)
        refine lv_ldc2 (own := RX13) (v := 24948) hx hb hown (htb _ kw_1191) dX13_placed_117 ?_
        refine mr_calli (rest := []) ⟨hx, hb, hml, hown, htb⟩ (f_has l dC dI h0 ad cid sg gm_j103 lg r_13 24948 hI_j103 hr33) (cwV 2 htb (gd_V kw_1197 kw_1198 kw_94 kw_160 kw_1601) rfl rfl rfl (by decide +kernel) ⟨Nat.le_of_ble_eq_true rfl, Nat.le_of_ble_eq_true rfl⟩) rfl hl.1 rfl (Nat.le_of_ble_eq_true rfl) dX13_placed_120 ⟨Nat.zero_le _, Nat.zero_le _⟩ hK hP hD hS hA (fun r_15 u_16 H locs hw hP hD hS => ?_)
        obtain ⟨hr_15, fH_r_15, rfl⟩ := hw
        have hP : va_P (dC, dI) vwCl (mW h0 ad cid sg gm_j103 lg) H := hP
        have hD : va_D A (mW h0 ad cid sg gm_j103 lg) := hD
        have hbH := fH_r_15.trans (mHas_k (DK_of (show KS [] sg sg from KS_rf) (show KS [75] gm gm_j103 from (KS_tr (L := [75]) KS_rf hkg_j103 (by decide))) (show KS [] lg lg from KS_rf) (by decide) (by decide) (by decide)).1 _ _)
        refine lv_if_eq (tgt := 129) hx hb dX13_placed_123 (by decide) (fun c_17 => ?_) (fun c_17 => ?_)
        · have h_18 : iv 0 0 r_15 := iv_eq c_17 hr_15 (iv_k (by decide) : iv 0 0 0) (by decide)
          have hh0 : mHas gm lg (mArg sg gm lg b x4_103.toNatClampNeg).toNatClampNeg 24948 = 0 := (by rw [← hbR, ← hbH]; exact c_17)
          have hF : cF (gm_j103 75) 4 + 1 ≤ nx.toNatClampNeg := by have q8 := nAt_le (sg := sg) (gm := gm) (lg := lg) (b := b) (x4_103.toNatClampNeg + 1) nx.toNatClampNeg (by omega); rw [nAt_n hh0] at q8; omega
          have hp2 : iv 0 2 x3_103 := ⟨(hx3_103).1, by have q8 := cF_ge hpf 4 (by have := iv_cl hx3_103 (by decide); have := (hx3_103).2; omega); have := iv_cl hx3_103 (by decide); have := iv_cl hvnx (by decide); have := hvnx.2; omega⟩
          exact hj129 _ gm_j103 x3_103 rfl h_11 hp2 hsx1_103 h_12 (KS_tr (L := [75]) KS_rf hkg_j103 (by decide)) hI_j103 (hsp) (hcf) (hpf) (hF) (hh0) (by have := i32_0; have := i32_1; have := i32_2; have := i32_m1; have := (show iv 0 1200 (sg 20) from MI_s hI 20).1; have := (show iv 0 1200 (sg 20) from MI_s hI 20).2; have := (show iv 0 1201 (sg 21) from MI_s hI 21).1; have := (show iv 0 1201 (sg 21) from MI_s hI 21).2; have := (show iv 0 3 (sg 22) from MI_s hI 22).1; have := (show iv 0 3 (sg 22) from MI_s hI 22).2; have := (show iv 0 80 (sg 24) from MI_s hI 24).1; have := (show iv 0 80 (sg 24) from MI_s hI 24).2; have := (show iv 0 1201 (sg 25) from MI_s hI 25).1; have := (show iv 0 1201 (sg 25) from MI_s hI 25).2; have := (hsx1_103).1; have := (hsx1_103).2; have := (h_12).1; have := (h_12).2; have := (h_11).1; have := (h_11).2; have := (hp2).1; have := (hp2).2; have := (hr33).1; have := (hr33).2; have := (h_18).1; have := (h_18).2; omega) ((by have q9 := hp103; rw [atL_x (show x4_103.toNatClampNeg < (wg 41 (3 * b.toNatClampNeg)).toNatClampNeg from (by have q2 : (wg 41 (3 * b.toNatClampNeg)).toNatClampNeg = (wg 41 (3 * b.toNatClampNeg)).toInt.toNat := rfl; have q1 : x4_103.toNatClampNeg = x4_103.toInt.toNat := rfl; have := hnx; have := i32_0; have := i32_1; have := i32_2; have := i32_m1; have := (hsx1_103).1; have := (hsx1_103).2; have := (h_12).1; have := (h_12).2; have := (h_11).1; have := (h_11).2; have := (hp2).1; have := (hp2).2; have := (hr33).1; have := (hr33).2; have := (h_18).1; have := (h_18).2; omega)) hel9, pl2_s (hat9.1 (by rw [← hbH]; exact c_17))] at q9; exact q9)) _ _ _ hP hD hS (lv_sub hl [0, 1, 2, 3, 4] rfl)
        · have h_19 : iv 1 1 r_15 := iv_neL c_17 hr_15 (by decide)
          refine lv_goto (tgt := 153) hx hb dX13_placed_126 (by decide) ?_
          exact hj153 gm_j103 x3_103 h_11 hx3_103 hsx1_103 h_12 (KS_tr (L := [75]) KS_rf hkg_j103 (by decide)) hI_j103 (hsp) (by rw [nAt_y (by rw [← hbR, ← hbH]; exact c_17)]; omega) (hpf) (by have := i32_0; have := i32_1; have := i32_2; have := i32_m1; have := (show iv 0 1200 (sg 20) from MI_s hI 20).1; have := (show iv 0 1200 (sg 20) from MI_s hI 20).2; have := (show iv 0 1201 (sg 21) from MI_s hI 21).1; have := (show iv 0 1201 (sg 21) from MI_s hI 21).2; have := (show iv 0 3 (sg 22) from MI_s hI 22).1; have := (show iv 0 3 (sg 22) from MI_s hI 22).2; have := (show iv 0 80 (sg 24) from MI_s hI 24).1; have := (show iv 0 80 (sg 24) from MI_s hI 24).2; have := (show iv 0 1201 (sg 25) from MI_s hI 25).1; have := (show iv 0 1201 (sg 25) from MI_s hI 25).2; have := (hsx1_103).1; have := (hsx1_103).2; have := (h_12).1; have := (h_12).2; have := (h_11).1; have := (h_11).2; have := (hx3_103).1; have := (hx3_103).2; have := (hr33).1; have := (hr33).2; have := (h_19).1; have := (h_19).2; omega) ((by have q9 := hp103; rw [atL_x (show x4_103.toNatClampNeg < (wg 41 (3 * b.toNatClampNeg)).toNatClampNeg from (by have q2 : (wg 41 (3 * b.toNatClampNeg)).toNatClampNeg = (wg 41 (3 * b.toNatClampNeg)).toInt.toNat := rfl; have q1 : x4_103.toNatClampNeg = x4_103.toInt.toNat := rfl; have := hnx; have := i32_0; have := i32_1; have := i32_2; have := i32_m1; have := (hsx1_103).1; have := (hsx1_103).2; have := (h_12).1; have := (h_12).2; have := (h_11).1; have := (h_11).2; have := (hx3_103).1; have := (hx3_103).2; have := (hr33).1; have := (hr33).2; have := (h_19).1; have := (h_19).2; omega)) hel9, pl2_o (by have q4 := (hat9.2 (by rw [← hbH]; exact c_17)).2; omega)] at q9; exact q9)) _ _ _ hP hD hS (lv_sub hl [0, 1, 2, 3, 4] rfl)
  have hj82 : ∀ (gm_j82 : Nat → Nat → Int32) (x5_82 : Int32) (x4_82 : Int32) (x3_82 : Int32) (_ : iv 0 2 x5_82) (_ : iv 0 79 x4_82) (_ : iv 0 2 x3_82) (_ : iv 0 79 b) (_ : iv 1 3 nx) (_ : KS [75] gm gm_j82) (_ : MI sg gm_j82) (_ : plA (atL wg b.toNatClampNeg) = none) (H : Heap) (locs : List Loc) (ls : Array Slot), va_P (dC, dI) vwCl (mW h0 ad cid sg gm_j82 lg) H → va_D A (mW h0 ad cid sg gm_j82 lg) → va_S A s.heap H locs → lv_has ls 6 [(5, .int x5_82), (4, .int x4_82), (3, .int x3_82), (0, .ref h0), (1, .int b), (2, .int nx)] → W p l e (headSpec wm_X13_placed ({ frames := 6, cells := 0, slots := 0, locals := 142 })).room s m ([.ref h0, .int b, .int nx] : List Value).toArray below meth c H locs 0 0 (MQ below (va_Qi (fun r v => ∃ (sg2 : Nat → Int32) (gm2 : Nat → Nat → Int32) (lg2 : Nat → Nat → Int64), v = (sg2, gm2, lg2) ∧ MI sg2 gm2 ∧ KS [] sg sg2 ∧ KS [75] gm gm2 ∧ KS [] lg lg2 ∧ (iv 0 1 r) ∧ (r.toInt = 0 ∨ SPF (gm2 75) nx.toNatClampNeg) ∧ ((r.toInt = 0 ∧ plA (atL wg b.toNatClampNeg) = none) ∨ (r.toInt = 1 ∧ plA (atL wg b.toNatClampNeg) = some (f75 gm2)))) (MB dC dI h0 ad cid A) A) ([.ref h0, .int b, .int nx] : List Value).toArray s 0 0 A) (F0 m 82 ls []) := by
    intro gm_j82 x5_82 x4_82 x3_82 hx5_82 hx4_82 hx3_82 hsx1_82 hsx2_82 hkg_j82 hI_j82 u82 H locs ls hP hD hS hl
    refine lv_iconst (v := 0) hx hb dX13_placed_82 (by decide) ?_
    exact W.zret (v := 0) hx hb hr (iv_nb (iv_w (iv_k (by decide) : iv 0 0 0) (by decide))) (fun t ht hW => ⟨⟨0, (sg, gm_j82, lg), rfl, ⟨sg, gm_j82, lg, rfl, hI_j82, KS_rf, (KS_tr (L := [75]) KS_rf hkg_j82 (by decide)), KS_rf, (iv_w (iv_k (by decide) : iv 0 0 0) (by decide)), (Or.inl rfl), (Or.inl ⟨rfl, u82⟩)⟩, by rw [ht]; exact hP, va_K.moved hW.alike hK, hD⟩, hS.F ht⟩) hS.2.2 dX13_placed_83
  have hj22 : ∀ (n : Nat) (gm_j22 : Nat → Nat → Int32) (x3_22 : Int32) (_ : (3 - x3_22.toInt).toNat = n) (_ : iv 0 3 x3_22) (_ : iv 0 79 b) (_ : iv 0 3 nx) (_ : KS [75] gm gm_j22) (_ : MI sg gm_j22) (_ : SPo (gm_j22 75) nx.toNatClampNeg) (_ : cF (gm_j22 75) 4 = nAt sg gm lg b x3_22.toNatClampNeg) (_ : x3_22.toInt ≤ nx.toInt) (_ : pl1 ((atL wg b.toNatClampNeg).length : Int) (atL wg b.toNatClampNeg) 0 (fun _ => -1) = pl1 ((atL wg b.toNatClampNeg).length : Int) ((atL wg b.toNatClampNeg).drop x3_22.toNatClampNeg) x3_22.toNatClampNeg (f75 gm_j22)) (H : Heap) (locs : List Loc) (ls : Array Slot), va_P (dC, dI) vwCl (mW h0 ad cid sg gm_j22 lg) H → va_D A (mW h0 ad cid sg gm_j22 lg) → va_S A s.heap H locs → lv_has ls 6 [(3, .int x3_22), (0, .ref h0), (1, .int b), (2, .int nx)] → W p l e (headSpec wm_X13_placed ({ frames := 6, cells := 0, slots := 0, locals := 142 })).room s m ([.ref h0, .int b, .int nx] : List Value).toArray below meth c H locs 0 0 (MQ below (va_Qi (fun r v => ∃ (sg2 : Nat → Int32) (gm2 : Nat → Nat → Int32) (lg2 : Nat → Nat → Int64), v = (sg2, gm2, lg2) ∧ MI sg2 gm2 ∧ KS [] sg sg2 ∧ KS [75] gm gm2 ∧ KS [] lg lg2 ∧ (iv 0 1 r) ∧ (r.toInt = 0 ∨ SPF (gm2 75) nx.toNatClampNeg) ∧ ((r.toInt = 0 ∧ plA (atL wg b.toNatClampNeg) = none) ∨ (r.toInt = 1 ∧ plA (atL wg b.toNatClampNeg) = some (f75 gm2)))) (MB dC dI h0 ad cid A) A) ([.ref h0, .int b, .int nx] : List Value).toArray s 0 0 A) (F0 m 22 ls []) := by
    intro n
    induction n using Nat.strongRecOn with
    | ind n ih22 =>
      intro gm_j22 x3_22 hn22 hx3_22 hsx1_22 hsx2_22 hkg_j22 hI_j22 hsp hcf hln hq22 H locs ls hP hD hS hl
      have hj92 : ∀ (gm_j92 : Nat → Nat → Int32) (x4_92 : Int32) (_ : iv 0 79 x4_92) (_ : iv 0 2 x3_22) (_ : iv 0 79 b) (_ : iv 1 3 nx) (_ : KS [75] gm gm_j92) (_ : MI sg gm_j92) (_ : SPo (gm_j92 75) nx.toNatClampNeg) (_ : cF (gm_j92 75) 4 = nAt sg gm lg b (x3_22.toNatClampNeg + 1)) (_ : x3_22.toInt < nx.toInt) (_ : pl1 ((atL wg b.toNatClampNeg).length : Int) (atL wg b.toNatClampNeg) 0 (fun _ => -1) = pl1 ((atL wg b.toNatClampNeg).length : Int) ((atL wg b.toNatClampNeg).drop (x3_22.toNatClampNeg + 1)) (x3_22.toNatClampNeg + 1) (f75 gm_j92)) (H : Heap) (locs : List Loc) (ls : Array Slot), va_P (dC, dI) vwCl (mW h0 ad cid sg gm_j92 lg) H → va_D A (mW h0 ad cid sg gm_j92 lg) → va_S A s.heap H locs → lv_has ls 6 [(4, .int x4_92), (3, .int x3_22), (0, .ref h0), (1, .int b), (2, .int nx)] → W p l e (headSpec wm_X13_placed ({ frames := 6, cells := 0, slots := 0, locals := 142 })).room s m ([.ref h0, .int b, .int nx] : List Value).toArray below meth c H locs 0 0 (MQ below (va_Qi (fun r v => ∃ (sg2 : Nat → Int32) (gm2 : Nat → Nat → Int32) (lg2 : Nat → Nat → Int64), v = (sg2, gm2, lg2) ∧ MI sg2 gm2 ∧ KS [] sg sg2 ∧ KS [75] gm gm2 ∧ KS [] lg lg2 ∧ (iv 0 1 r) ∧ (r.toInt = 0 ∨ SPF (gm2 75) nx.toNatClampNeg) ∧ ((r.toInt = 0 ∧ plA (atL wg b.toNatClampNeg) = none) ∨ (r.toInt = 1 ∧ plA (atL wg b.toNatClampNeg) = some (f75 gm2)))) (MB dC dI h0 ad cid A) A) ([.ref h0, .int b, .int nx] : List Value).toArray s 0 0 A) (F0 m 92 ls []) := by
        intro gm_j92 x4_92 hx4_92 hsx3_92 hsx1_92 hsx2_92 hkg_j92 hI_j92 hsp hcf hl1 hq92 H locs ls hP hD hS hl
        obtain ⟨z_20, ez_20⟩ : ∃ z : Int32, z = x3_22 + 1 := ⟨_, rfl⟩
        have hz_20 : iv 1 3 z_20 := iv_of ez_20 (iv_add hsx3_92 (iv_k (by decide) : iv 1 1 1) (by decide))
        have tz_20 : z_20.toInt = x3_22.toInt + 1 := by rw [ez_20]; exact iv_addE hsx3_92 (iv_k (by decide) : iv 1 1 1) (by decide)
        refine lv_iinc (v := z_20) (lv' := [(3, .int z_20), (4, .int x4_92), (0, .ref h0), (1, .int b), (2, .int nx)]) hx hb dX13_placed_92 hl (k := 1) rfl ez_20.symm (by decide) rfl (fun ls hl => ?_)
        refine lv_goto (tgt := 22) hx hb dX13_placed_95 (by decide) ?_
        exact ih22 _ (by rw [← hn22]; exact (iv_meas tz_20 hsx3_92 (by decide))) gm_j92 z_20 rfl (iv_w hz_20 (by decide)) hsx1_92 (iv_w hsx2_92 (by decide)) (KS_tr (L := [75]) KS_rf hkg_j92 (by decide)) hI_j92 (hsp) (by rw [s_cl hsx3_92 (by decide) tz_20]; exact hcf) (by have := i32_0; have := i32_1; have := i32_2; have := i32_m1; have := (show iv 0 1200 (sg 20) from MI_s hI 20).1; have := (show iv 0 1200 (sg 20) from MI_s hI 20).2; have := (show iv 0 1201 (sg 21) from MI_s hI 21).1; have := (show iv 0 1201 (sg 21) from MI_s hI 21).2; have := (show iv 0 3 (sg 22) from MI_s hI 22).1; have := (show iv 0 3 (sg 22) from MI_s hI 22).2; have := (show iv 0 80 (sg 24) from MI_s hI 24).1; have := (show iv 0 80 (sg 24) from MI_s hI 24).2; have := (show iv 0 1201 (sg 25) from MI_s hI 25).1; have := (show iv 0 1201 (sg 25) from MI_s hI 25).2; have := (hsx1_92).1; have := (hsx1_92).2; have := (hsx2_92).1; have := (hsx2_92).2; have := (hsx3_92).1; have := (hsx3_92).2; have := (hx4_92).1; have := (hx4_92).2; have := (hz_20).1; have := (hz_20).2; omega) ((by rw [show z_20.toNatClampNeg = x3_22.toNatClampNeg + 1 from (by have q1 : z_20.toNatClampNeg = z_20.toInt.toNat := rfl; have q1 : x3_22.toNatClampNeg = x3_22.toInt.toNat := rfl; have := i32_0; have := i32_1; have := i32_2; have := i32_m1; have := (hsx1_92).1; have := (hsx1_92).2; have := (hsx2_92).1; have := (hsx2_92).2; have := (hsx3_92).1; have := (hsx3_92).2; have := (hx4_92).1; have := (hx4_92).2; have := (hz_20).1; have := (hz_20).2; omega)]; exact hq92)) _ _ _ hP hD hS (lv_sub hl [0, 2, 3, 4] rfl)
      refine lv_iload_n hx hb dX13_placed_22 rfl (lv_at hl 0 rfl) ?_
      refine lv_iload_n hx hb dX13_placed_23 rfl (lv_at hl 3 rfl) ?_
      refine lv_icmp_ge (tgt := 98) hx hb dX13_placed_24 (by decide) (fun c_21 => ?_) (fun c_21 => ?_)
      · have d_22 : (nx : Int32).toInt ≤ (x3_22 : Int32).toInt := Int32.le_iff_toInt_le.mp c_21
        refine lv_iconst (v := 0) hx hb dX13_placed_98 (by decide) ?_
        refine lv_istore_n (lv' := [(3, .int 0), (0, .ref h0), (1, .int b), (2, .int nx)]) hx hb dX13_placed_99 rfl hl (by decide) rfl (fun ls hl => ?_)
        refine lv_iconst (v := 0) hx hb dX13_placed_100 (by decide) ?_
        refine lv_istore (lv' := [(4, .int 0), (3, .int 0), (0, .ref h0), (1, .int b), (2, .int nx)]) hx hb dX13_placed_101 hl (by decide) rfl (fun ls hl => ?_)
        exact hj103 _ gm_j22 0 0 rfl (iv_w (iv_k (by decide) : iv 0 0 0) (by decide)) (iv_w (iv_k (by decide) : iv 0 0 0) (by decide)) hsx1_22 hsx2_22 (KS_tr (L := [75]) KS_rf hkg_j22 (by decide)) hI_j22 (hsp) (by have q9 : x3_22.toNatClampNeg = nx.toNatClampNeg := (by have := le_cl hx3_22 hvnx (by decide) (by decide) hln; have := le_cl hvnx hx3_22 (by decide) (by decide) (by have := i32_0; have := i32_1; have := i32_2; have := i32_m1; have := (hsx1_22).1; have := (hsx1_22).2; have := (hsx2_22).1; have := (hsx2_22).2; have := (hx3_22).1; have := (hx3_22).2; omega); omega); rw [hcf, q9]; rfl) (fun q9 _ h9 => absurd h9 (Nat.not_lt_zero _)) (by have := i32_0; have := i32_1; have := i32_2; have := i32_m1; have := (show iv 0 1200 (sg 20) from MI_s hI 20).1; have := (show iv 0 1200 (sg 20) from MI_s hI 20).2; have := (show iv 0 1201 (sg 21) from MI_s hI 21).1; have := (show iv 0 1201 (sg 21) from MI_s hI 21).2; have := (show iv 0 3 (sg 22) from MI_s hI 22).1; have := (show iv 0 3 (sg 22) from MI_s hI 22).2; have := (show iv 0 80 (sg 24) from MI_s hI 24).1; have := (show iv 0 80 (sg 24) from MI_s hI 24).2; have := (show iv 0 1201 (sg 25) from MI_s hI 25).1; have := (show iv 0 1201 (sg 25) from MI_s hI 25).2; have := (hsx1_22).1; have := (hsx1_22).2; have := (hsx2_22).1; have := (hsx2_22).2; have := (hx3_22).1; have := (hx3_22).2; omega) ((by have q9 := hq22; rw [List.drop_eq_nil_of_le (by have := (show ((atL wg b.toNatClampNeg).length : Int) = nx.toInt from (by rw [atL_l, hnx]; have q2 : (wg 41 (3 * b.toNatClampNeg)).toNatClampNeg = (wg 41 (3 * b.toNatClampNeg)).toInt.toNat := rfl; have := (BR_a hBR hRW hRS hvb hbl).2.1; omega)); have q1 : x3_22.toNatClampNeg = x3_22.toInt.toNat := rfl; have := i32_0; have := i32_1; have := i32_2; have := i32_m1; have := (hsx1_22).1; have := (hsx1_22).2; have := (hsx2_22).1; have := (hsx2_22).2; have := (hx3_22).1; have := (hx3_22).2; omega)] at q9; exact plA_s (by have := (show ((atL wg b.toNatClampNeg).length : Int) = nx.toInt from (by rw [atL_l, hnx]; have q2 : (wg 41 (3 * b.toNatClampNeg)).toNatClampNeg = (wg 41 (3 * b.toNatClampNeg)).toInt.toNat := rfl; have := (BR_a hBR hRW hRS hvb hbl).2.1; omega)); have := i32_0; have := i32_1; have := i32_2; have := i32_m1; have := (hsx1_22).1; have := (hsx1_22).2; have := (hsx2_22).1; have := (hsx2_22).2; have := (hx3_22).1; have := (hx3_22).2; omega) q9)) _ _ _ hP hD hS (lv_sub hl [0, 1, 2, 3, 4] rfl)
      · have d_23 : (x3_22 : Int32).toInt < (nx : Int32).toInt := Int32.lt_iff_toInt_lt.mp (i32_lt c_21)
        have h_24 : iv 0 2 x3_22 := iv_ltL (i32_lt c_21) hx3_22 hsx2_22 (by decide)
        have h_25 : iv 1 3 nx := iv_ltR (i32_lt c_21) hx3_22 hsx2_22 (by decide)
        refine lv_aload_n hx hb dX13_placed_27 rfl (lv_at hl 1 rfl) ?_
        refine lv_iload_n hx hb dX13_placed_28 rfl (lv_at hl 2 rfl) ?_
        refine lv_iload_n hx hb dX13_placed_29 rfl (lv_at hl 0 rfl) ?_
        refine mr_calli (rest := []) ⟨hx, hb, hml, hown, htb⟩ (f_arg l dC dI h0 ad cid sg gm_j22 lg b x3_22 hI_j22 hsx1_22 (iv_w h_24 (by decide)) (by have := i32_0; have := i32_1; have := i32_2; have := i32_m1; have := (show iv 0 80 (sg 41) from MI_s hI 41).1; have := (show iv 0 80 (sg 41) from MI_s hI 41).2; have := (hsx1_22).1; have := (hsx1_22).2; have := (h_25).1; have := (h_25).2; have := (h_24).1; have := (h_24).2; omega) (ACY_k (DK_of (show KS [] sg sg from KS_rf) (show KS [75] gm gm_j22 from (KS_tr (L := [75]) KS_rf hkg_j22 (by decide))) (show KS [] lg lg from KS_rf) (by decide) (by decide) (by decide)) hac)) (cwV 2 htb (gd_V kw_1257 kw_1258 kw_117 kw_160 kw_1627) rfl rfl rfl (by decide +kernel) ⟨Nat.le_of_ble_eq_true rfl, Nat.le_of_ble_eq_true rfl⟩) rfl hl.1 rfl (Nat.le_of_ble_eq_true rfl) dX13_placed_30 ⟨Nat.zero_le _, Nat.zero_le _⟩ hK hP hD hS hA (fun r_26 u_27 H locs hw hP hD hS => ?_)
        obtain ⟨hr_26, fR_r_26, rfl⟩ := hw
        have hP : va_P (dC, dI) vwCl (mW h0 ad cid sg gm_j22 lg) H := hP
        have hD : va_D A (mW h0 ad cid sg gm_j22 lg) := hD
        have hla := lt_cl h_24 hvnx (by decide) (by decide) (by have := i32_0; have := i32_1; have := i32_2; have := i32_m1; have := (hsx1_22).1; have := (hsx1_22).2; have := (h_25).1; have := (h_25).2; have := (h_24).1; have := (h_24).2; have := (hr_26).1; have := (hr_26).2; omega)
        have hbR := (fR_r_26.trans (mArg_k (DK_of (show KS [] sg sg from KS_rf) (show KS [75] gm gm_j22 from (KS_tr (L := [75]) KS_rf hkg_j22 (by decide))) (show KS [] lg lg from KS_rf) (by decide) (by decide) (by decide)) _ _))
        obtain ⟨hr33, hr34, hr35⟩ := arg_el (show iv 0 80 (sg 24) from MI_s hI 24) hbR (han _ (Nat.zero_le _) hla)
        have hel9 : (wg 57 (128 * (3 * b.toNatClampNeg) + x3_22.toNatClampNeg)).toNatClampNeg = r_26.toNatClampNeg := (by rw [← ((BR_a hBR hRW hRS hvb hbl).2.2.2 _ (show x3_22.toNatClampNeg < (wg 41 (3 * b.toNatClampNeg)).toNatClampNeg from (by have q2 : (wg 41 (3 * b.toNatClampNeg)).toNatClampNeg = (wg 41 (3 * b.toNatClampNeg)).toInt.toNat := rfl; have q1 : x3_22.toNatClampNeg = x3_22.toInt.toNat := rfl; have := hnx; have := i32_0; have := i32_1; have := i32_2; have := i32_m1; have := (hsx1_22).1; have := (hsx1_22).2; have := (h_25).1; have := (h_25).2; have := (h_24).1; have := (h_24).2; have := (hr33).1; have := (hr33).2; omega))).1, ← hbR])
        have hat9 : (mHas gm lg r_26.toNatClampNeg 24948 = 0 → (wg 23 r_26.toNatClampNeg).toInt = -1) ∧ (¬ mHas gm lg r_26.toNatClampNeg 24948 = 0 → ((mWord gm lg r_26.toNatClampNeg 24948).toInt32 - 48).toInt = (wg 23 r_26.toNatClampNeg).toInt ∧ 0 ≤ (wg 23 r_26.toNatClampNeg).toInt) := (by have q5 := BR_at hRW hRS ((BR_a hBR hRW hRS hvb hbl).2.2.2 _ (show x3_22.toNatClampNeg < (wg 41 (3 * b.toNatClampNeg)).toNatClampNeg from (by have q2 : (wg 41 (3 * b.toNatClampNeg)).toNatClampNeg = (wg 41 (3 * b.toNatClampNeg)).toInt.toNat := rfl; have q1 : x3_22.toNatClampNeg = x3_22.toInt.toNat := rfl; have := hnx; have := i32_0; have := i32_1; have := i32_2; have := i32_m1; have := (hsx1_22).1; have := (hsx1_22).2; have := (h_25).1; have := (h_25).2; have := (h_24).1; have := (h_24).2; have := (hr33).1; have := (hr33).2; omega))).2.2; rw [hel9] at q5; exact ⟨q5.1, q5.2.1⟩)
        refine lv_istore (lv' := [(4, .int r_26), (3, .int x3_22), (0, .ref h0), (1, .int b), (2, .int nx)]) hx hb dX13_placed_33 hl (by decide) rfl (fun ls hl => ?_)
        refine lv_aload_n hx hb dX13_placed_35 rfl (lv_at hl 2 rfl) ?_
        refine lv_iload hx hb dX13_placed_36 (lv_at hl 0 rfl) ?_
        refine lv_ldc2 (own := RX13) (v := 24948) hx hb hown (htb _ kw_1191) dX13_placed_38 ?_
        refine mr_calli (rest := []) ⟨hx, hb, hml, hown, htb⟩ (f_has l dC dI h0 ad cid sg gm_j22 lg r_26 24948 hI_j22 hr33) (cwV 2 htb (gd_V kw_1197 kw_1198 kw_94 kw_160 kw_1601) rfl rfl rfl (by decide +kernel) ⟨Nat.le_of_ble_eq_true rfl, Nat.le_of_ble_eq_true rfl⟩) rfl hl.1 rfl (Nat.le_of_ble_eq_true rfl) dX13_placed_41 ⟨Nat.zero_le _, Nat.zero_le _⟩ hK hP hD hS hA (fun r_28 u_29 H locs hw hP hD hS => ?_)
        obtain ⟨hr_28, fH_r_28, rfl⟩ := hw
        have hP : va_P (dC, dI) vwCl (mW h0 ad cid sg gm_j22 lg) H := hP
        have hD : va_D A (mW h0 ad cid sg gm_j22 lg) := hD
        have hbH := fH_r_28.trans (mHas_k (DK_of (show KS [] sg sg from KS_rf) (show KS [75] gm gm_j22 from (KS_tr (L := [75]) KS_rf hkg_j22 (by decide))) (show KS [] lg lg from KS_rf) (by decide) (by decide) (by decide)).1 _ _)
        refine lv_if_ne (tgt := 50) hx hb dX13_placed_44 (by decide) (fun c_30 => ?_) (fun c_30 => ?_)
        · have h_31 : iv 1 1 r_28 := iv_neL c_30 hr_28 (by decide)
          refine lv_aload_n hx hb dX13_placed_50 rfl (lv_at hl 2 rfl) ?_
          refine lv_iload hx hb dX13_placed_51 (lv_at hl 0 rfl) ?_
          refine lv_ldc2 (own := RX13) (v := 24948) hx hb hown (htb _ kw_1191) dX13_placed_53 ?_
          refine mr_calll (rest := []) ⟨hx, hb, hml, hown, htb⟩ (f_word l dC dI h0 ad cid sg gm_j22 lg r_26 24948 hI_j22 hr33) (cwV 2 htb (gd_V kw_1201 kw_1202 kw_96 kw_160 kw_1603) rfl rfl rfl (by decide +kernel) ⟨Nat.le_of_ble_eq_true rfl, Nat.le_of_ble_eq_true rfl⟩) rfl hl.1 rfl (Nat.le_of_ble_eq_true rfl) dX13_placed_56 ⟨Nat.zero_le _, Nat.zero_le _⟩ hK hP hD hS hA (fun r_32 u_33 H locs hw hP hD hS => ?_)
          obtain ⟨fW_r_32, rfl⟩ := hw
          have hP : va_P (dC, dI) vwCl (mW h0 ad cid sg gm_j22 lg) H := hP
          have hD : va_D A (mW h0 ad cid sg gm_j22 lg) := hD
          have hbW := fW_r_32.trans (mWord_k (DK_of (show KS [] sg sg from KS_rf) (show KS [75] gm gm_j22 from (KS_tr (L := [75]) KS_rf hkg_j22 (by decide))) (show KS [] lg lg from KS_rf) (by decide) (by decide) (by decide)).1 _ _)
          have hbW := fW_r_32.trans (mWord_k (DK_of (show KS [] sg sg from KS_rf) (show KS [75] gm gm_j22 from (KS_tr (L := [75]) KS_rf hkg_j22 (by decide))) (show KS [] lg lg from KS_rf) (by decide) (by decide) (by decide)).1 _ _)
          refine lv_l2i (v := (r_32).toInt32) hx hb dX13_placed_59 rfl ?_
          refine lv_topi (fun z_34 ez_34 => ?_)
          refine lv_bipush (v := 48) hx hb dX13_placed_60 (by decide) ?_
          refine lv_isub hx hb dX13_placed_62 ?_
          refine lv_topi (fun z_35 ez_35 => ?_)
          have hhn := (by rw [← mHas_k (DK_of (show KS [] sg sg from KS_rf) (show KS [75] gm gm_j22 from (KS_tr (L := [75]) KS_rf hkg_j22 (by decide))) (show KS [] lg lg from KS_rf) (by decide) (by decide) (by decide)).1, ← fH_r_28]; exact c_30 : ¬ mHas gm lg r_26.toNatClampNeg 24948 = 0)
          have h63 := at_iv (arg_at hst hr34 hr35 hhn) (show z_34 = (mWord gm lg r_26.toNatClampNeg 24948).toInt32 from by rw [← mWord_k (DK_of (show KS [] sg sg from KS_rf) (show KS [75] gm gm_j22 from (KS_tr (L := [75]) KS_rf hkg_j22 (by decide))) (show KS [] lg lg from KS_rf) (by decide) (by decide) (by decide)).1, ← fW_r_32]; exact ez_34) ez_35
          refine lv_istore (lv' := [(5, .int z_35), (4, .int r_26), (3, .int x3_22), (0, .ref h0), (1, .int b), (2, .int nx)]) hx hb dX13_placed_63 hl (by decide) rfl (fun ls hl => ?_)
          have hpz : z_35.toInt = (wg 23 r_26.toNatClampNeg).toInt := (by have q4 := (hat9.2 (by rw [← hbH]; exact c_30)).1; rw [← hbW, ← ez_34] at q4; rw [← q4, ez_35])
          refine lv_iload hx hb dX13_placed_65 (lv_at hl 0 rfl) ?_
          refine lv_iload_n hx hb dX13_placed_67 rfl (lv_at hl 5 rfl) ?_
          refine lv_icmp_ge (tgt := 82) hx hb dX13_placed_68 (by decide) (fun c_36 => ?_) (fun c_36 => ?_)
          · have d_37 : (nx : Int32).toInt ≤ (z_35 : Int32).toInt := Int32.le_iff_toInt_le.mp c_36
            have h_38 : iv 1 2 nx := iv_leL c_36 h_25 h63 (by decide)
            have h_39 : iv 1 2 z_35 := iv_leR c_36 h_25 h63 (by decide)
            exact hj82 gm_j22 z_35 r_26 x3_22 (iv_w h_39 (by decide)) hr33 h_24 hsx1_22 (iv_w h_38 (by decide)) (KS_tr (L := [75]) KS_rf hkg_j22 (by decide)) hI_j22 ((by have q9 := hq22; rw [atL_x (show x3_22.toNatClampNeg < (wg 41 (3 * b.toNatClampNeg)).toNatClampNeg from (by have q2 : (wg 41 (3 * b.toNatClampNeg)).toNatClampNeg = (wg 41 (3 * b.toNatClampNeg)).toInt.toNat := rfl; have q1 : x3_22.toNatClampNeg = x3_22.toInt.toNat := rfl; have := hnx; have := i32_0; have := i32_1; have := i32_2; have := i32_m1; have := (hsx1_22).1; have := (hsx1_22).2; have := (h_38).1; have := (h_38).2; have := (h_24).1; have := (h_24).2; have := (hr33).1; have := (hr33).2; have := (h_31).1; have := (h_31).2; have := (h_39).1; have := (h_39).2; omega)) hel9, ← hpz, pl1_n (by have := i32_0; have := i32_1; have := i32_2; have := i32_m1; have := (hsx1_22).1; have := (hsx1_22).2; have := (h_38).1; have := (h_38).2; have := (h_24).1; have := (h_24).2; have := (hr33).1; have := (hr33).2; have := (h_31).1; have := (h_31).2; have := (h_39).1; have := (h_39).2; omega) (Or.inl (by rw [(show ((atL wg b.toNatClampNeg).length : Int) = nx.toInt from (by rw [atL_l, hnx]; have q2 : (wg 41 (3 * b.toNatClampNeg)).toNatClampNeg = (wg 41 (3 * b.toNatClampNeg)).toInt.toNat := rfl; have := (BR_a hBR hRW hRS hvb hbl).2.1; omega))]; have := i32_0; have := i32_1; have := i32_2; have := i32_m1; have := (hsx1_22).1; have := (hsx1_22).2; have := (h_38).1; have := (h_38).2; have := (h_24).1; have := (h_24).2; have := (hr33).1; have := (hr33).2; have := (h_31).1; have := (h_31).2; have := (h_39).1; have := (h_39).2; omega))] at q9; exact plA_n (by have := (show ((atL wg b.toNatClampNeg).length : Int) = nx.toInt from (by rw [atL_l, hnx]; have q2 : (wg 41 (3 * b.toNatClampNeg)).toNatClampNeg = (wg 41 (3 * b.toNatClampNeg)).toInt.toNat := rfl; have := (BR_a hBR hRW hRS hvb hbl).2.1; omega)); have := i32_0; have := i32_1; have := i32_2; have := i32_m1; have := (hsx1_22).1; have := (hsx1_22).2; have := (h_38).1; have := (h_38).2; have := (h_24).1; have := (h_24).2; have := (hr33).1; have := (hr33).2; have := (h_31).1; have := (h_31).2; have := (h_39).1; have := (h_39).2; omega) q9)) _ _ _ hP hD hS (lv_sub hl [0, 1, 2, 3, 4, 5] rfl)
          · have d_40 : (z_35 : Int32).toInt < (nx : Int32).toInt := Int32.lt_iff_toInt_lt.mp (i32_lt c_36)
            refine lv_aload_n hx hb dX13_placed_71 rfl (lv_at hl 3 rfl) ?_
            refine mr_get (v := .ref (ad 75)) hx hb htb inX13 hown hK hP 75 (by decide) (htb _ kw_1102) rfl dX13_placed_72 ?_
            refine lv_iload hx hb dX13_placed_75 (lv_at hl 0 rfl) ?_
            refine mr_iald hx hb hK hP 59 (k := 75) rfl rfl rfl (show vp_in z_35 4 from (iv_in h63 (by decide))) dX13_placed_77 ?_
            refine lv_topi (fun z_41 ez_41 => ?_)
            have hz_41 : iv (-1) 3 z_41 := iv_of ez_41 (MI_a hI_j22 75 h63 (by decide))
            refine lv_iconst (v := (-1)) hx hb dX13_placed_78 (by decide) ?_
            refine lv_icmp_eq (tgt := 84) hx hb dX13_placed_79 (by decide) (fun c_42 => ?_) (fun c_42 => ?_)
            · have h_43 : iv (-1) (-1) z_41 := iv_eq c_42 hz_41 (iv_k (by decide) : iv (-1) (-1) (-1)) (by decide)
              refine lv_aload_n hx hb dX13_placed_84 rfl (lv_at hl 3 rfl) ?_
              refine mr_get (v := .ref (ad 75)) hx hb htb inX13 hown hK hP 75 (by decide) (htb _ kw_1102) rfl dX13_placed_85 ?_
              refine lv_iload hx hb dX13_placed_88 (lv_at hl 0 rfl) ?_
              refine lv_iload_n hx hb dX13_placed_90 rfl (lv_at hl 2 rfl) ?_
              refine ma_iast (x := x3_22) hx hb hK hP hD hS 59 (k := 75) rfl rfl rfl (show vp_in z_35 4 from (iv_in h63 (by decide))) dX13_placed_91 (fun gm_44 H locs egm_44 hP hD hS => ?_)
              have hI_gm_44 := MI_st hI_j22 egm_44 h_24 (by decide)
              exact hj92 gm_44 r_26 hr33 h_24 hsx1_22 h_25 (KS_up (KS_tr (L := [75]) KS_rf hkg_j22 (by decide)) egm_44 (by decide)) hI_gm_44 (SPo_u hsp (show gm_44 75 = upd (gm_j22 75) (z_35 : Int32).toNatClampNeg x3_22 from ((up_at egm_44).trans (by rw [show gm_j22 75 = gm_j22 75 from rfl]))) (lt_cl h63 hvnx (by decide) (by decide) (by have := i32_0; have := i32_1; have := i32_2; have := i32_m1; have := (hsx1_22).1; have := (hsx1_22).2; have := (h_25).1; have := (h_25).2; have := (h_24).1; have := (h_24).2; have := (hr33).1; have := (hr33).2; have := (h_31).1; have := (h_31).2; have := (h63).1; have := (h63).2; have := (h_43).1; have := (h_43).2; omega)) (h_24).1 (by have := iv_cl hvnx (by decide); have := hvnx.1; have := i32_0; have := i32_1; have := i32_2; have := i32_m1; have := (hsx1_22).1; have := (hsx1_22).2; have := (h_25).1; have := (h_25).2; have := (h_24).1; have := (h_24).2; have := (hr33).1; have := (hr33).2; have := (h_31).1; have := (h_31).2; have := (h63).1; have := (h63).2; have := (h_43).1; have := (h_43).2; omega)) (by rw [nAt_y (by rw [← hbR, ← hbH]; exact c_30), ← hcf]; exact cF_upd (show gm_44 75 = upd (gm_j22 75) (z_35 : Int32).toNatClampNeg x3_22 from ((up_at egm_44).trans (by rw [show gm_j22 75 = gm_j22 75 from rfl]))) (fun q9 => absurd (h_24).1 (by rw [q9]; decide)) (ez_41.symm.trans c_42) 4 (by have := iv_cl h63 (by decide); have := (h63).2; omega)) (by have := i32_0; have := i32_1; have := i32_2; have := i32_m1; have := (show iv 0 1200 (sg 20) from MI_s hI 20).1; have := (show iv 0 1200 (sg 20) from MI_s hI 20).2; have := (show iv 0 1201 (sg 21) from MI_s hI 21).1; have := (show iv 0 1201 (sg 21) from MI_s hI 21).2; have := (show iv 0 3 (sg 22) from MI_s hI 22).1; have := (show iv 0 3 (sg 22) from MI_s hI 22).2; have := (show iv 0 80 (sg 24) from MI_s hI 24).1; have := (show iv 0 80 (sg 24) from MI_s hI 24).2; have := (show iv 0 1201 (sg 25) from MI_s hI 25).1; have := (show iv 0 1201 (sg 25) from MI_s hI 25).2; have := (hsx1_22).1; have := (hsx1_22).2; have := (h_25).1; have := (h_25).2; have := (h_24).1; have := (h_24).2; have := (hr33).1; have := (hr33).2; have := (h_31).1; have := (h_31).2; have := (h63).1; have := (h63).2; have := (h_43).1; have := (h_43).2; omega) ((by have q9 := hq22; rw [atL_x (show x3_22.toNatClampNeg < (wg 41 (3 * b.toNatClampNeg)).toNatClampNeg from (by have q2 : (wg 41 (3 * b.toNatClampNeg)).toNatClampNeg = (wg 41 (3 * b.toNatClampNeg)).toInt.toNat := rfl; have q1 : x3_22.toNatClampNeg = x3_22.toInt.toNat := rfl; have := hnx; have := i32_0; have := i32_1; have := i32_2; have := i32_m1; have := (hsx1_22).1; have := (hsx1_22).2; have := (h_25).1; have := (h_25).2; have := (h_24).1; have := (h_24).2; have := (hr33).1; have := (hr33).2; have := (h_31).1; have := (h_31).2; have := (h63).1; have := (h63).2; have := (h_43).1; have := (h_43).2; omega)) hel9, ← hpz, pl1_s (by have := i32_0; have := i32_1; have := i32_2; have := i32_m1; have := (hsx1_22).1; have := (hsx1_22).2; have := (h_25).1; have := (h_25).2; have := (h_24).1; have := (h_24).2; have := (hr33).1; have := (hr33).2; have := (h_31).1; have := (h_31).2; have := (h63).1; have := (h63).2; have := (h_43).1; have := (h_43).2; omega) (by rw [(show ((atL wg b.toNatClampNeg).length : Int) = nx.toInt from (by rw [atL_l, hnx]; have q2 : (wg 41 (3 * b.toNatClampNeg)).toNatClampNeg = (wg 41 (3 * b.toNatClampNeg)).toInt.toNat := rfl; have := (BR_a hBR hRW hRS hvb hbl).2.1; omega))]; have := i32_0; have := i32_1; have := i32_2; have := i32_m1; have := (hsx1_22).1; have := (hsx1_22).2; have := (h_25).1; have := (h_25).2; have := (h_24).1; have := (h_24).2; have := (hr33).1; have := (hr33).2; have := (h_31).1; have := (h_31).2; have := (h63).1; have := (h63).2; have := (h_43).1; have := (h_43).2; omega) (show f75 gm_j22 z_35.toNatClampNeg = -1 from (by rw [f75_at (by have q1 : z_35.toNatClampNeg = z_35.toInt.toNat := rfl; have := i32_0; have := i32_1; have := i32_2; have := i32_m1; have := (hsx1_22).1; have := (hsx1_22).2; have := (h_25).1; have := (h_25).2; have := (h_24).1; have := (h_24).2; have := (hr33).1; have := (hr33).2; have := (h_31).1; have := (h_31).2; have := (h63).1; have := (h63).2; have := (h_43).1; have := (h_43).2; omega), ← ez_41]; have := i32_0; have := i32_1; have := i32_2; have := i32_m1; have := (hsx1_22).1; have := (hsx1_22).2; have := (h_25).1; have := (h_25).2; have := (h_24).1; have := (h_24).2; have := (hr33).1; have := (hr33).2; have := (h_31).1; have := (h_31).2; have := (h63).1; have := (h63).2; have := (h_43).1; have := (h_43).2; omega)), cln9 (u := x3_22) ((show iv 0 3 x3_22 from (iv_w h_24 (by decide)))).1] at q9; rw [f75_u (show gm_44 75 = upd (gm_j22 75) (z_35 : Int32).toNatClampNeg x3_22 from ((up_at egm_44).trans (by rw [show gm_j22 75 = gm_j22 75 from rfl]))) (by have q1 : z_35.toNatClampNeg = z_35.toInt.toNat := rfl; have := i32_0; have := i32_1; have := i32_2; have := i32_m1; have := (hsx1_22).1; have := (hsx1_22).2; have := (h_25).1; have := (h_25).2; have := (h_24).1; have := (h_24).2; have := (hr33).1; have := (hr33).2; have := (h_31).1; have := (h_31).2; have := (h63).1; have := (h63).2; have := (h_43).1; have := (h_43).2; omega)]; exact q9)) _ _ _ hP hD hS (lv_sub hl [1, 2, 3, 4, 5] rfl)
            · have h_45 : iv 0 3 z_41 := iv_neL c_42 hz_41 (by decide)
              exact hj82 gm_j22 z_35 r_26 x3_22 h63 hr33 h_24 hsx1_22 h_25 (KS_tr (L := [75]) KS_rf hkg_j22 (by decide)) hI_j22 ((by have q9 := hq22; rw [atL_x (show x3_22.toNatClampNeg < (wg 41 (3 * b.toNatClampNeg)).toNatClampNeg from (by have q2 : (wg 41 (3 * b.toNatClampNeg)).toNatClampNeg = (wg 41 (3 * b.toNatClampNeg)).toInt.toNat := rfl; have q1 : x3_22.toNatClampNeg = x3_22.toInt.toNat := rfl; have := hnx; have := i32_0; have := i32_1; have := i32_2; have := i32_m1; have := (hsx1_22).1; have := (hsx1_22).2; have := (h_25).1; have := (h_25).2; have := (h_24).1; have := (h_24).2; have := (hr33).1; have := (hr33).2; have := (h_31).1; have := (h_31).2; have := (h63).1; have := (h63).2; have := (h_45).1; have := (h_45).2; omega)) hel9, ← hpz, pl1_n (by have := i32_0; have := i32_1; have := i32_2; have := i32_m1; have := (hsx1_22).1; have := (hsx1_22).2; have := (h_25).1; have := (h_25).2; have := (h_24).1; have := (h_24).2; have := (hr33).1; have := (hr33).2; have := (h_31).1; have := (h_31).2; have := (h63).1; have := (h63).2; have := (h_45).1; have := (h_45).2; omega) (Or.inr (show ¬ f75 gm_j22 z_35.toNatClampNeg = -1 from (by rw [f75_at (by have q1 : z_35.toNatClampNeg = z_35.toInt.toNat := rfl; have := i32_0; have := i32_1; have := i32_2; have := i32_m1; have := (hsx1_22).1; have := (hsx1_22).2; have := (h_25).1; have := (h_25).2; have := (h_24).1; have := (h_24).2; have := (hr33).1; have := (hr33).2; have := (h_31).1; have := (h_31).2; have := (h63).1; have := (h63).2; have := (h_45).1; have := (h_45).2; omega), ← ez_41]; exact fun q => c_42 (Int32.toInt_inj.mp q))))] at q9; exact plA_n (by have := (show ((atL wg b.toNatClampNeg).length : Int) = nx.toInt from (by rw [atL_l, hnx]; have q2 : (wg 41 (3 * b.toNatClampNeg)).toNatClampNeg = (wg 41 (3 * b.toNatClampNeg)).toInt.toNat := rfl; have := (BR_a hBR hRW hRS hvb hbl).2.1; omega)); have := i32_0; have := i32_1; have := i32_2; have := i32_m1; have := (hsx1_22).1; have := (hsx1_22).2; have := (h_25).1; have := (h_25).2; have := (h_24).1; have := (h_24).2; have := (hr33).1; have := (hr33).2; have := (h_31).1; have := (h_31).2; have := (h63).1; have := (h63).2; have := (h_45).1; have := (h_45).2; omega) q9)) _ _ _ hP hD hS (lv_sub hl [0, 1, 2, 3, 4, 5] rfl)
        · have h_46 : iv 0 0 r_28 := iv_eq c_30 hr_28 (iv_k (by decide) : iv 0 0 0) (by decide)
          refine lv_goto (tgt := 92) hx hb dX13_placed_47 (by decide) ?_
          exact hj92 gm_j22 r_26 hr33 h_24 hsx1_22 h_25 (KS_tr (L := [75]) KS_rf hkg_j22 (by decide)) hI_j22 (hsp) (hcf.trans (nAt_n (by rw [← hbR, ← hbH]; exact c_30)).symm) (by have := i32_0; have := i32_1; have := i32_2; have := i32_m1; have := (show iv 0 1200 (sg 20) from MI_s hI 20).1; have := (show iv 0 1200 (sg 20) from MI_s hI 20).2; have := (show iv 0 1201 (sg 21) from MI_s hI 21).1; have := (show iv 0 1201 (sg 21) from MI_s hI 21).2; have := (show iv 0 3 (sg 22) from MI_s hI 22).1; have := (show iv 0 3 (sg 22) from MI_s hI 22).2; have := (show iv 0 80 (sg 24) from MI_s hI 24).1; have := (show iv 0 80 (sg 24) from MI_s hI 24).2; have := (show iv 0 1201 (sg 25) from MI_s hI 25).1; have := (show iv 0 1201 (sg 25) from MI_s hI 25).2; have := (hsx1_22).1; have := (hsx1_22).2; have := (h_25).1; have := (h_25).2; have := (h_24).1; have := (h_24).2; have := (hr33).1; have := (hr33).2; have := (h_46).1; have := (h_46).2; omega) ((by have q9 := hq22; rw [atL_x (show x3_22.toNatClampNeg < (wg 41 (3 * b.toNatClampNeg)).toNatClampNeg from (by have q2 : (wg 41 (3 * b.toNatClampNeg)).toNatClampNeg = (wg 41 (3 * b.toNatClampNeg)).toInt.toNat := rfl; have q1 : x3_22.toNatClampNeg = x3_22.toInt.toNat := rfl; have := hnx; have := i32_0; have := i32_1; have := i32_2; have := i32_m1; have := (hsx1_22).1; have := (hsx1_22).2; have := (h_25).1; have := (h_25).2; have := (h_24).1; have := (h_24).2; have := (hr33).1; have := (hr33).2; have := (h_46).1; have := (h_46).2; omega)) hel9, pl1_o (hat9.1 (by rw [← hbH]; exact c_30))] at q9; exact q9)) _ _ _ hP hD hS (lv_sub hl [0, 1, 2, 3, 4] rfl)
  have hj2 : ∀ (n : Nat) (gm_j2 : Nat → Nat → Int32) (x3_2 : Int32) (_ : (4 - x3_2.toInt).toNat = n) (_ : iv 0 4 x3_2) (_ : iv 0 79 b) (_ : iv 0 3 nx) (_ : KS [75] gm gm_j2) (_ : MI sg gm_j2) (_ : ∀ q9, 0 ≤ q9 → q9 < x3_2.toNatClampNeg → gm_j2 75 q9 = -1) (H : Heap) (locs : List Loc) (ls : Array Slot), va_P (dC, dI) vwCl (mW h0 ad cid sg gm_j2 lg) H → va_D A (mW h0 ad cid sg gm_j2 lg) → va_S A s.heap H locs → lv_has ls 6 [(3, .int x3_2), (0, .ref h0), (1, .int b), (2, .int nx)] → W p l e (headSpec wm_X13_placed ({ frames := 6, cells := 0, slots := 0, locals := 142 })).room s m ([.ref h0, .int b, .int nx] : List Value).toArray below meth c H locs 0 0 (MQ below (va_Qi (fun r v => ∃ (sg2 : Nat → Int32) (gm2 : Nat → Nat → Int32) (lg2 : Nat → Nat → Int64), v = (sg2, gm2, lg2) ∧ MI sg2 gm2 ∧ KS [] sg sg2 ∧ KS [75] gm gm2 ∧ KS [] lg lg2 ∧ (iv 0 1 r) ∧ (r.toInt = 0 ∨ SPF (gm2 75) nx.toNatClampNeg) ∧ ((r.toInt = 0 ∧ plA (atL wg b.toNatClampNeg) = none) ∨ (r.toInt = 1 ∧ plA (atL wg b.toNatClampNeg) = some (f75 gm2)))) (MB dC dI h0 ad cid A) A) ([.ref h0, .int b, .int nx] : List Value).toArray s 0 0 A) (F0 m 2 ls []) := by
    intro n
    induction n using Nat.strongRecOn with
    | ind n ih2 =>
      intro gm_j2 x3_2 hn2 hx3_2 hsx1_2 hsx2_2 hkg_j2 hI_j2 hs0 H locs ls hP hD hS hl
      refine lv_iload_n hx hb dX13_placed_2 rfl (lv_at hl 0 rfl) ?_
      refine lv_iconst (v := 4) hx hb dX13_placed_3 (by decide) ?_
      refine lv_icmp_ge (tgt := 20) hx hb dX13_placed_4 (by decide) (fun c_47 => ?_) (fun c_47 => ?_)
      · have h_48 : iv 4 4 x3_2 := iv_leR c_47 (iv_k (by decide) : iv 4 4 4) hx3_2 (by decide)
        refine lv_iconst (v := 0) hx hb dX13_placed_20 (by decide) ?_
        refine lv_istore_n (lv' := [(3, .int 0), (0, .ref h0), (1, .int b), (2, .int nx)]) hx hb dX13_placed_21 rfl hl (by decide) rfl (fun ls hl => ?_)
        exact hj22 _ gm_j2 0 rfl (iv_w (iv_k (by decide) : iv 0 0 0) (by decide)) hsx1_2 hsx2_2 (KS_tr (L := [75]) KS_rf hkg_j2 (by decide)) hI_j2 ((SPo_0 h_48 hs0).1) ((SPo_0 (n := 0) h_48 hs0).2) (by have := i32_0; have := i32_1; have := i32_2; have := i32_m1; have := (show iv 0 1200 (sg 20) from MI_s hI 20).1; have := (show iv 0 1200 (sg 20) from MI_s hI 20).2; have := (show iv 0 1201 (sg 21) from MI_s hI 21).1; have := (show iv 0 1201 (sg 21) from MI_s hI 21).2; have := (show iv 0 3 (sg 22) from MI_s hI 22).1; have := (show iv 0 3 (sg 22) from MI_s hI 22).2; have := (show iv 0 80 (sg 24) from MI_s hI 24).1; have := (show iv 0 80 (sg 24) from MI_s hI 24).2; have := (show iv 0 1201 (sg 25) from MI_s hI 25).1; have := (show iv 0 1201 (sg 25) from MI_s hI 25).2; have := (hsx1_2).1; have := (hsx1_2).2; have := (hsx2_2).1; have := (hsx2_2).2; have := (h_48).1; have := (h_48).2; omega) ((by rw [f75_0 (n := x3_2.toNatClampNeg) (by have q1 : x3_2.toNatClampNeg = x3_2.toInt.toNat := rfl; have := i32_0; have := i32_1; have := i32_2; have := i32_m1; have := (hsx1_2).1; have := (hsx1_2).2; have := (hsx2_2).1; have := (hsx2_2).2; have := (h_48).1; have := (h_48).2; omega) hs0]; rfl)) _ _ _ hP hD hS (lv_sub hl [0, 1, 2, 3] rfl)
      · have h_49 : iv 0 3 x3_2 := iv_ltL (i32_lt c_47) hx3_2 (iv_k (by decide) : iv 4 4 4) (by decide)
        refine lv_aload_n hx hb dX13_placed_7 rfl (lv_at hl 1 rfl) ?_
        refine mr_get (v := .ref (ad 75)) hx hb htb inX13 hown hK hP 75 (by decide) (htb _ kw_1102) rfl dX13_placed_8 ?_
        refine lv_iload_n hx hb dX13_placed_11 rfl (lv_at hl 0 rfl) ?_
        refine lv_iconst (v := (-1)) hx hb dX13_placed_12 (by decide) ?_
        refine ma_iast (x := (-1)) hx hb hK hP hD hS 59 (k := 75) rfl rfl rfl (show vp_in x3_2 4 from (iv_in h_49 (by decide))) dX13_placed_13 (fun gm_50 H locs egm_50 hP hD hS => ?_)
        have hI_gm_50 := MI_st hI_j2 egm_50 (iv_k (by decide) : iv (-1) (-1) (-1)) (by decide)
        obtain ⟨z_51, ez_51⟩ : ∃ z : Int32, z = x3_2 + 1 := ⟨_, rfl⟩
        have hz_51 : iv 1 4 z_51 := iv_of ez_51 (iv_add h_49 (iv_k (by decide) : iv 1 1 1) (by decide))
        have tz_51 : z_51.toInt = x3_2.toInt + 1 := by rw [ez_51]; exact iv_addE h_49 (iv_k (by decide) : iv 1 1 1) (by decide)
        refine lv_iinc (v := z_51) (lv' := [(3, .int z_51), (0, .ref h0), (1, .int b), (2, .int nx)]) hx hb dX13_placed_14 hl (k := 0) rfl ez_51.symm (by decide) rfl (fun ls hl => ?_)
        refine lv_goto (tgt := 2) hx hb dX13_placed_17 (by decide) ?_
        exact ih2 _ (by rw [← hn2]; exact (iv_meas tz_51 h_49 (by decide))) gm_50 z_51 rfl (iv_w hz_51 (by decide)) hsx1_2 hsx2_2 (KS_up (KS_tr (L := [75]) KS_rf hkg_j2 (by decide)) egm_50 (by decide)) hI_gm_50 (all_s (P := fun q9 => gm_50 75 q9 = -1) h_49 (by decide) tz_51 (fun q9 h8 h9 => by show gm_50 75 q9 = -1; rw [(show gm_50 75 = upd (gm_j2 75) (x3_2 : Int32).toNatClampNeg (-1) from ((up_at egm_50).trans (by rw [show gm_j2 75 = gm_j2 75 from rfl]))), upd_ne (by omega)]; exact hs0 q9 h8 h9) (by show gm_50 75 _ = -1; rw [(show gm_50 75 = upd (gm_j2 75) (x3_2 : Int32).toNatClampNeg (-1) from ((up_at egm_50).trans (by rw [show gm_j2 75 = gm_j2 75 from rfl]))), upd_at])) _ _ _ hP hD hS (lv_sub hl [0, 1, 2, 3] rfl)
  refine lv_iconst (v := 0) hx hb dX13_placed_0 (by decide) ?_
  refine lv_istore_n (lv' := [(3, .int 0), (0, .ref h0), (1, .int b), (2, .int nx)]) hx hb dX13_placed_1 rfl hl (by decide) rfl (fun ls hl => ?_)
  exact hj2 _ gm 0 rfl (iv_w (iv_k (by decide) : iv 0 0 0) (by decide)) hvb hvnx KS_rf hI (fun q9 _ h9 => absurd h9 (Nat.not_lt_zero _)) _ _ _ hP hD hS (lv_sub hl [0, 1, 2, 3] rfl)
end
section
section FV9
variable {ws : Nat → Int32} {wg rg gm gm2 : Nat → Nat → Int32} {wl : Nat → Nat → Int64} {rs sg sg2 : Nat → Int32} {lg : Nat → Nat → Int64} {ob : List Ob9} {b s tp : Nat} {vs : List (List Int)}
/-- the values of the args that are worked out -/
def FV9 (wg : Nat → Nat → Int32) (wl : Nat → Nat → Int64) (rg gm : Nat → Nat → Int32) (ob : List Ob9) (b tp n : Nat) (vs : List (List Int)) : Prop := ∀ i, i < n → VR9 wg wl rg ob (ctE wg (wg 57 (128 * (3 * b) + i)).toNatClampNeg) ((vs[i]?).getD []) (gm 70 (5 * tp + i)) (gm 71 (5 * tp + i)) ∧ ITS9 wg rg gm (ctE wg (wg 57 (128 * (3 * b) + i)).toNatClampNeg) (5 * tp + i) ((vs[i]?).getD [])
theorem FV_k {n : Nat} (h : FV9 wg wl rg gm ob b tp n vs) (h0 : gm2 70 = gm 70) (h1 : gm2 71 = gm 71) (h2 : gm2 72 = gm 72) (h3 : gm2 73 = gm 73) : FV9 wg wl rg gm2 ob b tp n vs := by
  intro i hi
  have q := h i hi
  unfold ITS9 at *
  rw [h0, h1, h2, h3]; exact q
/-- the sum of weights, with the places -/
def suM (wg : Nat → Nat → Int32) (wl : Nat → Nat → Int64) (ob : List Ob9) (b : Nat) (vs : List (List Int)) (s : Nat) : Int := match plA (atL wg b) with
  | none => -1
  | some f => suS wg wl ob b vs f s
theorem suM_n (h : plA (atL wg b) = none) : suM wg wl ob b vs s = -1 := by unfold suM; rw [h]
theorem suM_s {f : Nat → Int} (h : plA (atL wg b) = some f) : suM wg wl ob b vs s = suS wg wl ob b vs f s := by unfold suM; rw [h]
theorem suM_d (h : ¬ (wg 7 s).toInt = (wg 41 (3 * b)).toInt) : suM wg wl ob b vs s = -1 := by
  unfold suM
  cases plA (atL wg b) with
  | none => rfl
  | some f => exact suS_n h
theorem BR_n {b r : Int32} (h : BRG ws wg wl rs rg lg) (hRW : rt9 gm = rg) (hRS : rs9 sg = rs) (hv : iv 0 79 b) (hb : b.toInt < (sg 41).toInt) (hr : 0 ≤ r.toInt) (h1 : ∀ k, 0 ≤ k → k < r.toNatClampNeg → ¬ mArg sg gm lg b k = -1) (h2 : mArg sg gm lg b r.toNatClampNeg = -1) : r.toInt = (wg 41 (3 * b.toNatClampNeg)).toInt := by
  have q := BR_a h hRW hRS hv hb
  have c1 := cln9 hr
  have c2 := cln9 q.2.1
  rcases Nat.lt_trichotomy r.toNatClampNeg (wg 41 (3 * b.toNatClampNeg)).toNatClampNeg with p | p | p
  · have q9 := q.2.2.2 _ p
    rw [h2] at q9
    have q8 := q9.2.1
    rw [← q9.1] at q8
    exact absurd q8 (by decide)
  · omega
  · exact absurd q.2.2.1 (h1 _ (Nat.zero_le _) p)
/-- a signature on both sides: its types in row R from place ba on -/
def SG9 (wg gm : Nat → Nat → Int32) (R : Nat) (nx ba : Int32) (s : Nat) : Prop := nx.toInt = (wg 7 s).toInt ∧ ∀ p, p < nx.toNatClampNeg → (gm R (ba.toNatClampNeg + p)).toInt = (wg 54 (3 * s + p)).toInt ∧ ty9 (wg 54 (3 * s + p)).toInt
theorem liL_x {i a : Nat} (h : i < (wg 41 (3 * b)).toNatClampNeg) (ha : (wg 57 (128 * (3 * b) + i)).toNatClampNeg = a) : ((liL wg (3 * b))[i]?).getD 0 = a := by rw [liL_g h, ha]; rfl
end FV9
end
section
set_option maxHeartbeats 4000000 in
set_option maxRecDepth 100000 in
theorem f_sum9_9 (l : Launch) (dC : Nat → ClassId) (dI : Nat → Nat → Nat) (h0 : Nat) (ad : Nat → Nat) (cid : Nat → ClassId) (sg : Nat → Int32) (gm : Nat → Nat → Int32) (lg : Nat → Nat → Int64) (b : Int32) (nx : Int32) (ba : Int32) (ws : Nat → Int32) (wg : Nat → Nat → Int32) (wl : Nat → Nat → Int64) (rs : Nat → Int32) (rg : Nat → Nat → Int32) (S : S9) (VS : List (List Int)) (s9 : Nat) (hI : MI sg gm) (hvb : iv 0 79 b) (hvnx : iv 0 3 nx) (hvba : iv 0 93 ba) (hbl : b.toInt < (sg 41).toInt) (hac : ACY sg gm lg) (hst : STR sg gm lg) (hPR : PR gm) (hva : VAL gm) (hh1 : 1 ≤ (sg 63).toInt) (hRW : rt9 gm = rg) (hRS : rs9 sg = rs) (hBR : BRG ws wg wl rs rg lg) (hCL : CLS9 wg rg) (hRR : RR wg wl S sg gm) (hWD : WD9 lg) (hFV : FV9 wg wl rg gm (zO S) b.toNatClampNeg ((sg 63).toNatClampNeg - 1) (wg 41 (3 * b.toNatClampNeg)).toNatClampNeg VS) (hSG : SG9 wg gm 9 nx ba s9) : MMi l dC dI yX13_sum wm_X13_sum ({ frames := 7, cells := 0, slots := 0, locals := 167 }) h0 ad cid [.int b, .int nx, .ref (ad 9), .int ba] sg gm lg (fun r v => ∃ (sg2 : Nat → Int32) (gm2 : Nat → Nat → Int32) (lg2 : Nat → Nat → Int64), v = (sg2, gm2, lg2) ∧ MI sg2 gm2 ∧ KS [] sg sg2 ∧ KS [75] gm gm2 ∧ KS [] lg lg2 ∧ (iv (-1) 42 r) ∧ (r = -1 ∨ ARGN sg gm lg b nx.toNatClampNeg) ∧ (r.toInt = suM wg wl (zO S) b.toNatClampNeg VS s9)) := by
  intro sz
  refine Met.ofW (cc := cX13_sum) (maxL := 11) (ret := (some .int)) (by decide) rfl ?_
  intro p e s m args below meth c s₁ B hml hv
  obtain ⟨rfl, hsz, hP, hK, hD0⟩ := hv
  have hx := B.exec
  have hb := B.bytes
  have hr := B.returns
  have hts := atoms_spec (ws := wm_X13_sum) B.pre
  have htb := fun (w : Cond) (h : w ∈ tb) => hts w (List.mem_cons_of_mem _ h)
  have hown : s.vm.findClass RX13 = some m.cls := findClass_of_methodNamed B.named
  have hlocks := B.notSynchronized
  subst hsz
  have hD := hD0.self (sz := s.heap.size)
  generalize hAe : va_A (mW h0 ad cid sg gm lg) s.heap.size = A at hD ⊢
  have hA : ∀ q : Nat, s.heap.size ≤ q → A q := fun q h => by rw [← hAe]; exact Or.inr h
  have hS : va_S A s.heap s.heap [] := va_S.rf
  have hl := lv_entry ([.ref h0, .int b, .int nx, .ref (ad 9), .int ba]) (n := 11) (Nat.le_of_ble_eq_true rfl)
  rw [lg_entry_eq]
  generalize (lg_sl ([.ref h0, .int b, .int nx, .ref (ad 9), .int ba]) ++ List.replicate (11 - (lg_sl ([.ref h0, .int b, .int nx, .ref (ad 9), .int ba])).length) Slot.unset).toArray = ls at hl ⊢
  have hl : lv_has ls 11 [(0, .ref h0), (1, .int b), (2, .int nx), (3, .ref (ad 9)), (4, .int ba)] := hl
  have h63 : iv 1 80 (sg 63) := ⟨hh1, (show iv 0 80 (sg 63) from MI_s hI 63).2⟩
  have hj30 : ∀ (n : Nat) (gm_j30 : Nat → Nat → Int32) (x7_30 : Int32) (x6_30 : Int32) (x5_30 : Int32) (_ : (3 - x7_30.toInt).toNat = n) (_ : iv 0 3 x7_30) (_ : iv 0 42 x6_30) (_ : iv 0 3 x5_30) (_ : iv 0 79 b) (_ : iv 0 3 nx) (_ : iv 0 93 ba) (_ : KS [75] gm gm_j30) (_ : MI sg gm_j30) (_ : SPF (gm_j30 75) nx.toNatClampNeg) (_ : ARGN sg gm lg b nx.toNatClampNeg) (_ : nx.toInt = (wg 41 (3 * b.toNatClampNeg)).toInt) (_ : x6_30.toInt ≤ 14 * x7_30.toInt) (_ : suM wg wl (zO S) b.toNatClampNeg VS s9 = suF wg wl (zO S) b.toNatClampNeg VS (f75 gm_j30) s9 ((wg 7 s9).toNatClampNeg - x7_30.toNatClampNeg) x7_30.toNatClampNeg x6_30.toInt) (H : Heap) (locs : List Loc) (ls : Array Slot), va_P (dC, dI) vwCl (mW h0 ad cid sg gm_j30 lg) H → va_D A (mW h0 ad cid sg gm_j30 lg) → va_S A s.heap H locs → lv_has ls 11 [(7, .int x7_30), (6, .int x6_30), (5, .int x5_30), (0, .ref h0), (1, .int b), (2, .int nx), (3, .ref (ad 9)), (4, .int ba)] → W p l e (headSpec wm_X13_sum ({ frames := 7, cells := 0, slots := 0, locals := 167 })).room s m ([.ref h0, .int b, .int nx, .ref (ad 9), .int ba] : List Value).toArray below meth c H locs 0 0 (MQ below (va_Qi (fun r v => ∃ (sg2 : Nat → Int32) (gm2 : Nat → Nat → Int32) (lg2 : Nat → Nat → Int64), v = (sg2, gm2, lg2) ∧ MI sg2 gm2 ∧ KS [] sg sg2 ∧ KS [75] gm gm2 ∧ KS [] lg lg2 ∧ (iv (-1) 42 r) ∧ (r = -1 ∨ ARGN sg gm lg b nx.toNatClampNeg) ∧ (r.toInt = suM wg wl (zO S) b.toNatClampNeg VS s9)) (MB dC dI h0 ad cid A) A) ([.ref h0, .int b, .int nx, .ref (ad 9), .int ba] : List Value).toArray s 0 0 A) (F0 m 30 ls []) := by
    intro n
    induction n using Nat.strongRecOn with
    | ind n ih30 =>
      intro gm_j30 x7_30 x6_30 x5_30 hn30 hx7_30 hx6_30 hx5_30 hsx1_30 hsx2_30 hsx4_30 hkg_j30 hI_j30 hSPF hAN hmn h6b hsu H locs ls hP hD hS hl
      refine lv_iload hx hb dX13_sum_30 (lv_at hl 0 rfl) ?_
      refine lv_iload_n hx hb dX13_sum_32 rfl (lv_at hl 5 rfl) ?_
      refine lv_icmp_ge (tgt := 142) hx hb dX13_sum_33 (by decide) (fun c_1 => ?_) (fun c_1 => ?_)
      · have d_2 : (nx : Int32).toInt ≤ (x7_30 : Int32).toInt := Int32.le_iff_toInt_le.mp c_1
        refine lv_iload hx hb dX13_sum_142 (lv_at hl 1 rfl) ?_
        exact W.iret (v := x6_30) hx hb hr (fun t ht hW => ⟨⟨x6_30, (sg, gm_j30, lg), rfl, ⟨sg, gm_j30, lg, rfl, hI_j30, KS_rf, (KS_tr (L := [75]) KS_rf hkg_j30 (by decide)), KS_rf, (iv_w hx6_30 (by decide)), (Or.inr hAN), ((by have q9 := hsu; rw [show (wg 7 s9).toNatClampNeg - x7_30.toNatClampNeg = 0 from (by have q3 : (wg 7 s9).toNatClampNeg = (wg 7 s9).toInt.toNat := rfl; have q4 := hSG.1; have q1 : x7_30.toNatClampNeg = x7_30.toInt.toNat := rfl; have := i32_0; have := i32_1; have := i32_2; have := i32_m1; have := (hsx1_30).1; have := (hsx1_30).2; have := (hsx2_30).1; have := (hsx2_30).2; have := (hsx4_30).1; have := (hsx4_30).2; have := (h63).1; have := (h63).2; have := (hx7_30).1; have := (hx7_30).2; have := (hx6_30).1; have := (hx6_30).2; have := (hx5_30).1; have := (hx5_30).2; omega)] at q9; exact q9.symm))⟩, by rw [ht]; exact hP, va_K.moved hW.alike hK, hD⟩, hS.F ht⟩) hS.2.2 dX13_sum_144
      · have d_3 : (x7_30 : Int32).toInt < (nx : Int32).toInt := Int32.lt_iff_toInt_lt.mp (i32_lt c_1)
        have h_4 : iv 0 2 x7_30 := iv_ltL (i32_lt c_1) hx7_30 hsx2_30 (by decide)
        have h_5 : iv 1 3 nx := iv_ltR (i32_lt c_1) hx7_30 hsx2_30 (by decide)
        refine lv_iconst (v := 5) hx hb dX13_sum_36 (by decide) ?_
        refine lv_aload_n hx hb dX13_sum_37 rfl (lv_at hl 3 rfl) ?_
        refine mr_get (v := .int (sg 63)) hx hb htb inX13 hown hK hP 63 (by decide) (htb _ kw_1090) rfl dX13_sum_38 ?_
        refine lv_iconst (v := 1) hx hb dX13_sum_41 (by decide) ?_
        refine lv_isub hx hb dX13_sum_42 ?_
        refine lv_topi (fun z_6 ez_6 => ?_)
        have hz_6 : iv 0 79 z_6 := iv_of ez_6 (iv_sub h63 (iv_k (by decide) : iv 1 1 1) (by decide))
        have tz_6 : z_6.toInt = ((sg 63) : Int32).toInt - 1 := by rw [ez_6]; exact iv_subE h63 (iv_k (by decide) : iv 1 1 1) (by decide)
        refine lv_imul hx hb dX13_sum_43 ?_
        refine lv_topi (fun z_7 ez_7 => ?_)
        have hz_7 : iv 0 395 z_7 := iv_of ez_7 (iv_mul (iv_k (by decide) : iv 5 5 5) hz_6 (by decide))
        have tz_7 : z_7.toInt = 5 * (z_6 : Int32).toInt := by rw [ez_7]; exact iv_mulE (iv_k (by decide) : iv 5 5 5) hz_6 (by decide)
        refine lv_aload_n hx hb dX13_sum_44 rfl (lv_at hl 3 rfl) ?_
        refine mr_get (v := .ref (ad 75)) hx hb htb inX13 hown hK hP 75 (by decide) (htb _ kw_1102) rfl dX13_sum_45 ?_
        refine lv_iload hx hb dX13_sum_48 (lv_at hl 0 rfl) ?_
        refine mr_iald hx hb hK hP 59 (k := 75) rfl rfl rfl (show vp_in x7_30 4 from (iv_in h_4 (by decide))) dX13_sum_50 ?_
        refine lv_topi (fun z_8 ez_8 => ?_)
        have hz_8 : iv (-1) 3 z_8 := iv_of ez_8 (MI_a hI_j30 75 h_4 (by decide))
        have h_9 : iv 0 2 z_8 := ⟨by have q9 := (hSPF _ (lt_cl h_4 hvnx (by decide) (by decide) (by have := i32_0; have := i32_1; have := i32_2; have := i32_m1; have := (hsx1_30).1; have := (hsx1_30).2; have := (h_5).1; have := (h_5).2; have := (hsx4_30).1; have := (hsx4_30).2; have := (h63).1; have := (h63).2; have := (h_4).1; have := (h_4).2; have := (hx6_30).1; have := (hx6_30).2; have := (hx5_30).1; have := (hx5_30).2; have := (hz_6).1; have := (hz_6).2; have := (hz_7).1; have := (hz_7).2; have := (hz_8).1; have := (hz_8).2; omega))).1; rw [← ez_8] at q9; exact q9, by have q9 := (hSPF _ (lt_cl h_4 hvnx (by decide) (by decide) (by have := i32_0; have := i32_1; have := i32_2; have := i32_m1; have := (hsx1_30).1; have := (hsx1_30).2; have := (h_5).1; have := (h_5).2; have := (hsx4_30).1; have := (hsx4_30).2; have := (h63).1; have := (h63).2; have := (h_4).1; have := (h_4).2; have := (hx6_30).1; have := (hx6_30).2; have := (hx5_30).1; have := (hx5_30).2; have := (hz_6).1; have := (hz_6).2; have := (hz_7).1; have := (hz_7).2; have := (hz_8).1; have := (hz_8).2; omega))).2; rw [← ez_8] at q9; have := iv_cl hvnx (by decide); have := hvnx.2; omega⟩
        refine lv_iadd hx hb dX13_sum_51 ?_
        refine lv_topi (fun z_10 ez_10 => ?_)
        have hz_10 : iv 0 397 z_10 := iv_of ez_10 (iv_add hz_7 h_9 (by decide))
        have tz_10 : z_10.toInt = (z_7 : Int32).toInt + (z_8 : Int32).toInt := by rw [ez_10]; exact iv_addE hz_7 h_9 (by decide)
        refine lv_istore (lv' := [(8, .int z_10), (7, .int x7_30), (6, .int x6_30), (5, .int x5_30), (0, .ref h0), (1, .int b), (2, .int nx), (3, .ref (ad 9)), (4, .int ba)]) hx hb dX13_sum_52 hl (by decide) rfl (fun ls hl => ?_)
        refine lv_aload_n hx hb dX13_sum_54 rfl (lv_at hl 4 rfl) ?_
        refine lv_aload_n hx hb dX13_sum_55 rfl (lv_at hl 4 rfl) ?_
        refine lv_iload_n hx hb dX13_sum_56 rfl (lv_at hl 5 rfl) ?_
        refine lv_aload_n hx hb dX13_sum_57 rfl (lv_at hl 4 rfl) ?_
        refine mr_get (v := .ref (ad 75)) hx hb htb inX13 hown hK hP 75 (by decide) (htb _ kw_1102) rfl dX13_sum_58 ?_
        refine lv_iload hx hb dX13_sum_61 (lv_at hl 1 rfl) ?_
        refine mr_iald hx hb hK hP 59 (k := 75) rfl rfl rfl (show vp_in x7_30 4 from (iv_in h_4 (by decide))) dX13_sum_63 ?_
        refine lv_topi (fun z_11 ez_11 => ?_)
        obtain rfl : z_8 = z_11 := ez_8.trans ez_11.symm
        refine mr_calli (rest := [.ref h0]) ⟨hx, hb, hml, hown, htb⟩ (f_arg l dC dI h0 ad cid sg gm_j30 lg b z_8 hI_j30 hsx1_30 (iv_w h_9 (by decide)) (by have := i32_0; have := i32_1; have := i32_2; have := i32_m1; have := (show iv 0 80 (sg 41) from MI_s hI 41).1; have := (show iv 0 80 (sg 41) from MI_s hI 41).2; have := (hsx1_30).1; have := (hsx1_30).2; have := (h_5).1; have := (h_5).2; have := (hsx4_30).1; have := (hsx4_30).2; have := (h63).1; have := (h63).2; have := (h_4).1; have := (h_4).2; have := (hx6_30).1; have := (hx6_30).2; have := (hx5_30).1; have := (hx5_30).2; have := (hz_6).1; have := (hz_6).2; have := (hz_7).1; have := (hz_7).2; have := (h_9).1; have := (h_9).2; have := (hz_10).1; have := (hz_10).2; omega) (ACY_k (DK_of (show KS [] sg sg from KS_rf) (show KS [75] gm gm_j30 from (KS_tr (L := [75]) KS_rf hkg_j30 (by decide))) (show KS [] lg lg from KS_rf) (by decide) (by decide) (by decide)) hac)) (cwV 2 htb (gd_V kw_1257 kw_1258 kw_117 kw_160 kw_1627) rfl rfl rfl (by decide +kernel) ⟨Nat.le_of_ble_eq_true rfl, Nat.le_of_ble_eq_true rfl⟩) rfl hl.1 rfl (Nat.le_of_ble_eq_true rfl) dX13_sum_64 ⟨Nat.zero_le _, Nat.zero_le _⟩ hK hP hD hS hA (fun r_12 u_13 H locs hw hP hD hS => ?_)
        obtain ⟨hr_12, fR_r_12, rfl⟩ := hw
        have hP : va_P (dC, dI) vwCl (mW h0 ad cid sg gm_j30 lg) H := hP
        have hD : va_D A (mW h0 ad cid sg gm_j30 lg) := hD
        have hz67 : z_8.toNatClampNeg < nx.toNatClampNeg := by have q9 := (hSPF _ (lt_cl h_4 hvnx (by decide) (by decide) (by have := i32_0; have := i32_1; have := i32_2; have := i32_m1; have := (hsx1_30).1; have := (hsx1_30).2; have := (h_5).1; have := (h_5).2; have := (hsx4_30).1; have := (hsx4_30).2; have := (h63).1; have := (h63).2; have := (h_4).1; have := (h_4).2; have := (hx6_30).1; have := (hx6_30).2; have := (hx5_30).1; have := (hx5_30).2; have := (hz_6).1; have := (hz_6).2; have := (hz_7).1; have := (hz_7).2; have := (h_9).1; have := (h_9).2; have := (hz_10).1; have := (hz_10).2; have := (hr_12).1; have := (hr_12).2; omega))).2; rw [← ez_8] at q9; have := iv_cl h_9 (by decide); omega
        have hbR := (fR_r_12.trans (mArg_k (DK_of (show KS [] sg sg from KS_rf) (show KS [75] gm gm_j30 from (KS_tr (L := [75]) KS_rf hkg_j30 (by decide))) (show KS [] lg lg from KS_rf) (by decide) (by decide) (by decide)) _ _))
        obtain ⟨hr67, hr68, hr69⟩ := arg_el (show iv 0 80 (sg 24) from MI_s hI 24) hbR (hAN _ (Nat.zero_le _) hz67)
        have hz41 : z_8.toNatClampNeg < (wg 41 (3 * b.toNatClampNeg)).toNatClampNeg := (by have q2 : (wg 41 (3 * b.toNatClampNeg)).toNatClampNeg = (wg 41 (3 * b.toNatClampNeg)).toInt.toNat := rfl; have q1 : nx.toNatClampNeg = nx.toInt.toNat := rfl; have := hmn; omega)
        have har9 := ((BR_a hBR hRW hRS hvb hbl).2.2.2 _ hz41)
        have hel9 : (wg 57 (128 * (3 * b.toNatClampNeg) + z_8.toNatClampNeg)).toNatClampNeg = r_12.toNatClampNeg := (by rw [← har9.1, ← hbR])
        have hfi9 : (f75 gm_j30 x7_30.toNatClampNeg).toNat = z_8.toNatClampNeg := (by rw [f75_at (by have q1 : x7_30.toNatClampNeg = x7_30.toInt.toNat := rfl; have := i32_0; have := i32_1; have := i32_2; have := i32_m1; have := (hsx1_30).1; have := (hsx1_30).2; have := (h_5).1; have := (h_5).2; have := (hsx4_30).1; have := (hsx4_30).2; have := (h63).1; have := (h63).2; have := (h_4).1; have := (h_4).2; have := (hx6_30).1; have := (hx6_30).2; have := (hx5_30).1; have := (hx5_30).2; have := (hz_6).1; have := (hz_6).2; have := (hz_7).1; have := (hz_7).2; have := (h_9).1; have := (h_9).2; have := (hz_10).1; have := (hz_10).2; have := (hr67).1; have := (hr67).2; omega), ← ez_8]; rfl)
        have hsu0 := hsu; rw [show (wg 7 s9).toNatClampNeg - x7_30.toNatClampNeg = ((wg 7 s9).toNatClampNeg - (x7_30.toNatClampNeg + 1)) + 1 from (by have q3 : (wg 7 s9).toNatClampNeg = (wg 7 s9).toInt.toNat := rfl; have q4 := hSG.1; have q1 : x7_30.toNatClampNeg = x7_30.toInt.toNat := rfl; have := i32_0; have := i32_1; have := i32_2; have := i32_m1; have := (hsx1_30).1; have := (hsx1_30).2; have := (h_5).1; have := (h_5).2; have := (hsx4_30).1; have := (hsx4_30).2; have := (h63).1; have := (h63).2; have := (h_4).1; have := (h_4).2; have := (hx6_30).1; have := (hx6_30).2; have := (hx5_30).1; have := (hx5_30).2; have := (hz_6).1; have := (hz_6).2; have := (hz_7).1; have := (hz_7).2; have := (h_9).1; have := (h_9).2; have := (hz_10).1; have := (hz_10).2; have := (hr67).1; have := (hr67).2; omega), suF_0 hfi9 (liL_x hz41 hel9) rfl] at hsu0
        refine mr_calli (rest := []) ⟨hx, hb, hml, hown, htb⟩ (f_typeIn9 l dC dI h0 ad cid sg gm_j30 lg r_12 hI_j30 hr67) (cwV 1 htb (gd_V kw_1217 kw_1218 kw_100 kw_160 kw_1608) rfl rfl rfl (by decide +kernel) ⟨Nat.le_of_ble_eq_true rfl, Nat.le_of_ble_eq_true rfl⟩) rfl hl.1 rfl (Nat.le_of_ble_eq_true rfl) dX13_sum_67 ⟨Nat.zero_le _, Nat.zero_le _⟩ hK hP hD hS hA (fun r_14 u_15 H locs hw hP hD hS => ?_)
        obtain ⟨hr_14, fTy_r_14, rfl⟩ := hw
        have hP : va_P (dC, dI) vwCl (mW h0 ad cid sg gm_j30 lg) H := hP
        have hD : va_D A (mW h0 ad cid sg gm_j30 lg) := hD
        have hask : r_14.toInt = (wg 24 r_12.toNatClampNeg).toInt := (by have q5 := (BR_at hRW hRS har9.2.2).2.2; rw [hel9] at q5; have q6 := fTy_r_14; rw [mWord_k (DK_of (show KS [] sg sg from KS_rf) (show KS [75] gm gm_j30 from (KS_tr (L := [75]) KS_rf hkg_j30 (by decide))) (show KS [] lg lg from KS_rf) (by decide) (by decide) (by decide)).1, mHas_k (DK_of (show KS [] sg sg from KS_rf) (show KS [75] gm gm_j30 from (KS_tr (L := [75]) KS_rf hkg_j30 (by decide))) (show KS [] lg lg from KS_rf) (by decide) (by decide) (by decide)).1] at q6; exact TYQ_u q6 q5)
        refine lv_istore (lv' := [(9, .int r_14), (8, .int z_10), (7, .int x7_30), (6, .int x6_30), (5, .int x5_30), (0, .ref h0), (1, .int b), (2, .int nx), (3, .ref (ad 9)), (4, .int ba)]) hx hb dX13_sum_70 hl (by decide) rfl (fun ls hl => ?_)
        refine lv_iload hx hb dX13_sum_72 (lv_at hl 0 rfl) ?_
        refine lv_iconst (v := (-1)) hx hb dX13_sum_74 (by decide) ?_
        refine lv_icmp_eq (tgt := 94) hx hb dX13_sum_75 (by decide) (fun c_16 => ?_) (fun c_16 => ?_)
        · have h_17 : iv (-1) (-1) r_14 := iv_eq c_16 hr_14 (iv_k (by decide) : iv (-1) (-1) (-1)) (by decide)
          refine lv_aload_n hx hb dX13_sum_94 rfl (lv_at hl 5 rfl) ?_
          refine lv_aload_n hx hb dX13_sum_95 rfl (lv_at hl 5 rfl) ?_
          refine mr_get (v := .ref (ad 70)) hx hb htb inX13 hown hK hP 70 (by decide) (htb _ kw_1097) rfl dX13_sum_96 ?_
          refine lv_iload hx hb dX13_sum_99 (lv_at hl 1 rfl) ?_
          refine mr_iald hx hb hK hP 55 (k := 70) rfl rfl rfl (show vp_in z_10 405 from (iv_in hz_10 (by decide))) dX13_sum_101 ?_
          refine lv_topi (fun z_18 ez_18 => ?_)
          have hz_18 : iv 0 3 z_18 := iv_of ez_18 (MI_a hI_j30 70 hz_10 (by decide))
          have ez_18 := ez_18.trans (congrFun (hkg_j30 70 (by decide)) _)
          refine lv_aload_n hx hb dX13_sum_102 rfl (lv_at hl 5 rfl) ?_
          refine mr_get (v := .ref (ad 71)) hx hb htb inX13 hown hK hP 71 (by decide) (htb _ kw_1098) rfl dX13_sum_103 ?_
          refine lv_iload hx hb dX13_sum_106 (lv_at hl 1 rfl) ?_
          refine mr_iald hx hb hK hP 56 (k := 71) rfl rfl rfl (show vp_in z_10 405 from (iv_in hz_10 (by decide))) dX13_sum_108 ?_
          refine lv_topi (fun z_19 ez_19 => ?_)
          have hz_19 : iv 0 1079 z_19 := iv_of ez_19 (MI_a hI_j30 71 hz_10 (by decide))
          have ez_19 := ez_19.trans (congrFun (hkg_j30 71 (by decide)) _)
          refine lv_aload_n hx hb dX13_sum_109 rfl (lv_at hl 8 rfl) ?_
          refine lv_iload hx hb dX13_sum_110 (lv_at hl 9 rfl) ?_
          refine lv_iload hx hb dX13_sum_112 (lv_at hl 2 rfl) ?_
          refine lv_iadd hx hb dX13_sum_114 ?_
          refine lv_topi (fun z_20 ez_20 => ?_)
          have hz_20 : iv 0 95 z_20 := iv_of ez_20 (iv_add hsx4_30 h_4 (by decide))
          have tz_20 : z_20.toInt = (ba : Int32).toInt + (x7_30 : Int32).toInt := by rw [ez_20]; exact iv_addE hsx4_30 h_4 (by decide)
          refine mr_iald hx hb hK hP 8 (k := 9) rfl rfl rfl (show vp_in z_20 96 from (iv_in hz_20 (by decide))) dX13_sum_115 ?_
          refine lv_topi (fun z_21 ez_21 => ?_)
          have ez_21 := ez_21.trans (congrFun (hkg_j30 9 (by decide)) _)
          refine mr_calli (rest := []) ⟨hx, hb, hml, hown, htb⟩ (f_weight9 l dC dI h0 ad cid sg gm_j30 lg z_18 z_19 z_21 wg wl rg S (ctE wg r_12.toNatClampNeg) ((VS[z_8.toNatClampNeg]?).getD []) hI_j30 hz_18 hz_19 (VAL_at hva (show iv 0 404 z_10 from (iv_w hz_10 (by decide))) ez_18 ez_19) (by have q9 : PR gm := hPR; unfold PR at *; rw [(hkg_j30 6 (by decide))]; exact q9) ((rt9_ks (L := [75]) (KS_tr (L := [75]) KS_rf hkg_j30 (by decide)) (by decide)).trans hRW) hCL (RR_ks (L := []) (M := [75]) hRR KS_rf (KS_tr (L := [75]) KS_rf hkg_j30 (by decide)) (by decide) (by decide)) hWD (by have q5 := (hFV _ hz41).1; rw [hel9] at q5; rw [ez_18, ez_19, (show z_10.toNatClampNeg = 5 * ((sg 63).toNatClampNeg - 1) + z_8.toNatClampNeg from (by have q1 : z_10.toNatClampNeg = z_10.toInt.toNat := rfl; have q1 : z_8.toNatClampNeg = z_8.toInt.toNat := rfl; have q1 : (sg 63).toNatClampNeg = (sg 63).toInt.toNat := rfl; have := i32_0; have := i32_1; have := i32_2; have := i32_m1; have := (show iv 0 80 (sg 63) from MI_s hI 63).1; have := (show iv 0 80 (sg 63) from MI_s hI 63).2; have := (hsx1_30).1; have := (hsx1_30).2; have := (h_5).1; have := (h_5).2; have := (hsx4_30).1; have := (hsx4_30).2; have := (h63).1; have := (h63).2; have := (h_4).1; have := (h_4).2; have := (hx6_30).1; have := (hx6_30).2; have := (hx5_30).1; have := (hx5_30).2; have := (hz_6).1; have := (hz_6).2; have := (hz_7).1; have := (hz_7).2; have := (h_9).1; have := (h_9).2; have := (hz_10).1; have := (hz_10).2; have := (hr67).1; have := (hr67).2; have := (h_17).1; have := (h_17).2; have := (hz_18).1; have := (hz_18).2; have := (hz_19).1; have := (hz_19).2; have := (hz_20).1; have := (hz_20).2; omega))]; exact q5) (by rw [((show z_21.toInt = (wg 54 (3 * s9 + x7_30.toNatClampNeg)).toInt ∧ ty9 (wg 54 (3 * s9 + x7_30.toNatClampNeg)).toInt from (by have q5 := hSG.2 _ (show x7_30.toNatClampNeg < nx.toNatClampNeg from (by have q1 : x7_30.toNatClampNeg = x7_30.toInt.toNat := rfl; have q1 : nx.toNatClampNeg = nx.toInt.toNat := rfl; have := i32_0; have := i32_1; have := i32_2; have := i32_m1; have := (hsx1_30).1; have := (hsx1_30).2; have := (h_5).1; have := (h_5).2; have := (hsx4_30).1; have := (hsx4_30).2; have := (h63).1; have := (h63).2; have := (h_4).1; have := (h_4).2; have := (hx6_30).1; have := (hx6_30).2; have := (hx5_30).1; have := (hx5_30).2; have := (hz_6).1; have := (hz_6).2; have := (hz_7).1; have := (hz_7).2; have := (h_9).1; have := (h_9).2; have := (hz_10).1; have := (hz_10).2; have := (hr67).1; have := (hr67).2; have := (h_17).1; have := (h_17).2; have := (hz_18).1; have := (hz_18).2; have := (hz_19).1; have := (hz_19).2; have := (hz_20).1; have := (hz_20).2; omega)); rw [show ba.toNatClampNeg + x7_30.toNatClampNeg = z_20.toNatClampNeg from (by have q1 : ba.toNatClampNeg = ba.toInt.toNat := rfl; have q1 : x7_30.toNatClampNeg = x7_30.toInt.toNat := rfl; have q1 : z_20.toNatClampNeg = z_20.toInt.toNat := rfl; have := i32_0; have := i32_1; have := i32_2; have := i32_m1; have := (hsx1_30).1; have := (hsx1_30).2; have := (h_5).1; have := (h_5).2; have := (hsx4_30).1; have := (hsx4_30).2; have := (h63).1; have := (h63).2; have := (h_4).1; have := (h_4).2; have := (hx6_30).1; have := (hx6_30).2; have := (hx5_30).1; have := (hx5_30).2; have := (hz_6).1; have := (hz_6).2; have := (hz_7).1; have := (hz_7).2; have := (h_9).1; have := (h_9).2; have := (hz_10).1; have := (hz_10).2; have := (hr67).1; have := (hr67).2; have := (h_17).1; have := (h_17).2; have := (hz_18).1; have := (hz_18).2; have := (hz_19).1; have := (hz_19).2; have := (hz_20).1; have := (hz_20).2; omega)] at q5; rw [ez_21]; exact q5))).1]; exact ((show z_21.toInt = (wg 54 (3 * s9 + x7_30.toNatClampNeg)).toInt ∧ ty9 (wg 54 (3 * s9 + x7_30.toNatClampNeg)).toInt from (by have q5 := hSG.2 _ (show x7_30.toNatClampNeg < nx.toNatClampNeg from (by have q1 : x7_30.toNatClampNeg = x7_30.toInt.toNat := rfl; have q1 : nx.toNatClampNeg = nx.toInt.toNat := rfl; have := i32_0; have := i32_1; have := i32_2; have := i32_m1; have := (hsx1_30).1; have := (hsx1_30).2; have := (h_5).1; have := (h_5).2; have := (hsx4_30).1; have := (hsx4_30).2; have := (h63).1; have := (h63).2; have := (h_4).1; have := (h_4).2; have := (hx6_30).1; have := (hx6_30).2; have := (hx5_30).1; have := (hx5_30).2; have := (hz_6).1; have := (hz_6).2; have := (hz_7).1; have := (hz_7).2; have := (h_9).1; have := (h_9).2; have := (hz_10).1; have := (hz_10).2; have := (hr67).1; have := (hr67).2; have := (h_17).1; have := (h_17).2; have := (hz_18).1; have := (hz_18).2; have := (hz_19).1; have := (hz_19).2; have := (hz_20).1; have := (hz_20).2; omega)); rw [show ba.toNatClampNeg + x7_30.toNatClampNeg = z_20.toNatClampNeg from (by have q1 : ba.toNatClampNeg = ba.toInt.toNat := rfl; have q1 : x7_30.toNatClampNeg = x7_30.toInt.toNat := rfl; have q1 : z_20.toNatClampNeg = z_20.toInt.toNat := rfl; have := i32_0; have := i32_1; have := i32_2; have := i32_m1; have := (hsx1_30).1; have := (hsx1_30).2; have := (h_5).1; have := (h_5).2; have := (hsx4_30).1; have := (hsx4_30).2; have := (h63).1; have := (h63).2; have := (h_4).1; have := (h_4).2; have := (hx6_30).1; have := (hx6_30).2; have := (hx5_30).1; have := (hx5_30).2; have := (hz_6).1; have := (hz_6).2; have := (hz_7).1; have := (hz_7).2; have := (h_9).1; have := (h_9).2; have := (hz_10).1; have := (hz_10).2; have := (hr67).1; have := (hr67).2; have := (h_17).1; have := (h_17).2; have := (hz_18).1; have := (hz_18).2; have := (hz_19).1; have := (hz_19).2; have := (hz_20).1; have := (hz_20).2; omega)] at q5; rw [ez_21]; exact q5))).2)) (cwV 3 htb (gd_V kw_1290 kw_1291 kw_133 kw_160 kw_1643) rfl rfl rfl (by decide +kernel) ⟨Nat.le_of_ble_eq_true rfl, Nat.le_of_ble_eq_true rfl⟩) rfl hl.1 rfl (Nat.le_of_ble_eq_true rfl) dX13_sum_116 ⟨Nat.zero_le _, Nat.zero_le _⟩ hK hP hD hS hA (fun r_22 u_23 H locs hw hP hD hS => ?_)
          obtain ⟨hr_22, fw_r_22, rfl⟩ := hw
          have hP : va_P (dC, dI) vwCl (mW h0 ad cid sg gm_j30 lg) H := hP
          have hD : va_D A (mW h0 ad cid sg gm_j30 lg) := hD
          have hw116 : r_22.toInt = wCo wg wl (zO S) (ctE wg r_12.toNatClampNeg) ((VS[z_8.toNatClampNeg]?).getD []) (wg 54 (3 * s9 + x7_30.toNatClampNeg)).toInt := (by have q9 := fw_r_22; rw [((show z_21.toInt = (wg 54 (3 * s9 + x7_30.toNatClampNeg)).toInt ∧ ty9 (wg 54 (3 * s9 + x7_30.toNatClampNeg)).toInt from (by have q5 := hSG.2 _ (show x7_30.toNatClampNeg < nx.toNatClampNeg from (by have q1 : x7_30.toNatClampNeg = x7_30.toInt.toNat := rfl; have q1 : nx.toNatClampNeg = nx.toInt.toNat := rfl; have := i32_0; have := i32_1; have := i32_2; have := i32_m1; have := (hsx1_30).1; have := (hsx1_30).2; have := (h_5).1; have := (h_5).2; have := (hsx4_30).1; have := (hsx4_30).2; have := (h63).1; have := (h63).2; have := (h_4).1; have := (h_4).2; have := (hx6_30).1; have := (hx6_30).2; have := (hx5_30).1; have := (hx5_30).2; have := (hz_6).1; have := (hz_6).2; have := (hz_7).1; have := (hz_7).2; have := (h_9).1; have := (h_9).2; have := (hz_10).1; have := (hz_10).2; have := (hr67).1; have := (hr67).2; have := (h_17).1; have := (h_17).2; have := (hz_18).1; have := (hz_18).2; have := (hz_19).1; have := (hz_19).2; have := (hz_20).1; have := (hz_20).2; have := (hr_22).1; have := (hr_22).2; omega)); rw [show ba.toNatClampNeg + x7_30.toNatClampNeg = z_20.toNatClampNeg from (by have q1 : ba.toNatClampNeg = ba.toInt.toNat := rfl; have q1 : x7_30.toNatClampNeg = x7_30.toInt.toNat := rfl; have q1 : z_20.toNatClampNeg = z_20.toInt.toNat := rfl; have := i32_0; have := i32_1; have := i32_2; have := i32_m1; have := (hsx1_30).1; have := (hsx1_30).2; have := (h_5).1; have := (h_5).2; have := (hsx4_30).1; have := (hsx4_30).2; have := (h63).1; have := (h63).2; have := (h_4).1; have := (h_4).2; have := (hx6_30).1; have := (hx6_30).2; have := (hx5_30).1; have := (hx5_30).2; have := (hz_6).1; have := (hz_6).2; have := (hz_7).1; have := (hz_7).2; have := (h_9).1; have := (h_9).2; have := (hz_10).1; have := (hz_10).2; have := (hr67).1; have := (hr67).2; have := (h_17).1; have := (h_17).2; have := (hz_18).1; have := (hz_18).2; have := (hz_19).1; have := (hz_19).2; have := (hz_20).1; have := (hz_20).2; have := (hr_22).1; have := (hr_22).2; omega)] at q5; rw [ez_21]; exact q5))).1] at q9; exact q9)
          refine lv_istore (lv' := [(10, .int r_22), (9, .int r_14), (8, .int z_10), (7, .int x7_30), (6, .int x6_30), (5, .int x5_30), (0, .ref h0), (1, .int b), (2, .int nx), (3, .ref (ad 9)), (4, .int ba)]) hx hb dX13_sum_119 hl (by decide) rfl (fun ls hl => ?_)
          refine lv_iload hx hb dX13_sum_121 (lv_at hl 0 rfl) ?_
          refine lv_iconst (v := (-1)) hx hb dX13_sum_123 (by decide) ?_
          refine lv_icmp_ne (tgt := 129) hx hb dX13_sum_124 (by decide) (fun c_24 => ?_) (fun c_24 => ?_)
          · have h_25 : iv 0 14 r_22 := iv_neL c_24 hr_22 (by decide)
            have h6t : iv 0 28 x6_30 := ⟨(hx6_30).1, (by have := h6b; have := i32_0; have := i32_1; have := i32_2; have := i32_m1; have := (hsx1_30).1; have := (hsx1_30).2; have := (h_5).1; have := (h_5).2; have := (hsx4_30).1; have := (hsx4_30).2; have := (h63).1; have := (h63).2; have := (h_4).1; have := (h_4).2; have := (hx6_30).1; have := (hx6_30).2; have := (hx5_30).1; have := (hx5_30).2; have := (hz_6).1; have := (hz_6).2; have := (hz_7).1; have := (hz_7).2; have := (h_9).1; have := (h_9).2; have := (hz_10).1; have := (hz_10).2; have := (hr67).1; have := (hr67).2; have := (h_17).1; have := (h_17).2; have := (hz_18).1; have := (hz_18).2; have := (hz_19).1; have := (hz_19).2; have := (hz_20).1; have := (hz_20).2; have := (h_25).1; have := (h_25).2; omega)⟩
            refine lv_iload hx hb dX13_sum_129 (lv_at hl 4 rfl) ?_
            refine lv_iload hx hb dX13_sum_131 (lv_at hl 0 rfl) ?_
            refine lv_iadd hx hb dX13_sum_133 ?_
            refine lv_topi (fun z_26 ez_26 => ?_)
            have hz_26 : iv 0 42 z_26 := iv_of ez_26 (iv_add h6t h_25 (by decide))
            have tz_26 : z_26.toInt = (x6_30 : Int32).toInt + (r_22 : Int32).toInt := by rw [ez_26]; exact iv_addE h6t h_25 (by decide)
            refine lv_istore (lv' := [(6, .int z_26), (10, .int r_22), (9, .int r_14), (8, .int z_10), (7, .int x7_30), (5, .int x5_30), (0, .ref h0), (1, .int b), (2, .int nx), (3, .ref (ad 9)), (4, .int ba)]) hx hb dX13_sum_134 hl (by decide) rfl (fun ls hl => ?_)
            obtain ⟨z_27, ez_27⟩ : ∃ z : Int32, z = x7_30 + 1 := ⟨_, rfl⟩
            have hz_27 : iv 1 3 z_27 := iv_of ez_27 (iv_add h_4 (iv_k (by decide) : iv 1 1 1) (by decide))
            have tz_27 : z_27.toInt = x7_30.toInt + 1 := by rw [ez_27]; exact iv_addE h_4 (iv_k (by decide) : iv 1 1 1) (by decide)
            refine lv_iinc (v := z_27) (lv' := [(7, .int z_27), (6, .int z_26), (10, .int r_22), (9, .int r_14), (8, .int z_10), (5, .int x5_30), (0, .ref h0), (1, .int b), (2, .int nx), (3, .ref (ad 9)), (4, .int ba)]) hx hb dX13_sum_136 hl (k := 4) rfl ez_27.symm (by decide) rfl (fun ls hl => ?_)
            refine lv_goto (tgt := 30) hx hb dX13_sum_139 (by decide) ?_
            exact ih30 _ (by rw [← hn30]; exact (iv_meas tz_27 h_4 (by decide))) gm_j30 z_27 z_26 x5_30 rfl (iv_w hz_27 (by decide)) hz_26 hx5_30 hsx1_30 (iv_w h_5 (by decide)) hsx4_30 (KS_tr (L := [75]) KS_rf hkg_j30 (by decide)) hI_j30 (hSPF) (hAN) (hmn) ((by have := h6b; have := i32_0; have := i32_1; have := i32_2; have := i32_m1; have := (hsx1_30).1; have := (hsx1_30).2; have := (h_5).1; have := (h_5).2; have := (hsx4_30).1; have := (hsx4_30).2; have := (h63).1; have := (h63).2; have := (h_4).1; have := (h_4).2; have := (h6t).1; have := (h6t).2; have := (hx5_30).1; have := (hx5_30).2; have := (hz_6).1; have := (hz_6).2; have := (hz_7).1; have := (hz_7).2; have := (h_9).1; have := (h_9).2; have := (hz_10).1; have := (hz_10).2; have := (hr67).1; have := (hr67).2; have := (h_17).1; have := (h_17).2; have := (hz_18).1; have := (hz_18).2; have := (hz_19).1; have := (hz_19).2; have := (hz_20).1; have := (hz_20).2; have := (h_25).1; have := (h_25).2; have := (hz_26).1; have := (hz_26).2; have := (hz_27).1; have := (hz_27).2; omega)) ((by have q9 := hsu0; rw [if_neg (fun q => q.1 (by rw [← hask]; have := i32_0; have := i32_1; have := i32_2; have := i32_m1; have := (hsx1_30).1; have := (hsx1_30).2; have := (h_5).1; have := (h_5).2; have := (hsx4_30).1; have := (hsx4_30).2; have := (h63).1; have := (h63).2; have := (h_4).1; have := (h_4).2; have := (h6t).1; have := (h6t).2; have := (hx5_30).1; have := (hx5_30).2; have := (hz_6).1; have := (hz_6).2; have := (hz_7).1; have := (hz_7).2; have := (h_9).1; have := (h_9).2; have := (hz_10).1; have := (hz_10).2; have := (hr67).1; have := (hr67).2; have := (h_17).1; have := (h_17).2; have := (hz_18).1; have := (hz_18).2; have := (hz_19).1; have := (hz_19).2; have := (hz_20).1; have := (hz_20).2; have := (h_25).1; have := (h_25).2; have := (hz_26).1; have := (hz_26).2; have := (hz_27).1; have := (hz_27).2; omega)), ← hw116, if_neg (fun q => c_24 (Int32.toInt_inj.mp (q.trans (by decide))))] at q9; rw [show z_27.toNatClampNeg = x7_30.toNatClampNeg + 1 from (by have q1 : z_27.toNatClampNeg = z_27.toInt.toNat := rfl; have q1 : x7_30.toNatClampNeg = x7_30.toInt.toNat := rfl; have := i32_0; have := i32_1; have := i32_2; have := i32_m1; have := (hsx1_30).1; have := (hsx1_30).2; have := (h_5).1; have := (h_5).2; have := (hsx4_30).1; have := (hsx4_30).2; have := (h63).1; have := (h63).2; have := (h_4).1; have := (h_4).2; have := (h6t).1; have := (h6t).2; have := (hx5_30).1; have := (hx5_30).2; have := (hz_6).1; have := (hz_6).2; have := (hz_7).1; have := (hz_7).2; have := (h_9).1; have := (h_9).2; have := (hz_10).1; have := (hz_10).2; have := (hr67).1; have := (hr67).2; have := (h_17).1; have := (h_17).2; have := (hz_18).1; have := (hz_18).2; have := (hz_19).1; have := (hz_19).2; have := (hz_20).1; have := (hz_20).2; have := (h_25).1; have := (h_25).2; have := (hz_26).1; have := (hz_26).2; have := (hz_27).1; have := (hz_27).2; omega), show z_26.toInt = x6_30.toInt + r_22.toInt from (by have := i32_0; have := i32_1; have := i32_2; have := i32_m1; have := (hsx1_30).1; have := (hsx1_30).2; have := (h_5).1; have := (h_5).2; have := (hsx4_30).1; have := (hsx4_30).2; have := (h63).1; have := (h63).2; have := (h_4).1; have := (h_4).2; have := (h6t).1; have := (h6t).2; have := (hx5_30).1; have := (hx5_30).2; have := (hz_6).1; have := (hz_6).2; have := (hz_7).1; have := (hz_7).2; have := (h_9).1; have := (h_9).2; have := (hz_10).1; have := (hz_10).2; have := (hr67).1; have := (hr67).2; have := (h_17).1; have := (h_17).2; have := (hz_18).1; have := (hz_18).2; have := (hz_19).1; have := (hz_19).2; have := (hz_20).1; have := (hz_20).2; have := (h_25).1; have := (h_25).2; have := (hz_26).1; have := (hz_26).2; have := (hz_27).1; have := (hz_27).2; omega)]; exact q9)) _ _ _ hP hD hS (lv_sub hl [0, 1, 5, 6, 7, 8, 9, 10] rfl)
          · have h_28 : iv (-1) (-1) r_22 := iv_eq c_24 hr_22 (iv_k (by decide) : iv (-1) (-1) (-1)) (by decide)
            refine lv_iconst (v := (-1)) hx hb dX13_sum_127 (by decide) ?_
            exact W.iret (v := (-1)) hx hb hr (fun t ht hW => ⟨⟨(-1), (sg, gm_j30, lg), rfl, ⟨sg, gm_j30, lg, rfl, hI_j30, KS_rf, (KS_tr (L := [75]) KS_rf hkg_j30 (by decide)), KS_rf, (iv_w (iv_k (by decide) : iv (-1) (-1) (-1)) (by decide)), (Or.inl rfl), ((by have q9 := hsu0; rw [if_neg (fun q => q.1 (by rw [← hask]; have := i32_0; have := i32_1; have := i32_2; have := i32_m1; have := (hsx1_30).1; have := (hsx1_30).2; have := (h_5).1; have := (h_5).2; have := (hsx4_30).1; have := (hsx4_30).2; have := (h63).1; have := (h63).2; have := (h_4).1; have := (h_4).2; have := (hx6_30).1; have := (hx6_30).2; have := (hx5_30).1; have := (hx5_30).2; have := (hz_6).1; have := (hz_6).2; have := (hz_7).1; have := (hz_7).2; have := (h_9).1; have := (h_9).2; have := (hz_10).1; have := (hz_10).2; have := (hr67).1; have := (hr67).2; have := (h_17).1; have := (h_17).2; have := (hz_18).1; have := (hz_18).2; have := (hz_19).1; have := (hz_19).2; have := (hz_20).1; have := (hz_20).2; have := (h_28).1; have := (h_28).2; omega)), ← hw116, if_pos (by have := i32_0; have := i32_1; have := i32_2; have := i32_m1; have := (hsx1_30).1; have := (hsx1_30).2; have := (h_5).1; have := (h_5).2; have := (hsx4_30).1; have := (hsx4_30).2; have := (h63).1; have := (h63).2; have := (h_4).1; have := (h_4).2; have := (hx6_30).1; have := (hx6_30).2; have := (hx5_30).1; have := (hx5_30).2; have := (hz_6).1; have := (hz_6).2; have := (hz_7).1; have := (hz_7).2; have := (h_9).1; have := (h_9).2; have := (hz_10).1; have := (hz_10).2; have := (hr67).1; have := (hr67).2; have := (h_17).1; have := (h_17).2; have := (hz_18).1; have := (hz_18).2; have := (hz_19).1; have := (hz_19).2; have := (hz_20).1; have := (hz_20).2; have := (h_28).1; have := (h_28).2; omega)] at q9; rw [q9]; rfl))⟩, by rw [ht]; exact hP, va_K.moved hW.alike hK, hD⟩, hS.F ht⟩) hS.2.2 dX13_sum_128
        · have h_29 : iv 0 15 r_14 := iv_neL c_16 hr_14 (by decide)
          refine lv_iload hx hb dX13_sum_78 (lv_at hl 0 rfl) ?_
          refine lv_aload_n hx hb dX13_sum_80 rfl (lv_at hl 8 rfl) ?_
          refine lv_iload hx hb dX13_sum_81 (lv_at hl 9 rfl) ?_
          refine lv_iload hx hb dX13_sum_83 (lv_at hl 2 rfl) ?_
          refine lv_iadd hx hb dX13_sum_85 ?_
          refine lv_topi (fun z_30 ez_30 => ?_)
          have hz_30 : iv 0 95 z_30 := iv_of ez_30 (iv_add hsx4_30 h_4 (by decide))
          have tz_30 : z_30.toInt = (ba : Int32).toInt + (x7_30 : Int32).toInt := by rw [ez_30]; exact iv_addE hsx4_30 h_4 (by decide)
          refine mr_iald hx hb hK hP 8 (k := 9) rfl rfl rfl (show vp_in z_30 96 from (iv_in hz_30 (by decide))) dX13_sum_86 ?_
          refine lv_topi (fun z_31 ez_31 => ?_)
          have ez_31 := ez_31.trans (congrFun (hkg_j30 9 (by decide)) _)
          refine lv_icmp_eq (tgt := 94) hx hb dX13_sum_87 (by decide) (fun c_32 => ?_) (fun c_32 => ?_)
          · have d_33 : (r_14 : Int32).toInt = (z_31 : Int32).toInt := congrArg Int32.toInt c_32
            have h_34 : iv 0 15 z_31 := iv_eq (Eq.symm c_32) (iv_all z_31) h_29 (by decide)
            refine lv_aload_n hx hb dX13_sum_94 rfl (lv_at hl 5 rfl) ?_
            refine lv_aload_n hx hb dX13_sum_95 rfl (lv_at hl 5 rfl) ?_
            refine mr_get (v := .ref (ad 70)) hx hb htb inX13 hown hK hP 70 (by decide) (htb _ kw_1097) rfl dX13_sum_96 ?_
            refine lv_iload hx hb dX13_sum_99 (lv_at hl 1 rfl) ?_
            refine mr_iald hx hb hK hP 55 (k := 70) rfl rfl rfl (show vp_in z_10 405 from (iv_in hz_10 (by decide))) dX13_sum_101 ?_
            refine lv_topi (fun z_35 ez_35 => ?_)
            have hz_35 : iv 0 3 z_35 := iv_of ez_35 (MI_a hI_j30 70 hz_10 (by decide))
            have ez_35 := ez_35.trans (congrFun (hkg_j30 70 (by decide)) _)
            refine lv_aload_n hx hb dX13_sum_102 rfl (lv_at hl 5 rfl) ?_
            refine mr_get (v := .ref (ad 71)) hx hb htb inX13 hown hK hP 71 (by decide) (htb _ kw_1098) rfl dX13_sum_103 ?_
            refine lv_iload hx hb dX13_sum_106 (lv_at hl 1 rfl) ?_
            refine mr_iald hx hb hK hP 56 (k := 71) rfl rfl rfl (show vp_in z_10 405 from (iv_in hz_10 (by decide))) dX13_sum_108 ?_
            refine lv_topi (fun z_36 ez_36 => ?_)
            have hz_36 : iv 0 1079 z_36 := iv_of ez_36 (MI_a hI_j30 71 hz_10 (by decide))
            have ez_36 := ez_36.trans (congrFun (hkg_j30 71 (by decide)) _)
            refine lv_aload_n hx hb dX13_sum_109 rfl (lv_at hl 8 rfl) ?_
            refine lv_iload hx hb dX13_sum_110 (lv_at hl 9 rfl) ?_
            refine lv_iload hx hb dX13_sum_112 (lv_at hl 2 rfl) ?_
            refine lv_iadd hx hb dX13_sum_114 ?_
            refine lv_topi (fun z_37 ez_37 => ?_)
            obtain rfl : z_30 = z_37 := ez_30.trans ez_37.symm
            refine mr_iald hx hb hK hP 8 (k := 9) rfl rfl rfl (show vp_in z_30 96 from (iv_in hz_30 (by decide))) dX13_sum_115 ?_
            refine lv_topi (fun z_38 ez_38 => ?_)
            obtain rfl : z_31 = z_38 := ez_31.trans (ez_38.trans (congrFun (hkg_j30 9 (by decide)) _)).symm
            refine mr_calli (rest := []) ⟨hx, hb, hml, hown, htb⟩ (f_weight9 l dC dI h0 ad cid sg gm_j30 lg z_35 z_36 z_31 wg wl rg S (ctE wg r_12.toNatClampNeg) ((VS[z_8.toNatClampNeg]?).getD []) hI_j30 hz_35 hz_36 (VAL_at hva (show iv 0 404 z_10 from (iv_w hz_10 (by decide))) ez_35 ez_36) (by have q9 : PR gm := hPR; unfold PR at *; rw [(hkg_j30 6 (by decide))]; exact q9) ((rt9_ks (L := [75]) (KS_tr (L := [75]) KS_rf hkg_j30 (by decide)) (by decide)).trans hRW) hCL (RR_ks (L := []) (M := [75]) hRR KS_rf (KS_tr (L := [75]) KS_rf hkg_j30 (by decide)) (by decide) (by decide)) hWD (by have q5 := (hFV _ hz41).1; rw [hel9] at q5; rw [ez_35, ez_36, (show z_10.toNatClampNeg = 5 * ((sg 63).toNatClampNeg - 1) + z_8.toNatClampNeg from (by have q1 : z_10.toNatClampNeg = z_10.toInt.toNat := rfl; have q1 : z_8.toNatClampNeg = z_8.toInt.toNat := rfl; have q1 : (sg 63).toNatClampNeg = (sg 63).toInt.toNat := rfl; have := i32_0; have := i32_1; have := i32_2; have := i32_m1; have := (show iv 0 80 (sg 63) from MI_s hI 63).1; have := (show iv 0 80 (sg 63) from MI_s hI 63).2; have := (hsx1_30).1; have := (hsx1_30).2; have := (h_5).1; have := (h_5).2; have := (hsx4_30).1; have := (hsx4_30).2; have := (h63).1; have := (h63).2; have := (h_4).1; have := (h_4).2; have := (hx6_30).1; have := (hx6_30).2; have := (hx5_30).1; have := (hx5_30).2; have := (hz_6).1; have := (hz_6).2; have := (hz_7).1; have := (hz_7).2; have := (h_9).1; have := (h_9).2; have := (hz_10).1; have := (hz_10).2; have := (hr67).1; have := (hr67).2; have := (h_29).1; have := (h_29).2; have := (hz_30).1; have := (hz_30).2; have := (h_34).1; have := (h_34).2; have := (hz_35).1; have := (hz_35).2; have := (hz_36).1; have := (hz_36).2; omega))]; exact q5) (by rw [((show z_31.toInt = (wg 54 (3 * s9 + x7_30.toNatClampNeg)).toInt ∧ ty9 (wg 54 (3 * s9 + x7_30.toNatClampNeg)).toInt from (by have q5 := hSG.2 _ (show x7_30.toNatClampNeg < nx.toNatClampNeg from (by have q1 : x7_30.toNatClampNeg = x7_30.toInt.toNat := rfl; have q1 : nx.toNatClampNeg = nx.toInt.toNat := rfl; have := i32_0; have := i32_1; have := i32_2; have := i32_m1; have := (hsx1_30).1; have := (hsx1_30).2; have := (h_5).1; have := (h_5).2; have := (hsx4_30).1; have := (hsx4_30).2; have := (h63).1; have := (h63).2; have := (h_4).1; have := (h_4).2; have := (hx6_30).1; have := (hx6_30).2; have := (hx5_30).1; have := (hx5_30).2; have := (hz_6).1; have := (hz_6).2; have := (hz_7).1; have := (hz_7).2; have := (h_9).1; have := (h_9).2; have := (hz_10).1; have := (hz_10).2; have := (hr67).1; have := (hr67).2; have := (h_29).1; have := (h_29).2; have := (hz_30).1; have := (hz_30).2; have := (h_34).1; have := (h_34).2; have := (hz_35).1; have := (hz_35).2; have := (hz_36).1; have := (hz_36).2; omega)); rw [show ba.toNatClampNeg + x7_30.toNatClampNeg = z_30.toNatClampNeg from (by have q1 : ba.toNatClampNeg = ba.toInt.toNat := rfl; have q1 : x7_30.toNatClampNeg = x7_30.toInt.toNat := rfl; have q1 : z_30.toNatClampNeg = z_30.toInt.toNat := rfl; have := i32_0; have := i32_1; have := i32_2; have := i32_m1; have := (hsx1_30).1; have := (hsx1_30).2; have := (h_5).1; have := (h_5).2; have := (hsx4_30).1; have := (hsx4_30).2; have := (h63).1; have := (h63).2; have := (h_4).1; have := (h_4).2; have := (hx6_30).1; have := (hx6_30).2; have := (hx5_30).1; have := (hx5_30).2; have := (hz_6).1; have := (hz_6).2; have := (hz_7).1; have := (hz_7).2; have := (h_9).1; have := (h_9).2; have := (hz_10).1; have := (hz_10).2; have := (hr67).1; have := (hr67).2; have := (h_29).1; have := (h_29).2; have := (hz_30).1; have := (hz_30).2; have := (h_34).1; have := (h_34).2; have := (hz_35).1; have := (hz_35).2; have := (hz_36).1; have := (hz_36).2; omega)] at q5; rw [ez_31]; exact q5))).1]; exact ((show z_31.toInt = (wg 54 (3 * s9 + x7_30.toNatClampNeg)).toInt ∧ ty9 (wg 54 (3 * s9 + x7_30.toNatClampNeg)).toInt from (by have q5 := hSG.2 _ (show x7_30.toNatClampNeg < nx.toNatClampNeg from (by have q1 : x7_30.toNatClampNeg = x7_30.toInt.toNat := rfl; have q1 : nx.toNatClampNeg = nx.toInt.toNat := rfl; have := i32_0; have := i32_1; have := i32_2; have := i32_m1; have := (hsx1_30).1; have := (hsx1_30).2; have := (h_5).1; have := (h_5).2; have := (hsx4_30).1; have := (hsx4_30).2; have := (h63).1; have := (h63).2; have := (h_4).1; have := (h_4).2; have := (hx6_30).1; have := (hx6_30).2; have := (hx5_30).1; have := (hx5_30).2; have := (hz_6).1; have := (hz_6).2; have := (hz_7).1; have := (hz_7).2; have := (h_9).1; have := (h_9).2; have := (hz_10).1; have := (hz_10).2; have := (hr67).1; have := (hr67).2; have := (h_29).1; have := (h_29).2; have := (hz_30).1; have := (hz_30).2; have := (h_34).1; have := (h_34).2; have := (hz_35).1; have := (hz_35).2; have := (hz_36).1; have := (hz_36).2; omega)); rw [show ba.toNatClampNeg + x7_30.toNatClampNeg = z_30.toNatClampNeg from (by have q1 : ba.toNatClampNeg = ba.toInt.toNat := rfl; have q1 : x7_30.toNatClampNeg = x7_30.toInt.toNat := rfl; have q1 : z_30.toNatClampNeg = z_30.toInt.toNat := rfl; have := i32_0; have := i32_1; have := i32_2; have := i32_m1; have := (hsx1_30).1; have := (hsx1_30).2; have := (h_5).1; have := (h_5).2; have := (hsx4_30).1; have := (hsx4_30).2; have := (h63).1; have := (h63).2; have := (h_4).1; have := (h_4).2; have := (hx6_30).1; have := (hx6_30).2; have := (hx5_30).1; have := (hx5_30).2; have := (hz_6).1; have := (hz_6).2; have := (hz_7).1; have := (hz_7).2; have := (h_9).1; have := (h_9).2; have := (hz_10).1; have := (hz_10).2; have := (hr67).1; have := (hr67).2; have := (h_29).1; have := (h_29).2; have := (hz_30).1; have := (hz_30).2; have := (h_34).1; have := (h_34).2; have := (hz_35).1; have := (hz_35).2; have := (hz_36).1; have := (hz_36).2; omega)] at q5; rw [ez_31]; exact q5))).2)) (cwV 3 htb (gd_V kw_1290 kw_1291 kw_133 kw_160 kw_1643) rfl rfl rfl (by decide +kernel) ⟨Nat.le_of_ble_eq_true rfl, Nat.le_of_ble_eq_true rfl⟩) rfl hl.1 rfl (Nat.le_of_ble_eq_true rfl) dX13_sum_116 ⟨Nat.zero_le _, Nat.zero_le _⟩ hK hP hD hS hA (fun r_39 u_40 H locs hw hP hD hS => ?_)
            obtain ⟨hr_39, fw_r_39, rfl⟩ := hw
            have hP : va_P (dC, dI) vwCl (mW h0 ad cid sg gm_j30 lg) H := hP
            have hD : va_D A (mW h0 ad cid sg gm_j30 lg) := hD
            have hw116 : r_39.toInt = wCo wg wl (zO S) (ctE wg r_12.toNatClampNeg) ((VS[z_8.toNatClampNeg]?).getD []) (wg 54 (3 * s9 + x7_30.toNatClampNeg)).toInt := (by have q9 := fw_r_39; rw [((show z_31.toInt = (wg 54 (3 * s9 + x7_30.toNatClampNeg)).toInt ∧ ty9 (wg 54 (3 * s9 + x7_30.toNatClampNeg)).toInt from (by have q5 := hSG.2 _ (show x7_30.toNatClampNeg < nx.toNatClampNeg from (by have q1 : x7_30.toNatClampNeg = x7_30.toInt.toNat := rfl; have q1 : nx.toNatClampNeg = nx.toInt.toNat := rfl; have := i32_0; have := i32_1; have := i32_2; have := i32_m1; have := (hsx1_30).1; have := (hsx1_30).2; have := (h_5).1; have := (h_5).2; have := (hsx4_30).1; have := (hsx4_30).2; have := (h63).1; have := (h63).2; have := (h_4).1; have := (h_4).2; have := (hx6_30).1; have := (hx6_30).2; have := (hx5_30).1; have := (hx5_30).2; have := (hz_6).1; have := (hz_6).2; have := (hz_7).1; have := (hz_7).2; have := (h_9).1; have := (h_9).2; have := (hz_10).1; have := (hz_10).2; have := (hr67).1; have := (hr67).2; have := (h_29).1; have := (h_29).2; have := (hz_30).1; have := (hz_30).2; have := (h_34).1; have := (h_34).2; have := (hz_35).1; have := (hz_35).2; have := (hz_36).1; have := (hz_36).2; have := (hr_39).1; have := (hr_39).2; omega)); rw [show ba.toNatClampNeg + x7_30.toNatClampNeg = z_30.toNatClampNeg from (by have q1 : ba.toNatClampNeg = ba.toInt.toNat := rfl; have q1 : x7_30.toNatClampNeg = x7_30.toInt.toNat := rfl; have q1 : z_30.toNatClampNeg = z_30.toInt.toNat := rfl; have := i32_0; have := i32_1; have := i32_2; have := i32_m1; have := (hsx1_30).1; have := (hsx1_30).2; have := (h_5).1; have := (h_5).2; have := (hsx4_30).1; have := (hsx4_30).2; have := (h63).1; have := (h63).2; have := (h_4).1; have := (h_4).2; have := (hx6_30).1; have := (hx6_30).2; have := (hx5_30).1; have := (hx5_30).2; have := (hz_6).1; have := (hz_6).2; have := (hz_7).1; have := (hz_7).2; have := (h_9).1; have := (h_9).2; have := (hz_10).1; have := (hz_10).2; have := (hr67).1; have := (hr67).2; have := (h_29).1; have := (h_29).2; have := (hz_30).1; have := (hz_30).2; have := (h_34).1; have := (h_34).2; have := (hz_35).1; have := (hz_35).2; have := (hz_36).1; have := (hz_36).2; have := (hr_39).1; have := (hr_39).2; omega)] at q5; rw [ez_31]; exact q5))).1] at q9; exact q9)
            refine lv_istore (lv' := [(10, .int r_39), (9, .int r_14), (8, .int z_10), (7, .int x7_30), (6, .int x6_30), (5, .int x5_30), (0, .ref h0), (1, .int b), (2, .int nx), (3, .ref (ad 9)), (4, .int ba)]) hx hb dX13_sum_119 hl (by decide) rfl (fun ls hl => ?_)
            refine lv_iload hx hb dX13_sum_121 (lv_at hl 0 rfl) ?_
            refine lv_iconst (v := (-1)) hx hb dX13_sum_123 (by decide) ?_
            refine lv_icmp_ne (tgt := 129) hx hb dX13_sum_124 (by decide) (fun c_41 => ?_) (fun c_41 => ?_)
            · have h_42 : iv 0 14 r_39 := iv_neL c_41 hr_39 (by decide)
              have h6t : iv 0 28 x6_30 := ⟨(hx6_30).1, (by have := h6b; have := i32_0; have := i32_1; have := i32_2; have := i32_m1; have := (hsx1_30).1; have := (hsx1_30).2; have := (h_5).1; have := (h_5).2; have := (hsx4_30).1; have := (hsx4_30).2; have := (h63).1; have := (h63).2; have := (h_4).1; have := (h_4).2; have := (hx6_30).1; have := (hx6_30).2; have := (hx5_30).1; have := (hx5_30).2; have := (hz_6).1; have := (hz_6).2; have := (hz_7).1; have := (hz_7).2; have := (h_9).1; have := (h_9).2; have := (hz_10).1; have := (hz_10).2; have := (hr67).1; have := (hr67).2; have := (h_29).1; have := (h_29).2; have := (hz_30).1; have := (hz_30).2; have := (h_34).1; have := (h_34).2; have := (hz_35).1; have := (hz_35).2; have := (hz_36).1; have := (hz_36).2; have := (h_42).1; have := (h_42).2; omega)⟩
              refine lv_iload hx hb dX13_sum_129 (lv_at hl 4 rfl) ?_
              refine lv_iload hx hb dX13_sum_131 (lv_at hl 0 rfl) ?_
              refine lv_iadd hx hb dX13_sum_133 ?_
              refine lv_topi (fun z_43 ez_43 => ?_)
              have hz_43 : iv 0 42 z_43 := iv_of ez_43 (iv_add h6t h_42 (by decide))
              have tz_43 : z_43.toInt = (x6_30 : Int32).toInt + (r_39 : Int32).toInt := by rw [ez_43]; exact iv_addE h6t h_42 (by decide)
              refine lv_istore (lv' := [(6, .int z_43), (10, .int r_39), (9, .int r_14), (8, .int z_10), (7, .int x7_30), (5, .int x5_30), (0, .ref h0), (1, .int b), (2, .int nx), (3, .ref (ad 9)), (4, .int ba)]) hx hb dX13_sum_134 hl (by decide) rfl (fun ls hl => ?_)
              obtain ⟨z_44, ez_44⟩ : ∃ z : Int32, z = x7_30 + 1 := ⟨_, rfl⟩
              have hz_44 : iv 1 3 z_44 := iv_of ez_44 (iv_add h_4 (iv_k (by decide) : iv 1 1 1) (by decide))
              have tz_44 : z_44.toInt = x7_30.toInt + 1 := by rw [ez_44]; exact iv_addE h_4 (iv_k (by decide) : iv 1 1 1) (by decide)
              refine lv_iinc (v := z_44) (lv' := [(7, .int z_44), (6, .int z_43), (10, .int r_39), (9, .int r_14), (8, .int z_10), (5, .int x5_30), (0, .ref h0), (1, .int b), (2, .int nx), (3, .ref (ad 9)), (4, .int ba)]) hx hb dX13_sum_136 hl (k := 4) rfl ez_44.symm (by decide) rfl (fun ls hl => ?_)
              refine lv_goto (tgt := 30) hx hb dX13_sum_139 (by decide) ?_
              exact ih30 _ (by rw [← hn30]; exact (iv_meas tz_44 h_4 (by decide))) gm_j30 z_44 z_43 x5_30 rfl (iv_w hz_44 (by decide)) hz_43 hx5_30 hsx1_30 (iv_w h_5 (by decide)) hsx4_30 (KS_tr (L := [75]) KS_rf hkg_j30 (by decide)) hI_j30 (hSPF) (hAN) (hmn) ((by have := h6b; have := i32_0; have := i32_1; have := i32_2; have := i32_m1; have := (hsx1_30).1; have := (hsx1_30).2; have := (h_5).1; have := (h_5).2; have := (hsx4_30).1; have := (hsx4_30).2; have := (h63).1; have := (h63).2; have := (h_4).1; have := (h_4).2; have := (h6t).1; have := (h6t).2; have := (hx5_30).1; have := (hx5_30).2; have := (hz_6).1; have := (hz_6).2; have := (hz_7).1; have := (hz_7).2; have := (h_9).1; have := (h_9).2; have := (hz_10).1; have := (hz_10).2; have := (hr67).1; have := (hr67).2; have := (h_29).1; have := (h_29).2; have := (hz_30).1; have := (hz_30).2; have := (h_34).1; have := (h_34).2; have := (hz_35).1; have := (hz_35).2; have := (hz_36).1; have := (hz_36).2; have := (h_42).1; have := (h_42).2; have := (hz_43).1; have := (hz_43).2; have := (hz_44).1; have := (hz_44).2; omega)) ((by have q9 := hsu0; rw [if_neg (fun q => q.2 (by rw [← hask, ← ((show z_31.toInt = (wg 54 (3 * s9 + x7_30.toNatClampNeg)).toInt ∧ ty9 (wg 54 (3 * s9 + x7_30.toNatClampNeg)).toInt from (by have q5 := hSG.2 _ (show x7_30.toNatClampNeg < nx.toNatClampNeg from (by have q1 : x7_30.toNatClampNeg = x7_30.toInt.toNat := rfl; have q1 : nx.toNatClampNeg = nx.toInt.toNat := rfl; have := i32_0; have := i32_1; have := i32_2; have := i32_m1; have := (hsx1_30).1; have := (hsx1_30).2; have := (h_5).1; have := (h_5).2; have := (hsx4_30).1; have := (hsx4_30).2; have := (h63).1; have := (h63).2; have := (h_4).1; have := (h_4).2; have := (h6t).1; have := (h6t).2; have := (hx5_30).1; have := (hx5_30).2; have := (hz_6).1; have := (hz_6).2; have := (hz_7).1; have := (hz_7).2; have := (h_9).1; have := (h_9).2; have := (hz_10).1; have := (hz_10).2; have := (hr67).1; have := (hr67).2; have := (h_29).1; have := (h_29).2; have := (hz_30).1; have := (hz_30).2; have := (h_34).1; have := (h_34).2; have := (hz_35).1; have := (hz_35).2; have := (hz_36).1; have := (hz_36).2; have := (h_42).1; have := (h_42).2; have := (hz_43).1; have := (hz_43).2; have := (hz_44).1; have := (hz_44).2; omega)); rw [show ba.toNatClampNeg + x7_30.toNatClampNeg = z_30.toNatClampNeg from (by have q1 : ba.toNatClampNeg = ba.toInt.toNat := rfl; have q1 : x7_30.toNatClampNeg = x7_30.toInt.toNat := rfl; have q1 : z_30.toNatClampNeg = z_30.toInt.toNat := rfl; have := i32_0; have := i32_1; have := i32_2; have := i32_m1; have := (hsx1_30).1; have := (hsx1_30).2; have := (h_5).1; have := (h_5).2; have := (hsx4_30).1; have := (hsx4_30).2; have := (h63).1; have := (h63).2; have := (h_4).1; have := (h_4).2; have := (h6t).1; have := (h6t).2; have := (hx5_30).1; have := (hx5_30).2; have := (hz_6).1; have := (hz_6).2; have := (hz_7).1; have := (hz_7).2; have := (h_9).1; have := (h_9).2; have := (hz_10).1; have := (hz_10).2; have := (hr67).1; have := (hr67).2; have := (h_29).1; have := (h_29).2; have := (hz_30).1; have := (hz_30).2; have := (h_34).1; have := (h_34).2; have := (hz_35).1; have := (hz_35).2; have := (hz_36).1; have := (hz_36).2; have := (h_42).1; have := (h_42).2; have := (hz_43).1; have := (hz_43).2; have := (hz_44).1; have := (hz_44).2; omega)] at q5; rw [ez_31]; exact q5))).1]; have := i32_0; have := i32_1; have := i32_2; have := i32_m1; have := (hsx1_30).1; have := (hsx1_30).2; have := (h_5).1; have := (h_5).2; have := (hsx4_30).1; have := (hsx4_30).2; have := (h63).1; have := (h63).2; have := (h_4).1; have := (h_4).2; have := (h6t).1; have := (h6t).2; have := (hx5_30).1; have := (hx5_30).2; have := (hz_6).1; have := (hz_6).2; have := (hz_7).1; have := (hz_7).2; have := (h_9).1; have := (h_9).2; have := (hz_10).1; have := (hz_10).2; have := (hr67).1; have := (hr67).2; have := (h_29).1; have := (h_29).2; have := (hz_30).1; have := (hz_30).2; have := (h_34).1; have := (h_34).2; have := (hz_35).1; have := (hz_35).2; have := (hz_36).1; have := (hz_36).2; have := (h_42).1; have := (h_42).2; have := (hz_43).1; have := (hz_43).2; have := (hz_44).1; have := (hz_44).2; omega)), ← hw116, if_neg (fun q => c_41 (Int32.toInt_inj.mp (q.trans (by decide))))] at q9; rw [show z_44.toNatClampNeg = x7_30.toNatClampNeg + 1 from (by have q1 : z_44.toNatClampNeg = z_44.toInt.toNat := rfl; have q1 : x7_30.toNatClampNeg = x7_30.toInt.toNat := rfl; have := i32_0; have := i32_1; have := i32_2; have := i32_m1; have := (hsx1_30).1; have := (hsx1_30).2; have := (h_5).1; have := (h_5).2; have := (hsx4_30).1; have := (hsx4_30).2; have := (h63).1; have := (h63).2; have := (h_4).1; have := (h_4).2; have := (h6t).1; have := (h6t).2; have := (hx5_30).1; have := (hx5_30).2; have := (hz_6).1; have := (hz_6).2; have := (hz_7).1; have := (hz_7).2; have := (h_9).1; have := (h_9).2; have := (hz_10).1; have := (hz_10).2; have := (hr67).1; have := (hr67).2; have := (h_29).1; have := (h_29).2; have := (hz_30).1; have := (hz_30).2; have := (h_34).1; have := (h_34).2; have := (hz_35).1; have := (hz_35).2; have := (hz_36).1; have := (hz_36).2; have := (h_42).1; have := (h_42).2; have := (hz_43).1; have := (hz_43).2; have := (hz_44).1; have := (hz_44).2; omega), show z_43.toInt = x6_30.toInt + r_39.toInt from (by have := i32_0; have := i32_1; have := i32_2; have := i32_m1; have := (hsx1_30).1; have := (hsx1_30).2; have := (h_5).1; have := (h_5).2; have := (hsx4_30).1; have := (hsx4_30).2; have := (h63).1; have := (h63).2; have := (h_4).1; have := (h_4).2; have := (h6t).1; have := (h6t).2; have := (hx5_30).1; have := (hx5_30).2; have := (hz_6).1; have := (hz_6).2; have := (hz_7).1; have := (hz_7).2; have := (h_9).1; have := (h_9).2; have := (hz_10).1; have := (hz_10).2; have := (hr67).1; have := (hr67).2; have := (h_29).1; have := (h_29).2; have := (hz_30).1; have := (hz_30).2; have := (h_34).1; have := (h_34).2; have := (hz_35).1; have := (hz_35).2; have := (hz_36).1; have := (hz_36).2; have := (h_42).1; have := (h_42).2; have := (hz_43).1; have := (hz_43).2; have := (hz_44).1; have := (hz_44).2; omega)]; exact q9)) _ _ _ hP hD hS (lv_sub hl [0, 1, 5, 6, 7, 8, 9, 10] rfl)
            · have h_45 : iv (-1) (-1) r_39 := iv_eq c_41 hr_39 (iv_k (by decide) : iv (-1) (-1) (-1)) (by decide)
              refine lv_iconst (v := (-1)) hx hb dX13_sum_127 (by decide) ?_
              exact W.iret (v := (-1)) hx hb hr (fun t ht hW => ⟨⟨(-1), (sg, gm_j30, lg), rfl, ⟨sg, gm_j30, lg, rfl, hI_j30, KS_rf, (KS_tr (L := [75]) KS_rf hkg_j30 (by decide)), KS_rf, (iv_w (iv_k (by decide) : iv (-1) (-1) (-1)) (by decide)), (Or.inl rfl), ((by have q9 := hsu0; rw [if_neg (fun q => q.2 (by rw [← hask, ← ((show z_31.toInt = (wg 54 (3 * s9 + x7_30.toNatClampNeg)).toInt ∧ ty9 (wg 54 (3 * s9 + x7_30.toNatClampNeg)).toInt from (by have q5 := hSG.2 _ (show x7_30.toNatClampNeg < nx.toNatClampNeg from (by have q1 : x7_30.toNatClampNeg = x7_30.toInt.toNat := rfl; have q1 : nx.toNatClampNeg = nx.toInt.toNat := rfl; have := i32_0; have := i32_1; have := i32_2; have := i32_m1; have := (hsx1_30).1; have := (hsx1_30).2; have := (h_5).1; have := (h_5).2; have := (hsx4_30).1; have := (hsx4_30).2; have := (h63).1; have := (h63).2; have := (h_4).1; have := (h_4).2; have := (hx6_30).1; have := (hx6_30).2; have := (hx5_30).1; have := (hx5_30).2; have := (hz_6).1; have := (hz_6).2; have := (hz_7).1; have := (hz_7).2; have := (h_9).1; have := (h_9).2; have := (hz_10).1; have := (hz_10).2; have := (hr67).1; have := (hr67).2; have := (h_29).1; have := (h_29).2; have := (hz_30).1; have := (hz_30).2; have := (h_34).1; have := (h_34).2; have := (hz_35).1; have := (hz_35).2; have := (hz_36).1; have := (hz_36).2; have := (h_45).1; have := (h_45).2; omega)); rw [show ba.toNatClampNeg + x7_30.toNatClampNeg = z_30.toNatClampNeg from (by have q1 : ba.toNatClampNeg = ba.toInt.toNat := rfl; have q1 : x7_30.toNatClampNeg = x7_30.toInt.toNat := rfl; have q1 : z_30.toNatClampNeg = z_30.toInt.toNat := rfl; have := i32_0; have := i32_1; have := i32_2; have := i32_m1; have := (hsx1_30).1; have := (hsx1_30).2; have := (h_5).1; have := (h_5).2; have := (hsx4_30).1; have := (hsx4_30).2; have := (h63).1; have := (h63).2; have := (h_4).1; have := (h_4).2; have := (hx6_30).1; have := (hx6_30).2; have := (hx5_30).1; have := (hx5_30).2; have := (hz_6).1; have := (hz_6).2; have := (hz_7).1; have := (hz_7).2; have := (h_9).1; have := (h_9).2; have := (hz_10).1; have := (hz_10).2; have := (hr67).1; have := (hr67).2; have := (h_29).1; have := (h_29).2; have := (hz_30).1; have := (hz_30).2; have := (h_34).1; have := (h_34).2; have := (hz_35).1; have := (hz_35).2; have := (hz_36).1; have := (hz_36).2; have := (h_45).1; have := (h_45).2; omega)] at q5; rw [ez_31]; exact q5))).1]; have := i32_0; have := i32_1; have := i32_2; have := i32_m1; have := (hsx1_30).1; have := (hsx1_30).2; have := (h_5).1; have := (h_5).2; have := (hsx4_30).1; have := (hsx4_30).2; have := (h63).1; have := (h63).2; have := (h_4).1; have := (h_4).2; have := (hx6_30).1; have := (hx6_30).2; have := (hx5_30).1; have := (hx5_30).2; have := (hz_6).1; have := (hz_6).2; have := (hz_7).1; have := (hz_7).2; have := (h_9).1; have := (h_9).2; have := (hz_10).1; have := (hz_10).2; have := (hr67).1; have := (hr67).2; have := (h_29).1; have := (h_29).2; have := (hz_30).1; have := (hz_30).2; have := (h_34).1; have := (h_34).2; have := (hz_35).1; have := (hz_35).2; have := (hz_36).1; have := (hz_36).2; have := (h_45).1; have := (h_45).2; omega)), ← hw116, if_pos (by have := i32_0; have := i32_1; have := i32_2; have := i32_m1; have := (hsx1_30).1; have := (hsx1_30).2; have := (h_5).1; have := (h_5).2; have := (hsx4_30).1; have := (hsx4_30).2; have := (h63).1; have := (h63).2; have := (h_4).1; have := (h_4).2; have := (hx6_30).1; have := (hx6_30).2; have := (hx5_30).1; have := (hx5_30).2; have := (hz_6).1; have := (hz_6).2; have := (hz_7).1; have := (hz_7).2; have := (h_9).1; have := (h_9).2; have := (hz_10).1; have := (hz_10).2; have := (hr67).1; have := (hr67).2; have := (h_29).1; have := (h_29).2; have := (hz_30).1; have := (hz_30).2; have := (h_34).1; have := (h_34).2; have := (hz_35).1; have := (hz_35).2; have := (hz_36).1; have := (hz_36).2; have := (h_45).1; have := (h_45).2; omega)] at q9; rw [q9]; rfl))⟩, by rw [ht]; exact hP, va_K.moved hW.alike hK, hD⟩, hS.F ht⟩) hS.2.2 dX13_sum_128
          · refine lv_iconst (v := (-1)) hx hb dX13_sum_90 (by decide) ?_
            refine lv_goto (tgt := 119) hx hb dX13_sum_91 (by decide) ?_
            refine lv_istore (lv' := [(10, .int (-1)), (9, .int r_14), (8, .int z_10), (7, .int x7_30), (6, .int x6_30), (5, .int x5_30), (0, .ref h0), (1, .int b), (2, .int nx), (3, .ref (ad 9)), (4, .int ba)]) hx hb dX13_sum_119 hl (by decide) rfl (fun ls hl => ?_)
            refine lv_iload hx hb dX13_sum_121 (lv_at hl 0 rfl) ?_
            refine lv_iconst (v := (-1)) hx hb dX13_sum_123 (by decide) ?_
            refine lv_icmp_ne (tgt := 129) hx hb dX13_sum_124 (by decide) (fun c_46 => absurd (by decide) c_46) (fun _ => ?_)
            refine lv_iconst (v := (-1)) hx hb dX13_sum_127 (by decide) ?_
            exact W.iret (v := (-1)) hx hb hr (fun t ht hW => ⟨⟨(-1), (sg, gm_j30, lg), rfl, ⟨sg, gm_j30, lg, rfl, hI_j30, KS_rf, (KS_tr (L := [75]) KS_rf hkg_j30 (by decide)), KS_rf, (iv_w (iv_k (by decide) : iv (-1) (-1) (-1)) (by decide)), (Or.inl rfl), ((by have q9 := hsu0; rw [if_pos ⟨(by rw [← hask]; exact fun q => c_16 (Int32.toInt_inj.mp (q.trans (by decide)))), (by rw [← hask, ← ((show z_31.toInt = (wg 54 (3 * s9 + x7_30.toNatClampNeg)).toInt ∧ ty9 (wg 54 (3 * s9 + x7_30.toNatClampNeg)).toInt from (by have q5 := hSG.2 _ (show x7_30.toNatClampNeg < nx.toNatClampNeg from (by have q1 : x7_30.toNatClampNeg = x7_30.toInt.toNat := rfl; have q1 : nx.toNatClampNeg = nx.toInt.toNat := rfl; have := i32_0; have := i32_1; have := i32_2; have := i32_m1; have := (hsx1_30).1; have := (hsx1_30).2; have := (h_5).1; have := (h_5).2; have := (hsx4_30).1; have := (hsx4_30).2; have := (h63).1; have := (h63).2; have := (h_4).1; have := (h_4).2; have := (hx6_30).1; have := (hx6_30).2; have := (hx5_30).1; have := (hx5_30).2; have := (hz_6).1; have := (hz_6).2; have := (hz_7).1; have := (hz_7).2; have := (h_9).1; have := (h_9).2; have := (hz_10).1; have := (hz_10).2; have := (hr67).1; have := (hr67).2; have := (h_29).1; have := (h_29).2; have := (hz_30).1; have := (hz_30).2; omega)); rw [show ba.toNatClampNeg + x7_30.toNatClampNeg = z_30.toNatClampNeg from (by have q1 : ba.toNatClampNeg = ba.toInt.toNat := rfl; have q1 : x7_30.toNatClampNeg = x7_30.toInt.toNat := rfl; have q1 : z_30.toNatClampNeg = z_30.toInt.toNat := rfl; have := i32_0; have := i32_1; have := i32_2; have := i32_m1; have := (hsx1_30).1; have := (hsx1_30).2; have := (h_5).1; have := (h_5).2; have := (hsx4_30).1; have := (hsx4_30).2; have := (h63).1; have := (h63).2; have := (h_4).1; have := (h_4).2; have := (hx6_30).1; have := (hx6_30).2; have := (hx5_30).1; have := (hx5_30).2; have := (hz_6).1; have := (hz_6).2; have := (hz_7).1; have := (hz_7).2; have := (h_9).1; have := (h_9).2; have := (hz_10).1; have := (hz_10).2; have := (hr67).1; have := (hr67).2; have := (h_29).1; have := (h_29).2; have := (hz_30).1; have := (hz_30).2; omega)] at q5; rw [ez_31]; exact q5))).1]; exact fun q => c_32 (Int32.toInt_inj.mp q))⟩] at q9; rw [q9]; rfl))⟩, by rw [ht]; exact hP, va_K.moved hW.alike hK, hD⟩, hS.F ht⟩) hS.2.2 dX13_sum_128
  refine lv_aload_n hx hb dX13_sum_0 rfl (lv_at hl 0 rfl) ?_
  refine lv_iload_n hx hb dX13_sum_1 rfl (lv_at hl 1 rfl) ?_
  refine mr_calli (rest := []) ⟨hx, hb, hml, hown, htb⟩ (f_args l dC dI h0 ad cid sg gm lg b hI hvb (by have := i32_0; have := i32_1; have := i32_2; have := i32_m1; have := (show iv 0 80 (sg 41) from MI_s hI 41).1; have := (show iv 0 80 (sg 41) from MI_s hI 41).2; have := (hvb).1; have := (hvb).2; have := (hvnx).1; have := (hvnx).2; have := (hvba).1; have := (hvba).2; have := (h63).1; have := (h63).2; omega) (ACY_k (DK_of (show KS [] sg sg from KS_rf) (show KS [] gm gm from KS_rf) (show KS [] lg lg from KS_rf) (by decide) (by decide) (by decide)) hac) (STR_k (DK_of (show KS [] sg sg from KS_rf) (show KS [] gm gm from KS_rf) (show KS [] lg lg from KS_rf) (by decide) (by decide) (by decide)).1 hst)) (cwV 1 htb (gd_V kw_1265 kw_1266 kw_121 kw_160 kw_1631) rfl rfl rfl (by decide +kernel) ⟨Nat.le_of_ble_eq_true rfl, Nat.le_of_ble_eq_true rfl⟩) rfl hl.1 rfl (Nat.le_of_ble_eq_true rfl) dX13_sum_2 ⟨Nat.zero_le _, Nat.zero_le _⟩ hK hP hD hS hA (fun r_47 u_48 H locs hw hP hD hS => ?_)
  obtain ⟨hr_47, fAa_r_47, fAz_r_47, rfl⟩ := hw
  have hP : va_P (dC, dI) vwCl (mW h0 ad cid sg gm lg) H := hP
  have hD : va_D A (mW h0 ad cid sg gm lg) := hD
  refine lv_istore (lv' := [(5, .int r_47), (0, .ref h0), (1, .int b), (2, .int nx), (3, .ref (ad 9)), (4, .int ba)]) hx hb dX13_sum_5 hl (by decide) rfl (fun ls hl => ?_)
  refine lv_iload hx hb dX13_sum_7 (lv_at hl 0 rfl) ?_
  refine lv_iload_n hx hb dX13_sum_9 rfl (lv_at hl 3 rfl) ?_
  refine lv_icmp_ne (tgt := 22) hx hb dX13_sum_10 (by decide) (fun c_49 => ?_) (fun c_49 => ?_)
  · refine lv_iconst (v := (-1)) hx hb dX13_sum_22 (by decide) ?_
    exact W.iret (v := (-1)) hx hb hr (fun t ht hW => ⟨⟨(-1), (sg, gm, lg), rfl, ⟨sg, gm, lg, rfl, hI, KS_rf, KS_rf, KS_rf, (iv_w (iv_k (by decide) : iv (-1) (-1) (-1)) (by decide)), (Or.inl rfl), ((by have q9 := BR_n hBR hRW hRS hvb hbl (hr_47).1 fAa_r_47 fAz_r_47; rw [suM_d (fun q => c_49 (Int32.toInt_inj.mp (q9.trans (q.symm.trans hSG.1.symm))))]; rfl))⟩, by rw [ht]; exact hP, va_K.moved hW.alike hK, hD⟩, hS.F ht⟩) hS.2.2 dX13_sum_23
  · have d_50 : (r_47 : Int32).toInt = (nx : Int32).toInt := congrArg Int32.toInt c_49
    have h_51 : iv 0 3 r_47 := iv_eq c_49 hr_47 hvnx (by decide)
    have hAN : ARGN sg gm lg b nx.toNatClampNeg := by have q9 := fAa_r_47; rw [c_49] at q9; exact q9
    have hmn : nx.toInt = (wg 41 (3 * b.toNatClampNeg)).toInt := (by have q9 := BR_n hBR hRW hRS hvb hbl ((show iv 0 4 r_47 from (iv_w h_51 (by decide)))).1 fAa_r_47 fAz_r_47; rw [c_49] at q9; exact q9)
    refine lv_aload_n hx hb dX13_sum_13 rfl (lv_at hl 1 rfl) ?_
    refine lv_iload_n hx hb dX13_sum_14 rfl (lv_at hl 2 rfl) ?_
    refine lv_iload_n hx hb dX13_sum_15 rfl (lv_at hl 3 rfl) ?_
    refine mr_calli (rest := []) ⟨hx, hb, hml, hown, htb⟩ (f_placed9 l dC dI h0 ad cid sg gm lg b nx ws wg wl rs rg hI hvb hvnx (by have := i32_0; have := i32_1; have := i32_2; have := i32_m1; have := (show iv 0 80 (sg 41) from MI_s hI 41).1; have := (show iv 0 80 (sg 41) from MI_s hI 41).2; have := (hvb).1; have := (hvb).2; have := (hvnx).1; have := (hvnx).2; have := (hvba).1; have := (hvba).2; have := (h63).1; have := (h63).2; have := (h_51).1; have := (h_51).2; omega) (ACY_k (DK_of (show KS [] sg sg from KS_rf) (show KS [] gm gm from KS_rf) (show KS [] lg lg from KS_rf) (by decide) (by decide) (by decide)) hac) (STR_k (DK_of (show KS [] sg sg from KS_rf) (show KS [] gm gm from KS_rf) (show KS [] lg lg from KS_rf) (by decide) (by decide) (by decide)).1 hst) hAN hRW hRS hBR hmn) (cwV 2 htb (gd_V kw_1288 kw_1289 kw_132 kw_160 kw_1642) rfl rfl rfl (by decide +kernel) ⟨Nat.le_of_ble_eq_true rfl, Nat.le_of_ble_eq_true rfl⟩) rfl hl.1 rfl (Nat.le_of_ble_eq_true rfl) dX13_sum_16 ⟨Nat.zero_le _, Nat.zero_le _⟩ hK hP hD hS hA (fun r_52 u_53 H locs hw hP hD hS => ?_)
    obtain ⟨sgv_54, gmv_54, lgv_54, rfl, hIv_54, ksv_54, kgv_54, klv_54, hr_52, fPl_r_52, fP9_r_52⟩ := hw
    obtain rfl := KS_nil ksv_54
    obtain rfl := KS_nil klv_54
    have hP : va_P (dC, dI) vwCl (mW h0 ad cid sg gmv_54 lg) H := hP
    have hD : va_D A (mW h0 ad cid sg gmv_54 lg) := hD
    refine lv_if_ne (tgt := 24) hx hb dX13_sum_19 (by decide) (fun c_55 => ?_) (fun c_55 => ?_)
    · have h_56 : iv 1 1 r_52 := iv_neL c_55 hr_52 (by decide)
      refine lv_iconst (v := 0) hx hb dX13_sum_24 (by decide) ?_
      refine lv_istore (lv' := [(6, .int 0), (5, .int r_47), (0, .ref h0), (1, .int b), (2, .int nx), (3, .ref (ad 9)), (4, .int ba)]) hx hb dX13_sum_25 hl (by decide) rfl (fun ls hl => ?_)
      refine lv_iconst (v := 0) hx hb dX13_sum_27 (by decide) ?_
      refine lv_istore (lv' := [(7, .int 0), (6, .int 0), (5, .int r_47), (0, .ref h0), (1, .int b), (2, .int nx), (3, .ref (ad 9)), (4, .int ba)]) hx hb dX13_sum_28 hl (by decide) rfl (fun ls hl => ?_)
      exact hj30 _ gmv_54 0 0 r_47 rfl (iv_w (iv_k (by decide) : iv 0 0 0) (by decide)) (iv_w (iv_k (by decide) : iv 0 0 0) (by decide)) h_51 hvb hvnx hvba (KS_tr (L := [75]) KS_rf kgv_54 (by decide)) hIv_54 (fPl_r_52.resolve_left (fun q9 => c_55 (Int32.toInt_inj.mp q9))) (hAN) (hmn) ((by decide)) ((by rw [suM_s (fP9_r_52.resolve_left (fun q => absurd q.1 (by have := i32_0; have := i32_1; have := i32_2; have := i32_m1; have := (hvb).1; have := (hvb).2; have := (hvnx).1; have := (hvnx).2; have := (hvba).1; have := (hvba).2; have := (h63).1; have := (h63).2; have := (h_51).1; have := (h_51).2; have := (h_56).1; have := (h_56).2; omega))).2, suS_y (by rw [← hSG.1]; exact hmn)]; rfl)) _ _ _ hP hD hS (lv_sub hl [0, 1, 2, 3, 4, 5, 6, 7] rfl)
    · have h_57 : iv 0 0 r_52 := iv_eq c_55 hr_52 (iv_k (by decide) : iv 0 0 0) (by decide)
      refine lv_iconst (v := (-1)) hx hb dX13_sum_22 (by decide) ?_
      exact W.iret (v := (-1)) hx hb hr (fun t ht hW => ⟨⟨(-1), (sg, gmv_54, lg), rfl, ⟨sg, gmv_54, lg, rfl, hIv_54, KS_rf, (KS_tr (L := [75]) KS_rf kgv_54 (by decide)), KS_rf, (iv_w (iv_k (by decide) : iv (-1) (-1) (-1)) (by decide)), (Or.inl rfl), ((by rw [suM_n (fP9_r_52.resolve_right (fun q => absurd q.1 (by have := i32_0; have := i32_1; have := i32_2; have := i32_m1; have := (hvb).1; have := (hvb).2; have := (hvnx).1; have := (hvnx).2; have := (hvba).1; have := (hvba).2; have := (h63).1; have := (h63).2; have := (h_51).1; have := (h_51).2; have := (h_57).1; have := (h_57).2; omega))).2]; rfl))⟩, by rw [ht]; exact hP, va_K.moved hW.alike hK, hD⟩, hS.F ht⟩) hS.2.2 dX13_sum_23

set_option maxHeartbeats 4000000 in
set_option maxRecDepth 100000 in
theorem f_sum9_17 (l : Launch) (dC : Nat → ClassId) (dI : Nat → Nat → Nat) (h0 : Nat) (ad : Nat → Nat) (cid : Nat → ClassId) (sg : Nat → Int32) (gm : Nat → Nat → Int32) (lg : Nat → Nat → Int64) (b : Int32) (nx : Int32) (ba : Int32) (ws : Nat → Int32) (wg : Nat → Nat → Int32) (wl : Nat → Nat → Int64) (rs : Nat → Int32) (rg : Nat → Nat → Int32) (S : S9) (VS : List (List Int)) (s9 : Nat) (hI : MI sg gm) (hvb : iv 0 79 b) (hvnx : iv 0 3 nx) (hvba : iv 0 93 ba) (hbl : b.toInt < (sg 41).toInt) (hac : ACY sg gm lg) (hst : STR sg gm lg) (hPR : PR gm) (hva : VAL gm) (hh1 : 1 ≤ (sg 63).toInt) (hRW : rt9 gm = rg) (hRS : rs9 sg = rs) (hBR : BRG ws wg wl rs rg lg) (hCL : CLS9 wg rg) (hRR : RR wg wl S sg gm) (hWD : WD9 lg) (hFV : FV9 wg wl rg gm (zO S) b.toNatClampNeg ((sg 63).toNatClampNeg - 1) (wg 41 (3 * b.toNatClampNeg)).toNatClampNeg VS) (hSG : SG9 wg gm 17 nx ba s9) : MMi l dC dI yX13_sum wm_X13_sum ({ frames := 7, cells := 0, slots := 0, locals := 167 }) h0 ad cid [.int b, .int nx, .ref (ad 17), .int ba] sg gm lg (fun r v => ∃ (sg2 : Nat → Int32) (gm2 : Nat → Nat → Int32) (lg2 : Nat → Nat → Int64), v = (sg2, gm2, lg2) ∧ MI sg2 gm2 ∧ KS [] sg sg2 ∧ KS [75] gm gm2 ∧ KS [] lg lg2 ∧ (iv (-1) 42 r) ∧ (r = -1 ∨ ARGN sg gm lg b nx.toNatClampNeg) ∧ (r.toInt = suM wg wl (zO S) b.toNatClampNeg VS s9)) := by
  intro sz
  refine Met.ofW (cc := cX13_sum) (maxL := 11) (ret := (some .int)) (by decide) rfl ?_
  intro p e s m args below meth c s₁ B hml hv
  obtain ⟨rfl, hsz, hP, hK, hD0⟩ := hv
  have hx := B.exec
  have hb := B.bytes
  have hr := B.returns
  have hts := atoms_spec (ws := wm_X13_sum) B.pre
  have htb := fun (w : Cond) (h : w ∈ tb) => hts w (List.mem_cons_of_mem _ h)
  have hown : s.vm.findClass RX13 = some m.cls := findClass_of_methodNamed B.named
  have hlocks := B.notSynchronized
  subst hsz
  have hD := hD0.self (sz := s.heap.size)
  generalize hAe : va_A (mW h0 ad cid sg gm lg) s.heap.size = A at hD ⊢
  have hA : ∀ q : Nat, s.heap.size ≤ q → A q := fun q h => by rw [← hAe]; exact Or.inr h
  have hS : va_S A s.heap s.heap [] := va_S.rf
  have hl := lv_entry ([.ref h0, .int b, .int nx, .ref (ad 17), .int ba]) (n := 11) (Nat.le_of_ble_eq_true rfl)
  rw [lg_entry_eq]
  generalize (lg_sl ([.ref h0, .int b, .int nx, .ref (ad 17), .int ba]) ++ List.replicate (11 - (lg_sl ([.ref h0, .int b, .int nx, .ref (ad 17), .int ba])).length) Slot.unset).toArray = ls at hl ⊢
  have hl : lv_has ls 11 [(0, .ref h0), (1, .int b), (2, .int nx), (3, .ref (ad 17)), (4, .int ba)] := hl
  have h63 : iv 1 80 (sg 63) := ⟨hh1, (show iv 0 80 (sg 63) from MI_s hI 63).2⟩
  have hj30 : ∀ (n : Nat) (gm_j30 : Nat → Nat → Int32) (x7_30 : Int32) (x6_30 : Int32) (x5_30 : Int32) (_ : (3 - x7_30.toInt).toNat = n) (_ : iv 0 3 x7_30) (_ : iv 0 42 x6_30) (_ : iv 0 3 x5_30) (_ : iv 0 79 b) (_ : iv 0 3 nx) (_ : iv 0 93 ba) (_ : KS [75] gm gm_j30) (_ : MI sg gm_j30) (_ : SPF (gm_j30 75) nx.toNatClampNeg) (_ : ARGN sg gm lg b nx.toNatClampNeg) (_ : nx.toInt = (wg 41 (3 * b.toNatClampNeg)).toInt) (_ : x6_30.toInt ≤ 14 * x7_30.toInt) (_ : suM wg wl (zO S) b.toNatClampNeg VS s9 = suF wg wl (zO S) b.toNatClampNeg VS (f75 gm_j30) s9 ((wg 7 s9).toNatClampNeg - x7_30.toNatClampNeg) x7_30.toNatClampNeg x6_30.toInt) (H : Heap) (locs : List Loc) (ls : Array Slot), va_P (dC, dI) vwCl (mW h0 ad cid sg gm_j30 lg) H → va_D A (mW h0 ad cid sg gm_j30 lg) → va_S A s.heap H locs → lv_has ls 11 [(7, .int x7_30), (6, .int x6_30), (5, .int x5_30), (0, .ref h0), (1, .int b), (2, .int nx), (3, .ref (ad 17)), (4, .int ba)] → W p l e (headSpec wm_X13_sum ({ frames := 7, cells := 0, slots := 0, locals := 167 })).room s m ([.ref h0, .int b, .int nx, .ref (ad 17), .int ba] : List Value).toArray below meth c H locs 0 0 (MQ below (va_Qi (fun r v => ∃ (sg2 : Nat → Int32) (gm2 : Nat → Nat → Int32) (lg2 : Nat → Nat → Int64), v = (sg2, gm2, lg2) ∧ MI sg2 gm2 ∧ KS [] sg sg2 ∧ KS [75] gm gm2 ∧ KS [] lg lg2 ∧ (iv (-1) 42 r) ∧ (r = -1 ∨ ARGN sg gm lg b nx.toNatClampNeg) ∧ (r.toInt = suM wg wl (zO S) b.toNatClampNeg VS s9)) (MB dC dI h0 ad cid A) A) ([.ref h0, .int b, .int nx, .ref (ad 17), .int ba] : List Value).toArray s 0 0 A) (F0 m 30 ls []) := by
    intro n
    induction n using Nat.strongRecOn with
    | ind n ih30 =>
      intro gm_j30 x7_30 x6_30 x5_30 hn30 hx7_30 hx6_30 hx5_30 hsx1_30 hsx2_30 hsx4_30 hkg_j30 hI_j30 hSPF hAN hmn h6b hsu H locs ls hP hD hS hl
      refine lv_iload hx hb dX13_sum_30 (lv_at hl 0 rfl) ?_
      refine lv_iload_n hx hb dX13_sum_32 rfl (lv_at hl 5 rfl) ?_
      refine lv_icmp_ge (tgt := 142) hx hb dX13_sum_33 (by decide) (fun c_1 => ?_) (fun c_1 => ?_)
      · have d_2 : (nx : Int32).toInt ≤ (x7_30 : Int32).toInt := Int32.le_iff_toInt_le.mp c_1
        refine lv_iload hx hb dX13_sum_142 (lv_at hl 1 rfl) ?_
        exact W.iret (v := x6_30) hx hb hr (fun t ht hW => ⟨⟨x6_30, (sg, gm_j30, lg), rfl, ⟨sg, gm_j30, lg, rfl, hI_j30, KS_rf, (KS_tr (L := [75]) KS_rf hkg_j30 (by decide)), KS_rf, (iv_w hx6_30 (by decide)), (Or.inr hAN), ((by have q9 := hsu; rw [show (wg 7 s9).toNatClampNeg - x7_30.toNatClampNeg = 0 from (by have q3 : (wg 7 s9).toNatClampNeg = (wg 7 s9).toInt.toNat := rfl; have q4 := hSG.1; have q1 : x7_30.toNatClampNeg = x7_30.toInt.toNat := rfl; have := i32_0; have := i32_1; have := i32_2; have := i32_m1; have := (hsx1_30).1; have := (hsx1_30).2; have := (hsx2_30).1; have := (hsx2_30).2; have := (hsx4_30).1; have := (hsx4_30).2; have := (h63).1; have := (h63).2; have := (hx7_30).1; have := (hx7_30).2; have := (hx6_30).1; have := (hx6_30).2; have := (hx5_30).1; have := (hx5_30).2; omega)] at q9; exact q9.symm))⟩, by rw [ht]; exact hP, va_K.moved hW.alike hK, hD⟩, hS.F ht⟩) hS.2.2 dX13_sum_144
      · have d_3 : (x7_30 : Int32).toInt < (nx : Int32).toInt := Int32.lt_iff_toInt_lt.mp (i32_lt c_1)
        have h_4 : iv 0 2 x7_30 := iv_ltL (i32_lt c_1) hx7_30 hsx2_30 (by decide)
        have h_5 : iv 1 3 nx := iv_ltR (i32_lt c_1) hx7_30 hsx2_30 (by decide)
        refine lv_iconst (v := 5) hx hb dX13_sum_36 (by decide) ?_
        refine lv_aload_n hx hb dX13_sum_37 rfl (lv_at hl 3 rfl) ?_
        refine mr_get (v := .int (sg 63)) hx hb htb inX13 hown hK hP 63 (by decide) (htb _ kw_1090) rfl dX13_sum_38 ?_
        refine lv_iconst (v := 1) hx hb dX13_sum_41 (by decide) ?_
        refine lv_isub hx hb dX13_sum_42 ?_
        refine lv_topi (fun z_6 ez_6 => ?_)
        have hz_6 : iv 0 79 z_6 := iv_of ez_6 (iv_sub h63 (iv_k (by decide) : iv 1 1 1) (by decide))
        have tz_6 : z_6.toInt = ((sg 63) : Int32).toInt - 1 := by rw [ez_6]; exact iv_subE h63 (iv_k (by decide) : iv 1 1 1) (by decide)
        refine lv_imul hx hb dX13_sum_43 ?_
        refine lv_topi (fun z_7 ez_7 => ?_)
        have hz_7 : iv 0 395 z_7 := iv_of ez_7 (iv_mul (iv_k (by decide) : iv 5 5 5) hz_6 (by decide))
        have tz_7 : z_7.toInt = 5 * (z_6 : Int32).toInt := by rw [ez_7]; exact iv_mulE (iv_k (by decide) : iv 5 5 5) hz_6 (by decide)
        refine lv_aload_n hx hb dX13_sum_44 rfl (lv_at hl 3 rfl) ?_
        refine mr_get (v := .ref (ad 75)) hx hb htb inX13 hown hK hP 75 (by decide) (htb _ kw_1102) rfl dX13_sum_45 ?_
        refine lv_iload hx hb dX13_sum_48 (lv_at hl 0 rfl) ?_
        refine mr_iald hx hb hK hP 59 (k := 75) rfl rfl rfl (show vp_in x7_30 4 from (iv_in h_4 (by decide))) dX13_sum_50 ?_
        refine lv_topi (fun z_8 ez_8 => ?_)
        have hz_8 : iv (-1) 3 z_8 := iv_of ez_8 (MI_a hI_j30 75 h_4 (by decide))
        have h_9 : iv 0 2 z_8 := ⟨by have q9 := (hSPF _ (lt_cl h_4 hvnx (by decide) (by decide) (by have := i32_0; have := i32_1; have := i32_2; have := i32_m1; have := (hsx1_30).1; have := (hsx1_30).2; have := (h_5).1; have := (h_5).2; have := (hsx4_30).1; have := (hsx4_30).2; have := (h63).1; have := (h63).2; have := (h_4).1; have := (h_4).2; have := (hx6_30).1; have := (hx6_30).2; have := (hx5_30).1; have := (hx5_30).2; have := (hz_6).1; have := (hz_6).2; have := (hz_7).1; have := (hz_7).2; have := (hz_8).1; have := (hz_8).2; omega))).1; rw [← ez_8] at q9; exact q9, by have q9 := (hSPF _ (lt_cl h_4 hvnx (by decide) (by decide) (by have := i32_0; have := i32_1; have := i32_2; have := i32_m1; have := (hsx1_30).1; have := (hsx1_30).2; have := (h_5).1; have := (h_5).2; have := (hsx4_30).1; have := (hsx4_30).2; have := (h63).1; have := (h63).2; have := (h_4).1; have := (h_4).2; have := (hx6_30).1; have := (hx6_30).2; have := (hx5_30).1; have := (hx5_30).2; have := (hz_6).1; have := (hz_6).2; have := (hz_7).1; have := (hz_7).2; have := (hz_8).1; have := (hz_8).2; omega))).2; rw [← ez_8] at q9; have := iv_cl hvnx (by decide); have := hvnx.2; omega⟩
        refine lv_iadd hx hb dX13_sum_51 ?_
        refine lv_topi (fun z_10 ez_10 => ?_)
        have hz_10 : iv 0 397 z_10 := iv_of ez_10 (iv_add hz_7 h_9 (by decide))
        have tz_10 : z_10.toInt = (z_7 : Int32).toInt + (z_8 : Int32).toInt := by rw [ez_10]; exact iv_addE hz_7 h_9 (by decide)
        refine lv_istore (lv' := [(8, .int z_10), (7, .int x7_30), (6, .int x6_30), (5, .int x5_30), (0, .ref h0), (1, .int b), (2, .int nx), (3, .ref (ad 17)), (4, .int ba)]) hx hb dX13_sum_52 hl (by decide) rfl (fun ls hl => ?_)
        refine lv_aload_n hx hb dX13_sum_54 rfl (lv_at hl 4 rfl) ?_
        refine lv_aload_n hx hb dX13_sum_55 rfl (lv_at hl 4 rfl) ?_
        refine lv_iload_n hx hb dX13_sum_56 rfl (lv_at hl 5 rfl) ?_
        refine lv_aload_n hx hb dX13_sum_57 rfl (lv_at hl 4 rfl) ?_
        refine mr_get (v := .ref (ad 75)) hx hb htb inX13 hown hK hP 75 (by decide) (htb _ kw_1102) rfl dX13_sum_58 ?_
        refine lv_iload hx hb dX13_sum_61 (lv_at hl 1 rfl) ?_
        refine mr_iald hx hb hK hP 59 (k := 75) rfl rfl rfl (show vp_in x7_30 4 from (iv_in h_4 (by decide))) dX13_sum_63 ?_
        refine lv_topi (fun z_11 ez_11 => ?_)
        obtain rfl : z_8 = z_11 := ez_8.trans ez_11.symm
        refine mr_calli (rest := [.ref h0]) ⟨hx, hb, hml, hown, htb⟩ (f_arg l dC dI h0 ad cid sg gm_j30 lg b z_8 hI_j30 hsx1_30 (iv_w h_9 (by decide)) (by have := i32_0; have := i32_1; have := i32_2; have := i32_m1; have := (show iv 0 80 (sg 41) from MI_s hI 41).1; have := (show iv 0 80 (sg 41) from MI_s hI 41).2; have := (hsx1_30).1; have := (hsx1_30).2; have := (h_5).1; have := (h_5).2; have := (hsx4_30).1; have := (hsx4_30).2; have := (h63).1; have := (h63).2; have := (h_4).1; have := (h_4).2; have := (hx6_30).1; have := (hx6_30).2; have := (hx5_30).1; have := (hx5_30).2; have := (hz_6).1; have := (hz_6).2; have := (hz_7).1; have := (hz_7).2; have := (h_9).1; have := (h_9).2; have := (hz_10).1; have := (hz_10).2; omega) (ACY_k (DK_of (show KS [] sg sg from KS_rf) (show KS [75] gm gm_j30 from (KS_tr (L := [75]) KS_rf hkg_j30 (by decide))) (show KS [] lg lg from KS_rf) (by decide) (by decide) (by decide)) hac)) (cwV 2 htb (gd_V kw_1257 kw_1258 kw_117 kw_160 kw_1627) rfl rfl rfl (by decide +kernel) ⟨Nat.le_of_ble_eq_true rfl, Nat.le_of_ble_eq_true rfl⟩) rfl hl.1 rfl (Nat.le_of_ble_eq_true rfl) dX13_sum_64 ⟨Nat.zero_le _, Nat.zero_le _⟩ hK hP hD hS hA (fun r_12 u_13 H locs hw hP hD hS => ?_)
        obtain ⟨hr_12, fR_r_12, rfl⟩ := hw
        have hP : va_P (dC, dI) vwCl (mW h0 ad cid sg gm_j30 lg) H := hP
        have hD : va_D A (mW h0 ad cid sg gm_j30 lg) := hD
        have hz67 : z_8.toNatClampNeg < nx.toNatClampNeg := by have q9 := (hSPF _ (lt_cl h_4 hvnx (by decide) (by decide) (by have := i32_0; have := i32_1; have := i32_2; have := i32_m1; have := (hsx1_30).1; have := (hsx1_30).2; have := (h_5).1; have := (h_5).2; have := (hsx4_30).1; have := (hsx4_30).2; have := (h63).1; have := (h63).2; have := (h_4).1; have := (h_4).2; have := (hx6_30).1; have := (hx6_30).2; have := (hx5_30).1; have := (hx5_30).2; have := (hz_6).1; have := (hz_6).2; have := (hz_7).1; have := (hz_7).2; have := (h_9).1; have := (h_9).2; have := (hz_10).1; have := (hz_10).2; have := (hr_12).1; have := (hr_12).2; omega))).2; rw [← ez_8] at q9; have := iv_cl h_9 (by decide); omega
        have hbR := (fR_r_12.trans (mArg_k (DK_of (show KS [] sg sg from KS_rf) (show KS [75] gm gm_j30 from (KS_tr (L := [75]) KS_rf hkg_j30 (by decide))) (show KS [] lg lg from KS_rf) (by decide) (by decide) (by decide)) _ _))
        obtain ⟨hr67, hr68, hr69⟩ := arg_el (show iv 0 80 (sg 24) from MI_s hI 24) hbR (hAN _ (Nat.zero_le _) hz67)
        have hz41 : z_8.toNatClampNeg < (wg 41 (3 * b.toNatClampNeg)).toNatClampNeg := (by have q2 : (wg 41 (3 * b.toNatClampNeg)).toNatClampNeg = (wg 41 (3 * b.toNatClampNeg)).toInt.toNat := rfl; have q1 : nx.toNatClampNeg = nx.toInt.toNat := rfl; have := hmn; omega)
        have har9 := ((BR_a hBR hRW hRS hvb hbl).2.2.2 _ hz41)
        have hel9 : (wg 57 (128 * (3 * b.toNatClampNeg) + z_8.toNatClampNeg)).toNatClampNeg = r_12.toNatClampNeg := (by rw [← har9.1, ← hbR])
        have hfi9 : (f75 gm_j30 x7_30.toNatClampNeg).toNat = z_8.toNatClampNeg := (by rw [f75_at (by have q1 : x7_30.toNatClampNeg = x7_30.toInt.toNat := rfl; have := i32_0; have := i32_1; have := i32_2; have := i32_m1; have := (hsx1_30).1; have := (hsx1_30).2; have := (h_5).1; have := (h_5).2; have := (hsx4_30).1; have := (hsx4_30).2; have := (h63).1; have := (h63).2; have := (h_4).1; have := (h_4).2; have := (hx6_30).1; have := (hx6_30).2; have := (hx5_30).1; have := (hx5_30).2; have := (hz_6).1; have := (hz_6).2; have := (hz_7).1; have := (hz_7).2; have := (h_9).1; have := (h_9).2; have := (hz_10).1; have := (hz_10).2; have := (hr67).1; have := (hr67).2; omega), ← ez_8]; rfl)
        have hsu0 := hsu; rw [show (wg 7 s9).toNatClampNeg - x7_30.toNatClampNeg = ((wg 7 s9).toNatClampNeg - (x7_30.toNatClampNeg + 1)) + 1 from (by have q3 : (wg 7 s9).toNatClampNeg = (wg 7 s9).toInt.toNat := rfl; have q4 := hSG.1; have q1 : x7_30.toNatClampNeg = x7_30.toInt.toNat := rfl; have := i32_0; have := i32_1; have := i32_2; have := i32_m1; have := (hsx1_30).1; have := (hsx1_30).2; have := (h_5).1; have := (h_5).2; have := (hsx4_30).1; have := (hsx4_30).2; have := (h63).1; have := (h63).2; have := (h_4).1; have := (h_4).2; have := (hx6_30).1; have := (hx6_30).2; have := (hx5_30).1; have := (hx5_30).2; have := (hz_6).1; have := (hz_6).2; have := (hz_7).1; have := (hz_7).2; have := (h_9).1; have := (h_9).2; have := (hz_10).1; have := (hz_10).2; have := (hr67).1; have := (hr67).2; omega), suF_0 hfi9 (liL_x hz41 hel9) rfl] at hsu0
        refine mr_calli (rest := []) ⟨hx, hb, hml, hown, htb⟩ (f_typeIn9 l dC dI h0 ad cid sg gm_j30 lg r_12 hI_j30 hr67) (cwV 1 htb (gd_V kw_1217 kw_1218 kw_100 kw_160 kw_1608) rfl rfl rfl (by decide +kernel) ⟨Nat.le_of_ble_eq_true rfl, Nat.le_of_ble_eq_true rfl⟩) rfl hl.1 rfl (Nat.le_of_ble_eq_true rfl) dX13_sum_67 ⟨Nat.zero_le _, Nat.zero_le _⟩ hK hP hD hS hA (fun r_14 u_15 H locs hw hP hD hS => ?_)
        obtain ⟨hr_14, fTy_r_14, rfl⟩ := hw
        have hP : va_P (dC, dI) vwCl (mW h0 ad cid sg gm_j30 lg) H := hP
        have hD : va_D A (mW h0 ad cid sg gm_j30 lg) := hD
        have hask : r_14.toInt = (wg 24 r_12.toNatClampNeg).toInt := (by have q5 := (BR_at hRW hRS har9.2.2).2.2; rw [hel9] at q5; have q6 := fTy_r_14; rw [mWord_k (DK_of (show KS [] sg sg from KS_rf) (show KS [75] gm gm_j30 from (KS_tr (L := [75]) KS_rf hkg_j30 (by decide))) (show KS [] lg lg from KS_rf) (by decide) (by decide) (by decide)).1, mHas_k (DK_of (show KS [] sg sg from KS_rf) (show KS [75] gm gm_j30 from (KS_tr (L := [75]) KS_rf hkg_j30 (by decide))) (show KS [] lg lg from KS_rf) (by decide) (by decide) (by decide)).1] at q6; exact TYQ_u q6 q5)
        refine lv_istore (lv' := [(9, .int r_14), (8, .int z_10), (7, .int x7_30), (6, .int x6_30), (5, .int x5_30), (0, .ref h0), (1, .int b), (2, .int nx), (3, .ref (ad 17)), (4, .int ba)]) hx hb dX13_sum_70 hl (by decide) rfl (fun ls hl => ?_)
        refine lv_iload hx hb dX13_sum_72 (lv_at hl 0 rfl) ?_
        refine lv_iconst (v := (-1)) hx hb dX13_sum_74 (by decide) ?_
        refine lv_icmp_eq (tgt := 94) hx hb dX13_sum_75 (by decide) (fun c_16 => ?_) (fun c_16 => ?_)
        · have h_17 : iv (-1) (-1) r_14 := iv_eq c_16 hr_14 (iv_k (by decide) : iv (-1) (-1) (-1)) (by decide)
          refine lv_aload_n hx hb dX13_sum_94 rfl (lv_at hl 5 rfl) ?_
          refine lv_aload_n hx hb dX13_sum_95 rfl (lv_at hl 5 rfl) ?_
          refine mr_get (v := .ref (ad 70)) hx hb htb inX13 hown hK hP 70 (by decide) (htb _ kw_1097) rfl dX13_sum_96 ?_
          refine lv_iload hx hb dX13_sum_99 (lv_at hl 1 rfl) ?_
          refine mr_iald hx hb hK hP 55 (k := 70) rfl rfl rfl (show vp_in z_10 405 from (iv_in hz_10 (by decide))) dX13_sum_101 ?_
          refine lv_topi (fun z_18 ez_18 => ?_)
          have hz_18 : iv 0 3 z_18 := iv_of ez_18 (MI_a hI_j30 70 hz_10 (by decide))
          have ez_18 := ez_18.trans (congrFun (hkg_j30 70 (by decide)) _)
          refine lv_aload_n hx hb dX13_sum_102 rfl (lv_at hl 5 rfl) ?_
          refine mr_get (v := .ref (ad 71)) hx hb htb inX13 hown hK hP 71 (by decide) (htb _ kw_1098) rfl dX13_sum_103 ?_
          refine lv_iload hx hb dX13_sum_106 (lv_at hl 1 rfl) ?_
          refine mr_iald hx hb hK hP 56 (k := 71) rfl rfl rfl (show vp_in z_10 405 from (iv_in hz_10 (by decide))) dX13_sum_108 ?_
          refine lv_topi (fun z_19 ez_19 => ?_)
          have hz_19 : iv 0 1079 z_19 := iv_of ez_19 (MI_a hI_j30 71 hz_10 (by decide))
          have ez_19 := ez_19.trans (congrFun (hkg_j30 71 (by decide)) _)
          refine lv_aload_n hx hb dX13_sum_109 rfl (lv_at hl 8 rfl) ?_
          refine lv_iload hx hb dX13_sum_110 (lv_at hl 9 rfl) ?_
          refine lv_iload hx hb dX13_sum_112 (lv_at hl 2 rfl) ?_
          refine lv_iadd hx hb dX13_sum_114 ?_
          refine lv_topi (fun z_20 ez_20 => ?_)
          have hz_20 : iv 0 95 z_20 := iv_of ez_20 (iv_add hsx4_30 h_4 (by decide))
          have tz_20 : z_20.toInt = (ba : Int32).toInt + (x7_30 : Int32).toInt := by rw [ez_20]; exact iv_addE hsx4_30 h_4 (by decide)
          refine mr_iald hx hb hK hP 16 (k := 17) rfl rfl rfl (show vp_in z_20 96 from (iv_in hz_20 (by decide))) dX13_sum_115 ?_
          refine lv_topi (fun z_21 ez_21 => ?_)
          have ez_21 := ez_21.trans (congrFun (hkg_j30 17 (by decide)) _)
          refine mr_calli (rest := []) ⟨hx, hb, hml, hown, htb⟩ (f_weight9 l dC dI h0 ad cid sg gm_j30 lg z_18 z_19 z_21 wg wl rg S (ctE wg r_12.toNatClampNeg) ((VS[z_8.toNatClampNeg]?).getD []) hI_j30 hz_18 hz_19 (VAL_at hva (show iv 0 404 z_10 from (iv_w hz_10 (by decide))) ez_18 ez_19) (by have q9 : PR gm := hPR; unfold PR at *; rw [(hkg_j30 6 (by decide))]; exact q9) ((rt9_ks (L := [75]) (KS_tr (L := [75]) KS_rf hkg_j30 (by decide)) (by decide)).trans hRW) hCL (RR_ks (L := []) (M := [75]) hRR KS_rf (KS_tr (L := [75]) KS_rf hkg_j30 (by decide)) (by decide) (by decide)) hWD (by have q5 := (hFV _ hz41).1; rw [hel9] at q5; rw [ez_18, ez_19, (show z_10.toNatClampNeg = 5 * ((sg 63).toNatClampNeg - 1) + z_8.toNatClampNeg from (by have q1 : z_10.toNatClampNeg = z_10.toInt.toNat := rfl; have q1 : z_8.toNatClampNeg = z_8.toInt.toNat := rfl; have q1 : (sg 63).toNatClampNeg = (sg 63).toInt.toNat := rfl; have := i32_0; have := i32_1; have := i32_2; have := i32_m1; have := (show iv 0 80 (sg 63) from MI_s hI 63).1; have := (show iv 0 80 (sg 63) from MI_s hI 63).2; have := (hsx1_30).1; have := (hsx1_30).2; have := (h_5).1; have := (h_5).2; have := (hsx4_30).1; have := (hsx4_30).2; have := (h63).1; have := (h63).2; have := (h_4).1; have := (h_4).2; have := (hx6_30).1; have := (hx6_30).2; have := (hx5_30).1; have := (hx5_30).2; have := (hz_6).1; have := (hz_6).2; have := (hz_7).1; have := (hz_7).2; have := (h_9).1; have := (h_9).2; have := (hz_10).1; have := (hz_10).2; have := (hr67).1; have := (hr67).2; have := (h_17).1; have := (h_17).2; have := (hz_18).1; have := (hz_18).2; have := (hz_19).1; have := (hz_19).2; have := (hz_20).1; have := (hz_20).2; omega))]; exact q5) (by rw [((show z_21.toInt = (wg 54 (3 * s9 + x7_30.toNatClampNeg)).toInt ∧ ty9 (wg 54 (3 * s9 + x7_30.toNatClampNeg)).toInt from (by have q5 := hSG.2 _ (show x7_30.toNatClampNeg < nx.toNatClampNeg from (by have q1 : x7_30.toNatClampNeg = x7_30.toInt.toNat := rfl; have q1 : nx.toNatClampNeg = nx.toInt.toNat := rfl; have := i32_0; have := i32_1; have := i32_2; have := i32_m1; have := (hsx1_30).1; have := (hsx1_30).2; have := (h_5).1; have := (h_5).2; have := (hsx4_30).1; have := (hsx4_30).2; have := (h63).1; have := (h63).2; have := (h_4).1; have := (h_4).2; have := (hx6_30).1; have := (hx6_30).2; have := (hx5_30).1; have := (hx5_30).2; have := (hz_6).1; have := (hz_6).2; have := (hz_7).1; have := (hz_7).2; have := (h_9).1; have := (h_9).2; have := (hz_10).1; have := (hz_10).2; have := (hr67).1; have := (hr67).2; have := (h_17).1; have := (h_17).2; have := (hz_18).1; have := (hz_18).2; have := (hz_19).1; have := (hz_19).2; have := (hz_20).1; have := (hz_20).2; omega)); rw [show ba.toNatClampNeg + x7_30.toNatClampNeg = z_20.toNatClampNeg from (by have q1 : ba.toNatClampNeg = ba.toInt.toNat := rfl; have q1 : x7_30.toNatClampNeg = x7_30.toInt.toNat := rfl; have q1 : z_20.toNatClampNeg = z_20.toInt.toNat := rfl; have := i32_0; have := i32_1; have := i32_2; have := i32_m1; have := (hsx1_30).1; have := (hsx1_30).2; have := (h_5).1; have := (h_5).2; have := (hsx4_30).1; have := (hsx4_30).2; have := (h63).1; have := (h63).2; have := (h_4).1; have := (h_4).2; have := (hx6_30).1; have := (hx6_30).2; have := (hx5_30).1; have := (hx5_30).2; have := (hz_6).1; have := (hz_6).2; have := (hz_7).1; have := (hz_7).2; have := (h_9).1; have := (h_9).2; have := (hz_10).1; have := (hz_10).2; have := (hr67).1; have := (hr67).2; have := (h_17).1; have := (h_17).2; have := (hz_18).1; have := (hz_18).2; have := (hz_19).1; have := (hz_19).2; have := (hz_20).1; have := (hz_20).2; omega)] at q5; rw [ez_21]; exact q5))).1]; exact ((show z_21.toInt = (wg 54 (3 * s9 + x7_30.toNatClampNeg)).toInt ∧ ty9 (wg 54 (3 * s9 + x7_30.toNatClampNeg)).toInt from (by have q5 := hSG.2 _ (show x7_30.toNatClampNeg < nx.toNatClampNeg from (by have q1 : x7_30.toNatClampNeg = x7_30.toInt.toNat := rfl; have q1 : nx.toNatClampNeg = nx.toInt.toNat := rfl; have := i32_0; have := i32_1; have := i32_2; have := i32_m1; have := (hsx1_30).1; have := (hsx1_30).2; have := (h_5).1; have := (h_5).2; have := (hsx4_30).1; have := (hsx4_30).2; have := (h63).1; have := (h63).2; have := (h_4).1; have := (h_4).2; have := (hx6_30).1; have := (hx6_30).2; have := (hx5_30).1; have := (hx5_30).2; have := (hz_6).1; have := (hz_6).2; have := (hz_7).1; have := (hz_7).2; have := (h_9).1; have := (h_9).2; have := (hz_10).1; have := (hz_10).2; have := (hr67).1; have := (hr67).2; have := (h_17).1; have := (h_17).2; have := (hz_18).1; have := (hz_18).2; have := (hz_19).1; have := (hz_19).2; have := (hz_20).1; have := (hz_20).2; omega)); rw [show ba.toNatClampNeg + x7_30.toNatClampNeg = z_20.toNatClampNeg from (by have q1 : ba.toNatClampNeg = ba.toInt.toNat := rfl; have q1 : x7_30.toNatClampNeg = x7_30.toInt.toNat := rfl; have q1 : z_20.toNatClampNeg = z_20.toInt.toNat := rfl; have := i32_0; have := i32_1; have := i32_2; have := i32_m1; have := (hsx1_30).1; have := (hsx1_30).2; have := (h_5).1; have := (h_5).2; have := (hsx4_30).1; have := (hsx4_30).2; have := (h63).1; have := (h63).2; have := (h_4).1; have := (h_4).2; have := (hx6_30).1; have := (hx6_30).2; have := (hx5_30).1; have := (hx5_30).2; have := (hz_6).1; have := (hz_6).2; have := (hz_7).1; have := (hz_7).2; have := (h_9).1; have := (h_9).2; have := (hz_10).1; have := (hz_10).2; have := (hr67).1; have := (hr67).2; have := (h_17).1; have := (h_17).2; have := (hz_18).1; have := (hz_18).2; have := (hz_19).1; have := (hz_19).2; have := (hz_20).1; have := (hz_20).2; omega)] at q5; rw [ez_21]; exact q5))).2)) (cwV 3 htb (gd_V kw_1290 kw_1291 kw_133 kw_160 kw_1643) rfl rfl rfl (by decide +kernel) ⟨Nat.le_of_ble_eq_true rfl, Nat.le_of_ble_eq_true rfl⟩) rfl hl.1 rfl (Nat.le_of_ble_eq_true rfl) dX13_sum_116 ⟨Nat.zero_le _, Nat.zero_le _⟩ hK hP hD hS hA (fun r_22 u_23 H locs hw hP hD hS => ?_)
          obtain ⟨hr_22, fw_r_22, rfl⟩ := hw
          have hP : va_P (dC, dI) vwCl (mW h0 ad cid sg gm_j30 lg) H := hP
          have hD : va_D A (mW h0 ad cid sg gm_j30 lg) := hD
          have hw116 : r_22.toInt = wCo wg wl (zO S) (ctE wg r_12.toNatClampNeg) ((VS[z_8.toNatClampNeg]?).getD []) (wg 54 (3 * s9 + x7_30.toNatClampNeg)).toInt := (by have q9 := fw_r_22; rw [((show z_21.toInt = (wg 54 (3 * s9 + x7_30.toNatClampNeg)).toInt ∧ ty9 (wg 54 (3 * s9 + x7_30.toNatClampNeg)).toInt from (by have q5 := hSG.2 _ (show x7_30.toNatClampNeg < nx.toNatClampNeg from (by have q1 : x7_30.toNatClampNeg = x7_30.toInt.toNat := rfl; have q1 : nx.toNatClampNeg = nx.toInt.toNat := rfl; have := i32_0; have := i32_1; have := i32_2; have := i32_m1; have := (hsx1_30).1; have := (hsx1_30).2; have := (h_5).1; have := (h_5).2; have := (hsx4_30).1; have := (hsx4_30).2; have := (h63).1; have := (h63).2; have := (h_4).1; have := (h_4).2; have := (hx6_30).1; have := (hx6_30).2; have := (hx5_30).1; have := (hx5_30).2; have := (hz_6).1; have := (hz_6).2; have := (hz_7).1; have := (hz_7).2; have := (h_9).1; have := (h_9).2; have := (hz_10).1; have := (hz_10).2; have := (hr67).1; have := (hr67).2; have := (h_17).1; have := (h_17).2; have := (hz_18).1; have := (hz_18).2; have := (hz_19).1; have := (hz_19).2; have := (hz_20).1; have := (hz_20).2; have := (hr_22).1; have := (hr_22).2; omega)); rw [show ba.toNatClampNeg + x7_30.toNatClampNeg = z_20.toNatClampNeg from (by have q1 : ba.toNatClampNeg = ba.toInt.toNat := rfl; have q1 : x7_30.toNatClampNeg = x7_30.toInt.toNat := rfl; have q1 : z_20.toNatClampNeg = z_20.toInt.toNat := rfl; have := i32_0; have := i32_1; have := i32_2; have := i32_m1; have := (hsx1_30).1; have := (hsx1_30).2; have := (h_5).1; have := (h_5).2; have := (hsx4_30).1; have := (hsx4_30).2; have := (h63).1; have := (h63).2; have := (h_4).1; have := (h_4).2; have := (hx6_30).1; have := (hx6_30).2; have := (hx5_30).1; have := (hx5_30).2; have := (hz_6).1; have := (hz_6).2; have := (hz_7).1; have := (hz_7).2; have := (h_9).1; have := (h_9).2; have := (hz_10).1; have := (hz_10).2; have := (hr67).1; have := (hr67).2; have := (h_17).1; have := (h_17).2; have := (hz_18).1; have := (hz_18).2; have := (hz_19).1; have := (hz_19).2; have := (hz_20).1; have := (hz_20).2; have := (hr_22).1; have := (hr_22).2; omega)] at q5; rw [ez_21]; exact q5))).1] at q9; exact q9)
          refine lv_istore (lv' := [(10, .int r_22), (9, .int r_14), (8, .int z_10), (7, .int x7_30), (6, .int x6_30), (5, .int x5_30), (0, .ref h0), (1, .int b), (2, .int nx), (3, .ref (ad 17)), (4, .int ba)]) hx hb dX13_sum_119 hl (by decide) rfl (fun ls hl => ?_)
          refine lv_iload hx hb dX13_sum_121 (lv_at hl 0 rfl) ?_
          refine lv_iconst (v := (-1)) hx hb dX13_sum_123 (by decide) ?_
          refine lv_icmp_ne (tgt := 129) hx hb dX13_sum_124 (by decide) (fun c_24 => ?_) (fun c_24 => ?_)
          · have h_25 : iv 0 14 r_22 := iv_neL c_24 hr_22 (by decide)
            have h6t : iv 0 28 x6_30 := ⟨(hx6_30).1, (by have := h6b; have := i32_0; have := i32_1; have := i32_2; have := i32_m1; have := (hsx1_30).1; have := (hsx1_30).2; have := (h_5).1; have := (h_5).2; have := (hsx4_30).1; have := (hsx4_30).2; have := (h63).1; have := (h63).2; have := (h_4).1; have := (h_4).2; have := (hx6_30).1; have := (hx6_30).2; have := (hx5_30).1; have := (hx5_30).2; have := (hz_6).1; have := (hz_6).2; have := (hz_7).1; have := (hz_7).2; have := (h_9).1; have := (h_9).2; have := (hz_10).1; have := (hz_10).2; have := (hr67).1; have := (hr67).2; have := (h_17).1; have := (h_17).2; have := (hz_18).1; have := (hz_18).2; have := (hz_19).1; have := (hz_19).2; have := (hz_20).1; have := (hz_20).2; have := (h_25).1; have := (h_25).2; omega)⟩
            refine lv_iload hx hb dX13_sum_129 (lv_at hl 4 rfl) ?_
            refine lv_iload hx hb dX13_sum_131 (lv_at hl 0 rfl) ?_
            refine lv_iadd hx hb dX13_sum_133 ?_
            refine lv_topi (fun z_26 ez_26 => ?_)
            have hz_26 : iv 0 42 z_26 := iv_of ez_26 (iv_add h6t h_25 (by decide))
            have tz_26 : z_26.toInt = (x6_30 : Int32).toInt + (r_22 : Int32).toInt := by rw [ez_26]; exact iv_addE h6t h_25 (by decide)
            refine lv_istore (lv' := [(6, .int z_26), (10, .int r_22), (9, .int r_14), (8, .int z_10), (7, .int x7_30), (5, .int x5_30), (0, .ref h0), (1, .int b), (2, .int nx), (3, .ref (ad 17)), (4, .int ba)]) hx hb dX13_sum_134 hl (by decide) rfl (fun ls hl => ?_)
            obtain ⟨z_27, ez_27⟩ : ∃ z : Int32, z = x7_30 + 1 := ⟨_, rfl⟩
            have hz_27 : iv 1 3 z_27 := iv_of ez_27 (iv_add h_4 (iv_k (by decide) : iv 1 1 1) (by decide))
            have tz_27 : z_27.toInt = x7_30.toInt + 1 := by rw [ez_27]; exact iv_addE h_4 (iv_k (by decide) : iv 1 1 1) (by decide)
            refine lv_iinc (v := z_27) (lv' := [(7, .int z_27), (6, .int z_26), (10, .int r_22), (9, .int r_14), (8, .int z_10), (5, .int x5_30), (0, .ref h0), (1, .int b), (2, .int nx), (3, .ref (ad 17)), (4, .int ba)]) hx hb dX13_sum_136 hl (k := 4) rfl ez_27.symm (by decide) rfl (fun ls hl => ?_)
            refine lv_goto (tgt := 30) hx hb dX13_sum_139 (by decide) ?_
            exact ih30 _ (by rw [← hn30]; exact (iv_meas tz_27 h_4 (by decide))) gm_j30 z_27 z_26 x5_30 rfl (iv_w hz_27 (by decide)) hz_26 hx5_30 hsx1_30 (iv_w h_5 (by decide)) hsx4_30 (KS_tr (L := [75]) KS_rf hkg_j30 (by decide)) hI_j30 (hSPF) (hAN) (hmn) ((by have := h6b; have := i32_0; have := i32_1; have := i32_2; have := i32_m1; have := (hsx1_30).1; have := (hsx1_30).2; have := (h_5).1; have := (h_5).2; have := (hsx4_30).1; have := (hsx4_30).2; have := (h63).1; have := (h63).2; have := (h_4).1; have := (h_4).2; have := (h6t).1; have := (h6t).2; have := (hx5_30).1; have := (hx5_30).2; have := (hz_6).1; have := (hz_6).2; have := (hz_7).1; have := (hz_7).2; have := (h_9).1; have := (h_9).2; have := (hz_10).1; have := (hz_10).2; have := (hr67).1; have := (hr67).2; have := (h_17).1; have := (h_17).2; have := (hz_18).1; have := (hz_18).2; have := (hz_19).1; have := (hz_19).2; have := (hz_20).1; have := (hz_20).2; have := (h_25).1; have := (h_25).2; have := (hz_26).1; have := (hz_26).2; have := (hz_27).1; have := (hz_27).2; omega)) ((by have q9 := hsu0; rw [if_neg (fun q => q.1 (by rw [← hask]; have := i32_0; have := i32_1; have := i32_2; have := i32_m1; have := (hsx1_30).1; have := (hsx1_30).2; have := (h_5).1; have := (h_5).2; have := (hsx4_30).1; have := (hsx4_30).2; have := (h63).1; have := (h63).2; have := (h_4).1; have := (h_4).2; have := (h6t).1; have := (h6t).2; have := (hx5_30).1; have := (hx5_30).2; have := (hz_6).1; have := (hz_6).2; have := (hz_7).1; have := (hz_7).2; have := (h_9).1; have := (h_9).2; have := (hz_10).1; have := (hz_10).2; have := (hr67).1; have := (hr67).2; have := (h_17).1; have := (h_17).2; have := (hz_18).1; have := (hz_18).2; have := (hz_19).1; have := (hz_19).2; have := (hz_20).1; have := (hz_20).2; have := (h_25).1; have := (h_25).2; have := (hz_26).1; have := (hz_26).2; have := (hz_27).1; have := (hz_27).2; omega)), ← hw116, if_neg (fun q => c_24 (Int32.toInt_inj.mp (q.trans (by decide))))] at q9; rw [show z_27.toNatClampNeg = x7_30.toNatClampNeg + 1 from (by have q1 : z_27.toNatClampNeg = z_27.toInt.toNat := rfl; have q1 : x7_30.toNatClampNeg = x7_30.toInt.toNat := rfl; have := i32_0; have := i32_1; have := i32_2; have := i32_m1; have := (hsx1_30).1; have := (hsx1_30).2; have := (h_5).1; have := (h_5).2; have := (hsx4_30).1; have := (hsx4_30).2; have := (h63).1; have := (h63).2; have := (h_4).1; have := (h_4).2; have := (h6t).1; have := (h6t).2; have := (hx5_30).1; have := (hx5_30).2; have := (hz_6).1; have := (hz_6).2; have := (hz_7).1; have := (hz_7).2; have := (h_9).1; have := (h_9).2; have := (hz_10).1; have := (hz_10).2; have := (hr67).1; have := (hr67).2; have := (h_17).1; have := (h_17).2; have := (hz_18).1; have := (hz_18).2; have := (hz_19).1; have := (hz_19).2; have := (hz_20).1; have := (hz_20).2; have := (h_25).1; have := (h_25).2; have := (hz_26).1; have := (hz_26).2; have := (hz_27).1; have := (hz_27).2; omega), show z_26.toInt = x6_30.toInt + r_22.toInt from (by have := i32_0; have := i32_1; have := i32_2; have := i32_m1; have := (hsx1_30).1; have := (hsx1_30).2; have := (h_5).1; have := (h_5).2; have := (hsx4_30).1; have := (hsx4_30).2; have := (h63).1; have := (h63).2; have := (h_4).1; have := (h_4).2; have := (h6t).1; have := (h6t).2; have := (hx5_30).1; have := (hx5_30).2; have := (hz_6).1; have := (hz_6).2; have := (hz_7).1; have := (hz_7).2; have := (h_9).1; have := (h_9).2; have := (hz_10).1; have := (hz_10).2; have := (hr67).1; have := (hr67).2; have := (h_17).1; have := (h_17).2; have := (hz_18).1; have := (hz_18).2; have := (hz_19).1; have := (hz_19).2; have := (hz_20).1; have := (hz_20).2; have := (h_25).1; have := (h_25).2; have := (hz_26).1; have := (hz_26).2; have := (hz_27).1; have := (hz_27).2; omega)]; exact q9)) _ _ _ hP hD hS (lv_sub hl [0, 1, 5, 6, 7, 8, 9, 10] rfl)
          · have h_28 : iv (-1) (-1) r_22 := iv_eq c_24 hr_22 (iv_k (by decide) : iv (-1) (-1) (-1)) (by decide)
            refine lv_iconst (v := (-1)) hx hb dX13_sum_127 (by decide) ?_
            exact W.iret (v := (-1)) hx hb hr (fun t ht hW => ⟨⟨(-1), (sg, gm_j30, lg), rfl, ⟨sg, gm_j30, lg, rfl, hI_j30, KS_rf, (KS_tr (L := [75]) KS_rf hkg_j30 (by decide)), KS_rf, (iv_w (iv_k (by decide) : iv (-1) (-1) (-1)) (by decide)), (Or.inl rfl), ((by have q9 := hsu0; rw [if_neg (fun q => q.1 (by rw [← hask]; have := i32_0; have := i32_1; have := i32_2; have := i32_m1; have := (hsx1_30).1; have := (hsx1_30).2; have := (h_5).1; have := (h_5).2; have := (hsx4_30).1; have := (hsx4_30).2; have := (h63).1; have := (h63).2; have := (h_4).1; have := (h_4).2; have := (hx6_30).1; have := (hx6_30).2; have := (hx5_30).1; have := (hx5_30).2; have := (hz_6).1; have := (hz_6).2; have := (hz_7).1; have := (hz_7).2; have := (h_9).1; have := (h_9).2; have := (hz_10).1; have := (hz_10).2; have := (hr67).1; have := (hr67).2; have := (h_17).1; have := (h_17).2; have := (hz_18).1; have := (hz_18).2; have := (hz_19).1; have := (hz_19).2; have := (hz_20).1; have := (hz_20).2; have := (h_28).1; have := (h_28).2; omega)), ← hw116, if_pos (by have := i32_0; have := i32_1; have := i32_2; have := i32_m1; have := (hsx1_30).1; have := (hsx1_30).2; have := (h_5).1; have := (h_5).2; have := (hsx4_30).1; have := (hsx4_30).2; have := (h63).1; have := (h63).2; have := (h_4).1; have := (h_4).2; have := (hx6_30).1; have := (hx6_30).2; have := (hx5_30).1; have := (hx5_30).2; have := (hz_6).1; have := (hz_6).2; have := (hz_7).1; have := (hz_7).2; have := (h_9).1; have := (h_9).2; have := (hz_10).1; have := (hz_10).2; have := (hr67).1; have := (hr67).2; have := (h_17).1; have := (h_17).2; have := (hz_18).1; have := (hz_18).2; have := (hz_19).1; have := (hz_19).2; have := (hz_20).1; have := (hz_20).2; have := (h_28).1; have := (h_28).2; omega)] at q9; rw [q9]; rfl))⟩, by rw [ht]; exact hP, va_K.moved hW.alike hK, hD⟩, hS.F ht⟩) hS.2.2 dX13_sum_128
        · have h_29 : iv 0 15 r_14 := iv_neL c_16 hr_14 (by decide)
          refine lv_iload hx hb dX13_sum_78 (lv_at hl 0 rfl) ?_
          refine lv_aload_n hx hb dX13_sum_80 rfl (lv_at hl 8 rfl) ?_
          refine lv_iload hx hb dX13_sum_81 (lv_at hl 9 rfl) ?_
          refine lv_iload hx hb dX13_sum_83 (lv_at hl 2 rfl) ?_
          refine lv_iadd hx hb dX13_sum_85 ?_
          refine lv_topi (fun z_30 ez_30 => ?_)
          have hz_30 : iv 0 95 z_30 := iv_of ez_30 (iv_add hsx4_30 h_4 (by decide))
          have tz_30 : z_30.toInt = (ba : Int32).toInt + (x7_30 : Int32).toInt := by rw [ez_30]; exact iv_addE hsx4_30 h_4 (by decide)
          refine mr_iald hx hb hK hP 16 (k := 17) rfl rfl rfl (show vp_in z_30 96 from (iv_in hz_30 (by decide))) dX13_sum_86 ?_
          refine lv_topi (fun z_31 ez_31 => ?_)
          have ez_31 := ez_31.trans (congrFun (hkg_j30 17 (by decide)) _)
          refine lv_icmp_eq (tgt := 94) hx hb dX13_sum_87 (by decide) (fun c_32 => ?_) (fun c_32 => ?_)
          · have d_33 : (r_14 : Int32).toInt = (z_31 : Int32).toInt := congrArg Int32.toInt c_32
            have h_34 : iv 0 15 z_31 := iv_eq (Eq.symm c_32) (iv_all z_31) h_29 (by decide)
            refine lv_aload_n hx hb dX13_sum_94 rfl (lv_at hl 5 rfl) ?_
            refine lv_aload_n hx hb dX13_sum_95 rfl (lv_at hl 5 rfl) ?_
            refine mr_get (v := .ref (ad 70)) hx hb htb inX13 hown hK hP 70 (by decide) (htb _ kw_1097) rfl dX13_sum_96 ?_
            refine lv_iload hx hb dX13_sum_99 (lv_at hl 1 rfl) ?_
            refine mr_iald hx hb hK hP 55 (k := 70) rfl rfl rfl (show vp_in z_10 405 from (iv_in hz_10 (by decide))) dX13_sum_101 ?_
            refine lv_topi (fun z_35 ez_35 => ?_)
            have hz_35 : iv 0 3 z_35 := iv_of ez_35 (MI_a hI_j30 70 hz_10 (by decide))
            have ez_35 := ez_35.trans (congrFun (hkg_j30 70 (by decide)) _)
            refine lv_aload_n hx hb dX13_sum_102 rfl (lv_at hl 5 rfl) ?_
            refine mr_get (v := .ref (ad 71)) hx hb htb inX13 hown hK hP 71 (by decide) (htb _ kw_1098) rfl dX13_sum_103 ?_
            refine lv_iload hx hb dX13_sum_106 (lv_at hl 1 rfl) ?_
            refine mr_iald hx hb hK hP 56 (k := 71) rfl rfl rfl (show vp_in z_10 405 from (iv_in hz_10 (by decide))) dX13_sum_108 ?_
            refine lv_topi (fun z_36 ez_36 => ?_)
            have hz_36 : iv 0 1079 z_36 := iv_of ez_36 (MI_a hI_j30 71 hz_10 (by decide))
            have ez_36 := ez_36.trans (congrFun (hkg_j30 71 (by decide)) _)
            refine lv_aload_n hx hb dX13_sum_109 rfl (lv_at hl 8 rfl) ?_
            refine lv_iload hx hb dX13_sum_110 (lv_at hl 9 rfl) ?_
            refine lv_iload hx hb dX13_sum_112 (lv_at hl 2 rfl) ?_
            refine lv_iadd hx hb dX13_sum_114 ?_
            refine lv_topi (fun z_37 ez_37 => ?_)
            obtain rfl : z_30 = z_37 := ez_30.trans ez_37.symm
            refine mr_iald hx hb hK hP 16 (k := 17) rfl rfl rfl (show vp_in z_30 96 from (iv_in hz_30 (by decide))) dX13_sum_115 ?_
            refine lv_topi (fun z_38 ez_38 => ?_)
            obtain rfl : z_31 = z_38 := ez_31.trans (ez_38.trans (congrFun (hkg_j30 17 (by decide)) _)).symm
            refine mr_calli (rest := []) ⟨hx, hb, hml, hown, htb⟩ (f_weight9 l dC dI h0 ad cid sg gm_j30 lg z_35 z_36 z_31 wg wl rg S (ctE wg r_12.toNatClampNeg) ((VS[z_8.toNatClampNeg]?).getD []) hI_j30 hz_35 hz_36 (VAL_at hva (show iv 0 404 z_10 from (iv_w hz_10 (by decide))) ez_35 ez_36) (by have q9 : PR gm := hPR; unfold PR at *; rw [(hkg_j30 6 (by decide))]; exact q9) ((rt9_ks (L := [75]) (KS_tr (L := [75]) KS_rf hkg_j30 (by decide)) (by decide)).trans hRW) hCL (RR_ks (L := []) (M := [75]) hRR KS_rf (KS_tr (L := [75]) KS_rf hkg_j30 (by decide)) (by decide) (by decide)) hWD (by have q5 := (hFV _ hz41).1; rw [hel9] at q5; rw [ez_35, ez_36, (show z_10.toNatClampNeg = 5 * ((sg 63).toNatClampNeg - 1) + z_8.toNatClampNeg from (by have q1 : z_10.toNatClampNeg = z_10.toInt.toNat := rfl; have q1 : z_8.toNatClampNeg = z_8.toInt.toNat := rfl; have q1 : (sg 63).toNatClampNeg = (sg 63).toInt.toNat := rfl; have := i32_0; have := i32_1; have := i32_2; have := i32_m1; have := (show iv 0 80 (sg 63) from MI_s hI 63).1; have := (show iv 0 80 (sg 63) from MI_s hI 63).2; have := (hsx1_30).1; have := (hsx1_30).2; have := (h_5).1; have := (h_5).2; have := (hsx4_30).1; have := (hsx4_30).2; have := (h63).1; have := (h63).2; have := (h_4).1; have := (h_4).2; have := (hx6_30).1; have := (hx6_30).2; have := (hx5_30).1; have := (hx5_30).2; have := (hz_6).1; have := (hz_6).2; have := (hz_7).1; have := (hz_7).2; have := (h_9).1; have := (h_9).2; have := (hz_10).1; have := (hz_10).2; have := (hr67).1; have := (hr67).2; have := (h_29).1; have := (h_29).2; have := (hz_30).1; have := (hz_30).2; have := (h_34).1; have := (h_34).2; have := (hz_35).1; have := (hz_35).2; have := (hz_36).1; have := (hz_36).2; omega))]; exact q5) (by rw [((show z_31.toInt = (wg 54 (3 * s9 + x7_30.toNatClampNeg)).toInt ∧ ty9 (wg 54 (3 * s9 + x7_30.toNatClampNeg)).toInt from (by have q5 := hSG.2 _ (show x7_30.toNatClampNeg < nx.toNatClampNeg from (by have q1 : x7_30.toNatClampNeg = x7_30.toInt.toNat := rfl; have q1 : nx.toNatClampNeg = nx.toInt.toNat := rfl; have := i32_0; have := i32_1; have := i32_2; have := i32_m1; have := (hsx1_30).1; have := (hsx1_30).2; have := (h_5).1; have := (h_5).2; have := (hsx4_30).1; have := (hsx4_30).2; have := (h63).1; have := (h63).2; have := (h_4).1; have := (h_4).2; have := (hx6_30).1; have := (hx6_30).2; have := (hx5_30).1; have := (hx5_30).2; have := (hz_6).1; have := (hz_6).2; have := (hz_7).1; have := (hz_7).2; have := (h_9).1; have := (h_9).2; have := (hz_10).1; have := (hz_10).2; have := (hr67).1; have := (hr67).2; have := (h_29).1; have := (h_29).2; have := (hz_30).1; have := (hz_30).2; have := (h_34).1; have := (h_34).2; have := (hz_35).1; have := (hz_35).2; have := (hz_36).1; have := (hz_36).2; omega)); rw [show ba.toNatClampNeg + x7_30.toNatClampNeg = z_30.toNatClampNeg from (by have q1 : ba.toNatClampNeg = ba.toInt.toNat := rfl; have q1 : x7_30.toNatClampNeg = x7_30.toInt.toNat := rfl; have q1 : z_30.toNatClampNeg = z_30.toInt.toNat := rfl; have := i32_0; have := i32_1; have := i32_2; have := i32_m1; have := (hsx1_30).1; have := (hsx1_30).2; have := (h_5).1; have := (h_5).2; have := (hsx4_30).1; have := (hsx4_30).2; have := (h63).1; have := (h63).2; have := (h_4).1; have := (h_4).2; have := (hx6_30).1; have := (hx6_30).2; have := (hx5_30).1; have := (hx5_30).2; have := (hz_6).1; have := (hz_6).2; have := (hz_7).1; have := (hz_7).2; have := (h_9).1; have := (h_9).2; have := (hz_10).1; have := (hz_10).2; have := (hr67).1; have := (hr67).2; have := (h_29).1; have := (h_29).2; have := (hz_30).1; have := (hz_30).2; have := (h_34).1; have := (h_34).2; have := (hz_35).1; have := (hz_35).2; have := (hz_36).1; have := (hz_36).2; omega)] at q5; rw [ez_31]; exact q5))).1]; exact ((show z_31.toInt = (wg 54 (3 * s9 + x7_30.toNatClampNeg)).toInt ∧ ty9 (wg 54 (3 * s9 + x7_30.toNatClampNeg)).toInt from (by have q5 := hSG.2 _ (show x7_30.toNatClampNeg < nx.toNatClampNeg from (by have q1 : x7_30.toNatClampNeg = x7_30.toInt.toNat := rfl; have q1 : nx.toNatClampNeg = nx.toInt.toNat := rfl; have := i32_0; have := i32_1; have := i32_2; have := i32_m1; have := (hsx1_30).1; have := (hsx1_30).2; have := (h_5).1; have := (h_5).2; have := (hsx4_30).1; have := (hsx4_30).2; have := (h63).1; have := (h63).2; have := (h_4).1; have := (h_4).2; have := (hx6_30).1; have := (hx6_30).2; have := (hx5_30).1; have := (hx5_30).2; have := (hz_6).1; have := (hz_6).2; have := (hz_7).1; have := (hz_7).2; have := (h_9).1; have := (h_9).2; have := (hz_10).1; have := (hz_10).2; have := (hr67).1; have := (hr67).2; have := (h_29).1; have := (h_29).2; have := (hz_30).1; have := (hz_30).2; have := (h_34).1; have := (h_34).2; have := (hz_35).1; have := (hz_35).2; have := (hz_36).1; have := (hz_36).2; omega)); rw [show ba.toNatClampNeg + x7_30.toNatClampNeg = z_30.toNatClampNeg from (by have q1 : ba.toNatClampNeg = ba.toInt.toNat := rfl; have q1 : x7_30.toNatClampNeg = x7_30.toInt.toNat := rfl; have q1 : z_30.toNatClampNeg = z_30.toInt.toNat := rfl; have := i32_0; have := i32_1; have := i32_2; have := i32_m1; have := (hsx1_30).1; have := (hsx1_30).2; have := (h_5).1; have := (h_5).2; have := (hsx4_30).1; have := (hsx4_30).2; have := (h63).1; have := (h63).2; have := (h_4).1; have := (h_4).2; have := (hx6_30).1; have := (hx6_30).2; have := (hx5_30).1; have := (hx5_30).2; have := (hz_6).1; have := (hz_6).2; have := (hz_7).1; have := (hz_7).2; have := (h_9).1; have := (h_9).2; have := (hz_10).1; have := (hz_10).2; have := (hr67).1; have := (hr67).2; have := (h_29).1; have := (h_29).2; have := (hz_30).1; have := (hz_30).2; have := (h_34).1; have := (h_34).2; have := (hz_35).1; have := (hz_35).2; have := (hz_36).1; have := (hz_36).2; omega)] at q5; rw [ez_31]; exact q5))).2)) (cwV 3 htb (gd_V kw_1290 kw_1291 kw_133 kw_160 kw_1643) rfl rfl rfl (by decide +kernel) ⟨Nat.le_of_ble_eq_true rfl, Nat.le_of_ble_eq_true rfl⟩) rfl hl.1 rfl (Nat.le_of_ble_eq_true rfl) dX13_sum_116 ⟨Nat.zero_le _, Nat.zero_le _⟩ hK hP hD hS hA (fun r_39 u_40 H locs hw hP hD hS => ?_)
            obtain ⟨hr_39, fw_r_39, rfl⟩ := hw
            have hP : va_P (dC, dI) vwCl (mW h0 ad cid sg gm_j30 lg) H := hP
            have hD : va_D A (mW h0 ad cid sg gm_j30 lg) := hD
            have hw116 : r_39.toInt = wCo wg wl (zO S) (ctE wg r_12.toNatClampNeg) ((VS[z_8.toNatClampNeg]?).getD []) (wg 54 (3 * s9 + x7_30.toNatClampNeg)).toInt := (by have q9 := fw_r_39; rw [((show z_31.toInt = (wg 54 (3 * s9 + x7_30.toNatClampNeg)).toInt ∧ ty9 (wg 54 (3 * s9 + x7_30.toNatClampNeg)).toInt from (by have q5 := hSG.2 _ (show x7_30.toNatClampNeg < nx.toNatClampNeg from (by have q1 : x7_30.toNatClampNeg = x7_30.toInt.toNat := rfl; have q1 : nx.toNatClampNeg = nx.toInt.toNat := rfl; have := i32_0; have := i32_1; have := i32_2; have := i32_m1; have := (hsx1_30).1; have := (hsx1_30).2; have := (h_5).1; have := (h_5).2; have := (hsx4_30).1; have := (hsx4_30).2; have := (h63).1; have := (h63).2; have := (h_4).1; have := (h_4).2; have := (hx6_30).1; have := (hx6_30).2; have := (hx5_30).1; have := (hx5_30).2; have := (hz_6).1; have := (hz_6).2; have := (hz_7).1; have := (hz_7).2; have := (h_9).1; have := (h_9).2; have := (hz_10).1; have := (hz_10).2; have := (hr67).1; have := (hr67).2; have := (h_29).1; have := (h_29).2; have := (hz_30).1; have := (hz_30).2; have := (h_34).1; have := (h_34).2; have := (hz_35).1; have := (hz_35).2; have := (hz_36).1; have := (hz_36).2; have := (hr_39).1; have := (hr_39).2; omega)); rw [show ba.toNatClampNeg + x7_30.toNatClampNeg = z_30.toNatClampNeg from (by have q1 : ba.toNatClampNeg = ba.toInt.toNat := rfl; have q1 : x7_30.toNatClampNeg = x7_30.toInt.toNat := rfl; have q1 : z_30.toNatClampNeg = z_30.toInt.toNat := rfl; have := i32_0; have := i32_1; have := i32_2; have := i32_m1; have := (hsx1_30).1; have := (hsx1_30).2; have := (h_5).1; have := (h_5).2; have := (hsx4_30).1; have := (hsx4_30).2; have := (h63).1; have := (h63).2; have := (h_4).1; have := (h_4).2; have := (hx6_30).1; have := (hx6_30).2; have := (hx5_30).1; have := (hx5_30).2; have := (hz_6).1; have := (hz_6).2; have := (hz_7).1; have := (hz_7).2; have := (h_9).1; have := (h_9).2; have := (hz_10).1; have := (hz_10).2; have := (hr67).1; have := (hr67).2; have := (h_29).1; have := (h_29).2; have := (hz_30).1; have := (hz_30).2; have := (h_34).1; have := (h_34).2; have := (hz_35).1; have := (hz_35).2; have := (hz_36).1; have := (hz_36).2; have := (hr_39).1; have := (hr_39).2; omega)] at q5; rw [ez_31]; exact q5))).1] at q9; exact q9)
            refine lv_istore (lv' := [(10, .int r_39), (9, .int r_14), (8, .int z_10), (7, .int x7_30), (6, .int x6_30), (5, .int x5_30), (0, .ref h0), (1, .int b), (2, .int nx), (3, .ref (ad 17)), (4, .int ba)]) hx hb dX13_sum_119 hl (by decide) rfl (fun ls hl => ?_)
            refine lv_iload hx hb dX13_sum_121 (lv_at hl 0 rfl) ?_
            refine lv_iconst (v := (-1)) hx hb dX13_sum_123 (by decide) ?_
            refine lv_icmp_ne (tgt := 129) hx hb dX13_sum_124 (by decide) (fun c_41 => ?_) (fun c_41 => ?_)
            · have h_42 : iv 0 14 r_39 := iv_neL c_41 hr_39 (by decide)
              have h6t : iv 0 28 x6_30 := ⟨(hx6_30).1, (by have := h6b; have := i32_0; have := i32_1; have := i32_2; have := i32_m1; have := (hsx1_30).1; have := (hsx1_30).2; have := (h_5).1; have := (h_5).2; have := (hsx4_30).1; have := (hsx4_30).2; have := (h63).1; have := (h63).2; have := (h_4).1; have := (h_4).2; have := (hx6_30).1; have := (hx6_30).2; have := (hx5_30).1; have := (hx5_30).2; have := (hz_6).1; have := (hz_6).2; have := (hz_7).1; have := (hz_7).2; have := (h_9).1; have := (h_9).2; have := (hz_10).1; have := (hz_10).2; have := (hr67).1; have := (hr67).2; have := (h_29).1; have := (h_29).2; have := (hz_30).1; have := (hz_30).2; have := (h_34).1; have := (h_34).2; have := (hz_35).1; have := (hz_35).2; have := (hz_36).1; have := (hz_36).2; have := (h_42).1; have := (h_42).2; omega)⟩
              refine lv_iload hx hb dX13_sum_129 (lv_at hl 4 rfl) ?_
              refine lv_iload hx hb dX13_sum_131 (lv_at hl 0 rfl) ?_
              refine lv_iadd hx hb dX13_sum_133 ?_
              refine lv_topi (fun z_43 ez_43 => ?_)
              have hz_43 : iv 0 42 z_43 := iv_of ez_43 (iv_add h6t h_42 (by decide))
              have tz_43 : z_43.toInt = (x6_30 : Int32).toInt + (r_39 : Int32).toInt := by rw [ez_43]; exact iv_addE h6t h_42 (by decide)
              refine lv_istore (lv' := [(6, .int z_43), (10, .int r_39), (9, .int r_14), (8, .int z_10), (7, .int x7_30), (5, .int x5_30), (0, .ref h0), (1, .int b), (2, .int nx), (3, .ref (ad 17)), (4, .int ba)]) hx hb dX13_sum_134 hl (by decide) rfl (fun ls hl => ?_)
              obtain ⟨z_44, ez_44⟩ : ∃ z : Int32, z = x7_30 + 1 := ⟨_, rfl⟩
              have hz_44 : iv 1 3 z_44 := iv_of ez_44 (iv_add h_4 (iv_k (by decide) : iv 1 1 1) (by decide))
              have tz_44 : z_44.toInt = x7_30.toInt + 1 := by rw [ez_44]; exact iv_addE h_4 (iv_k (by decide) : iv 1 1 1) (by decide)
              refine lv_iinc (v := z_44) (lv' := [(7, .int z_44), (6, .int z_43), (10, .int r_39), (9, .int r_14), (8, .int z_10), (5, .int x5_30), (0, .ref h0), (1, .int b), (2, .int nx), (3, .ref (ad 17)), (4, .int ba)]) hx hb dX13_sum_136 hl (k := 4) rfl ez_44.symm (by decide) rfl (fun ls hl => ?_)
              refine lv_goto (tgt := 30) hx hb dX13_sum_139 (by decide) ?_
              exact ih30 _ (by rw [← hn30]; exact (iv_meas tz_44 h_4 (by decide))) gm_j30 z_44 z_43 x5_30 rfl (iv_w hz_44 (by decide)) hz_43 hx5_30 hsx1_30 (iv_w h_5 (by decide)) hsx4_30 (KS_tr (L := [75]) KS_rf hkg_j30 (by decide)) hI_j30 (hSPF) (hAN) (hmn) ((by have := h6b; have := i32_0; have := i32_1; have := i32_2; have := i32_m1; have := (hsx1_30).1; have := (hsx1_30).2; have := (h_5).1; have := (h_5).2; have := (hsx4_30).1; have := (hsx4_30).2; have := (h63).1; have := (h63).2; have := (h_4).1; have := (h_4).2; have := (h6t).1; have := (h6t).2; have := (hx5_30).1; have := (hx5_30).2; have := (hz_6).1; have := (hz_6).2; have := (hz_7).1; have := (hz_7).2; have := (h_9).1; have := (h_9).2; have := (hz_10).1; have := (hz_10).2; have := (hr67).1; have := (hr67).2; have := (h_29).1; have := (h_29).2; have := (hz_30).1; have := (hz_30).2; have := (h_34).1; have := (h_34).2; have := (hz_35).1; have := (hz_35).2; have := (hz_36).1; have := (hz_36).2; have := (h_42).1; have := (h_42).2; have := (hz_43).1; have := (hz_43).2; have := (hz_44).1; have := (hz_44).2; omega)) ((by have q9 := hsu0; rw [if_neg (fun q => q.2 (by rw [← hask, ← ((show z_31.toInt = (wg 54 (3 * s9 + x7_30.toNatClampNeg)).toInt ∧ ty9 (wg 54 (3 * s9 + x7_30.toNatClampNeg)).toInt from (by have q5 := hSG.2 _ (show x7_30.toNatClampNeg < nx.toNatClampNeg from (by have q1 : x7_30.toNatClampNeg = x7_30.toInt.toNat := rfl; have q1 : nx.toNatClampNeg = nx.toInt.toNat := rfl; have := i32_0; have := i32_1; have := i32_2; have := i32_m1; have := (hsx1_30).1; have := (hsx1_30).2; have := (h_5).1; have := (h_5).2; have := (hsx4_30).1; have := (hsx4_30).2; have := (h63).1; have := (h63).2; have := (h_4).1; have := (h_4).2; have := (h6t).1; have := (h6t).2; have := (hx5_30).1; have := (hx5_30).2; have := (hz_6).1; have := (hz_6).2; have := (hz_7).1; have := (hz_7).2; have := (h_9).1; have := (h_9).2; have := (hz_10).1; have := (hz_10).2; have := (hr67).1; have := (hr67).2; have := (h_29).1; have := (h_29).2; have := (hz_30).1; have := (hz_30).2; have := (h_34).1; have := (h_34).2; have := (hz_35).1; have := (hz_35).2; have := (hz_36).1; have := (hz_36).2; have := (h_42).1; have := (h_42).2; have := (hz_43).1; have := (hz_43).2; have := (hz_44).1; have := (hz_44).2; omega)); rw [show ba.toNatClampNeg + x7_30.toNatClampNeg = z_30.toNatClampNeg from (by have q1 : ba.toNatClampNeg = ba.toInt.toNat := rfl; have q1 : x7_30.toNatClampNeg = x7_30.toInt.toNat := rfl; have q1 : z_30.toNatClampNeg = z_30.toInt.toNat := rfl; have := i32_0; have := i32_1; have := i32_2; have := i32_m1; have := (hsx1_30).1; have := (hsx1_30).2; have := (h_5).1; have := (h_5).2; have := (hsx4_30).1; have := (hsx4_30).2; have := (h63).1; have := (h63).2; have := (h_4).1; have := (h_4).2; have := (h6t).1; have := (h6t).2; have := (hx5_30).1; have := (hx5_30).2; have := (hz_6).1; have := (hz_6).2; have := (hz_7).1; have := (hz_7).2; have := (h_9).1; have := (h_9).2; have := (hz_10).1; have := (hz_10).2; have := (hr67).1; have := (hr67).2; have := (h_29).1; have := (h_29).2; have := (hz_30).1; have := (hz_30).2; have := (h_34).1; have := (h_34).2; have := (hz_35).1; have := (hz_35).2; have := (hz_36).1; have := (hz_36).2; have := (h_42).1; have := (h_42).2; have := (hz_43).1; have := (hz_43).2; have := (hz_44).1; have := (hz_44).2; omega)] at q5; rw [ez_31]; exact q5))).1]; have := i32_0; have := i32_1; have := i32_2; have := i32_m1; have := (hsx1_30).1; have := (hsx1_30).2; have := (h_5).1; have := (h_5).2; have := (hsx4_30).1; have := (hsx4_30).2; have := (h63).1; have := (h63).2; have := (h_4).1; have := (h_4).2; have := (h6t).1; have := (h6t).2; have := (hx5_30).1; have := (hx5_30).2; have := (hz_6).1; have := (hz_6).2; have := (hz_7).1; have := (hz_7).2; have := (h_9).1; have := (h_9).2; have := (hz_10).1; have := (hz_10).2; have := (hr67).1; have := (hr67).2; have := (h_29).1; have := (h_29).2; have := (hz_30).1; have := (hz_30).2; have := (h_34).1; have := (h_34).2; have := (hz_35).1; have := (hz_35).2; have := (hz_36).1; have := (hz_36).2; have := (h_42).1; have := (h_42).2; have := (hz_43).1; have := (hz_43).2; have := (hz_44).1; have := (hz_44).2; omega)), ← hw116, if_neg (fun q => c_41 (Int32.toInt_inj.mp (q.trans (by decide))))] at q9; rw [show z_44.toNatClampNeg = x7_30.toNatClampNeg + 1 from (by have q1 : z_44.toNatClampNeg = z_44.toInt.toNat := rfl; have q1 : x7_30.toNatClampNeg = x7_30.toInt.toNat := rfl; have := i32_0; have := i32_1; have := i32_2; have := i32_m1; have := (hsx1_30).1; have := (hsx1_30).2; have := (h_5).1; have := (h_5).2; have := (hsx4_30).1; have := (hsx4_30).2; have := (h63).1; have := (h63).2; have := (h_4).1; have := (h_4).2; have := (h6t).1; have := (h6t).2; have := (hx5_30).1; have := (hx5_30).2; have := (hz_6).1; have := (hz_6).2; have := (hz_7).1; have := (hz_7).2; have := (h_9).1; have := (h_9).2; have := (hz_10).1; have := (hz_10).2; have := (hr67).1; have := (hr67).2; have := (h_29).1; have := (h_29).2; have := (hz_30).1; have := (hz_30).2; have := (h_34).1; have := (h_34).2; have := (hz_35).1; have := (hz_35).2; have := (hz_36).1; have := (hz_36).2; have := (h_42).1; have := (h_42).2; have := (hz_43).1; have := (hz_43).2; have := (hz_44).1; have := (hz_44).2; omega), show z_43.toInt = x6_30.toInt + r_39.toInt from (by have := i32_0; have := i32_1; have := i32_2; have := i32_m1; have := (hsx1_30).1; have := (hsx1_30).2; have := (h_5).1; have := (h_5).2; have := (hsx4_30).1; have := (hsx4_30).2; have := (h63).1; have := (h63).2; have := (h_4).1; have := (h_4).2; have := (h6t).1; have := (h6t).2; have := (hx5_30).1; have := (hx5_30).2; have := (hz_6).1; have := (hz_6).2; have := (hz_7).1; have := (hz_7).2; have := (h_9).1; have := (h_9).2; have := (hz_10).1; have := (hz_10).2; have := (hr67).1; have := (hr67).2; have := (h_29).1; have := (h_29).2; have := (hz_30).1; have := (hz_30).2; have := (h_34).1; have := (h_34).2; have := (hz_35).1; have := (hz_35).2; have := (hz_36).1; have := (hz_36).2; have := (h_42).1; have := (h_42).2; have := (hz_43).1; have := (hz_43).2; have := (hz_44).1; have := (hz_44).2; omega)]; exact q9)) _ _ _ hP hD hS (lv_sub hl [0, 1, 5, 6, 7, 8, 9, 10] rfl)
            · have h_45 : iv (-1) (-1) r_39 := iv_eq c_41 hr_39 (iv_k (by decide) : iv (-1) (-1) (-1)) (by decide)
              refine lv_iconst (v := (-1)) hx hb dX13_sum_127 (by decide) ?_
              exact W.iret (v := (-1)) hx hb hr (fun t ht hW => ⟨⟨(-1), (sg, gm_j30, lg), rfl, ⟨sg, gm_j30, lg, rfl, hI_j30, KS_rf, (KS_tr (L := [75]) KS_rf hkg_j30 (by decide)), KS_rf, (iv_w (iv_k (by decide) : iv (-1) (-1) (-1)) (by decide)), (Or.inl rfl), ((by have q9 := hsu0; rw [if_neg (fun q => q.2 (by rw [← hask, ← ((show z_31.toInt = (wg 54 (3 * s9 + x7_30.toNatClampNeg)).toInt ∧ ty9 (wg 54 (3 * s9 + x7_30.toNatClampNeg)).toInt from (by have q5 := hSG.2 _ (show x7_30.toNatClampNeg < nx.toNatClampNeg from (by have q1 : x7_30.toNatClampNeg = x7_30.toInt.toNat := rfl; have q1 : nx.toNatClampNeg = nx.toInt.toNat := rfl; have := i32_0; have := i32_1; have := i32_2; have := i32_m1; have := (hsx1_30).1; have := (hsx1_30).2; have := (h_5).1; have := (h_5).2; have := (hsx4_30).1; have := (hsx4_30).2; have := (h63).1; have := (h63).2; have := (h_4).1; have := (h_4).2; have := (hx6_30).1; have := (hx6_30).2; have := (hx5_30).1; have := (hx5_30).2; have := (hz_6).1; have := (hz_6).2; have := (hz_7).1; have := (hz_7).2; have := (h_9).1; have := (h_9).2; have := (hz_10).1; have := (hz_10).2; have := (hr67).1; have := (hr67).2; have := (h_29).1; have := (h_29).2; have := (hz_30).1; have := (hz_30).2; have := (h_34).1; have := (h_34).2; have := (hz_35).1; have := (hz_35).2; have := (hz_36).1; have := (hz_36).2; have := (h_45).1; have := (h_45).2; omega)); rw [show ba.toNatClampNeg + x7_30.toNatClampNeg = z_30.toNatClampNeg from (by have q1 : ba.toNatClampNeg = ba.toInt.toNat := rfl; have q1 : x7_30.toNatClampNeg = x7_30.toInt.toNat := rfl; have q1 : z_30.toNatClampNeg = z_30.toInt.toNat := rfl; have := i32_0; have := i32_1; have := i32_2; have := i32_m1; have := (hsx1_30).1; have := (hsx1_30).2; have := (h_5).1; have := (h_5).2; have := (hsx4_30).1; have := (hsx4_30).2; have := (h63).1; have := (h63).2; have := (h_4).1; have := (h_4).2; have := (hx6_30).1; have := (hx6_30).2; have := (hx5_30).1; have := (hx5_30).2; have := (hz_6).1; have := (hz_6).2; have := (hz_7).1; have := (hz_7).2; have := (h_9).1; have := (h_9).2; have := (hz_10).1; have := (hz_10).2; have := (hr67).1; have := (hr67).2; have := (h_29).1; have := (h_29).2; have := (hz_30).1; have := (hz_30).2; have := (h_34).1; have := (h_34).2; have := (hz_35).1; have := (hz_35).2; have := (hz_36).1; have := (hz_36).2; have := (h_45).1; have := (h_45).2; omega)] at q5; rw [ez_31]; exact q5))).1]; have := i32_0; have := i32_1; have := i32_2; have := i32_m1; have := (hsx1_30).1; have := (hsx1_30).2; have := (h_5).1; have := (h_5).2; have := (hsx4_30).1; have := (hsx4_30).2; have := (h63).1; have := (h63).2; have := (h_4).1; have := (h_4).2; have := (hx6_30).1; have := (hx6_30).2; have := (hx5_30).1; have := (hx5_30).2; have := (hz_6).1; have := (hz_6).2; have := (hz_7).1; have := (hz_7).2; have := (h_9).1; have := (h_9).2; have := (hz_10).1; have := (hz_10).2; have := (hr67).1; have := (hr67).2; have := (h_29).1; have := (h_29).2; have := (hz_30).1; have := (hz_30).2; have := (h_34).1; have := (h_34).2; have := (hz_35).1; have := (hz_35).2; have := (hz_36).1; have := (hz_36).2; have := (h_45).1; have := (h_45).2; omega)), ← hw116, if_pos (by have := i32_0; have := i32_1; have := i32_2; have := i32_m1; have := (hsx1_30).1; have := (hsx1_30).2; have := (h_5).1; have := (h_5).2; have := (hsx4_30).1; have := (hsx4_30).2; have := (h63).1; have := (h63).2; have := (h_4).1; have := (h_4).2; have := (hx6_30).1; have := (hx6_30).2; have := (hx5_30).1; have := (hx5_30).2; have := (hz_6).1; have := (hz_6).2; have := (hz_7).1; have := (hz_7).2; have := (h_9).1; have := (h_9).2; have := (hz_10).1; have := (hz_10).2; have := (hr67).1; have := (hr67).2; have := (h_29).1; have := (h_29).2; have := (hz_30).1; have := (hz_30).2; have := (h_34).1; have := (h_34).2; have := (hz_35).1; have := (hz_35).2; have := (hz_36).1; have := (hz_36).2; have := (h_45).1; have := (h_45).2; omega)] at q9; rw [q9]; rfl))⟩, by rw [ht]; exact hP, va_K.moved hW.alike hK, hD⟩, hS.F ht⟩) hS.2.2 dX13_sum_128
          · refine lv_iconst (v := (-1)) hx hb dX13_sum_90 (by decide) ?_
            refine lv_goto (tgt := 119) hx hb dX13_sum_91 (by decide) ?_
            refine lv_istore (lv' := [(10, .int (-1)), (9, .int r_14), (8, .int z_10), (7, .int x7_30), (6, .int x6_30), (5, .int x5_30), (0, .ref h0), (1, .int b), (2, .int nx), (3, .ref (ad 17)), (4, .int ba)]) hx hb dX13_sum_119 hl (by decide) rfl (fun ls hl => ?_)
            refine lv_iload hx hb dX13_sum_121 (lv_at hl 0 rfl) ?_
            refine lv_iconst (v := (-1)) hx hb dX13_sum_123 (by decide) ?_
            refine lv_icmp_ne (tgt := 129) hx hb dX13_sum_124 (by decide) (fun c_46 => absurd (by decide) c_46) (fun _ => ?_)
            refine lv_iconst (v := (-1)) hx hb dX13_sum_127 (by decide) ?_
            exact W.iret (v := (-1)) hx hb hr (fun t ht hW => ⟨⟨(-1), (sg, gm_j30, lg), rfl, ⟨sg, gm_j30, lg, rfl, hI_j30, KS_rf, (KS_tr (L := [75]) KS_rf hkg_j30 (by decide)), KS_rf, (iv_w (iv_k (by decide) : iv (-1) (-1) (-1)) (by decide)), (Or.inl rfl), ((by have q9 := hsu0; rw [if_pos ⟨(by rw [← hask]; exact fun q => c_16 (Int32.toInt_inj.mp (q.trans (by decide)))), (by rw [← hask, ← ((show z_31.toInt = (wg 54 (3 * s9 + x7_30.toNatClampNeg)).toInt ∧ ty9 (wg 54 (3 * s9 + x7_30.toNatClampNeg)).toInt from (by have q5 := hSG.2 _ (show x7_30.toNatClampNeg < nx.toNatClampNeg from (by have q1 : x7_30.toNatClampNeg = x7_30.toInt.toNat := rfl; have q1 : nx.toNatClampNeg = nx.toInt.toNat := rfl; have := i32_0; have := i32_1; have := i32_2; have := i32_m1; have := (hsx1_30).1; have := (hsx1_30).2; have := (h_5).1; have := (h_5).2; have := (hsx4_30).1; have := (hsx4_30).2; have := (h63).1; have := (h63).2; have := (h_4).1; have := (h_4).2; have := (hx6_30).1; have := (hx6_30).2; have := (hx5_30).1; have := (hx5_30).2; have := (hz_6).1; have := (hz_6).2; have := (hz_7).1; have := (hz_7).2; have := (h_9).1; have := (h_9).2; have := (hz_10).1; have := (hz_10).2; have := (hr67).1; have := (hr67).2; have := (h_29).1; have := (h_29).2; have := (hz_30).1; have := (hz_30).2; omega)); rw [show ba.toNatClampNeg + x7_30.toNatClampNeg = z_30.toNatClampNeg from (by have q1 : ba.toNatClampNeg = ba.toInt.toNat := rfl; have q1 : x7_30.toNatClampNeg = x7_30.toInt.toNat := rfl; have q1 : z_30.toNatClampNeg = z_30.toInt.toNat := rfl; have := i32_0; have := i32_1; have := i32_2; have := i32_m1; have := (hsx1_30).1; have := (hsx1_30).2; have := (h_5).1; have := (h_5).2; have := (hsx4_30).1; have := (hsx4_30).2; have := (h63).1; have := (h63).2; have := (h_4).1; have := (h_4).2; have := (hx6_30).1; have := (hx6_30).2; have := (hx5_30).1; have := (hx5_30).2; have := (hz_6).1; have := (hz_6).2; have := (hz_7).1; have := (hz_7).2; have := (h_9).1; have := (h_9).2; have := (hz_10).1; have := (hz_10).2; have := (hr67).1; have := (hr67).2; have := (h_29).1; have := (h_29).2; have := (hz_30).1; have := (hz_30).2; omega)] at q5; rw [ez_31]; exact q5))).1]; exact fun q => c_32 (Int32.toInt_inj.mp q))⟩] at q9; rw [q9]; rfl))⟩, by rw [ht]; exact hP, va_K.moved hW.alike hK, hD⟩, hS.F ht⟩) hS.2.2 dX13_sum_128
  refine lv_aload_n hx hb dX13_sum_0 rfl (lv_at hl 0 rfl) ?_
  refine lv_iload_n hx hb dX13_sum_1 rfl (lv_at hl 1 rfl) ?_
  refine mr_calli (rest := []) ⟨hx, hb, hml, hown, htb⟩ (f_args l dC dI h0 ad cid sg gm lg b hI hvb (by have := i32_0; have := i32_1; have := i32_2; have := i32_m1; have := (show iv 0 80 (sg 41) from MI_s hI 41).1; have := (show iv 0 80 (sg 41) from MI_s hI 41).2; have := (hvb).1; have := (hvb).2; have := (hvnx).1; have := (hvnx).2; have := (hvba).1; have := (hvba).2; have := (h63).1; have := (h63).2; omega) (ACY_k (DK_of (show KS [] sg sg from KS_rf) (show KS [] gm gm from KS_rf) (show KS [] lg lg from KS_rf) (by decide) (by decide) (by decide)) hac) (STR_k (DK_of (show KS [] sg sg from KS_rf) (show KS [] gm gm from KS_rf) (show KS [] lg lg from KS_rf) (by decide) (by decide) (by decide)).1 hst)) (cwV 1 htb (gd_V kw_1265 kw_1266 kw_121 kw_160 kw_1631) rfl rfl rfl (by decide +kernel) ⟨Nat.le_of_ble_eq_true rfl, Nat.le_of_ble_eq_true rfl⟩) rfl hl.1 rfl (Nat.le_of_ble_eq_true rfl) dX13_sum_2 ⟨Nat.zero_le _, Nat.zero_le _⟩ hK hP hD hS hA (fun r_47 u_48 H locs hw hP hD hS => ?_)
  obtain ⟨hr_47, fAa_r_47, fAz_r_47, rfl⟩ := hw
  have hP : va_P (dC, dI) vwCl (mW h0 ad cid sg gm lg) H := hP
  have hD : va_D A (mW h0 ad cid sg gm lg) := hD
  refine lv_istore (lv' := [(5, .int r_47), (0, .ref h0), (1, .int b), (2, .int nx), (3, .ref (ad 17)), (4, .int ba)]) hx hb dX13_sum_5 hl (by decide) rfl (fun ls hl => ?_)
  refine lv_iload hx hb dX13_sum_7 (lv_at hl 0 rfl) ?_
  refine lv_iload_n hx hb dX13_sum_9 rfl (lv_at hl 3 rfl) ?_
  refine lv_icmp_ne (tgt := 22) hx hb dX13_sum_10 (by decide) (fun c_49 => ?_) (fun c_49 => ?_)
  · refine lv_iconst (v := (-1)) hx hb dX13_sum_22 (by decide) ?_
    exact W.iret (v := (-1)) hx hb hr (fun t ht hW => ⟨⟨(-1), (sg, gm, lg), rfl, ⟨sg, gm, lg, rfl, hI, KS_rf, KS_rf, KS_rf, (iv_w (iv_k (by decide) : iv (-1) (-1) (-1)) (by decide)), (Or.inl rfl), ((by have q9 := BR_n hBR hRW hRS hvb hbl (hr_47).1 fAa_r_47 fAz_r_47; rw [suM_d (fun q => c_49 (Int32.toInt_inj.mp (q9.trans (q.symm.trans hSG.1.symm))))]; rfl))⟩, by rw [ht]; exact hP, va_K.moved hW.alike hK, hD⟩, hS.F ht⟩) hS.2.2 dX13_sum_23
  · have d_50 : (r_47 : Int32).toInt = (nx : Int32).toInt := congrArg Int32.toInt c_49
    have h_51 : iv 0 3 r_47 := iv_eq c_49 hr_47 hvnx (by decide)
    have hAN : ARGN sg gm lg b nx.toNatClampNeg := by have q9 := fAa_r_47; rw [c_49] at q9; exact q9
    have hmn : nx.toInt = (wg 41 (3 * b.toNatClampNeg)).toInt := (by have q9 := BR_n hBR hRW hRS hvb hbl ((show iv 0 4 r_47 from (iv_w h_51 (by decide)))).1 fAa_r_47 fAz_r_47; rw [c_49] at q9; exact q9)
    refine lv_aload_n hx hb dX13_sum_13 rfl (lv_at hl 1 rfl) ?_
    refine lv_iload_n hx hb dX13_sum_14 rfl (lv_at hl 2 rfl) ?_
    refine lv_iload_n hx hb dX13_sum_15 rfl (lv_at hl 3 rfl) ?_
    refine mr_calli (rest := []) ⟨hx, hb, hml, hown, htb⟩ (f_placed9 l dC dI h0 ad cid sg gm lg b nx ws wg wl rs rg hI hvb hvnx (by have := i32_0; have := i32_1; have := i32_2; have := i32_m1; have := (show iv 0 80 (sg 41) from MI_s hI 41).1; have := (show iv 0 80 (sg 41) from MI_s hI 41).2; have := (hvb).1; have := (hvb).2; have := (hvnx).1; have := (hvnx).2; have := (hvba).1; have := (hvba).2; have := (h63).1; have := (h63).2; have := (h_51).1; have := (h_51).2; omega) (ACY_k (DK_of (show KS [] sg sg from KS_rf) (show KS [] gm gm from KS_rf) (show KS [] lg lg from KS_rf) (by decide) (by decide) (by decide)) hac) (STR_k (DK_of (show KS [] sg sg from KS_rf) (show KS [] gm gm from KS_rf) (show KS [] lg lg from KS_rf) (by decide) (by decide) (by decide)).1 hst) hAN hRW hRS hBR hmn) (cwV 2 htb (gd_V kw_1288 kw_1289 kw_132 kw_160 kw_1642) rfl rfl rfl (by decide +kernel) ⟨Nat.le_of_ble_eq_true rfl, Nat.le_of_ble_eq_true rfl⟩) rfl hl.1 rfl (Nat.le_of_ble_eq_true rfl) dX13_sum_16 ⟨Nat.zero_le _, Nat.zero_le _⟩ hK hP hD hS hA (fun r_52 u_53 H locs hw hP hD hS => ?_)
    obtain ⟨sgv_54, gmv_54, lgv_54, rfl, hIv_54, ksv_54, kgv_54, klv_54, hr_52, fPl_r_52, fP9_r_52⟩ := hw
    obtain rfl := KS_nil ksv_54
    obtain rfl := KS_nil klv_54
    have hP : va_P (dC, dI) vwCl (mW h0 ad cid sg gmv_54 lg) H := hP
    have hD : va_D A (mW h0 ad cid sg gmv_54 lg) := hD
    refine lv_if_ne (tgt := 24) hx hb dX13_sum_19 (by decide) (fun c_55 => ?_) (fun c_55 => ?_)
    · have h_56 : iv 1 1 r_52 := iv_neL c_55 hr_52 (by decide)
      refine lv_iconst (v := 0) hx hb dX13_sum_24 (by decide) ?_
      refine lv_istore (lv' := [(6, .int 0), (5, .int r_47), (0, .ref h0), (1, .int b), (2, .int nx), (3, .ref (ad 17)), (4, .int ba)]) hx hb dX13_sum_25 hl (by decide) rfl (fun ls hl => ?_)
      refine lv_iconst (v := 0) hx hb dX13_sum_27 (by decide) ?_
      refine lv_istore (lv' := [(7, .int 0), (6, .int 0), (5, .int r_47), (0, .ref h0), (1, .int b), (2, .int nx), (3, .ref (ad 17)), (4, .int ba)]) hx hb dX13_sum_28 hl (by decide) rfl (fun ls hl => ?_)
      exact hj30 _ gmv_54 0 0 r_47 rfl (iv_w (iv_k (by decide) : iv 0 0 0) (by decide)) (iv_w (iv_k (by decide) : iv 0 0 0) (by decide)) h_51 hvb hvnx hvba (KS_tr (L := [75]) KS_rf kgv_54 (by decide)) hIv_54 (fPl_r_52.resolve_left (fun q9 => c_55 (Int32.toInt_inj.mp q9))) (hAN) (hmn) ((by decide)) ((by rw [suM_s (fP9_r_52.resolve_left (fun q => absurd q.1 (by have := i32_0; have := i32_1; have := i32_2; have := i32_m1; have := (hvb).1; have := (hvb).2; have := (hvnx).1; have := (hvnx).2; have := (hvba).1; have := (hvba).2; have := (h63).1; have := (h63).2; have := (h_51).1; have := (h_51).2; have := (h_56).1; have := (h_56).2; omega))).2, suS_y (by rw [← hSG.1]; exact hmn)]; rfl)) _ _ _ hP hD hS (lv_sub hl [0, 1, 2, 3, 4, 5, 6, 7] rfl)
    · have h_57 : iv 0 0 r_52 := iv_eq c_55 hr_52 (iv_k (by decide) : iv 0 0 0) (by decide)
      refine lv_iconst (v := (-1)) hx hb dX13_sum_22 (by decide) ?_
      exact W.iret (v := (-1)) hx hb hr (fun t ht hW => ⟨⟨(-1), (sg, gmv_54, lg), rfl, ⟨sg, gmv_54, lg, rfl, hIv_54, KS_rf, (KS_tr (L := [75]) KS_rf kgv_54 (by decide)), KS_rf, (iv_w (iv_k (by decide) : iv (-1) (-1) (-1)) (by decide)), (Or.inl rfl), ((by rw [suM_n (fP9_r_52.resolve_right (fun q => absurd q.1 (by have := i32_0; have := i32_1; have := i32_2; have := i32_m1; have := (hvb).1; have := (hvb).2; have := (hvnx).1; have := (hvnx).2; have := (hvba).1; have := (hvba).2; have := (h63).1; have := (h63).2; have := (h_51).1; have := (h_51).2; have := (h_57).1; have := (h_57).2; omega))).2]; rfl))⟩, by rw [ht]; exact hP, va_K.moved hW.alike hK, hD⟩, hS.F ht⟩) hS.2.2 dX13_sum_23
end
section
section CM9
variable {wg rg gm : Nat → Nat → Int32} {wl : Nat → Nat → Int64} {ob : List Ob9} {b s : Nat} {vs : List (List Int)} {fo : Int}
def suCM (wg : Nat → Nat → Int32) (wl : Nat → Nat → Int64) (b : Nat) (fo : Int) (ob : List Ob9) (vs : List (List Int)) (s : Nat) : Int := if cdS wg (wg 31 b).toInt (isS wg b fo) s then suM wg wl ob b vs s else -1
def chM (wg : Nat → Nat → Int32) (wl : Nat → Nat → Int64) (b : Nat) (fo : Int) (ob : List Ob9) (vs : List (List Int)) : Option (Nat × Int) := chF9 (suCM wg wl b fo ob vs) (cnd wg b fo ob) none
theorem suCM_y (h : cdS wg (wg 31 b).toInt (isS wg b fo) s) : suCM wg wl b fo ob vs s = suM wg wl ob b vs s := by unfold suCM; rw [if_pos h]
theorem suCM_n (h : ¬ cdS wg (wg 31 b).toInt (isS wg b fo) s) : suCM wg wl b fo ob vs s = -1 := by unfold suCM; rw [if_neg h]
theorem suCM_p {f : Nat → Int} (h : plA (atL wg b) = some f) : suCM wg wl b fo ob vs = suC wg wl b fo ob vs f := by
  funext s
  unfold suCM suC
  rw [suM_s h]
theorem chF_all {w : Nat → Int} (h : ∀ s, w s = -1) : ∀ l, chF9 w l none = none
  | [] => rfl
  | s :: l => by rw [chF_1 (h s)]; exact chF_all h l
theorem chM_n (h : plA (atL wg b) = none) : chM wg wl b fo ob vs = none := chF_all (fun s => by
  unfold suCM
  by_cases q : cdS wg (wg 31 b).toInt (isS wg b fo) s
  · rw [if_pos q, suM_n h]
  · rw [if_neg q]) _
theorem chS_0 (h : chM wg wl b fo ob vs = none) : chS wg wl b fo ob vs = none := by
  cases hp : plA (atL wg b) with
  | none => unfold chS; rw [hp]
  | some f =>
    refine chS_n hp ?_
    rw [← suCM_p hp]; exact h
theorem chS_1 {s : Nat} {w : Int} (h : chM wg wl b fo ob vs = some (s, w)) : ∃ f, plA (atL wg b) = some f ∧ chS wg wl b fo ob vs = some (s, f) := by
  cases hp : plA (atL wg b) with
  | none => rw [chM_n hp] at h; exact absurd h (by simp)
  | some f =>
    refine ⟨f, rfl, chS_s (w := w) hp ?_⟩
    rw [← suCM_p hp]; exact h
/-- the class's number of a signature of the reference -/
def ix9 (cs : Int) (i : Nat) : Nat := if cs = 1 then 8 * (i / 4) + i % 4 else 8 * (i / 4) + 4 + i % 4
def bsR (cs : Int) (x y : Int32) : Option (Nat × Int) := if x.toInt < 0 then none else some (ix9 cs x.toNatClampNeg, y.toInt)
theorem ix9_1 {c k : Nat} (h : k < 4) : ix9 1 (4 * c + k) = 8 * c + 0 + k := by unfold ix9; rw [if_pos rfl]; omega
theorem ix9_0 {c k : Nat} (h : k < 4) : ix9 0 (4 * c + k) = 8 * c + 4 + k := by unfold ix9; rw [if_neg (by decide)]; omega
theorem bs_0 {cs : Int} {y : Int32} : bsR cs (-1) y = none := by unfold bsR; rw [if_pos (by decide)]
theorem bs_1 {cs : Int} {x y : Int32} (h : 0 ≤ x.toInt) : bsR cs x y = some (ix9 cs x.toNatClampNeg, y.toInt) := by unfold bsR; rw [if_neg (by omega)]
theorem bs_keep {cs : Int} {w : Nat → Int} {s : Nat} {r : List Nat} {x y z : Int32} {R : Option (Nat × Int)} (hR : R = chF9 w (s :: r) (bsR cs x y)) (h45 : 0 ≤ x.toInt ∨ y.toInt = 1000000) (hw : z.toInt = w s) (hz : z.toInt ≤ 42) (h : y.toInt ≤ z.toInt) : R = chF9 w r (bsR cs x y) := by
  have h0 : 0 ≤ x.toInt := by rcases h45 with q | q <;> omega
  rw [hR, bs_1 h0, chF_2 (by omega)]
theorem bs_none {cs : Int} {w : Nat → Int} {s : Nat} {r : List Nat} {x y : Int32} {R : Option (Nat × Int)} (hR : R = chF9 w (s :: r) (bsR cs x y)) (hw : w s = -1) : R = chF9 w r (bsR cs x y) := by rw [hR, chF_1 hw]
theorem bs_new {cs : Int} {w : Nat → Int} {s : Nat} {r : List Nat} {x y z i : Int32} {R : Option (Nat × Int)} (hR : R = chF9 w (s :: r) (bsR cs x y)) (hw : z.toInt = w s) (hn : ¬ z.toInt = -1) (h : z.toInt < y.toInt) (hi : 0 ≤ i.toInt) (hs : s = ix9 cs i.toNatClampNeg) : R = chF9 w r (bsR cs i z) := by
  rw [hR, bs_1 hi, ← hs, hw]
  unfold bsR
  by_cases q : x.toInt < 0
  · rw [if_pos q]; show chF9 w r (if w s = -1 then none else _) = _; rw [if_neg (by omega)]
  · rw [if_neg q]; show chF9 w r (if ¬ w s = -1 ∧ w s < y.toInt then _ else _) = _; rw [if_pos ⟨by omega, by omega⟩]
/-- valid types in all signatures -/
def STY9 (wg : Nat → Nat → Int32) : Prop := ∀ s p, s < 64 → p < (wg 7 s).toNatClampNeg → ty9 (wg 54 (3 * s + p)).toInt
theorem SG_m {c k : Nat} {nx ba : Int32} (hRW : rt9 gm = rg) (h : CLS9 wg rg) (hT : STY9 wg) (hc : c < 8) (hk : k < (wg 0 c).toNatClampNeg) (hk4 : k < 4) (h0 : 0 ≤ nx.toInt) (hn : nx = gm 8 (4 * c + k)) (hb : ba.toNatClampNeg = 3 * (4 * c + k)) : SG9 wg gm 9 nx ba (8 * c + 0 + k) := by
  have q := (h c hc).2.2.2.2.1 k hk
  rw [rw9 hRW 8 rfl, ← hn] at q
  have c1 := cln9 h0
  have c2 : (wg 7 (8 * c + k)).toNatClampNeg = (wg 7 (8 * c + k)).toInt.toNat := rfl
  refine ⟨q.1, fun p hp => ?_⟩
  have q9 := q.2.1 p (by omega)
  rw [rw9 hRW 9 rfl] at q9
  rw [hb]
  exact ⟨q9, hT _ p (by omega) (by show p < (wg 7 (8 * c + k)).toNatClampNeg; omega)⟩
theorem SG_f {c k : Nat} {nx ba : Int32} (hRW : rt9 gm = rg) (h : CLS9 wg rg) (hT : STY9 wg) (hc : c < 8) (hk : k < (wg 1 c).toNatClampNeg) (hk4 : k < 4) (h0 : 0 ≤ nx.toInt) (hn : nx = gm 16 (4 * c + k)) (hb : ba.toNatClampNeg = 3 * (4 * c + k)) : SG9 wg gm 17 nx ba (8 * c + 4 + k) := by
  have q := (h c hc).2.2.2.2.2.1 k hk
  rw [rw9 hRW 16 rfl, ← hn] at q
  have c1 := cln9 h0
  have c2 : (wg 7 (8 * c + 4 + k)).toNatClampNeg = (wg 7 (8 * c + 4 + k)).toInt.toNat := rfl
  refine ⟨q.2.2.2.1, fun p hp => ?_⟩
  have q9 := q.2.2.2.2.1 p (by have := q.2.2.2.1; omega)
  rw [rw9 hRW 17 rfl] at q9
  rw [hb]
  exact ⟨q9, hT _ p (by omega) (by have := q.2.2.2.1; omega)⟩
/-- what the reference asks of the one that is chosen -/
def HCS9 (wg : Nat → Nat → Int32) (b : Nat) (fo : Int) (ob : List Ob9) (cs cc : Int) : Prop := (cs = 1 ∧ (wg 31 b).toInt = -1 ∧ cc = clsF wg b fo ob ∧ 0 ≤ cc) ∨ (cs = 0 ∧ ¬ (wg 31 b).toInt = -1 ∧ cc = hasF wg b fo ob)
theorem HC_1 {cs cc : Int} {c : Nat} (h : HCS9 wg b fo ob cs cc) (h1 : cs = 1) (hc : cc = (c : Int)) : cnd wg b fo ob = (List.range (wg 0 c).toNatClampNeg).map (fun i => 8 * c + 0 + i) := by
  rcases h with q | q
  · rw [cnd_A q.2.1, ← q.2.2.1, hc]; rfl
  · omega
theorem HC_0 {cs cc : Int} {c : Nat} (h : HCS9 wg b fo ob cs cc) (h1 : cs = 0) (hc : cc = (c : Int)) : cnd wg b fo ob = (List.range (wg 1 c).toNatClampNeg).map (fun i => 8 * c + 4 + i) := by
  rcases h with q | q
  · omega
  · rw [cnd_B q.2.1 (by rw [← q.2.2]; omega), ← q.2.2, hc]; rfl
theorem HC_n {cs cc : Int} (h : HCS9 wg b fo ob cs cc) (hc : cc = -1) : cnd wg b fo ob = [] := by
  rcases h with q | q
  · omega
  · exact cnd_0 q.2.1 (by rw [← q.2.2]; omega)
theorem HC_m {cs cc : Int} {c k : Nat} (h : HCS9 wg b fo ob cs cc) (h1 : cs = 1) (hC : CLS9 wg rg) (hc : c < 8) (hk : k < (wg 0 c).toNatClampNeg) : cdS wg (wg 31 b).toInt (isS wg b fo) (8 * c + 0 + k) := by
  rcases h with q | q
  · have q9 := (hC c hc).2.2.2.2.1 k hk
    refine ⟨by rw [q.2.1]; exact q9.2.2.1, ?_⟩
    have : isS wg b fo = 0 := by unfold isS; rw [if_neg (fun p => p.1 q.2.1)]
    rw [this]; exact q9.2.2.2.1
  · omega
end CM9
end
