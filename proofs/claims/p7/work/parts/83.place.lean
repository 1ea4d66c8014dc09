theorem cF_d {f : Nat → Int32} (j : Nat) : ∀ k, j ≤ k → cF f k ≤ cF f j + (k - j) := by
  intro k
  induction k with
  | zero => intro h; have h0 : j = 0 := by omega
            subst h0; exact Nat.le_refl _
  | succ k ih =>
    intro h
    by_cases hj : j = k + 1
    · subst hj; omega
    · have h1 := ih (by omega)
      by_cases q : f k = -1
      · rw [cF_s0 q]; omega
      · rw [cF_s1 q]; omega
/-- the places: free, or one of the first n that holds one of the n -/
def SP3 (f : Nat → Int32) (n : Nat) : Prop := ∀ q, q < 3 → f q = -1 ∨ (q < n ∧ 0 ≤ (f q).toInt ∧ (f q).toInt < (n : Int))
theorem SP3_0 {f : Nat → Int32} {n : Nat} (h : ∀ q, q < 3 → f q = -1) : SP3 f n ∧ cF f 3 = 0 := ⟨fun q hq => Or.inl (h q hq), cF_0 3 (fun q _ hq => h q hq)⟩
theorem SP3_u {f f2 : Nat → Int32} {n i : Nat} {v : Int32} (h : SP3 f n) (h2 : f2 = upd f i v) (hi : i < n) (v0 : 0 ≤ v.toInt) (v1 : v.toInt < (n : Int)) : SP3 f2 n := by
  intro q hq
  by_cases e9 : q = i
  · subst e9; rw [h2, upd_at]; exact Or.inr ⟨hi, v0, v1⟩
  · rw [h2, upd_ne e9]; exact h q hq
theorem SP3_full {f : Nat → Int32} {n : Nat} (hn : n ≤ 3) (h : SP3 f n) (hc : cF f 3 = n) : SPF f n := by
  have h1 : ∀ k, n ≤ k → k ≤ 3 → cF f k = cF f n := by
    intro k
    induction k with
    | zero => intro q _; have h0 : n = 0 := by omega
              subst h0; rfl
    | succ k ih =>
      intro q1 q2
      by_cases e9 : n = k + 1
      · rw [e9]
      · have h2 := ih (by omega) (by omega)
        rcases h k (by omega) with q | q
        · rw [cF_s0 q]; exact h2
        · omega
  have h3 := h1 3 hn (Nat.le_refl 3)
  intro q hq
  have h4 := cF_all n (h3.symm.trans hc) q hq
  rcases h q (by omega) with q5 | q5
  · exact absurd q5 h4
  · exact q5.2
/-- the place that an arg asks for -/
def atF (gm : Nat → Nat → Int32) (q : Nat) (j : Nat) : Int32 := gm 23 (gm 57 (128 * q + j)).toNatClampNeg
theorem ne_m1 {v : Int32} (h : ¬ v.toInt = -1) : ¬ v = -1 := fun q => h (by rw [q]; decide)
theorem eq_m1 {v : Int32} (h : v.toInt = -1) : v = -1 := Int32.toInt_inj.mp (by rw [h]; decide)
/-- the place for an arg that asks for none: free, and one of the first n -/
theorem free_pl {f g : Nat → Int32} {n i p9 : Nat} (hn : n ≤ 3) (hi : i < n) (hg : g i = -1) (hc : cF f 3 = cF g n + (i - cF g i)) (hp : ∀ q, q < p9 → ¬ f q = -1) (hp3 : p9 < 3) (h2 : p9 = 2 ∨ f p9 = -1) : f p9 = -1 ∧ p9 < n := by
  have h1 := cF_d (f := g) (i + 1) n (by omega)
  rw [cF_s0 hg] at h1
  have h0 := cF_le g i
  have hlt : cF f 3 < n := by omega
  have hge := cF_ge (f := f) (p9 := p9) (fun q _ hq => hp q hq) 3 (by omega)
  refine ⟨?_, by omega⟩
  rcases h2 with q | q
  · by_cases e9 : f p9 = -1
    · exact e9
    · exfalso
      have := cF_ge (f := f) (p9 := 3) (fun q2 _ hq2 => by
        by_cases e8 : q2 = p9
        · rw [e8]; exact e9
        · exact hp q2 (by omega)) 3 (Nat.le_refl _)
      omega
  · exact q

set_option maxHeartbeats 4000000 in
set_option maxRecDepth 100000 in
theorem d_placeOthers (l : Launch) (dC : Nat → ClassId) (dI : Nat → Nat → Nat) (ad : Nat → Nat → Nat) (cid : Nat → ClassId) (a2 : Nat → Nat) (lx : List Nat) (sg : Nat → Int32) (gm : Nat → Nat → Int32) (lg : Nat → Nat → Int64) (x : Int32) (b : Int32) (cn : Int32) (hI : CI sg gm) (hvx : iv 0 0 x) (hvb : iv 0 79 b) (hvcn : iv 0 3 cn) (hLD : LDI lx gm) (hcn : cn = gm 41 (3 * b.toNatClampNeg + 0)) (hSP : SP3 (gm 53) (gm 41 (3 * b.toNatClampNeg + 0)).toNatClampNeg) (hcF : cF (gm 53) 3 = cF (atF gm (3 * b.toNatClampNeg + 0)) (gm 41 (3 * b.toNatClampNeg + 0)).toNatClampNeg) : CMt dC dI ad cid a2 lx l yX5_placeOthers wm_X5_placeOthers ({ frames := 3, cells := 1, slots := 6, locals := 64 }) [eV (ad 6) x, eV (ad 10) b, .int cn] sg gm lg (fun v u => v = none ∧ ∃ (sg2 : Nat → Int32) (gm2 : Nat → Nat → Int32) (lg2 : Nat → Nat → Int64), u = (sg2, gm2, lg2) ∧ CI sg2 gm2 ∧ KS [] sg sg2 ∧ KS [53] gm gm2 ∧ KS [] lg lg2 ∧ (SPF (gm2 53) (gm 41 (3 * b.toNatClampNeg + 0)).toNatClampNeg)) (fun _ _ => False) := by
  intro sz
  refine vx_ofW (cc := cX5_placeOthers) (maxL := 5) (ret := none) (by decide) rfl ?_
  intro p e s m args below meth c s₁ B hml hxt hv
  obtain ⟨rfl, hsz, hP, hK, hD0, hG⟩ := hv
  have hx := B.exec
  have hb := B.bytes
  have hr := B.returns
  have hts := atoms_spec (ws := wm_X5_placeOthers) B.pre
  have htb := fun (w : Cond) (h : w ∈ tb) => hts w (List.mem_cons_of_mem _ h)
  have hown : s.vm.findClass RX5 = some m.cls := findClass_of_methodNamed B.named
  have hlocks := B.notSynchronized
  subst hsz
  have hD := hD0.self (sz := s.heap.size)
  generalize hAe : va_A (cW ad cid a2 lx sg gm lg) s.heap.size = A at hD hG ⊢
  have hA : ∀ q : Nat, s.heap.size ≤ q → A q := fun q h => by rw [← hAe]; exact Or.inr h
  have hS : va_S A s.heap s.heap [] := va_S.rf
  have hl := lv_entry ([eV (ad 6) x, eV (ad 10) b, .int cn]) (n := 5) (by rw [show (lg_sl ([eV (ad 6) x, eV (ad 10) b, .int cn])).length = 3 from by simp [lg_sl, eV_cat, cat_i, cat_l]]; exact Nat.le_of_ble_eq_true rfl)
  rw [lg_entry_eq]
  generalize (lg_sl ([eV (ad 6) x, eV (ad 10) b, .int cn]) ++ List.replicate (5 - (lg_sl ([eV (ad 6) x, eV (ad 10) b, .int cn])).length) Slot.unset).toArray = ls at hl ⊢
  have hl : lv_has ls 5 [(0, eV (ad 6) x), (1, eV (ad 10) b), (2, .int cn)] := by simp [lv_args, eV_cat, cat_i, cat_l] at hl; exact hl
  have hj5 : ∀ (n : Nat) (gm_j5 : Nat → Nat → Int32) (x4_5 : Int32) (x3_5 : Int32) (_ : (3 - x4_5.toInt).toNat = n) (_ : iv 0 3 x4_5) (_ : iv 0 2 x3_5) (_ : iv 0 0 x) (_ : iv 0 79 b) (_ : iv 0 3 cn) (_ : KS [53] gm gm_j5) (_ : CI sg gm_j5) (_ : x4_5.toInt ≤ cn.toInt) (_ : SP3 (gm_j5 53) (gm 41 (3 * b.toNatClampNeg + 0)).toNatClampNeg) (_ : cF (gm_j5 53) 3 = cF (atF gm (3 * b.toNatClampNeg + 0)) (gm 41 (3 * b.toNatClampNeg + 0)).toNatClampNeg + (x4_5.toNatClampNeg - cF (atF gm (3 * b.toNatClampNeg + 0)) x4_5.toNatClampNeg)) (_ : ∀ q9, q9 < x3_5.toNatClampNeg → ¬ gm_j5 53 q9 = -1) (H : Heap) (locs : List Loc) (ls : Array Slot), va_P (dC, dI) vwCl (cW ad cid a2 lx sg gm_j5 lg) H → va_D A (cW ad cid a2 lx sg gm_j5 lg) → va_S A s.heap H locs → lv_has ls 5 [(4, .int x4_5), (3, .int x3_5), (0, eV (ad 6) x), (1, eV (ad 10) b), (2, .int cn)] → W p l e (headSpec wm_X5_placeOthers ({ frames := 3, cells := 1, slots := 6, locals := 64 })).room s m ([eV (ad 6) x, eV (ad 10) b, .int cn] : List Value).toArray below meth c H locs 0 0 (vx_MQ below (cQx dC dI ad cid a2 lx (fun v u => v = none ∧ ∃ (sg2 : Nat → Int32) (gm2 : Nat → Nat → Int32) (lg2 : Nat → Nat → Int64), u = (sg2, gm2, lg2) ∧ CI sg2 gm2 ∧ KS [] sg sg2 ∧ KS [53] gm gm2 ∧ KS [] lg lg2 ∧ (SPF (gm2 53) (gm 41 (3 * b.toNatClampNeg + 0)).toNatClampNeg)) A) (cX dC dI ad cid a2 lx (fun _ _ => False) A) ([eV (ad 6) x, eV (ad 10) b, .int cn] : List Value).toArray s 1 6 A) (F0 m 5 ls []) := by
    intro n
    induction n using Nat.strongRecOn with
    | ind n ih5 =>
      intro gm_j5 x4_5 x3_5 hn5 hx4_5 hx3_5 hsx0_5 hsx1_5 hsx2_5 hkg_j5 hI_j5 h4c hSP5 hcF5 hpl5 H locs ls hP hD hS hl
      have hj59 : ∀ (gm_j59 : Nat → Nat → Int32) (x3_59 : Int32) (_ : iv 0 2 x4_5) (_ : iv 0 2 x3_59) (_ : iv 0 0 x) (_ : iv 0 79 b) (_ : iv 1 3 cn) (_ : KS [53] gm gm_j59) (_ : CI sg gm_j59) (_ : x4_5.toInt < cn.toInt) (_ : SP3 (gm_j59 53) (gm 41 (3 * b.toNatClampNeg + 0)).toNatClampNeg) (_ : cF (gm_j59 53) 3 = cF (atF gm (3 * b.toNatClampNeg + 0)) (gm 41 (3 * b.toNatClampNeg + 0)).toNatClampNeg + (x4_5.toNatClampNeg + 1 - cF (atF gm (3 * b.toNatClampNeg + 0)) (x4_5.toNatClampNeg + 1))) (_ : ∀ q9, q9 < x3_59.toNatClampNeg → ¬ gm_j59 53 q9 = -1) (H : Heap) (locs : List Loc) (ls : Array Slot), va_P (dC, dI) vwCl (cW ad cid a2 lx sg gm_j59 lg) H → va_D A (cW ad cid a2 lx sg gm_j59 lg) → va_S A s.heap H locs → lv_has ls 5 [(4, .int x4_5), (3, .int x3_59), (0, eV (ad 6) x), (1, eV (ad 10) b), (2, .int cn)] → W p l e (headSpec wm_X5_placeOthers ({ frames := 3, cells := 1, slots := 6, locals := 64 })).room s m ([eV (ad 6) x, eV (ad 10) b, .int cn] : List Value).toArray below meth c H locs 0 0 (vx_MQ below (cQx dC dI ad cid a2 lx (fun v u => v = none ∧ ∃ (sg2 : Nat → Int32) (gm2 : Nat → Nat → Int32) (lg2 : Nat → Nat → Int64), u = (sg2, gm2, lg2) ∧ CI sg2 gm2 ∧ KS [] sg sg2 ∧ KS [53] gm gm2 ∧ KS [] lg lg2 ∧ (SPF (gm2 53) (gm 41 (3 * b.toNatClampNeg + 0)).toNatClampNeg)) A) (cX dC dI ad cid a2 lx (fun _ _ => False) A) ([eV (ad 6) x, eV (ad 10) b, .int cn] : List Value).toArray s 1 6 A) (F0 m 59 ls []) := by
        intro gm_j59 x3_59 hsx4_59 hx3_59 hsx0_59 hsx1_59 hsx2_59 hkg_j59 hI_j59 h49 hSP9 hcF9 hpl9 H locs ls hP hD hS hl
        obtain ⟨z_1, ez_1⟩ : ∃ z : Int32, z = x4_5 + 1 := ⟨_, rfl⟩
        have hz_1 : iv 1 3 z_1 := iv_of ez_1 (iv_add hsx4_59 (iv_k (by decide) : iv 1 1 1) (by decide))
        have tz_1 : z_1.toInt = x4_5.toInt + 1 := by rw [ez_1]; exact iv_addE hsx4_59 (iv_k (by decide) : iv 1 1 1) (by decide)
        refine lv_iinc (v := z_1) (lv' := [(4, .int z_1), (3, .int x3_59), (0, eV (ad 6) x), (1, eV (ad 10) b), (2, .int cn)]) hx hb dX5_placeOthers_59 hl (k := 0) rfl ez_1.symm (by decide) rfl (fun ls hl => ?_)
        refine lv_goto (tgt := 5) hx hb dX5_placeOthers_62 (by decide) ?_
        exact ih5 _ (by rw [← hn5]; exact (iv_meas tz_1 hsx4_59 (by decide))) gm_j59 z_1 x3_59 rfl (iv_w hz_1 (by decide)) hx3_59 hsx0_59 hsx1_59 (iv_w hsx2_59 (by decide)) (KS_tr (L := [53]) KS_rf hkg_j59 (by decide)) hI_j59 (by have := i32_0; have := i32_1; have := i32_2; have := i32_m1; have := (hsx0_59).1; have := (hsx0_59).2; have := (hsx1_59).1; have := (hsx1_59).2; have := (hsx2_59).1; have := (hsx2_59).2; have := (hsx4_59).1; have := (hsx4_59).2; have := (hx3_5).1; have := (hx3_5).2; have := (hx3_59).1; have := (hx3_59).2; have := (hz_1).1; have := (hz_1).2; omega) (hSP9) ((by have q7 : z_1.toNatClampNeg = x4_5.toNatClampNeg + 1 := (by have q1 : z_1.toNatClampNeg = z_1.toInt.toNat := rfl; have q1 : x4_5.toNatClampNeg = x4_5.toInt.toNat := rfl; have := i32_0; have := i32_1; have := i32_2; have := i32_m1; have := (hsx0_59).1; have := (hsx0_59).2; have := (hsx1_59).1; have := (hsx1_59).2; have := (hsx2_59).1; have := (hsx2_59).2; have := (hsx4_59).1; have := (hsx4_59).2; have := (hx3_5).1; have := (hx3_5).2; have := (hx3_59).1; have := (hx3_59).2; have := (hz_1).1; have := (hz_1).2; omega); rw [q7]; exact hcF9)) (hpl9) _ _ _ hP hD hS (lv_sub hl [0, 1, 2, 3, 4] rfl)
      have hj51 : ∀ (gm_j51 : Nat → Nat → Int32) (x3_51 : Int32) (_ : iv 0 2 x4_5) (_ : iv 0 2 x3_51) (_ : iv 0 0 x) (_ : iv 0 79 b) (_ : iv 1 3 cn) (_ : KS [53] gm gm_j51) (_ : CI sg gm_j51) (_ : SP3 (gm_j51 53) (gm 41 (3 * b.toNatClampNeg + 0)).toNatClampNeg) (_ : cF (gm_j51 53) 3 = cF (atF gm (3 * b.toNatClampNeg + 0)) (gm 41 (3 * b.toNatClampNeg + 0)).toNatClampNeg + (x4_5.toNatClampNeg - cF (atF gm (3 * b.toNatClampNeg + 0)) x4_5.toNatClampNeg)) (_ : atF gm (3 * b.toNatClampNeg + 0) x4_5.toNatClampNeg = -1) (_ : x4_5.toInt < cn.toInt) (_ : ∀ q9, q9 < x3_51.toNatClampNeg → ¬ gm_j51 53 q9 = -1) (_ : x3_51.toNatClampNeg = 2 ∨ gm_j51 53 x3_51.toNatClampNeg = -1) (H : Heap) (locs : List Loc) (ls : Array Slot), va_P (dC, dI) vwCl (cW ad cid a2 lx sg gm_j51 lg) H → va_D A (cW ad cid a2 lx sg gm_j51 lg) → va_S A s.heap H locs → lv_has ls 5 [(4, .int x4_5), (3, .int x3_51), (0, eV (ad 6) x), (1, eV (ad 10) b), (2, .int cn)] → W p l e (headSpec wm_X5_placeOthers ({ frames := 3, cells := 1, slots := 6, locals := 64 })).room s m ([eV (ad 6) x, eV (ad 10) b, .int cn] : List Value).toArray below meth c H locs 0 0 (vx_MQ below (cQx dC dI ad cid a2 lx (fun v u => v = none ∧ ∃ (sg2 : Nat → Int32) (gm2 : Nat → Nat → Int32) (lg2 : Nat → Nat → Int64), u = (sg2, gm2, lg2) ∧ CI sg2 gm2 ∧ KS [] sg sg2 ∧ KS [53] gm gm2 ∧ KS [] lg lg2 ∧ (SPF (gm2 53) (gm 41 (3 * b.toNatClampNeg + 0)).toNatClampNeg)) A) (cX dC dI ad cid a2 lx (fun _ _ => False) A) ([eV (ad 6) x, eV (ad 10) b, .int cn] : List Value).toArray s 1 6 A) (F0 m 51 ls []) := by
        intro gm_j51 x3_51 hsx4_51 hx3_51 hsx0_51 hsx1_51 hsx2_51 hkg_j51 hI_j51 hSP51 hcF51 ha51 h4n51 hpl51 h51 H locs ls hP hD hS hl
        have hfp := free_pl (f := gm_j51 53) (g := atF gm (3 * b.toNatClampNeg + 0)) (n := (gm 41 (3 * b.toNatClampNeg + 0)).toNatClampNeg) (i := x4_5.toNatClampNeg) (p9 := x3_51.toNatClampNeg) (by have kcn : cn.toNatClampNeg = cn.toInt.toNat := rfl; have kna : (gm 41 (3 * b.toNatClampNeg + 0)).toNatClampNeg = cn.toNatClampNeg := (by rw [hcn]); have := i32_0; have := i32_1; have := i32_2; have := i32_m1; have := (hsx0_51).1; have := (hsx0_51).2; have := (hsx1_51).1; have := (hsx1_51).2; have := (hsx2_51).1; have := (hsx2_51).2; have := (hsx4_51).1; have := (hsx4_51).2; have := (hx3_5).1; have := (hx3_5).2; have := (hx3_51).1; have := (hx3_51).2; omega) (by have kcn : cn.toNatClampNeg = cn.toInt.toNat := rfl; have kna : (gm 41 (3 * b.toNatClampNeg + 0)).toNatClampNeg = cn.toNatClampNeg := (by rw [hcn]); have q1 : x4_5.toNatClampNeg = x4_5.toInt.toNat := rfl; have := i32_0; have := i32_1; have := i32_2; have := i32_m1; have := (hsx0_51).1; have := (hsx0_51).2; have := (hsx1_51).1; have := (hsx1_51).2; have := (hsx2_51).1; have := (hsx2_51).2; have := (hsx4_51).1; have := (hsx4_51).2; have := (hx3_5).1; have := (hx3_5).2; have := (hx3_51).1; have := (hx3_51).2; omega) ha51 hcF51 hpl51 (by have q1 : x3_51.toNatClampNeg = x3_51.toInt.toNat := rfl; have := i32_0; have := i32_1; have := i32_2; have := i32_m1; have := (hsx0_51).1; have := (hsx0_51).2; have := (hsx1_51).1; have := (hsx1_51).2; have := (hsx2_51).1; have := (hsx2_51).2; have := (hsx4_51).1; have := (hsx4_51).2; have := (hx3_5).1; have := (hx3_5).2; have := (hx3_51).1; have := (hx3_51).2; omega) h51
        refine ec_aload_n hx hb dX5_placeOthers_51 rfl (lv_at hl 2 rfl) ?_
        refine cr_get (t := 6) (j := 9) (C := RX5) (T := TX5) (N := 13) (v := eV (ad 26) 0) hx hb htb inX5 hown hK hP hsx0_51 (by decide) (by decide) (by decide) rfl (by decide) (htb _ kw_129) (cV_c rfl (by decide) (by rw [show cMu 6 9 = 0 from rfl, Nat.zero_mul]; rfl)) dX5_placeOthers_52 ?_
        refine lv_iload_n hx hb dX5_placeOthers_55 rfl (lv_at hl 1 rfl) ?_
        refine lv_iload hx hb dX5_placeOthers_56 (lv_at hl 0 rfl) ?_
        refine cr_iast (t := 26) (k := 53) (n9 := (x3_51 : Int32).toNatClampNeg) (z := x4_5) hx hb hK hP hD hS (iv_k (by decide) : iv 0 0 0) (by decide) (by decide) (by decide) rfl rfl rfl (show vp_in x3_51 (cLen 26) from (show vp_in x3_51 3 from (iv_in hx3_51 (by decide)))) (Or.inl rfl) (by rw [show cAw 26 = 0 from rfl, Nat.zero_mul, Nat.zero_add]) dX5_placeOthers_58 (fun gm_2 H locs egm_2 hP hD hS => ?_)
        have hI_gm_2 := CI_st hI_j51 egm_2 hsx4_51 (by decide)
        exact hj59 gm_2 x3_51 hsx4_51 hx3_51 hsx0_51 hsx1_51 hsx2_51 (KS_up (KS_tr (L := [53]) KS_rf hkg_j51 (by decide)) egm_2 (by decide)) hI_gm_2 (by have := i32_0; have := i32_1; have := i32_2; have := i32_m1; have := (hsx0_51).1; have := (hsx0_51).2; have := (hsx1_51).1; have := (hsx1_51).2; have := (hsx2_51).1; have := (hsx2_51).2; have := (hsx4_51).1; have := (hsx4_51).2; have := (hx3_5).1; have := (hx3_5).2; have := (hx3_51).1; have := (hx3_51).2; omega) (SP3_u hSP51 (up_at egm_2) hfp.2 (hsx4_51).1 (by have kcn : cn.toNatClampNeg = cn.toInt.toNat := rfl; have kna : (gm 41 (3 * b.toNatClampNeg + 0)).toNatClampNeg = cn.toNatClampNeg := (by rw [hcn]); have q1 : x4_5.toNatClampNeg = x4_5.toInt.toNat := rfl; have := i32_0; have := i32_1; have := i32_2; have := i32_m1; have := (hsx0_51).1; have := (hsx0_51).2; have := (hsx1_51).1; have := (hsx1_51).2; have := (hsx2_51).1; have := (hsx2_51).2; have := (hsx4_51).1; have := (hsx4_51).2; have := (hx3_5).1; have := (hx3_5).2; have := (hx3_51).1; have := (hx3_51).2; omega)) ((by rw [cF_s0 (f := atF gm (3 * b.toNatClampNeg + 0)) (k := x4_5.toNatClampNeg) ha51, cF_upd (up_at egm_2) (ne_m1 (by have := i32_0; have := i32_1; have := i32_2; have := i32_m1; have := (hsx0_51).1; have := (hsx0_51).2; have := (hsx1_51).1; have := (hsx1_51).2; have := (hsx2_51).1; have := (hsx2_51).2; have := (hsx4_51).1; have := (hsx4_51).2; have := (hx3_5).1; have := (hx3_5).2; have := (hx3_51).1; have := (hx3_51).2; omega)) hfp.1 3 (by have := hfp.2; have kcn : cn.toNatClampNeg = cn.toInt.toNat := rfl; have kna : (gm 41 (3 * b.toNatClampNeg + 0)).toNatClampNeg = cn.toNatClampNeg := (by rw [hcn]); have := i32_0; have := i32_1; have := i32_2; have := i32_m1; have := (hsx0_51).1; have := (hsx0_51).2; have := (hsx1_51).1; have := (hsx1_51).2; have := (hsx2_51).1; have := (hsx2_51).2; have := (hsx4_51).1; have := (hsx4_51).2; have := (hx3_5).1; have := (hx3_5).2; have := (hx3_51).1; have := (hx3_51).2; omega)]; have := cF_le (atF gm (3 * b.toNatClampNeg + 0)) x4_5.toNatClampNeg; have := hcF51; omega)) (fun q9 q8 => by { rw [show gm_2 53 = _ from up_at egm_2, upd_ne (by omega)]; exact hpl51 q9 q8 }) _ _ _ hP hD hS (lv_sub hl [0, 1, 2, 3, 4] rfl)
      have hj30 : ∀ (n : Nat) (gm_j30 : Nat → Nat → Int32) (x3_30 : Int32) (_ : (2 - x3_30.toInt).toNat = n) (_ : iv 0 2 x4_5) (_ : iv 0 2 x3_30) (_ : iv 0 0 x) (_ : iv 0 79 b) (_ : iv 1 3 cn) (_ : KS [53] gm gm_j30) (_ : CI sg gm_j30) (_ : SP3 (gm_j30 53) (gm 41 (3 * b.toNatClampNeg + 0)).toNatClampNeg) (_ : cF (gm_j30 53) 3 = cF (atF gm (3 * b.toNatClampNeg + 0)) (gm 41 (3 * b.toNatClampNeg + 0)).toNatClampNeg + (x4_5.toNatClampNeg - cF (atF gm (3 * b.toNatClampNeg + 0)) x4_5.toNatClampNeg)) (_ : ∀ q9, q9 < x3_30.toNatClampNeg → ¬ gm_j30 53 q9 = -1) (_ : atF gm (3 * b.toNatClampNeg + 0) x4_5.toNatClampNeg = -1) (_ : x4_5.toInt < cn.toInt) (H : Heap) (locs : List Loc) (ls : Array Slot), va_P (dC, dI) vwCl (cW ad cid a2 lx sg gm_j30 lg) H → va_D A (cW ad cid a2 lx sg gm_j30 lg) → va_S A s.heap H locs → lv_has ls 5 [(4, .int x4_5), (3, .int x3_30), (0, eV (ad 6) x), (1, eV (ad 10) b), (2, .int cn)] → W p l e (headSpec wm_X5_placeOthers ({ frames := 3, cells := 1, slots := 6, locals := 64 })).room s m ([eV (ad 6) x, eV (ad 10) b, .int cn] : List Value).toArray below meth c H locs 0 0 (vx_MQ below (cQx dC dI ad cid a2 lx (fun v u => v = none ∧ ∃ (sg2 : Nat → Int32) (gm2 : Nat → Nat → Int32) (lg2 : Nat → Nat → Int64), u = (sg2, gm2, lg2) ∧ CI sg2 gm2 ∧ KS [] sg sg2 ∧ KS [53] gm gm2 ∧ KS [] lg lg2 ∧ (SPF (gm2 53) (gm 41 (3 * b.toNatClampNeg + 0)).toNatClampNeg)) A) (cX dC dI ad cid a2 lx (fun _ _ => False) A) ([eV (ad 6) x, eV (ad 10) b, .int cn] : List Value).toArray s 1 6 A) (F0 m 30 ls []) := by
        intro n
        induction n using Nat.strongRecOn with
        | ind n ih30 =>
          intro gm_j30 x3_30 hn30 hsx4_30 hx3_30 hsx0_30 hsx1_30 hsx2_30 hkg_j30 hI_j30 hSP30 hcF30 hpl30 ha30 h4n30 H locs ls hP hD hS hl
          refine lv_iload_n hx hb dX5_placeOthers_30 rfl (lv_at hl 1 rfl) ?_
          refine lv_iconst (v := 2) hx hb dX5_placeOthers_31 (by decide) ?_
          refine lv_icmp_ge (tgt := 51) hx hb dX5_placeOthers_32 (by decide) (fun c_3 => ?_) (fun c_3 => ?_)
          · have h_4 : iv 2 2 x3_30 := iv_leR c_3 (iv_k (by decide) : iv 2 2 2) hx3_30 (by decide)
            exact hj51 gm_j30 x3_30 hsx4_30 (iv_w h_4 (by decide)) hsx0_30 hsx1_30 hsx2_30 (KS_tr (L := [53]) KS_rf hkg_j30 (by decide)) hI_j30 (hSP30) (hcF30) (ha30) (h4n30) (hpl30) (Or.inl (by have q1 : x3_30.toNatClampNeg = x3_30.toInt.toNat := rfl; have := i32_0; have := i32_1; have := i32_2; have := i32_m1; have := (hsx0_30).1; have := (hsx0_30).2; have := (hsx1_30).1; have := (hsx1_30).2; have := (hsx2_30).1; have := (hsx2_30).2; have := (hsx4_30).1; have := (hsx4_30).2; have := (hx3_5).1; have := (hx3_5).2; have := (h_4).1; have := (h_4).2; omega)) _ _ _ hP hD hS (lv_sub hl [0, 1, 2, 3, 4] rfl)
          · have h_5 : iv 0 1 x3_30 := iv_ltL (i32_lt c_3) hx3_30 (iv_k (by decide) : iv 2 2 2) (by decide)
            refine ec_aload_n hx hb dX5_placeOthers_35 rfl (lv_at hl 2 rfl) ?_
            refine cr_get (t := 6) (j := 9) (C := RX5) (T := TX5) (N := 13) (v := eV (ad 26) 0) hx hb htb inX5 hown hK hP hsx0_30 (by decide) (by decide) (by decide) rfl (by decide) (htb _ kw_129) (cV_c rfl (by decide) (by rw [show cMu 6 9 = 0 from rfl, Nat.zero_mul]; rfl)) dX5_placeOthers_36 ?_
            refine lv_iload_n hx hb dX5_placeOthers_39 rfl (lv_at hl 1 rfl) ?_
            refine cr_iald (t := 26) (z := (gm_j30 53 (x3_30 : Int32).toNatClampNeg)) hx hb hK hP (iv_k (by decide) : iv 0 0 0) (by decide) (by decide) (by decide) rfl rfl (show vp_in x3_30 (cLen 26) from (show vp_in x3_30 3 from (iv_in h_5 (by decide)))) rfl dX5_placeOthers_40 ?_
            obtain ⟨z_6, ez_6⟩ : ∃ z : Int32, z = (gm_j30 53 (x3_30 : Int32).toNatClampNeg) := ⟨_, rfl⟩
            refine W.eq (g2 := F0 m 41 ls [.int z_6]) (by rw [ez_6]) ?_
            have hz_6 : iv (-1) 2 z_6 := iv_of ez_6 (CI_a hI_j30 53 h_5 (by decide))
            refine lv_iconst (v := (-1)) hx hb dX5_placeOthers_41 (by decide) ?_
            refine lv_icmp_eq (tgt := 51) hx hb dX5_placeOthers_42 (by decide) (fun c_7 => ?_) (fun c_7 => ?_)
            · have h_8 : iv (-1) (-1) z_6 := iv_eq c_7 hz_6 (iv_k (by decide) : iv (-1) (-1) (-1)) (by decide)
              exact hj51 gm_j30 x3_30 hsx4_30 (iv_w h_5 (by decide)) hsx0_30 hsx1_30 hsx2_30 (KS_tr (L := [53]) KS_rf hkg_j30 (by decide)) hI_j30 (hSP30) (hcF30) (ha30) (h4n30) (hpl30) (Or.inr (by rw [← ez_6]; exact eq_m1 (by have := i32_0; have := i32_1; have := i32_2; have := i32_m1; have := (hsx0_30).1; have := (hsx0_30).2; have := (hsx1_30).1; have := (hsx1_30).2; have := (hsx2_30).1; have := (hsx2_30).2; have := (hsx4_30).1; have := (hsx4_30).2; have := (hx3_5).1; have := (hx3_5).2; have := (h_5).1; have := (h_5).2; have := (h_8).1; have := (h_8).2; omega))) _ _ _ hP hD hS (lv_sub hl [0, 1, 2, 3, 4] rfl)
            · have h_9 : iv 0 2 z_6 := iv_neL c_7 hz_6 (by decide)
              obtain ⟨z_10, ez_10⟩ : ∃ z : Int32, z = x3_30 + 1 := ⟨_, rfl⟩
              have hz_10 : iv 1 2 z_10 := iv_of ez_10 (iv_add h_5 (iv_k (by decide) : iv 1 1 1) (by decide))
              have tz_10 : z_10.toInt = x3_30.toInt + 1 := by rw [ez_10]; exact iv_addE h_5 (iv_k (by decide) : iv 1 1 1) (by decide)
              refine lv_iinc (v := z_10) (lv' := [(3, .int z_10), (4, .int x4_5), (0, eV (ad 6) x), (1, eV (ad 10) b), (2, .int cn)]) hx hb dX5_placeOthers_45 hl (k := 1) rfl ez_10.symm (by decide) rfl (fun ls hl => ?_)
              refine lv_goto (tgt := 30) hx hb dX5_placeOthers_48 (by decide) ?_
              exact ih30 _ (by rw [← hn30]; exact (by have := i32_0; have := i32_1; have := i32_2; have := i32_m1; have := (hsx0_30).1; have := (hsx0_30).2; have := (hsx1_30).1; have := (hsx1_30).2; have := (hsx2_30).1; have := (hsx2_30).2; have := (hsx4_30).1; have := (hsx4_30).2; have := (hx3_5).1; have := (hx3_5).2; have := (h_5).1; have := (h_5).2; have := (h_9).1; have := (h_9).2; have := (hz_10).1; have := (hz_10).2; omega)) gm_j30 z_10 rfl hsx4_30 (iv_w hz_10 (by decide)) hsx0_30 hsx1_30 hsx2_30 (KS_tr (L := [53]) KS_rf hkg_j30 (by decide)) hI_j30 (hSP30) (hcF30) (fun q9 q8 => by { by_cases q7 : q9 = x3_30.toNatClampNeg; { rw [q7, ← ez_6]; exact ne_m1 (by have := i32_0; have := i32_1; have := i32_2; have := i32_m1; have := (hsx0_30).1; have := (hsx0_30).2; have := (hsx1_30).1; have := (hsx1_30).2; have := (hsx2_30).1; have := (hsx2_30).2; have := (hsx4_30).1; have := (hsx4_30).2; have := (hx3_5).1; have := (hx3_5).2; have := (h_5).1; have := (h_5).2; have := (h_9).1; have := (h_9).2; have := (hz_10).1; have := (hz_10).2; omega) }; { exact hpl30 q9 (by have q1 : z_10.toNatClampNeg = z_10.toInt.toNat := rfl; have q1 : x3_30.toNatClampNeg = x3_30.toInt.toNat := rfl; have := i32_0; have := i32_1; have := i32_2; have := i32_m1; have := (hsx0_30).1; have := (hsx0_30).2; have := (hsx1_30).1; have := (hsx1_30).2; have := (hsx2_30).1; have := (hsx2_30).2; have := (hsx4_30).1; have := (hsx4_30).2; have := (hx3_5).1; have := (hx3_5).2; have := (h_5).1; have := (h_5).2; have := (h_9).1; have := (h_9).2; have := (hz_10).1; have := (hz_10).2; omega) } }) (ha30) (h4n30) _ _ _ hP hD hS (lv_sub hl [1, 0, 2, 3, 4] rfl)
      refine lv_iload hx hb dX5_placeOthers_5 (lv_at hl 0 rfl) ?_
      refine lv_iload_n hx hb dX5_placeOthers_7 rfl (lv_at hl 4 rfl) ?_
      refine lv_icmp_ge (tgt := 65) hx hb dX5_placeOthers_8 (by decide) (fun c_11 => ?_) (fun c_11 => ?_)
      · have d_12 : (cn : Int32).toInt ≤ (x4_5 : Int32).toInt := Int32.le_iff_toInt_le.mp c_11
        exact W.nb (fun hN => W.widen (k := 1) (n := 6) (by decide) (by decide) (vx_ret (W.vret hx hb hr (fun t ht hW => ⟨⟨none, (sg, gm_j5, lg), rfl, ⟨rfl, sg, gm_j5, lg, rfl, hI_j5, KS_rf, (KS_tr (L := [53]) KS_rf hkg_j5 (by decide)), KS_rf, (SP3_full (by have kcn : cn.toNatClampNeg = cn.toInt.toNat := rfl; have kna : (gm 41 (3 * b.toNatClampNeg + 0)).toNatClampNeg = cn.toNatClampNeg := (by rw [hcn]); have := i32_0; have := i32_1; have := i32_2; have := i32_m1; have := (hsx0_5).1; have := (hsx0_5).2; have := (hsx1_5).1; have := (hsx1_5).2; have := (hsx2_5).1; have := (hsx2_5).2; have := (hx4_5).1; have := (hx4_5).2; have := (hx3_5).1; have := (hx3_5).2; omega) hSP5 (by have q7 : x4_5.toNatClampNeg = (gm 41 (3 * b.toNatClampNeg + 0)).toNatClampNeg := (by have kcn : cn.toNatClampNeg = cn.toInt.toNat := rfl; have kna : (gm 41 (3 * b.toNatClampNeg + 0)).toNatClampNeg = cn.toNatClampNeg := (by rw [hcn]); have q1 : x4_5.toNatClampNeg = x4_5.toInt.toNat := rfl; have := i32_0; have := i32_1; have := i32_2; have := i32_m1; have := (hsx0_5).1; have := (hsx0_5).2; have := (hsx1_5).1; have := (hsx1_5).2; have := (hsx2_5).1; have := (hsx2_5).2; have := (hx4_5).1; have := (hx4_5).2; have := (hx3_5).1; have := (hx3_5).2; omega); rw [hcF5, q7]; have := cF_le (atF gm (3 * b.toNatClampNeg + 0)) (gm 41 (3 * b.toNatClampNeg + 0)).toNatClampNeg; omega))⟩, by rw [ht]; exact hP, va_K.moved hW.alike hK, hD⟩, hS.F ht, by rw [ht]; exact hN⟩) hS.2.2 dX5_placeOthers_65)))
      · have d_13 : (x4_5 : Int32).toInt < (cn : Int32).toInt := Int32.lt_iff_toInt_lt.mp (i32_lt c_11)
        have h_14 : iv 0 2 x4_5 := iv_ltL (i32_lt c_11) hx4_5 hsx2_5 (by decide)
        have h_15 : iv 1 3 cn := iv_ltR (i32_lt c_11) hx4_5 hsx2_5 (by decide)
        refine ec_aload_n hx hb dX5_placeOthers_11 rfl (lv_at hl 3 rfl) ?_
        obtain ⟨q_16, hq_16, nq_16, tq_16⟩ := ix_mk (3 * b.toNatClampNeg + 0) 239 (by have q1 := iv_cl hsx1_5 (by decide); have q2 := (hsx1_5).2; omega) (by decide)
        refine cr_get (t := 10) (j := 1) (C := RX1) (T := TX1) (N := 19) (v := eV (ad 11) q_16) hx hb htb inX1 hown hK hP hsx1_5 (by decide) (by decide) (by decide) rfl (by decide) (htb _ kw_1104) (cV_c rfl hq_16.1 nq_16) dX5_placeOthers_12 ?_
        refine lv_iload hx hb dX5_placeOthers_15 (lv_at hl 0 rfl) ?_
        refine cm_callV (t := 11) (C := RJx4a65c) (T := TJx4a65c) (N := 3) (rest := []) (as := [.int x4_5]) ⟨hx, hb, hml, hown, htb⟩ (d_lget l dC dI ad cid a2 lx sg gm_j5 lg q_16 x4_5 hI_j5 hq_16 (LDI_e hLD (hkg_j5 41 (by decide)) (hkg_j5 42 (by decide)) (hkg_j5 57 (by decide))) (by have := i32_0; have := i32_1; have := i32_2; have := i32_m1; have := (hsx0_5).1; have := (hsx0_5).2; have := (hsx1_5).1; have := (hsx1_5).2; have := (h_15).1; have := (h_15).2; have := (h_14).1; have := (h_14).2; have := (hx3_5).1; have := (hx3_5).2; have := (hq_16).1; have := (hq_16).2; omega) (by rw [(hkg_j5 41 (by decide)), show q_16.toNatClampNeg = 3 * b.toNatClampNeg + 0 from nq_16]; have := i32_0; have := i32_1; have := i32_2; have := i32_m1; have := (hsx0_5).1; have := (hsx0_5).2; have := (hsx1_5).1; have := (hsx1_5).2; have := (h_15).1; have := (h_15).2; have := (h_14).1; have := (h_14).2; have := (hx3_5).1; have := (hx3_5).2; have := (hq_16).1; have := (hq_16).2; have q41 := congrArg Int32.toInt hcn; omega)) (cwV 1 htb (gd_V kw_1033 kw_794 kw_795 kw_98 kw_1512) rfl rfl rfl (by decide +kernel) ⟨Nat.le_of_ble_eq_true rfl, Nat.le_of_ble_eq_true rfl⟩) hq_16 (by decide) (by decide) rfl rfl hl.1 rfl (Nat.le_trans cs_n (by decide)) dX5_placeOthers_17 ⟨Nat.le_of_ble_eq_true rfl, Nat.le_of_ble_eq_true rfl⟩ hK hP hD hS hA hG (fun E ce q9 u_18 H locs hw hP hD hS hce hcv hcl => ?_) (fun v9 u_18 H locs hw hP hD hS => ?_)
        · exact hw.elim
        obtain ⟨r_17, rfl, rfl, hr_17, fr_r_17⟩ := hw
        have hP : va_P (dC, dI) vwCl (cW ad cid a2 lx sg gm_j5 lg) H := hP
        have hD : va_D A (cW ad cid a2 lx sg gm_j5 lg) := hD
        refine W.eq (g2 := F0 m 20 ls [eV (ad 9) r_17]) rfl ?_
        have fr_r_17 := fr_r_17.trans (congrFun (show gm_j5 57 = gm 57 from (hkg_j5 57 (by decide))) _)
        refine cl_cast hx hb hG hown (htb _ kw_1027) hK hP hr_17 (by decide) dX5_placeOthers_20 ?_
        refine cr_get (t := 9) (j := 16) (C := RX3) (T := TX3) (N := 21) (v := .int (gm_j5 23 r_17.toNatClampNeg)) hx hb htb inX3 hown hK hP hr_17 (by decide) (by decide) (by decide) rfl (by decide) (htb _ kw_1105) rfl dX5_placeOthers_23 ?_
        obtain ⟨z_20, ez_20⟩ : ∃ z : Int32, z = (gm_j5 23 r_17.toNatClampNeg) := ⟨_, rfl⟩
        refine W.eq (g2 := F0 m 26 ls [.int z_20]) (by rw [ez_20]) ?_
        have hz_20 : iv (-1) 2 z_20 := iv_of ez_20 (CI_a hI_j5 23 hr_17 (by decide))
        have ez_20 := ez_20.trans (congrFun (hkg_j5 23 (by decide)) _)
        refine lv_iconst (v := (-1)) hx hb dX5_placeOthers_26 (by decide) ?_
        refine lv_icmp_ne (tgt := 59) hx hb dX5_placeOthers_27 (by decide) (fun c_21 => ?_) (fun c_21 => ?_)
        · have h_22 : iv 0 2 z_20 := iv_neL c_21 hz_20 (by decide)
          exact hj59 gm_j5 x3_5 h_14 hx3_5 hsx0_5 hsx1_5 h_15 (KS_tr (L := [53]) KS_rf hkg_j5 (by decide)) hI_j5 (by have := i32_0; have := i32_1; have := i32_2; have := i32_m1; have := (hsx0_5).1; have := (hsx0_5).2; have := (hsx1_5).1; have := (hsx1_5).2; have := (h_15).1; have := (h_15).2; have := (h_14).1; have := (h_14).2; have := (hx3_5).1; have := (hx3_5).2; have := (hq_16).1; have := (hq_16).2; have := (hr_17).1; have := (hr_17).2; have := (h_22).1; have := (h_22).2; omega) (hSP5) ((by rw [cF_s1 (f := atF gm (3 * b.toNatClampNeg + 0)) (k := x4_5.toNatClampNeg) (by rw [← (show z_20 = atF gm (3 * b.toNatClampNeg + 0) x4_5.toNatClampNeg from by unfold atF; rw [ez_20, fr_r_17, show q_16.toNatClampNeg = 3 * b.toNatClampNeg + 0 from nq_16])]; exact ne_m1 (by have := i32_0; have := i32_1; have := i32_2; have := i32_m1; have := (hsx0_5).1; have := (hsx0_5).2; have := (hsx1_5).1; have := (hsx1_5).2; have := (h_15).1; have := (h_15).2; have := (h_14).1; have := (h_14).2; have := (hx3_5).1; have := (hx3_5).2; have := (hq_16).1; have := (hq_16).2; have := (hr_17).1; have := (hr_17).2; have := (h_22).1; have := (h_22).2; omega))]; have := cF_le (atF gm (3 * b.toNatClampNeg + 0)) x4_5.toNatClampNeg; have := hcF5; omega)) (hpl5) _ _ _ hP hD hS (lv_sub hl [0, 1, 2, 3, 4] rfl)
        · have h_23 : iv (-1) (-1) z_20 := iv_eq c_21 hz_20 (iv_k (by decide) : iv (-1) (-1) (-1)) (by decide)
          exact hj30 _ gm_j5 x3_5 rfl h_14 hx3_5 hsx0_5 hsx1_5 h_15 (KS_tr (L := [53]) KS_rf hkg_j5 (by decide)) hI_j5 (hSP5) (hcF5) (hpl5) ((by rw [← (show z_20 = atF gm (3 * b.toNatClampNeg + 0) x4_5.toNatClampNeg from by unfold atF; rw [ez_20, fr_r_17, show q_16.toNatClampNeg = 3 * b.toNatClampNeg + 0 from nq_16])]; exact eq_m1 (by have := i32_0; have := i32_1; have := i32_2; have := i32_m1; have := (hsx0_5).1; have := (hsx0_5).2; have := (hsx1_5).1; have := (hsx1_5).2; have := (h_15).1; have := (h_15).2; have := (h_14).1; have := (h_14).2; have := (hx3_5).1; have := (hx3_5).2; have := (hq_16).1; have := (hq_16).2; have := (hr_17).1; have := (hr_17).2; have := (h_23).1; have := (h_23).2; omega))) (by have := i32_0; have := i32_1; have := i32_2; have := i32_m1; have := (hsx0_5).1; have := (hsx0_5).2; have := (hsx1_5).1; have := (hsx1_5).2; have := (h_15).1; have := (h_15).2; have := (h_14).1; have := (h_14).2; have := (hx3_5).1; have := (hx3_5).2; have := (hq_16).1; have := (hq_16).2; have := (hr_17).1; have := (hr_17).2; have := (h_23).1; have := (h_23).2; omega) _ _ _ hP hD hS (lv_sub hl [0, 1, 2, 3, 4] rfl)
  refine lv_iconst (v := 0) hx hb dX5_placeOthers_0 (by decide) ?_
  refine lv_istore_n (i := 3) (lv' := [(3, .int 0), (0, eV (ad 6) x), (1, eV (ad 10) b), (2, .int cn)]) hx hb dX5_placeOthers_1 rfl hl (by decide) rfl (fun ls hl => ?_)
  refine lv_iconst (v := 0) hx hb dX5_placeOthers_2 (by decide) ?_
  refine lv_istore (i := 4) (lv' := [(4, .int 0), (3, .int 0), (0, eV (ad 6) x), (1, eV (ad 10) b), (2, .int cn)]) hx hb dX5_placeOthers_3 hl (by decide) rfl (fun ls hl => ?_)
  exact hj5 _ gm 0 0 rfl (iv_w (iv_k (by decide) : iv 0 0 0) (by decide)) (iv_w (iv_k (by decide) : iv 0 0 0) (by decide)) hvx hvb hvcn KS_rf hI (by have := i32_0; have := i32_1; have := i32_2; have := i32_m1; have := (hvx).1; have := (hvx).2; have := (hvb).1; have := (hvb).2; have := (hvcn).1; have := (hvcn).2; omega) (hSP) ((by rw [hcF]; show _ = _ + (0 - _); omega)) (fun _ q9 => absurd q9 (Nat.not_lt_zero _)) _ _ _ hP hD hS (lv_sub hl [0, 1, 2, 3, 4] rfl)
