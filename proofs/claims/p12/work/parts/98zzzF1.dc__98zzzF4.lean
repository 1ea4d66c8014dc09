section
theorem cl_z : (0 : Int32).toNatClampNeg = 0 := by decide
theorem nx_s {g : Nat → Int32} {A i n : Nat} {b : Int32} (h : ∀ k, k < i → ¬ g (A + k) = b) (hz : ¬ g (A + i) = b) (hn : n = i + 1) : ∀ k, k < n → ¬ g (A + k) = b := by
  intro k hk
  by_cases e9 : k = i
  · rw [e9]; exact hz
  · exact h k (by omega)
/-- a block of letters without setters, all else as it was -/
def BLK (g0 g : Nat → Int32) (X n : Nat) : Prop := (∀ k, k < n → g (26 * X + k) = -1) ∧ ∀ j, (j < 26 * X ∨ 26 * X + 26 ≤ j) → g j = g0 j
theorem BLK_0 {g0 g : Nat → Int32} {X n : Nat} (e : g = g0) (hn : n = 0) : BLK g0 g X n := by
  subst e hn
  exact ⟨fun k hk => absurd hk (Nat.not_lt_zero k), fun _ _ => rfl⟩
theorem BLK_s {g0 g g2 : Nat → Int32} {X i n : Nat} (h : BLK g0 g X i) (e : g2 = upd g (26 * X + i) (-1)) (hi : i < 26) (hn : n = i + 1) : BLK g0 g2 X n := by
  subst e hn
  refine ⟨fun k hk => ?_, fun j hj => ?_⟩
  · by_cases e9 : k = i
    · rw [e9, upd_at]
    · rw [upd_ne (by omega)]; exact h.1 k (by omega)
  · rw [upd_ne (by omega)]; exact h.2 j hj
def DECB (P : Prop) (r : Int32) (c : Nat) (g g2 : Nat → Int32) : Prop := (r.toInt = 1 ∧ P ∧ BLK g g2 c 26) ∨ (r.toInt = 0 ∧ ¬ P ∧ g2 = g)
section DC9
variable {P : Prop} {r r2 : Int32} {gm gm2 : Nat → Nat → Int32} {c o k n : Nat} {nm st re na a b d : Int32}
/-- a signature is written -/
def SIG9 (gm gm2 : Nat → Nat → Int32) (q : Nat) (nm st re n a b c : Int32) : Prop := gm2 8 = upd (gm 8) q nm ∧ gm2 9 = upd (gm 9) q st ∧ gm2 10 = upd (gm 10) q re ∧ gm2 7 = upd (gm 7) q n ∧ gm2 54 = upd (upd (upd (gm 54) (3 * q) a) (3 * q + 1) b) (3 * q + 2) c
def SGE (gm gm2 : Nat → Nat → Int32) : Prop := gm2 8 = gm 8 ∧ gm2 9 = gm 9 ∧ gm2 10 = gm 10 ∧ gm2 7 = gm 7 ∧ gm2 54 = gm 54
/-- a signature more, or an answer no -/
def ADC (P : Prop) (r : Int32) (c o k : Nat) (gm gm2 : Nat → Nat → Int32) (nm st re n a b d : Int32) : Prop := (r.toInt = 1 ∧ P ∧ (gm k c).toInt < 4 ∧ (∃ z : Int32, z.toInt = (gm k c).toInt + 1 ∧ gm2 k = upd (gm k) c z) ∧ SIG9 gm gm2 (8 * c + o + (gm k c).toNatClampNeg) nm st re n a b d) ∨ (r.toInt = 0 ∧ (¬ P ∨ 4 ≤ (gm k c).toInt) ∧ gm2 k = gm k ∧ SGE gm gm2)
theorem ADC_0 (h : ADC True r c o k gm gm2 nm st re na a b d) (h0 : r.toInt = 0) : 4 ≤ (gm k c).toInt ∧ gm2 k = gm k ∧ SGE gm gm2 := by
  rcases h with h | h
  · have := h.1; omega
  · exact ⟨h.2.1.resolve_left (fun q => q trivial), h.2.2⟩
theorem ADC_1 (h : ADC True r c o k gm gm2 nm st re na a b d) (h0 : r.toInt = 1) (hP : P) (h2 : r2.toInt = 1) : ADC P r2 c o k gm gm2 nm st re na a b d := by
  rcases h with h | h
  · exact Or.inl ⟨h2, hP, h.2.2⟩
  · have := h.1; omega
/-- a setter more, or an answer no -/
def ADS9 (P : Prop) (r : Int32) (c n : Nat) (k : Int32) (g3 g32 g55 g552 : Nat → Int32) : Prop := (r.toInt = 1 ∧ P ∧ (g3 c).toInt < 8 ∧ g55 (26 * c + n) = -1 ∧ (∃ z : Int32, z.toInt = (g3 c).toInt + 1 ∧ g32 = upd g3 c z) ∧ g552 = upd g55 (26 * c + n) k) ∨ (r.toInt = 0 ∧ (¬ P ∨ 8 ≤ (g3 c).toInt ∨ ¬ g55 (26 * c + n) = -1) ∧ g32 = g3 ∧ g552 = g55)
variable {g3 g32 g55 g552 : Nat → Int32} {v : Int32}
theorem ADS9_0 (h : ADS9 True r c n v g3 g32 g55 g552) (h0 : r.toInt = 0) : (8 ≤ (g3 c).toInt ∨ ¬ g55 (26 * c + n) = -1) ∧ g32 = g3 ∧ g552 = g55 := by
  rcases h with h | h
  · have := h.1; omega
  · exact ⟨h.2.1.resolve_left (fun q => q trivial), h.2.2⟩
theorem ADS9_1 (h : ADS9 True r c n v g3 g32 g55 g552) (h0 : r.toInt = 1) (hP : P) (h2 : r2.toInt = 1) : ADS9 P r2 c n v g3 g32 g55 g552 := by
  rcases h with h | h
  · exact Or.inl ⟨h2, hP, h.2.2⟩
  · have := h.1; omega
def DEP9 (P : Prop) (r : Int32) (c : Nat) (v : Int32) (g g2 : Nat → Int32) : Prop := (r.toInt = 1 ∧ P ∧ g2 = upd g c v) ∨ (r.toInt = 0 ∧ ¬ P ∧ g2 = g)
end DC9
/-- the reference: a constructor, a factory, a setter more, or an answer no -/
def RAC (P : Prop) (r : Int32) (c : Nat) (gm gm2 : Nat → Nat → Int32) (n a b d : Int32) : Prop := (r.toInt = 1 ∧ P ∧ (gm 7 c).toInt < 4 ∧ (∃ z : Int32, z.toInt = (gm 7 c).toInt + 1 ∧ gm2 7 = upd (gm 7) c z) ∧ gm2 8 = upd (gm 8) (4 * c + (gm 7 c).toNatClampNeg) n ∧ gm2 9 = upd (upd (upd (gm 9) (3 * (4 * c + (gm 7 c).toNatClampNeg)) a) (3 * (4 * c + (gm 7 c).toNatClampNeg) + 1) b) (3 * (4 * c + (gm 7 c).toNatClampNeg) + 2) d) ∨ (r.toInt = 0 ∧ (¬ P ∨ 4 ≤ (gm 7 c).toInt) ∧ gm2 7 = gm 7 ∧ gm2 8 = gm 8 ∧ gm2 9 = gm 9)
def RAF (P : Prop) (r : Int32) (c : Nat) (gm gm2 : Nat → Nat → Int32) (nm st re n a b d : Int32) : Prop := (r.toInt = 1 ∧ P ∧ (gm 13 c).toInt < 4 ∧ (∃ z : Int32, z.toInt = (gm 13 c).toInt + 1 ∧ gm2 13 = upd (gm 13) c z) ∧ gm2 14 = upd (gm 14) (4 * c + (gm 13 c).toNatClampNeg) nm ∧ gm2 18 = upd (gm 18) (4 * c + (gm 13 c).toNatClampNeg) st ∧ gm2 15 = upd (gm 15) (4 * c + (gm 13 c).toNatClampNeg) re ∧ gm2 16 = upd (gm 16) (4 * c + (gm 13 c).toNatClampNeg) n ∧ gm2 17 = upd (upd (upd (gm 17) (3 * (4 * c + (gm 13 c).toNatClampNeg)) a) (3 * (4 * c + (gm 13 c).toNatClampNeg) + 1) b) (3 * (4 * c + (gm 13 c).toNatClampNeg) + 2) d) ∨ (r.toInt = 0 ∧ (¬ P ∨ 4 ≤ (gm 13 c).toInt) ∧ gm2 13 = gm 13 ∧ gm2 14 = gm 14 ∧ gm2 18 = gm 18 ∧ gm2 15 = gm 15 ∧ gm2 16 = gm 16 ∧ gm2 17 = gm 17)
def RAS (P : Prop) (r : Int32) (c : Nat) (n k : Int32) (gm gm2 : Nat → Nat → Int32) : Prop := (r.toInt = 1 ∧ P ∧ (gm 10 c).toInt < 8 ∧ (∀ i, i < (gm 10 c).toNatClampNeg → ¬ gm 11 (8 * c + i) = n) ∧ (∃ z : Int32, z.toInt = (gm 10 c).toInt + 1 ∧ gm2 10 = upd (gm 10) c z) ∧ gm2 11 = upd (gm 11) (8 * c + (gm 10 c).toNatClampNeg) n ∧ gm2 12 = upd (gm 12) (8 * c + (gm 10 c).toNatClampNeg) k) ∨ (r.toInt = 0 ∧ (¬ P ∨ 8 ≤ (gm 10 c).toInt ∨ ∃ i, i < (gm 10 c).toNatClampNeg ∧ gm 11 (8 * c + i) = n) ∧ gm2 10 = gm 10 ∧ gm2 11 = gm 11 ∧ gm2 12 = gm 12)
end
section
set_option maxHeartbeats 4000000 in
set_option maxRecDepth 100000 in
theorem d_addConstructor9 (l : Launch) (dC : Nat → ClassId) (dI : Nat → Nat → Nat) (ad : Nat → Nat → Nat) (cid : Nat → ClassId) (a2 : Nat → Nat) (lx : List Nat) (sg : Nat → Int32) (gm : Nat → Nat → Int32) (lg : Nat → Nat → Int64) (x : Int32) (n : Int32) (a : Int32) (b : Int32) (f : Int32) (hI : CI sg gm) (hvx : iv 0 7 x) (hvn : iv 0 3 n) : CMt dC dI ad cid a2 lx l yX2_addConstructor wm_X2_addConstructor ({ frames := 1, cells := 1, slots := 6, locals := 24 }) [eV (ad 7) x, .int n, .int a, .int b, .int f] sg gm lg (fun v u => ∃ r : Int32, v = some (.int r) ∧ ∃ (sg2 : Nat → Int32) (gm2 : Nat → Nat → Int32) (lg2 : Nat → Nat → Int64), u = (sg2, gm2, lg2) ∧ CI sg2 gm2 ∧ KS [] sg sg2 ∧ KS [0, 7, 8, 9, 10, 54] gm gm2 ∧ KS [] lg lg2 ∧ (iv 0 1 r) ∧ (ADC True r x.toNatClampNeg 0 0 gm gm2 (-1) 0 (gm 2 x.toNatClampNeg) n a b f)) (fun _ _ => False) := by
  intro sz
  refine vx_ofW (cc := cX2_addConstructor) (maxL := 5) (ret := (some .boolean)) (by decide) rfl ?_
  intro p e s m args below meth c s₁ B hml hxt hv
  obtain ⟨rfl, hsz, hP, hK, hD0, hG⟩ := hv
  have hx := B.exec
  have hb := B.bytes
  have hr := B.returns
  have hts := atoms_spec (ws := wm_X2_addConstructor) B.pre
  have htb := fun (w : Cond) (h : w ∈ tb) => hts w (List.mem_cons_of_mem _ h)
  have hown : s.vm.findClass RX2 = some m.cls := findClass_of_methodNamed B.named
  have hlocks := B.notSynchronized
  subst hsz
  have hD := hD0.self (sz := s.heap.size)
  generalize hAe : va_A (cW ad cid a2 lx sg gm lg) s.heap.size = A at hD hG ⊢
  have hA : ∀ q : Nat, s.heap.size ≤ q → A q := fun q h => by rw [← hAe]; exact Or.inr h
  have hS : va_S A s.heap s.heap [] := va_S.rf
  have hl := lv_entry ([eV (ad 7) x, .int n, .int a, .int b, .int f]) (n := 5) (by rw [show (lg_sl ([eV (ad 7) x, .int n, .int a, .int b, .int f])).length = 5 from by simp [lg_sl, eV_cat, cat_i, cat_l]]; exact Nat.le_of_ble_eq_true rfl)
  rw [lg_entry_eq]
  generalize (lg_sl ([eV (ad 7) x, .int n, .int a, .int b, .int f]) ++ List.replicate (5 - (lg_sl ([eV (ad 7) x, .int n, .int a, .int b, .int f])).length) Slot.unset).toArray = ls at hl ⊢
  have hl : lv_has ls 5 [(0, eV (ad 7) x), (1, .int n), (2, .int a), (3, .int b), (4, .int f)] := by simp [lv_args, eV_cat, cat_i, cat_l] at hl; exact hl
  refine ec_aload_n hx hb dX2_addConstructor_0 rfl (lv_at hl 0 rfl) ?_
  refine cr_get (t := 7) (j := 2) (C := RX2) (T := TX2) (N := 8) (v := .int (gm 0 x.toNatClampNeg)) hx hb htb inX2 hown hK hP hvx (by decide) (by decide) (by decide) rfl (by decide) (htb _ kw_233) rfl dX2_addConstructor_1 ?_
  obtain ⟨z_1, ez_1⟩ : ∃ z : Int32, z = (gm 0 x.toNatClampNeg) := ⟨_, rfl⟩
  refine W.eq (g2 := F0 m 4 ls [.int z_1]) (by rw [ez_1]) ?_
  have hz_1 : iv 0 4 z_1 := iv_of ez_1 (CI_a hI 0 hvx (by decide))
  refine lv_iconst (v := 4) hx hb dX2_addConstructor_4 (by decide) ?_
  refine lv_icmp_lt (tgt := 10) hx hb dX2_addConstructor_5 (by decide) (fun c_2 => ?_) (fun c_2 => ?_)
  · have h_3 : iv 0 3 z_1 := iv_ltL c_2 hz_1 (iv_k (by decide) : iv 4 4 4) (by decide)
    refine ec_aload_n hx hb dX2_addConstructor_10 rfl (lv_at hl 0 rfl) ?_
    refine cr_get (t := 7) (j := 0) (C := RX2) (T := TX2) (N := 8) (v := eV (ad 28) x) hx hb htb inX2 hown hK hP hvx (by decide) (by decide) (by decide) rfl (by decide) (htb _ kw_48) (cV_c rfl (hvx).1 (by rw [show cMu 7 0 = 1 from rfl, Nat.one_mul]; rfl)) dX2_addConstructor_11 ?_
    refine ec_aload_n hx hb dX2_addConstructor_14 rfl (lv_at hl 0 rfl) ?_
    refine cr_get (t := 7) (j := 2) (C := RX2) (T := TX2) (N := 8) (v := .int (gm 0 x.toNatClampNeg)) hx hb htb inX2 hown hK hP hvx (by decide) (by decide) (by decide) rfl (by decide) (htb _ kw_233) rfl dX2_addConstructor_15 ?_
    refine W.eq (g2 := F0 m 18 ls [.int z_1, eV (ad 28) x]) (by rw [show (gm 0 x.toNatClampNeg) = z_1 from ez_1.symm]) ?_
    obtain ⟨q_4, hq_4, nq_4, tq_4⟩ := ix_mk (8 * x.toNatClampNeg + 0 + (z_1 : Int32).toNatClampNeg) 63 (by have q1 := iv_cl hvx (by decide); have q2 := (hvx).2; have q3 := iv_cl h_3 (by decide); have q4 := (h_3).2; omega) (by decide)
    refine cr_aald (t := 28) (C := RX8) (v := eV (ad 8) q_4) hx hb hK hP hvx (by decide) (by decide) (by decide) (by decide) (by decide) rfl (show vp_in z_1 (cLen 28) from (show vp_in z_1 4 from (iv_in h_3 (by decide)))) (cAr_c (by decide) hq_4.1 nq_4) dX2_addConstructor_18 ?_
    refine lv_iconst (v := (-1)) hx hb dX2_addConstructor_19 (by decide) ?_
    refine lv_iconst (v := 0) hx hb dX2_addConstructor_20 (by decide) ?_
    refine ec_aload_n hx hb dX2_addConstructor_21 rfl (lv_at hl 0 rfl) ?_
    refine cr_get (t := 7) (j := 4) (C := RX2) (T := TX2) (N := 8) (v := .int (gm 2 x.toNatClampNeg)) hx hb htb inX2 hown hK hP hvx (by decide) (by decide) (by decide) rfl (by decide) (htb _ kw_46) rfl dX2_addConstructor_22 ?_
    obtain ⟨z_5, ez_5⟩ : ∃ z : Int32, z = (gm 2 x.toNatClampNeg) := ⟨_, rfl⟩
    refine W.eq (g2 := F0 m 25 ls [.int z_5, .int 0, .int (-1), eV (ad 8) q_4]) (by rw [ez_5]) ?_
    have hz_5 : iv 0 7 z_5 := iv_of ez_5 (CI_a hI 2 hvx (by decide))
    refine cm_callV (t := 8) (C := RX8) (T := TX8) (N := 7) (rest := []) (as := [.int (-1), .int 0, .int z_5]) ⟨hx, hb, hml, hown, htb⟩ (d_describe9 l dC dI ad cid a2 lx sg gm lg q_4 (-1) 0 z_5 hI hq_4 (iv_w (iv_k (by decide) : iv (-1) (-1) (-1)) (by decide)) (iv_w (iv_k (by decide) : iv 0 0 0) (by decide)) hz_5) (cwV 3 htb (gd_V kw_252 kw_253 kw_254 kw_51 kw_1393) rfl rfl rfl (by decide +kernel) ⟨Nat.le_of_ble_eq_true rfl, Nat.le_of_ble_eq_true rfl⟩) hq_4 (by decide) (by decide) rfl rfl hl.1 rfl (Nat.le_trans cs_n (by decide)) dX2_addConstructor_25 ⟨Nat.le_of_ble_eq_true rfl, Nat.le_of_ble_eq_true rfl⟩ hK hP hD hS hA hG (fun E ce q9 u_7 H locs hw hP hD hS hce hcv hcl => ?_) (fun v9 u_7 H locs hw hP hD hS => ?_)
    · exact hw.elim
    obtain ⟨rfl, sgv_8, gmv_8, lgv_8, rfl, hIv_8, ksv_8, kgv_8, klv_8, f8_r_6, f9_r_6, f10_r_6⟩ := hw
    obtain rfl := KS_nil ksv_8
    obtain rfl := KS_nil klv_8
    have hP : va_P (dC, dI) vwCl (cW ad cid a2 lx sg gmv_8 lg) H := hP
    have hD : va_D A (cW ad cid a2 lx sg gmv_8 lg) := hD
    refine W.eq (g2 := F0 m 28 ls []) rfl ?_
    refine ec_aload_n hx hb dX2_addConstructor_28 rfl (lv_at hl 0 rfl) ?_
    refine cr_get (t := 7) (j := 0) (C := RX2) (T := TX2) (N := 8) (v := eV (ad 28) x) hx hb htb inX2 hown hK hP hvx (by decide) (by decide) (by decide) rfl (by decide) (htb _ kw_48) (cV_c rfl (hvx).1 (by rw [show cMu 7 0 = 1 from rfl, Nat.one_mul]; rfl)) dX2_addConstructor_29 ?_
    refine ec_aload_n hx hb dX2_addConstructor_32 rfl (lv_at hl 0 rfl) ?_
    refine cr_get (t := 7) (j := 2) (C := RX2) (T := TX2) (N := 8) (v := .int (gmv_8 0 x.toNatClampNeg)) hx hb htb inX2 hown hK hP hvx (by decide) (by decide) (by decide) rfl (by decide) (htb _ kw_233) rfl dX2_addConstructor_33 ?_
    refine W.eq (g2 := F0 m 36 ls [.int z_1, eV (ad 28) x]) (by rw [show (gmv_8 0 x.toNatClampNeg) = z_1 from (Eq.trans (congrFun (kgv_8 0 (by decide)) _) ez_1.symm)]) ?_
    refine cr_aald (t := 28) (C := RX8) (v := eV (ad 8) q_4) hx hb hK hP hvx (by decide) (by decide) (by decide) (by decide) (by decide) rfl (show vp_in z_1 (cLen 28) from (show vp_in z_1 4 from (iv_in h_3 (by decide)))) (cAr_c (by decide) hq_4.1 nq_4) dX2_addConstructor_36 ?_
    refine lv_iload_n hx hb dX2_addConstructor_37 rfl (lv_at hl 1 rfl) ?_
    refine lv_iload_n hx hb dX2_addConstructor_38 rfl (lv_at hl 2 rfl) ?_
    refine lv_iload_n hx hb dX2_addConstructor_39 rfl (lv_at hl 3 rfl) ?_
    refine lv_iload hx hb dX2_addConstructor_40 (lv_at hl 4 rfl) ?_
    refine cm_callV (t := 8) (C := RX8) (T := TX8) (N := 7) (rest := []) (as := [.int n, .int a, .int b, .int f]) ⟨hx, hb, hml, hown, htb⟩ (d_setTypes9 l dC dI ad cid a2 lx sg gmv_8 lg q_4 n a b f hIv_8 hq_4 hvn) (cwV 4 htb (gd_V kw_258 kw_259 kw_260 kw_51 kw_1394) rfl rfl rfl (by decide +kernel) ⟨Nat.le_of_ble_eq_true rfl, Nat.le_of_ble_eq_true rfl⟩) hq_4 (by decide) (by decide) rfl rfl hl.1 rfl (Nat.le_trans cs_n (by decide)) dX2_addConstructor_42 ⟨Nat.le_of_ble_eq_true rfl, Nat.le_of_ble_eq_true rfl⟩ hK hP hD hS hA hG (fun E ce q9 u_10 H locs hw hP hD hS hce hcv hcl => ?_) (fun v9 u_10 H locs hw hP hD hS => ?_)
    · exact hw.elim
    obtain ⟨rfl, sgv_11, gmv_11, lgv_11, rfl, hIv_11, ksv_11, kgv_11, klv_11, f7_r_9, f54_r_9⟩ := hw
    obtain rfl := KS_nil ksv_11
    obtain rfl := KS_nil klv_11
    have hP : va_P (dC, dI) vwCl (cW ad cid a2 lx sg gmv_11 lg) H := hP
    have hD : va_D A (cW ad cid a2 lx sg gmv_11 lg) := hD
    refine W.eq (g2 := F0 m 45 ls []) rfl ?_
    refine ec_aload_n hx hb dX2_addConstructor_45 rfl (lv_at hl 0 rfl) ?_
    refine lv_dup hx hb dX2_addConstructor_46 (eV_cat _ _) ?_
    refine cr_get (t := 7) (j := 2) (C := RX2) (T := TX2) (N := 8) (v := .int (gmv_11 0 x.toNatClampNeg)) hx hb htb inX2 hown hK hP hvx (by decide) (by decide) (by decide) rfl (by decide) (htb _ kw_233) rfl dX2_addConstructor_47 ?_
    refine W.eq (g2 := F0 m 50 ls [.int z_1, eV (ad 7) x]) (by rw [show (gmv_11 0 x.toNatClampNeg) = z_1 from (Eq.trans (congrFun (Eq.trans (kgv_11 0 (by decide)) (kgv_8 0 (by decide))) _) ez_1.symm)]) ?_
    refine lv_iconst (v := 1) hx hb dX2_addConstructor_50 (by decide) ?_
    refine lv_iadd hx hb dX2_addConstructor_51 ?_
    refine lv_topi (fun z_12 ez_12 => ?_)
    have hz_12 : iv 1 4 z_12 := iv_of ez_12 (iv_add h_3 (iv_k (by decide) : iv 1 1 1) (by decide))
    have tz_12 : z_12.toInt = (z_1 : Int32).toInt + 1 := by rw [ez_12]; exact iv_addE h_3 (iv_k (by decide) : iv 1 1 1) (by decide)
    refine cr_putg (t := 7) (j := 2) (C := RX2) (T := TX2) (N := 8) (ty0 := tyX2) (k := 0) (y := z_12) hx hb htb inX2 tyX2_ok nmX2 hown hK hP hD hS hvx (by decide) (by decide) (by decide) (by decide) rfl rfl (by decide) (htb _ kw_233) rfl (by show Value.int z_12 = Value.int (va_up gmv_11 0 (upd (gmv_11 0) x.toNatClampNeg z_12) 0 x.toNatClampNeg); rw [va_up_self, upd_at]) rfl rfl dX2_addConstructor_52 (fun gm_13 H locs egm_13 hP hD hS => ?_)
    have hI_gm_13 := CI_st hIv_11 egm_13 hz_12 (by decide)
    refine lv_iconst (v := 1) hx hb dX2_addConstructor_55 (by decide) ?_
    exact W.nb (fun hN => W.widen (k := 1) (n := 6) (by decide) (by decide) (vx_ret (W.zret (v := 1) hx hb hr (iv_nb (iv_w (iv_k (by decide) : iv 1 1 1) (by decide))) (fun t ht hW => ⟨⟨some (.int 1), (sg, gm_13, lg), rfl, ⟨1, rfl, sg, gm_13, lg, rfl, hI_gm_13, KS_rf, (KS_up (KS_tr (L := [0, 7, 8, 9, 10, 54]) (KS_tr (L := [0, 7, 8, 9, 10, 54]) KS_rf kgv_8 (by decide)) kgv_11 (by decide)) egm_13 (by decide)), KS_rf, (iv_w (iv_k (by decide) : iv 1 1 1) (by decide)), (Or.inl ⟨rfl, trivial, (by rw [← ez_1]; have := i32_0; have := i32_1; have := i32_2; have := i32_m1; have := (hvx).1; have := (hvx).2; have := (hvn).1; have := (hvn).2; have := (h_3).1; have := (h_3).2; have := (hq_4).1; have := (hq_4).2; have := (hz_5).1; have := (hz_5).2; have := (hz_12).1; have := (hz_12).2; omega), ⟨_, (by rw [← ez_1]; have := i32_0; have := i32_1; have := i32_2; have := i32_m1; have := (hvx).1; have := (hvx).2; have := (hvn).1; have := (hvn).2; have := (h_3).1; have := (h_3).2; have := (hq_4).1; have := (hq_4).2; have := (hz_5).1; have := (hz_5).2; have := (hz_12).1; have := (hz_12).2; omega), (show gm_13 0 = upd (gm 0) (x : Int32).toNatClampNeg z_12 from ((up_at egm_13).trans (by rw [show gmv_11 0 = gm 0 from ((kgv_11 0 (by decide)).trans ((kgv_8 0 (by decide)).trans rfl))])))⟩, (by rw [← ez_5, ← ez_1, ← nq_4]; exact ⟨((show gm_13 8 = gmv_8 8 from ((up_ne egm_13 (by decide)).trans ((kgv_11 8 (by decide)).trans rfl))).trans f8_r_6), ((show gm_13 9 = gmv_8 9 from ((up_ne egm_13 (by decide)).trans ((kgv_11 9 (by decide)).trans rfl))).trans f9_r_6), ((show gm_13 10 = gmv_8 10 from ((up_ne egm_13 (by decide)).trans ((kgv_11 10 (by decide)).trans rfl))).trans f10_r_6), ((show gm_13 7 = gmv_11 7 from ((up_ne egm_13 (by decide)).trans rfl)).trans (f7_r_9.trans (by rw [show gmv_8 7 = gm 7 from ((kgv_8 7 (by decide)).trans rfl)]))), ((show gm_13 54 = gmv_11 54 from ((up_ne egm_13 (by decide)).trans rfl)).trans (f54_r_9.trans (by rw [show gmv_8 54 = gm 54 from ((kgv_8 54 (by decide)).trans rfl)])))⟩)⟩)⟩, by rw [ht]; exact hP, va_K.moved hW.alike hK, hD⟩, hS.F ht, by rw [ht]; exact hN⟩) hS.2.2 dX2_addConstructor_56)))
  · have h_14 : iv 4 4 z_1 := iv_leR (i32_ge c_2) (iv_k (by decide) : iv 4 4 4) hz_1 (by decide)
    refine lv_iconst (v := 0) hx hb dX2_addConstructor_8 (by decide) ?_
    exact W.nb (fun hN => W.widen (k := 1) (n := 6) (by decide) (by decide) (vx_ret (W.zret (v := 0) hx hb hr (iv_nb (iv_w (iv_k (by decide) : iv 0 0 0) (by decide))) (fun t ht hW => ⟨⟨some (.int 0), (sg, gm, lg), rfl, ⟨0, rfl, sg, gm, lg, rfl, hI, KS_rf, KS_rf, KS_rf, (iv_w (iv_k (by decide) : iv 0 0 0) (by decide)), (Or.inr ⟨rfl, Or.inr (by rw [← ez_1]; have := i32_0; have := i32_1; have := i32_2; have := i32_m1; have := (hvx).1; have := (hvx).2; have := (hvn).1; have := (hvn).2; have := (h_14).1; have := (h_14).2; omega), (show gm 0 = gm 0 from rfl), ⟨(show gm 8 = gm 8 from rfl), (show gm 9 = gm 9 from rfl), (show gm 10 = gm 10 from rfl), (show gm 7 = gm 7 from rfl), (show gm 54 = gm 54 from rfl)⟩⟩)⟩, by rw [ht]; exact hP, va_K.moved hW.alike hK, hD⟩, hS.F ht, by rw [ht]; exact hN⟩) hS.2.2 dX2_addConstructor_9)))

set_option maxHeartbeats 4000000 in
set_option maxRecDepth 100000 in
theorem d_addFactory9 (l : Launch) (dC : Nat → ClassId) (dI : Nat → Nat → Nat) (ad : Nat → Nat → Nat) (cid : Nat → ClassId) (a2 : Nat → Nat) (lx : List Nat) (sg : Nat → Int32) (gm : Nat → Nat → Int32) (lg : Nat → Nat → Int64) (x : Int32) (nm : Int32) (z : Int32) (re : Int32) (n : Int32) (a : Int32) (b : Int32) (f : Int32) (hI : CI sg gm) (hvx : iv 0 7 x) (hvnm : iv 0 25 nm) (hvz : iv 0 1 z) (hvre : iv 0 7 re) (hvn : iv 0 3 n) : CMt dC dI ad cid a2 lx l yX2_addFactory wm_X2_addFactory ({ frames := 1, cells := 1, slots := 6, locals := 24 }) [eV (ad 7) x, .int nm, .int z, .int re, .int n, .int a, .int b, .int f] sg gm lg (fun v u => ∃ r : Int32, v = some (.int r) ∧ ∃ (sg2 : Nat → Int32) (gm2 : Nat → Nat → Int32) (lg2 : Nat → Nat → Int64), u = (sg2, gm2, lg2) ∧ CI sg2 gm2 ∧ KS [] sg sg2 ∧ KS [1, 7, 8, 9, 10, 54] gm gm2 ∧ KS [] lg lg2 ∧ (iv 0 1 r) ∧ (ADC True r x.toNatClampNeg 4 1 gm gm2 nm z re n a b f)) (fun _ _ => False) := by
  intro sz
  refine vx_ofW (cc := cX2_addFactory) (maxL := 8) (ret := (some .boolean)) (by decide) rfl ?_
  intro p e s m args below meth c s₁ B hml hxt hv
  obtain ⟨rfl, hsz, hP, hK, hD0, hG⟩ := hv
  have hx := B.exec
  have hb := B.bytes
  have hr := B.returns
  have hts := atoms_spec (ws := wm_X2_addFactory) B.pre
  have htb := fun (w : Cond) (h : w ∈ tb) => hts w (List.mem_cons_of_mem _ h)
  have hown : s.vm.findClass RX2 = some m.cls := findClass_of_methodNamed B.named
  have hlocks := B.notSynchronized
  subst hsz
  have hD := hD0.self (sz := s.heap.size)
  generalize hAe : va_A (cW ad cid a2 lx sg gm lg) s.heap.size = A at hD hG ⊢
  have hA : ∀ q : Nat, s.heap.size ≤ q → A q := fun q h => by rw [← hAe]; exact Or.inr h
  have hS : va_S A s.heap s.heap [] := va_S.rf
  have hl := lv_entry ([eV (ad 7) x, .int nm, .int z, .int re, .int n, .int a, .int b, .int f]) (n := 8) (by rw [show (lg_sl ([eV (ad 7) x, .int nm, .int z, .int re, .int n, .int a, .int b, .int f])).length = 8 from by simp [lg_sl, eV_cat, cat_i, cat_l]]; exact Nat.le_of_ble_eq_true rfl)
  rw [lg_entry_eq]
  generalize (lg_sl ([eV (ad 7) x, .int nm, .int z, .int re, .int n, .int a, .int b, .int f]) ++ List.replicate (8 - (lg_sl ([eV (ad 7) x, .int nm, .int z, .int re, .int n, .int a, .int b, .int f])).length) Slot.unset).toArray = ls at hl ⊢
  have hl : lv_has ls 8 [(0, eV (ad 7) x), (1, .int nm), (2, .int z), (3, .int re), (4, .int n), (5, .int a), (6, .int b), (7, .int f)] := by simp [lv_args, eV_cat, cat_i, cat_l] at hl; exact hl
  refine ec_aload_n hx hb dX2_addFactory_0 rfl (lv_at hl 0 rfl) ?_
  refine cr_get (t := 7) (j := 3) (C := RX2) (T := TX2) (N := 8) (v := .int (gm 1 x.toNatClampNeg)) hx hb htb inX2 hown hK hP hvx (by decide) (by decide) (by decide) rfl (by decide) (htb _ kw_234) rfl dX2_addFactory_1 ?_
  obtain ⟨z_1, ez_1⟩ : ∃ z : Int32, z = (gm 1 x.toNatClampNeg) := ⟨_, rfl⟩
  refine W.eq (g2 := F0 m 4 ls [.int z_1]) (by rw [ez_1]) ?_
  have hz_1 : iv 0 4 z_1 := iv_of ez_1 (CI_a hI 1 hvx (by decide))
  refine lv_iconst (v := 4) hx hb dX2_addFactory_4 (by decide) ?_
  refine lv_icmp_lt (tgt := 10) hx hb dX2_addFactory_5 (by decide) (fun c_2 => ?_) (fun c_2 => ?_)
  · have h_3 : iv 0 3 z_1 := iv_ltL c_2 hz_1 (iv_k (by decide) : iv 4 4 4) (by decide)
    refine ec_aload_n hx hb dX2_addFactory_10 rfl (lv_at hl 0 rfl) ?_
    refine cr_get (t := 7) (j := 1) (C := RX2) (T := TX2) (N := 8) (v := eV (ad 29) x) hx hb htb inX2 hown hK hP hvx (by decide) (by decide) (by decide) rfl (by decide) (htb _ kw_49) (cV_c rfl (hvx).1 (by rw [show cMu 7 1 = 1 from rfl, Nat.one_mul]; rfl)) dX2_addFactory_11 ?_
    refine ec_aload_n hx hb dX2_addFactory_14 rfl (lv_at hl 0 rfl) ?_
    refine cr_get (t := 7) (j := 3) (C := RX2) (T := TX2) (N := 8) (v := .int (gm 1 x.toNatClampNeg)) hx hb htb inX2 hown hK hP hvx (by decide) (by decide) (by decide) rfl (by decide) (htb _ kw_234) rfl dX2_addFactory_15 ?_
    refine W.eq (g2 := F0 m 18 ls [.int z_1, eV (ad 29) x]) (by rw [show (gm 1 x.toNatClampNeg) = z_1 from ez_1.symm]) ?_
    obtain ⟨q_4, hq_4, nq_4, tq_4⟩ := ix_mk (8 * x.toNatClampNeg + 4 + (z_1 : Int32).toNatClampNeg) 63 (by have q1 := iv_cl hvx (by decide); have q2 := (hvx).2; have q3 := iv_cl h_3 (by decide); have q4 := (h_3).2; omega) (by decide)
    refine cr_aald (t := 29) (C := RX8) (v := eV (ad 8) q_4) hx hb hK hP hvx (by decide) (by decide) (by decide) (by decide) (by decide) rfl (show vp_in z_1 (cLen 29) from (show vp_in z_1 4 from (iv_in h_3 (by decide)))) (cAr_c (by decide) hq_4.1 nq_4) dX2_addFactory_18 ?_
    refine lv_iload_n hx hb dX2_addFactory_19 rfl (lv_at hl 1 rfl) ?_
    refine lv_iload_n hx hb dX2_addFactory_20 rfl (lv_at hl 2 rfl) ?_
    refine lv_iload_n hx hb dX2_addFactory_21 rfl (lv_at hl 3 rfl) ?_
    refine cm_callV (t := 8) (C := RX8) (T := TX8) (N := 7) (rest := []) (as := [.int nm, .int z, .int re]) ⟨hx, hb, hml, hown, htb⟩ (d_describe9 l dC dI ad cid a2 lx sg gm lg q_4 nm z re hI hq_4 (iv_w hvnm (by decide)) hvz hvre) (cwV 3 htb (gd_V kw_252 kw_253 kw_254 kw_51 kw_1393) rfl rfl rfl (by decide +kernel) ⟨Nat.le_of_ble_eq_true rfl, Nat.le_of_ble_eq_true rfl⟩) hq_4 (by decide) (by decide) rfl rfl hl.1 rfl (Nat.le_trans cs_n (by decide)) dX2_addFactory_22 ⟨Nat.le_of_ble_eq_true rfl, Nat.le_of_ble_eq_true rfl⟩ hK hP hD hS hA hG (fun E ce q9 u_6 H locs hw hP hD hS hce hcv hcl => ?_) (fun v9 u_6 H locs hw hP hD hS => ?_)
    · exact hw.elim
    obtain ⟨rfl, sgv_7, gmv_7, lgv_7, rfl, hIv_7, ksv_7, kgv_7, klv_7, f8_r_5, f9_r_5, f10_r_5⟩ := hw
    obtain rfl := KS_nil ksv_7
    obtain rfl := KS_nil klv_7
    have hP : va_P (dC, dI) vwCl (cW ad cid a2 lx sg gmv_7 lg) H := hP
    have hD : va_D A (cW ad cid a2 lx sg gmv_7 lg) := hD
    refine W.eq (g2 := F0 m 25 ls []) rfl ?_
    refine ec_aload_n hx hb dX2_addFactory_25 rfl (lv_at hl 0 rfl) ?_
    refine cr_get (t := 7) (j := 1) (C := RX2) (T := TX2) (N := 8) (v := eV (ad 29) x) hx hb htb inX2 hown hK hP hvx (by decide) (by decide) (by decide) rfl (by decide) (htb _ kw_49) (cV_c rfl (hvx).1 (by rw [show cMu 7 1 = 1 from rfl, Nat.one_mul]; rfl)) dX2_addFactory_26 ?_
    refine ec_aload_n hx hb dX2_addFactory_29 rfl (lv_at hl 0 rfl) ?_
    refine cr_get (t := 7) (j := 3) (C := RX2) (T := TX2) (N := 8) (v := .int (gmv_7 1 x.toNatClampNeg)) hx hb htb inX2 hown hK hP hvx (by decide) (by decide) (by decide) rfl (by decide) (htb _ kw_234) rfl dX2_addFactory_30 ?_
    refine W.eq (g2 := F0 m 33 ls [.int z_1, eV (ad 29) x]) (by rw [show (gmv_7 1 x.toNatClampNeg) = z_1 from (Eq.trans (congrFun (kgv_7 1 (by decide)) _) ez_1.symm)]) ?_
    refine cr_aald (t := 29) (C := RX8) (v := eV (ad 8) q_4) hx hb hK hP hvx (by decide) (by decide) (by decide) (by decide) (by decide) rfl (show vp_in z_1 (cLen 29) from (show vp_in z_1 4 from (iv_in h_3 (by decide)))) (cAr_c (by decide) hq_4.1 nq_4) dX2_addFactory_33 ?_
    refine lv_iload hx hb dX2_addFactory_34 (lv_at hl 4 rfl) ?_
    refine lv_iload hx hb dX2_addFactory_36 (lv_at hl 5 rfl) ?_
    refine lv_iload hx hb dX2_addFactory_38 (lv_at hl 6 rfl) ?_
    refine lv_iload hx hb dX2_addFactory_40 (lv_at hl 7 rfl) ?_
    refine cm_callV (t := 8) (C := RX8) (T := TX8) (N := 7) (rest := []) (as := [.int n, .int a, .int b, .int f]) ⟨hx, hb, hml, hown, htb⟩ (d_setTypes9 l dC dI ad cid a2 lx sg gmv_7 lg q_4 n a b f hIv_7 hq_4 hvn) (cwV 4 htb (gd_V kw_258 kw_259 kw_260 kw_51 kw_1394) rfl rfl rfl (by decide +kernel) ⟨Nat.le_of_ble_eq_true rfl, Nat.le_of_ble_eq_true rfl⟩) hq_4 (by decide) (by decide) rfl rfl hl.1 rfl (Nat.le_trans cs_n (by decide)) dX2_addFactory_42 ⟨Nat.le_of_ble_eq_true rfl, Nat.le_of_ble_eq_true rfl⟩ hK hP hD hS hA hG (fun E ce q9 u_9 H locs hw hP hD hS hce hcv hcl => ?_) (fun v9 u_9 H locs hw hP hD hS => ?_)
    · exact hw.elim
    obtain ⟨rfl, sgv_10, gmv_10, lgv_10, rfl, hIv_10, ksv_10, kgv_10, klv_10, f7_r_8, f54_r_8⟩ := hw
    obtain rfl := KS_nil ksv_10
    obtain rfl := KS_nil klv_10
    have hP : va_P (dC, dI) vwCl (cW ad cid a2 lx sg gmv_10 lg) H := hP
    have hD : va_D A (cW ad cid a2 lx sg gmv_10 lg) := hD
    refine W.eq (g2 := F0 m 45 ls []) rfl ?_
    refine ec_aload_n hx hb dX2_addFactory_45 rfl (lv_at hl 0 rfl) ?_
    refine lv_dup hx hb dX2_addFactory_46 (eV_cat _ _) ?_
    refine cr_get (t := 7) (j := 3) (C := RX2) (T := TX2) (N := 8) (v := .int (gmv_10 1 x.toNatClampNeg)) hx hb htb inX2 hown hK hP hvx (by decide) (by decide) (by decide) rfl (by decide) (htb _ kw_234) rfl dX2_addFactory_47 ?_
    refine W.eq (g2 := F0 m 50 ls [.int z_1, eV (ad 7) x]) (by rw [show (gmv_10 1 x.toNatClampNeg) = z_1 from (Eq.trans (congrFun (Eq.trans (kgv_10 1 (by decide)) (kgv_7 1 (by decide))) _) ez_1.symm)]) ?_
    refine lv_iconst (v := 1) hx hb dX2_addFactory_50 (by decide) ?_
    refine lv_iadd hx hb dX2_addFactory_51 ?_
    refine lv_topi (fun z_11 ez_11 => ?_)
    have hz_11 : iv 1 4 z_11 := iv_of ez_11 (iv_add h_3 (iv_k (by decide) : iv 1 1 1) (by decide))
    have tz_11 : z_11.toInt = (z_1 : Int32).toInt + 1 := by rw [ez_11]; exact iv_addE h_3 (iv_k (by decide) : iv 1 1 1) (by decide)
    refine cr_putg (t := 7) (j := 3) (C := RX2) (T := TX2) (N := 8) (ty0 := tyX2) (k := 1) (y := z_11) hx hb htb inX2 tyX2_ok nmX2 hown hK hP hD hS hvx (by decide) (by decide) (by decide) (by decide) rfl rfl (by decide) (htb _ kw_234) rfl (by show Value.int z_11 = Value.int (va_up gmv_10 1 (upd (gmv_10 1) x.toNatClampNeg z_11) 1 x.toNatClampNeg); rw [va_up_self, upd_at]) rfl rfl dX2_addFactory_52 (fun gm_12 H locs egm_12 hP hD hS => ?_)
    have hI_gm_12 := CI_st hIv_10 egm_12 hz_11 (by decide)
    refine lv_iconst (v := 1) hx hb dX2_addFactory_55 (by decide) ?_
    exact W.nb (fun hN => W.widen (k := 1) (n := 6) (by decide) (by decide) (vx_ret (W.zret (v := 1) hx hb hr (iv_nb (iv_w (iv_k (by decide) : iv 1 1 1) (by decide))) (fun t ht hW => ⟨⟨some (.int 1), (sg, gm_12, lg), rfl, ⟨1, rfl, sg, gm_12, lg, rfl, hI_gm_12, KS_rf, (KS_up (KS_tr (L := [1, 7, 8, 9, 10, 54]) (KS_tr (L := [1, 7, 8, 9, 10, 54]) KS_rf kgv_7 (by decide)) kgv_10 (by decide)) egm_12 (by decide)), KS_rf, (iv_w (iv_k (by decide) : iv 1 1 1) (by decide)), (Or.inl ⟨rfl, trivial, (by rw [← ez_1]; have := i32_0; have := i32_1; have := i32_2; have := i32_m1; have := (hvx).1; have := (hvx).2; have := (hvnm).1; have := (hvnm).2; have := (hvz).1; have := (hvz).2; have := (hvre).1; have := (hvre).2; have := (hvn).1; have := (hvn).2; have := (h_3).1; have := (h_3).2; have := (hq_4).1; have := (hq_4).2; have := (hz_11).1; have := (hz_11).2; omega), ⟨_, (by rw [← ez_1]; have := i32_0; have := i32_1; have := i32_2; have := i32_m1; have := (hvx).1; have := (hvx).2; have := (hvnm).1; have := (hvnm).2; have := (hvz).1; have := (hvz).2; have := (hvre).1; have := (hvre).2; have := (hvn).1; have := (hvn).2; have := (h_3).1; have := (h_3).2; have := (hq_4).1; have := (hq_4).2; have := (hz_11).1; have := (hz_11).2; omega), (show gm_12 1 = upd (gm 1) (x : Int32).toNatClampNeg z_11 from ((up_at egm_12).trans (by rw [show gmv_10 1 = gm 1 from ((kgv_10 1 (by decide)).trans ((kgv_7 1 (by decide)).trans rfl))])))⟩, (by rw [← ez_1, ← nq_4]; exact ⟨((show gm_12 8 = gmv_7 8 from ((up_ne egm_12 (by decide)).trans ((kgv_10 8 (by decide)).trans rfl))).trans f8_r_5), ((show gm_12 9 = gmv_7 9 from ((up_ne egm_12 (by decide)).trans ((kgv_10 9 (by decide)).trans rfl))).trans f9_r_5), ((show gm_12 10 = gmv_7 10 from ((up_ne egm_12 (by decide)).trans ((kgv_10 10 (by decide)).trans rfl))).trans f10_r_5), ((show gm_12 7 = gmv_10 7 from ((up_ne egm_12 (by decide)).trans rfl)).trans (f7_r_8.trans (by rw [show gmv_7 7 = gm 7 from ((kgv_7 7 (by decide)).trans rfl)]))), ((show gm_12 54 = gmv_10 54 from ((up_ne egm_12 (by decide)).trans rfl)).trans (f54_r_8.trans (by rw [show gmv_7 54 = gm 54 from ((kgv_7 54 (by decide)).trans rfl)])))⟩)⟩)⟩, by rw [ht]; exact hP, va_K.moved hW.alike hK, hD⟩, hS.F ht, by rw [ht]; exact hN⟩) hS.2.2 dX2_addFactory_56)))
  · have h_13 : iv 4 4 z_1 := iv_leR (i32_ge c_2) (iv_k (by decide) : iv 4 4 4) hz_1 (by decide)
    refine lv_iconst (v := 0) hx hb dX2_addFactory_8 (by decide) ?_
    exact W.nb (fun hN => W.widen (k := 1) (n := 6) (by decide) (by decide) (vx_ret (W.zret (v := 0) hx hb hr (iv_nb (iv_w (iv_k (by decide) : iv 0 0 0) (by decide))) (fun t ht hW => ⟨⟨some (.int 0), (sg, gm, lg), rfl, ⟨0, rfl, sg, gm, lg, rfl, hI, KS_rf, KS_rf, KS_rf, (iv_w (iv_k (by decide) : iv 0 0 0) (by decide)), (Or.inr ⟨rfl, Or.inr (by rw [← ez_1]; have := i32_0; have := i32_1; have := i32_2; have := i32_m1; have := (hvx).1; have := (hvx).2; have := (hvnm).1; have := (hvnm).2; have := (hvz).1; have := (hvz).2; have := (hvre).1; have := (hvre).2; have := (hvn).1; have := (hvn).2; have := (h_13).1; have := (h_13).2; omega), (show gm 1 = gm 1 from rfl), ⟨(show gm 8 = gm 8 from rfl), (show gm 9 = gm 9 from rfl), (show gm 10 = gm 10 from rfl), (show gm 7 = gm 7 from rfl), (show gm 54 = gm 54 from rfl)⟩⟩)⟩, by rw [ht]; exact hP, va_K.moved hW.alike hK, hD⟩, hS.F ht, by rw [ht]; exact hN⟩) hS.2.2 dX2_addFactory_9)))

set_option maxHeartbeats 4000000 in
set_option maxRecDepth 100000 in
theorem d_addSetter9 (l : Launch) (dC : Nat → ClassId) (dI : Nat → Nat → Nat) (ad : Nat → Nat → Nat) (cid : Nat → ClassId) (a2 : Nat → Nat) (lx : List Nat) (sg : Nat → Int32) (gm : Nat → Nat → Int32) (lg : Nat → Nat → Int64) (x : Int32) (nm : Int32) (k : Int32) (hI : CI sg gm) (hvx : iv 0 7 x) (hvnm : iv 0 25 nm) (hvk : iv 0 15 k) : CMt dC dI ad cid a2 lx l yX2_addSetter wm_X2_addSetter ({ frames := 0, cells := 1, slots := 6, locals := 0 }) [eV (ad 7) x, .int nm, .int k] sg gm lg (fun v u => ∃ r : Int32, v = some (.int r) ∧ ∃ (sg2 : Nat → Int32) (gm2 : Nat → Nat → Int32) (lg2 : Nat → Nat → Int64), u = (sg2, gm2, lg2) ∧ CI sg2 gm2 ∧ KS [] sg sg2 ∧ KS [3, 55] gm gm2 ∧ KS [] lg lg2 ∧ (iv 0 1 r) ∧ (ADS9 True r x.toNatClampNeg nm.toNatClampNeg k (gm 3) (gm2 3) (gm 55) (gm2 55))) (fun _ _ => False) := by
  intro sz
  refine vx_ofW (cc := cX2_addSetter) (maxL := 3) (ret := (some .boolean)) (by decide) rfl ?_
  intro p e s m args below meth c s₁ B hml hxt hv
  obtain ⟨rfl, hsz, hP, hK, hD0, hG⟩ := hv
  have hx := B.exec
  have hb := B.bytes
  have hr := B.returns
  have hts := atoms_spec (ws := wm_X2_addSetter) B.pre
  have htb := fun (w : Cond) (h : w ∈ tb) => hts w (List.mem_cons_of_mem _ h)
  have hown : s.vm.findClass RX2 = some m.cls := findClass_of_methodNamed B.named
  have hlocks := B.notSynchronized
  subst hsz
  have hD := hD0.self (sz := s.heap.size)
  generalize hAe : va_A (cW ad cid a2 lx sg gm lg) s.heap.size = A at hD hG ⊢
  have hA : ∀ q : Nat, s.heap.size ≤ q → A q := fun q h => by rw [← hAe]; exact Or.inr h
  have hS : va_S A s.heap s.heap [] := va_S.rf
  have hl := lv_entry ([eV (ad 7) x, .int nm, .int k]) (n := 3) (by rw [show (lg_sl ([eV (ad 7) x, .int nm, .int k])).length = 3 from by simp [lg_sl, eV_cat, cat_i, cat_l]]; exact Nat.le_of_ble_eq_true rfl)
  rw [lg_entry_eq]
  generalize (lg_sl ([eV (ad 7) x, .int nm, .int k]) ++ List.replicate (3 - (lg_sl ([eV (ad 7) x, .int nm, .int k])).length) Slot.unset).toArray = ls at hl ⊢
  have hl : lv_has ls 3 [(0, eV (ad 7) x), (1, .int nm), (2, .int k)] := by simp [lv_args, eV_cat, cat_i, cat_l] at hl; exact hl
  have hj19 : ∀ (_ : iv 0 7 x) (_ : iv 0 25 nm) (_ : iv 0 15 k) (_ : 8 ≤ (gm 3 x.toNatClampNeg).toInt ∨ ¬ gm 55 (26 * x.toNatClampNeg + nm.toNatClampNeg) = -1) (H : Heap) (locs : List Loc) (ls : Array Slot), va_P (dC, dI) vwCl (cW ad cid a2 lx sg gm lg) H → va_D A (cW ad cid a2 lx sg gm lg) → va_S A s.heap H locs → lv_has ls 3 [(0, eV (ad 7) x), (1, .int nm), (2, .int k)] → W p l e (headSpec wm_X2_addSetter ({ frames := 0, cells := 1, slots := 6, locals := 0 })).room s m ([eV (ad 7) x, .int nm, .int k] : List Value).toArray below meth c H locs 0 0 (vx_MQ below (cQx dC dI ad cid a2 lx (fun v u => ∃ r : Int32, v = some (.int r) ∧ ∃ (sg2 : Nat → Int32) (gm2 : Nat → Nat → Int32) (lg2 : Nat → Nat → Int64), u = (sg2, gm2, lg2) ∧ CI sg2 gm2 ∧ KS [] sg sg2 ∧ KS [3, 55] gm gm2 ∧ KS [] lg lg2 ∧ (iv 0 1 r) ∧ (ADS9 True r x.toNatClampNeg nm.toNatClampNeg k (gm 3) (gm2 3) (gm 55) (gm2 55))) A) (cX dC dI ad cid a2 lx (fun _ _ => False) A) ([eV (ad 7) x, .int nm, .int k] : List Value).toArray s 1 6 A) (F0 m 19 ls []) := by
    intro  hsx0_19 hsx1_19 hsx2_19 hno H locs ls hP hD hS hl
    refine lv_iconst (v := 0) hx hb dX2_addSetter_19 (by decide) ?_
    exact W.nb (fun hN => W.widen (k := 1) (n := 6) (by decide) (by decide) (vx_ret (W.zret (v := 0) hx hb hr (iv_nb (iv_w (iv_k (by decide) : iv 0 0 0) (by decide))) (fun t ht hW => ⟨⟨some (.int 0), (sg, gm, lg), rfl, ⟨0, rfl, sg, gm, lg, rfl, hI, KS_rf, KS_rf, KS_rf, (iv_w (iv_k (by decide) : iv 0 0 0) (by decide)), (Or.inr ⟨rfl, Or.inr hno, (show gm 3 = gm 3 from rfl), (show gm 55 = gm 55 from rfl)⟩)⟩, by rw [ht]; exact hP, va_K.moved hW.alike hK, hD⟩, hS.F ht, by rw [ht]; exact hN⟩) hS.2.2 dX2_addSetter_20)))
  refine ec_aload_n hx hb dX2_addSetter_0 rfl (lv_at hl 0 rfl) ?_
  refine cr_get (t := 7) (j := 6) (C := RX2) (T := TX2) (N := 8) (v := .int (gm 3 x.toNatClampNeg)) hx hb htb inX2 hown hK hP hvx (by decide) (by decide) (by decide) rfl (by decide) (htb _ kw_235) rfl dX2_addSetter_1 ?_
  obtain ⟨z_1, ez_1⟩ : ∃ z : Int32, z = (gm 3 x.toNatClampNeg) := ⟨_, rfl⟩
  refine W.eq (g2 := F0 m 4 ls [.int z_1]) (by rw [ez_1]) ?_
  have hz_1 : iv 0 8 z_1 := iv_of ez_1 (CI_a hI 3 hvx (by decide))
  refine lv_bipush (v := 8) hx hb dX2_addSetter_4 (by decide) ?_
  refine lv_icmp_ge (tgt := 19) hx hb dX2_addSetter_6 (by decide) (fun c_2 => ?_) (fun c_2 => ?_)
  · have h_3 : iv 8 8 z_1 := iv_leR c_2 (iv_k (by decide) : iv 8 8 8) hz_1 (by decide)
    exact hj19 hvx hvnm hvk (Or.inl (by { rw [← ez_1]; have := i32_0; have := i32_1; have := i32_2; have := i32_m1; have := (hvx).1; have := (hvx).2; have := (hvnm).1; have := (hvnm).2; have := (hvk).1; have := (hvk).2; have := (h_3).1; have := (h_3).2; omega })) _ _ _ hP hD hS (lv_sub hl [0, 1, 2] rfl)
  · have h_4 : iv 0 7 z_1 := iv_ltL (i32_lt c_2) hz_1 (iv_k (by decide) : iv 8 8 8) (by decide)
    refine ec_aload_n hx hb dX2_addSetter_9 rfl (lv_at hl 0 rfl) ?_
    refine cr_get (t := 7) (j := 5) (C := RX2) (T := TX2) (N := 8) (v := eV (ad 30) x) hx hb htb inX2 hown hK hP hvx (by decide) (by decide) (by decide) rfl (by decide) (htb _ kw_53) (cV_c rfl (hvx).1 (by rw [show cMu 7 5 = 1 from rfl, Nat.one_mul]; rfl)) dX2_addSetter_10 ?_
    refine lv_iload_n hx hb dX2_addSetter_13 rfl (lv_at hl 1 rfl) ?_
    refine cr_iald (t := 30) (z := (gm 55 (26 * x.toNatClampNeg + (nm : Int32).toNatClampNeg))) hx hb hK hP hvx (by decide) (by decide) (by decide) rfl rfl (show vp_in nm (cLen 30) from (show vp_in nm 26 from (iv_in hvnm (by decide)))) (cAi_w rfl (by decide) rfl (vin_lt (show vp_in nm (cLen 30) from (show vp_in nm 26 from (iv_in hvnm (by decide)))))) dX2_addSetter_14 ?_
    obtain ⟨z_5, ez_5⟩ : ∃ z : Int32, z = (gm 55 (26 * x.toNatClampNeg + (nm : Int32).toNatClampNeg)) := ⟨_, rfl⟩
    refine W.eq (g2 := F0 m 15 ls [.int z_5]) (by rw [ez_5]) ?_
    have hz_5 : iv (-1) 15 z_5 := iv_of ez_5 (CI_n hI 55 (show _ < crLen 55 from vin_w (show vp_in nm (cLen 30) from (show vp_in nm 26 from (iv_in hvnm (by decide)))) (hvx) (by decide)))
    refine lv_iconst (v := (-1)) hx hb dX2_addSetter_15 (by decide) ?_
    refine lv_icmp_eq (tgt := 21) hx hb dX2_addSetter_16 (by decide) (fun c_6 => ?_) (fun c_6 => ?_)
    · have h_7 : iv (-1) (-1) z_5 := iv_eq c_6 hz_5 (iv_k (by decide) : iv (-1) (-1) (-1)) (by decide)
      refine ec_aload_n hx hb dX2_addSetter_21 rfl (lv_at hl 0 rfl) ?_
      refine cr_get (t := 7) (j := 5) (C := RX2) (T := TX2) (N := 8) (v := eV (ad 30) x) hx hb htb inX2 hown hK hP hvx (by decide) (by decide) (by decide) rfl (by decide) (htb _ kw_53) (cV_c rfl (hvx).1 (by rw [show cMu 7 5 = 1 from rfl, Nat.one_mul]; rfl)) dX2_addSetter_22 ?_
      refine lv_iload_n hx hb dX2_addSetter_25 rfl (lv_at hl 1 rfl) ?_
      refine lv_iload_n hx hb dX2_addSetter_26 rfl (lv_at hl 2 rfl) ?_
      refine cr_iast (t := 30) (k := 55) (n9 := (26 * x.toNatClampNeg + (nm : Int32).toNatClampNeg)) (z := k) hx hb hK hP hD hS hvx (by decide) (by decide) (by decide) rfl rfl rfl (show vp_in nm (cLen 30) from (show vp_in nm 26 from (iv_in hvnm (by decide)))) (Or.inr (vin_lt (show vp_in nm (cLen 30) from (show vp_in nm 26 from (iv_in hvnm (by decide)))))) rfl dX2_addSetter_27 (fun gm_8 H locs egm_8 hP hD hS => ?_)
      have hI_gm_8 := CI_st hI egm_8 hvk (by decide)
      refine ec_aload_n hx hb dX2_addSetter_28 rfl (lv_at hl 0 rfl) ?_
      refine lv_dup hx hb dX2_addSetter_29 (eV_cat _ _) ?_
      refine cr_get (t := 7) (j := 6) (C := RX2) (T := TX2) (N := 8) (v := .int (gm_8 3 x.toNatClampNeg)) hx hb htb inX2 hown hK hP hvx (by decide) (by decide) (by decide) rfl (by decide) (htb _ kw_235) rfl dX2_addSetter_30 ?_
      refine W.eq (g2 := F0 m 33 ls [.int z_1, eV (ad 7) x]) (by rw [show (gm_8 3 x.toNatClampNeg) = z_1 from (Eq.trans (congrFun (up_ne egm_8 (by decide)) _) ez_1.symm)]) ?_
      refine lv_iconst (v := 1) hx hb dX2_addSetter_33 (by decide) ?_
      refine lv_iadd hx hb dX2_addSetter_34 ?_
      refine lv_topi (fun z_9 ez_9 => ?_)
      have hz_9 : iv 1 8 z_9 := iv_of ez_9 (iv_add h_4 (iv_k (by decide) : iv 1 1 1) (by decide))
      have tz_9 : z_9.toInt = (z_1 : Int32).toInt + 1 := by rw [ez_9]; exact iv_addE h_4 (iv_k (by decide) : iv 1 1 1) (by decide)
      refine cr_putg (t := 7) (j := 6) (C := RX2) (T := TX2) (N := 8) (ty0 := tyX2) (k := 3) (y := z_9) hx hb htb inX2 tyX2_ok nmX2 hown hK hP hD hS hvx (by decide) (by decide) (by decide) (by decide) rfl rfl (by decide) (htb _ kw_235) rfl (by show Value.int z_9 = Value.int (va_up gm_8 3 (upd (gm_8 3) x.toNatClampNeg z_9) 3 x.toNatClampNeg); rw [va_up_self, upd_at]) rfl rfl dX2_addSetter_35 (fun gm_10 H locs egm_10 hP hD hS => ?_)
      have hI_gm_10 := CI_st hI_gm_8 egm_10 hz_9 (by decide)
      refine lv_iconst (v := 1) hx hb dX2_addSetter_38 (by decide) ?_
      exact W.nb (fun hN => W.widen (k := 1) (n := 6) (by decide) (by decide) (vx_ret (W.zret (v := 1) hx hb hr (iv_nb (iv_w (iv_k (by decide) : iv 1 1 1) (by decide))) (fun t ht hW => ⟨⟨some (.int 1), (sg, gm_10, lg), rfl, ⟨1, rfl, sg, gm_10, lg, rfl, hI_gm_10, KS_rf, (KS_up (KS_up KS_rf egm_8 (by decide)) egm_10 (by decide)), KS_rf, (iv_w (iv_k (by decide) : iv 1 1 1) (by decide)), (Or.inl ⟨rfl, trivial, (by { rw [← ez_1]; have := i32_0; have := i32_1; have := i32_2; have := i32_m1; have := (hvx).1; have := (hvx).2; have := (hvnm).1; have := (hvnm).2; have := (hvk).1; have := (hvk).2; have := (h_4).1; have := (h_4).2; have := (h_7).1; have := (h_7).2; have := (hz_9).1; have := (hz_9).2; omega }), (by rw [← ez_5]; exact c_6), ⟨_, (by { rw [← ez_1]; have := i32_0; have := i32_1; have := i32_2; have := i32_m1; have := (hvx).1; have := (hvx).2; have := (hvnm).1; have := (hvnm).2; have := (hvk).1; have := (hvk).2; have := (h_4).1; have := (h_4).2; have := (h_7).1; have := (h_7).2; have := (hz_9).1; have := (hz_9).2; omega }), (show gm_10 3 = upd (gm 3) (x : Int32).toNatClampNeg z_9 from ((up_at egm_10).trans (by rw [show gm_8 3 = gm 3 from ((up_ne egm_8 (by decide)).trans rfl)])))⟩, (show gm_10 55 = upd (gm 55) (26 * x.toNatClampNeg + nm.toNatClampNeg) k from (up_ne egm_10 (by decide)).trans (up_at egm_8))⟩)⟩, by rw [ht]; exact hP, va_K.moved hW.alike hK, hD⟩, hS.F ht, by rw [ht]; exact hN⟩) hS.2.2 dX2_addSetter_39)))
    · have h_11 : iv 0 15 z_5 := iv_neL c_6 hz_5 (by decide)
      exact hj19 hvx hvnm hvk (Or.inr (by rw [← ez_5]; exact c_6)) _ _ _ hP hD hS (lv_sub hl [0, 1, 2] rfl)

set_option maxHeartbeats 4000000 in
set_option maxRecDepth 100000 in
theorem d_beginDc9 (l : Launch) (dC : Nat → ClassId) (dI : Nat → Nat → Nat) (ad : Nat → Nat → Nat) (cid : Nat → ClassId) (a2 : Nat → Nat) (lx : List Nat) (sg : Nat → Int32) (gm : Nat → Nat → Int32) (lg : Nat → Nat → Int64) (x : Int32) (a : Int32) (hI : CI sg gm) (hvx : iv 0 7 x) (hva : iv (-1) 7 a) : CMt dC dI ad cid a2 lx l yX2_begin wm_X2_begin ({ frames := 0, cells := 1, slots := 6, locals := 0 }) [eV (ad 7) x, eV (ad 7) a] sg gm lg (fun v u => v = none ∧ ∃ (sg2 : Nat → Int32) (gm2 : Nat → Nat → Int32) (lg2 : Nat → Nat → Int64), u = (sg2, gm2, lg2) ∧ CI sg2 gm2 ∧ KS [] sg sg2 ∧ KS [0, 1, 3, 4, 55] gm gm2 ∧ KS [] lg lg2 ∧ (gm2 0 = upd (gm 0) x.toNatClampNeg 0) ∧ (gm2 1 = upd (gm 1) x.toNatClampNeg 0) ∧ (gm2 3 = upd (gm 3) x.toNatClampNeg 0) ∧ (BLK (gm 55) (gm2 55) x.toNatClampNeg 26) ∧ (gm2 4 = upd (gm 4) x.toNatClampNeg a)) (fun _ _ => False) := by
  intro sz
  refine vx_ofW (cc := cX2_begin) (maxL := 3) (ret := none) (by decide) rfl ?_
  intro p e s m args below meth c s₁ B hml hxt hv
  obtain ⟨rfl, hsz, hP, hK, hD0, hG⟩ := hv
  have hx := B.exec
  have hb := B.bytes
  have hr := B.returns
  have hts := atoms_spec (ws := wm_X2_begin) B.pre
  have htb := fun (w : Cond) (h : w ∈ tb) => hts w (List.mem_cons_of_mem _ h)
  have hown : s.vm.findClass RX2 = some m.cls := findClass_of_methodNamed B.named
  have hlocks := B.notSynchronized
  subst hsz
  have hD := hD0.self (sz := s.heap.size)
  generalize hAe : va_A (cW ad cid a2 lx sg gm lg) s.heap.size = A at hD hG ⊢
  have hA : ∀ q : Nat, s.heap.size ≤ q → A q := fun q h => by rw [← hAe]; exact Or.inr h
  have hS : va_S A s.heap s.heap [] := va_S.rf
  have hl := lv_entry ([eV (ad 7) x, eV (ad 7) a]) (n := 3) (by rw [show (lg_sl ([eV (ad 7) x, eV (ad 7) a])).length = 2 from by simp [lg_sl, eV_cat, cat_i, cat_l]]; exact Nat.le_of_ble_eq_true rfl)
  rw [lg_entry_eq]
  generalize (lg_sl ([eV (ad 7) x, eV (ad 7) a]) ++ List.replicate (3 - (lg_sl ([eV (ad 7) x, eV (ad 7) a])).length) Slot.unset).toArray = ls at hl ⊢
  have hl : lv_has ls 3 [(0, eV (ad 7) x), (1, eV (ad 7) a)] := by simp [lv_args, eV_cat, cat_i, cat_l] at hl; exact hl
  have hj22 : ∀ (n : Nat) (gm_j22 : Nat → Nat → Int32) (x2_22 : Int32) (_ : (26 - x2_22.toInt).toNat = n) (_ : iv 0 26 x2_22) (_ : iv 0 7 x) (_ : iv (-1) 7 a) (_ : KS [0, 1, 3, 4, 55] gm gm_j22) (_ : CI sg gm_j22) (_ : gm_j22 0 = upd (gm 0) x.toNatClampNeg 0) (_ : gm_j22 1 = upd (gm 1) x.toNatClampNeg 0) (_ : gm_j22 3 = upd (gm 3) x.toNatClampNeg 0) (_ : BLK (gm 55) (gm_j22 55) x.toNatClampNeg x2_22.toNatClampNeg) (_ : gm_j22 4 = upd (gm 4) x.toNatClampNeg a) (H : Heap) (locs : List Loc) (ls : Array Slot), va_P (dC, dI) vwCl (cW ad cid a2 lx sg gm_j22 lg) H → va_D A (cW ad cid a2 lx sg gm_j22 lg) → va_S A s.heap H locs → lv_has ls 3 [(2, .int x2_22), (0, eV (ad 7) x), (1, eV (ad 7) a)] → W p l e (headSpec wm_X2_begin ({ frames := 0, cells := 1, slots := 6, locals := 0 })).room s m ([eV (ad 7) x, eV (ad 7) a] : List Value).toArray below meth c H locs 0 0 (vx_MQ below (cQx dC dI ad cid a2 lx (fun v u => v = none ∧ ∃ (sg2 : Nat → Int32) (gm2 : Nat → Nat → Int32) (lg2 : Nat → Nat → Int64), u = (sg2, gm2, lg2) ∧ CI sg2 gm2 ∧ KS [] sg sg2 ∧ KS [0, 1, 3, 4, 55] gm gm2 ∧ KS [] lg lg2 ∧ (gm2 0 = upd (gm 0) x.toNatClampNeg 0) ∧ (gm2 1 = upd (gm 1) x.toNatClampNeg 0) ∧ (gm2 3 = upd (gm 3) x.toNatClampNeg 0) ∧ (BLK (gm 55) (gm2 55) x.toNatClampNeg 26) ∧ (gm2 4 = upd (gm 4) x.toNatClampNeg a)) A) (cX dC dI ad cid a2 lx (fun _ _ => False) A) ([eV (ad 7) x, eV (ad 7) a] : List Value).toArray s 1 6 A) (F0 m 22 ls []) := by
    intro n
    induction n using Nat.strongRecOn with
    | ind n ih22 =>
      intro gm_j22 x2_22 hn22 hx2_22 hsx0_22 hsx1_22 hkg_j22 hI_j22 h0 h1 h3 hB h4 H locs ls hP hD hS hl
      refine lv_iload_n hx hb dX2_begin_22 rfl (lv_at hl 0 rfl) ?_
      refine lv_bipush (v := 26) hx hb dX2_begin_23 (by decide) ?_
      refine lv_icmp_ge (tgt := 41) hx hb dX2_begin_25 (by decide) (fun c_1 => ?_) (fun c_1 => ?_)
      · have h_2 : iv 26 26 x2_22 := iv_leR c_1 (iv_k (by decide) : iv 26 26 26) hx2_22 (by decide)
        exact W.nb (fun hN => W.widen (k := 1) (n := 6) (by decide) (by decide) (vx_ret (W.vret hx hb hr (fun t ht hW => ⟨⟨none, (sg, gm_j22, lg), rfl, ⟨rfl, sg, gm_j22, lg, rfl, hI_j22, KS_rf, (KS_tr (L := [0, 1, 3, 4, 55]) KS_rf hkg_j22 (by decide)), KS_rf, ((show gm_j22 0 = gm_j22 0 from rfl).trans h0), ((show gm_j22 1 = gm_j22 1 from rfl).trans h1), ((show gm_j22 3 = gm_j22 3 from rfl).trans h3), ((by { have k1 : x2_22.toNatClampNeg = x2_22.toInt.toNat := rfl; have e9 : x2_22.toNatClampNeg = 26 := (by { have := i32_0; have := i32_1; have := i32_2; have := i32_m1; have := (hsx0_22).1; have := (hsx0_22).2; have := (hsx1_22).1; have := (hsx1_22).2; have := (h_2).1; have := (h_2).2; omega }); rw [← e9]; exact hB })), ((show gm_j22 4 = gm_j22 4 from rfl).trans h4)⟩, by rw [ht]; exact hP, va_K.moved hW.alike hK, hD⟩, hS.F ht, by rw [ht]; exact hN⟩) hS.2.2 dX2_begin_41)))
      · have h_3 : iv 0 25 x2_22 := iv_ltL (i32_lt c_1) hx2_22 (iv_k (by decide) : iv 26 26 26) (by decide)
        refine ec_aload_n hx hb dX2_begin_28 rfl (lv_at hl 1 rfl) ?_
        refine cr_get (t := 7) (j := 5) (C := RX2) (T := TX2) (N := 8) (v := eV (ad 30) x) hx hb htb inX2 hown hK hP hsx0_22 (by decide) (by decide) (by decide) rfl (by decide) (htb _ kw_53) (cV_c rfl (hsx0_22).1 (by rw [show cMu 7 5 = 1 from rfl, Nat.one_mul]; rfl)) dX2_begin_29 ?_
        refine lv_iload_n hx hb dX2_begin_32 rfl (lv_at hl 0 rfl) ?_
        refine lv_iconst (v := (-1)) hx hb dX2_begin_33 (by decide) ?_
        refine cr_iast (t := 30) (k := 55) (n9 := (26 * x.toNatClampNeg + (x2_22 : Int32).toNatClampNeg)) (z := (-1)) hx hb hK hP hD hS hsx0_22 (by decide) (by decide) (by decide) rfl rfl rfl (show vp_in x2_22 (cLen 30) from (show vp_in x2_22 26 from (iv_in h_3 (by decide)))) (Or.inr (vin_lt (show vp_in x2_22 (cLen 30) from (show vp_in x2_22 26 from (iv_in h_3 (by decide)))))) rfl dX2_begin_34 (fun gm_4 H locs egm_4 hP hD hS => ?_)
        have hI_gm_4 := CI_st hI_j22 egm_4 (iv_k (by decide) : iv (-1) (-1) (-1)) (by decide)
        obtain ⟨z_5, ez_5⟩ : ∃ z : Int32, z = x2_22 + 1 := ⟨_, rfl⟩
        have hz_5 : iv 1 26 z_5 := iv_of ez_5 (iv_add h_3 (iv_k (by decide) : iv 1 1 1) (by decide))
        have tz_5 : z_5.toInt = x2_22.toInt + 1 := by rw [ez_5]; exact iv_addE h_3 (iv_k (by decide) : iv 1 1 1) (by decide)
        refine lv_iinc (v := z_5) (lv' := [(2, .int z_5), (0, eV (ad 7) x), (1, eV (ad 7) a)]) hx hb dX2_begin_35 hl (k := 0) rfl ez_5.symm (by decide) (by simp [List.filter, eV_cat, cat_i, cat_l]) (fun ls hl => ?_)
        refine lv_goto (tgt := 22) hx hb dX2_begin_38 (by decide) ?_
        exact ih22 _ (by rw [← hn22]; exact (iv_meas tz_5 h_3 (by decide))) gm_4 z_5 rfl (iv_w hz_5 (by decide)) hsx0_22 hsx1_22 (KS_up (KS_tr (L := [0, 1, 3, 4, 55]) KS_rf hkg_j22 (by decide)) egm_4 (by decide)) hI_gm_4 ((show gm_4 0 = gm_j22 0 from ((up_ne egm_4 (by decide)).trans rfl)).trans h0) ((show gm_4 1 = gm_j22 1 from ((up_ne egm_4 (by decide)).trans rfl)).trans h1) ((show gm_4 3 = gm_j22 3 from ((up_ne egm_4 (by decide)).trans rfl)).trans h3) (BLK_s hB (up_at egm_4) (by { have k1 : x2_22.toNatClampNeg = x2_22.toInt.toNat := rfl; have := i32_0; have := i32_1; have := i32_2; have := i32_m1; have := (hsx0_22).1; have := (hsx0_22).2; have := (hsx1_22).1; have := (hsx1_22).2; have := (h_3).1; have := (h_3).2; have := (hz_5).1; have := (hz_5).2; omega }) (by { have k1 : x2_22.toNatClampNeg = x2_22.toInt.toNat := rfl; have k2 : z_5.toNatClampNeg = z_5.toInt.toNat := rfl; have := i32_0; have := i32_1; have := i32_2; have := i32_m1; have := (hsx0_22).1; have := (hsx0_22).2; have := (hsx1_22).1; have := (hsx1_22).2; have := (h_3).1; have := (h_3).2; have := (hz_5).1; have := (hz_5).2; omega })) ((show gm_4 4 = gm_j22 4 from ((up_ne egm_4 (by decide)).trans rfl)).trans h4) _ _ _ hP hD hS (lv_sub hl [0, 1, 2] rfl)
  refine ec_aload_n hx hb dX2_begin_0 rfl (lv_at hl 0 rfl) ?_
  refine ec_aload_n hx hb dX2_begin_1 rfl (lv_at hl 1 rfl) ?_
  refine cr_putg (t := 7) (j := 7) (C := RX2) (T := TX2) (N := 8) (ty0 := tyX2) (k := 4) (y := a) hx hb htb inX2 tyX2_ok nmX2 hown hK hP hD hS hvx (by decide) (by decide) (by decide) (by decide) rfl rfl (by decide) (htb _ kw_232) rfl (by show eV (ad 7) a = eV (ad 7) (va_up gm 4 (upd (gm 4) x.toNatClampNeg a) 4 x.toNatClampNeg); rw [va_up_self, upd_at]) (ev_n _) (ev_f _) dX2_begin_2 (fun gm_6 H locs egm_6 hP hD hS => ?_)
  have hI_gm_6 := CI_st hI egm_6 hva (by decide)
  refine ec_aload_n hx hb dX2_begin_5 rfl (lv_at hl 0 rfl) ?_
  refine lv_iconst (v := 0) hx hb dX2_begin_6 (by decide) ?_
  refine cr_putg (t := 7) (j := 2) (C := RX2) (T := TX2) (N := 8) (ty0 := tyX2) (k := 0) (y := 0) hx hb htb inX2 tyX2_ok nmX2 hown hK hP hD hS hvx (by decide) (by decide) (by decide) (by decide) rfl rfl (by decide) (htb _ kw_233) rfl (by show Value.int 0 = Value.int (va_up gm_6 0 (upd (gm_6 0) x.toNatClampNeg 0) 0 x.toNatClampNeg); rw [va_up_self, upd_at]) rfl rfl dX2_begin_7 (fun gm_7 H locs egm_7 hP hD hS => ?_)
  have hI_gm_7 := CI_st hI_gm_6 egm_7 (iv_k (by decide) : iv 0 0 0) (by decide)
  refine ec_aload_n hx hb dX2_begin_10 rfl (lv_at hl 0 rfl) ?_
  refine lv_iconst (v := 0) hx hb dX2_begin_11 (by decide) ?_
  refine cr_putg (t := 7) (j := 3) (C := RX2) (T := TX2) (N := 8) (ty0 := tyX2) (k := 1) (y := 0) hx hb htb inX2 tyX2_ok nmX2 hown hK hP hD hS hvx (by decide) (by decide) (by decide) (by decide) rfl rfl (by decide) (htb _ kw_234) rfl (by show Value.int 0 = Value.int (va_up gm_7 1 (upd (gm_7 1) x.toNatClampNeg 0) 1 x.toNatClampNeg); rw [va_up_self, upd_at]) rfl rfl dX2_begin_12 (fun gm_8 H locs egm_8 hP hD hS => ?_)
  have hI_gm_8 := CI_st hI_gm_7 egm_8 (iv_k (by decide) : iv 0 0 0) (by decide)
  refine ec_aload_n hx hb dX2_begin_15 rfl (lv_at hl 0 rfl) ?_
  refine lv_iconst (v := 0) hx hb dX2_begin_16 (by decide) ?_
  refine cr_putg (t := 7) (j := 6) (C := RX2) (T := TX2) (N := 8) (ty0 := tyX2) (k := 3) (y := 0) hx hb htb inX2 tyX2_ok nmX2 hown hK hP hD hS hvx (by decide) (by decide) (by decide) (by decide) rfl rfl (by decide) (htb _ kw_235) rfl (by show Value.int 0 = Value.int (va_up gm_8 3 (upd (gm_8 3) x.toNatClampNeg 0) 3 x.toNatClampNeg); rw [va_up_self, upd_at]) rfl rfl dX2_begin_17 (fun gm_9 H locs egm_9 hP hD hS => ?_)
  have hI_gm_9 := CI_st hI_gm_8 egm_9 (iv_k (by decide) : iv 0 0 0) (by decide)
  refine lv_iconst (v := 0) hx hb dX2_begin_20 (by decide) ?_
  refine lv_istore_n (i := 2) (lv' := [(2, .int 0), (0, eV (ad 7) x), (1, eV (ad 7) a)]) hx hb dX2_begin_21 rfl hl (by decide) (by simp [List.filter, eV_cat, cat_i, cat_l]) (fun ls hl => ?_)
  exact hj22 _ gm_9 0 rfl (iv_w (iv_k (by decide) : iv 0 0 0) (by decide)) hvx hva (KS_up (KS_up (KS_up (KS_up KS_rf egm_6 (by decide)) egm_7 (by decide)) egm_8 (by decide)) egm_9 (by decide)) hI_gm_9 ((show gm_9 0 = upd (gm 0) (x : Int32).toNatClampNeg 0 from ((up_ne egm_9 (by decide)).trans ((up_ne egm_8 (by decide)).trans ((up_at egm_7).trans (by rw [show gm_6 0 = gm 0 from ((up_ne egm_6 (by decide)).trans rfl)])))))) ((show gm_9 1 = upd (gm 1) (x : Int32).toNatClampNeg 0 from ((up_ne egm_9 (by decide)).trans ((up_at egm_8).trans (by rw [show gm_7 1 = gm 1 from ((up_ne egm_7 (by decide)).trans ((up_ne egm_6 (by decide)).trans rfl))]))))) ((show gm_9 3 = upd (gm 3) (x : Int32).toNatClampNeg 0 from ((up_at egm_9).trans (by rw [show gm_8 3 = gm 3 from ((up_ne egm_8 (by decide)).trans ((up_ne egm_7 (by decide)).trans ((up_ne egm_6 (by decide)).trans rfl)))])))) (BLK_0 (show gm_9 55 = gm 55 from ((up_ne egm_9 (by decide)).trans ((up_ne egm_8 (by decide)).trans ((up_ne egm_7 (by decide)).trans ((up_ne egm_6 (by decide)).trans rfl))))) (by decide)) ((show gm_9 4 = upd (gm 4) (x : Int32).toNatClampNeg a from ((up_ne egm_9 (by decide)).trans ((up_ne egm_8 (by decide)).trans ((up_ne egm_7 (by decide)).trans ((up_at egm_6).trans (by rw [show gm 4 = gm 4 from rfl]))))))) _ _ _ hP hD hS (lv_sub hl [0, 1, 2] rfl)
end
section
set_option maxHeartbeats 4000000 in
set_option maxRecDepth 100000 in
theorem d_declare9 (l : Launch) (dC : Nat → ClassId) (dI : Nat → Nat → Nat) (ad : Nat → Nat → Nat) (cid : Nat → ClassId) (a2 : Nat → Nat) (lx : List Nat) (sg : Nat → Int32) (gm : Nat → Nat → Int32) (lg : Nat → Nat → Int64) (x : Int32) (ca : Int32) (pa : Int32) (hI : CI sg gm) (hvx : iv 0 0 x) : CMt dC dI ad cid a2 lx l yX12_declare wm_X12_declare ({ frames := 1, cells := 1, slots := 6, locals := 22 }) [eV (ad 0) x, .int ca, .int pa] sg gm lg (fun v u => ∃ r : Int32, v = some (.int r) ∧ ∃ (sg2 : Nat → Int32) (gm2 : Nat → Nat → Int32) (lg2 : Nat → Nat → Int64), u = (sg2, gm2, lg2) ∧ CI sg2 gm2 ∧ KS [] sg sg2 ∧ KS [0, 1, 3, 4, 55] gm gm2 ∧ KS [] lg lg2 ∧ (iv 0 1 r) ∧ (r.toInt = 1 ∧ (0 ≤ ca.toInt ∧ ca.toInt ≤ 7 ∧ -1 ≤ pa.toInt ∧ pa.toInt < ca.toInt) ∨ r.toInt = 0 ∧ ¬ (0 ≤ ca.toInt ∧ ca.toInt ≤ 7 ∧ -1 ≤ pa.toInt ∧ pa.toInt < ca.toInt)) ∧ (DEC9 (0 ≤ ca.toInt ∧ ca.toInt ≤ 7 ∧ -1 ≤ pa.toInt ∧ pa.toInt < ca.toInt) r ca.toNatClampNeg (gm 0) (gm2 0)) ∧ (DEC9 (0 ≤ ca.toInt ∧ ca.toInt ≤ 7 ∧ -1 ≤ pa.toInt ∧ pa.toInt < ca.toInt) r ca.toNatClampNeg (gm 1) (gm2 1)) ∧ (DEC9 (0 ≤ ca.toInt ∧ ca.toInt ≤ 7 ∧ -1 ≤ pa.toInt ∧ pa.toInt < ca.toInt) r ca.toNatClampNeg (gm 3) (gm2 3)) ∧ (DECB (0 ≤ ca.toInt ∧ ca.toInt ≤ 7 ∧ -1 ≤ pa.toInt ∧ pa.toInt < ca.toInt) r ca.toNatClampNeg (gm 55) (gm2 55)) ∧ (DEP9 (0 ≤ ca.toInt ∧ ca.toInt ≤ 7 ∧ -1 ≤ pa.toInt ∧ pa.toInt < ca.toInt) r ca.toNatClampNeg pa (gm 4) (gm2 4))) (fun _ _ => False) := by
  intro sz
  refine vx_ofW (cc := cX12_declare) (maxL := 3) (ret := (some .boolean)) (by decide) rfl ?_
  intro p e s m args below meth c s₁ B hml hxt hv
  obtain ⟨rfl, hsz, hP, hK, hD0, hG⟩ := hv
  have hx := B.exec
  have hb := B.bytes
  have hr := B.returns
  have hts := atoms_spec (ws := wm_X12_declare) B.pre
  have htb := fun (w : Cond) (h : w ∈ tb) => hts w (List.mem_cons_of_mem _ h)
  have hown : s.vm.findClass RX12 = some m.cls := findClass_of_methodNamed B.named
  have hlocks := B.notSynchronized
  subst hsz
  have hD := hD0.self (sz := s.heap.size)
  generalize hAe : va_A (cW ad cid a2 lx sg gm lg) s.heap.size = A at hD hG ⊢
  have hA : ∀ q : Nat, s.heap.size ≤ q → A q := fun q h => by rw [← hAe]; exact Or.inr h
  have hS : va_S A s.heap s.heap [] := va_S.rf
  have hl := lv_entry ([eV (ad 0) x, .int ca, .int pa]) (n := 3) (by rw [show (lg_sl ([eV (ad 0) x, .int ca, .int pa])).length = 3 from by simp [lg_sl, eV_cat, cat_i, cat_l]]; exact Nat.le_of_ble_eq_true rfl)
  rw [lg_entry_eq]
  generalize (lg_sl ([eV (ad 0) x, .int ca, .int pa]) ++ List.replicate (3 - (lg_sl ([eV (ad 0) x, .int ca, .int pa])).length) Slot.unset).toArray = ls at hl ⊢
  have hl : lv_has ls 3 [(0, eV (ad 0) x), (1, .int ca), (2, .int pa)] := by simp [lv_args, eV_cat, cat_i, cat_l] at hl; exact hl
  have hj17 : ∀ (_ : iv 0 0 x) (_ : ¬ (0 ≤ ca.toInt ∧ ca.toInt ≤ 7 ∧ -1 ≤ pa.toInt ∧ pa.toInt < ca.toInt)) (H : Heap) (locs : List Loc) (ls : Array Slot), va_P (dC, dI) vwCl (cW ad cid a2 lx sg gm lg) H → va_D A (cW ad cid a2 lx sg gm lg) → va_S A s.heap H locs → lv_has ls 3 [(0, eV (ad 0) x), (1, .int ca), (2, .int pa)] → W p l e (headSpec wm_X12_declare ({ frames := 1, cells := 1, slots := 6, locals := 22 })).room s m ([eV (ad 0) x, .int ca, .int pa] : List Value).toArray below meth c H locs 0 0 (vx_MQ below (cQx dC dI ad cid a2 lx (fun v u => ∃ r : Int32, v = some (.int r) ∧ ∃ (sg2 : Nat → Int32) (gm2 : Nat → Nat → Int32) (lg2 : Nat → Nat → Int64), u = (sg2, gm2, lg2) ∧ CI sg2 gm2 ∧ KS [] sg sg2 ∧ KS [0, 1, 3, 4, 55] gm gm2 ∧ KS [] lg lg2 ∧ (iv 0 1 r) ∧ (r.toInt = 1 ∧ (0 ≤ ca.toInt ∧ ca.toInt ≤ 7 ∧ -1 ≤ pa.toInt ∧ pa.toInt < ca.toInt) ∨ r.toInt = 0 ∧ ¬ (0 ≤ ca.toInt ∧ ca.toInt ≤ 7 ∧ -1 ≤ pa.toInt ∧ pa.toInt < ca.toInt)) ∧ (DEC9 (0 ≤ ca.toInt ∧ ca.toInt ≤ 7 ∧ -1 ≤ pa.toInt ∧ pa.toInt < ca.toInt) r ca.toNatClampNeg (gm 0) (gm2 0)) ∧ (DEC9 (0 ≤ ca.toInt ∧ ca.toInt ≤ 7 ∧ -1 ≤ pa.toInt ∧ pa.toInt < ca.toInt) r ca.toNatClampNeg (gm 1) (gm2 1)) ∧ (DEC9 (0 ≤ ca.toInt ∧ ca.toInt ≤ 7 ∧ -1 ≤ pa.toInt ∧ pa.toInt < ca.toInt) r ca.toNatClampNeg (gm 3) (gm2 3)) ∧ (DECB (0 ≤ ca.toInt ∧ ca.toInt ≤ 7 ∧ -1 ≤ pa.toInt ∧ pa.toInt < ca.toInt) r ca.toNatClampNeg (gm 55) (gm2 55)) ∧ (DEP9 (0 ≤ ca.toInt ∧ ca.toInt ≤ 7 ∧ -1 ≤ pa.toInt ∧ pa.toInt < ca.toInt) r ca.toNatClampNeg pa (gm 4) (gm2 4))) A) (cX dC dI ad cid a2 lx (fun _ _ => False) A) ([eV (ad 0) x, .int ca, .int pa] : List Value).toArray s 1 6 A) (F0 m 17 ls []) := by
    intro  hsx0_17 hno H locs ls hP hD hS hl
    refine lv_iconst (v := 0) hx hb dX12_declare_17 (by decide) ?_
    exact W.nb (fun hN => W.widen (k := 1) (n := 6) (by decide) (by decide) (vx_ret (W.zret (v := 0) hx hb hr (iv_nb (iv_w (iv_k (by decide) : iv 0 0 0) (by decide))) (fun t ht hW => ⟨⟨some (.int 0), (sg, gm, lg), rfl, ⟨0, rfl, sg, gm, lg, rfl, hI, KS_rf, KS_rf, KS_rf, (iv_w (iv_k (by decide) : iv 0 0 0) (by decide)), (Or.inr ⟨rfl, hno⟩), (Or.inr ⟨rfl, hno, (show gm 0 = gm 0 from rfl)⟩), (Or.inr ⟨rfl, hno, (show gm 1 = gm 1 from rfl)⟩), (Or.inr ⟨rfl, hno, (show gm 3 = gm 3 from rfl)⟩), (Or.inr ⟨rfl, hno, (show gm 55 = gm 55 from rfl)⟩), (Or.inr ⟨rfl, hno, (show gm 4 = gm 4 from rfl)⟩)⟩, by rw [ht]; exact hP, va_K.moved hW.alike hK, hD⟩, hS.F ht, by rw [ht]; exact hN⟩) hS.2.2 dX12_declare_18)))
  have hj40 : ∀ (y0_40 : Int32) (_ : iv 0 0 x) (_ : iv 0 7 ca) (_ : iv (-1) 7 pa) (_ : iv (-1) 7 y0_40) (_ : iv 0 7 ca) (_ : 0 ≤ ca.toInt ∧ ca.toInt ≤ 7 ∧ -1 ≤ pa.toInt ∧ pa.toInt < ca.toInt) (_ : y0_40.toInt = pa.toInt) (H : Heap) (locs : List Loc) (ls : Array Slot), va_P (dC, dI) vwCl (cW ad cid a2 lx sg gm lg) H → va_D A (cW ad cid a2 lx sg gm lg) → va_S A s.heap H locs → lv_has ls 3 [(0, eV (ad 0) x), (1, .int ca), (2, .int pa)] → W p l e (headSpec wm_X12_declare ({ frames := 1, cells := 1, slots := 6, locals := 22 })).room s m ([eV (ad 0) x, .int ca, .int pa] : List Value).toArray below meth c H locs 0 0 (vx_MQ below (cQx dC dI ad cid a2 lx (fun v u => ∃ r : Int32, v = some (.int r) ∧ ∃ (sg2 : Nat → Int32) (gm2 : Nat → Nat → Int32) (lg2 : Nat → Nat → Int64), u = (sg2, gm2, lg2) ∧ CI sg2 gm2 ∧ KS [] sg sg2 ∧ KS [0, 1, 3, 4, 55] gm gm2 ∧ KS [] lg lg2 ∧ (iv 0 1 r) ∧ (r.toInt = 1 ∧ (0 ≤ ca.toInt ∧ ca.toInt ≤ 7 ∧ -1 ≤ pa.toInt ∧ pa.toInt < ca.toInt) ∨ r.toInt = 0 ∧ ¬ (0 ≤ ca.toInt ∧ ca.toInt ≤ 7 ∧ -1 ≤ pa.toInt ∧ pa.toInt < ca.toInt)) ∧ (DEC9 (0 ≤ ca.toInt ∧ ca.toInt ≤ 7 ∧ -1 ≤ pa.toInt ∧ pa.toInt < ca.toInt) r ca.toNatClampNeg (gm 0) (gm2 0)) ∧ (DEC9 (0 ≤ ca.toInt ∧ ca.toInt ≤ 7 ∧ -1 ≤ pa.toInt ∧ pa.toInt < ca.toInt) r ca.toNatClampNeg (gm 1) (gm2 1)) ∧ (DEC9 (0 ≤ ca.toInt ∧ ca.toInt ≤ 7 ∧ -1 ≤ pa.toInt ∧ pa.toInt < ca.toInt) r ca.toNatClampNeg (gm 3) (gm2 3)) ∧ (DECB (0 ≤ ca.toInt ∧ ca.toInt ≤ 7 ∧ -1 ≤ pa.toInt ∧ pa.toInt < ca.toInt) r ca.toNatClampNeg (gm 55) (gm2 55)) ∧ (DEP9 (0 ≤ ca.toInt ∧ ca.toInt ≤ 7 ∧ -1 ≤ pa.toInt ∧ pa.toInt < ca.toInt) r ca.toNatClampNeg pa (gm 4) (gm2 4))) A) (cX dC dI ad cid a2 lx (fun _ _ => False) A) ([eV (ad 0) x, .int ca, .int pa] : List Value).toArray s 1 6 A) (F0 m 40 ls [eV (ad 7) y0_40, eV (ad 7) ca]) := by
    intro y0_40 hsx0_40 hsx1_40 hsx2_40 hy0_40 hsy1_40 hyes hpa H locs ls hP hD hS hl
    refine cm_callV (t := 7) (C := RX2) (T := TX2) (N := 8) (rest := []) (as := [eV (ad 7) y0_40]) ⟨hx, hb, hml, hown, htb⟩ (d_beginDc9 l dC dI ad cid a2 lx sg gm lg ca y0_40 hI hsy1_40 hy0_40) (cwV 1 htb (gd_V kw_229 kw_230 kw_231 kw_15 kw_1386) rfl rfl rfl (by decide +kernel) ⟨Nat.le_of_ble_eq_true rfl, Nat.le_of_ble_eq_true rfl⟩) hsy1_40 (by decide) (by decide) rfl rfl hl.1 rfl (Nat.le_trans cs_n (by decide)) dX12_declare_40 ⟨Nat.le_of_ble_eq_true rfl, Nat.le_of_ble_eq_true rfl⟩ hK hP hD hS hA hG (fun E ce q9 u_2 H locs hw hP hD hS hce hcv hcl => ?_) (fun v9 u_2 H locs hw hP hD hS => ?_)
    · exact hw.elim
    obtain ⟨rfl, sgv_3, gmv_3, lgv_3, rfl, hIv_3, ksv_3, kgv_3, klv_3, f0_r_1, f1_r_1, f3_r_1, fB_r_1, f4_r_1⟩ := hw
    obtain rfl := KS_nil ksv_3
    obtain rfl := KS_nil klv_3
    have hP : va_P (dC, dI) vwCl (cW ad cid a2 lx sg gmv_3 lg) H := hP
    have hD : va_D A (cW ad cid a2 lx sg gmv_3 lg) := hD
    refine W.eq (g2 := F0 m 43 ls []) rfl ?_
    refine lv_iconst (v := 1) hx hb dX12_declare_43 (by decide) ?_
    exact W.nb (fun hN => W.widen (k := 1) (n := 6) (by decide) (by decide) (vx_ret (W.zret (v := 1) hx hb hr (iv_nb (iv_w (iv_k (by decide) : iv 1 1 1) (by decide))) (fun t ht hW => ⟨⟨some (.int 1), (sg, gmv_3, lg), rfl, ⟨1, rfl, sg, gmv_3, lg, rfl, hIv_3, KS_rf, (KS_tr (L := [0, 1, 3, 4, 55]) KS_rf kgv_3 (by decide)), KS_rf, (iv_w (iv_k (by decide) : iv 1 1 1) (by decide)), (Or.inl ⟨rfl, hyes⟩), (Or.inl ⟨rfl, hyes, f0_r_1⟩), (Or.inl ⟨rfl, hyes, f1_r_1⟩), (Or.inl ⟨rfl, hyes, f3_r_1⟩), (Or.inl ⟨rfl, hyes, fB_r_1⟩), (Or.inl ⟨rfl, hyes, (by rw [show pa = y0_40 from Int32.toInt_inj.mp hpa.symm]; exact f4_r_1)⟩)⟩, by rw [ht]; exact hP, va_K.moved hW.alike hK, hD⟩, hS.F ht, by rw [ht]; exact hN⟩) hS.2.2 dX12_declare_44)))
  refine lv_iload_n hx hb dX12_declare_0 rfl (lv_at hl 1 rfl) ?_
  refine cm_callS (rest := []) (as := [.int ca]) ⟨hx, hb, hml, hown, htb⟩ (d_isClass2 l dC dI ad cid a2 lx sg gm lg ca hI) (va_cwS 1 htb (gd_S kw_227 kw_228 kw_2 kw_1385) rfl rfl rfl (by decide +kernel) ⟨Nat.le_of_ble_eq_true rfl, Nat.le_of_ble_eq_true rfl⟩)  rfl hl.1 rfl (Nat.le_trans cs_n (by decide)) dX12_declare_1 ⟨Nat.le_of_ble_eq_true rfl, Nat.le_of_ble_eq_true rfl⟩ hK hP hD hS hA hG (fun E ce q9 u_5 H locs hw hP hD hS hce hcv hcl => ?_) (fun v9 u_5 H locs hw hP hD hS => ?_)
  · exact hw.elim
  obtain ⟨r_4, rfl, rfl, hr_4, fl_r_4⟩ := hw
  have hP : va_P (dC, dI) vwCl (cW ad cid a2 lx sg gm lg) H := hP
  have hD : va_D A (cW ad cid a2 lx sg gm lg) := hD
  refine W.eq (g2 := F0 m 4 ls [.int r_4]) rfl ?_
  refine lv_if_eq (tgt := 17) hx hb dX12_declare_4 (by decide) (fun c_7 => ?_) (fun c_7 => ?_)
  · have h_8 : iv 0 0 r_4 := iv_eq c_7 hr_4 (iv_k (by decide) : iv 0 0 0) (by decide)
    exact hj17 hvx (fun q9 => by { have := fl_r_4; have := i32_0; have := i32_1; have := i32_2; have := i32_m1; have := (hvx).1; have := (hvx).2; have := (h_8).1; have := (h_8).2; omega }) _ _ _ hP hD hS (lv_sub hl [0, 1, 2] rfl)
  · have h_9 : iv 1 1 r_4 := iv_neL c_7 hr_4 (by decide)
    refine lv_iload_n hx hb dX12_declare_7 rfl (lv_at hl 2 rfl) ?_
    refine lv_iconst (v := (-1)) hx hb dX12_declare_8 (by decide) ?_
    refine lv_icmp_lt (tgt := 17) hx hb dX12_declare_9 (by decide) (fun c_10 => ?_) (fun c_10 => ?_)
    · have h_11 : iv (-2147483648) (-2) pa := iv_ltL c_10 (iv_all pa) (iv_k (by decide) : iv (-1) (-1) (-1)) (by decide)
      exact hj17 hvx (fun q9 => by { have := fl_r_4; have := i32_0; have := i32_1; have := i32_2; have := i32_m1; have := (hvx).1; have := (hvx).2; have := (h_9).1; have := (h_9).2; have := (h_11).1; have := (h_11).2; omega }) _ _ _ hP hD hS (lv_sub hl [0, 1, 2] rfl)
    · have h_12 : iv (-1) 2147483647 pa := iv_leR (i32_ge c_10) (iv_k (by decide) : iv (-1) (-1) (-1)) (iv_all pa) (by decide)
      refine lv_iload_n hx hb dX12_declare_12 rfl (lv_at hl 2 rfl) ?_
      refine lv_iload_n hx hb dX12_declare_13 rfl (lv_at hl 1 rfl) ?_
      refine lv_icmp_lt (tgt := 19) hx hb dX12_declare_14 (by decide) (fun c_13 => ?_) (fun c_13 => ?_)
      · have d_14 : (pa : Int32).toInt < (ca : Int32).toInt := Int32.lt_iff_toInt_lt.mp c_13
        have h_15 : iv (-1) 2147483646 pa := iv_ltL c_13 h_12 (iv_all ca) (by decide)
        have h_16 : iv 0 2147483647 ca := iv_ltR c_13 h_12 (iv_all ca) (by decide)
        have h_17 : iv 0 7 ca := ⟨by have := fl_r_4; have := i32_0; have := i32_1; have := i32_2; have := i32_m1; have := (hvx).1; have := (hvx).2; have := (h_9).1; have := (h_9).2; have := (h_15).1; have := (h_15).2; have := (h_16).1; have := (h_16).2; omega, by have := fl_r_4; have := i32_0; have := i32_1; have := i32_2; have := i32_m1; have := (hvx).1; have := (hvx).2; have := (h_9).1; have := (h_9).2; have := (h_15).1; have := (h_15).2; have := (h_16).1; have := (h_16).2; omega⟩
        refine ec_aload_n hx hb dX12_declare_19 rfl (lv_at hl 0 rfl) ?_
        refine cr_get (t := 0) (j := 0) (C := RX12) (T := TX12) (N := 12) (v := eV (ad 12) 0) hx hb htb inX12 hown hK hP hvx (by decide) (by decide) (by decide) rfl (by decide) (htb _ kw_13) (cV_c rfl (by decide) (by rw [show cMu 0 0 = 0 from rfl, Nat.zero_mul]; rfl)) dX12_declare_20 ?_
        refine lv_iload_n hx hb dX12_declare_23 rfl (lv_at hl 1 rfl) ?_
        refine cr_aald (t := 12) (C := RX2) (v := eV (ad 7) ca) hx hb hK hP (iv_k (by decide) : iv 0 0 0) (by decide) (by decide) (by decide) (by decide) (by decide) rfl (show vp_in ca (cLen 12) from (show vp_in ca 8 from (iv_in h_17 (by decide)))) (cAr_c (by decide) (h_17).1 (by rw [show cAm 12 = 0 from rfl, Nat.zero_mul, show cAo 12 = 0 from rfl]; omega)) dX12_declare_24 ?_
        refine lv_iload_n hx hb dX12_declare_25 rfl (lv_at hl 2 rfl) ?_
        refine lv_iconst (v := (-1)) hx hb dX12_declare_26 (by decide) ?_
        refine lv_icmp_ne (tgt := 34) hx hb dX12_declare_27 (by decide) (fun c_18 => ?_) (fun c_18 => ?_)
        · have h_19 : iv 0 2147483646 pa := iv_neL c_18 h_15 (by decide)
          have h_20 : iv 0 7 pa := ⟨by have := i32_0; have := i32_1; have := i32_2; have := i32_m1; have := (hvx).1; have := (hvx).2; have := (h_9).1; have := (h_9).2; have := (h_19).1; have := (h_19).2; have := (h_17).1; have := (h_17).2; omega, by have := i32_0; have := i32_1; have := i32_2; have := i32_m1; have := (hvx).1; have := (hvx).2; have := (h_9).1; have := (h_9).2; have := (h_19).1; have := (h_19).2; have := (h_17).1; have := (h_17).2; omega⟩
          refine ec_aload_n hx hb dX12_declare_34 rfl (lv_at hl 0 rfl) ?_
          refine cr_get (t := 0) (j := 0) (C := RX12) (T := TX12) (N := 12) (v := eV (ad 12) 0) hx hb htb inX12 hown hK hP hvx (by decide) (by decide) (by decide) rfl (by decide) (htb _ kw_13) (cV_c rfl (by decide) (by rw [show cMu 0 0 = 0 from rfl, Nat.zero_mul]; rfl)) dX12_declare_35 ?_
          refine lv_iload_n hx hb dX12_declare_38 rfl (lv_at hl 2 rfl) ?_
          refine cr_aald (t := 12) (C := RX2) (v := eV (ad 7) pa) hx hb hK hP (iv_k (by decide) : iv 0 0 0) (by decide) (by decide) (by decide) (by decide) (by decide) rfl (show vp_in pa (cLen 12) from (show vp_in pa 8 from (iv_in h_20 (by decide)))) (cAr_c (by decide) (h_20).1 (by rw [show cAm 12 = 0 from rfl, Nat.zero_mul, show cAo 12 = 0 from rfl]; omega)) dX12_declare_39 ?_
          exact hj40 pa hvx h_17 (iv_w h_20 (by decide)) (iv_w h_20 (by decide)) h_17 (⟨by have := i32_0; have := i32_1; have := i32_2; have := i32_m1; have := (hvx).1; have := (hvx).2; have := (h_9).1; have := (h_9).2; have := (h_20).1; have := (h_20).2; have := (h_17).1; have := (h_17).2; omega, by have := i32_0; have := i32_1; have := i32_2; have := i32_m1; have := (hvx).1; have := (hvx).2; have := (h_9).1; have := (h_9).2; have := (h_20).1; have := (h_20).2; have := (h_17).1; have := (h_17).2; omega, by have := i32_0; have := i32_1; have := i32_2; have := i32_m1; have := (hvx).1; have := (hvx).2; have := (h_9).1; have := (h_9).2; have := (h_20).1; have := (h_20).2; have := (h_17).1; have := (h_17).2; omega, by have := i32_0; have := i32_1; have := i32_2; have := i32_m1; have := (hvx).1; have := (hvx).2; have := (h_9).1; have := (h_9).2; have := (h_20).1; have := (h_20).2; have := (h_17).1; have := (h_17).2; omega⟩) (by have := i32_0; have := i32_1; have := i32_2; have := i32_m1; have := (hvx).1; have := (hvx).2; have := (h_9).1; have := (h_9).2; have := (h_20).1; have := (h_20).2; have := (h_17).1; have := (h_17).2; omega) _ _ _ hP hD hS (lv_sub hl [0, 1, 2] rfl)
        · have h_21 : iv (-1) (-1) pa := iv_eq c_18 h_15 (iv_k (by decide) : iv (-1) (-1) (-1)) (by decide)
          refine ec_null (a := ad 7) hx hb dX12_declare_30 ?_
          refine lv_goto (tgt := 40) hx hb dX12_declare_31 (by decide) ?_
          exact hj40 (-1) hvx h_17 (iv_w h_21 (by decide)) (iv_w (iv_k (by decide) : iv (-1) (-1) (-1)) (by decide)) h_17 (⟨by have := i32_0; have := i32_1; have := i32_2; have := i32_m1; have := (hvx).1; have := (hvx).2; have := (h_9).1; have := (h_9).2; have := (h_21).1; have := (h_21).2; have := (h_17).1; have := (h_17).2; omega, by have := i32_0; have := i32_1; have := i32_2; have := i32_m1; have := (hvx).1; have := (hvx).2; have := (h_9).1; have := (h_9).2; have := (h_21).1; have := (h_21).2; have := (h_17).1; have := (h_17).2; omega, by have := i32_0; have := i32_1; have := i32_2; have := i32_m1; have := (hvx).1; have := (hvx).2; have := (h_9).1; have := (h_9).2; have := (h_21).1; have := (h_21).2; have := (h_17).1; have := (h_17).2; omega, by have := i32_0; have := i32_1; have := i32_2; have := i32_m1; have := (hvx).1; have := (hvx).2; have := (h_9).1; have := (h_9).2; have := (h_21).1; have := (h_21).2; have := (h_17).1; have := (h_17).2; omega⟩) (by have := i32_0; have := i32_1; have := i32_2; have := i32_m1; have := (hvx).1; have := (hvx).2; have := (h_9).1; have := (h_9).2; have := (h_21).1; have := (h_21).2; have := (h_17).1; have := (h_17).2; omega) _ _ _ hP hD hS (lv_sub hl [0, 1, 2] rfl)
      · have d_22 : (ca : Int32).toInt ≤ (pa : Int32).toInt := Int32.le_iff_toInt_le.mp (i32_ge c_13)
        exact hj17 hvx (fun q9 => by { have := fl_r_4; have := i32_0; have := i32_1; have := i32_2; have := i32_m1; have := (hvx).1; have := (hvx).2; have := (h_9).1; have := (h_9).2; have := (h_12).1; have := (h_12).2; omega }) _ _ _ hP hD hS (lv_sub hl [0, 1, 2] rfl)

set_option maxHeartbeats 4000000 in
set_option maxRecDepth 100000 in
theorem d_constructor9 (l : Launch) (dC : Nat → ClassId) (dI : Nat → Nat → Nat) (ad : Nat → Nat → Nat) (cid : Nat → ClassId) (a2 : Nat → Nat) (lx : List Nat) (sg : Nat → Int32) (gm : Nat → Nat → Int32) (lg : Nat → Nat → Int64) (x : Int32) (ca : Int32) (na : Int32) (ta : Int32) (ub : Int32) (uc : Int32) (hI : CI sg gm) (hvx : iv 0 0 x) : CMt dC dI ad cid a2 lx l yX12_constructor wm_X12_constructor ({ frames := 2, cells := 1, slots := 6, locals := 48 }) [eV (ad 0) x, .int ca, .int na, .int ta, .int ub, .int uc] sg gm lg (fun v u => ∃ r : Int32, v = some (.int r) ∧ ∃ (sg2 : Nat → Int32) (gm2 : Nat → Nat → Int32) (lg2 : Nat → Nat → Int64), u = (sg2, gm2, lg2) ∧ CI sg2 gm2 ∧ KS [] sg sg2 ∧ KS [0, 7, 8, 9, 10, 54] gm gm2 ∧ KS [] lg lg2 ∧ (iv 0 1 r) ∧ (ADC (0 ≤ ca.toInt ∧ ca.toInt ≤ 7 ∧ 0 ≤ na.toInt ∧ na.toInt ≤ 3 ∧ (1 ≤ na.toInt → (0 ≤ ta.toInt ∧ ta.toInt ≤ 4 ∨ 8 ≤ ta.toInt ∧ ta.toInt ≤ 15)) ∧ (2 ≤ na.toInt → (0 ≤ ub.toInt ∧ ub.toInt ≤ 4 ∨ 8 ≤ ub.toInt ∧ ub.toInt ≤ 15)) ∧ (3 ≤ na.toInt → (0 ≤ uc.toInt ∧ uc.toInt ≤ 4 ∨ 8 ≤ uc.toInt ∧ uc.toInt ≤ 15))) r ca.toNatClampNeg 0 0 gm gm2 (-1) 0 (gm 2 ca.toNatClampNeg) na ta ub uc)) (fun _ _ => False) := by
  intro sz
  refine vx_ofW (cc := cX12_constructor) (maxL := 6) (ret := (some .boolean)) (by decide) rfl ?_
  intro p e s m args below meth c s₁ B hml hxt hv
  obtain ⟨rfl, hsz, hP, hK, hD0, hG⟩ := hv
  have hx := B.exec
  have hb := B.bytes
  have hr := B.returns
  have hts := atoms_spec (ws := wm_X12_constructor) B.pre
  have htb := fun (w : Cond) (h : w ∈ tb) => hts w (List.mem_cons_of_mem _ h)
  have hown : s.vm.findClass RX12 = some m.cls := findClass_of_methodNamed B.named
  have hlocks := B.notSynchronized
  subst hsz
  have hD := hD0.self (sz := s.heap.size)
  generalize hAe : va_A (cW ad cid a2 lx sg gm lg) s.heap.size = A at hD hG ⊢
  have hA : ∀ q : Nat, s.heap.size ≤ q → A q := fun q h => by rw [← hAe]; exact Or.inr h
  have hS : va_S A s.heap s.heap [] := va_S.rf
  have hl := lv_entry ([eV (ad 0) x, .int ca, .int na, .int ta, .int ub, .int uc]) (n := 6) (by rw [show (lg_sl ([eV (ad 0) x, .int ca, .int na, .int ta, .int ub, .int uc])).length = 6 from by simp [lg_sl, eV_cat, cat_i, cat_l]]; exact Nat.le_of_ble_eq_true rfl)
  rw [lg_entry_eq]
  generalize (lg_sl ([eV (ad 0) x, .int ca, .int na, .int ta, .int ub, .int uc]) ++ List.replicate (6 - (lg_sl ([eV (ad 0) x, .int ca, .int na, .int ta, .int ub, .int uc])).length) Slot.unset).toArray = ls at hl ⊢
  have hl : lv_has ls 6 [(0, eV (ad 0) x), (1, .int ca), (2, .int na), (3, .int ta), (4, .int ub), (5, .int uc)] := by simp [lv_args, eV_cat, cat_i, cat_l] at hl; exact hl
  have hj42 : ∀ (gm_j42 : Nat → Nat → Int32) (y0_42 : Int32) (_ : iv 0 0 x) (_ : iv 0 1 y0_42) (_ : KS [0, 7, 8, 9, 10, 54] gm gm_j42) (_ : CI sg gm_j42) (_ : ADC (0 ≤ ca.toInt ∧ ca.toInt ≤ 7 ∧ 0 ≤ na.toInt ∧ na.toInt ≤ 3 ∧ (1 ≤ na.toInt → (0 ≤ ta.toInt ∧ ta.toInt ≤ 4 ∨ 8 ≤ ta.toInt ∧ ta.toInt ≤ 15)) ∧ (2 ≤ na.toInt → (0 ≤ ub.toInt ∧ ub.toInt ≤ 4 ∨ 8 ≤ ub.toInt ∧ ub.toInt ≤ 15)) ∧ (3 ≤ na.toInt → (0 ≤ uc.toInt ∧ uc.toInt ≤ 4 ∨ 8 ≤ uc.toInt ∧ uc.toInt ≤ 15))) y0_42 ca.toNatClampNeg 0 0 gm gm_j42 (-1) 0 (gm 2 ca.toNatClampNeg) na ta ub uc) (H : Heap) (locs : List Loc) (ls : Array Slot), va_P (dC, dI) vwCl (cW ad cid a2 lx sg gm_j42 lg) H → va_D A (cW ad cid a2 lx sg gm_j42 lg) → va_S A s.heap H locs → lv_has ls 6 [(0, eV (ad 0) x), (1, .int ca), (2, .int na), (3, .int ta), (4, .int ub), (5, .int uc)] → W p l e (headSpec wm_X12_constructor ({ frames := 2, cells := 1, slots := 6, locals := 48 })).room s m ([eV (ad 0) x, .int ca, .int na, .int ta, .int ub, .int uc] : List Value).toArray below meth c H locs 0 0 (vx_MQ below (cQx dC dI ad cid a2 lx (fun v u => ∃ r : Int32, v = some (.int r) ∧ ∃ (sg2 : Nat → Int32) (gm2 : Nat → Nat → Int32) (lg2 : Nat → Nat → Int64), u = (sg2, gm2, lg2) ∧ CI sg2 gm2 ∧ KS [] sg sg2 ∧ KS [0, 7, 8, 9, 10, 54] gm gm2 ∧ KS [] lg lg2 ∧ (iv 0 1 r) ∧ (ADC (0 ≤ ca.toInt ∧ ca.toInt ≤ 7 ∧ 0 ≤ na.toInt ∧ na.toInt ≤ 3 ∧ (1 ≤ na.toInt → (0 ≤ ta.toInt ∧ ta.toInt ≤ 4 ∨ 8 ≤ ta.toInt ∧ ta.toInt ≤ 15)) ∧ (2 ≤ na.toInt → (0 ≤ ub.toInt ∧ ub.toInt ≤ 4 ∨ 8 ≤ ub.toInt ∧ ub.toInt ≤ 15)) ∧ (3 ≤ na.toInt → (0 ≤ uc.toInt ∧ uc.toInt ≤ 4 ∨ 8 ≤ uc.toInt ∧ uc.toInt ≤ 15))) r ca.toNatClampNeg 0 0 gm gm2 (-1) 0 (gm 2 ca.toNatClampNeg) na ta ub uc)) A) (cX dC dI ad cid a2 lx (fun _ _ => False) A) ([eV (ad 0) x, .int ca, .int na, .int ta, .int ub, .int uc] : List Value).toArray s 1 6 A) (F0 m 42 ls [.int y0_42]) := by
    intro gm_j42 y0_42 hsx0_42 hy0_42 hkg_j42 hI_j42 hA H locs ls hP hD hS hl
    exact W.nb (fun hN => W.widen (k := 1) (n := 6) (by decide) (by decide) (vx_ret (W.zret (v := y0_42) hx hb hr (iv_nb hy0_42) (fun t ht hW => ⟨⟨some (.int y0_42), (sg, gm_j42, lg), rfl, ⟨y0_42, rfl, sg, gm_j42, lg, rfl, hI_j42, KS_rf, (KS_tr (L := [0, 7, 8, 9, 10, 54]) KS_rf hkg_j42 (by decide)), KS_rf, hy0_42, (hA)⟩, by rw [ht]; exact hP, va_K.moved hW.alike hK, hD⟩, hS.F ht, by rw [ht]; exact hN⟩) hS.2.2 dX12_constructor_42)))
  have hj41 : ∀ (gm_j41 : Nat → Nat → Int32) (_ : iv 0 0 x) (_ : KS [0, 7, 8, 9, 10, 54] gm gm_j41) (_ : CI sg gm_j41) (_ : (¬ (0 ≤ ca.toInt ∧ ca.toInt ≤ 7 ∧ 0 ≤ na.toInt ∧ na.toInt ≤ 3 ∧ (1 ≤ na.toInt → (0 ≤ ta.toInt ∧ ta.toInt ≤ 4 ∨ 8 ≤ ta.toInt ∧ ta.toInt ≤ 15)) ∧ (2 ≤ na.toInt → (0 ≤ ub.toInt ∧ ub.toInt ≤ 4 ∨ 8 ≤ ub.toInt ∧ ub.toInt ≤ 15)) ∧ (3 ≤ na.toInt → (0 ≤ uc.toInt ∧ uc.toInt ≤ 4 ∨ 8 ≤ uc.toInt ∧ uc.toInt ≤ 15))) ∨ 4 ≤ (gm 0 ca.toNatClampNeg).toInt) ∧ gm_j41 0 = gm 0 ∧ SGE gm gm_j41) (H : Heap) (locs : List Loc) (ls : Array Slot), va_P (dC, dI) vwCl (cW ad cid a2 lx sg gm_j41 lg) H → va_D A (cW ad cid a2 lx sg gm_j41 lg) → va_S A s.heap H locs → lv_has ls 6 [(0, eV (ad 0) x), (1, .int ca), (2, .int na), (3, .int ta), (4, .int ub), (5, .int uc)] → W p l e (headSpec wm_X12_constructor ({ frames := 2, cells := 1, slots := 6, locals := 48 })).room s m ([eV (ad 0) x, .int ca, .int na, .int ta, .int ub, .int uc] : List Value).toArray below meth c H locs 0 0 (vx_MQ below (cQx dC dI ad cid a2 lx (fun v u => ∃ r : Int32, v = some (.int r) ∧ ∃ (sg2 : Nat → Int32) (gm2 : Nat → Nat → Int32) (lg2 : Nat → Nat → Int64), u = (sg2, gm2, lg2) ∧ CI sg2 gm2 ∧ KS [] sg sg2 ∧ KS [0, 7, 8, 9, 10, 54] gm gm2 ∧ KS [] lg lg2 ∧ (iv 0 1 r) ∧ (ADC (0 ≤ ca.toInt ∧ ca.toInt ≤ 7 ∧ 0 ≤ na.toInt ∧ na.toInt ≤ 3 ∧ (1 ≤ na.toInt → (0 ≤ ta.toInt ∧ ta.toInt ≤ 4 ∨ 8 ≤ ta.toInt ∧ ta.toInt ≤ 15)) ∧ (2 ≤ na.toInt → (0 ≤ ub.toInt ∧ ub.toInt ≤ 4 ∨ 8 ≤ ub.toInt ∧ ub.toInt ≤ 15)) ∧ (3 ≤ na.toInt → (0 ≤ uc.toInt ∧ uc.toInt ≤ 4 ∨ 8 ≤ uc.toInt ∧ uc.toInt ≤ 15))) r ca.toNatClampNeg 0 0 gm gm2 (-1) 0 (gm 2 ca.toNatClampNeg) na ta ub uc)) A) (cX dC dI ad cid a2 lx (fun _ _ => False) A) ([eV (ad 0) x, .int ca, .int na, .int ta, .int ub, .int uc] : List Value).toArray s 1 6 A) (F0 m 41 ls []) := by
    intro gm_j41 hsx0_41 hkg_j41 hI_j41 hno H locs ls hP hD hS hl
    refine lv_iconst (v := 0) hx hb dX12_constructor_41 (by decide) ?_
    exact hj42 gm_j41 0 hsx0_41 (iv_w (iv_k (by decide) : iv 0 0 0) (by decide)) (KS_tr (L := [0, 7, 8, 9, 10, 54]) KS_rf hkg_j41 (by decide)) hI_j41 (Or.inr ⟨rfl, hno.1, hno.2⟩) _ _ _ hP hD hS (lv_sub hl [0, 1, 2, 3, 4, 5] rfl)
  refine lv_iload_n hx hb dX12_constructor_0 rfl (lv_at hl 1 rfl) ?_
  refine cm_callS (rest := []) (as := [.int ca]) ⟨hx, hb, hml, hown, htb⟩ (d_isClass2 l dC dI ad cid a2 lx sg gm lg ca hI) (va_cwS 1 htb (gd_S kw_227 kw_228 kw_2 kw_1385) rfl rfl rfl (by decide +kernel) ⟨Nat.le_of_ble_eq_true rfl, Nat.le_of_ble_eq_true rfl⟩)  rfl hl.1 rfl (Nat.le_trans cs_n (by decide)) dX12_constructor_1 ⟨Nat.le_of_ble_eq_true rfl, Nat.le_of_ble_eq_true rfl⟩ hK hP hD hS hA hG (fun E ce q9 u_2 H locs hw hP hD hS hce hcv hcl => ?_) (fun v9 u_2 H locs hw hP hD hS => ?_)
  · exact hw.elim
  obtain ⟨r_1, rfl, rfl, hr_1, fl_r_1⟩ := hw
  have hP : va_P (dC, dI) vwCl (cW ad cid a2 lx sg gm lg) H := hP
  have hD : va_D A (cW ad cid a2 lx sg gm lg) := hD
  refine W.eq (g2 := F0 m 4 ls [.int r_1]) rfl ?_
  refine lv_if_eq (tgt := 41) hx hb dX12_constructor_4 (by decide) (fun c_4 => ?_) (fun c_4 => ?_)
  · have h_5 : iv 0 0 r_1 := iv_eq c_4 hr_1 (iv_k (by decide) : iv 0 0 0) (by decide)
    exact hj41 gm hvx KS_rf hI (⟨Or.inl (fun q9 => by { have := i32_0; have := i32_1; have := i32_2; have := i32_m1; have := (hvx).1; have := (hvx).2; have := (h_5).1; have := (h_5).2; omega }), (show gm 0 = gm 0 from rfl), ⟨(show gm 8 = gm 8 from rfl), (show gm 9 = gm 9 from rfl), (show gm 10 = gm 10 from rfl), (show gm 7 = gm 7 from rfl), (show gm 54 = gm 54 from rfl)⟩⟩) _ _ _ hP hD hS (lv_sub hl [0, 1, 2, 3, 4, 5] rfl)
  · have h_6 : iv 1 1 r_1 := iv_neL c_4 hr_1 (by decide)
    refine lv_iload_n hx hb dX12_constructor_7 rfl (lv_at hl 2 rfl) ?_
    refine lv_iload_n hx hb dX12_constructor_8 rfl (lv_at hl 3 rfl) ?_
    refine lv_iload hx hb dX12_constructor_9 (lv_at hl 4 rfl) ?_
    refine lv_iload hx hb dX12_constructor_11 (lv_at hl 5 rfl) ?_
    refine cm_callS (rest := []) (as := [.int na, .int ta, .int ub, .int uc]) ⟨hx, hb, hml, hown, htb⟩ (d_areTypes2 l dC dI ad cid a2 lx sg gm lg na ta ub uc hI) (va_cwS 4 htb (gd_S kw_245 kw_246 kw_2 kw_1390) rfl rfl rfl (by decide +kernel) ⟨Nat.le_of_ble_eq_true rfl, Nat.le_of_ble_eq_true rfl⟩)  rfl hl.1 rfl (Nat.le_trans cs_n (by decide)) dX12_constructor_13 ⟨Nat.le_of_ble_eq_true rfl, Nat.le_of_ble_eq_true rfl⟩ hK hP hD hS hA hG (fun E ce q9 u_8 H locs hw hP hD hS hce hcv hcl => ?_) (fun v9 u_8 H locs hw hP hD hS => ?_)
    · exact hw.elim
    obtain ⟨r_7, rfl, rfl, hr_7, fl_r_7⟩ := hw
    have hP : va_P (dC, dI) vwCl (cW ad cid a2 lx sg gm lg) H := hP
    have hD : va_D A (cW ad cid a2 lx sg gm lg) := hD
    refine W.eq (g2 := F0 m 16 ls [.int r_7]) rfl ?_
    refine lv_if_eq (tgt := 41) hx hb dX12_constructor_16 (by decide) (fun c_10 => ?_) (fun c_10 => ?_)
    · have h_11 : iv 0 0 r_7 := iv_eq c_10 hr_7 (iv_k (by decide) : iv 0 0 0) (by decide)
      exact hj41 gm hvx KS_rf hI (⟨Or.inl (fun q9 => by { have := i32_0; have := i32_1; have := i32_2; have := i32_m1; have := (hvx).1; have := (hvx).2; have := (h_6).1; have := (h_6).2; have := (h_11).1; have := (h_11).2; omega }), (show gm 0 = gm 0 from rfl), ⟨(show gm 8 = gm 8 from rfl), (show gm 9 = gm 9 from rfl), (show gm 10 = gm 10 from rfl), (show gm 7 = gm 7 from rfl), (show gm 54 = gm 54 from rfl)⟩⟩) _ _ _ hP hD hS (lv_sub hl [0, 1, 2, 3, 4, 5] rfl)
    · have h_12 : iv 1 1 r_7 := iv_neL c_10 hr_7 (by decide)
      have h_13 : iv 0 7 ca := ⟨by have := fl_r_1; have := i32_0; have := i32_1; have := i32_2; have := i32_m1; have := (hvx).1; have := (hvx).2; have := (h_6).1; have := (h_6).2; have := (h_12).1; have := (h_12).2; omega, by have := fl_r_1; have := i32_0; have := i32_1; have := i32_2; have := i32_m1; have := (hvx).1; have := (hvx).2; have := (h_6).1; have := (h_6).2; have := (h_12).1; have := (h_12).2; omega⟩
      have h_14 : iv 0 3 na := ⟨by have := fl_r_7; have := i32_0; have := i32_1; have := i32_2; have := i32_m1; have := (hvx).1; have := (hvx).2; have := (h_6).1; have := (h_6).2; have := (h_12).1; have := (h_12).2; have := (h_13).1; have := (h_13).2; omega, by have := fl_r_7; have := i32_0; have := i32_1; have := i32_2; have := i32_m1; have := (hvx).1; have := (hvx).2; have := (h_6).1; have := (h_6).2; have := (h_12).1; have := (h_12).2; have := (h_13).1; have := (h_13).2; omega⟩
      refine ec_aload_n hx hb dX12_constructor_19 rfl (lv_at hl 0 rfl) ?_
      refine cr_get (t := 0) (j := 0) (C := RX12) (T := TX12) (N := 12) (v := eV (ad 12) 0) hx hb htb inX12 hown hK hP hvx (by decide) (by decide) (by decide) rfl (by decide) (htb _ kw_13) (cV_c rfl (by decide) (by rw [show cMu 0 0 = 0 from rfl, Nat.zero_mul]; rfl)) dX12_constructor_20 ?_
      refine lv_iload_n hx hb dX12_constructor_23 rfl (lv_at hl 1 rfl) ?_
      refine cr_aald (t := 12) (C := RX2) (v := eV (ad 7) ca) hx hb hK hP (iv_k (by decide) : iv 0 0 0) (by decide) (by decide) (by decide) (by decide) (by decide) rfl (show vp_in ca (cLen 12) from (show vp_in ca 8 from (iv_in h_13 (by decide)))) (cAr_c (by decide) (h_13).1 (by rw [show cAm 12 = 0 from rfl, Nat.zero_mul, show cAo 12 = 0 from rfl]; omega)) dX12_constructor_24 ?_
      refine lv_iload_n hx hb dX12_constructor_25 rfl (lv_at hl 2 rfl) ?_
      refine lv_iload_n hx hb dX12_constructor_26 rfl (lv_at hl 3 rfl) ?_
      refine lv_iload hx hb dX12_constructor_27 (lv_at hl 4 rfl) ?_
      refine lv_iload hx hb dX12_constructor_29 (lv_at hl 5 rfl) ?_
      refine cm_callV (t := 7) (C := RX2) (T := TX2) (N := 8) (rest := []) (as := [.int na, .int ta, .int ub, .int uc]) ⟨hx, hb, hml, hown, htb⟩ (d_addConstructor9 l dC dI ad cid a2 lx sg gm lg ca na ta ub uc hI h_13 h_14) (cwV 4 htb (gd_V kw_249 kw_250 kw_251 kw_15 kw_1392) rfl rfl rfl (by decide +kernel) ⟨Nat.le_of_ble_eq_true rfl, Nat.le_of_ble_eq_true rfl⟩) h_13 (by decide) (by decide) rfl rfl hl.1 rfl (Nat.le_trans cs_n (by decide)) dX12_constructor_31 ⟨Nat.le_of_ble_eq_true rfl, Nat.le_of_ble_eq_true rfl⟩ hK hP hD hS hA hG (fun E ce q9 u_16 H locs hw hP hD hS hce hcv hcl => ?_) (fun v9 u_16 H locs hw hP hD hS => ?_)
      · exact hw.elim
      obtain ⟨r_15, rfl, sgv_17, gmv_17, lgv_17, rfl, hIv_17, ksv_17, kgv_17, klv_17, hr_15, fA_r_15⟩ := hw
      obtain rfl := KS_nil ksv_17
      obtain rfl := KS_nil klv_17
      have hP : va_P (dC, dI) vwCl (cW ad cid a2 lx sg gmv_17 lg) H := hP
      have hD : va_D A (cW ad cid a2 lx sg gmv_17 lg) := hD
      refine W.eq (g2 := F0 m 34 ls [.int r_15]) rfl ?_
      refine lv_if_eq (tgt := 41) hx hb dX12_constructor_34 (by decide) (fun c_18 => ?_) (fun c_18 => ?_)
      · have h_19 : iv 0 0 r_15 := iv_eq c_18 hr_15 (iv_k (by decide) : iv 0 0 0) (by decide)
        exact hj41 gmv_17 hvx (KS_tr (L := [0, 7, 8, 9, 10, 54]) KS_rf kgv_17 (by decide)) hIv_17 (⟨Or.inr (ADC_0 fA_r_15 (by have := i32_0; have := i32_1; have := i32_2; have := i32_m1; have := (hvx).1; have := (hvx).2; have := (h_6).1; have := (h_6).2; have := (h_12).1; have := (h_12).2; have := (h_13).1; have := (h_13).2; have := (h_14).1; have := (h_14).2; have := (h_19).1; have := (h_19).2; omega)).1, (ADC_0 fA_r_15 (by have := i32_0; have := i32_1; have := i32_2; have := i32_m1; have := (hvx).1; have := (hvx).2; have := (h_6).1; have := (h_6).2; have := (h_12).1; have := (h_12).2; have := (h_13).1; have := (h_13).2; have := (h_14).1; have := (h_14).2; have := (h_19).1; have := (h_19).2; omega)).2⟩) _ _ _ hP hD hS (lv_sub hl [0, 1, 2, 3, 4, 5] rfl)
      · have h_20 : iv 1 1 r_15 := iv_neL c_18 hr_15 (by decide)
        refine lv_iconst (v := 1) hx hb dX12_constructor_37 (by decide) ?_
        refine lv_goto (tgt := 42) hx hb dX12_constructor_38 (by decide) ?_
        exact hj42 gmv_17 1 hvx (iv_w (iv_k (by decide) : iv 1 1 1) (by decide)) (KS_tr (L := [0, 7, 8, 9, 10, 54]) KS_rf kgv_17 (by decide)) hIv_17 (ADC_1 fA_r_15 (by have := i32_0; have := i32_1; have := i32_2; have := i32_m1; have := (hvx).1; have := (hvx).2; have := (h_6).1; have := (h_6).2; have := (h_12).1; have := (h_12).2; have := (h_13).1; have := (h_13).2; have := (h_14).1; have := (h_14).2; have := (h_20).1; have := (h_20).2; omega) (by have := i32_0; have := i32_1; have := i32_2; have := i32_m1; have := (hvx).1; have := (hvx).2; have := (h_6).1; have := (h_6).2; have := (h_12).1; have := (h_12).2; have := (h_13).1; have := (h_13).2; have := (h_14).1; have := (h_14).2; have := (h_20).1; have := (h_20).2; omega) rfl) _ _ _ hP hD hS (lv_sub hl [0, 1, 2, 3, 4, 5] rfl)

set_option maxHeartbeats 4000000 in
set_option maxRecDepth 100000 in
theorem d_factory9 (l : Launch) (dC : Nat → ClassId) (dI : Nat → Nat → Nat) (ad : Nat → Nat → Nat) (cid : Nat → ClassId) (a2 : Nat → Nat) (lx : List Nat) (sg : Nat → Int32) (gm : Nat → Nat → Int32) (lg : Nat → Nat → Int64) (x : Int32) (ca : Int32) (nm : Int32) (zs : Int32) (re : Int32) (na : Int32) (ta : Int32) (ub : Int32) (uc : Int32) (hI : CI sg gm) (hvx : iv 0 0 x) (hvzs : iv 0 1 zs) : CMt dC dI ad cid a2 lx l yX12_factory wm_X12_factory ({ frames := 2, cells := 1, slots := 6, locals := 51 }) [eV (ad 0) x, .int ca, .int nm, .int zs, .int re, .int na, .int ta, .int ub, .int uc] sg gm lg (fun v u => ∃ r : Int32, v = some (.int r) ∧ ∃ (sg2 : Nat → Int32) (gm2 : Nat → Nat → Int32) (lg2 : Nat → Nat → Int64), u = (sg2, gm2, lg2) ∧ CI sg2 gm2 ∧ KS [] sg sg2 ∧ KS [1, 7, 8, 9, 10, 54] gm gm2 ∧ KS [] lg lg2 ∧ (iv 0 1 r) ∧ (ADC (0 ≤ ca.toInt ∧ ca.toInt ≤ 7 ∧ 0 ≤ nm.toInt ∧ nm.toInt ≤ 25 ∧ 0 ≤ re.toInt ∧ re.toInt ≤ 7 ∧ 0 ≤ na.toInt ∧ na.toInt ≤ 3 ∧ (1 ≤ na.toInt → (0 ≤ ta.toInt ∧ ta.toInt ≤ 4 ∨ 8 ≤ ta.toInt ∧ ta.toInt ≤ 15)) ∧ (2 ≤ na.toInt → (0 ≤ ub.toInt ∧ ub.toInt ≤ 4 ∨ 8 ≤ ub.toInt ∧ ub.toInt ≤ 15)) ∧ (3 ≤ na.toInt → (0 ≤ uc.toInt ∧ uc.toInt ≤ 4 ∨ 8 ≤ uc.toInt ∧ uc.toInt ≤ 15))) r ca.toNatClampNeg 4 1 gm gm2 nm zs re na ta ub uc)) (fun _ _ => False) := by
  intro sz
  refine vx_ofW (cc := cX12_factory) (maxL := 9) (ret := (some .boolean)) (by decide) rfl ?_
  intro p e s m args below meth c s₁ B hml hxt hv
  obtain ⟨rfl, hsz, hP, hK, hD0, hG⟩ := hv
  have hx := B.exec
  have hb := B.bytes
  have hr := B.returns
  have hts := atoms_spec (ws := wm_X12_factory) B.pre
  have htb := fun (w : Cond) (h : w ∈ tb) => hts w (List.mem_cons_of_mem _ h)
  have hown : s.vm.findClass RX12 = some m.cls := findClass_of_methodNamed B.named
  have hlocks := B.notSynchronized
  subst hsz
  have hD := hD0.self (sz := s.heap.size)
  generalize hAe : va_A (cW ad cid a2 lx sg gm lg) s.heap.size = A at hD hG ⊢
  have hA : ∀ q : Nat, s.heap.size ≤ q → A q := fun q h => by rw [← hAe]; exact Or.inr h
  have hS : va_S A s.heap s.heap [] := va_S.rf
  have hl := lv_entry ([eV (ad 0) x, .int ca, .int nm, .int zs, .int re, .int na, .int ta, .int ub, .int uc]) (n := 9) (by rw [show (lg_sl ([eV (ad 0) x, .int ca, .int nm, .int zs, .int re, .int na, .int ta, .int ub, .int uc])).length = 9 from by simp [lg_sl, eV_cat, cat_i, cat_l]]; exact Nat.le_of_ble_eq_true rfl)
  rw [lg_entry_eq]
  generalize (lg_sl ([eV (ad 0) x, .int ca, .int nm, .int zs, .int re, .int na, .int ta, .int ub, .int uc]) ++ List.replicate (9 - (lg_sl ([eV (ad 0) x, .int ca, .int nm, .int zs, .int re, .int na, .int ta, .int ub, .int uc])).length) Slot.unset).toArray = ls at hl ⊢
  have hl : lv_has ls 9 [(0, eV (ad 0) x), (1, .int ca), (2, .int nm), (3, .int zs), (4, .int re), (5, .int na), (6, .int ta), (7, .int ub), (8, .int uc)] := by simp [lv_args, eV_cat, cat_i, cat_l] at hl; exact hl
  have hj65 : ∀ (gm_j65 : Nat → Nat → Int32) (y0_65 : Int32) (_ : iv 0 0 x) (_ : iv 0 1 zs) (_ : iv 0 1 y0_65) (_ : KS [1, 7, 8, 9, 10, 54] gm gm_j65) (_ : CI sg gm_j65) (_ : ADC (0 ≤ ca.toInt ∧ ca.toInt ≤ 7 ∧ 0 ≤ nm.toInt ∧ nm.toInt ≤ 25 ∧ 0 ≤ re.toInt ∧ re.toInt ≤ 7 ∧ 0 ≤ na.toInt ∧ na.toInt ≤ 3 ∧ (1 ≤ na.toInt → (0 ≤ ta.toInt ∧ ta.toInt ≤ 4 ∨ 8 ≤ ta.toInt ∧ ta.toInt ≤ 15)) ∧ (2 ≤ na.toInt → (0 ≤ ub.toInt ∧ ub.toInt ≤ 4 ∨ 8 ≤ ub.toInt ∧ ub.toInt ≤ 15)) ∧ (3 ≤ na.toInt → (0 ≤ uc.toInt ∧ uc.toInt ≤ 4 ∨ 8 ≤ uc.toInt ∧ uc.toInt ≤ 15))) y0_65 ca.toNatClampNeg 4 1 gm gm_j65 nm zs re na ta ub uc) (H : Heap) (locs : List Loc) (ls : Array Slot), va_P (dC, dI) vwCl (cW ad cid a2 lx sg gm_j65 lg) H → va_D A (cW ad cid a2 lx sg gm_j65 lg) → va_S A s.heap H locs → lv_has ls 9 [(0, eV (ad 0) x), (1, .int ca), (2, .int nm), (3, .int zs), (4, .int re), (5, .int na), (6, .int ta), (7, .int ub), (8, .int uc)] → W p l e (headSpec wm_X12_factory ({ frames := 2, cells := 1, slots := 6, locals := 51 })).room s m ([eV (ad 0) x, .int ca, .int nm, .int zs, .int re, .int na, .int ta, .int ub, .int uc] : List Value).toArray below meth c H locs 0 0 (vx_MQ below (cQx dC dI ad cid a2 lx (fun v u => ∃ r : Int32, v = some (.int r) ∧ ∃ (sg2 : Nat → Int32) (gm2 : Nat → Nat → Int32) (lg2 : Nat → Nat → Int64), u = (sg2, gm2, lg2) ∧ CI sg2 gm2 ∧ KS [] sg sg2 ∧ KS [1, 7, 8, 9, 10, 54] gm gm2 ∧ KS [] lg lg2 ∧ (iv 0 1 r) ∧ (ADC (0 ≤ ca.toInt ∧ ca.toInt ≤ 7 ∧ 0 ≤ nm.toInt ∧ nm.toInt ≤ 25 ∧ 0 ≤ re.toInt ∧ re.toInt ≤ 7 ∧ 0 ≤ na.toInt ∧ na.toInt ≤ 3 ∧ (1 ≤ na.toInt → (0 ≤ ta.toInt ∧ ta.toInt ≤ 4 ∨ 8 ≤ ta.toInt ∧ ta.toInt ≤ 15)) ∧ (2 ≤ na.toInt → (0 ≤ ub.toInt ∧ ub.toInt ≤ 4 ∨ 8 ≤ ub.toInt ∧ ub.toInt ≤ 15)) ∧ (3 ≤ na.toInt → (0 ≤ uc.toInt ∧ uc.toInt ≤ 4 ∨ 8 ≤ uc.toInt ∧ uc.toInt ≤ 15))) r ca.toNatClampNeg 4 1 gm gm2 nm zs re na ta ub uc)) A) (cX dC dI ad cid a2 lx (fun _ _ => False) A) ([eV (ad 0) x, .int ca, .int nm, .int zs, .int re, .int na, .int ta, .int ub, .int uc] : List Value).toArray s 1 6 A) (F0 m 65 ls [.int y0_65]) := by
    intro gm_j65 y0_65 hsx0_65 hsx3_65 hy0_65 hkg_j65 hI_j65 hA H locs ls hP hD hS hl
    exact W.nb (fun hN => W.widen (k := 1) (n := 6) (by decide) (by decide) (vx_ret (W.zret (v := y0_65) hx hb hr (iv_nb hy0_65) (fun t ht hW => ⟨⟨some (.int y0_65), (sg, gm_j65, lg), rfl, ⟨y0_65, rfl, sg, gm_j65, lg, rfl, hI_j65, KS_rf, (KS_tr (L := [1, 7, 8, 9, 10, 54]) KS_rf hkg_j65 (by decide)), KS_rf, hy0_65, (hA)⟩, by rw [ht]; exact hP, va_K.moved hW.alike hK, hD⟩, hS.F ht, by rw [ht]; exact hN⟩) hS.2.2 dX12_factory_65)))
  have hj64 : ∀ (gm_j64 : Nat → Nat → Int32) (_ : iv 0 0 x) (_ : iv 0 1 zs) (_ : KS [1, 7, 8, 9, 10, 54] gm gm_j64) (_ : CI sg gm_j64) (_ : (¬ (0 ≤ ca.toInt ∧ ca.toInt ≤ 7 ∧ 0 ≤ nm.toInt ∧ nm.toInt ≤ 25 ∧ 0 ≤ re.toInt ∧ re.toInt ≤ 7 ∧ 0 ≤ na.toInt ∧ na.toInt ≤ 3 ∧ (1 ≤ na.toInt → (0 ≤ ta.toInt ∧ ta.toInt ≤ 4 ∨ 8 ≤ ta.toInt ∧ ta.toInt ≤ 15)) ∧ (2 ≤ na.toInt → (0 ≤ ub.toInt ∧ ub.toInt ≤ 4 ∨ 8 ≤ ub.toInt ∧ ub.toInt ≤ 15)) ∧ (3 ≤ na.toInt → (0 ≤ uc.toInt ∧ uc.toInt ≤ 4 ∨ 8 ≤ uc.toInt ∧ uc.toInt ≤ 15))) ∨ 4 ≤ (gm 1 ca.toNatClampNeg).toInt) ∧ gm_j64 1 = gm 1 ∧ SGE gm gm_j64) (H : Heap) (locs : List Loc) (ls : Array Slot), va_P (dC, dI) vwCl (cW ad cid a2 lx sg gm_j64 lg) H → va_D A (cW ad cid a2 lx sg gm_j64 lg) → va_S A s.heap H locs → lv_has ls 9 [(0, eV (ad 0) x), (1, .int ca), (2, .int nm), (3, .int zs), (4, .int re), (5, .int na), (6, .int ta), (7, .int ub), (8, .int uc)] → W p l e (headSpec wm_X12_factory ({ frames := 2, cells := 1, slots := 6, locals := 51 })).room s m ([eV (ad 0) x, .int ca, .int nm, .int zs, .int re, .int na, .int ta, .int ub, .int uc] : List Value).toArray below meth c H locs 0 0 (vx_MQ below (cQx dC dI ad cid a2 lx (fun v u => ∃ r : Int32, v = some (.int r) ∧ ∃ (sg2 : Nat → Int32) (gm2 : Nat → Nat → Int32) (lg2 : Nat → Nat → Int64), u = (sg2, gm2, lg2) ∧ CI sg2 gm2 ∧ KS [] sg sg2 ∧ KS [1, 7, 8, 9, 10, 54] gm gm2 ∧ KS [] lg lg2 ∧ (iv 0 1 r) ∧ (ADC (0 ≤ ca.toInt ∧ ca.toInt ≤ 7 ∧ 0 ≤ nm.toInt ∧ nm.toInt ≤ 25 ∧ 0 ≤ re.toInt ∧ re.toInt ≤ 7 ∧ 0 ≤ na.toInt ∧ na.toInt ≤ 3 ∧ (1 ≤ na.toInt → (0 ≤ ta.toInt ∧ ta.toInt ≤ 4 ∨ 8 ≤ ta.toInt ∧ ta.toInt ≤ 15)) ∧ (2 ≤ na.toInt → (0 ≤ ub.toInt ∧ ub.toInt ≤ 4 ∨ 8 ≤ ub.toInt ∧ ub.toInt ≤ 15)) ∧ (3 ≤ na.toInt → (0 ≤ uc.toInt ∧ uc.toInt ≤ 4 ∨ 8 ≤ uc.toInt ∧ uc.toInt ≤ 15))) r ca.toNatClampNeg 4 1 gm gm2 nm zs re na ta ub uc)) A) (cX dC dI ad cid a2 lx (fun _ _ => False) A) ([eV (ad 0) x, .int ca, .int nm, .int zs, .int re, .int na, .int ta, .int ub, .int uc] : List Value).toArray s 1 6 A) (F0 m 64 ls []) := by
    intro gm_j64 hsx0_64 hsx3_64 hkg_j64 hI_j64 hno H locs ls hP hD hS hl
    refine lv_iconst (v := 0) hx hb dX12_factory_64 (by decide) ?_
    exact hj65 gm_j64 0 hsx0_64 hsx3_64 (iv_w (iv_k (by decide) : iv 0 0 0) (by decide)) (KS_tr (L := [1, 7, 8, 9, 10, 54]) KS_rf hkg_j64 (by decide)) hI_j64 (Or.inr ⟨rfl, hno.1, hno.2⟩) _ _ _ hP hD hS (lv_sub hl [0, 1, 2, 3, 4, 5, 6, 7, 8] rfl)
  refine lv_iload_n hx hb dX12_factory_0 rfl (lv_at hl 1 rfl) ?_
  refine cm_callS (rest := []) (as := [.int ca]) ⟨hx, hb, hml, hown, htb⟩ (d_isClass2 l dC dI ad cid a2 lx sg gm lg ca hI) (va_cwS 1 htb (gd_S kw_227 kw_228 kw_2 kw_1385) rfl rfl rfl (by decide +kernel) ⟨Nat.le_of_ble_eq_true rfl, Nat.le_of_ble_eq_true rfl⟩)  rfl hl.1 rfl (Nat.le_trans cs_n (by decide)) dX12_factory_1 ⟨Nat.le_of_ble_eq_true rfl, Nat.le_of_ble_eq_true rfl⟩ hK hP hD hS hA hG (fun E ce q9 u_2 H locs hw hP hD hS hce hcv hcl => ?_) (fun v9 u_2 H locs hw hP hD hS => ?_)
  · exact hw.elim
  obtain ⟨r_1, rfl, rfl, hr_1, fl_r_1⟩ := hw
  have hP : va_P (dC, dI) vwCl (cW ad cid a2 lx sg gm lg) H := hP
  have hD : va_D A (cW ad cid a2 lx sg gm lg) := hD
  refine W.eq (g2 := F0 m 4 ls [.int r_1]) rfl ?_
  refine lv_if_eq (tgt := 64) hx hb dX12_factory_4 (by decide) (fun c_4 => ?_) (fun c_4 => ?_)
  · have h_5 : iv 0 0 r_1 := iv_eq c_4 hr_1 (iv_k (by decide) : iv 0 0 0) (by decide)
    exact hj64 gm hvx hvzs KS_rf hI (⟨Or.inl (fun q9 => by { have := i32_0; have := i32_1; have := i32_2; have := i32_m1; have := (hvx).1; have := (hvx).2; have := (hvzs).1; have := (hvzs).2; have := (h_5).1; have := (h_5).2; omega }), (show gm 1 = gm 1 from rfl), ⟨(show gm 8 = gm 8 from rfl), (show gm 9 = gm 9 from rfl), (show gm 10 = gm 10 from rfl), (show gm 7 = gm 7 from rfl), (show gm 54 = gm 54 from rfl)⟩⟩) _ _ _ hP hD hS (lv_sub hl [0, 1, 2, 3, 4, 5, 6, 7, 8] rfl)
  · have h_6 : iv 1 1 r_1 := iv_neL c_4 hr_1 (by decide)
    refine lv_iload_n hx hb dX12_factory_7 rfl (lv_at hl 2 rfl) ?_
    refine cm_callS (rest := []) (as := [.int nm]) ⟨hx, hb, hml, hown, htb⟩ (d_isLetter2 l dC dI ad cid a2 lx sg gm lg nm hI) (va_cwS 1 htb (gd_S kw_272 kw_273 kw_2 kw_1399) rfl rfl rfl (by decide +kernel) ⟨Nat.le_of_ble_eq_true rfl, Nat.le_of_ble_eq_true rfl⟩)  rfl hl.1 rfl (Nat.le_trans cs_n (by decide)) dX12_factory_8 ⟨Nat.le_of_ble_eq_true rfl, Nat.le_of_ble_eq_true rfl⟩ hK hP hD hS hA hG (fun E ce q9 u_8 H locs hw hP hD hS hce hcv hcl => ?_) (fun v9 u_8 H locs hw hP hD hS => ?_)
    · exact hw.elim
    obtain ⟨r_7, rfl, rfl, hr_7, fl_r_7⟩ := hw
    have hP : va_P (dC, dI) vwCl (cW ad cid a2 lx sg gm lg) H := hP
    have hD : va_D A (cW ad cid a2 lx sg gm lg) := hD
    refine W.eq (g2 := F0 m 11 ls [.int r_7]) rfl ?_
    refine lv_if_eq (tgt := 64) hx hb dX12_factory_11 (by decide) (fun c_10 => ?_) (fun c_10 => ?_)
    · have h_11 : iv 0 0 r_7 := iv_eq c_10 hr_7 (iv_k (by decide) : iv 0 0 0) (by decide)
      exact hj64 gm hvx hvzs KS_rf hI (⟨Or.inl (fun q9 => by { have := i32_0; have := i32_1; have := i32_2; have := i32_m1; have := (hvx).1; have := (hvx).2; have := (hvzs).1; have := (hvzs).2; have := (h_6).1; have := (h_6).2; have := (h_11).1; have := (h_11).2; omega }), (show gm 1 = gm 1 from rfl), ⟨(show gm 8 = gm 8 from rfl), (show gm 9 = gm 9 from rfl), (show gm 10 = gm 10 from rfl), (show gm 7 = gm 7 from rfl), (show gm 54 = gm 54 from rfl)⟩⟩) _ _ _ hP hD hS (lv_sub hl [0, 1, 2, 3, 4, 5, 6, 7, 8] rfl)
    · have h_12 : iv 1 1 r_7 := iv_neL c_10 hr_7 (by decide)
      refine lv_iload hx hb dX12_factory_14 (lv_at hl 4 rfl) ?_
      refine cm_callS (rest := []) (as := [.int re]) ⟨hx, hb, hml, hown, htb⟩ (d_isClass2 l dC dI ad cid a2 lx sg gm lg re hI) (va_cwS 1 htb (gd_S kw_227 kw_228 kw_2 kw_1385) rfl rfl rfl (by decide +kernel) ⟨Nat.le_of_ble_eq_true rfl, Nat.le_of_ble_eq_true rfl⟩)  rfl hl.1 rfl (Nat.le_trans cs_n (by decide)) dX12_factory_16 ⟨Nat.le_of_ble_eq_true rfl, Nat.le_of_ble_eq_true rfl⟩ hK hP hD hS hA hG (fun E ce q9 u_14 H locs hw hP hD hS hce hcv hcl => ?_) (fun v9 u_14 H locs hw hP hD hS => ?_)
      · exact hw.elim
      obtain ⟨r_13, rfl, rfl, hr_13, fl_r_13⟩ := hw
      have hP : va_P (dC, dI) vwCl (cW ad cid a2 lx sg gm lg) H := hP
      have hD : va_D A (cW ad cid a2 lx sg gm lg) := hD
      refine W.eq (g2 := F0 m 19 ls [.int r_13]) rfl ?_
      refine lv_if_eq (tgt := 64) hx hb dX12_factory_19 (by decide) (fun c_16 => ?_) (fun c_16 => ?_)
      · have h_17 : iv 0 0 r_13 := iv_eq c_16 hr_13 (iv_k (by decide) : iv 0 0 0) (by decide)
        exact hj64 gm hvx hvzs KS_rf hI (⟨Or.inl (fun q9 => by { have := i32_0; have := i32_1; have := i32_2; have := i32_m1; have := (hvx).1; have := (hvx).2; have := (hvzs).1; have := (hvzs).2; have := (h_6).1; have := (h_6).2; have := (h_12).1; have := (h_12).2; have := (h_17).1; have := (h_17).2; omega }), (show gm 1 = gm 1 from rfl), ⟨(show gm 8 = gm 8 from rfl), (show gm 9 = gm 9 from rfl), (show gm 10 = gm 10 from rfl), (show gm 7 = gm 7 from rfl), (show gm 54 = gm 54 from rfl)⟩⟩) _ _ _ hP hD hS (lv_sub hl [0, 1, 2, 3, 4, 5, 6, 7, 8] rfl)
      · have h_18 : iv 1 1 r_13 := iv_neL c_16 hr_13 (by decide)
        refine lv_iload hx hb dX12_factory_22 (lv_at hl 5 rfl) ?_
        refine lv_iload hx hb dX12_factory_24 (lv_at hl 6 rfl) ?_
        refine lv_iload hx hb dX12_factory_26 (lv_at hl 7 rfl) ?_
        refine lv_iload hx hb dX12_factory_28 (lv_at hl 8 rfl) ?_
        refine cm_callS (rest := []) (as := [.int na, .int ta, .int ub, .int uc]) ⟨hx, hb, hml, hown, htb⟩ (d_areTypes2 l dC dI ad cid a2 lx sg gm lg na ta ub uc hI) (va_cwS 4 htb (gd_S kw_245 kw_246 kw_2 kw_1390) rfl rfl rfl (by decide +kernel) ⟨Nat.le_of_ble_eq_true rfl, Nat.le_of_ble_eq_true rfl⟩)  rfl hl.1 rfl (Nat.le_trans cs_n (by decide)) dX12_factory_30 ⟨Nat.le_of_ble_eq_true rfl, Nat.le_of_ble_eq_true rfl⟩ hK hP hD hS hA hG (fun E ce q9 u_20 H locs hw hP hD hS hce hcv hcl => ?_) (fun v9 u_20 H locs hw hP hD hS => ?_)
        · exact hw.elim
        obtain ⟨r_19, rfl, rfl, hr_19, fl_r_19⟩ := hw
        have hP : va_P (dC, dI) vwCl (cW ad cid a2 lx sg gm lg) H := hP
        have hD : va_D A (cW ad cid a2 lx sg gm lg) := hD
        refine W.eq (g2 := F0 m 33 ls [.int r_19]) rfl ?_
        refine lv_if_eq (tgt := 64) hx hb dX12_factory_33 (by decide) (fun c_22 => ?_) (fun c_22 => ?_)
        · have h_23 : iv 0 0 r_19 := iv_eq c_22 hr_19 (iv_k (by decide) : iv 0 0 0) (by decide)
          exact hj64 gm hvx hvzs KS_rf hI (⟨Or.inl (fun q9 => by { have := i32_0; have := i32_1; have := i32_2; have := i32_m1; have := (hvx).1; have := (hvx).2; have := (hvzs).1; have := (hvzs).2; have := (h_6).1; have := (h_6).2; have := (h_12).1; have := (h_12).2; have := (h_18).1; have := (h_18).2; have := (h_23).1; have := (h_23).2; omega }), (show gm 1 = gm 1 from rfl), ⟨(show gm 8 = gm 8 from rfl), (show gm 9 = gm 9 from rfl), (show gm 10 = gm 10 from rfl), (show gm 7 = gm 7 from rfl), (show gm 54 = gm 54 from rfl)⟩⟩) _ _ _ hP hD hS (lv_sub hl [0, 1, 2, 3, 4, 5, 6, 7, 8] rfl)
        · have h_24 : iv 1 1 r_19 := iv_neL c_22 hr_19 (by decide)
          have h_25 : iv 0 7 ca := ⟨by have := fl_r_1; have := i32_0; have := i32_1; have := i32_2; have := i32_m1; have := (hvx).1; have := (hvx).2; have := (hvzs).1; have := (hvzs).2; have := (h_6).1; have := (h_6).2; have := (h_12).1; have := (h_12).2; have := (h_18).1; have := (h_18).2; have := (h_24).1; have := (h_24).2; omega, by have := fl_r_1; have := i32_0; have := i32_1; have := i32_2; have := i32_m1; have := (hvx).1; have := (hvx).2; have := (hvzs).1; have := (hvzs).2; have := (h_6).1; have := (h_6).2; have := (h_12).1; have := (h_12).2; have := (h_18).1; have := (h_18).2; have := (h_24).1; have := (h_24).2; omega⟩
          have h_26 : iv 0 25 nm := ⟨by have := fl_r_7; have := i32_0; have := i32_1; have := i32_2; have := i32_m1; have := (hvx).1; have := (hvx).2; have := (hvzs).1; have := (hvzs).2; have := (h_6).1; have := (h_6).2; have := (h_12).1; have := (h_12).2; have := (h_18).1; have := (h_18).2; have := (h_24).1; have := (h_24).2; have := (h_25).1; have := (h_25).2; omega, by have := fl_r_7; have := i32_0; have := i32_1; have := i32_2; have := i32_m1; have := (hvx).1; have := (hvx).2; have := (hvzs).1; have := (hvzs).2; have := (h_6).1; have := (h_6).2; have := (h_12).1; have := (h_12).2; have := (h_18).1; have := (h_18).2; have := (h_24).1; have := (h_24).2; have := (h_25).1; have := (h_25).2; omega⟩
          have h_27 : iv 0 7 re := ⟨by have := fl_r_13; have := i32_0; have := i32_1; have := i32_2; have := i32_m1; have := (hvx).1; have := (hvx).2; have := (hvzs).1; have := (hvzs).2; have := (h_6).1; have := (h_6).2; have := (h_12).1; have := (h_12).2; have := (h_18).1; have := (h_18).2; have := (h_24).1; have := (h_24).2; have := (h_25).1; have := (h_25).2; have := (h_26).1; have := (h_26).2; omega, by have := fl_r_13; have := i32_0; have := i32_1; have := i32_2; have := i32_m1; have := (hvx).1; have := (hvx).2; have := (hvzs).1; have := (hvzs).2; have := (h_6).1; have := (h_6).2; have := (h_12).1; have := (h_12).2; have := (h_18).1; have := (h_18).2; have := (h_24).1; have := (h_24).2; have := (h_25).1; have := (h_25).2; have := (h_26).1; have := (h_26).2; omega⟩
          have h_28 : iv 0 3 na := ⟨by have := fl_r_19; have := i32_0; have := i32_1; have := i32_2; have := i32_m1; have := (hvx).1; have := (hvx).2; have := (hvzs).1; have := (hvzs).2; have := (h_6).1; have := (h_6).2; have := (h_12).1; have := (h_12).2; have := (h_18).1; have := (h_18).2; have := (h_24).1; have := (h_24).2; have := (h_25).1; have := (h_25).2; have := (h_26).1; have := (h_26).2; have := (h_27).1; have := (h_27).2; omega, by have := fl_r_19; have := i32_0; have := i32_1; have := i32_2; have := i32_m1; have := (hvx).1; have := (hvx).2; have := (hvzs).1; have := (hvzs).2; have := (h_6).1; have := (h_6).2; have := (h_12).1; have := (h_12).2; have := (h_18).1; have := (h_18).2; have := (h_24).1; have := (h_24).2; have := (h_25).1; have := (h_25).2; have := (h_26).1; have := (h_26).2; have := (h_27).1; have := (h_27).2; omega⟩
          refine ec_aload_n hx hb dX12_factory_36 rfl (lv_at hl 0 rfl) ?_
          refine cr_get (t := 0) (j := 0) (C := RX12) (T := TX12) (N := 12) (v := eV (ad 12) 0) hx hb htb inX12 hown hK hP hvx (by decide) (by decide) (by decide) rfl (by decide) (htb _ kw_13) (cV_c rfl (by decide) (by rw [show cMu 0 0 = 0 from rfl, Nat.zero_mul]; rfl)) dX12_factory_37 ?_
          refine lv_iload_n hx hb dX12_factory_40 rfl (lv_at hl 1 rfl) ?_
          refine cr_aald (t := 12) (C := RX2) (v := eV (ad 7) ca) hx hb hK hP (iv_k (by decide) : iv 0 0 0) (by decide) (by decide) (by decide) (by decide) (by decide) rfl (show vp_in ca (cLen 12) from (show vp_in ca 8 from (iv_in h_25 (by decide)))) (cAr_c (by decide) (h_25).1 (by rw [show cAm 12 = 0 from rfl, Nat.zero_mul, show cAo 12 = 0 from rfl]; omega)) dX12_factory_41 ?_
          refine lv_iload_n hx hb dX12_factory_42 rfl (lv_at hl 2 rfl) ?_
          refine lv_iload_n hx hb dX12_factory_43 rfl (lv_at hl 3 rfl) ?_
          refine lv_iload hx hb dX12_factory_44 (lv_at hl 4 rfl) ?_
          refine lv_iload hx hb dX12_factory_46 (lv_at hl 5 rfl) ?_
          refine lv_iload hx hb dX12_factory_48 (lv_at hl 6 rfl) ?_
          refine lv_iload hx hb dX12_factory_50 (lv_at hl 7 rfl) ?_
          refine lv_iload hx hb dX12_factory_52 (lv_at hl 8 rfl) ?_
          refine cm_callV (t := 7) (C := RX2) (T := TX2) (N := 8) (rest := []) (as := [.int nm, .int zs, .int re, .int na, .int ta, .int ub, .int uc]) ⟨hx, hb, hml, hown, htb⟩ (d_addFactory9 l dC dI ad cid a2 lx sg gm lg ca nm zs re na ta ub uc hI h_25 h_26 hvzs h_27 h_28) (cwV 7 htb (gd_V kw_285 kw_286 kw_287 kw_15 kw_1404) rfl rfl rfl (by decide +kernel) ⟨Nat.le_of_ble_eq_true rfl, Nat.le_of_ble_eq_true rfl⟩) h_25 (by decide) (by decide) rfl rfl hl.1 rfl (Nat.le_trans cs_n (by decide)) dX12_factory_54 ⟨Nat.le_of_ble_eq_true rfl, Nat.le_of_ble_eq_true rfl⟩ hK hP hD hS hA hG (fun E ce q9 u_30 H locs hw hP hD hS hce hcv hcl => ?_) (fun v9 u_30 H locs hw hP hD hS => ?_)
          · exact hw.elim
          obtain ⟨r_29, rfl, sgv_31, gmv_31, lgv_31, rfl, hIv_31, ksv_31, kgv_31, klv_31, hr_29, fA_r_29⟩ := hw
          obtain rfl := KS_nil ksv_31
          obtain rfl := KS_nil klv_31
          have hP : va_P (dC, dI) vwCl (cW ad cid a2 lx sg gmv_31 lg) H := hP
          have hD : va_D A (cW ad cid a2 lx sg gmv_31 lg) := hD
          refine W.eq (g2 := F0 m 57 ls [.int r_29]) rfl ?_
          refine lv_if_eq (tgt := 64) hx hb dX12_factory_57 (by decide) (fun c_32 => ?_) (fun c_32 => ?_)
          · have h_33 : iv 0 0 r_29 := iv_eq c_32 hr_29 (iv_k (by decide) : iv 0 0 0) (by decide)
            exact hj64 gmv_31 hvx hvzs (KS_tr (L := [1, 7, 8, 9, 10, 54]) KS_rf kgv_31 (by decide)) hIv_31 (⟨Or.inr (ADC_0 fA_r_29 (by have := i32_0; have := i32_1; have := i32_2; have := i32_m1; have := (hvx).1; have := (hvx).2; have := (hvzs).1; have := (hvzs).2; have := (h_6).1; have := (h_6).2; have := (h_12).1; have := (h_12).2; have := (h_18).1; have := (h_18).2; have := (h_24).1; have := (h_24).2; have := (h_25).1; have := (h_25).2; have := (h_26).1; have := (h_26).2; have := (h_27).1; have := (h_27).2; have := (h_28).1; have := (h_28).2; have := (h_33).1; have := (h_33).2; omega)).1, (ADC_0 fA_r_29 (by have := i32_0; have := i32_1; have := i32_2; have := i32_m1; have := (hvx).1; have := (hvx).2; have := (hvzs).1; have := (hvzs).2; have := (h_6).1; have := (h_6).2; have := (h_12).1; have := (h_12).2; have := (h_18).1; have := (h_18).2; have := (h_24).1; have := (h_24).2; have := (h_25).1; have := (h_25).2; have := (h_26).1; have := (h_26).2; have := (h_27).1; have := (h_27).2; have := (h_28).1; have := (h_28).2; have := (h_33).1; have := (h_33).2; omega)).2⟩) _ _ _ hP hD hS (lv_sub hl [0, 1, 2, 3, 4, 5, 6, 7, 8] rfl)
          · have h_34 : iv 1 1 r_29 := iv_neL c_32 hr_29 (by decide)
            refine lv_iconst (v := 1) hx hb dX12_factory_60 (by decide) ?_
            refine lv_goto (tgt := 65) hx hb dX12_factory_61 (by decide) ?_
            exact hj65 gmv_31 1 hvx hvzs (iv_w (iv_k (by decide) : iv 1 1 1) (by decide)) (KS_tr (L := [1, 7, 8, 9, 10, 54]) KS_rf kgv_31 (by decide)) hIv_31 (ADC_1 fA_r_29 (by have := i32_0; have := i32_1; have := i32_2; have := i32_m1; have := (hvx).1; have := (hvx).2; have := (hvzs).1; have := (hvzs).2; have := (h_6).1; have := (h_6).2; have := (h_12).1; have := (h_12).2; have := (h_18).1; have := (h_18).2; have := (h_24).1; have := (h_24).2; have := (h_25).1; have := (h_25).2; have := (h_26).1; have := (h_26).2; have := (h_27).1; have := (h_27).2; have := (h_28).1; have := (h_28).2; have := (h_34).1; have := (h_34).2; omega) (by have := i32_0; have := i32_1; have := i32_2; have := i32_m1; have := (hvx).1; have := (hvx).2; have := (hvzs).1; have := (hvzs).2; have := (h_6).1; have := (h_6).2; have := (h_12).1; have := (h_12).2; have := (h_18).1; have := (h_18).2; have := (h_24).1; have := (h_24).2; have := (h_25).1; have := (h_25).2; have := (h_26).1; have := (h_26).2; have := (h_27).1; have := (h_27).2; have := (h_28).1; have := (h_28).2; have := (h_34).1; have := (h_34).2; omega) rfl) _ _ _ hP hD hS (lv_sub hl [0, 1, 2, 3, 4, 5, 6, 7, 8] rfl)

set_option maxHeartbeats 4000000 in
set_option maxRecDepth 100000 in
theorem d_setter9 (l : Launch) (dC : Nat → ClassId) (dI : Nat → Nat → Nat) (ad : Nat → Nat → Nat) (cid : Nat → ClassId) (a2 : Nat → Nat) (lx : List Nat) (sg : Nat → Int32) (gm : Nat → Nat → Int32) (lg : Nat → Nat → Int64) (x : Int32) (ca : Int32) (nm : Int32) (ty : Int32) (hI : CI sg gm) (hvx : iv 0 0 x) : CMt dC dI ad cid a2 lx l yX12_setter wm_X12_setter ({ frames := 1, cells := 1, slots := 6, locals := 22 }) [eV (ad 0) x, .int ca, .int nm, .int ty] sg gm lg (fun v u => ∃ r : Int32, v = some (.int r) ∧ ∃ (sg2 : Nat → Int32) (gm2 : Nat → Nat → Int32) (lg2 : Nat → Nat → Int64), u = (sg2, gm2, lg2) ∧ CI sg2 gm2 ∧ KS [] sg sg2 ∧ KS [3, 55] gm gm2 ∧ KS [] lg lg2 ∧ (iv 0 1 r) ∧ (ADS9 (0 ≤ ca.toInt ∧ ca.toInt ≤ 7 ∧ 0 ≤ nm.toInt ∧ nm.toInt ≤ 25 ∧ (0 ≤ ty.toInt ∧ ty.toInt ≤ 4 ∨ 8 ≤ ty.toInt ∧ ty.toInt ≤ 15)) r ca.toNatClampNeg nm.toNatClampNeg ty (gm 3) (gm2 3) (gm 55) (gm2 55))) (fun _ _ => False) := by
  intro sz
  refine vx_ofW (cc := cX12_setter) (maxL := 4) (ret := (some .boolean)) (by decide) rfl ?_
  intro p e s m args below meth c s₁ B hml hxt hv
  obtain ⟨rfl, hsz, hP, hK, hD0, hG⟩ := hv
  have hx := B.exec
  have hb := B.bytes
  have hr := B.returns
  have hts := atoms_spec (ws := wm_X12_setter) B.pre
  have htb := fun (w : Cond) (h : w ∈ tb) => hts w (List.mem_cons_of_mem _ h)
  have hown : s.vm.findClass RX12 = some m.cls := findClass_of_methodNamed B.named
  have hlocks := B.notSynchronized
  subst hsz
  have hD := hD0.self (sz := s.heap.size)
  generalize hAe : va_A (cW ad cid a2 lx sg gm lg) s.heap.size = A at hD hG ⊢
  have hA : ∀ q : Nat, s.heap.size ≤ q → A q := fun q h => by rw [← hAe]; exact Or.inr h
  have hS : va_S A s.heap s.heap [] := va_S.rf
  have hl := lv_entry ([eV (ad 0) x, .int ca, .int nm, .int ty]) (n := 4) (by rw [show (lg_sl ([eV (ad 0) x, .int ca, .int nm, .int ty])).length = 4 from by simp [lg_sl, eV_cat, cat_i, cat_l]]; exact Nat.le_of_ble_eq_true rfl)
  rw [lg_entry_eq]
  generalize (lg_sl ([eV (ad 0) x, .int ca, .int nm, .int ty]) ++ List.replicate (4 - (lg_sl ([eV (ad 0) x, .int ca, .int nm, .int ty])).length) Slot.unset).toArray = ls at hl ⊢
  have hl : lv_has ls 4 [(0, eV (ad 0) x), (1, .int ca), (2, .int nm), (3, .int ty)] := by simp [lv_args, eV_cat, cat_i, cat_l] at hl; exact hl
  have hj40 : ∀ (gm_j40 : Nat → Nat → Int32) (y0_40 : Int32) (_ : iv 0 0 x) (_ : iv 0 1 y0_40) (_ : KS [3, 55] gm gm_j40) (_ : CI sg gm_j40) (_ : ADS9 (0 ≤ ca.toInt ∧ ca.toInt ≤ 7 ∧ 0 ≤ nm.toInt ∧ nm.toInt ≤ 25 ∧ (0 ≤ ty.toInt ∧ ty.toInt ≤ 4 ∨ 8 ≤ ty.toInt ∧ ty.toInt ≤ 15)) y0_40 ca.toNatClampNeg nm.toNatClampNeg ty (gm 3) (gm_j40 3) (gm 55) (gm_j40 55)) (H : Heap) (locs : List Loc) (ls : Array Slot), va_P (dC, dI) vwCl (cW ad cid a2 lx sg gm_j40 lg) H → va_D A (cW ad cid a2 lx sg gm_j40 lg) → va_S A s.heap H locs → lv_has ls 4 [(0, eV (ad 0) x), (1, .int ca), (2, .int nm), (3, .int ty)] → W p l e (headSpec wm_X12_setter ({ frames := 1, cells := 1, slots := 6, locals := 22 })).room s m ([eV (ad 0) x, .int ca, .int nm, .int ty] : List Value).toArray below meth c H locs 0 0 (vx_MQ below (cQx dC dI ad cid a2 lx (fun v u => ∃ r : Int32, v = some (.int r) ∧ ∃ (sg2 : Nat → Int32) (gm2 : Nat → Nat → Int32) (lg2 : Nat → Nat → Int64), u = (sg2, gm2, lg2) ∧ CI sg2 gm2 ∧ KS [] sg sg2 ∧ KS [3, 55] gm gm2 ∧ KS [] lg lg2 ∧ (iv 0 1 r) ∧ (ADS9 (0 ≤ ca.toInt ∧ ca.toInt ≤ 7 ∧ 0 ≤ nm.toInt ∧ nm.toInt ≤ 25 ∧ (0 ≤ ty.toInt ∧ ty.toInt ≤ 4 ∨ 8 ≤ ty.toInt ∧ ty.toInt ≤ 15)) r ca.toNatClampNeg nm.toNatClampNeg ty (gm 3) (gm2 3) (gm 55) (gm2 55))) A) (cX dC dI ad cid a2 lx (fun _ _ => False) A) ([eV (ad 0) x, .int ca, .int nm, .int ty] : List Value).toArray s 1 6 A) (F0 m 40 ls [.int y0_40]) := by
    intro gm_j40 y0_40 hsx0_40 hy0_40 hkg_j40 hI_j40 hS9 H locs ls hP hD hS hl
    exact W.nb (fun hN => W.widen (k := 1) (n := 6) (by decide) (by decide) (vx_ret (W.zret (v := y0_40) hx hb hr (iv_nb hy0_40) (fun t ht hW => ⟨⟨some (.int y0_40), (sg, gm_j40, lg), rfl, ⟨y0_40, rfl, sg, gm_j40, lg, rfl, hI_j40, KS_rf, (KS_tr (L := [3, 55]) KS_rf hkg_j40 (by decide)), KS_rf, hy0_40, (hS9)⟩, by rw [ht]; exact hP, va_K.moved hW.alike hK, hD⟩, hS.F ht, by rw [ht]; exact hN⟩) hS.2.2 dX12_setter_40)))
  have hj39 : ∀ (gm_j39 : Nat → Nat → Int32) (_ : iv 0 0 x) (_ : KS [3, 55] gm gm_j39) (_ : CI sg gm_j39) (_ : (¬ (0 ≤ ca.toInt ∧ ca.toInt ≤ 7 ∧ 0 ≤ nm.toInt ∧ nm.toInt ≤ 25 ∧ (0 ≤ ty.toInt ∧ ty.toInt ≤ 4 ∨ 8 ≤ ty.toInt ∧ ty.toInt ≤ 15)) ∨ 8 ≤ (gm 3 ca.toNatClampNeg).toInt ∨ ¬ gm 55 (26 * ca.toNatClampNeg + nm.toNatClampNeg) = -1) ∧ gm_j39 3 = gm 3 ∧ gm_j39 55 = gm 55) (H : Heap) (locs : List Loc) (ls : Array Slot), va_P (dC, dI) vwCl (cW ad cid a2 lx sg gm_j39 lg) H → va_D A (cW ad cid a2 lx sg gm_j39 lg) → va_S A s.heap H locs → lv_has ls 4 [(0, eV (ad 0) x), (1, .int ca), (2, .int nm), (3, .int ty)] → W p l e (headSpec wm_X12_setter ({ frames := 1, cells := 1, slots := 6, locals := 22 })).room s m ([eV (ad 0) x, .int ca, .int nm, .int ty] : List Value).toArray below meth c H locs 0 0 (vx_MQ below (cQx dC dI ad cid a2 lx (fun v u => ∃ r : Int32, v = some (.int r) ∧ ∃ (sg2 : Nat → Int32) (gm2 : Nat → Nat → Int32) (lg2 : Nat → Nat → Int64), u = (sg2, gm2, lg2) ∧ CI sg2 gm2 ∧ KS [] sg sg2 ∧ KS [3, 55] gm gm2 ∧ KS [] lg lg2 ∧ (iv 0 1 r) ∧ (ADS9 (0 ≤ ca.toInt ∧ ca.toInt ≤ 7 ∧ 0 ≤ nm.toInt ∧ nm.toInt ≤ 25 ∧ (0 ≤ ty.toInt ∧ ty.toInt ≤ 4 ∨ 8 ≤ ty.toInt ∧ ty.toInt ≤ 15)) r ca.toNatClampNeg nm.toNatClampNeg ty (gm 3) (gm2 3) (gm 55) (gm2 55))) A) (cX dC dI ad cid a2 lx (fun _ _ => False) A) ([eV (ad 0) x, .int ca, .int nm, .int ty] : List Value).toArray s 1 6 A) (F0 m 39 ls []) := by
    intro gm_j39 hsx0_39 hkg_j39 hI_j39 hno H locs ls hP hD hS hl
    refine lv_iconst (v := 0) hx hb dX12_setter_39 (by decide) ?_
    exact hj40 gm_j39 0 hsx0_39 (iv_w (iv_k (by decide) : iv 0 0 0) (by decide)) (KS_tr (L := [3, 55]) KS_rf hkg_j39 (by decide)) hI_j39 (Or.inr ⟨rfl, hno.1, hno.2⟩) _ _ _ hP hD hS (lv_sub hl [0, 1, 2, 3] rfl)
  refine lv_iload_n hx hb dX12_setter_0 rfl (lv_at hl 1 rfl) ?_
  refine cm_callS (rest := []) (as := [.int ca]) ⟨hx, hb, hml, hown, htb⟩ (d_isClass2 l dC dI ad cid a2 lx sg gm lg ca hI) (va_cwS 1 htb (gd_S kw_227 kw_228 kw_2 kw_1385) rfl rfl rfl (by decide +kernel) ⟨Nat.le_of_ble_eq_true rfl, Nat.le_of_ble_eq_true rfl⟩)  rfl hl.1 rfl (Nat.le_trans cs_n (by decide)) dX12_setter_1 ⟨Nat.le_of_ble_eq_true rfl, Nat.le_of_ble_eq_true rfl⟩ hK hP hD hS hA hG (fun E ce q9 u_2 H locs hw hP hD hS hce hcv hcl => ?_) (fun v9 u_2 H locs hw hP hD hS => ?_)
  · exact hw.elim
  obtain ⟨r_1, rfl, rfl, hr_1, fl_r_1⟩ := hw
  have hP : va_P (dC, dI) vwCl (cW ad cid a2 lx sg gm lg) H := hP
  have hD : va_D A (cW ad cid a2 lx sg gm lg) := hD
  refine W.eq (g2 := F0 m 4 ls [.int r_1]) rfl ?_
  refine lv_if_eq (tgt := 39) hx hb dX12_setter_4 (by decide) (fun c_4 => ?_) (fun c_4 => ?_)
  · have h_5 : iv 0 0 r_1 := iv_eq c_4 hr_1 (iv_k (by decide) : iv 0 0 0) (by decide)
    exact hj39 gm hvx KS_rf hI (⟨Or.inl (fun q9 => by { have := i32_0; have := i32_1; have := i32_2; have := i32_m1; have := (hvx).1; have := (hvx).2; have := (h_5).1; have := (h_5).2; omega }), (show gm 3 = gm 3 from rfl), (show gm 55 = gm 55 from rfl)⟩) _ _ _ hP hD hS (lv_sub hl [0, 1, 2, 3] rfl)
  · have h_6 : iv 1 1 r_1 := iv_neL c_4 hr_1 (by decide)
    refine lv_iload_n hx hb dX12_setter_7 rfl (lv_at hl 2 rfl) ?_
    refine cm_callS (rest := []) (as := [.int nm]) ⟨hx, hb, hml, hown, htb⟩ (d_isLetter2 l dC dI ad cid a2 lx sg gm lg nm hI) (va_cwS 1 htb (gd_S kw_272 kw_273 kw_2 kw_1399) rfl rfl rfl (by decide +kernel) ⟨Nat.le_of_ble_eq_true rfl, Nat.le_of_ble_eq_true rfl⟩)  rfl hl.1 rfl (Nat.le_trans cs_n (by decide)) dX12_setter_8 ⟨Nat.le_of_ble_eq_true rfl, Nat.le_of_ble_eq_true rfl⟩ hK hP hD hS hA hG (fun E ce q9 u_8 H locs hw hP hD hS hce hcv hcl => ?_) (fun v9 u_8 H locs hw hP hD hS => ?_)
    · exact hw.elim
    obtain ⟨r_7, rfl, rfl, hr_7, fl_r_7⟩ := hw
    have hP : va_P (dC, dI) vwCl (cW ad cid a2 lx sg gm lg) H := hP
    have hD : va_D A (cW ad cid a2 lx sg gm lg) := hD
    refine W.eq (g2 := F0 m 11 ls [.int r_7]) rfl ?_
    refine lv_if_eq (tgt := 39) hx hb dX12_setter_11 (by decide) (fun c_10 => ?_) (fun c_10 => ?_)
    · have h_11 : iv 0 0 r_7 := iv_eq c_10 hr_7 (iv_k (by decide) : iv 0 0 0) (by decide)
      exact hj39 gm hvx KS_rf hI (⟨Or.inl (fun q9 => by { have := i32_0; have := i32_1; have := i32_2; have := i32_m1; have := (hvx).1; have := (hvx).2; have := (h_6).1; have := (h_6).2; have := (h_11).1; have := (h_11).2; omega }), (show gm 3 = gm 3 from rfl), (show gm 55 = gm 55 from rfl)⟩) _ _ _ hP hD hS (lv_sub hl [0, 1, 2, 3] rfl)
    · have h_12 : iv 1 1 r_7 := iv_neL c_10 hr_7 (by decide)
      refine lv_iload_n hx hb dX12_setter_14 rfl (lv_at hl 3 rfl) ?_
      refine cm_callS (rest := []) (as := [.int ty]) ⟨hx, hb, hml, hown, htb⟩ (d_isType2 l dC dI ad cid a2 lx sg gm lg ty hI) (va_cwS 1 htb (gd_S kw_247 kw_248 kw_2 kw_1391) rfl rfl rfl (by decide +kernel) ⟨Nat.le_of_ble_eq_true rfl, Nat.le_of_ble_eq_true rfl⟩)  rfl hl.1 rfl (Nat.le_trans cs_n (by decide)) dX12_setter_15 ⟨Nat.le_of_ble_eq_true rfl, Nat.le_of_ble_eq_true rfl⟩ hK hP hD hS hA hG (fun E ce q9 u_14 H locs hw hP hD hS hce hcv hcl => ?_) (fun v9 u_14 H locs hw hP hD hS => ?_)
      · exact hw.elim
      obtain ⟨r_13, rfl, rfl, hr_13, fl_r_13⟩ := hw
      have hP : va_P (dC, dI) vwCl (cW ad cid a2 lx sg gm lg) H := hP
      have hD : va_D A (cW ad cid a2 lx sg gm lg) := hD
      refine W.eq (g2 := F0 m 18 ls [.int r_13]) rfl ?_
      refine lv_if_eq (tgt := 39) hx hb dX12_setter_18 (by decide) (fun c_16 => ?_) (fun c_16 => ?_)
      · have h_17 : iv 0 0 r_13 := iv_eq c_16 hr_13 (iv_k (by decide) : iv 0 0 0) (by decide)
        exact hj39 gm hvx KS_rf hI (⟨Or.inl (fun q9 => by { have := i32_0; have := i32_1; have := i32_2; have := i32_m1; have := (hvx).1; have := (hvx).2; have := (h_6).1; have := (h_6).2; have := (h_12).1; have := (h_12).2; have := (h_17).1; have := (h_17).2; omega }), (show gm 3 = gm 3 from rfl), (show gm 55 = gm 55 from rfl)⟩) _ _ _ hP hD hS (lv_sub hl [0, 1, 2, 3] rfl)
      · have h_18 : iv 1 1 r_13 := iv_neL c_16 hr_13 (by decide)
        have h_19 : iv 0 7 ca := ⟨by have := fl_r_1; have := i32_0; have := i32_1; have := i32_2; have := i32_m1; have := (hvx).1; have := (hvx).2; have := (h_6).1; have := (h_6).2; have := (h_12).1; have := (h_12).2; have := (h_18).1; have := (h_18).2; omega, by have := fl_r_1; have := i32_0; have := i32_1; have := i32_2; have := i32_m1; have := (hvx).1; have := (hvx).2; have := (h_6).1; have := (h_6).2; have := (h_12).1; have := (h_12).2; have := (h_18).1; have := (h_18).2; omega⟩
        have h_20 : iv 0 25 nm := ⟨by have := fl_r_7; have := i32_0; have := i32_1; have := i32_2; have := i32_m1; have := (hvx).1; have := (hvx).2; have := (h_6).1; have := (h_6).2; have := (h_12).1; have := (h_12).2; have := (h_18).1; have := (h_18).2; have := (h_19).1; have := (h_19).2; omega, by have := fl_r_7; have := i32_0; have := i32_1; have := i32_2; have := i32_m1; have := (hvx).1; have := (hvx).2; have := (h_6).1; have := (h_6).2; have := (h_12).1; have := (h_12).2; have := (h_18).1; have := (h_18).2; have := (h_19).1; have := (h_19).2; omega⟩
        have hty9 : iv 0 15 ty := ⟨by have := fl_r_13; have := i32_0; have := i32_1; have := i32_2; have := i32_m1; have := (hvx).1; have := (hvx).2; have := (h_6).1; have := (h_6).2; have := (h_12).1; have := (h_12).2; have := (h_18).1; have := (h_18).2; have := (h_19).1; have := (h_19).2; have := (h_20).1; have := (h_20).2; omega, by have := fl_r_13; have := i32_0; have := i32_1; have := i32_2; have := i32_m1; have := (hvx).1; have := (hvx).2; have := (h_6).1; have := (h_6).2; have := (h_12).1; have := (h_12).2; have := (h_18).1; have := (h_18).2; have := (h_19).1; have := (h_19).2; have := (h_20).1; have := (h_20).2; omega⟩
        refine ec_aload_n hx hb dX12_setter_21 rfl (lv_at hl 0 rfl) ?_
        refine cr_get (t := 0) (j := 0) (C := RX12) (T := TX12) (N := 12) (v := eV (ad 12) 0) hx hb htb inX12 hown hK hP hvx (by decide) (by decide) (by decide) rfl (by decide) (htb _ kw_13) (cV_c rfl (by decide) (by rw [show cMu 0 0 = 0 from rfl, Nat.zero_mul]; rfl)) dX12_setter_22 ?_
        refine lv_iload_n hx hb dX12_setter_25 rfl (lv_at hl 1 rfl) ?_
        refine cr_aald (t := 12) (C := RX2) (v := eV (ad 7) ca) hx hb hK hP (iv_k (by decide) : iv 0 0 0) (by decide) (by decide) (by decide) (by decide) (by decide) rfl (show vp_in ca (cLen 12) from (show vp_in ca 8 from (iv_in h_19 (by decide)))) (cAr_c (by decide) (h_19).1 (by rw [show cAm 12 = 0 from rfl, Nat.zero_mul, show cAo 12 = 0 from rfl]; omega)) dX12_setter_26 ?_
        refine lv_iload_n hx hb dX12_setter_27 rfl (lv_at hl 2 rfl) ?_
        refine lv_iload_n hx hb dX12_setter_28 rfl (lv_at hl 3 rfl) ?_
        refine cm_callV (t := 7) (C := RX2) (T := TX2) (N := 8) (rest := []) (as := [.int nm, .int ty]) ⟨hx, hb, hml, hown, htb⟩ (d_addSetter9 l dC dI ad cid a2 lx sg gm lg ca nm ty hI h_19 h_20 hty9) (cwV 2 htb (gd_V kw_274 kw_275 kw_276 kw_15 kw_1400) rfl rfl rfl (by decide +kernel) ⟨Nat.le_of_ble_eq_true rfl, Nat.le_of_ble_eq_true rfl⟩) h_19 (by decide) (by decide) rfl rfl hl.1 rfl (Nat.le_trans cs_n (by decide)) dX12_setter_29 ⟨Nat.le_of_ble_eq_true rfl, Nat.le_of_ble_eq_true rfl⟩ hK hP hD hS hA hG (fun E ce q9 u_22 H locs hw hP hD hS hce hcv hcl => ?_) (fun v9 u_22 H locs hw hP hD hS => ?_)
        · exact hw.elim
        obtain ⟨r_21, rfl, sgv_23, gmv_23, lgv_23, rfl, hIv_23, ksv_23, kgv_23, klv_23, hr_21, fS_r_21⟩ := hw
        obtain rfl := KS_nil ksv_23
        obtain rfl := KS_nil klv_23
        have hP : va_P (dC, dI) vwCl (cW ad cid a2 lx sg gmv_23 lg) H := hP
        have hD : va_D A (cW ad cid a2 lx sg gmv_23 lg) := hD
        refine W.eq (g2 := F0 m 32 ls [.int r_21]) rfl ?_
        refine lv_if_eq (tgt := 39) hx hb dX12_setter_32 (by decide) (fun c_24 => ?_) (fun c_24 => ?_)
        · have h_25 : iv 0 0 r_21 := iv_eq c_24 hr_21 (iv_k (by decide) : iv 0 0 0) (by decide)
          exact hj39 gmv_23 hvx (KS_tr (L := [3, 55]) KS_rf kgv_23 (by decide)) hIv_23 (⟨Or.inr (ADS9_0 fS_r_21 (by have := i32_0; have := i32_1; have := i32_2; have := i32_m1; have := (hvx).1; have := (hvx).2; have := (h_6).1; have := (h_6).2; have := (h_12).1; have := (h_12).2; have := (h_18).1; have := (h_18).2; have := (h_19).1; have := (h_19).2; have := (h_20).1; have := (h_20).2; have := (hty9).1; have := (hty9).2; have := (h_25).1; have := (h_25).2; omega)).1, (ADS9_0 fS_r_21 (by have := i32_0; have := i32_1; have := i32_2; have := i32_m1; have := (hvx).1; have := (hvx).2; have := (h_6).1; have := (h_6).2; have := (h_12).1; have := (h_12).2; have := (h_18).1; have := (h_18).2; have := (h_19).1; have := (h_19).2; have := (h_20).1; have := (h_20).2; have := (hty9).1; have := (hty9).2; have := (h_25).1; have := (h_25).2; omega)).2⟩) _ _ _ hP hD hS (lv_sub hl [0, 1, 2, 3] rfl)
        · have h_26 : iv 1 1 r_21 := iv_neL c_24 hr_21 (by decide)
          refine lv_iconst (v := 1) hx hb dX12_setter_35 (by decide) ?_
          refine lv_goto (tgt := 40) hx hb dX12_setter_36 (by decide) ?_
          exact hj40 gmv_23 1 hvx (iv_w (iv_k (by decide) : iv 1 1 1) (by decide)) (KS_tr (L := [3, 55]) KS_rf kgv_23 (by decide)) hIv_23 (ADS9_1 fS_r_21 (by have := i32_0; have := i32_1; have := i32_2; have := i32_m1; have := (hvx).1; have := (hvx).2; have := (h_6).1; have := (h_6).2; have := (h_12).1; have := (h_12).2; have := (h_18).1; have := (h_18).2; have := (h_19).1; have := (h_19).2; have := (h_20).1; have := (h_20).2; have := (hty9).1; have := (hty9).2; have := (h_26).1; have := (h_26).2; omega) (by have := i32_0; have := i32_1; have := i32_2; have := i32_m1; have := (hvx).1; have := (hvx).2; have := (h_6).1; have := (h_6).2; have := (h_12).1; have := (h_12).2; have := (h_18).1; have := (h_18).2; have := (h_19).1; have := (h_19).2; have := (h_20).1; have := (h_20).2; have := (hty9).1; have := (hty9).2; have := (h_26).1; have := (h_26).2; omega) rfl) _ _ _ hP hD hS (lv_sub hl [0, 1, 2, 3] rfl)
end
section
set_option maxHeartbeats 4000000 in
set_option maxRecDepth 100000 in
theorem a_declare9 (l : Launch) (dC : Nat → ClassId) (dI : Nat → Nat → Nat) (h0 : Nat) (ad : Nat → Nat) (cid : Nat → ClassId) (sg : Nat → Int32) (gm : Nat → Nat → Int32) (lg : Nat → Nat → Int64) (a : Int32) (b : Int32) (hI : MI sg gm) (hPR : PR gm) : MMi l dC dI yX13_declare wm_X13_declare ({ frames := 1, cells := 0, slots := 0, locals := 20 }) h0 ad cid [.int a, .int b] sg gm lg (fun r v => ∃ (sg2 : Nat → Int32) (gm2 : Nat → Nat → Int32) (lg2 : Nat → Nat → Int64), v = (sg2, gm2, lg2) ∧ MI sg2 gm2 ∧ KS [5] sg sg2 ∧ KS [6, 7, 10, 13] gm gm2 ∧ KS [] lg lg2 ∧ (iv 0 1 r) ∧ (r.toInt = 1 ∧ (0 ≤ a.toInt ∧ a.toInt ≤ 7 ∧ -1 ≤ b.toInt ∧ b.toInt < a.toInt) ∨ r.toInt = 0 ∧ ¬ (0 ≤ a.toInt ∧ a.toInt ≤ 7 ∧ -1 ≤ b.toInt ∧ b.toInt < a.toInt)) ∧ (PR gm2) ∧ (DEC9 (0 ≤ a.toInt ∧ a.toInt ≤ 7 ∧ -1 ≤ b.toInt ∧ b.toInt < a.toInt) r a.toNatClampNeg (gm 7) (gm2 7)) ∧ (DEC9 (0 ≤ a.toInt ∧ a.toInt ≤ 7 ∧ -1 ≤ b.toInt ∧ b.toInt < a.toInt) r a.toNatClampNeg (gm 13) (gm2 13)) ∧ (DEC9 (0 ≤ a.toInt ∧ a.toInt ≤ 7 ∧ -1 ≤ b.toInt ∧ b.toInt < a.toInt) r a.toNatClampNeg (gm 10) (gm2 10)) ∧ (DEP9 (0 ≤ a.toInt ∧ a.toInt ≤ 7 ∧ -1 ≤ b.toInt ∧ b.toInt < a.toInt) r a.toNatClampNeg b (gm 6) (gm2 6))) := by
  intro sz
  refine Met.ofW (cc := cX13_declare) (maxL := 3) (ret := (some .boolean)) (by decide) rfl ?_
  intro p e s m args below meth c s₁ B hml hv
  obtain ⟨rfl, hsz, hP, hK, hD0⟩ := hv
  have hx := B.exec
  have hb := B.bytes
  have hr := B.returns
  have hts := atoms_spec (ws := wm_X13_declare) B.pre
  have htb := fun (w : Cond) (h : w ∈ tb) => hts w (List.mem_cons_of_mem _ h)
  have hown : s.vm.findClass RX13 = some m.cls := findClass_of_methodNamed B.named
  have hlocks := B.notSynchronized
  subst hsz
  have hD := hD0.self (sz := s.heap.size)
  generalize hAe : va_A (mW h0 ad cid sg gm lg) s.heap.size = A at hD ⊢
  have hA : ∀ q : Nat, s.heap.size ≤ q → A q := fun q h => by rw [← hAe]; exact Or.inr h
  have hS : va_S A s.heap s.heap [] := va_S.rf
  have hl := lv_entry ([.ref h0, .int a, .int b]) (n := 3) (Nat.le_of_ble_eq_true rfl)
  rw [lg_entry_eq]
  generalize (lg_sl ([.ref h0, .int a, .int b]) ++ List.replicate (3 - (lg_sl ([.ref h0, .int a, .int b])).length) Slot.unset).toArray = ls at hl ⊢
  have hl : lv_has ls 3 [(0, .ref h0), (1, .int a), (2, .int b)] := hl
  have hj22 : ∀ (sg_j22 : Nat → Int32) (_ : KS [5] sg sg_j22) (_ : MI sg_j22 gm) (_ : ¬ (0 ≤ a.toInt ∧ a.toInt ≤ 7 ∧ -1 ≤ b.toInt ∧ b.toInt < a.toInt)) (H : Heap) (locs : List Loc) (ls : Array Slot), va_P (dC, dI) vwCl (mW h0 ad cid sg_j22 gm lg) H → va_D A (mW h0 ad cid sg_j22 gm lg) → va_S A s.heap H locs → lv_has ls 3 [(0, .ref h0), (1, .int a), (2, .int b)] → W p l e (headSpec wm_X13_declare ({ frames := 1, cells := 0, slots := 0, locals := 20 })).room s m ([.ref h0, .int a, .int b] : List Value).toArray below meth c H locs 0 0 (MQ below (va_Qi (fun r v => ∃ (sg2 : Nat → Int32) (gm2 : Nat → Nat → Int32) (lg2 : Nat → Nat → Int64), v = (sg2, gm2, lg2) ∧ MI sg2 gm2 ∧ KS [5] sg sg2 ∧ KS [6, 7, 10, 13] gm gm2 ∧ KS [] lg lg2 ∧ (iv 0 1 r) ∧ (r.toInt = 1 ∧ (0 ≤ a.toInt ∧ a.toInt ≤ 7 ∧ -1 ≤ b.toInt ∧ b.toInt < a.toInt) ∨ r.toInt = 0 ∧ ¬ (0 ≤ a.toInt ∧ a.toInt ≤ 7 ∧ -1 ≤ b.toInt ∧ b.toInt < a.toInt)) ∧ (PR gm2) ∧ (DEC9 (0 ≤ a.toInt ∧ a.toInt ≤ 7 ∧ -1 ≤ b.toInt ∧ b.toInt < a.toInt) r a.toNatClampNeg (gm 7) (gm2 7)) ∧ (DEC9 (0 ≤ a.toInt ∧ a.toInt ≤ 7 ∧ -1 ≤ b.toInt ∧ b.toInt < a.toInt) r a.toNatClampNeg (gm 13) (gm2 13)) ∧ (DEC9 (0 ≤ a.toInt ∧ a.toInt ≤ 7 ∧ -1 ≤ b.toInt ∧ b.toInt < a.toInt) r a.toNatClampNeg (gm 10) (gm2 10)) ∧ (DEP9 (0 ≤ a.toInt ∧ a.toInt ≤ 7 ∧ -1 ≤ b.toInt ∧ b.toInt < a.toInt) r a.toNatClampNeg b (gm 6) (gm2 6))) (MB dC dI h0 ad cid A) A) ([.ref h0, .int a, .int b] : List Value).toArray s 0 0 A) (F0 m 22 ls []) := by
    intro sg_j22 hks_j22 hI_j22 hno H locs ls hP hD hS hl
    refine lv_iconst (v := 0) hx hb dX13_declare_22 (by decide) ?_
    exact W.zret (v := 0) hx hb hr (iv_nb (iv_w (iv_k (by decide) : iv 0 0 0) (by decide))) (fun t ht hW => ⟨⟨0, (sg_j22, gm, lg), rfl, ⟨sg_j22, gm, lg, rfl, hI_j22, (KS_tr (L := [5]) KS_rf hks_j22 (by decide)), KS_rf, KS_rf, (iv_w (iv_k (by decide) : iv 0 0 0) (by decide)), (Or.inr ⟨rfl, hno⟩), (hPR), (Or.inr ⟨rfl, hno, (show gm 7 = gm 7 from rfl)⟩), (Or.inr ⟨rfl, hno, (show gm 13 = gm 13 from rfl)⟩), (Or.inr ⟨rfl, hno, (show gm 10 = gm 10 from rfl)⟩), (Or.inr ⟨rfl, hno, (show gm 6 = gm 6 from rfl)⟩)⟩, by rw [ht]; exact hP, va_K.moved hW.alike hK, hD⟩, hS.F ht⟩) hS.2.2 dX13_declare_23
  refine lv_aload_n hx hb dX13_declare_0 rfl (lv_at hl 0 rfl) ?_
  refine lv_iconst (v := 0) hx hb dX13_declare_1 (by decide) ?_
  refine ma_put (x := 0) hx hb htb inX13 hown hK hP hD hS 5 (by decide) (by decide) (htb _ kw_239) rfl rfl rfl dX13_declare_2 (fun sg_1 H locs esg_1 hP hD hS => ?_)
  have hI_sg_1 := MI_put hI esg_1 (iv_k (by decide) : iv 0 0 0) (by decide)
  refine lv_iload_n hx hb dX13_declare_5 rfl (lv_at hl 1 rfl) ?_
  have hPc := hP.sub (ws' := []) [] rfl
  have hDc := hD.sub (ws' := []) [] (by decide) rfl
  have hKc := hK.sub (tys' := []) [] rfl
  have hFc := va_free (wc := []) hD hS hA [] rfl
  refine va_calli (va_runS (As := [.int a]) (rest := []) ⟨hx, hb, hml, hown, htb⟩ (c_X13_isClass l dC dI H.size a) (va_cwS 1 htb (gd_S kw_240 kw_241 kw_5 kw_1388) rfl rfl rfl (by decide +kernel) ⟨Nat.le_of_ble_eq_true rfl, Nat.le_of_ble_eq_true rfl⟩) ⟨fun a U g mk q => by obtain ⟨q0, q1, qP, qK, qD⟩ := q; exact ⟨q0, q1, qP, va_K.moved (u := U) (U := U.calling g mk a) (Vm.Alike.refl U.vm) qK, qD⟩, fun U hU hW => ⟨rfl, by rw [hU], by rw [hU]; exact hPc, va_K.moved hW.alike hKc, hDc.weaken (fun _ _ _ _ => trivial)⟩⟩ rfl rfl hl.1 rfl (lv_room (Nat.le_of_ble_eq_true rfl)) dX13_declare_6 ⟨Nat.zero_le _, Nat.zero_le _⟩) hS (fun q _ h => hFc q h) hFc (fun r_2 u9 t H1 locs ht hvm hw hB hz1 hk1 hS => ?_)
  have hP := ms_kept hP hz1 hk1
  generalize H1 = H at hP hS ⊢
  have fr_2 : r_2 = zCls a := hw
  have hr_2 : iv 0 1 r_2 := iv_of fr_2 (zCls_iv a)
  refine lv_if_eq (tgt := 22) hx hb dX13_declare_9 (by decide) (fun c_3 => ?_) (fun c_3 => ?_)
  · have h_4 : iv 0 0 r_2 := iv_eq c_3 hr_2 (iv_k (by decide) : iv 0 0 0) (by decide)
    exact hj22 sg_1 (KS_up KS_rf esg_1 (by decide)) hI_sg_1 ((fun q9 => by { have q1 := zCls_f (a := a) (by rw [← fr_2]; exact c_3); omega })) _ _ _ hP hD hS (lv_sub hl [0, 1, 2] rfl)
  · have h_5 : iv 0 7 a := zCls_t (by rw [← fr_2]; exact c_3)
    have h_6 : iv 1 1 r_2 := iv_neL c_3 hr_2 (by decide)
    refine lv_iload_n hx hb dX13_declare_12 rfl (lv_at hl 2 rfl) ?_
    refine lv_iconst (v := (-1)) hx hb dX13_declare_13 (by decide) ?_
    refine lv_icmp_lt (tgt := 22) hx hb dX13_declare_14 (by decide) (fun c_7 => ?_) (fun c_7 => ?_)
    · have h_8 : iv (-2147483648) (-2) b := iv_ltL c_7 (iv_all b) (iv_k (by decide) : iv (-1) (-1) (-1)) (by decide)
      exact hj22 sg_1 (KS_up KS_rf esg_1 (by decide)) hI_sg_1 ((fun q9 => by { have := i32_0; have := i32_1; have := i32_2; have := i32_m1; have := (h_6).1; have := (h_6).2; have := (h_5).1; have := (h_5).2; have := (h_8).1; have := (h_8).2; omega })) _ _ _ hP hD hS (lv_sub hl [0, 1, 2] rfl)
    · have h_9 : iv (-1) 2147483647 b := iv_leR (i32_ge c_7) (iv_k (by decide) : iv (-1) (-1) (-1)) (iv_all b) (by decide)
      refine lv_iload_n hx hb dX13_declare_17 rfl (lv_at hl 2 rfl) ?_
      refine lv_iload_n hx hb dX13_declare_18 rfl (lv_at hl 1 rfl) ?_
      refine lv_icmp_lt (tgt := 24) hx hb dX13_declare_19 (by decide) (fun c_10 => ?_) (fun c_10 => ?_)
      · have d_11 : (b : Int32).toInt < (a : Int32).toInt := Int32.lt_iff_toInt_lt.mp c_10
        have h_12 : iv (-1) 6 b := iv_ltL c_10 h_9 h_5 (by decide)
        refine lv_aload_n hx hb dX13_declare_24 rfl (lv_at hl 0 rfl) ?_
        refine mr_get (v := .ref (ad 6)) hx hb htb inX13 hown hK hP 6 (by decide) (htb _ kw_165) rfl dX13_declare_25 ?_
        refine lv_iload_n hx hb dX13_declare_28 rfl (lv_at hl 1 rfl) ?_
        refine lv_iload_n hx hb dX13_declare_29 rfl (lv_at hl 2 rfl) ?_
        refine ma_iast (x := b) hx hb hK hP hD hS 5 (k := 6) rfl rfl rfl (show vp_in a 8 from (iv_in h_5 (by decide))) dX13_declare_30 (fun gm_13 H locs egm_13 hP hD hS => ?_)
        have hI_gm_13 := MI_st hI_sg_1 egm_13 h_12 (by decide)
        refine lv_aload_n hx hb dX13_declare_31 rfl (lv_at hl 0 rfl) ?_
        refine mr_get (v := .ref (ad 7)) hx hb htb inX13 hown hK hP 7 (by decide) (htb _ kw_166) rfl dX13_declare_32 ?_
        refine lv_iload_n hx hb dX13_declare_35 rfl (lv_at hl 1 rfl) ?_
        refine lv_iconst (v := 0) hx hb dX13_declare_36 (by decide) ?_
        refine ma_iast (x := 0) hx hb hK hP hD hS 6 (k := 7) rfl rfl rfl (show vp_in a 8 from (iv_in h_5 (by decide))) dX13_declare_37 (fun gm_14 H locs egm_14 hP hD hS => ?_)
        have hI_gm_14 := MI_st hI_gm_13 egm_14 (iv_k (by decide) : iv 0 0 0) (by decide)
        refine lv_aload_n hx hb dX13_declare_38 rfl (lv_at hl 0 rfl) ?_
        refine mr_get (v := .ref (ad 10)) hx hb htb inX13 hown hK hP 10 (by decide) (htb _ kw_169) rfl dX13_declare_39 ?_
        refine lv_iload_n hx hb dX13_declare_42 rfl (lv_at hl 1 rfl) ?_
        refine lv_iconst (v := 0) hx hb dX13_declare_43 (by decide) ?_
        refine ma_iast (x := 0) hx hb hK hP hD hS 9 (k := 10) rfl rfl rfl (show vp_in a 8 from (iv_in h_5 (by decide))) dX13_declare_44 (fun gm_15 H locs egm_15 hP hD hS => ?_)
        have hI_gm_15 := MI_st hI_gm_14 egm_15 (iv_k (by decide) : iv 0 0 0) (by decide)
        refine lv_aload_n hx hb dX13_declare_45 rfl (lv_at hl 0 rfl) ?_
        refine mr_get (v := .ref (ad 13)) hx hb htb inX13 hown hK hP 13 (by decide) (htb _ kw_172) rfl dX13_declare_46 ?_
        refine lv_iload_n hx hb dX13_declare_49 rfl (lv_at hl 1 rfl) ?_
        refine lv_iconst (v := 0) hx hb dX13_declare_50 (by decide) ?_
        refine ma_iast (x := 0) hx hb hK hP hD hS 12 (k := 13) rfl rfl rfl (show vp_in a 8 from (iv_in h_5 (by decide))) dX13_declare_51 (fun gm_16 H locs egm_16 hP hD hS => ?_)
        have hI_gm_16 := MI_st hI_gm_15 egm_16 (iv_k (by decide) : iv 0 0 0) (by decide)
        refine lv_iconst (v := 1) hx hb dX13_declare_52 (by decide) ?_
        exact W.zret (v := 1) hx hb hr (iv_nb (iv_w (iv_k (by decide) : iv 1 1 1) (by decide))) (fun t ht hW => ⟨⟨1, (sg_1, gm_16, lg), rfl, ⟨sg_1, gm_16, lg, rfl, hI_gm_16, (KS_up KS_rf esg_1 (by decide)), (KS_up (KS_up (KS_up (KS_up KS_rf egm_13 (by decide)) egm_14 (by decide)) egm_15 (by decide)) egm_16 (by decide)), KS_rf, (iv_w (iv_k (by decide) : iv 1 1 1) (by decide)), (Or.inl ⟨rfl, by have := i32_0; have := i32_1; have := i32_2; have := i32_m1; have := (h_6).1; have := (h_6).2; have := (h_5).1; have := (h_5).2; have := (h_12).1; have := (h_12).2; omega, by have := i32_0; have := i32_1; have := i32_2; have := i32_m1; have := (h_6).1; have := (h_6).2; have := (h_5).1; have := (h_5).2; have := (h_12).1; have := (h_12).2; omega, by have := i32_0; have := i32_1; have := i32_2; have := i32_m1; have := (h_6).1; have := (h_6).2; have := (h_5).1; have := (h_5).2; have := (h_12).1; have := (h_12).2; omega, by have := i32_0; have := i32_1; have := i32_2; have := i32_m1; have := (h_6).1; have := (h_6).2; have := (h_5).1; have := (h_5).2; have := (h_12).1; have := (h_12).2; omega⟩), (PR_u hPR (by have := i32_0; have := i32_1; have := i32_2; have := i32_m1; have := (h_6).1; have := (h_6).2; have := (h_5).1; have := (h_5).2; have := (h_12).1; have := (h_12).2; omega) (show gm_16 6 = upd (gm 6) (a : Int32).toNatClampNeg b from ((up_ne egm_16 (by decide)).trans ((up_ne egm_15 (by decide)).trans ((up_ne egm_14 (by decide)).trans ((up_at egm_13).trans (by rw [show gm 6 = gm 6 from rfl])))))) (by have := i32_0; have := i32_1; have := i32_2; have := i32_m1; have := (h_6).1; have := (h_6).2; have := (h_5).1; have := (h_5).2; have := (h_12).1; have := (h_12).2; omega)), (Or.inl ⟨rfl, ⟨by have := i32_0; have := i32_1; have := i32_2; have := i32_m1; have := (h_6).1; have := (h_6).2; have := (h_5).1; have := (h_5).2; have := (h_12).1; have := (h_12).2; omega, by have := i32_0; have := i32_1; have := i32_2; have := i32_m1; have := (h_6).1; have := (h_6).2; have := (h_5).1; have := (h_5).2; have := (h_12).1; have := (h_12).2; omega, by have := i32_0; have := i32_1; have := i32_2; have := i32_m1; have := (h_6).1; have := (h_6).2; have := (h_5).1; have := (h_5).2; have := (h_12).1; have := (h_12).2; omega, by have := i32_0; have := i32_1; have := i32_2; have := i32_m1; have := (h_6).1; have := (h_6).2; have := (h_5).1; have := (h_5).2; have := (h_12).1; have := (h_12).2; omega⟩, (show gm_16 7 = upd (gm 7) (a : Int32).toNatClampNeg 0 from ((up_ne egm_16 (by decide)).trans ((up_ne egm_15 (by decide)).trans ((up_at egm_14).trans (by rw [show gm_13 7 = gm 7 from ((up_ne egm_13 (by decide)).trans rfl)])))))⟩), (Or.inl ⟨rfl, ⟨by have := i32_0; have := i32_1; have := i32_2; have := i32_m1; have := (h_6).1; have := (h_6).2; have := (h_5).1; have := (h_5).2; have := (h_12).1; have := (h_12).2; omega, by have := i32_0; have := i32_1; have := i32_2; have := i32_m1; have := (h_6).1; have := (h_6).2; have := (h_5).1; have := (h_5).2; have := (h_12).1; have := (h_12).2; omega, by have := i32_0; have := i32_1; have := i32_2; have := i32_m1; have := (h_6).1; have := (h_6).2; have := (h_5).1; have := (h_5).2; have := (h_12).1; have := (h_12).2; omega, by have := i32_0; have := i32_1; have := i32_2; have := i32_m1; have := (h_6).1; have := (h_6).2; have := (h_5).1; have := (h_5).2; have := (h_12).1; have := (h_12).2; omega⟩, (show gm_16 13 = upd (gm 13) (a : Int32).toNatClampNeg 0 from ((up_at egm_16).trans (by rw [show gm_15 13 = gm 13 from ((up_ne egm_15 (by decide)).trans ((up_ne egm_14 (by decide)).trans ((up_ne egm_13 (by decide)).trans rfl)))])))⟩), (Or.inl ⟨rfl, ⟨by have := i32_0; have := i32_1; have := i32_2; have := i32_m1; have := (h_6).1; have := (h_6).2; have := (h_5).1; have := (h_5).2; have := (h_12).1; have := (h_12).2; omega, by have := i32_0; have := i32_1; have := i32_2; have := i32_m1; have := (h_6).1; have := (h_6).2; have := (h_5).1; have := (h_5).2; have := (h_12).1; have := (h_12).2; omega, by have := i32_0; have := i32_1; have := i32_2; have := i32_m1; have := (h_6).1; have := (h_6).2; have := (h_5).1; have := (h_5).2; have := (h_12).1; have := (h_12).2; omega, by have := i32_0; have := i32_1; have := i32_2; have := i32_m1; have := (h_6).1; have := (h_6).2; have := (h_5).1; have := (h_5).2; have := (h_12).1; have := (h_12).2; omega⟩, (show gm_16 10 = upd (gm 10) (a : Int32).toNatClampNeg 0 from ((up_ne egm_16 (by decide)).trans ((up_at egm_15).trans (by rw [show gm_14 10 = gm 10 from ((up_ne egm_14 (by decide)).trans ((up_ne egm_13 (by decide)).trans rfl))]))))⟩), (Or.inl ⟨rfl, ⟨by have := i32_0; have := i32_1; have := i32_2; have := i32_m1; have := (h_6).1; have := (h_6).2; have := (h_5).1; have := (h_5).2; have := (h_12).1; have := (h_12).2; omega, by have := i32_0; have := i32_1; have := i32_2; have := i32_m1; have := (h_6).1; have := (h_6).2; have := (h_5).1; have := (h_5).2; have := (h_12).1; have := (h_12).2; omega, by have := i32_0; have := i32_1; have := i32_2; have := i32_m1; have := (h_6).1; have := (h_6).2; have := (h_5).1; have := (h_5).2; have := (h_12).1; have := (h_12).2; omega, by have := i32_0; have := i32_1; have := i32_2; have := i32_m1; have := (h_6).1; have := (h_6).2; have := (h_5).1; have := (h_5).2; have := (h_12).1; have := (h_12).2; omega⟩, (show gm_16 6 = upd (gm 6) (a : Int32).toNatClampNeg b from ((up_ne egm_16 (by decide)).trans ((up_ne egm_15 (by decide)).trans ((up_ne egm_14 (by decide)).trans ((up_at egm_13).trans (by rw [show gm 6 = gm 6 from rfl]))))))⟩)⟩, by rw [ht]; exact hP, va_K.moved hW.alike hK, hD⟩, hS.F ht⟩) hS.2.2 dX13_declare_53
      · have d_17 : (a : Int32).toInt ≤ (b : Int32).toInt := Int32.le_iff_toInt_le.mp (i32_ge c_10)
        have h_18 : iv 0 2147483647 b := iv_leR (i32_ge c_10) h_5 h_9 (by decide)
        exact hj22 sg_1 (KS_up KS_rf esg_1 (by decide)) hI_sg_1 ((fun q9 => by { have := i32_0; have := i32_1; have := i32_2; have := i32_m1; have := (h_6).1; have := (h_6).2; have := (h_5).1; have := (h_5).2; have := (h_18).1; have := (h_18).2; omega })) _ _ _ hP hD hS (lv_sub hl [0, 1, 2] rfl)
end
