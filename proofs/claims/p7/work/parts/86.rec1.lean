/-- a bean with an id, one of a kind, that is made has its object -/
def MOK (sg : Nat → Int32) (gm : Nat → Nat → Int32) (lg : Nat → Nat → Int64) : Prop := ∀ c, c < (sg 12).toNatClampNeg → ¬ gm 38 c = 0 → ¬ lg 4 c = 0 → gm 35 c = 0 → 0 ≤ (gm 39 c).toInt
/-- beans that are being made stay so, with their objects -/
def BMK (gm gm2 : Nat → Nat → Int32) : Prop := ∀ c, ¬ gm 37 c = 0 → gm2 37 c = gm 37 c ∧ gm2 39 c = gm 39 c
def BMb (b : Nat) (gm gm2 : Nat → Nat → Int32) : Prop := ∀ c, c ≠ b → ¬ gm 37 c = 0 → gm2 37 c = gm 37 c ∧ gm2 39 c = gm 39 c
def WFR (d : Nat) (gm gm2 : Nat → Nat → Int32) : Prop := ∀ k, k < d → gm2 52 k = gm 52 k
theorem MOK_e {sg sg2 : Nat → Int32} {gm gm2 : Nat → Nat → Int32} {lg lg2 : Nat → Nat → Int64} (h : MOK sg gm lg) (h12 : sg2 12 = sg 12) (h35 : gm2 35 = gm 35) (h38 : gm2 38 = gm 38) (h39 : gm2 39 = gm 39) (hl : lg2 4 = lg 4) : MOK sg2 gm2 lg2 := by
  unfold MOK at *; rw [h12, h35, h38, h39, hl]; exact h
theorem MOK_u {sg sg2 : Nat → Int32} {gm gm2 : Nat → Nat → Int32} {lg lg2 : Nat → Nat → Int64} {b : Nat} {v : Int32} (h : MOK sg gm lg) (h12 : sg2 12 = sg 12) (h35 : gm2 35 = gm 35) (h38 : gm2 38 = gm 38) (h39 : gm2 39 = upd (gm 39) b v) (hl : lg2 4 = lg 4) (hb : 0 ≤ v.toInt ∨ (¬ lg 4 b = 0 → gm 35 b = 0 → gm 38 b = 0)) : MOK sg2 gm2 lg2 := fun c hc q1 q2 q3 => by
  rw [h12] at hc; rw [h38] at q1; rw [hl] at q2; rw [h35] at q3
  rw [h39]
  by_cases e9 : c = b
  · subst e9
    rw [upd_at]
    rcases hb with q | q
    · exact q
    · exact absurd (q q2 q3) q1
  · rw [upd_ne e9]; exact h c hc q1 q2 q3
theorem MOK_f {sg sg2 : Nat → Int32} {gm gm2 : Nat → Nat → Int32} {lg lg2 : Nat → Nat → Int64} {b : Nat} {v : Int32} (h : MOK sg gm lg) (h12 : sg2 12 = sg 12) (h35 : gm2 35 = gm 35) (h38 : gm2 38 = upd (gm 38) b v) (h39 : gm2 39 = gm 39) (hl : lg2 4 = lg 4) (hb : 0 ≤ (gm 39 b).toInt) : MOK sg2 gm2 lg2 := fun c hc q1 q2 q3 => by
  rw [h12] at hc; rw [hl] at q2; rw [h35] at q3
  rw [h39]
  by_cases e9 : c = b
  · rw [e9]; exact hb
  · rw [h38, upd_ne e9] at q1; exact h c hc q1 q2 q3
theorem BMK_rf {gm : Nat → Nat → Int32} : BMK gm gm := fun _ _ => ⟨rfl, rfl⟩
theorem BMK_e {gm gm2 : Nat → Nat → Int32} (h37 : gm2 37 = gm 37) (h39 : gm2 39 = gm 39) : BMK gm gm2 := fun c _ => ⟨by rw [h37], by rw [h39]⟩
theorem BMK_t {gm gm1 gm2 : Nat → Nat → Int32} (h : BMK gm gm1) (h2 : BMK gm1 gm2) : BMK gm gm2 := fun c hc => by
  obtain ⟨a1, a2⟩ := h c hc
  obtain ⟨b1, b2⟩ := h2 c (by rw [a1]; exact hc)
  exact ⟨b1.trans a1, b2.trans a2⟩
theorem BMb_t {b : Nat} {gm gm1 gm2 : Nat → Nat → Int32} (h : BMb b gm gm1) (h2 : BMK gm1 gm2) : BMb b gm gm2 := fun c hne hc => by
  obtain ⟨a1, a2⟩ := h c hne hc
  obtain ⟨b1, b2⟩ := h2 c (by rw [a1]; exact hc)
  exact ⟨b1.trans a1, b2.trans a2⟩
theorem BMb_u {b : Nat} {gm gm1 gm2 : Nat → Nat → Int32} {v w : Int32} (h : BMb b gm gm1) (h37 : gm2 37 = gm1 37 ∨ gm2 37 = upd (gm1 37) b v) (h39 : gm2 39 = gm1 39 ∨ gm2 39 = upd (gm1 39) b w) : BMb b gm gm2 := fun c hne hc => by
  obtain ⟨a1, a2⟩ := h c hne hc
  refine ⟨?_, ?_⟩
  · rcases h37 with q | q
    · rw [q]; exact a1
    · rw [q, upd_ne hne]; exact a1
  · rcases h39 with q | q
    · rw [q]; exact a2
    · rw [q, upd_ne hne]; exact a2
theorem BMb_rf {b : Nat} {gm : Nat → Nat → Int32} : BMb b gm gm := fun _ _ _ => ⟨rfl, rfl⟩
theorem BMb_K {b : Nat} {gm gm2 : Nat → Nat → Int32} (h : BMb b gm gm2) (hb : gm 37 b = 0) : BMK gm gm2 := fun c hc => h c (fun q => hc (by rw [q]; exact hb)) hc
theorem WFR_rf {d : Nat} {gm : Nat → Nat → Int32} : WFR d gm gm := fun _ _ => rfl
theorem WFR_e {d : Nat} {gm gm2 : Nat → Nat → Int32} (h : gm2 52 = gm 52) : WFR d gm gm2 := fun k _ => by rw [h]
theorem WFR_t {d d2 : Nat} {gm gm1 gm2 : Nat → Nat → Int32} (h : WFR d gm gm1) (h2 : WFR d2 gm1 gm2) (hd : d ≤ d2) : WFR d gm gm2 := fun k hk => (h2 k (by omega)).trans (h k hk)
theorem WFR_u {d i : Nat} {v : Int32} {gm gm1 gm2 : Nat → Nat → Int32} (h : WFR d gm gm1) (h2 : gm2 52 = upd (gm1 52) i v) (hd : d ≤ i) : WFR d gm gm2 := fun k hk => by
  rw [h2, upd_ne (by omega)]; exact h k hk
theorem WKD_s {gm1 gm2 : Nat → Nat → Int32} {q d i : Nat} (h : WKD gm1 q d i) (hf : WFR (24 * d + 6 * i) gm1 gm2) (h25 : gm2 25 = gm1 25) (h26 : gm2 26 = gm1 26) (h41 : gm2 41 = gm1 41) (h57 : gm2 57 = gm1 57) (hn : (gm1 25 (gm1 26 (gm1 57 (128 * q + i)).toNatClampNeg).toNatClampNeg).toInt = 6 ∨ (gm1 25 (gm1 26 (gm1 57 (128 * q + i)).toNatClampNeg).toNatClampNeg).toInt = 7 ∨ (gm1 25 (gm1 26 (gm1 57 (128 * q + i)).toNatClampNeg).toNatClampNeg).toInt = 9 ∨ iv 0 59 (gm2 52 (24 * d + 6 * i))) : WKD gm2 q d (i + 1) := fun j hj hj2 => by
  rw [h41] at hj2
  rw [h25, h26, h57]
  by_cases e9 : j = i
  · rw [e9]; exact hn
  · rw [hf (24 * d + 6 * j) (by omega)]; exact h j (by omega) hj2
theorem WKD_le {gm : Nat → Nat → Int32} {q d n m : Nat} (h : WKD gm q d n) (hm : m ≤ n ∨ (gm 41 q).toNatClampNeg ≤ n) : WKD gm q d m := fun j hj hj2 => h j (by omega) hj2
theorem bm_n {gm gm2 : Nat → Nat → Int32} {b : Nat} (h : ¬ gm 37 b = 0) (hb : BMK gm gm2) : ¬ gm2 37 b = 0 := by rw [(hb b h).1]; exact h
theorem bm_9 {gm gm2 : Nat → Nat → Int32} {b : Nat} (h : ¬ gm 37 b = 0) (hb : BMK gm gm2) (h9 : 0 ≤ (gm 39 b).toInt) : 0 ≤ (gm2 39 b).toInt := by rw [(hb b h).2]; exact h9
/-- a set's letter is there -/
theorem set_let {sg : Nat → Int32} {gm : Nat → Nat → Int32} {lg : Nat → Nat → Int64} {e : Int32} (hW : WRD sg gm lg) (h0 : 0 ≤ e.toInt) (h4 : e.toInt < (sg 4).toInt) (hw : (gm 14 e.toNatClampNeg).toInt = 4) : 0 ≤ (gm 22 e.toNatClampNeg).toInt := by
  have k1 := cl_0 h0
  have k4 : (sg 4).toNatClampNeg = (sg 4).toInt.toNat := rfl
  exact (hW.2.1 e.toNatClampNeg (by omega)).1.2.2.2.1 hw

def PO (l : Launch) (dC : Nat → ClassId) (dI : Nat → Nat → Nat) (ad : Nat → Nat → Nat) (cid : Nat → ClassId) (a2 : Nat → Nat) (lx : List Nat) (n9 : Nat) : Prop := ∀ (sg : Nat → Int32) (gm : Nat → Nat → Int32) (lg : Nat → Nat → Int64) (x : Int32) (nm : Int64) (dp : Int32) (_ : CI sg gm) (_ : iv 0 0 x) (_ : iv 0 40 dp) (_ : WRD sg gm lg) (_ : LDI lx gm) (_ : MOK sg gm lg) (_ : FND9 sg gm) (_ : dp.toInt + ((n9 : Nat) : Int) = 40), CMt dC dI ad cid a2 lx l yX5_obtain wm_X5_obtain ({ frames := 22 + 8 * n9, cells := 1, slots := 6, locals := 640 + 260 * n9 }) [eV (ad 6) x, .long nm, .int dp] sg gm lg (fun v u => ∃ r : Int32, v = some (.int r) ∧ ∃ (sg2 : Nat → Int32) (gm2 : Nat → Nat → Int32) (lg2 : Nat → Nat → Int64), u = (sg2, gm2, lg2) ∧ CI sg2 gm2 ∧ KS [13, 14, 15, 16, 17, 18] sg sg2 ∧ KS [37, 38, 39, 48, 49, 50, 51, 52, 53] gm gm2 ∧ KS [] lg lg2 ∧ (iv 0 59 r) ∧ (MOK sg2 gm2 lg2) ∧ (FND9 sg2 gm2) ∧ (BMK gm gm2) ∧ (WFR (24 * dp.toNatClampNeg) gm gm2)) (fun E u => (E = "java/lang/UnsupportedOperationException") ∧ ∃ (sg2 : Nat → Int32) (gm2 : Nat → Nat → Int32) (lg2 : Nat → Nat → Int64), u = (sg2, gm2, lg2) ∧ CI sg2 gm2 ∧ KS [13, 14, 15, 16, 17, 18] sg sg2 ∧ KS [37, 38, 39, 48, 49, 50, 51, 52, 53] gm gm2 ∧ KS [] lg lg2 ∧ (MOK sg2 gm2 lg2) ∧ (FND9 sg2 gm2))

def PM (l : Launch) (dC : Nat → ClassId) (dI : Nat → Nat → Nat) (ad : Nat → Nat → Nat) (cid : Nat → ClassId) (a2 : Nat → Nat) (lx : List Nat) (n9 : Nat) : Prop := ∀ (sg : Nat → Int32) (gm : Nat → Nat → Int32) (lg : Nat → Nat → Int64) (x : Int32) (b : Int32) (dp : Int32) (_ : CI sg gm) (_ : iv 0 0 x) (_ : iv 0 79 b) (_ : iv 0 40 dp) (_ : WRD sg gm lg) (_ : LDI lx gm) (_ : MOK sg gm lg) (_ : FND9 sg gm) (_ : b.toInt < (sg 12).toInt) (_ : ¬ lg 4 b.toNatClampNeg = 0 → gm 35 b.toNatClampNeg = 0 → gm 38 b.toNatClampNeg = 0) (_ : dp.toInt + ((n9 : Nat) : Int) = 40), CMt dC dI ad cid a2 lx l yX5_make wm_X5_make ({ frames := 20 + 8 * n9, cells := 1, slots := 6, locals := 600 + 260 * n9 }) [eV (ad 6) x, eV (ad 10) b, .int dp] sg gm lg (fun v u => ∃ r : Int32, v = some (.int r) ∧ ∃ (sg2 : Nat → Int32) (gm2 : Nat → Nat → Int32) (lg2 : Nat → Nat → Int64), u = (sg2, gm2, lg2) ∧ CI sg2 gm2 ∧ KS [13, 14, 15, 16, 17, 18] sg sg2 ∧ KS [37, 38, 39, 48, 49, 50, 51, 52, 53] gm gm2 ∧ KS [] lg lg2 ∧ (iv 0 59 r) ∧ (MOK sg2 gm2 lg2) ∧ (FND9 sg2 gm2) ∧ (BMK gm gm2) ∧ (WFR (24 * dp.toNatClampNeg) gm gm2)) (fun E u => (E = "java/lang/UnsupportedOperationException") ∧ ∃ (sg2 : Nat → Int32) (gm2 : Nat → Nat → Int32) (lg2 : Nat → Nat → Int64), u = (sg2, gm2, lg2) ∧ CI sg2 gm2 ∧ KS [13, 14, 15, 16, 17, 18] sg sg2 ∧ KS [37, 38, 39, 48, 49, 50, 51, 52, 53] gm gm2 ∧ KS [] lg lg2 ∧ (MOK sg2 gm2 lg2) ∧ (FND9 sg2 gm2))

set_option maxHeartbeats 4000000 in
set_option maxRecDepth 100000 in
theorem d_objectOf (l : Launch) (dC : Nat → ClassId) (dI : Nat → Nat → Nat) (ad : Nat → Nat → Nat) (cid : Nat → ClassId) (a2 : Nat → Nat) (lx : List Nat) (sg : Nat → Int32) (gm : Nat → Nat → Int32) (lg : Nat → Nat → Int64) (hl9 : l.stackTraces = false) (n9 : Nat) (HO : PO l dC dI ad cid a2 lx n9) (HM : PM l dC dI ad cid a2 lx n9) (x : Int32) (o : Int32) (dp : Int32) (hI : CI sg gm) (hvx : iv 0 0 x) (hvo : iv 0 79 o) (hvdp : iv 0 39 dp) (hW : WRD sg gm lg) (hLD : LDI lx gm) (hMO : MOK sg gm lg) (hFN : FND9 sg gm) (ho4 : o.toInt < (sg 4).toInt) (hbo : BOK sg gm lg o.toNatClampNeg) (hdp : dp.toInt + ((n9 + 1 : Nat) : Int) = 40) : CMt dC dI ad cid a2 lx l yX5_objectOf wm_X5_objectOf ({ frames := 24 + 8 * n9, cells := 1, slots := 6, locals := 680 + 260 * n9 }) [eV (ad 6) x, eV (ad 9) o, .int dp] sg gm lg (fun v u => ∃ r : Int32, v = some (.int r) ∧ ∃ (sg2 : Nat → Int32) (gm2 : Nat → Nat → Int32) (lg2 : Nat → Nat → Int64), u = (sg2, gm2, lg2) ∧ CI sg2 gm2 ∧ KS [13, 14, 15, 16, 17, 18] sg sg2 ∧ KS [37, 38, 39, 48, 49, 50, 51, 52, 53] gm gm2 ∧ KS [] lg lg2 ∧ (iv 0 59 r) ∧ (MOK sg2 gm2 lg2) ∧ (FND9 sg2 gm2) ∧ (BMK gm gm2) ∧ (WFR (24 * dp.toNatClampNeg + 24) gm gm2)) (fun E u => (E = "java/lang/UnsupportedOperationException") ∧ ∃ (sg2 : Nat → Int32) (gm2 : Nat → Nat → Int32) (lg2 : Nat → Nat → Int64), u = (sg2, gm2, lg2) ∧ CI sg2 gm2 ∧ KS [13, 14, 15, 16, 17, 18] sg sg2 ∧ KS [37, 38, 39, 48, 49, 50, 51, 52, 53] gm gm2 ∧ KS [] lg lg2 ∧ (MOK sg2 gm2 lg2) ∧ (FND9 sg2 gm2)) := by
  intro sz
  refine vx_ofW (cc := cX5_objectOf) (maxL := 3) (ret := (some .int)) (by decide) rfl ?_
  intro p e s m args below meth c s₁ B hml hxt hv
  obtain ⟨rfl, hsz, hP, hK, hD0, hG⟩ := hv
  have hx := B.exec
  have hb := B.bytes
  have hr := B.returns
  have hts := atoms_spec (ws := wm_X5_objectOf) B.pre
  have htb := fun (w : Cond) (h : w ∈ tb) => hts w (List.mem_cons_of_mem _ h)
  have hown : s.vm.findClass RX5 = some m.cls := findClass_of_methodNamed B.named
  have hlocks := B.notSynchronized
  subst hsz
  have hD := hD0.self (sz := s.heap.size)
  generalize hAe : va_A (cW ad cid a2 lx sg gm lg) s.heap.size = A at hD hG ⊢
  have hA : ∀ q : Nat, s.heap.size ≤ q → A q := fun q h => by rw [← hAe]; exact Or.inr h
  have hS : va_S A s.heap s.heap [] := va_S.rf
  have hl := lv_entry ([eV (ad 6) x, eV (ad 9) o, .int dp]) (n := 3) (by rw [show (lg_sl ([eV (ad 6) x, eV (ad 9) o, .int dp])).length = 3 from by simp [lg_sl, eV_cat, cat_i, cat_l]]; exact Nat.le_of_ble_eq_true rfl)
  rw [lg_entry_eq]
  generalize (lg_sl ([eV (ad 6) x, eV (ad 9) o, .int dp]) ++ List.replicate (3 - (lg_sl ([eV (ad 6) x, eV (ad 9) o, .int dp])).length) Slot.unset).toArray = ls at hl ⊢
  have hl : lv_has ls 3 [(0, eV (ad 6) x), (1, eV (ad 9) o), (2, .int dp)] := by simp [lv_args, eV_cat, cat_i, cat_l] at hl; exact hl
  refine ec_aload_n hx hb dX5_objectOf_0 rfl (lv_at hl 1 rfl) ?_
  refine cr_get (t := 9) (j := 20) (C := RX3) (T := TX3) (N := 21) (v := eV (ad 10) (gm 27 o.toNatClampNeg)) hx hb htb inX3 hown hK hP hvo (by decide) (by decide) (by decide) rfl (by decide) (htb _ kw_1129) rfl dX5_objectOf_1 ?_
  obtain ⟨z_1, ez_1⟩ : ∃ z : Int32, z = (gm 27 o.toNatClampNeg) := ⟨_, rfl⟩
  refine W.eq (g2 := F0 m 4 ls [eV (ad 10) z_1]) (by rw [ez_1]) ?_
  have hz_1 : iv (-1) 79 z_1 := iv_of ez_1 (CI_a hI 27 hvo (by decide))
  refine ec_ifnonnull (tgt := 21) hx hb dX5_objectOf_4 (by decide) (fun c_2 => ?_) (fun c_2 => ?_)
  · have h_3 : iv 0 79 z_1 := ⟨c_2, (hz_1).2⟩
    refine ec_aload_n hx hb dX5_objectOf_21 rfl (lv_at hl 0 rfl) ?_
    refine ec_aload_n hx hb dX5_objectOf_22 rfl (lv_at hl 1 rfl) ?_
    refine cr_get (t := 9) (j := 20) (C := RX3) (T := TX3) (N := 21) (v := eV (ad 10) (gm 27 o.toNatClampNeg)) hx hb htb inX3 hown hK hP hvo (by decide) (by decide) (by decide) rfl (by decide) (htb _ kw_1129) rfl dX5_objectOf_23 ?_
    refine W.eq (g2 := F0 m 26 ls [eV (ad 10) z_1, eV (ad 6) x]) (by rw [show (gm 27 o.toNatClampNeg) = z_1 from ez_1.symm]) ?_
    refine lv_iload_n hx hb dX5_objectOf_26 rfl (lv_at hl 2 rfl) ?_
    refine lv_iconst (v := 1) hx hb dX5_objectOf_27 (by decide) ?_
    refine lv_iadd hx hb dX5_objectOf_28 ?_
    refine lv_topi (fun z_4 ez_4 => ?_)
    have hz_4 : iv 1 40 z_4 := iv_of ez_4 (iv_add hvdp (iv_k (by decide) : iv 1 1 1) (by decide))
    have tz_4 : z_4.toInt = (dp : Int32).toInt + 1 := by rw [ez_4]; exact iv_addE hvdp (iv_k (by decide) : iv 1 1 1) (by decide)
    refine cm_callV (t := 6) (C := RX5) (T := TX5) (N := 13) (rest := []) (as := [eV (ad 10) z_1, .int z_4]) ⟨hx, hb, hml, hown, htb⟩ (HM sg gm lg x z_1 z_4 hI hvx h_3 (iv_w hz_4 (by decide)) hW hLD hMO hFN (by rw [show sg 12 = sg 12 from rfl]; rw [ez_1]; exact (hbo (by rw [← ez_1]; have := i32_0; have := i32_1; have := i32_2; have := i32_m1; have := (hvx).1; have := (hvx).2; have := (hvo).1; have := (hvo).2; have := (hvdp).1; have := (hvdp).2; have := (h_3).1; have := (h_3).2; have := (hz_4).1; have := (hz_4).2; have := (h_3).1; omega)).1) (fun q9 => absurd (by rw [ez_1]; exact (hbo (by rw [← ez_1]; have := i32_0; have := i32_1; have := i32_2; have := i32_m1; have := (hvx).1; have := (hvx).2; have := (hvo).1; have := (hvo).2; have := (hvdp).1; have := (hvdp).2; have := (h_3).1; have := (h_3).2; have := (hz_4).1; have := (hz_4).2; have := (h_3).1; omega)).2) q9) (by have := i32_0; have := i32_1; have := i32_2; have := i32_m1; have := (hvx).1; have := (hvx).2; have := (hvo).1; have := (hvo).2; have := (hvdp).1; have := (hvdp).2; have := (h_3).1; have := (h_3).2; have := (hz_4).1; have := (hz_4).2; omega)) (cwV 2 htb (gd_V kw_1023 kw_1024 kw_1025 kw_40 kw_1584) rfl rfl rfl (by decide +kernel) ⟨(show 20 + 8 * n9 + 1 ≤ 24 + 8 * n9 from by omega), (show 8 + (5 + 11) + (600 + 260 * n9) ≤ 680 + 260 * n9 from by omega)⟩) hvx (by decide) (by decide) rfl rfl hl.1 rfl (Nat.le_trans cs_n (by decide)) dX5_objectOf_29 ⟨Nat.le_of_ble_eq_true rfl, Nat.le_of_ble_eq_true rfl⟩ hK hP hD hS hA hG (fun E ce q9 u_6 H locs hw hP hD hS hce hcv hcl => ?_) (fun v9 u_6 H locs hw hP hD hS => ?_)
    · obtain ⟨hE, hw⟩ := hw
      obtain ⟨sgv_7, gmv_7, lgv_7, rfl, hIv_7, ksv_7, kgv_7, klv_7, xMO_v_7, xFN_v_7⟩ := hw
      obtain rfl := KS_nil klv_7
      have hP : va_P (dC, dI) vwCl (cW ad cid a2 lx sgv_7 gmv_7 lg) H := hP
      have hD : va_D A (cW ad cid a2 lx sgv_7 gmv_7 lg) := hD
      exact vx_out (fun x hx9 => (hxt x hx9).elim) hlocks hce hcv hcl (fun t ht hal => ⟨⟨(sgv_7, gmv_7, lg), ⟨hE, sgv_7, gmv_7, lg, rfl, hIv_7, (KS_tr (L := [13, 14, 15, 16, 17, 18]) KS_rf ksv_7 (by decide)), (KS_tr (L := [37, 38, 39, 48, 49, 50, 51, 52, 53]) KS_rf kgv_7 (by decide)), KS_rf, (xMO_v_7), (xFN_v_7)⟩, by rw [ht]; exact hP, va_K.moved hal hK, hD⟩, hS.F ht⟩) hS.2.2 (Nat.le_of_ble_eq_true rfl) (Nat.le_of_ble_eq_true rfl)
    obtain ⟨r_5, rfl, sgv_8, gmv_8, lgv_8, rfl, hIv_8, ksv_8, kgv_8, klv_8, hr_5, fMO_r_5, fFN_r_5, fBM_r_5, fWF_r_5⟩ := hw
    obtain rfl := KS_nil klv_8
    have hP : va_P (dC, dI) vwCl (cW ad cid a2 lx sgv_8 gmv_8 lg) H := hP
    have hD : va_D A (cW ad cid a2 lx sgv_8 gmv_8 lg) := hD
    refine W.eq (g2 := F0 m 32 ls [.int r_5]) rfl ?_
    have bm_r_5 := BMK_t BMK_rf fBM_r_5
    have wf_r_5 : WFR (24 * dp.toNatClampNeg + 24) gm gmv_8 := WFR_t WFR_rf fWF_r_5 (by have q1 : z_4.toNatClampNeg = z_4.toInt.toNat := rfl; have q2 : dp.toNatClampNeg = dp.toInt.toNat := rfl; have := i32_0; have := i32_1; have := i32_2; have := i32_m1; have := (hvx).1; have := (hvx).2; have := (hvo).1; have := (hvo).2; have := (hvdp).1; have := (hvdp).2; have := (h_3).1; have := (h_3).2; have := (hz_4).1; have := (hz_4).2; have := (hr_5).1; have := (hr_5).2; omega)
    exact W.nb (fun hN => W.widen (k := 1) (n := 6) (by decide) (by decide) (vx_ret (W.iret (v := r_5) hx hb hr (fun t ht hW => ⟨⟨some (.int r_5), (sgv_8, gmv_8, lg), rfl, ⟨r_5, rfl, sgv_8, gmv_8, lg, rfl, hIv_8, (KS_tr (L := [13, 14, 15, 16, 17, 18]) KS_rf ksv_8 (by decide)), (KS_tr (L := [37, 38, 39, 48, 49, 50, 51, 52, 53]) KS_rf kgv_8 (by decide)), KS_rf, hr_5, (fMO_r_5), (fFN_r_5), (bm_r_5), (wf_r_5)⟩, by rw [ht]; exact hP, va_K.moved hW.alike hK, hD⟩, hS.F ht, by rw [ht]; exact hN⟩) hS.2.2 dX5_objectOf_32)))
  · have h_9 : iv (-1) (-1) z_1 := ⟨(hz_1).1, by omega⟩
    refine ec_aload_n hx hb dX5_objectOf_7 rfl (lv_at hl 0 rfl) ?_
    refine ec_aload_n hx hb dX5_objectOf_8 rfl (lv_at hl 1 rfl) ?_
    refine cr_get (t := 9) (j := 12) (C := RX3) (T := TX3) (N := 21) (v := .long (lg 2 o.toNatClampNeg)) hx hb htb inX3 hown hK hP hvo (by decide) (by decide) (by decide) rfl (by decide) (htb _ kw_1130) rfl dX5_objectOf_9 ?_
    refine lv_topl (fun z_10 ez_10 => ?_)
    refine lv_iload_n hx hb dX5_objectOf_12 rfl (lv_at hl 2 rfl) ?_
    refine lv_iconst (v := 1) hx hb dX5_objectOf_13 (by decide) ?_
    refine lv_iadd hx hb dX5_objectOf_14 ?_
    refine lv_topi (fun z_11 ez_11 => ?_)
    have hz_11 : iv 1 40 z_11 := iv_of ez_11 (iv_add hvdp (iv_k (by decide) : iv 1 1 1) (by decide))
    have tz_11 : z_11.toInt = (dp : Int32).toInt + 1 := by rw [ez_11]; exact iv_addE hvdp (iv_k (by decide) : iv 1 1 1) (by decide)
    refine cm_callV (t := 6) (C := RX5) (T := TX5) (N := 13) (rest := []) (as := [.long z_10, .int z_11]) ⟨hx, hb, hml, hown, htb⟩ (HO sg gm lg x z_10 z_11 hI hvx (iv_w hz_11 (by decide)) hW hLD hMO hFN (by have := i32_0; have := i32_1; have := i32_2; have := i32_m1; have := (hvx).1; have := (hvx).2; have := (hvo).1; have := (hvo).2; have := (hvdp).1; have := (hvdp).2; have := (h_9).1; have := (h_9).2; have := (hz_11).1; have := (hz_11).2; omega)) (cwV 2 htb (gd_V kw_1006 kw_1007 kw_1008 kw_40 kw_1568) rfl rfl rfl (by decide +kernel) ⟨(show 22 + 8 * n9 + 1 ≤ 24 + 8 * n9 from by omega), (show 8 + (5 + 11) + (640 + 260 * n9) ≤ 680 + 260 * n9 from by omega)⟩) hvx (by decide) (by decide) rfl rfl hl.1 rfl (Nat.le_trans cs_n (by decide)) dX5_objectOf_15 ⟨Nat.le_of_ble_eq_true rfl, Nat.le_of_ble_eq_true rfl⟩ hK hP hD hS hA hG (fun E ce q9 u_13 H locs hw hP hD hS hce hcv hcl => ?_) (fun v9 u_13 H locs hw hP hD hS => ?_)
    · obtain ⟨hE, hw⟩ := hw
      obtain ⟨sgv_14, gmv_14, lgv_14, rfl, hIv_14, ksv_14, kgv_14, klv_14, xMO_v_14, xFN_v_14⟩ := hw
      obtain rfl := KS_nil klv_14
      have hP : va_P (dC, dI) vwCl (cW ad cid a2 lx sgv_14 gmv_14 lg) H := hP
      have hD : va_D A (cW ad cid a2 lx sgv_14 gmv_14 lg) := hD
      exact vx_out (fun x hx9 => (hxt x hx9).elim) hlocks hce hcv hcl (fun t ht hal => ⟨⟨(sgv_14, gmv_14, lg), ⟨hE, sgv_14, gmv_14, lg, rfl, hIv_14, (KS_tr (L := [13, 14, 15, 16, 17, 18]) KS_rf ksv_14 (by decide)), (KS_tr (L := [37, 38, 39, 48, 49, 50, 51, 52, 53]) KS_rf kgv_14 (by decide)), KS_rf, (xMO_v_14), (xFN_v_14)⟩, by rw [ht]; exact hP, va_K.moved hal hK, hD⟩, hS.F ht⟩) hS.2.2 (Nat.le_of_ble_eq_true rfl) (Nat.le_of_ble_eq_true rfl)
    obtain ⟨r_12, rfl, sgv_15, gmv_15, lgv_15, rfl, hIv_15, ksv_15, kgv_15, klv_15, hr_12, fMO_r_12, fFN_r_12, fBM_r_12, fWF_r_12⟩ := hw
    obtain rfl := KS_nil klv_15
    have hP : va_P (dC, dI) vwCl (cW ad cid a2 lx sgv_15 gmv_15 lg) H := hP
    have hD : va_D A (cW ad cid a2 lx sgv_15 gmv_15 lg) := hD
    refine W.eq (g2 := F0 m 18 ls [.int r_12]) rfl ?_
    have bm_r_12 := BMK_t BMK_rf fBM_r_12
    have wf_r_12 : WFR (24 * dp.toNatClampNeg + 24) gm gmv_15 := WFR_t WFR_rf fWF_r_12 (by have q1 : z_11.toNatClampNeg = z_11.toInt.toNat := rfl; have q2 : dp.toNatClampNeg = dp.toInt.toNat := rfl; have := i32_0; have := i32_1; have := i32_2; have := i32_m1; have := (hvx).1; have := (hvx).2; have := (hvo).1; have := (hvo).2; have := (hvdp).1; have := (hvdp).2; have := (h_9).1; have := (h_9).2; have := (hz_11).1; have := (hz_11).2; have := (hr_12).1; have := (hr_12).2; omega)
    refine lv_goto (tgt := 32) hx hb dX5_objectOf_18 (by decide) ?_
    exact W.nb (fun hN => W.widen (k := 1) (n := 6) (by decide) (by decide) (vx_ret (W.iret (v := r_12) hx hb hr (fun t ht hW => ⟨⟨some (.int r_12), (sgv_15, gmv_15, lg), rfl, ⟨r_12, rfl, sgv_15, gmv_15, lg, rfl, hIv_15, (KS_tr (L := [13, 14, 15, 16, 17, 18]) KS_rf ksv_15 (by decide)), (KS_tr (L := [37, 38, 39, 48, 49, 50, 51, 52, 53]) KS_rf kgv_15 (by decide)), KS_rf, hr_12, (fMO_r_12), (fFN_r_12), (bm_r_12), (wf_r_12)⟩, by rw [ht]; exact hP, va_K.moved hW.alike hK, hD⟩, hS.F ht, by rw [ht]; exact hN⟩) hS.2.2 dX5_objectOf_32)))

set_option maxHeartbeats 4000000 in
set_option maxRecDepth 100000 in
theorem d_itemValue (l : Launch) (dC : Nat → ClassId) (dI : Nat → Nat → Nat) (ad : Nat → Nat → Nat) (cid : Nat → ClassId) (a2 : Nat → Nat) (lx : List Nat) (sg : Nat → Int32) (gm : Nat → Nat → Int32) (lg : Nat → Nat → Int64) (hl9 : l.stackTraces = false) (n9 : Nat) (HO : PO l dC dI ad cid a2 lx n9) (HM : PM l dC dI ad cid a2 lx n9) (x : Int32) (o : Int32) (dp : Int32) (hI : CI sg gm) (hvx : iv 0 0 x) (hvo : iv 0 79 o) (hvdp : iv 0 39 dp) (hW : WRD sg gm lg) (hLD : LDI lx gm) (hMO : MOK sg gm lg) (hFN : FND9 sg gm) (ho4 : o.toInt < (sg 4).toInt) (hbo : BOK sg gm lg o.toNatClampNeg) (hdp : dp.toInt + ((n9 + 1 : Nat) : Int) = 40) : CMt dC dI ad cid a2 lx l yX5_itemValue wm_X5_itemValue ({ frames := 25 + 8 * n9, cells := 1, slots := 6, locals := 720 + 260 * n9 }) [eV (ad 6) x, eV (ad 9) o, .int dp] sg gm lg (fun v u => ∃ r : Int32, v = some (.int r) ∧ ∃ (sg2 : Nat → Int32) (gm2 : Nat → Nat → Int32) (lg2 : Nat → Nat → Int64), u = (sg2, gm2, lg2) ∧ CI sg2 gm2 ∧ KS [13, 14, 15, 16, 17, 18] sg sg2 ∧ KS [37, 38, 39, 48, 49, 50, 51, 52, 53] gm gm2 ∧ KS [] lg lg2 ∧ (MOK sg2 gm2 lg2) ∧ (FND9 sg2 gm2) ∧ (BMK gm gm2) ∧ (WFR (24 * dp.toNatClampNeg + 24) gm gm2)) (fun E u => (E = "java/lang/UnsupportedOperationException") ∧ ∃ (sg2 : Nat → Int32) (gm2 : Nat → Nat → Int32) (lg2 : Nat → Nat → Int64), u = (sg2, gm2, lg2) ∧ CI sg2 gm2 ∧ KS [13, 14, 15, 16, 17, 18] sg sg2 ∧ KS [37, 38, 39, 48, 49, 50, 51, 52, 53] gm gm2 ∧ KS [] lg lg2 ∧ (MOK sg2 gm2 lg2) ∧ (FND9 sg2 gm2)) := by
  intro sz
  refine vx_ofW (cc := cX5_itemValue) (maxL := 3) (ret := (some .int)) (by decide) rfl ?_
  intro p e s m args below meth c s₁ B hml hxt hv
  obtain ⟨rfl, hsz, hP, hK, hD0, hG⟩ := hv
  have hx := B.exec
  have hb := B.bytes
  have hr := B.returns
  have hts := atoms_spec (ws := wm_X5_itemValue) B.pre
  have htb := fun (w : Cond) (h : w ∈ tb) => hts w (List.mem_cons_of_mem _ h)
  have hown : s.vm.findClass RX5 = some m.cls := findClass_of_methodNamed B.named
  have hlocks := B.notSynchronized
  subst hsz
  have hD := hD0.self (sz := s.heap.size)
  generalize hAe : va_A (cW ad cid a2 lx sg gm lg) s.heap.size = A at hD hG ⊢
  have hA : ∀ q : Nat, s.heap.size ≤ q → A q := fun q h => by rw [← hAe]; exact Or.inr h
  have hS : va_S A s.heap s.heap [] := va_S.rf
  have hl := lv_entry ([eV (ad 6) x, eV (ad 9) o, .int dp]) (n := 3) (by rw [show (lg_sl ([eV (ad 6) x, eV (ad 9) o, .int dp])).length = 3 from by simp [lg_sl, eV_cat, cat_i, cat_l]]; exact Nat.le_of_ble_eq_true rfl)
  rw [lg_entry_eq]
  generalize (lg_sl ([eV (ad 6) x, eV (ad 9) o, .int dp]) ++ List.replicate (3 - (lg_sl ([eV (ad 6) x, eV (ad 9) o, .int dp])).length) Slot.unset).toArray = ls at hl ⊢
  have hl : lv_has ls 3 [(0, eV (ad 6) x), (1, eV (ad 9) o), (2, .int dp)] := by simp [lv_args, eV_cat, cat_i, cat_l] at hl; exact hl
  refine ec_aload_n hx hb dX5_itemValue_0 rfl (lv_at hl 1 rfl) ?_
  refine cr_get (t := 9) (j := 18) (C := RX3) (T := TX3) (N := 21) (v := eV (ad 33) (gm 25 o.toNatClampNeg)) hx hb htb inX3 hown hK hP hvo (by decide) (by decide) (by decide) rfl (by decide) (htb _ kw_1044) rfl dX5_itemValue_1 ?_
  obtain ⟨z_1, ez_1⟩ : ∃ z : Int32, z = (gm 25 o.toNatClampNeg) := ⟨_, rfl⟩
  refine W.eq (g2 := F0 m 4 ls [eV (ad 33) z_1]) (by rw [ez_1]) ?_
  have hz_1 : iv (-1) 33 z_1 := iv_of ez_1 (CI_a hI 25 hvo (by decide))
  refine cw_word (k := 7) (kx := 7) hx hb hG hS (by decide) rfl ⟨by decide, by decide⟩ hown (htb _ kw_1072) dX5_itemValue_4 ?_
  refine ec_acmp_ne (tgt := 19) hx hb dX5_itemValue_7 (by decide) (fun c_2 => ?_) (fun c_2 => ?_)
  · have wc_2 : ¬ z_1.toInt = (7 : Int) := fun q9 => c_2 (congrArg (er (ad 33)) (Int32.toInt_inj.mp q9))
    refine ec_aload_n hx hb dX5_itemValue_19 rfl (lv_at hl 1 rfl) ?_
    refine cr_get (t := 9) (j := 18) (C := RX3) (T := TX3) (N := 21) (v := eV (ad 33) (gm 25 o.toNatClampNeg)) hx hb htb inX3 hown hK hP hvo (by decide) (by decide) (by decide) rfl (by decide) (htb _ kw_1044) rfl dX5_itemValue_20 ?_
    refine W.eq (g2 := F0 m 23 ls [eV (ad 33) z_1]) (by rw [show (gm 25 o.toNatClampNeg) = z_1 from ez_1.symm]) ?_
    refine cw_word (k := 9) (kx := 9) hx hb hG hS (by decide) rfl ⟨by decide, by decide⟩ hown (htb _ kw_1073) dX5_itemValue_23 ?_
    refine ec_acmp_ne (tgt := 33) hx hb dX5_itemValue_26 (by decide) (fun c_3 => ?_) (fun c_3 => ?_)
    · have wc_3 : ¬ z_1.toInt = (9 : Int) := fun q9 => c_3 (congrArg (er (ad 33)) (Int32.toInt_inj.mp q9))
      refine lv_sipush (v := 3000) hx hb dX5_itemValue_33 (by decide) ?_
      refine ec_aload_n hx hb dX5_itemValue_36 rfl (lv_at hl 0 rfl) ?_
      refine ec_aload_n hx hb dX5_itemValue_37 rfl (lv_at hl 1 rfl) ?_
      refine lv_iload_n hx hb dX5_itemValue_38 rfl (lv_at hl 2 rfl) ?_
      refine cm_callV (t := 6) (C := RX5) (T := TX5) (N := 13) (rest := [.int 3000]) (as := [eV (ad 9) o, .int dp]) ⟨hx, hb, hml, hown, htb⟩ (d_objectOf l dC dI ad cid a2 lx sg gm lg hl9 n9 HO HM x o dp hI hvx hvo hvdp hW hLD hMO hFN ho4 hbo (by have := i32_0; have := i32_1; have := i32_2; have := i32_m1; have := (hvx).1; have := (hvx).2; have := (hvo).1; have := (hvo).2; have := (hvdp).1; have := (hvdp).2; have := (hz_1).1; have := (hz_1).2; omega)) (cwV 2 htb (gd_V kw_1074 kw_1075 kw_1076 kw_40 kw_1594) rfl rfl rfl (by decide +kernel) ⟨(show 24 + 8 * n9 + 1 ≤ 25 + 8 * n9 from by omega), (show 8 + (3 + 11) + (680 + 260 * n9) ≤ 720 + 260 * n9 from by omega)⟩) hvx (by decide) (by decide) rfl rfl hl.1 rfl (Nat.le_trans (cs_c (cat_i _) cs_n) (by decide)) dX5_itemValue_39 ⟨Nat.le_of_ble_eq_true rfl, Nat.le_of_ble_eq_true rfl⟩ hK hP hD hS hA hG (fun E ce q9 u_5 H locs hw hP hD hS hce hcv hcl => ?_) (fun v9 u_5 H locs hw hP hD hS => ?_)
      · obtain ⟨hE, hw⟩ := hw
        obtain ⟨sgv_6, gmv_6, lgv_6, rfl, hIv_6, ksv_6, kgv_6, klv_6, xMO_v_6, xFN_v_6⟩ := hw
        obtain rfl := KS_nil klv_6
        have hP : va_P (dC, dI) vwCl (cW ad cid a2 lx sgv_6 gmv_6 lg) H := hP
        have hD : va_D A (cW ad cid a2 lx sgv_6 gmv_6 lg) := hD
        exact vx_out (fun x hx9 => (hxt x hx9).elim) hlocks hce hcv hcl (fun t ht hal => ⟨⟨(sgv_6, gmv_6, lg), ⟨hE, sgv_6, gmv_6, lg, rfl, hIv_6, (KS_tr (L := [13, 14, 15, 16, 17, 18]) KS_rf ksv_6 (by decide)), (KS_tr (L := [37, 38, 39, 48, 49, 50, 51, 52, 53]) KS_rf kgv_6 (by decide)), KS_rf, (xMO_v_6), (xFN_v_6)⟩, by rw [ht]; exact hP, va_K.moved hal hK, hD⟩, hS.F ht⟩) hS.2.2 (Nat.le_of_ble_eq_true rfl) (Nat.le_of_ble_eq_true rfl)
      obtain ⟨r_4, rfl, sgv_7, gmv_7, lgv_7, rfl, hIv_7, ksv_7, kgv_7, klv_7, hr_4, fMO_r_4, fFN_r_4, fBM_r_4, fWF_r_4⟩ := hw
      obtain rfl := KS_nil klv_7
      have hP : va_P (dC, dI) vwCl (cW ad cid a2 lx sgv_7 gmv_7 lg) H := hP
      have hD : va_D A (cW ad cid a2 lx sgv_7 gmv_7 lg) := hD
      refine W.eq (g2 := F0 m 42 ls [.int r_4, .int 3000]) rfl ?_
      have bm_r_4 := BMK_t BMK_rf fBM_r_4
      have wf_r_4 : WFR (24 * dp.toNatClampNeg + 24) gm gmv_7 := WFR_t WFR_rf fWF_r_4 (Nat.le_refl _)
      refine lv_iadd hx hb dX5_itemValue_42 ?_
      refine lv_topi (fun z_8 ez_8 => ?_)
      have hz_8 : iv 3000 3059 z_8 := iv_of ez_8 (iv_add (iv_k (by decide) : iv 3000 3000 3000) hr_4 (by decide))
      have tz_8 : z_8.toInt = 3000 + (r_4 : Int32).toInt := by rw [ez_8]; exact iv_addE (iv_k (by decide) : iv 3000 3000 3000) hr_4 (by decide)
      exact W.nb (fun hN => W.widen (k := 1) (n := 6) (by decide) (by decide) (vx_ret (W.iret (v := z_8) hx hb hr (fun t ht hW => ⟨⟨some (.int z_8), (sgv_7, gmv_7, lg), rfl, ⟨z_8, rfl, sgv_7, gmv_7, lg, rfl, hIv_7, (KS_tr (L := [13, 14, 15, 16, 17, 18]) KS_rf ksv_7 (by decide)), (KS_tr (L := [37, 38, 39, 48, 49, 50, 51, 52, 53]) KS_rf kgv_7 (by decide)), KS_rf, (fMO_r_4), (fFN_r_4), (bm_r_4), (wf_r_4)⟩, by rw [ht]; exact hP, va_K.moved hW.alike hK, hD⟩, hS.F ht, by rw [ht]; exact hN⟩) hS.2.2 dX5_itemValue_43)))
    · have wc_3 : z_1.toInt = (9 : Int) := er_wd hG hz_1 (iv_w (iv_k (by decide) : iv 9 9 9) (by decide)) c_3
      refine lv_iconst (v := (-1)) hx hb dX5_itemValue_29 (by decide) ?_
      refine lv_goto (tgt := 43) hx hb dX5_itemValue_30 (by decide) ?_
      exact W.nb (fun hN => W.widen (k := 1) (n := 6) (by decide) (by decide) (vx_ret (W.iret (v := (-1)) hx hb hr (fun t ht hW => ⟨⟨some (.int (-1)), (sg, gm, lg), rfl, ⟨(-1), rfl, sg, gm, lg, rfl, hI, KS_rf, KS_rf, KS_rf, (hMO), (hFN), (BMK_rf), (WFR_rf)⟩, by rw [ht]; exact hP, va_K.moved hW.alike hK, hD⟩, hS.F ht, by rw [ht]; exact hN⟩) hS.2.2 dX5_itemValue_43)))
  · have wc_2 : z_1.toInt = (7 : Int) := er_wd hG hz_1 (iv_w (iv_k (by decide) : iv 7 7 7) (by decide)) c_2
    refine lv_sipush (v := 1000) hx hb dX5_itemValue_10 (by decide) ?_
    refine ec_aload_n hx hb dX5_itemValue_13 rfl (lv_at hl 1 rfl) ?_
    refine cr_get (t := 9) (j := 1) (C := RX3) (T := TX3) (N := 21) (v := .int (gm 11 o.toNatClampNeg)) hx hb htb inX3 hown hK hP hvo (by decide) (by decide) (by decide) rfl (by decide) (htb _ kw_1051) rfl dX5_itemValue_14 ?_
    obtain ⟨z_9, ez_9⟩ : ∃ z : Int32, z = (gm 11 o.toNatClampNeg) := ⟨_, rfl⟩
    refine W.eq (g2 := F0 m 17 ls [.int z_9, .int 1000]) (by rw [ez_9]) ?_
    have hz_9 : iv 0 24 z_9 := iv_of ez_9 (CI_a hI 11 hvo (by decide))
    refine lv_iadd hx hb dX5_itemValue_17 ?_
    refine lv_topi (fun z_10 ez_10 => ?_)
    have hz_10 : iv 1000 1024 z_10 := iv_of ez_10 (iv_add (iv_k (by decide) : iv 1000 1000 1000) hz_9 (by decide))
    have tz_10 : z_10.toInt = 1000 + (z_9 : Int32).toInt := by rw [ez_10]; exact iv_addE (iv_k (by decide) : iv 1000 1000 1000) hz_9 (by decide)
    exact W.nb (fun hN => W.widen (k := 1) (n := 6) (by decide) (by decide) (vx_ret (W.iret (v := z_10) hx hb hr (fun t ht hW => ⟨⟨some (.int z_10), (sg, gm, lg), rfl, ⟨z_10, rfl, sg, gm, lg, rfl, hI, KS_rf, KS_rf, KS_rf, (hMO), (hFN), (BMK_rf), (WFR_rf)⟩, by rw [ht]; exact hP, va_K.moved hW.alike hK, hD⟩, hS.F ht, by rw [ht]; exact hN⟩) hS.2.2 dX5_itemValue_18)))
