section
/-- the level of an element in the list: d steps up and out -/
def LVD (D : List El7) : Nat → Int → Prop
  | 0, x => x = -1
  | d + 1, x => ∃ w, 0 ≤ x ∧ D[x.toNat]? = some w ∧ LVD D d w.2.1
theorem LVD_m {D D2 : List El7} (h : ∀ (e : Nat) (w : El7), D[e]? = some w → ∃ w2 : El7, D2[e]? = some w2 ∧ w2.2.1 = w.2.1) : ∀ d x, LVD D d x → LVD D2 d x := by
  intro d
  induction d with
  | zero => intro x hx; exact hx
  | succ d ih =>
    intro x hx
    obtain ⟨w, h0, h1, h2⟩ := hx
    obtain ⟨w2, h3, h4⟩ := h _ _ h1
    exact ⟨w2, h0, h3, by rw [h4]; exact ih _ h2⟩
theorem LVD_s {ch : Nat → Int} {n : Nat} {D D2 : List El7} {cur c2 : Int} {depth d2 a b : Nat} (h : sSt ch n D cur depth a = some (D2, c2, d2, b)) (hl : LVD D depth cur) (hd : 1 ≤ depth) : LVD D2 d2 c2 := by
  obtain ⟨d0, rfl⟩ : ∃ d0, depth = d0 + 1 := ⟨depth - 1, by omega⟩
  unfold sSt at h
  split at h
  · split at h
    · cases hc : sCom ch n a with
      | none => rw [hc] at h; cases h
      | some e => rw [hc] at h; cases h; exact hl
    · split at h
      · cases hw : D[cur.toNat]? with
        | none => rw [hw] at h; cases h
        | some w =>
          rw [hw] at h
          have h : (match sEd ch n w.1 a with | none => none | some b => some (D, w.2.1, d0 + 1 - 1, b)) = some (D2, c2, d2, b) := h
          cases hc : sEd ch n w.1 a with
          | none => rw [hc] at h; cases h
          | some e =>
            rw [hc] at h; cases h
            obtain ⟨w', h0, h1, h2⟩ := hl
            rw [hw] at h1
            cases h1
            exact h2
      · cases hc : sOp ch n D.length (d0 + 1) a with
        | none => rw [hc] at h; cases h
        | some w =>
          obtain ⟨k, q, c, e⟩ := w
          rw [hc] at h
          have hm : ∀ (e : Nat) (w : El7), D[e]? = some w → ∃ w2 : El7, (D ++ [(a, cur, k, q, 0, [])])[e]? = some w2 ∧ w2.2.1 = w.2.1 := fun e w hw => ⟨w, by rw [List.getElem?_append_left (gl_lt hw)]; exact hw, rfl⟩
          cases c with
          | true => cases h; exact LVD_m hm _ _ hl
          | false =>
            cases h
            refine ⟨(a, cur, k, q, 0, []), by show (0 : Int) ≤ (D.length : Int); omega, ?_, LVD_m hm _ _ hl⟩
            show (D ++ [((a, cur, k, q, 0, []) : El7)])[((D.length : Nat) : Int).toNat]? = some (a, cur, k, q, 0, [])
            rw [Int.toNat_natCast, List.getElem?_append_right (Nat.le_refl _), Nat.sub_self]
            rfl
  · cases hc : sCh ch a with
    | none => rw [hc] at h; cases h
    | some r =>
      obtain ⟨x, e⟩ := r
      rw [hc] at h
      cases hw : D[cur.toNat]? with
      | none => rw [hw] at h; cases h
      | some w =>
        rw [hw] at h
        have h : (match sTx w.2.2.2.2.1 w.2.2.2.2.2 x with | none => none | some (ts, te) => some (D.set cur.toNat (w.1, w.2.1, w.2.2.1, w.2.2.2.1, ts, te), cur, d0 + 1, e + 1)) = some (D2, c2, d2, b) := h
        cases ht : sTx w.2.2.2.2.1 w.2.2.2.2.2 x with
        | none => rw [ht] at h; cases h
        | some t =>
          obtain ⟨ts, te⟩ := t
          rw [ht] at h
          cases h
          refine LVD_m (fun e y hy => ?_) _ _ hl
          by_cases e9 : cur.toNat = e
          · subst e9
            rw [hw] at hy
            cases hy
            exact ⟨_, List.getElem?_set_self (gl_lt hw), rfl⟩
          · exact ⟨y, by rw [List.getElem?_set_ne e9]; exact hy, rfl⟩

theorem LVD_z {D : List El7} {d : Nat} {x : Int} (h : 1 ≤ d) (hx : x < 0) : ¬ LVD D d x := by
  obtain ⟨d0, rfl⟩ : ∃ d0, d = d0 + 1 := ⟨d - 1, by omega⟩
  rintro ⟨w, h0, _⟩
  omega

set_option maxHeartbeats 4000000 in
set_option maxRecDepth 100000 in
theorem d_firstWrongR2 (l : Launch) (dC : Nat → ClassId) (dI : Nat → Nat → Nat) (ad : Nat → Nat → Nat) (cid : Nat → ClassId) (a2 : Nat → Nat) (lx : List Nat) (sg : Nat → Int32) (gm : Nat → Nat → Int32) (lg : Nat → Nat → Int64) (hl9 : l.stackTraces = false) (x : Int32) (tx : Int32) (ln : Int32) (ch : Nat → Int) (N9 : Nat) (K9 : Nat) (hI : CI sg gm) (hvx : iv 0 0 x) (hvtx : iv 0 0 tx) (hvln : iv 0 1200 ln) (hU12 : UB 12 K9 gm) (hU18 : UB 18 K9 gm) (hK9 : K9 ≤ 1998700) (hch0 : CHR ch N9 ln (gm 43)) : CMg dC dI ad cid l yX7_firstWrongPlace wm_X7_firstWrongPlace ({ frames := 12, cells := 30481, slots := 121926, locals := 252 }) [eV (ad 2) x, eV (ad 13) tx, .int ln] a2 lx sg gm lg 1 30481 121926 (fun v u => ∃ r : Int32, v = some (.int r) ∧ ∃ (sg2 : Nat → Int32) (gm2 : Nat → Nat → Int32) (lg2 : Nat → Nat → Int64), u = (a2, lx, sg2, gm2, lg2) ∧ CI sg2 gm2 ∧ KS [4, 5, 6, 7, 8, 9, 10, 11] sg sg2 ∧ KS [11, 12, 13, 14, 15, 16, 17, 18, 19, 20, 21, 22, 23, 24, 25, 26, 27, 44, 45, 46, 56] gm gm2 ∧ KS [0, 1, 2, 3] lg lg2 ∧ (iv (-1) 1201 r) ∧ (UB 12 (K9 + 1203) gm2) ∧ (UB 18 (K9 + 1203) gm2) ∧ (r.toInt = -1 → FA sg2 gm2 ∧ VS sg2 gm2 ∧ LK sg2 gm2 ∧ BN sg2 gm2) ∧ ((r.toInt = -1 ∧ ∃ D, sDoc ch N9 = some D ∧ RDC D sg2 gm2 lg2) ∨ (¬ r.toInt = -1 ∧ sDoc ch N9 = none))) (fun _ _ => False) := by
  intro sz
  refine vx_ofWH (cc := cX7_firstWrongPlace) (maxL := 4) (ret := (some .int)) (by decide) rfl ?_
  intro p e s m args below meth c s₁ B hml hv
  obtain ⟨rfl, hsz, hP, hK, hD0, hG⟩ := hv
  have hx := B.exec
  have hb := B.bytes
  have hr := B.returns
  have hts := atoms_spec (ws := wm_X7_firstWrongPlace) B.pre
  have htb := fun (w : Cond) (h : w ∈ tb) => hts w (List.mem_cons_of_mem _ h)
  have hown : s.vm.findClass RX7 = some m.cls := findClass_of_methodNamed B.named
  have hlocks := B.notSynchronized
  have hxt := vx_table (x := yX7_firstWrongPlace) B (hts _ List.mem_cons_self)
  subst hsz
  have hD := hD0.self (sz := s.heap.size)
  generalize hAe : va_A (cW ad cid a2 lx sg gm lg) s.heap.size = A at hD hG ⊢
  have hA : ∀ q : Nat, s.heap.size ≤ q → A q := fun q h => by rw [← hAe]; exact Or.inr h
  have hS : va_S A s.heap s.heap [] := va_S.rf
  have hl := lv_entry ([eV (ad 2) x, eV (ad 13) tx, .int ln]) (n := 4) (by rw [show (lg_sl ([eV (ad 2) x, eV (ad 13) tx, .int ln])).length = 3 from by simp [lg_sl, eV_cat, cat_i, cat_l]]; exact Nat.le_of_ble_eq_true rfl)
  rw [lg_entry_eq]
  generalize (lg_sl ([eV (ad 2) x, eV (ad 13) tx, .int ln]) ++ List.replicate (4 - (lg_sl ([eV (ad 2) x, eV (ad 13) tx, .int ln])).length) Slot.unset).toArray = ls at hl ⊢
  have hl : lv_has ls 4 [(0, eV (ad 2) x), (1, eV (ad 13) tx), (2, .int ln)] := by simp [lv_args, eV_cat, cat_i, cat_l] at hl; exact hl
  refine W.widen (k := gc gm gm 0) (n := gs gm gm 0) (Nat.zero_le _) (Nat.zero_le _) ?_
  have hj67 : ∀ (sg_j67 : Nat → Int32) (gm_j67 : Nat → Nat → Int32) (lg_j67 : Nat → Nat → Int64) (x3_67 : Int32) (_ : iv 0 1201 x3_67) (_ : iv 0 0 x) (_ : iv 0 0 tx) (_ : iv 0 1200 ln) (_ : KS [4, 5, 6, 7, 8, 9, 10, 11] sg sg_j67) (_ : KS [11, 12, 13, 14, 15, 16, 17, 18, 19, 20, 21, 22, 23, 24, 25, 26, 27, 44, 45, 46, 56] gm gm_j67) (_ : KS [0, 1, 2, 3] lg lg_j67) (_ : CI sg_j67 gm_j67) (_ : (sg_j67 9).toInt ≤ (sg_j67 8).toInt) (_ : sg_j67 8 = ln) (_ : 0 ≤ (sg_j67 7).toInt) (_ : RDI sg_j67 gm_j67) (_ : UB 12 (K9 + 1203) gm_j67) (_ : UB 18 (K9 + 1203) gm_j67) (_ : CHR ch N9 (sg_j67 8) (gm_j67 43)) (_ : ∃ D, RDC D sg_j67 gm_j67 lg_j67 ∧ sDoc ch N9 = doT ch N9 (some (D, (sg_j67 9).toInt.toNat))) (_ : PHs gm ≤ PHs gm_j67) (H : Heap) (locs : List Loc) (ls : Array Slot), va_P (dC, dI) vwCl (cW ad cid a2 lx sg_j67 gm_j67 lg_j67) H → va_D A (cW ad cid a2 lx sg_j67 gm_j67 lg_j67) → va_S A s.heap H locs → lv_has ls 4 [(3, .int x3_67), (0, eV (ad 2) x), (1, eV (ad 13) tx), (2, .int ln)] → W p l e (headSpec wm_X7_firstWrongPlace ({ frames := 12, cells := 30481, slots := 121926, locals := 252 })).room s m ([eV (ad 2) x, eV (ad 13) tx, .int ln] : List Value).toArray below meth c H locs (gc gm gm_j67 0) (gs gm gm_j67 0) (vx_MQ below (cQg dC dI ad cid (fun v u => ∃ r : Int32, v = some (.int r) ∧ ∃ (sg2 : Nat → Int32) (gm2 : Nat → Nat → Int32) (lg2 : Nat → Nat → Int64), u = (a2, lx, sg2, gm2, lg2) ∧ CI sg2 gm2 ∧ KS [4, 5, 6, 7, 8, 9, 10, 11] sg sg2 ∧ KS [11, 12, 13, 14, 15, 16, 17, 18, 19, 20, 21, 22, 23, 24, 25, 26, 27, 44, 45, 46, 56] gm gm2 ∧ KS [0, 1, 2, 3] lg lg2 ∧ (iv (-1) 1201 r) ∧ (UB 12 (K9 + 1203) gm2) ∧ (UB 18 (K9 + 1203) gm2) ∧ (r.toInt = -1 → FA sg2 gm2 ∧ VS sg2 gm2 ∧ LK sg2 gm2 ∧ BN sg2 gm2) ∧ ((r.toInt = -1 ∧ ∃ D, sDoc ch N9 = some D ∧ RDC D sg2 gm2 lg2) ∨ (¬ r.toInt = -1 ∧ sDoc ch N9 = none))) 1 gm A) (cXg dC dI ad cid (fun _ _ => False) 1 gm A) ([eV (ad 2) x, eV (ad 13) tx, .int ln] : List Value).toArray s 30481 121926 A) (F0 m 67 ls []) := by
    intro sg_j67 gm_j67 lg_j67 x3_67 hx3_67 hsx0_67 hsx1_67 hsx2_67 hks_j67 hkg_j67 hkl_j67 hI_j67 hAL2 h8n h7p hRD2 hU12b hU18b hch u67 hm_j67 H locs ls hP hD hS hl
    refine ec_aload_n hx hb dX7_firstWrongPlace_67 rfl (lv_at hl 1 rfl) ?_
    refine cm_callTV (t := 2) (C := RX7) (T := TX7) (N := 6) (rest := []) (as := []) ⟨hx, hb, hml, hown, htb⟩ (d_skipAround2 l dC dI ad cid a2 lx sg_j67 gm_j67 lg_j67 hl9 x ch N9 hI_j67 hsx0_67 (by have := i32_0; have := i32_1; have := i32_2; have := i32_m1; have := (show iv (-1) 0 (sg_j67 7) from CI_s hI_j67 7).1; have := (show iv (-1) 0 (sg_j67 7) from CI_s hI_j67 7).2; have := (show iv (-1) 0 (sg 7) from CI_s hI 7).1; have := (show iv (-1) 0 (sg 7) from CI_s hI 7).2; have := (hsx0_67).1; have := (hsx0_67).2; have := (hsx1_67).1; have := (hsx1_67).2; have := (hsx2_67).1; have := (hsx2_67).2; have := (hx3_67).1; have := (hx3_67).2; omega) (by have := i32_0; have := i32_1; have := i32_2; have := i32_m1; have := (show iv 0 80 (sg_j67 4) from CI_s hI_j67 4).1; have := (show iv 0 80 (sg_j67 4) from CI_s hI_j67 4).2; have := (show iv 0 80 (sg 4) from CI_s hI 4).1; have := (show iv 0 80 (sg 4) from CI_s hI 4).2; have := (show iv 0 240 (sg_j67 5) from CI_s hI_j67 5).1; have := (show iv 0 240 (sg_j67 5) from CI_s hI_j67 5).2; have := (show iv 0 240 (sg 5) from CI_s hI 5).1; have := (show iv 0 240 (sg 5) from CI_s hI 5).2; have := (show iv 0 1200 (sg_j67 6) from CI_s hI_j67 6).1; have := (show iv 0 1200 (sg_j67 6) from CI_s hI_j67 6).2; have := (show iv 0 1200 (sg 6) from CI_s hI 6).1; have := (show iv 0 1200 (sg 6) from CI_s hI 6).2; have := (show iv (-1) 0 (sg_j67 7) from CI_s hI_j67 7).1; have := (show iv (-1) 0 (sg_j67 7) from CI_s hI_j67 7).2; have := (show iv (-1) 0 (sg 7) from CI_s hI 7).1; have := (show iv (-1) 0 (sg 7) from CI_s hI 7).2; have := (show iv 0 1200 (sg_j67 8) from CI_s hI_j67 8).1; have := (show iv 0 1200 (sg_j67 8) from CI_s hI_j67 8).2; have := (show iv 0 1200 (sg 8) from CI_s hI 8).1; have := (show iv 0 1200 (sg 8) from CI_s hI 8).2; have := (show iv 0 1201 (sg_j67 9) from CI_s hI_j67 9).1; have := (show iv 0 1201 (sg_j67 9) from CI_s hI_j67 9).2; have := (show iv 0 1201 (sg 9) from CI_s hI 9).1; have := (show iv 0 1201 (sg 9) from CI_s hI 9).2; have := (show iv (-1201) 6 (sg_j67 10) from CI_s hI_j67 10).1; have := (show iv (-1201) 6 (sg_j67 10) from CI_s hI_j67 10).2; have := (show iv (-1201) 6 (sg 10) from CI_s hI 10).1; have := (show iv (-1201) 6 (sg 10) from CI_s hI 10).2; have := (show iv (-1) 79 (sg_j67 11) from CI_s hI_j67 11).1; have := (show iv (-1) 79 (sg_j67 11) from CI_s hI_j67 11).2; have := (show iv (-1) 79 (sg 11) from CI_s hI 11).1; have := (show iv (-1) 79 (sg 11) from CI_s hI 11).2; have := (hsx0_67).1; have := (hsx0_67).2; have := (hsx1_67).1; have := (hsx1_67).2; have := (hsx2_67).1; have := (hsx2_67).2; have := (hx3_67).1; have := (hx3_67).2; omega) (CHR_k hch rfl rfl)) (cwV 0 htb (gd_V kw_551 kw_552 kw_3 kw_151 kw_1425) rfl rfl rfl (by decide +kernel) ⟨Nat.le_of_ble_eq_true rfl, Nat.le_of_ble_eq_true rfl⟩) hsx0_67 (by decide) (by decide) rfl rfl hl.1 rfl (Nat.le_trans cs_n (by decide)) dX7_firstWrongPlace_68 ⟨Nat.le_trans (gc_le hI_j67) (Nat.le_of_ble_eq_true rfl), Nat.le_trans (gs_le hI_j67) (Nat.le_of_ble_eq_true rfl)⟩ hK hP hD hS hA hG (fun E ce q9 u_2 H locs hw hP hD hS hce hcv hcl => ?_) (fun v9 u_2 H locs hw hP hD hS => ?_)
    · obtain ⟨hE, hw⟩ := hw
      obtain ⟨sgv_3, gmv_3, lgv_3, rfl, hIv_3, ksv_3, kgv_3, klv_3, xB_v_3⟩ := hw
      obtain rfl := KS_nil kgv_3
      obtain rfl := KS_nil klv_3
      have hP : va_P (dC, dI) vwCl (cW ad cid a2 lx sgv_3 gm_j67 lg_j67) H := hP
      have hD : va_D A (cW ad cid a2 lx sgv_3 gm_j67 lg_j67) := hD
      refine vx_widen (k := gc gm gm_j67 1) (n := gs gm gm_j67 1) (by unfold gc; omega) (by unfold gs; omega) ?_
      subst hE
      refine mc_catch (own := RX7) (name := "java/lang/IllegalArgumentException") hown ⟨32, 75, 78, 50⟩ [] hxt (by decide) (by decide) (htb _ kw_547) (va_Nw.use rfl hG.1.2.1.1) hce hcv hcl ?_
      refine lv_astore_n (i := 3) (lv' := [(3, .ref q9), (0, eV (ad 2) x), (1, eV (ad 13) tx), (2, .int ln)]) hx hb dX7_firstWrongPlace_78 rfl hl (by decide) rfl (fun ls hl => ?_)
      refine ec_aload_n hx hb dX7_firstWrongPlace_79 rfl (lv_at hl 1 rfl) ?_
      refine cr_get (t := 2) (j := 3) (C := RX7) (T := TX7) (N := 6) (v := .int (sgv_3 9)) hx hb htb inX7 hown hK hP hsx0_67 (by decide) (by decide) (by decide) rfl (by decide) (htb _ kw_315) rfl dX7_firstWrongPlace_80 ?_
      exact W.nb (fun hN => W.widen (k := 30481) (n := 121926) (Nat.le_trans (gc_l0 (gm := gm) (k := 1) hI_j67) (Nat.le_of_ble_eq_true rfl)) (Nat.le_trans (gs_l0 (gm := gm) (k := 1) hI_j67) (Nat.le_of_ble_eq_true rfl)) (vx_ret (W.iret (v := (sgv_3 9)) hx hb hr (fun t ht hW => ⟨⟨some (.int (sgv_3 9)), (a2, lx, sgv_3, gm_j67, lg_j67), rfl, ⟨(sgv_3 9), rfl, sgv_3, gm_j67, lg_j67, rfl, hIv_3, (KS_tr (L := [4, 5, 6, 7, 8, 9, 10, 11]) (KS_tr (L := [4, 5, 6, 7, 8, 9, 10, 11]) KS_rf hks_j67 (by decide)) ksv_3 (by decide)), (KS_tr (L := [11, 12, 13, 14, 15, 16, 17, 18, 19, 20, 21, 22, 23, 24, 25, 26, 27, 44, 45, 46, 56]) KS_rf hkg_j67 (by decide)), (KS_tr (L := [0, 1, 2, 3]) KS_rf hkl_j67 (by decide)), (iv_w (show iv 0 1201 (sgv_3 9) from CI_s hIv_3 9) (by decide)), (UB_k hU12b rfl (by have := i32_0; have := i32_1; have := i32_2; have := i32_m1; have := (hsx0_67).1; have := (hsx0_67).2; have := (hsx1_67).1; have := (hsx1_67).2; have := (hsx2_67).1; have := (hsx2_67).2; have := (hx3_67).1; have := (hx3_67).2; have := ((show iv 0 1201 (sgv_3 9) from CI_s hIv_3 9)).1; have := ((show iv 0 1201 (sgv_3 9) from CI_s hIv_3 9)).2; omega)), (UB_k hU18b rfl (by have := i32_0; have := i32_1; have := i32_2; have := i32_m1; have := (hsx0_67).1; have := (hsx0_67).2; have := (hsx1_67).1; have := (hsx1_67).2; have := (hsx2_67).1; have := (hsx2_67).2; have := (hx3_67).1; have := (hx3_67).2; have := ((show iv 0 1201 (sgv_3 9) from CI_s hIv_3 9)).1; have := ((show iv 0 1201 (sgv_3 9) from CI_s hIv_3 9)).2; omega)), (fun q9 => absurd q9 (by have := i32_0; have := i32_1; have := i32_2; have := i32_m1; have := (show iv 0 1201 (sgv_3 9) from CI_s hIv_3 9).1; have := (show iv 0 1201 (sgv_3 9) from CI_s hIv_3 9).2; have := (show iv 0 1201 (sg_j67 9) from CI_s hI_j67 9).1; have := (show iv 0 1201 (sg_j67 9) from CI_s hI_j67 9).2; have := (show iv 0 1201 (sg 9) from CI_s hI 9).1; have := (show iv 0 1201 (sg 9) from CI_s hI 9).2; have := (hsx0_67).1; have := (hsx0_67).2; have := (hsx1_67).1; have := (hsx1_67).2; have := (hsx2_67).1; have := (hsx2_67).2; have := (hx3_67).1; have := (hx3_67).2; have := ((show iv 0 1201 (sgv_3 9) from CI_s hIv_3 9)).1; have := ((show iv 0 1201 (sgv_3 9) from CI_s hIv_3 9)).2; omega)), (Or.inr ⟨(by have := i32_0; have := i32_1; have := i32_2; have := i32_m1; have := (show iv 0 1201 (sgv_3 9) from CI_s hIv_3 9).1; have := (show iv 0 1201 (sgv_3 9) from CI_s hIv_3 9).2; have := (show iv 0 1201 (sg_j67 9) from CI_s hI_j67 9).1; have := (show iv 0 1201 (sg_j67 9) from CI_s hI_j67 9).2; have := (show iv 0 1201 (sg 9) from CI_s hI 9).1; have := (show iv 0 1201 (sg 9) from CI_s hI 9).2; have := (hsx0_67).1; have := (hsx0_67).2; have := (hsx1_67).1; have := (hsx1_67).2; have := (hsx2_67).1; have := (hsx2_67).2; have := (hx3_67).1; have := (hx3_67).2; have := ((show iv 0 1201 (sgv_3 9) from CI_s hIv_3 9)).1; have := ((show iv 0 1201 (sgv_3 9) from CI_s hIv_3 9)).2; omega), (by obtain ⟨D, z1, z2⟩ := u67; exact z2.trans (doT_n xB_v_3))⟩)⟩, ⟨by rw [ht]; exact hP, va_K.moved hW.alike hK, hD⟩, hm_j67, by rw [ht]; exact hN⟩, hS.F ht⟩) hS.2.2 dX7_firstWrongPlace_83)))
    obtain ⟨rfl, sgv_4, gmv_4, lgv_4, rfl, hIv_4, ksv_4, kgv_4, klv_4, fE_r_1, fB_r_1⟩ := hw
    obtain rfl := KS_nil kgv_4
    obtain rfl := KS_nil klv_4
    have hP : va_P (dC, dI) vwCl (cW ad cid a2 lx sgv_4 gm_j67 lg_j67) H := hP
    have hD : va_D A (cW ad cid a2 lx sgv_4 gm_j67 lg_j67) := hD
    refine W.eq (g2 := F0 m 71 ls []) rfl ?_
    refine ec_aload_n hx hb dX7_firstWrongPlace_71 rfl (lv_at hl 1 rfl) ?_
    refine cm_callTV (t := 2) (C := RX7) (T := TX7) (N := 6) (rest := []) (as := []) ⟨hx, hb, hml, hown, htb⟩ (d_refuseMore2 l dC dI ad cid a2 lx sgv_4 gm_j67 lg_j67 hl9 x ch N9 hIv_4 hsx0_67 (by have := i32_0; have := i32_1; have := i32_2; have := i32_m1; have := congrArg Int32.toInt (show sgv_4 7 = sg_j67 7 from ksv_4 7 (by decide)); have := (show iv (-1) 0 (sg_j67 7) from CI_s hI_j67 7).1; have := (show iv (-1) 0 (sg_j67 7) from CI_s hI_j67 7).2; have := (show iv (-1) 0 (sg 7) from CI_s hI 7).1; have := (show iv (-1) 0 (sg 7) from CI_s hI 7).2; have := (hsx0_67).1; have := (hsx0_67).2; have := (hsx1_67).1; have := (hsx1_67).2; have := (hsx2_67).1; have := (hsx2_67).2; have := (hx3_67).1; have := (hx3_67).2; omega) (by have := i32_0; have := i32_1; have := i32_2; have := i32_m1; have := congrArg Int32.toInt (show sgv_4 4 = sg_j67 4 from ksv_4 4 (by decide)); have := (show iv 0 80 (sg_j67 4) from CI_s hI_j67 4).1; have := (show iv 0 80 (sg_j67 4) from CI_s hI_j67 4).2; have := (show iv 0 80 (sg 4) from CI_s hI 4).1; have := (show iv 0 80 (sg 4) from CI_s hI 4).2; have := congrArg Int32.toInt (show sgv_4 5 = sg_j67 5 from ksv_4 5 (by decide)); have := (show iv 0 240 (sg_j67 5) from CI_s hI_j67 5).1; have := (show iv 0 240 (sg_j67 5) from CI_s hI_j67 5).2; have := (show iv 0 240 (sg 5) from CI_s hI 5).1; have := (show iv 0 240 (sg 5) from CI_s hI 5).2; have := congrArg Int32.toInt (show sgv_4 6 = sg_j67 6 from ksv_4 6 (by decide)); have := (show iv 0 1200 (sg_j67 6) from CI_s hI_j67 6).1; have := (show iv 0 1200 (sg_j67 6) from CI_s hI_j67 6).2; have := (show iv 0 1200 (sg 6) from CI_s hI 6).1; have := (show iv 0 1200 (sg 6) from CI_s hI 6).2; have := congrArg Int32.toInt (show sgv_4 7 = sg_j67 7 from ksv_4 7 (by decide)); have := (show iv (-1) 0 (sg_j67 7) from CI_s hI_j67 7).1; have := (show iv (-1) 0 (sg_j67 7) from CI_s hI_j67 7).2; have := (show iv (-1) 0 (sg 7) from CI_s hI 7).1; have := (show iv (-1) 0 (sg 7) from CI_s hI 7).2; have := congrArg Int32.toInt (show sgv_4 8 = sg_j67 8 from ksv_4 8 (by decide)); have := (show iv 0 1200 (sg_j67 8) from CI_s hI_j67 8).1; have := (show iv 0 1200 (sg_j67 8) from CI_s hI_j67 8).2; have := (show iv 0 1200 (sg 8) from CI_s hI 8).1; have := (show iv 0 1200 (sg 8) from CI_s hI 8).2; have := (show iv 0 1201 (sgv_4 9) from CI_s hIv_4 9).1; have := (show iv 0 1201 (sgv_4 9) from CI_s hIv_4 9).2; have := (show iv 0 1201 (sg_j67 9) from CI_s hI_j67 9).1; have := (show iv 0 1201 (sg_j67 9) from CI_s hI_j67 9).2; have := (show iv 0 1201 (sg 9) from CI_s hI 9).1; have := (show iv 0 1201 (sg 9) from CI_s hI 9).2; have := congrArg Int32.toInt (show sgv_4 10 = sg_j67 10 from ksv_4 10 (by decide)); have := (show iv (-1201) 6 (sg_j67 10) from CI_s hI_j67 10).1; have := (show iv (-1201) 6 (sg_j67 10) from CI_s hI_j67 10).2; have := (show iv (-1201) 6 (sg 10) from CI_s hI 10).1; have := (show iv (-1201) 6 (sg 10) from CI_s hI 10).2; have := congrArg Int32.toInt (show sgv_4 11 = sg_j67 11 from ksv_4 11 (by decide)); have := (show iv (-1) 79 (sg_j67 11) from CI_s hI_j67 11).1; have := (show iv (-1) 79 (sg_j67 11) from CI_s hI_j67 11).2; have := (show iv (-1) 79 (sg 11) from CI_s hI 11).1; have := (show iv (-1) 79 (sg 11) from CI_s hI 11).2; have := (hsx0_67).1; have := (hsx0_67).2; have := (hsx1_67).1; have := (hsx1_67).2; have := (hsx2_67).1; have := (hsx2_67).2; have := (hx3_67).1; have := (hx3_67).2; omega) (CHR_k hch ((show KS [9] sg_j67 sgv_4 from (KS_tr (L := [9]) KS_rf ksv_4 (by decide))) 8 (by decide)) rfl)) (cwV 0 htb (gd_V kw_645 kw_646 kw_19 kw_151 kw_1462) rfl rfl rfl (by decide +kernel) ⟨Nat.le_of_ble_eq_true rfl, Nat.le_of_ble_eq_true rfl⟩) hsx0_67 (by decide) (by decide) rfl rfl hl.1 rfl (Nat.le_trans cs_n (by decide)) dX7_firstWrongPlace_72 ⟨Nat.le_trans (gc_le hI_j67) (Nat.le_of_ble_eq_true rfl), Nat.le_trans (gs_le hI_j67) (Nat.le_of_ble_eq_true rfl)⟩ hK hP hD hS hA hG (fun E ce q9 u_6 H locs hw hP hD hS hce hcv hcl => ?_) (fun v9 u_6 H locs hw hP hD hS => ?_)
    · obtain ⟨hE, hw⟩ := hw
      obtain ⟨sgv_7, gmv_7, lgv_7, rfl, hIv_7, ksv_7, kgv_7, klv_7, xR_v_7⟩ := hw
      obtain rfl := KS_nil kgv_7
      obtain rfl := KS_nil klv_7
      have hP : va_P (dC, dI) vwCl (cW ad cid a2 lx sgv_7 gm_j67 lg_j67) H := hP
      have hD : va_D A (cW ad cid a2 lx sgv_7 gm_j67 lg_j67) := hD
      refine vx_widen (k := gc gm gm_j67 1) (n := gs gm gm_j67 1) (by unfold gc; omega) (by unfold gs; omega) ?_
      subst hE
      refine mc_catch (own := RX7) (name := "java/lang/IllegalArgumentException") hown ⟨32, 75, 78, 50⟩ [] hxt (by decide) (by decide) (htb _ kw_547) (va_Nw.use rfl hG.1.2.1.1) hce hcv hcl ?_
      refine lv_astore_n (i := 3) (lv' := [(3, .ref q9), (0, eV (ad 2) x), (1, eV (ad 13) tx), (2, .int ln)]) hx hb dX7_firstWrongPlace_78 rfl hl (by decide) rfl (fun ls hl => ?_)
      refine ec_aload_n hx hb dX7_firstWrongPlace_79 rfl (lv_at hl 1 rfl) ?_
      refine cr_get (t := 2) (j := 3) (C := RX7) (T := TX7) (N := 6) (v := .int (sgv_7 9)) hx hb htb inX7 hown hK hP hsx0_67 (by decide) (by decide) (by decide) rfl (by decide) (htb _ kw_315) rfl dX7_firstWrongPlace_80 ?_
      exact W.nb (fun hN => W.widen (k := 30481) (n := 121926) (Nat.le_trans (gc_l0 (gm := gm) (k := 1) hI_j67) (Nat.le_of_ble_eq_true rfl)) (Nat.le_trans (gs_l0 (gm := gm) (k := 1) hI_j67) (Nat.le_of_ble_eq_true rfl)) (vx_ret (W.iret (v := (sgv_7 9)) hx hb hr (fun t ht hW => ⟨⟨some (.int (sgv_7 9)), (a2, lx, sgv_7, gm_j67, lg_j67), rfl, ⟨(sgv_7 9), rfl, sgv_7, gm_j67, lg_j67, rfl, hIv_7, (KS_tr (L := [4, 5, 6, 7, 8, 9, 10, 11]) (KS_tr (L := [4, 5, 6, 7, 8, 9, 10, 11]) (KS_tr (L := [4, 5, 6, 7, 8, 9, 10, 11]) KS_rf hks_j67 (by decide)) ksv_4 (by decide)) ksv_7 (by decide)), (KS_tr (L := [11, 12, 13, 14, 15, 16, 17, 18, 19, 20, 21, 22, 23, 24, 25, 26, 27, 44, 45, 46, 56]) KS_rf hkg_j67 (by decide)), (KS_tr (L := [0, 1, 2, 3]) KS_rf hkl_j67 (by decide)), (iv_w (show iv 0 1201 (sgv_7 9) from CI_s hIv_7 9) (by decide)), (UB_k hU12b rfl (by have := i32_0; have := i32_1; have := i32_2; have := i32_m1; have := (hsx0_67).1; have := (hsx0_67).2; have := (hsx1_67).1; have := (hsx1_67).2; have := (hsx2_67).1; have := (hsx2_67).2; have := (hx3_67).1; have := (hx3_67).2; have := ((show iv 0 1201 (sgv_7 9) from CI_s hIv_7 9)).1; have := ((show iv 0 1201 (sgv_7 9) from CI_s hIv_7 9)).2; omega)), (UB_k hU18b rfl (by have := i32_0; have := i32_1; have := i32_2; have := i32_m1; have := (hsx0_67).1; have := (hsx0_67).2; have := (hsx1_67).1; have := (hsx1_67).2; have := (hsx2_67).1; have := (hsx2_67).2; have := (hx3_67).1; have := (hx3_67).2; have := ((show iv 0 1201 (sgv_7 9) from CI_s hIv_7 9)).1; have := ((show iv 0 1201 (sgv_7 9) from CI_s hIv_7 9)).2; omega)), (fun q9 => absurd q9 (by have := i32_0; have := i32_1; have := i32_2; have := i32_m1; have := (show iv 0 1201 (sgv_7 9) from CI_s hIv_7 9).1; have := (show iv 0 1201 (sgv_7 9) from CI_s hIv_7 9).2; have := (show iv 0 1201 (sgv_4 9) from CI_s hIv_4 9).1; have := (show iv 0 1201 (sgv_4 9) from CI_s hIv_4 9).2; have := (show iv 0 1201 (sg_j67 9) from CI_s hI_j67 9).1; have := (show iv 0 1201 (sg_j67 9) from CI_s hI_j67 9).2; have := (show iv 0 1201 (sg 9) from CI_s hI 9).1; have := (show iv 0 1201 (sg 9) from CI_s hI 9).2; have := (hsx0_67).1; have := (hsx0_67).2; have := (hsx1_67).1; have := (hsx1_67).2; have := (hsx2_67).1; have := (hsx2_67).2; have := (hx3_67).1; have := (hx3_67).2; have := ((show iv 0 1201 (sgv_7 9) from CI_s hIv_7 9)).1; have := ((show iv 0 1201 (sgv_7 9) from CI_s hIv_7 9)).2; omega)), (Or.inr ⟨(by have := i32_0; have := i32_1; have := i32_2; have := i32_m1; have := (show iv 0 1201 (sgv_7 9) from CI_s hIv_7 9).1; have := (show iv 0 1201 (sgv_7 9) from CI_s hIv_7 9).2; have := (show iv 0 1201 (sgv_4 9) from CI_s hIv_4 9).1; have := (show iv 0 1201 (sgv_4 9) from CI_s hIv_4 9).2; have := (show iv 0 1201 (sg_j67 9) from CI_s hI_j67 9).1; have := (show iv 0 1201 (sg_j67 9) from CI_s hI_j67 9).2; have := (show iv 0 1201 (sg 9) from CI_s hI 9).1; have := (show iv 0 1201 (sg 9) from CI_s hI 9).2; have := (hsx0_67).1; have := (hsx0_67).2; have := (hsx1_67).1; have := (hsx1_67).2; have := (hsx2_67).1; have := (hsx2_67).2; have := (hx3_67).1; have := (hx3_67).2; have := ((show iv 0 1201 (sgv_7 9) from CI_s hIv_7 9)).1; have := ((show iv 0 1201 (sgv_7 9) from CI_s hIv_7 9)).2; omega), (by obtain ⟨D, z1, z2⟩ := u67; exact z2.trans ((doT_s fB_r_1).trans (if_neg xR_v_7)))⟩)⟩, ⟨by rw [ht]; exact hP, va_K.moved hW.alike hK, hD⟩, hm_j67, by rw [ht]; exact hN⟩, hS.F ht⟩) hS.2.2 dX7_firstWrongPlace_83)))
    obtain ⟨rfl, sgv_8, gmv_8, lgv_8, rfl, hIv_8, ksv_8, kgv_8, klv_8, fR_r_5⟩ := hw
    obtain rfl := KS_nil kgv_8
    obtain rfl := KS_nil klv_8
    have hP : va_P (dC, dI) vwCl (cW ad cid a2 lx sgv_8 gm_j67 lg_j67) H := hP
    have hD : va_D A (cW ad cid a2 lx sgv_8 gm_j67 lg_j67) := hD
    refine W.eq (g2 := F0 m 75 ls []) rfl ?_
    refine lv_goto (tgt := 84) hx hb dX7_firstWrongPlace_75 (by decide) ?_
    refine lv_iconst (v := (-1)) hx hb dX7_firstWrongPlace_84 (by decide) ?_
    refine W.widen (k := gc gm gm_j67 1) (n := gs gm gm_j67 1) (gc_e rfl (by decide)) (gs_e rfl (by decide)) ?_
    exact W.nb (fun hN => W.widen (k := 30481) (n := 121926) (Nat.le_trans (gc_l0 (gm := gm) (k := 1) hIv_8) (Nat.le_of_ble_eq_true rfl)) (Nat.le_trans (gs_l0 (gm := gm) (k := 1) hIv_8) (Nat.le_of_ble_eq_true rfl)) (vx_ret (W.iret (v := (-1)) hx hb hr (fun t ht hW => ⟨⟨some (.int (-1)), (a2, lx, sgv_8, gm_j67, lg_j67), rfl, ⟨(-1), rfl, sgv_8, gm_j67, lg_j67, rfl, hIv_8, (KS_tr (L := [4, 5, 6, 7, 8, 9, 10, 11]) (KS_tr (L := [4, 5, 6, 7, 8, 9, 10, 11]) (KS_tr (L := [4, 5, 6, 7, 8, 9, 10, 11]) KS_rf hks_j67 (by decide)) ksv_4 (by decide)) ksv_8 (by decide)), (KS_tr (L := [11, 12, 13, 14, 15, 16, 17, 18, 19, 20, 21, 22, 23, 24, 25, 26, 27, 44, 45, 46, 56]) KS_rf hkg_j67 (by decide)), (KS_tr (L := [0, 1, 2, 3]) KS_rf hkl_j67 (by decide)), (iv_w (iv_k (by decide) : iv (-1) (-1) (-1)) (by decide)), (UB_k hU12b rfl (by have := i32_0; have := i32_1; have := i32_2; have := i32_m1; have := (hsx0_67).1; have := (hsx0_67).2; have := (hsx1_67).1; have := (hsx1_67).2; have := (hsx2_67).1; have := (hsx2_67).2; have := (hx3_67).1; have := (hx3_67).2; omega)), (UB_k hU18b rfl (by have := i32_0; have := i32_1; have := i32_2; have := i32_m1; have := (hsx0_67).1; have := (hsx0_67).2; have := (hsx1_67).1; have := (hsx1_67).2; have := (hsx2_67).1; have := (hsx2_67).2; have := (hx3_67).1; have := (hx3_67).2; omega)), (fun _ => ⟨((RDI_k hRD2 (show KS [9] sg_j67 sgv_8 from (KS_tr (L := [9]) (KS_tr (L := [9]) KS_rf ksv_4 (by decide)) ksv_8 (by decide))) (show KS [] gm_j67 gm_j67 from KS_rf) (by decide))).1, ((RDI_k hRD2 (show KS [9] sg_j67 sgv_8 from (KS_tr (L := [9]) (KS_tr (L := [9]) KS_rf ksv_4 (by decide)) ksv_8 (by decide))) (show KS [] gm_j67 gm_j67 from KS_rf) (by decide))).2.1, ((RDI_k hRD2 (show KS [9] sg_j67 sgv_8 from (KS_tr (L := [9]) (KS_tr (L := [9]) KS_rf ksv_4 (by decide)) ksv_8 (by decide))) (show KS [] gm_j67 gm_j67 from KS_rf) (by decide))).2.2.1, ((RDI_k hRD2 (show KS [9] sg_j67 sgv_8 from (KS_tr (L := [9]) (KS_tr (L := [9]) KS_rf ksv_4 (by decide)) ksv_8 (by decide))) (show KS [] gm_j67 gm_j67 from KS_rf) (by decide))).2.2.2.2⟩), (Or.inl ⟨rfl, (by obtain ⟨D, z1, z2⟩ := u67; exact ⟨D, z2.trans ((doT_s fB_r_1).trans (if_pos fR_r_5)), (RDC_k z1 (Eq.trans (ksv_8 4 (by decide)) (ksv_4 4 (by decide))) (Eq.trans (ksv_8 5 (by decide)) (ksv_4 5 (by decide))) (Eq.trans (ksv_8 6 (by decide)) (ksv_4 6 (by decide))) (fun k hk => by rcases hk with rfl | rfl | rfl | rfl | rfl | rfl | rfl | rfl | rfl | rfl | rfl | rfl | rfl | rfl; exact rfl; exact rfl; exact rfl; exact rfl; exact rfl; exact rfl; exact rfl; exact rfl; exact rfl; exact rfl; exact rfl; exact rfl; exact rfl; exact rfl) rfl rfl)⟩)⟩)⟩, ⟨by rw [ht]; exact hP, va_K.moved hW.alike hK, hD⟩, hm_j67, by rw [ht]; exact hN⟩, hS.F ht⟩) hS.2.2 dX7_firstWrongPlace_85)))
  have hj42 : ∀ (n : Nat) (sg_j42 : Nat → Int32) (gm_j42 : Nat → Nat → Int32) (lg_j42 : Nat → Nat → Int64) (x3_42 : Int32) (_ : (1201 - x3_42.toInt).toNat = n) (_ : iv 0 1201 x3_42) (_ : iv 0 0 x) (_ : iv 0 0 tx) (_ : iv 0 1200 ln) (_ : KS [4, 5, 6, 7, 8, 9, 10, 11] sg sg_j42) (_ : KS [11, 12, 13, 14, 15, 16, 17, 18, 19, 20, 21, 22, 23, 24, 25, 26, 27, 44, 45, 46, 56] gm gm_j42) (_ : KS [0, 1, 2, 3] lg lg_j42) (_ : CI sg_j42 gm_j42) (_ : (sg_j42 9).toInt ≤ (sg_j42 8).toInt) (_ : sg_j42 8 = ln) (_ : 0 ≤ (sg_j42 7).toInt) (_ : RDI sg_j42 gm_j42) (_ : 5 * (sg_j42 5).toInt ≤ (sg_j42 9).toInt) (_ : 0 ≤ (sg_j42 10).toInt + (sg_j42 9).toInt) (_ : UB 12 (K9 + 1 + x3_42.toNatClampNeg) gm_j42) (_ : UB 18 (K9 + 1 + x3_42.toNatClampNeg) gm_j42) (_ : CHR ch N9 (sg_j42 8) (gm_j42 43)) (_ : (sg_j42 6).toInt ≤ (sg_j42 9).toInt) (_ : 0 ≤ (sg_j42 10).toInt) (_ : x3_42.toInt ≤ (sg_j42 9).toInt) (_ : ∃ D, RDC D sg_j42 gm_j42 lg_j42 ∧ DOI ch N9 D (sg_j42 11).toInt (sg_j42 10).toInt.toNat (sg_j42 9).toInt.toNat ∧ LVD D (sg_j42 10).toInt.toNat (sg_j42 11).toInt) (_ : PHs gm ≤ PHs gm_j42) (H : Heap) (locs : List Loc) (ls : Array Slot), va_P (dC, dI) vwCl (cW ad cid a2 lx sg_j42 gm_j42 lg_j42) H → va_D A (cW ad cid a2 lx sg_j42 gm_j42 lg_j42) → va_S A s.heap H locs → lv_has ls 4 [(3, .int x3_42), (0, eV (ad 2) x), (1, eV (ad 13) tx), (2, .int ln)] → W p l e (headSpec wm_X7_firstWrongPlace ({ frames := 12, cells := 30481, slots := 121926, locals := 252 })).room s m ([eV (ad 2) x, eV (ad 13) tx, .int ln] : List Value).toArray below meth c H locs (gc gm gm_j42 0) (gs gm gm_j42 0) (vx_MQ below (cQg dC dI ad cid (fun v u => ∃ r : Int32, v = some (.int r) ∧ ∃ (sg2 : Nat → Int32) (gm2 : Nat → Nat → Int32) (lg2 : Nat → Nat → Int64), u = (a2, lx, sg2, gm2, lg2) ∧ CI sg2 gm2 ∧ KS [4, 5, 6, 7, 8, 9, 10, 11] sg sg2 ∧ KS [11, 12, 13, 14, 15, 16, 17, 18, 19, 20, 21, 22, 23, 24, 25, 26, 27, 44, 45, 46, 56] gm gm2 ∧ KS [0, 1, 2, 3] lg lg2 ∧ (iv (-1) 1201 r) ∧ (UB 12 (K9 + 1203) gm2) ∧ (UB 18 (K9 + 1203) gm2) ∧ (r.toInt = -1 → FA sg2 gm2 ∧ VS sg2 gm2 ∧ LK sg2 gm2 ∧ BN sg2 gm2) ∧ ((r.toInt = -1 ∧ ∃ D, sDoc ch N9 = some D ∧ RDC D sg2 gm2 lg2) ∨ (¬ r.toInt = -1 ∧ sDoc ch N9 = none))) 1 gm A) (cXg dC dI ad cid (fun _ _ => False) 1 gm A) ([eV (ad 2) x, eV (ad 13) tx, .int ln] : List Value).toArray s 30481 121926 A) (F0 m 42 ls []) := by
    intro n
    induction n using Nat.strongRecOn with
    | ind n ih42 =>
      intro sg_j42 gm_j42 lg_j42 x3_42 hn42 hx3_42 hsx0_42 hsx1_42 hsx2_42 hks_j42 hkg_j42 hkl_j42 hI_j42 hAL2 h8n h7p hRD2 h5b hdp2 hU12b hU18b hch u6 u10 ust uD hm_j42 H locs ls hP hD hS hl
      refine lv_iload_n hx hb dX7_firstWrongPlace_42 rfl (lv_at hl 0 rfl) ?_
      refine ec_aload_n hx hb dX7_firstWrongPlace_43 rfl (lv_at hl 1 rfl) ?_
      refine cr_get (t := 2) (j := 2) (C := RX7) (T := TX7) (N := 6) (v := .int (sg_j42 8)) hx hb htb inX7 hown hK hP hsx0_42 (by decide) (by decide) (by decide) rfl (by decide) (htb _ kw_314) rfl dX7_firstWrongPlace_44 ?_
      refine lv_icmp_gt (tgt := 67) hx hb dX7_firstWrongPlace_47 (by decide) (fun c_9 => ?_) (fun c_9 => ?_)
      · have d_10 : ((sg_j42 8) : Int32).toInt < (x3_42 : Int32).toInt := Int32.lt_iff_toInt_lt.mp c_9
        have h_11 : iv 1 1201 x3_42 := iv_ltR c_9 (show iv 0 1200 (sg_j42 8) from CI_s hI_j42 8) hx3_42 (by decide)
        exact hj67 sg_j42 gm_j42 lg_j42 x3_42 (iv_w h_11 (by decide)) hsx0_42 hsx1_42 hsx2_42 (KS_tr (L := [4, 5, 6, 7, 8, 9, 10, 11]) KS_rf hks_j42 (by decide)) (KS_tr (L := [11, 12, 13, 14, 15, 16, 17, 18, 19, 20, 21, 22, 23, 24, 25, 26, 27, 44, 45, 46, 56]) KS_rf hkg_j42 (by decide)) (KS_tr (L := [0, 1, 2, 3]) KS_rf hkl_j42 (by decide)) hI_j42 (by have := i32_0; have := i32_1; have := i32_2; have := i32_m1; have := (show iv 0 80 (sg_j42 4) from CI_s hI_j42 4).1; have := (show iv 0 80 (sg_j42 4) from CI_s hI_j42 4).2; have := (show iv 0 80 (sg 4) from CI_s hI 4).1; have := (show iv 0 80 (sg 4) from CI_s hI 4).2; have := (show iv 0 240 (sg_j42 5) from CI_s hI_j42 5).1; have := (show iv 0 240 (sg_j42 5) from CI_s hI_j42 5).2; have := (show iv 0 240 (sg 5) from CI_s hI 5).1; have := (show iv 0 240 (sg 5) from CI_s hI 5).2; have := (show iv 0 1200 (sg_j42 6) from CI_s hI_j42 6).1; have := (show iv 0 1200 (sg_j42 6) from CI_s hI_j42 6).2; have := (show iv 0 1200 (sg 6) from CI_s hI 6).1; have := (show iv 0 1200 (sg 6) from CI_s hI 6).2; have := (show iv (-1) 0 (sg_j42 7) from CI_s hI_j42 7).1; have := (show iv (-1) 0 (sg_j42 7) from CI_s hI_j42 7).2; have := (show iv (-1) 0 (sg 7) from CI_s hI 7).1; have := (show iv (-1) 0 (sg 7) from CI_s hI 7).2; have := (show iv 0 1200 (sg_j42 8) from CI_s hI_j42 8).1; have := (show iv 0 1200 (sg_j42 8) from CI_s hI_j42 8).2; have := (show iv 0 1200 (sg 8) from CI_s hI 8).1; have := (show iv 0 1200 (sg 8) from CI_s hI 8).2; have := (show iv 0 1201 (sg_j42 9) from CI_s hI_j42 9).1; have := (show iv 0 1201 (sg_j42 9) from CI_s hI_j42 9).2; have := (show iv 0 1201 (sg 9) from CI_s hI 9).1; have := (show iv 0 1201 (sg 9) from CI_s hI 9).2; have := (show iv (-1201) 6 (sg_j42 10) from CI_s hI_j42 10).1; have := (show iv (-1201) 6 (sg_j42 10) from CI_s hI_j42 10).2; have := (show iv (-1201) 6 (sg 10) from CI_s hI 10).1; have := (show iv (-1201) 6 (sg 10) from CI_s hI 10).2; have := (show iv (-1) 79 (sg_j42 11) from CI_s hI_j42 11).1; have := (show iv (-1) 79 (sg_j42 11) from CI_s hI_j42 11).2; have := (show iv (-1) 79 (sg 11) from CI_s hI 11).1; have := (show iv (-1) 79 (sg 11) from CI_s hI 11).2; have := (hsx0_42).1; have := (hsx0_42).2; have := (hsx1_42).1; have := (hsx1_42).2; have := (hsx2_42).1; have := (hsx2_42).2; have := (h_11).1; have := (h_11).2; have := ((show iv 0 1200 (sg_j42 8) from CI_s hI_j42 8)).1; have := ((show iv 0 1200 (sg_j42 8) from CI_s hI_j42 8)).2; omega) ((Eq.trans ((show KS [] sg_j42 sg_j42 from KS_rf) 8 (by decide)) h8n)) (by have := i32_0; have := i32_1; have := i32_2; have := i32_m1; have := (show iv (-1) 0 (sg_j42 7) from CI_s hI_j42 7).1; have := (show iv (-1) 0 (sg_j42 7) from CI_s hI_j42 7).2; have := (show iv (-1) 0 (sg 7) from CI_s hI 7).1; have := (show iv (-1) 0 (sg 7) from CI_s hI 7).2; have := (hsx0_42).1; have := (hsx0_42).2; have := (hsx1_42).1; have := (hsx1_42).2; have := (hsx2_42).1; have := (hsx2_42).2; have := (h_11).1; have := (h_11).2; have := ((show iv 0 1200 (sg_j42 8) from CI_s hI_j42 8)).1; have := ((show iv 0 1200 (sg_j42 8) from CI_s hI_j42 8)).2; omega) (hRD2) (UB_k hU12b rfl (by have q1 : x3_42.toNatClampNeg = x3_42.toInt.toNat := rfl; have := i32_0; have := i32_1; have := i32_2; have := i32_m1; have := (hsx0_42).1; have := (hsx0_42).2; have := (hsx1_42).1; have := (hsx1_42).2; have := (hsx2_42).1; have := (hsx2_42).2; have := (h_11).1; have := (h_11).2; have := ((show iv 0 1200 (sg_j42 8) from CI_s hI_j42 8)).1; have := ((show iv 0 1200 (sg_j42 8) from CI_s hI_j42 8)).2; omega)) (UB_k hU18b rfl (by have q1 : x3_42.toNatClampNeg = x3_42.toInt.toNat := rfl; have := i32_0; have := i32_1; have := i32_2; have := i32_m1; have := (hsx0_42).1; have := (hsx0_42).2; have := (hsx1_42).1; have := (hsx1_42).2; have := (hsx2_42).1; have := (hsx2_42).2; have := (h_11).1; have := (h_11).2; have := ((show iv 0 1200 (sg_j42 8) from CI_s hI_j42 8)).1; have := ((show iv 0 1200 (sg_j42 8) from CI_s hI_j42 8)).2; omega)) ((CHR_k hch rfl rfl)) (absurd ust (by have := i32_0; have := i32_1; have := i32_2; have := i32_m1; have := (show iv 0 80 (sg_j42 4) from CI_s hI_j42 4).1; have := (show iv 0 80 (sg_j42 4) from CI_s hI_j42 4).2; have := (show iv 0 80 (sg 4) from CI_s hI 4).1; have := (show iv 0 80 (sg 4) from CI_s hI 4).2; have := (show iv 0 240 (sg_j42 5) from CI_s hI_j42 5).1; have := (show iv 0 240 (sg_j42 5) from CI_s hI_j42 5).2; have := (show iv 0 240 (sg 5) from CI_s hI 5).1; have := (show iv 0 240 (sg 5) from CI_s hI 5).2; have := (show iv 0 1200 (sg_j42 6) from CI_s hI_j42 6).1; have := (show iv 0 1200 (sg_j42 6) from CI_s hI_j42 6).2; have := (show iv 0 1200 (sg 6) from CI_s hI 6).1; have := (show iv 0 1200 (sg 6) from CI_s hI 6).2; have := (show iv (-1) 0 (sg_j42 7) from CI_s hI_j42 7).1; have := (show iv (-1) 0 (sg_j42 7) from CI_s hI_j42 7).2; have := (show iv (-1) 0 (sg 7) from CI_s hI 7).1; have := (show iv (-1) 0 (sg 7) from CI_s hI 7).2; have := (show iv 0 1200 (sg_j42 8) from CI_s hI_j42 8).1; have := (show iv 0 1200 (sg_j42 8) from CI_s hI_j42 8).2; have := (show iv 0 1200 (sg 8) from CI_s hI 8).1; have := (show iv 0 1200 (sg 8) from CI_s hI 8).2; have := (show iv 0 1201 (sg_j42 9) from CI_s hI_j42 9).1; have := (show iv 0 1201 (sg_j42 9) from CI_s hI_j42 9).2; have := (show iv 0 1201 (sg 9) from CI_s hI 9).1; have := (show iv 0 1201 (sg 9) from CI_s hI 9).2; have := (show iv (-1201) 6 (sg_j42 10) from CI_s hI_j42 10).1; have := (show iv (-1201) 6 (sg_j42 10) from CI_s hI_j42 10).2; have := (show iv (-1201) 6 (sg 10) from CI_s hI 10).1; have := (show iv (-1201) 6 (sg 10) from CI_s hI 10).2; have := (show iv (-1) 79 (sg_j42 11) from CI_s hI_j42 11).1; have := (show iv (-1) 79 (sg_j42 11) from CI_s hI_j42 11).2; have := (show iv (-1) 79 (sg 11) from CI_s hI 11).1; have := (show iv (-1) 79 (sg 11) from CI_s hI 11).2; have := (hsx0_42).1; have := (hsx0_42).2; have := (hsx1_42).1; have := (hsx1_42).2; have := (hsx2_42).1; have := (hsx2_42).2; have := (h_11).1; have := (h_11).2; have := ((show iv 0 1200 (sg_j42 8) from CI_s hI_j42 8)).1; have := ((show iv 0 1200 (sg_j42 8) from CI_s hI_j42 8)).2; have := (show iv 0 1201 (sg_j42 9) from CI_s hI_j42 9).1; have := (show iv 0 1201 (sg_j42 9) from CI_s hI_j42 9).2; have := (show iv 0 1201 (sg 9) from CI_s hI 9).1; have := (show iv 0 1201 (sg 9) from CI_s hI 9).2; have := i32_0; have := i32_1; have := i32_2; have := i32_m1; have := (show iv 0 1200 (sg_j42 8) from CI_s hI_j42 8).1; have := (show iv 0 1200 (sg_j42 8) from CI_s hI_j42 8).2; have := (show iv 0 1200 (sg 8) from CI_s hI 8).1; have := (show iv 0 1200 (sg 8) from CI_s hI 8).2; have := (hsx0_42).1; have := (hsx0_42).2; have := (hsx1_42).1; have := (hsx1_42).2; have := (hsx2_42).1; have := (hsx2_42).2; have := (h_11).1; have := (h_11).2; have := ((show iv 0 1200 (sg_j42 8) from CI_s hI_j42 8)).1; have := ((show iv 0 1200 (sg_j42 8) from CI_s hI_j42 8)).2; omega)) hm_j42 _ _ _ hP hD hS (lv_sub hl [0, 1, 2, 3] rfl)
      · have d_12 : (x3_42 : Int32).toInt ≤ ((sg_j42 8) : Int32).toInt := Int32.le_iff_toInt_le.mp (i32_ge c_9)
        have h_13 : iv 0 1200 x3_42 := iv_leL (i32_ge c_9) hx3_42 (show iv 0 1200 (sg_j42 8) from CI_s hI_j42 8) (by decide)
        refine ec_aload_n hx hb dX7_firstWrongPlace_50 rfl (lv_at hl 1 rfl) ?_
        refine cr_get (t := 2) (j := 5) (C := RX7) (T := TX7) (N := 6) (v := eV (ad 9) (sg_j42 11)) hx hb htb inX7 hown hK hP hsx0_42 (by decide) (by decide) (by decide) rfl (by decide) (htb _ kw_317) rfl dX7_firstWrongPlace_51 ?_
        refine ec_ifnull (tgt := 67) hx hb dX7_firstWrongPlace_54 (by decide) (fun c_14 => ?_) (fun c_14 => ?_)
        · have h_15 : iv (-1) (-1) (sg_j42 11) := ⟨((show iv (-1) 79 (sg_j42 11) from CI_s hI_j42 11)).1, by omega⟩
          exact hj67 sg_j42 gm_j42 lg_j42 x3_42 (iv_w h_13 (by decide)) hsx0_42 hsx1_42 hsx2_42 (KS_tr (L := [4, 5, 6, 7, 8, 9, 10, 11]) KS_rf hks_j42 (by decide)) (KS_tr (L := [11, 12, 13, 14, 15, 16, 17, 18, 19, 20, 21, 22, 23, 24, 25, 26, 27, 44, 45, 46, 56]) KS_rf hkg_j42 (by decide)) (KS_tr (L := [0, 1, 2, 3]) KS_rf hkl_j42 (by decide)) hI_j42 (by have := i32_0; have := i32_1; have := i32_2; have := i32_m1; have := (show iv 0 80 (sg_j42 4) from CI_s hI_j42 4).1; have := (show iv 0 80 (sg_j42 4) from CI_s hI_j42 4).2; have := (show iv 0 80 (sg 4) from CI_s hI 4).1; have := (show iv 0 80 (sg 4) from CI_s hI 4).2; have := (show iv 0 240 (sg_j42 5) from CI_s hI_j42 5).1; have := (show iv 0 240 (sg_j42 5) from CI_s hI_j42 5).2; have := (show iv 0 240 (sg 5) from CI_s hI 5).1; have := (show iv 0 240 (sg 5) from CI_s hI 5).2; have := (show iv 0 1200 (sg_j42 6) from CI_s hI_j42 6).1; have := (show iv 0 1200 (sg_j42 6) from CI_s hI_j42 6).2; have := (show iv 0 1200 (sg 6) from CI_s hI 6).1; have := (show iv 0 1200 (sg 6) from CI_s hI 6).2; have := (show iv (-1) 0 (sg_j42 7) from CI_s hI_j42 7).1; have := (show iv (-1) 0 (sg_j42 7) from CI_s hI_j42 7).2; have := (show iv (-1) 0 (sg 7) from CI_s hI 7).1; have := (show iv (-1) 0 (sg 7) from CI_s hI 7).2; have := (show iv 0 1200 (sg_j42 8) from CI_s hI_j42 8).1; have := (show iv 0 1200 (sg_j42 8) from CI_s hI_j42 8).2; have := (show iv 0 1200 (sg 8) from CI_s hI 8).1; have := (show iv 0 1200 (sg 8) from CI_s hI 8).2; have := (show iv 0 1201 (sg_j42 9) from CI_s hI_j42 9).1; have := (show iv 0 1201 (sg_j42 9) from CI_s hI_j42 9).2; have := (show iv 0 1201 (sg 9) from CI_s hI 9).1; have := (show iv 0 1201 (sg 9) from CI_s hI 9).2; have := (show iv (-1201) 6 (sg_j42 10) from CI_s hI_j42 10).1; have := (show iv (-1201) 6 (sg_j42 10) from CI_s hI_j42 10).2; have := (show iv (-1201) 6 (sg 10) from CI_s hI 10).1; have := (show iv (-1201) 6 (sg 10) from CI_s hI 10).2; have := (show iv (-1) 79 (sg_j42 11) from CI_s hI_j42 11).1; have := (show iv (-1) 79 (sg_j42 11) from CI_s hI_j42 11).2; have := (show iv (-1) 79 (sg 11) from CI_s hI 11).1; have := (show iv (-1) 79 (sg 11) from CI_s hI 11).2; have := (hsx0_42).1; have := (hsx0_42).2; have := (hsx1_42).1; have := (hsx1_42).2; have := (hsx2_42).1; have := (hsx2_42).2; have := (h_13).1; have := (h_13).2; have := ((show iv 0 1200 (sg_j42 8) from CI_s hI_j42 8)).1; have := ((show iv 0 1200 (sg_j42 8) from CI_s hI_j42 8)).2; have := (h_15).1; have := (h_15).2; omega) ((Eq.trans ((show KS [] sg_j42 sg_j42 from KS_rf) 8 (by decide)) h8n)) (by have := i32_0; have := i32_1; have := i32_2; have := i32_m1; have := (show iv (-1) 0 (sg_j42 7) from CI_s hI_j42 7).1; have := (show iv (-1) 0 (sg_j42 7) from CI_s hI_j42 7).2; have := (show iv (-1) 0 (sg 7) from CI_s hI 7).1; have := (show iv (-1) 0 (sg 7) from CI_s hI 7).2; have := (hsx0_42).1; have := (hsx0_42).2; have := (hsx1_42).1; have := (hsx1_42).2; have := (hsx2_42).1; have := (hsx2_42).2; have := (h_13).1; have := (h_13).2; have := ((show iv 0 1200 (sg_j42 8) from CI_s hI_j42 8)).1; have := ((show iv 0 1200 (sg_j42 8) from CI_s hI_j42 8)).2; have := (h_15).1; have := (h_15).2; omega) (hRD2) (UB_k hU12b rfl (by have q1 : x3_42.toNatClampNeg = x3_42.toInt.toNat := rfl; have := i32_0; have := i32_1; have := i32_2; have := i32_m1; have := (hsx0_42).1; have := (hsx0_42).2; have := (hsx1_42).1; have := (hsx1_42).2; have := (hsx2_42).1; have := (hsx2_42).2; have := (h_13).1; have := (h_13).2; have := ((show iv 0 1200 (sg_j42 8) from CI_s hI_j42 8)).1; have := ((show iv 0 1200 (sg_j42 8) from CI_s hI_j42 8)).2; have := (h_15).1; have := (h_15).2; omega)) (UB_k hU18b rfl (by have q1 : x3_42.toNatClampNeg = x3_42.toInt.toNat := rfl; have := i32_0; have := i32_1; have := i32_2; have := i32_m1; have := (hsx0_42).1; have := (hsx0_42).2; have := (hsx1_42).1; have := (hsx1_42).2; have := (hsx2_42).1; have := (hsx2_42).2; have := (h_13).1; have := (h_13).2; have := ((show iv 0 1200 (sg_j42 8) from CI_s hI_j42 8)).1; have := ((show iv 0 1200 (sg_j42 8) from CI_s hI_j42 8)).2; have := (h_15).1; have := (h_15).2; omega)) ((CHR_k hch rfl rfl)) ((by obtain ⟨D, z1, z2, z3⟩ := uD; exact ⟨D, z1, (by rcases Nat.eq_zero_or_pos (sg_j42 10).toInt.toNat with q | q; (rw [q] at z2; exact DOI_0 z2); exact absurd z3 (LVD_z (by omega) (by have := i32_0; have := i32_1; have := i32_2; have := i32_m1; have := (show iv 0 80 (sg_j42 4) from CI_s hI_j42 4).1; have := (show iv 0 80 (sg_j42 4) from CI_s hI_j42 4).2; have := (show iv 0 80 (sg 4) from CI_s hI 4).1; have := (show iv 0 80 (sg 4) from CI_s hI 4).2; have := (show iv 0 240 (sg_j42 5) from CI_s hI_j42 5).1; have := (show iv 0 240 (sg_j42 5) from CI_s hI_j42 5).2; have := (show iv 0 240 (sg 5) from CI_s hI 5).1; have := (show iv 0 240 (sg 5) from CI_s hI 5).2; have := (show iv 0 1200 (sg_j42 6) from CI_s hI_j42 6).1; have := (show iv 0 1200 (sg_j42 6) from CI_s hI_j42 6).2; have := (show iv 0 1200 (sg 6) from CI_s hI 6).1; have := (show iv 0 1200 (sg 6) from CI_s hI 6).2; have := (show iv (-1) 0 (sg_j42 7) from CI_s hI_j42 7).1; have := (show iv (-1) 0 (sg_j42 7) from CI_s hI_j42 7).2; have := (show iv (-1) 0 (sg 7) from CI_s hI 7).1; have := (show iv (-1) 0 (sg 7) from CI_s hI 7).2; have := (show iv 0 1200 (sg_j42 8) from CI_s hI_j42 8).1; have := (show iv 0 1200 (sg_j42 8) from CI_s hI_j42 8).2; have := (show iv 0 1200 (sg 8) from CI_s hI 8).1; have := (show iv 0 1200 (sg 8) from CI_s hI 8).2; have := (show iv 0 1201 (sg_j42 9) from CI_s hI_j42 9).1; have := (show iv 0 1201 (sg_j42 9) from CI_s hI_j42 9).2; have := (show iv 0 1201 (sg 9) from CI_s hI 9).1; have := (show iv 0 1201 (sg 9) from CI_s hI 9).2; have := (show iv (-1201) 6 (sg_j42 10) from CI_s hI_j42 10).1; have := (show iv (-1201) 6 (sg_j42 10) from CI_s hI_j42 10).2; have := (show iv (-1201) 6 (sg 10) from CI_s hI 10).1; have := (show iv (-1201) 6 (sg 10) from CI_s hI 10).2; have := (show iv (-1) 79 (sg_j42 11) from CI_s hI_j42 11).1; have := (show iv (-1) 79 (sg_j42 11) from CI_s hI_j42 11).2; have := (show iv (-1) 79 (sg 11) from CI_s hI 11).1; have := (show iv (-1) 79 (sg 11) from CI_s hI 11).2; have := (hsx0_42).1; have := (hsx0_42).2; have := (hsx1_42).1; have := (hsx1_42).2; have := (hsx2_42).1; have := (hsx2_42).2; have := (h_13).1; have := (h_13).2; have := ((show iv 0 1200 (sg_j42 8) from CI_s hI_j42 8)).1; have := ((show iv 0 1200 (sg_j42 8) from CI_s hI_j42 8)).2; have := (h_15).1; have := (h_15).2; have := (show iv 0 1201 (sg_j42 9) from CI_s hI_j42 9).1; have := (show iv 0 1201 (sg_j42 9) from CI_s hI_j42 9).2; have := (show iv 0 1201 (sg 9) from CI_s hI 9).1; have := (show iv 0 1201 (sg 9) from CI_s hI 9).2; have := i32_0; have := i32_1; have := i32_2; have := i32_m1; have := (show iv (-1) 79 (sg_j42 11) from CI_s hI_j42 11).1; have := (show iv (-1) 79 (sg_j42 11) from CI_s hI_j42 11).2; have := (show iv (-1) 79 (sg 11) from CI_s hI 11).1; have := (show iv (-1) 79 (sg 11) from CI_s hI 11).2; have := (hsx0_42).1; have := (hsx0_42).2; have := (hsx1_42).1; have := (hsx1_42).2; have := (hsx2_42).1; have := (hsx2_42).2; have := (h_13).1; have := (h_13).2; have := ((show iv 0 1200 (sg_j42 8) from CI_s hI_j42 8)).1; have := ((show iv 0 1200 (sg_j42 8) from CI_s hI_j42 8)).2; have := (h_15).1; have := (h_15).2; omega)))⟩)) hm_j42 _ _ _ hP hD hS (lv_sub hl [0, 1, 2, 3] rfl)
        · have h_16 : iv 0 79 (sg_j42 11) := ⟨c_14, ((show iv (-1) 79 (sg_j42 11) from CI_s hI_j42 11)).2⟩
          obtain ⟨Dd, hRd, hT9, hL9⟩ := uD
          have hd1 : 1 ≤ (sg_j42 10).toInt := by rcases Nat.eq_zero_or_pos (sg_j42 10).toInt.toNat with q | q; (rw [q] at hL9; exact absurd (show (sg_j42 11).toInt = -1 from hL9) (by have := i32_0; have := i32_1; have := i32_2; have := i32_m1; have := (show iv 0 80 (sg_j42 4) from CI_s hI_j42 4).1; have := (show iv 0 80 (sg_j42 4) from CI_s hI_j42 4).2; have := (show iv 0 80 (sg 4) from CI_s hI 4).1; have := (show iv 0 80 (sg 4) from CI_s hI 4).2; have := (show iv 0 240 (sg_j42 5) from CI_s hI_j42 5).1; have := (show iv 0 240 (sg_j42 5) from CI_s hI_j42 5).2; have := (show iv 0 240 (sg 5) from CI_s hI 5).1; have := (show iv 0 240 (sg 5) from CI_s hI 5).2; have := (show iv 0 1200 (sg_j42 6) from CI_s hI_j42 6).1; have := (show iv 0 1200 (sg_j42 6) from CI_s hI_j42 6).2; have := (show iv 0 1200 (sg 6) from CI_s hI 6).1; have := (show iv 0 1200 (sg 6) from CI_s hI 6).2; have := (show iv (-1) 0 (sg_j42 7) from CI_s hI_j42 7).1; have := (show iv (-1) 0 (sg_j42 7) from CI_s hI_j42 7).2; have := (show iv (-1) 0 (sg 7) from CI_s hI 7).1; have := (show iv (-1) 0 (sg 7) from CI_s hI 7).2; have := (show iv 0 1200 (sg_j42 8) from CI_s hI_j42 8).1; have := (show iv 0 1200 (sg_j42 8) from CI_s hI_j42 8).2; have := (show iv 0 1200 (sg 8) from CI_s hI 8).1; have := (show iv 0 1200 (sg 8) from CI_s hI 8).2; have := (show iv 0 1201 (sg_j42 9) from CI_s hI_j42 9).1; have := (show iv 0 1201 (sg_j42 9) from CI_s hI_j42 9).2; have := (show iv 0 1201 (sg 9) from CI_s hI 9).1; have := (show iv 0 1201 (sg 9) from CI_s hI 9).2; have := (show iv (-1201) 6 (sg_j42 10) from CI_s hI_j42 10).1; have := (show iv (-1201) 6 (sg_j42 10) from CI_s hI_j42 10).2; have := (show iv (-1201) 6 (sg 10) from CI_s hI 10).1; have := (show iv (-1201) 6 (sg 10) from CI_s hI 10).2; have := (show iv (-1) 79 (sg_j42 11) from CI_s hI_j42 11).1; have := (show iv (-1) 79 (sg_j42 11) from CI_s hI_j42 11).2; have := (show iv (-1) 79 (sg 11) from CI_s hI 11).1; have := (show iv (-1) 79 (sg 11) from CI_s hI 11).2; have := (hsx0_42).1; have := (hsx0_42).2; have := (hsx1_42).1; have := (hsx1_42).2; have := (hsx2_42).1; have := (hsx2_42).2; have := (h_13).1; have := (h_13).2; have := ((show iv 0 1200 (sg_j42 8) from CI_s hI_j42 8)).1; have := ((show iv 0 1200 (sg_j42 8) from CI_s hI_j42 8)).2; have := (h_16).1; have := (h_16).2; have := (show iv 0 1201 (sg_j42 9) from CI_s hI_j42 9).1; have := (show iv 0 1201 (sg_j42 9) from CI_s hI_j42 9).2; have := (show iv 0 1201 (sg 9) from CI_s hI 9).1; have := (show iv 0 1201 (sg 9) from CI_s hI 9).2; have := i32_0; have := i32_1; have := i32_2; have := i32_m1; have := (show iv (-1) 79 (sg_j42 11) from CI_s hI_j42 11).1; have := (show iv (-1) 79 (sg_j42 11) from CI_s hI_j42 11).2; have := (show iv (-1) 79 (sg 11) from CI_s hI 11).1; have := (show iv (-1) 79 (sg 11) from CI_s hI 11).2; have := (hsx0_42).1; have := (hsx0_42).2; have := (hsx1_42).1; have := (hsx1_42).2; have := (hsx2_42).1; have := (hsx2_42).2; have := (h_13).1; have := (h_13).2; have := ((show iv 0 1200 (sg_j42 8) from CI_s hI_j42 8)).1; have := ((show iv 0 1200 (sg_j42 8) from CI_s hI_j42 8)).2; have := (h_16).1; have := (h_16).2; omega)); omega
          refine ec_aload_n hx hb dX7_firstWrongPlace_57 rfl (lv_at hl 1 rfl) ?_
          refine cm_callTV (t := 2) (C := RX7) (T := TX7) (N := 6) (rest := []) (as := []) ⟨hx, hb, hml, hown, htb⟩ (d_readContent2 l dC dI ad cid a2 lx sg_j42 gm_j42 lg_j42 hl9 x ch N9 Dd (K9 + 1 + x3_42.toNatClampNeg) hI_j42 hsx0_42 (by have := i32_0; have := i32_1; have := i32_2; have := i32_m1; have := (show iv (-1) 0 (sg_j42 7) from CI_s hI_j42 7).1; have := (show iv (-1) 0 (sg_j42 7) from CI_s hI_j42 7).2; have := (show iv (-1) 0 (sg 7) from CI_s hI 7).1; have := (show iv (-1) 0 (sg 7) from CI_s hI 7).2; have := (hsx0_42).1; have := (hsx0_42).2; have := (hsx1_42).1; have := (hsx1_42).2; have := (hsx2_42).1; have := (hsx2_42).2; have := (h_13).1; have := (h_13).2; have := ((show iv 0 1200 (sg_j42 8) from CI_s hI_j42 8)).1; have := ((show iv 0 1200 (sg_j42 8) from CI_s hI_j42 8)).2; have := (h_16).1; have := (h_16).2; omega) (by have := i32_0; have := i32_1; have := i32_2; have := i32_m1; have := (show iv 0 80 (sg_j42 4) from CI_s hI_j42 4).1; have := (show iv 0 80 (sg_j42 4) from CI_s hI_j42 4).2; have := (show iv 0 80 (sg 4) from CI_s hI 4).1; have := (show iv 0 80 (sg 4) from CI_s hI 4).2; have := (show iv 0 240 (sg_j42 5) from CI_s hI_j42 5).1; have := (show iv 0 240 (sg_j42 5) from CI_s hI_j42 5).2; have := (show iv 0 240 (sg 5) from CI_s hI 5).1; have := (show iv 0 240 (sg 5) from CI_s hI 5).2; have := (show iv 0 1200 (sg_j42 6) from CI_s hI_j42 6).1; have := (show iv 0 1200 (sg_j42 6) from CI_s hI_j42 6).2; have := (show iv 0 1200 (sg 6) from CI_s hI 6).1; have := (show iv 0 1200 (sg 6) from CI_s hI 6).2; have := (show iv (-1) 0 (sg_j42 7) from CI_s hI_j42 7).1; have := (show iv (-1) 0 (sg_j42 7) from CI_s hI_j42 7).2; have := (show iv (-1) 0 (sg 7) from CI_s hI 7).1; have := (show iv (-1) 0 (sg 7) from CI_s hI 7).2; have := (show iv 0 1200 (sg_j42 8) from CI_s hI_j42 8).1; have := (show iv 0 1200 (sg_j42 8) from CI_s hI_j42 8).2; have := (show iv 0 1200 (sg 8) from CI_s hI 8).1; have := (show iv 0 1200 (sg 8) from CI_s hI 8).2; have := (show iv 0 1201 (sg_j42 9) from CI_s hI_j42 9).1; have := (show iv 0 1201 (sg_j42 9) from CI_s hI_j42 9).2; have := (show iv 0 1201 (sg 9) from CI_s hI 9).1; have := (show iv 0 1201 (sg 9) from CI_s hI 9).2; have := (show iv (-1201) 6 (sg_j42 10) from CI_s hI_j42 10).1; have := (show iv (-1201) 6 (sg_j42 10) from CI_s hI_j42 10).2; have := (show iv (-1201) 6 (sg 10) from CI_s hI 10).1; have := (show iv (-1201) 6 (sg 10) from CI_s hI 10).2; have := (show iv (-1) 79 (sg_j42 11) from CI_s hI_j42 11).1; have := (show iv (-1) 79 (sg_j42 11) from CI_s hI_j42 11).2; have := (show iv (-1) 79 (sg 11) from CI_s hI 11).1; have := (show iv (-1) 79 (sg 11) from CI_s hI 11).2; have := (hsx0_42).1; have := (hsx0_42).2; have := (hsx1_42).1; have := (hsx1_42).2; have := (hsx2_42).1; have := (hsx2_42).2; have := (h_13).1; have := (h_13).2; have := ((show iv 0 1200 (sg_j42 8) from CI_s hI_j42 8)).1; have := ((show iv 0 1200 (sg_j42 8) from CI_s hI_j42 8)).2; have := (h_16).1; have := (h_16).2; omega) (by have := i32_0; have := i32_1; have := i32_2; have := i32_m1; have := (show iv (-1) 79 (sg_j42 11) from CI_s hI_j42 11).1; have := (show iv (-1) 79 (sg_j42 11) from CI_s hI_j42 11).2; have := (show iv (-1) 79 (sg 11) from CI_s hI 11).1; have := (show iv (-1) 79 (sg 11) from CI_s hI 11).2; have := (hsx0_42).1; have := (hsx0_42).2; have := (hsx1_42).1; have := (hsx1_42).2; have := (hsx2_42).1; have := (hsx2_42).2; have := (h_13).1; have := (h_13).2; have := ((show iv 0 1200 (sg_j42 8) from CI_s hI_j42 8)).1; have := ((show iv 0 1200 (sg_j42 8) from CI_s hI_j42 8)).2; have := (h_16).1; have := (h_16).2; omega) hRD2 (by have := i32_0; have := i32_1; have := i32_2; have := i32_m1; have := (show iv 0 80 (sg_j42 4) from CI_s hI_j42 4).1; have := (show iv 0 80 (sg_j42 4) from CI_s hI_j42 4).2; have := (show iv 0 80 (sg 4) from CI_s hI 4).1; have := (show iv 0 80 (sg 4) from CI_s hI 4).2; have := (show iv 0 240 (sg_j42 5) from CI_s hI_j42 5).1; have := (show iv 0 240 (sg_j42 5) from CI_s hI_j42 5).2; have := (show iv 0 240 (sg 5) from CI_s hI 5).1; have := (show iv 0 240 (sg 5) from CI_s hI 5).2; have := (show iv 0 1200 (sg_j42 6) from CI_s hI_j42 6).1; have := (show iv 0 1200 (sg_j42 6) from CI_s hI_j42 6).2; have := (show iv 0 1200 (sg 6) from CI_s hI 6).1; have := (show iv 0 1200 (sg 6) from CI_s hI 6).2; have := (show iv (-1) 0 (sg_j42 7) from CI_s hI_j42 7).1; have := (show iv (-1) 0 (sg_j42 7) from CI_s hI_j42 7).2; have := (show iv (-1) 0 (sg 7) from CI_s hI 7).1; have := (show iv (-1) 0 (sg 7) from CI_s hI 7).2; have := (show iv 0 1200 (sg_j42 8) from CI_s hI_j42 8).1; have := (show iv 0 1200 (sg_j42 8) from CI_s hI_j42 8).2; have := (show iv 0 1200 (sg 8) from CI_s hI 8).1; have := (show iv 0 1200 (sg 8) from CI_s hI 8).2; have := (show iv 0 1201 (sg_j42 9) from CI_s hI_j42 9).1; have := (show iv 0 1201 (sg_j42 9) from CI_s hI_j42 9).2; have := (show iv 0 1201 (sg 9) from CI_s hI 9).1; have := (show iv 0 1201 (sg 9) from CI_s hI 9).2; have := (show iv (-1201) 6 (sg_j42 10) from CI_s hI_j42 10).1; have := (show iv (-1201) 6 (sg_j42 10) from CI_s hI_j42 10).2; have := (show iv (-1201) 6 (sg 10) from CI_s hI 10).1; have := (show iv (-1201) 6 (sg 10) from CI_s hI 10).2; have := (show iv (-1) 79 (sg_j42 11) from CI_s hI_j42 11).1; have := (show iv (-1) 79 (sg_j42 11) from CI_s hI_j42 11).2; have := (show iv (-1) 79 (sg 11) from CI_s hI 11).1; have := (show iv (-1) 79 (sg 11) from CI_s hI 11).2; have := (hsx0_42).1; have := (hsx0_42).2; have := (hsx1_42).1; have := (hsx1_42).2; have := (hsx2_42).1; have := (hsx2_42).2; have := (h_13).1; have := (h_13).2; have := ((show iv 0 1200 (sg_j42 8) from CI_s hI_j42 8)).1; have := ((show iv 0 1200 (sg_j42 8) from CI_s hI_j42 8)).2; have := (h_16).1; have := (h_16).2; omega) (by have := i32_0; have := i32_1; have := i32_2; have := i32_m1; have := (show iv 0 80 (sg_j42 4) from CI_s hI_j42 4).1; have := (show iv 0 80 (sg_j42 4) from CI_s hI_j42 4).2; have := (show iv 0 80 (sg 4) from CI_s hI 4).1; have := (show iv 0 80 (sg 4) from CI_s hI 4).2; have := (show iv 0 240 (sg_j42 5) from CI_s hI_j42 5).1; have := (show iv 0 240 (sg_j42 5) from CI_s hI_j42 5).2; have := (show iv 0 240 (sg 5) from CI_s hI 5).1; have := (show iv 0 240 (sg 5) from CI_s hI 5).2; have := (show iv 0 1200 (sg_j42 6) from CI_s hI_j42 6).1; have := (show iv 0 1200 (sg_j42 6) from CI_s hI_j42 6).2; have := (show iv 0 1200 (sg 6) from CI_s hI 6).1; have := (show iv 0 1200 (sg 6) from CI_s hI 6).2; have := (show iv (-1) 0 (sg_j42 7) from CI_s hI_j42 7).1; have := (show iv (-1) 0 (sg_j42 7) from CI_s hI_j42 7).2; have := (show iv (-1) 0 (sg 7) from CI_s hI 7).1; have := (show iv (-1) 0 (sg 7) from CI_s hI 7).2; have := (show iv 0 1200 (sg_j42 8) from CI_s hI_j42 8).1; have := (show iv 0 1200 (sg_j42 8) from CI_s hI_j42 8).2; have := (show iv 0 1200 (sg 8) from CI_s hI 8).1; have := (show iv 0 1200 (sg 8) from CI_s hI 8).2; have := (show iv 0 1201 (sg_j42 9) from CI_s hI_j42 9).1; have := (show iv 0 1201 (sg_j42 9) from CI_s hI_j42 9).2; have := (show iv 0 1201 (sg 9) from CI_s hI 9).1; have := (show iv 0 1201 (sg 9) from CI_s hI 9).2; have := (show iv (-1201) 6 (sg_j42 10) from CI_s hI_j42 10).1; have := (show iv (-1201) 6 (sg_j42 10) from CI_s hI_j42 10).2; have := (show iv (-1201) 6 (sg 10) from CI_s hI 10).1; have := (show iv (-1201) 6 (sg 10) from CI_s hI 10).2; have := (show iv (-1) 79 (sg_j42 11) from CI_s hI_j42 11).1; have := (show iv (-1) 79 (sg_j42 11) from CI_s hI_j42 11).2; have := (show iv (-1) 79 (sg 11) from CI_s hI 11).1; have := (show iv (-1) 79 (sg 11) from CI_s hI 11).2; have := (hsx0_42).1; have := (hsx0_42).2; have := (hsx1_42).1; have := (hsx1_42).2; have := (hsx2_42).1; have := (hsx2_42).2; have := (h_13).1; have := (h_13).2; have := ((show iv 0 1200 (sg_j42 8) from CI_s hI_j42 8)).1; have := ((show iv 0 1200 (sg_j42 8) from CI_s hI_j42 8)).2; have := (h_16).1; have := (h_16).2; omega) (hU12b) (hU18b) (by have q1 : x3_42.toNatClampNeg = x3_42.toInt.toNat := rfl; have := i32_0; have := i32_1; have := i32_2; have := i32_m1; have := (hsx0_42).1; have := (hsx0_42).2; have := (hsx1_42).1; have := (hsx1_42).2; have := (hsx2_42).1; have := (hsx2_42).2; have := (h_13).1; have := (h_13).2; have := ((show iv 0 1200 (sg_j42 8) from CI_s hI_j42 8)).1; have := ((show iv 0 1200 (sg_j42 8) from CI_s hI_j42 8)).2; have := (h_16).1; have := (h_16).2; omega) (CHR_k hch rfl rfl) hRd u6 hd1) (cwV 0 htb (gd_V kw_636 kw_637 kw_16 kw_151 kw_1458) rfl rfl rfl (by decide +kernel) ⟨Nat.le_of_ble_eq_true rfl, Nat.le_of_ble_eq_true rfl⟩) hsx0_42 (by decide) (by decide) rfl rfl hl.1 rfl (Nat.le_trans cs_n (by decide)) dX7_firstWrongPlace_58 ⟨Nat.le_trans (gc_le hI_j42) (Nat.le_of_ble_eq_true rfl), Nat.le_trans (gs_le hI_j42) (Nat.le_of_ble_eq_true rfl)⟩ hK hP hD hS hA hG (fun E ce q9 u_18 H locs hw hP hD hS hce hcv hcl => ?_) (fun v9 u_18 H locs hw hP hD hS => ?_)
          · obtain ⟨hE, hw⟩ := hw
            obtain ⟨sgv_19, gmv_19, lgv_19, rfl, hIv_19, ksv_19, kgv_19, klv_19, fU12_v_19, fU18_v_19, xT_v_19⟩ := hw
            have hP : va_P (dC, dI) vwCl (cW ad cid a2 lx sgv_19 gmv_19 lgv_19) H := hP
            have hD : va_D A (cW ad cid a2 lx sgv_19 gmv_19 lgv_19) := hD
            refine vx_widen (k := gc gm gm_j42 1) (n := gs gm gm_j42 1) (by unfold gc; omega) (by unfold gs; omega) ?_
            subst hE
            refine mc_catch (own := RX7) (name := "java/lang/IllegalArgumentException") hown ⟨32, 75, 78, 50⟩ [] hxt (by decide) (by decide) (htb _ kw_547) (va_Nw.use rfl hG.1.2.1.1) hce hcv hcl ?_
            refine lv_astore_n (i := 3) (lv' := [(3, .ref q9), (0, eV (ad 2) x), (1, eV (ad 13) tx), (2, .int ln)]) hx hb dX7_firstWrongPlace_78 rfl hl (by decide) rfl (fun ls hl => ?_)
            refine ec_aload_n hx hb dX7_firstWrongPlace_79 rfl (lv_at hl 1 rfl) ?_
            refine cr_get (t := 2) (j := 3) (C := RX7) (T := TX7) (N := 6) (v := .int (sgv_19 9)) hx hb htb inX7 hown hK hP hsx0_42 (by decide) (by decide) (by decide) rfl (by decide) (htb _ kw_315) rfl dX7_firstWrongPlace_80 ?_
            refine W.widen (k := gc gm gmv_19 1) (n := gs gm gmv_19 1) (gc_e (show gmv_19 42 = gm_j42 42 from (kgv_19 42 (by decide))) (by decide)) (gs_e (show gmv_19 42 = gm_j42 42 from (kgv_19 42 (by decide))) (by decide)) ?_
            have hm_20 : PHs gm ≤ PHs gmv_19 := by rw [PHs_e (show gmv_19 42 = gm_j42 42 from (kgv_19 42 (by decide)))]; exact hm_j42
            exact W.nb (fun hN => W.widen (k := 30481) (n := 121926) (Nat.le_trans (gc_l0 (gm := gm) (k := 1) hIv_19) (Nat.le_of_ble_eq_true rfl)) (Nat.le_trans (gs_l0 (gm := gm) (k := 1) hIv_19) (Nat.le_of_ble_eq_true rfl)) (vx_ret (W.iret (v := (sgv_19 9)) hx hb hr (fun t ht hW => ⟨⟨some (.int (sgv_19 9)), (a2, lx, sgv_19, gmv_19, lgv_19), rfl, ⟨(sgv_19 9), rfl, sgv_19, gmv_19, lgv_19, rfl, hIv_19, (KS_tr (L := [4, 5, 6, 7, 8, 9, 10, 11]) (KS_tr (L := [4, 5, 6, 7, 8, 9, 10, 11]) KS_rf hks_j42 (by decide)) ksv_19 (by decide)), (KS_tr (L := [11, 12, 13, 14, 15, 16, 17, 18, 19, 20, 21, 22, 23, 24, 25, 26, 27, 44, 45, 46, 56]) (KS_tr (L := [11, 12, 13, 14, 15, 16, 17, 18, 19, 20, 21, 22, 23, 24, 25, 26, 27, 44, 45, 46, 56]) KS_rf hkg_j42 (by decide)) kgv_19 (by decide)), (KS_tr (L := [0, 1, 2, 3]) (KS_tr (L := [0, 1, 2, 3]) KS_rf hkl_j42 (by decide)) klv_19 (by decide)), (iv_w (show iv 0 1201 (sgv_19 9) from CI_s hIv_19 9) (by decide)), (UB_k fU12_v_19 rfl (by have q1 : x3_42.toNatClampNeg = x3_42.toInt.toNat := rfl; have := i32_0; have := i32_1; have := i32_2; have := i32_m1; have := (hsx0_42).1; have := (hsx0_42).2; have := (hsx1_42).1; have := (hsx1_42).2; have := (hsx2_42).1; have := (hsx2_42).2; have := (h_13).1; have := (h_13).2; have := ((show iv 0 1200 (sg_j42 8) from CI_s hI_j42 8)).1; have := ((show iv 0 1200 (sg_j42 8) from CI_s hI_j42 8)).2; have := (h_16).1; have := (h_16).2; have := ((show iv 0 1201 (sgv_19 9) from CI_s hIv_19 9)).1; have := ((show iv 0 1201 (sgv_19 9) from CI_s hIv_19 9)).2; omega)), (UB_k fU18_v_19 rfl (by have q1 : x3_42.toNatClampNeg = x3_42.toInt.toNat := rfl; have := i32_0; have := i32_1; have := i32_2; have := i32_m1; have := (hsx0_42).1; have := (hsx0_42).2; have := (hsx1_42).1; have := (hsx1_42).2; have := (hsx2_42).1; have := (hsx2_42).2; have := (h_13).1; have := (h_13).2; have := ((show iv 0 1200 (sg_j42 8) from CI_s hI_j42 8)).1; have := ((show iv 0 1200 (sg_j42 8) from CI_s hI_j42 8)).2; have := (h_16).1; have := (h_16).2; have := ((show iv 0 1201 (sgv_19 9) from CI_s hIv_19 9)).1; have := ((show iv 0 1201 (sgv_19 9) from CI_s hIv_19 9)).2; omega)), (fun q9 => absurd q9 (by have := i32_0; have := i32_1; have := i32_2; have := i32_m1; have := (show iv 0 1201 (sgv_19 9) from CI_s hIv_19 9).1; have := (show iv 0 1201 (sgv_19 9) from CI_s hIv_19 9).2; have := (show iv 0 1201 (sg_j42 9) from CI_s hI_j42 9).1; have := (show iv 0 1201 (sg_j42 9) from CI_s hI_j42 9).2; have := (show iv 0 1201 (sg 9) from CI_s hI 9).1; have := (show iv 0 1201 (sg 9) from CI_s hI 9).2; have := (show iv 0 1201 (sg_j42 9) from CI_s hI_j42 9).1; have := (show iv 0 1201 (sg_j42 9) from CI_s hI_j42 9).2; have := (hsx0_42).1; have := (hsx0_42).2; have := (hsx1_42).1; have := (hsx1_42).2; have := (hsx2_42).1; have := (hsx2_42).2; have := (h_13).1; have := (h_13).2; have := ((show iv 0 1200 (sg_j42 8) from CI_s hI_j42 8)).1; have := ((show iv 0 1200 (sg_j42 8) from CI_s hI_j42 8)).2; have := (h_16).1; have := (h_16).2; have := ((show iv 0 1201 (sgv_19 9) from CI_s hIv_19 9)).1; have := ((show iv 0 1201 (sgv_19 9) from CI_s hIv_19 9)).2; omega)), (Or.inr ⟨(by have := i32_0; have := i32_1; have := i32_2; have := i32_m1; have := (show iv 0 1201 (sgv_19 9) from CI_s hIv_19 9).1; have := (show iv 0 1201 (sgv_19 9) from CI_s hIv_19 9).2; have := (show iv 0 1201 (sg_j42 9) from CI_s hI_j42 9).1; have := (show iv 0 1201 (sg_j42 9) from CI_s hI_j42 9).2; have := (show iv 0 1201 (sg 9) from CI_s hI 9).1; have := (show iv 0 1201 (sg 9) from CI_s hI 9).2; have := (show iv 0 1201 (sg_j42 9) from CI_s hI_j42 9).1; have := (show iv 0 1201 (sg_j42 9) from CI_s hI_j42 9).2; have := (hsx0_42).1; have := (hsx0_42).2; have := (hsx1_42).1; have := (hsx1_42).2; have := (hsx2_42).1; have := (hsx2_42).2; have := (h_13).1; have := (h_13).2; have := ((show iv 0 1200 (sg_j42 8) from CI_s hI_j42 8)).1; have := ((show iv 0 1200 (sg_j42 8) from CI_s hI_j42 8)).2; have := (h_16).1; have := (h_16).2; have := ((show iv 0 1201 (sgv_19 9) from CI_s hIv_19 9)).1; have := ((show iv 0 1201 (sgv_19 9) from CI_s hIv_19 9)).2; omega), DOI_x (CHR_n hch) hT9 (by have := hd1; omega) xT_v_19⟩)⟩, ⟨by rw [ht]; exact hP, va_K.moved hW.alike hK, hD⟩, hm_20, by rw [ht]; exact hN⟩, hS.F ht⟩) hS.2.2 dX7_firstWrongPlace_83)))
          obtain ⟨rfl, sgv_21, gmv_21, lgv_21, rfl, hIv_21, ksv_21, kgv_21, klv_21, fE_r_17, f5_r_17, fdp_r_17, fRD_r_17, fU12_r_17, fU18_r_17, fT_r_17, f6_r_17⟩ := hw
          have hP : va_P (dC, dI) vwCl (cW ad cid a2 lx sgv_21 gmv_21 lgv_21) H := hP
          have hD : va_D A (cW ad cid a2 lx sgv_21 gmv_21 lgv_21) := hD
          refine W.eq (g2 := F0 m 61 ls []) rfl ?_
          obtain ⟨z_22, ez_22⟩ : ∃ z : Int32, z = x3_42 + 1 := ⟨_, rfl⟩
          have hz_22 : iv 1 1201 z_22 := iv_of ez_22 (iv_add h_13 (iv_k (by decide) : iv 1 1 1) (by decide))
          have tz_22 : z_22.toInt = x3_42.toInt + 1 := by rw [ez_22]; exact iv_addE h_13 (iv_k (by decide) : iv 1 1 1) (by decide)
          refine lv_iinc (v := z_22) (lv' := [(3, .int z_22), (0, eV (ad 2) x), (1, eV (ad 13) tx), (2, .int ln)]) hx hb dX7_firstWrongPlace_61 hl (k := 0) rfl ez_22.symm (by decide) rfl (fun ls hl => ?_)
          refine lv_goto (tgt := 42) hx hb dX7_firstWrongPlace_64 (by decide) ?_
          refine W.widen (k := gc gm gmv_21 0) (n := gs gm gmv_21 0) (gc_e (show gmv_21 42 = gm_j42 42 from (kgv_21 42 (by decide))) (by decide)) (gs_e (show gmv_21 42 = gm_j42 42 from (kgv_21 42 (by decide))) (by decide)) ?_
          have hm_23 : PHs gm ≤ PHs gmv_21 := by rw [PHs_e (show gmv_21 42 = gm_j42 42 from (kgv_21 42 (by decide)))]; exact hm_j42
          exact ih42 _ (by rw [← hn42]; exact (iv_meas tz_22 h_13 (by decide))) sgv_21 gmv_21 lgv_21 z_22 rfl (iv_w hz_22 (by decide)) hsx0_42 hsx1_42 hsx2_42 (KS_tr (L := [4, 5, 6, 7, 8, 9, 10, 11]) (KS_tr (L := [4, 5, 6, 7, 8, 9, 10, 11]) KS_rf hks_j42 (by decide)) ksv_21 (by decide)) (KS_tr (L := [11, 12, 13, 14, 15, 16, 17, 18, 19, 20, 21, 22, 23, 24, 25, 26, 27, 44, 45, 46, 56]) (KS_tr (L := [11, 12, 13, 14, 15, 16, 17, 18, 19, 20, 21, 22, 23, 24, 25, 26, 27, 44, 45, 46, 56]) KS_rf hkg_j42 (by decide)) kgv_21 (by decide)) (KS_tr (L := [0, 1, 2, 3]) (KS_tr (L := [0, 1, 2, 3]) KS_rf hkl_j42 (by decide)) klv_21 (by decide)) hIv_21 (by have := i32_0; have := i32_1; have := i32_2; have := i32_m1; have := (show iv 0 80 (sgv_21 4) from CI_s hIv_21 4).1; have := (show iv 0 80 (sgv_21 4) from CI_s hIv_21 4).2; have := (show iv 0 80 (sg_j42 4) from CI_s hI_j42 4).1; have := (show iv 0 80 (sg_j42 4) from CI_s hI_j42 4).2; have := (show iv 0 80 (sg 4) from CI_s hI 4).1; have := (show iv 0 80 (sg 4) from CI_s hI 4).2; have := (show iv 0 240 (sgv_21 5) from CI_s hIv_21 5).1; have := (show iv 0 240 (sgv_21 5) from CI_s hIv_21 5).2; have := (show iv 0 240 (sg_j42 5) from CI_s hI_j42 5).1; have := (show iv 0 240 (sg_j42 5) from CI_s hI_j42 5).2; have := (show iv 0 240 (sg 5) from CI_s hI 5).1; have := (show iv 0 240 (sg 5) from CI_s hI 5).2; have := (show iv 0 1200 (sgv_21 6) from CI_s hIv_21 6).1; have := (show iv 0 1200 (sgv_21 6) from CI_s hIv_21 6).2; have := (show iv 0 1200 (sg_j42 6) from CI_s hI_j42 6).1; have := (show iv 0 1200 (sg_j42 6) from CI_s hI_j42 6).2; have := (show iv 0 1200 (sg 6) from CI_s hI 6).1; have := (show iv 0 1200 (sg 6) from CI_s hI 6).2; have := congrArg Int32.toInt (show sgv_21 7 = sg_j42 7 from ksv_21 7 (by decide)); have := (show iv (-1) 0 (sg_j42 7) from CI_s hI_j42 7).1; have := (show iv (-1) 0 (sg_j42 7) from CI_s hI_j42 7).2; have := (show iv (-1) 0 (sg 7) from CI_s hI 7).1; have := (show iv (-1) 0 (sg 7) from CI_s hI 7).2; have := congrArg Int32.toInt (show sgv_21 8 = sg_j42 8 from ksv_21 8 (by decide)); have := (show iv 0 1200 (sg_j42 8) from CI_s hI_j42 8).1; have := (show iv 0 1200 (sg_j42 8) from CI_s hI_j42 8).2; have := (show iv 0 1200 (sg 8) from CI_s hI 8).1; have := (show iv 0 1200 (sg 8) from CI_s hI 8).2; have := (show iv 0 1201 (sgv_21 9) from CI_s hIv_21 9).1; have := (show iv 0 1201 (sgv_21 9) from CI_s hIv_21 9).2; have := (show iv 0 1201 (sg_j42 9) from CI_s hI_j42 9).1; have := (show iv 0 1201 (sg_j42 9) from CI_s hI_j42 9).2; have := (show iv 0 1201 (sg 9) from CI_s hI 9).1; have := (show iv 0 1201 (sg 9) from CI_s hI 9).2; have := (show iv (-1201) 6 (sgv_21 10) from CI_s hIv_21 10).1; have := (show iv (-1201) 6 (sgv_21 10) from CI_s hIv_21 10).2; have := (show iv (-1201) 6 (sg_j42 10) from CI_s hI_j42 10).1; have := (show iv (-1201) 6 (sg_j42 10) from CI_s hI_j42 10).2; have := (show iv (-1201) 6 (sg 10) from CI_s hI 10).1; have := (show iv (-1201) 6 (sg 10) from CI_s hI 10).2; have := (show iv (-1) 79 (sgv_21 11) from CI_s hIv_21 11).1; have := (show iv (-1) 79 (sgv_21 11) from CI_s hIv_21 11).2; have := (show iv (-1) 79 (sg_j42 11) from CI_s hI_j42 11).1; have := (show iv (-1) 79 (sg_j42 11) from CI_s hI_j42 11).2; have := (show iv (-1) 79 (sg 11) from CI_s hI 11).1; have := (show iv (-1) 79 (sg 11) from CI_s hI 11).2; have := (show iv 0 80 (sg_j42 4) from CI_s hI_j42 4).1; have := (show iv 0 80 (sg_j42 4) from CI_s hI_j42 4).2; have := (show iv 0 240 (sg_j42 5) from CI_s hI_j42 5).1; have := (show iv 0 240 (sg_j42 5) from CI_s hI_j42 5).2; have := (show iv 0 1200 (sg_j42 6) from CI_s hI_j42 6).1; have := (show iv 0 1200 (sg_j42 6) from CI_s hI_j42 6).2; have := (show iv (-1) 0 (sg_j42 7) from CI_s hI_j42 7).1; have := (show iv (-1) 0 (sg_j42 7) from CI_s hI_j42 7).2; have := (show iv 0 1200 (sg_j42 8) from CI_s hI_j42 8).1; have := (show iv 0 1200 (sg_j42 8) from CI_s hI_j42 8).2; have := (show iv 0 1201 (sg_j42 9) from CI_s hI_j42 9).1; have := (show iv 0 1201 (sg_j42 9) from CI_s hI_j42 9).2; have := (show iv (-1201) 6 (sg_j42 10) from CI_s hI_j42 10).1; have := (show iv (-1201) 6 (sg_j42 10) from CI_s hI_j42 10).2; have := (show iv (-1) 79 (sg_j42 11) from CI_s hI_j42 11).1; have := (show iv (-1) 79 (sg_j42 11) from CI_s hI_j42 11).2; have := (hsx0_42).1; have := (hsx0_42).2; have := (hsx1_42).1; have := (hsx1_42).2; have := (hsx2_42).1; have := (hsx2_42).2; have := (h_13).1; have := (h_13).2; have := ((show iv 0 1200 (sg_j42 8) from CI_s hI_j42 8)).1; have := ((show iv 0 1200 (sg_j42 8) from CI_s hI_j42 8)).2; have := (h_16).1; have := (h_16).2; have := (hz_22).1; have := (hz_22).2; omega) ((Eq.trans ((show KS [4, 5, 6, 9, 10, 11] sg_j42 sgv_21 from (KS_tr (L := [4, 5, 6, 9, 10, 11]) KS_rf ksv_21 (by decide))) 8 (by decide)) h8n)) (by have := i32_0; have := i32_1; have := i32_2; have := i32_m1; have := congrArg Int32.toInt (show sgv_21 7 = sg_j42 7 from ksv_21 7 (by decide)); have := (show iv (-1) 0 (sg_j42 7) from CI_s hI_j42 7).1; have := (show iv (-1) 0 (sg_j42 7) from CI_s hI_j42 7).2; have := (show iv (-1) 0 (sg 7) from CI_s hI 7).1; have := (show iv (-1) 0 (sg 7) from CI_s hI 7).2; have := (show iv (-1) 0 (sg_j42 7) from CI_s hI_j42 7).1; have := (show iv (-1) 0 (sg_j42 7) from CI_s hI_j42 7).2; have := (hsx0_42).1; have := (hsx0_42).2; have := (hsx1_42).1; have := (hsx1_42).2; have := (hsx2_42).1; have := (hsx2_42).2; have := (h_13).1; have := (h_13).2; have := ((show iv 0 1200 (sg_j42 8) from CI_s hI_j42 8)).1; have := ((show iv 0 1200 (sg_j42 8) from CI_s hI_j42 8)).2; have := (h_16).1; have := (h_16).2; have := (hz_22).1; have := (hz_22).2; omega) (fRD_r_17) (by have := i32_0; have := i32_1; have := i32_2; have := i32_m1; have := (show iv 0 80 (sgv_21 4) from CI_s hIv_21 4).1; have := (show iv 0 80 (sgv_21 4) from CI_s hIv_21 4).2; have := (show iv 0 80 (sg_j42 4) from CI_s hI_j42 4).1; have := (show iv 0 80 (sg_j42 4) from CI_s hI_j42 4).2; have := (show iv 0 80 (sg 4) from CI_s hI 4).1; have := (show iv 0 80 (sg 4) from CI_s hI 4).2; have := (show iv 0 240 (sgv_21 5) from CI_s hIv_21 5).1; have := (show iv 0 240 (sgv_21 5) from CI_s hIv_21 5).2; have := (show iv 0 240 (sg_j42 5) from CI_s hI_j42 5).1; have := (show iv 0 240 (sg_j42 5) from CI_s hI_j42 5).2; have := (show iv 0 240 (sg 5) from CI_s hI 5).1; have := (show iv 0 240 (sg 5) from CI_s hI 5).2; have := (show iv 0 1200 (sgv_21 6) from CI_s hIv_21 6).1; have := (show iv 0 1200 (sgv_21 6) from CI_s hIv_21 6).2; have := (show iv 0 1200 (sg_j42 6) from CI_s hI_j42 6).1; have := (show iv 0 1200 (sg_j42 6) from CI_s hI_j42 6).2; have := (show iv 0 1200 (sg 6) from CI_s hI 6).1; have := (show iv 0 1200 (sg 6) from CI_s hI 6).2; have := congrArg Int32.toInt (show sgv_21 7 = sg_j42 7 from ksv_21 7 (by decide)); have := (show iv (-1) 0 (sg_j42 7) from CI_s hI_j42 7).1; have := (show iv (-1) 0 (sg_j42 7) from CI_s hI_j42 7).2; have := (show iv (-1) 0 (sg 7) from CI_s hI 7).1; have := (show iv (-1) 0 (sg 7) from CI_s hI 7).2; have := congrArg Int32.toInt (show sgv_21 8 = sg_j42 8 from ksv_21 8 (by decide)); have := (show iv 0 1200 (sg_j42 8) from CI_s hI_j42 8).1; have := (show iv 0 1200 (sg_j42 8) from CI_s hI_j42 8).2; have := (show iv 0 1200 (sg 8) from CI_s hI 8).1; have := (show iv 0 1200 (sg 8) from CI_s hI 8).2; have := (show iv 0 1201 (sgv_21 9) from CI_s hIv_21 9).1; have := (show iv 0 1201 (sgv_21 9) from CI_s hIv_21 9).2; have := (show iv 0 1201 (sg_j42 9) from CI_s hI_j42 9).1; have := (show iv 0 1201 (sg_j42 9) from CI_s hI_j42 9).2; have := (show iv 0 1201 (sg 9) from CI_s hI 9).1; have := (show iv 0 1201 (sg 9) from CI_s hI 9).2; have := (show iv (-1201) 6 (sgv_21 10) from CI_s hIv_21 10).1; have := (show iv (-1201) 6 (sgv_21 10) from CI_s hIv_21 10).2; have := (show iv (-1201) 6 (sg_j42 10) from CI_s hI_j42 10).1; have := (show iv (-1201) 6 (sg_j42 10) from CI_s hI_j42 10).2; have := (show iv (-1201) 6 (sg 10) from CI_s hI 10).1; have := (show iv (-1201) 6 (sg 10) from CI_s hI 10).2; have := (show iv (-1) 79 (sgv_21 11) from CI_s hIv_21 11).1; have := (show iv (-1) 79 (sgv_21 11) from CI_s hIv_21 11).2; have := (show iv (-1) 79 (sg_j42 11) from CI_s hI_j42 11).1; have := (show iv (-1) 79 (sg_j42 11) from CI_s hI_j42 11).2; have := (show iv (-1) 79 (sg 11) from CI_s hI 11).1; have := (show iv (-1) 79 (sg 11) from CI_s hI 11).2; have := (show iv 0 80 (sg_j42 4) from CI_s hI_j42 4).1; have := (show iv 0 80 (sg_j42 4) from CI_s hI_j42 4).2; have := (show iv 0 240 (sg_j42 5) from CI_s hI_j42 5).1; have := (show iv 0 240 (sg_j42 5) from CI_s hI_j42 5).2; have := (show iv 0 1200 (sg_j42 6) from CI_s hI_j42 6).1; have := (show iv 0 1200 (sg_j42 6) from CI_s hI_j42 6).2; have := (show iv (-1) 0 (sg_j42 7) from CI_s hI_j42 7).1; have := (show iv (-1) 0 (sg_j42 7) from CI_s hI_j42 7).2; have := (show iv 0 1200 (sg_j42 8) from CI_s hI_j42 8).1; have := (show iv 0 1200 (sg_j42 8) from CI_s hI_j42 8).2; have := (show iv 0 1201 (sg_j42 9) from CI_s hI_j42 9).1; have := (show iv 0 1201 (sg_j42 9) from CI_s hI_j42 9).2; have := (show iv (-1201) 6 (sg_j42 10) from CI_s hI_j42 10).1; have := (show iv (-1201) 6 (sg_j42 10) from CI_s hI_j42 10).2; have := (show iv (-1) 79 (sg_j42 11) from CI_s hI_j42 11).1; have := (show iv (-1) 79 (sg_j42 11) from CI_s hI_j42 11).2; have := (hsx0_42).1; have := (hsx0_42).2; have := (hsx1_42).1; have := (hsx1_42).2; have := (hsx2_42).1; have := (hsx2_42).2; have := (h_13).1; have := (h_13).2; have := ((show iv 0 1200 (sg_j42 8) from CI_s hI_j42 8)).1; have := ((show iv 0 1200 (sg_j42 8) from CI_s hI_j42 8)).2; have := (h_16).1; have := (h_16).2; have := (hz_22).1; have := (hz_22).2; omega) (by have := i32_0; have := i32_1; have := i32_2; have := i32_m1; have := (show iv 0 80 (sgv_21 4) from CI_s hIv_21 4).1; have := (show iv 0 80 (sgv_21 4) from CI_s hIv_21 4).2; have := (show iv 0 80 (sg_j42 4) from CI_s hI_j42 4).1; have := (show iv 0 80 (sg_j42 4) from CI_s hI_j42 4).2; have := (show iv 0 80 (sg 4) from CI_s hI 4).1; have := (show iv 0 80 (sg 4) from CI_s hI 4).2; have := (show iv 0 240 (sgv_21 5) from CI_s hIv_21 5).1; have := (show iv 0 240 (sgv_21 5) from CI_s hIv_21 5).2; have := (show iv 0 240 (sg_j42 5) from CI_s hI_j42 5).1; have := (show iv 0 240 (sg_j42 5) from CI_s hI_j42 5).2; have := (show iv 0 240 (sg 5) from CI_s hI 5).1; have := (show iv 0 240 (sg 5) from CI_s hI 5).2; have := (show iv 0 1200 (sgv_21 6) from CI_s hIv_21 6).1; have := (show iv 0 1200 (sgv_21 6) from CI_s hIv_21 6).2; have := (show iv 0 1200 (sg_j42 6) from CI_s hI_j42 6).1; have := (show iv 0 1200 (sg_j42 6) from CI_s hI_j42 6).2; have := (show iv 0 1200 (sg 6) from CI_s hI 6).1; have := (show iv 0 1200 (sg 6) from CI_s hI 6).2; have := congrArg Int32.toInt (show sgv_21 7 = sg_j42 7 from ksv_21 7 (by decide)); have := (show iv (-1) 0 (sg_j42 7) from CI_s hI_j42 7).1; have := (show iv (-1) 0 (sg_j42 7) from CI_s hI_j42 7).2; have := (show iv (-1) 0 (sg 7) from CI_s hI 7).1; have := (show iv (-1) 0 (sg 7) from CI_s hI 7).2; have := congrArg Int32.toInt (show sgv_21 8 = sg_j42 8 from ksv_21 8 (by decide)); have := (show iv 0 1200 (sg_j42 8) from CI_s hI_j42 8).1; have := (show iv 0 1200 (sg_j42 8) from CI_s hI_j42 8).2; have := (show iv 0 1200 (sg 8) from CI_s hI 8).1; have := (show iv 0 1200 (sg 8) from CI_s hI 8).2; have := (show iv 0 1201 (sgv_21 9) from CI_s hIv_21 9).1; have := (show iv 0 1201 (sgv_21 9) from CI_s hIv_21 9).2; have := (show iv 0 1201 (sg_j42 9) from CI_s hI_j42 9).1; have := (show iv 0 1201 (sg_j42 9) from CI_s hI_j42 9).2; have := (show iv 0 1201 (sg 9) from CI_s hI 9).1; have := (show iv 0 1201 (sg 9) from CI_s hI 9).2; have := (show iv (-1201) 6 (sgv_21 10) from CI_s hIv_21 10).1; have := (show iv (-1201) 6 (sgv_21 10) from CI_s hIv_21 10).2; have := (show iv (-1201) 6 (sg_j42 10) from CI_s hI_j42 10).1; have := (show iv (-1201) 6 (sg_j42 10) from CI_s hI_j42 10).2; have := (show iv (-1201) 6 (sg 10) from CI_s hI 10).1; have := (show iv (-1201) 6 (sg 10) from CI_s hI 10).2; have := (show iv (-1) 79 (sgv_21 11) from CI_s hIv_21 11).1; have := (show iv (-1) 79 (sgv_21 11) from CI_s hIv_21 11).2; have := (show iv (-1) 79 (sg_j42 11) from CI_s hI_j42 11).1; have := (show iv (-1) 79 (sg_j42 11) from CI_s hI_j42 11).2; have := (show iv (-1) 79 (sg 11) from CI_s hI 11).1; have := (show iv (-1) 79 (sg 11) from CI_s hI 11).2; have := (show iv 0 80 (sg_j42 4) from CI_s hI_j42 4).1; have := (show iv 0 80 (sg_j42 4) from CI_s hI_j42 4).2; have := (show iv 0 240 (sg_j42 5) from CI_s hI_j42 5).1; have := (show iv 0 240 (sg_j42 5) from CI_s hI_j42 5).2; have := (show iv 0 1200 (sg_j42 6) from CI_s hI_j42 6).1; have := (show iv 0 1200 (sg_j42 6) from CI_s hI_j42 6).2; have := (show iv (-1) 0 (sg_j42 7) from CI_s hI_j42 7).1; have := (show iv (-1) 0 (sg_j42 7) from CI_s hI_j42 7).2; have := (show iv 0 1200 (sg_j42 8) from CI_s hI_j42 8).1; have := (show iv 0 1200 (sg_j42 8) from CI_s hI_j42 8).2; have := (show iv 0 1201 (sg_j42 9) from CI_s hI_j42 9).1; have := (show iv 0 1201 (sg_j42 9) from CI_s hI_j42 9).2; have := (show iv (-1201) 6 (sg_j42 10) from CI_s hI_j42 10).1; have := (show iv (-1201) 6 (sg_j42 10) from CI_s hI_j42 10).2; have := (show iv (-1) 79 (sg_j42 11) from CI_s hI_j42 11).1; have := (show iv (-1) 79 (sg_j42 11) from CI_s hI_j42 11).2; have := (hsx0_42).1; have := (hsx0_42).2; have := (hsx1_42).1; have := (hsx1_42).2; have := (hsx2_42).1; have := (hsx2_42).2; have := (h_13).1; have := (h_13).2; have := ((show iv 0 1200 (sg_j42 8) from CI_s hI_j42 8)).1; have := ((show iv 0 1200 (sg_j42 8) from CI_s hI_j42 8)).2; have := (h_16).1; have := (h_16).2; have := (hz_22).1; have := (hz_22).2; omega) (UB_k fU12_r_17 rfl (by have q1 : x3_42.toNatClampNeg = x3_42.toInt.toNat := rfl; have q2 : z_22.toNatClampNeg = z_22.toInt.toNat := rfl; have := i32_0; have := i32_1; have := i32_2; have := i32_m1; have := (hsx0_42).1; have := (hsx0_42).2; have := (hsx1_42).1; have := (hsx1_42).2; have := (hsx2_42).1; have := (hsx2_42).2; have := (h_13).1; have := (h_13).2; have := ((show iv 0 1200 (sg_j42 8) from CI_s hI_j42 8)).1; have := ((show iv 0 1200 (sg_j42 8) from CI_s hI_j42 8)).2; have := (h_16).1; have := (h_16).2; have := (hz_22).1; have := (hz_22).2; omega)) (UB_k fU18_r_17 rfl (by have q1 : x3_42.toNatClampNeg = x3_42.toInt.toNat := rfl; have q2 : z_22.toNatClampNeg = z_22.toInt.toNat := rfl; have := i32_0; have := i32_1; have := i32_2; have := i32_m1; have := (hsx0_42).1; have := (hsx0_42).2; have := (hsx1_42).1; have := (hsx1_42).2; have := (hsx2_42).1; have := (hsx2_42).2; have := (h_13).1; have := (h_13).2; have := ((show iv 0 1200 (sg_j42 8) from CI_s hI_j42 8)).1; have := ((show iv 0 1200 (sg_j42 8) from CI_s hI_j42 8)).2; have := (h_16).1; have := (h_16).2; have := (hz_22).1; have := (hz_22).2; omega)) ((CHR_k hch ((show KS [4, 5, 6, 9, 10, 11] sg_j42 sgv_21 from (KS_tr (L := [4, 5, 6, 9, 10, 11]) KS_rf ksv_21 (by decide))) 8 (by decide)) ((show KS [11, 12, 13, 14, 15, 16, 17, 18, 19, 20, 21, 22, 23, 24, 25, 26, 27, 44, 45, 46, 56] gm_j42 gmv_21 from (KS_tr (L := [11, 12, 13, 14, 15, 16, 17, 18, 19, 20, 21, 22, 23, 24, 25, 26, 27, 44, 45, 46, 56]) KS_rf kgv_21 (by decide))) 43 (by decide)))) (f6_r_17) ((by obtain ⟨D2, c2, d2, y1, y2, y3, y4⟩ := fT_r_17; omega)) ((by obtain ⟨D2, c2, d2, y1, y2, y3, y4⟩ := fT_r_17; have := sSt_lt y1; have := tz_22; have := i32_0; have := i32_1; have := i32_2; have := i32_m1; have := (show iv 0 80 (sgv_21 4) from CI_s hIv_21 4).1; have := (show iv 0 80 (sgv_21 4) from CI_s hIv_21 4).2; have := (show iv 0 80 (sg_j42 4) from CI_s hI_j42 4).1; have := (show iv 0 80 (sg_j42 4) from CI_s hI_j42 4).2; have := (show iv 0 80 (sg 4) from CI_s hI 4).1; have := (show iv 0 80 (sg 4) from CI_s hI 4).2; have := (show iv 0 240 (sgv_21 5) from CI_s hIv_21 5).1; have := (show iv 0 240 (sgv_21 5) from CI_s hIv_21 5).2; have := (show iv 0 240 (sg_j42 5) from CI_s hI_j42 5).1; have := (show iv 0 240 (sg_j42 5) from CI_s hI_j42 5).2; have := (show iv 0 240 (sg 5) from CI_s hI 5).1; have := (show iv 0 240 (sg 5) from CI_s hI 5).2; have := (show iv 0 1200 (sgv_21 6) from CI_s hIv_21 6).1; have := (show iv 0 1200 (sgv_21 6) from CI_s hIv_21 6).2; have := (show iv 0 1200 (sg_j42 6) from CI_s hI_j42 6).1; have := (show iv 0 1200 (sg_j42 6) from CI_s hI_j42 6).2; have := (show iv 0 1200 (sg 6) from CI_s hI 6).1; have := (show iv 0 1200 (sg 6) from CI_s hI 6).2; have := congrArg Int32.toInt (show sgv_21 7 = sg_j42 7 from ksv_21 7 (by decide)); have := (show iv (-1) 0 (sg_j42 7) from CI_s hI_j42 7).1; have := (show iv (-1) 0 (sg_j42 7) from CI_s hI_j42 7).2; have := (show iv (-1) 0 (sg 7) from CI_s hI 7).1; have := (show iv (-1) 0 (sg 7) from CI_s hI 7).2; have := congrArg Int32.toInt (show sgv_21 8 = sg_j42 8 from ksv_21 8 (by decide)); have := (show iv 0 1200 (sg_j42 8) from CI_s hI_j42 8).1; have := (show iv 0 1200 (sg_j42 8) from CI_s hI_j42 8).2; have := (show iv 0 1200 (sg 8) from CI_s hI 8).1; have := (show iv 0 1200 (sg 8) from CI_s hI 8).2; have := (show iv 0 1201 (sgv_21 9) from CI_s hIv_21 9).1; have := (show iv 0 1201 (sgv_21 9) from CI_s hIv_21 9).2; have := (show iv 0 1201 (sg_j42 9) from CI_s hI_j42 9).1; have := (show iv 0 1201 (sg_j42 9) from CI_s hI_j42 9).2; have := (show iv 0 1201 (sg 9) from CI_s hI 9).1; have := (show iv 0 1201 (sg 9) from CI_s hI 9).2; have := (show iv (-1201) 6 (sgv_21 10) from CI_s hIv_21 10).1; have := (show iv (-1201) 6 (sgv_21 10) from CI_s hIv_21 10).2; have := (show iv (-1201) 6 (sg_j42 10) from CI_s hI_j42 10).1; have := (show iv (-1201) 6 (sg_j42 10) from CI_s hI_j42 10).2; have := (show iv (-1201) 6 (sg 10) from CI_s hI 10).1; have := (show iv (-1201) 6 (sg 10) from CI_s hI 10).2; have := (show iv (-1) 79 (sgv_21 11) from CI_s hIv_21 11).1; have := (show iv (-1) 79 (sgv_21 11) from CI_s hIv_21 11).2; have := (show iv (-1) 79 (sg_j42 11) from CI_s hI_j42 11).1; have := (show iv (-1) 79 (sg_j42 11) from CI_s hI_j42 11).2; have := (show iv (-1) 79 (sg 11) from CI_s hI 11).1; have := (show iv (-1) 79 (sg 11) from CI_s hI 11).2; have := (show iv 0 80 (sg_j42 4) from CI_s hI_j42 4).1; have := (show iv 0 80 (sg_j42 4) from CI_s hI_j42 4).2; have := (show iv 0 240 (sg_j42 5) from CI_s hI_j42 5).1; have := (show iv 0 240 (sg_j42 5) from CI_s hI_j42 5).2; have := (show iv 0 1200 (sg_j42 6) from CI_s hI_j42 6).1; have := (show iv 0 1200 (sg_j42 6) from CI_s hI_j42 6).2; have := (show iv (-1) 0 (sg_j42 7) from CI_s hI_j42 7).1; have := (show iv (-1) 0 (sg_j42 7) from CI_s hI_j42 7).2; have := (show iv 0 1200 (sg_j42 8) from CI_s hI_j42 8).1; have := (show iv 0 1200 (sg_j42 8) from CI_s hI_j42 8).2; have := (show iv 0 1201 (sg_j42 9) from CI_s hI_j42 9).1; have := (show iv 0 1201 (sg_j42 9) from CI_s hI_j42 9).2; have := (show iv (-1201) 6 (sg_j42 10) from CI_s hI_j42 10).1; have := (show iv (-1201) 6 (sg_j42 10) from CI_s hI_j42 10).2; have := (show iv (-1) 79 (sg_j42 11) from CI_s hI_j42 11).1; have := (show iv (-1) 79 (sg_j42 11) from CI_s hI_j42 11).2; have := (hsx0_42).1; have := (hsx0_42).2; have := (hsx1_42).1; have := (hsx1_42).2; have := (hsx2_42).1; have := (hsx2_42).2; have := (h_13).1; have := (h_13).2; have := ((show iv 0 1200 (sg_j42 8) from CI_s hI_j42 8)).1; have := ((show iv 0 1200 (sg_j42 8) from CI_s hI_j42 8)).2; have := (h_16).1; have := (h_16).2; have := (hz_22).1; have := (hz_22).2; have := (show iv 0 1201 (sgv_21 9) from CI_s hIv_21 9).1; have := (show iv 0 1201 (sgv_21 9) from CI_s hIv_21 9).2; have := (show iv 0 1201 (sg_j42 9) from CI_s hI_j42 9).1; have := (show iv 0 1201 (sg_j42 9) from CI_s hI_j42 9).2; have := (show iv 0 1201 (sg 9) from CI_s hI 9).1; have := (show iv 0 1201 (sg 9) from CI_s hI 9).2; have := ust; omega)) ((by obtain ⟨D2, c2, d2, y1, y2, y3, y4⟩ := fT_r_17; exact ⟨D2, y2, (by rw [show (sgv_21 10).toInt.toNat = d2 from (by omega), y3]; exact DOI_s (CHR_n (CHR_k hch ((show KS [4, 5, 6, 9, 10, 11] sg_j42 sgv_21 from (KS_tr (L := [4, 5, 6, 9, 10, 11]) KS_rf ksv_21 (by decide))) 8 (by decide)) ((show KS [11, 12, 13, 14, 15, 16, 17, 18, 19, 20, 21, 22, 23, 24, 25, 26, 27, 44, 45, 46, 56] gm_j42 gmv_21 from (KS_tr (L := [11, 12, 13, 14, 15, 16, 17, 18, 19, 20, 21, 22, 23, 24, 25, 26, 27, 44, 45, 46, 56]) KS_rf kgv_21 (by decide))) 43 (by decide)))) hT9 (by have := hd1; omega) y1), (by rw [show (sgv_21 10).toInt.toNat = d2 from (by omega), y3]; exact LVD_s y1 hL9 (by have := hd1; omega))⟩)) hm_23 _ _ _ hP hD hS (lv_sub hl [0, 1, 2, 3] rfl)
  refine ec_aload_n hx hb dX7_firstWrongPlace_0 rfl (lv_at hl 0 rfl) ?_
  refine ec_aload_n hx hb dX7_firstWrongPlace_1 rfl (lv_at hl 1 rfl) ?_
  refine cr_puts (t := 2) (j := 1) (C := RX7) (T := TX7) (N := 6) (ty0 := tyX7) (k := 7) (y := tx) hx hb htb inX7 tyX7_ok nmX7 hown hK hP hD hS hvx (by decide) (by decide) (by decide) (by decide) rfl rfl rfl (by decide) (htb _ kw_313) rfl (by show eV (ad 13) tx = eV (ad 13) (va_up sg 7 tx 7); rw [va_up_self]) (ev_na _) (ev_fa _) dX7_firstWrongPlace_2 (fun sg_24 H locs esg_24 hP hD hS => ?_)
  have hI_sg_24 := CI_put hI esg_24 hvtx (by decide)
  refine ec_aload_n hx hb dX7_firstWrongPlace_5 rfl (lv_at hl 0 rfl) ?_
  refine lv_iload_n hx hb dX7_firstWrongPlace_6 rfl (lv_at hl 2 rfl) ?_
  refine cr_puts (t := 2) (j := 2) (C := RX7) (T := TX7) (N := 6) (ty0 := tyX7) (k := 8) (y := ln) hx hb htb inX7 tyX7_ok nmX7 hown hK hP hD hS hvx (by decide) (by decide) (by decide) (by decide) rfl rfl rfl (by decide) (htb _ kw_314) rfl (by show Value.int ln = Value.int (va_up sg_24 8 ln 8); rw [va_up_self]) rfl rfl dX7_firstWrongPlace_7 (fun sg_25 H locs esg_25 hP hD hS => ?_)
  have hI_sg_25 := CI_put hI_sg_24 esg_25 hvln (by decide)
  refine ec_aload_n hx hb dX7_firstWrongPlace_10 rfl (lv_at hl 0 rfl) ?_
  refine lv_iconst (v := 0) hx hb dX7_firstWrongPlace_11 (by decide) ?_
  refine cr_puts (t := 2) (j := 3) (C := RX7) (T := TX7) (N := 6) (ty0 := tyX7) (k := 9) (y := 0) hx hb htb inX7 tyX7_ok nmX7 hown hK hP hD hS hvx (by decide) (by decide) (by decide) (by decide) rfl rfl rfl (by decide) (htb _ kw_315) rfl (by show Value.int 0 = Value.int (va_up sg_25 9 0 9); rw [va_up_self]) rfl rfl dX7_firstWrongPlace_12 (fun sg_26 H locs esg_26 hP hD hS => ?_)
  have hI_sg_26 := CI_put hI_sg_25 esg_26 (iv_k (by decide) : iv 0 0 0) (by decide)
  refine ec_aload_n hx hb dX7_firstWrongPlace_15 rfl (lv_at hl 0 rfl) ?_
  refine lv_iconst (v := 0) hx hb dX7_firstWrongPlace_16 (by decide) ?_
  refine cr_puts (t := 2) (j := 4) (C := RX7) (T := TX7) (N := 6) (ty0 := tyX7) (k := 10) (y := 0) hx hb htb inX7 tyX7_ok nmX7 hown hK hP hD hS hvx (by decide) (by decide) (by decide) (by decide) rfl rfl rfl (by decide) (htb _ kw_316) rfl (by show Value.int 0 = Value.int (va_up sg_26 10 0 10); rw [va_up_self]) rfl rfl dX7_firstWrongPlace_17 (fun sg_27 H locs esg_27 hP hD hS => ?_)
  have hI_sg_27 := CI_put hI_sg_26 esg_27 (iv_k (by decide) : iv 0 0 0) (by decide)
  refine ec_aload_n hx hb dX7_firstWrongPlace_20 rfl (lv_at hl 0 rfl) ?_
  refine ec_null (a := ad 9) hx hb dX7_firstWrongPlace_21 ?_
  refine cr_puts (t := 2) (j := 5) (C := RX7) (T := TX7) (N := 6) (ty0 := tyX7) (k := 11) (y := (-1)) hx hb htb inX7 tyX7_ok nmX7 hown hK hP hD hS hvx (by decide) (by decide) (by decide) (by decide) rfl rfl rfl (by decide) (htb _ kw_317) rfl (by show eV (ad 9) (-1) = eV (ad 9) (va_up sg_27 11 (-1) 11); rw [va_up_self]) (ev_n _) (ev_f _) dX7_firstWrongPlace_22 (fun sg_28 H locs esg_28 hP hD hS => ?_)
  have hI_sg_28 := CI_put hI_sg_27 esg_28 (iv_k (by decide) : iv (-1) (-1) (-1)) (by decide)
  refine ec_aload_n hx hb dX7_firstWrongPlace_25 rfl (lv_at hl 0 rfl) ?_
  refine cr_get (t := 2) (j := 0) (C := RX7) (T := TX7) (N := 6) (v := eV (ad 1) 0) hx hb htb inX7 hown hK hP hvx (by decide) (by decide) (by decide) rfl (by decide) (htb _ kw_312) (cV_c rfl (by decide) (by rw [show cMu 2 0 = 0 from rfl, Nat.zero_mul]; rfl)) dX7_firstWrongPlace_26 ?_
  refine cm_callTV (t := 1) (C := RX6) (T := TX6) (N := 8) (rest := []) (as := []) ⟨hx, hb, hml, hown, htb⟩ (d_clearPa l dC dI ad cid a2 lx sg_28 gm lg 0 hI_sg_28 (iv_k (by decide) : iv 0 0 0)) (cwV 0 htb (gd_V kw_548 kw_549 kw_550 kw_149 kw_1424) rfl rfl rfl (by decide +kernel) ⟨Nat.le_of_ble_eq_true rfl, Nat.le_of_ble_eq_true rfl⟩) (iv_k (by decide) : iv 0 0 0) (by decide) (by decide) rfl rfl hl.1 rfl (Nat.le_trans cs_n (by decide)) dX7_firstWrongPlace_29 ⟨Nat.le_trans (gc_le hI) (Nat.le_of_ble_eq_true rfl), Nat.le_trans (gs_le hI) (Nat.le_of_ble_eq_true rfl)⟩ hK hP hD hS hA hG (fun E ce q9 u_30 H locs hw hP hD hS hce hcv hcl => ?_) (fun v9 u_30 H locs hw hP hD hS => ?_)
  · exact hw.elim
  obtain ⟨rfl, sgv_31, gmv_31, lgv_31, rfl, hIv_31, ksv_31, kgv_31, klv_31, fz_r_29⟩ := hw
  obtain rfl := KS_nil kgv_31
  obtain rfl := KS_nil klv_31
  have hP : va_P (dC, dI) vwCl (cW ad cid a2 lx sgv_31 gm lg) H := hP
  have hD : va_D A (cW ad cid a2 lx sgv_31 gm lg) := hD
  refine W.eq (g2 := F0 m 32 ls []) rfl ?_
  have hRD : RDI sgv_31 gm := RDI_0 fz_r_29.1 fz_r_29.2.1 (by have := fz_r_29; have := i32_0; have := i32_1; have := i32_2; have := i32_m1; have := congrArg Int32.toInt (show sgv_31 11 = sg_28 11 from ksv_31 11 (by decide)); have : (sg_28 11).toInt = -1 := (by rw [up_at esg_28]; rfl); have := (hvx).1; have := (hvx).2; have := (hvtx).1; have := (hvtx).2; have := (hvln).1; have := (hvln).2; omega)
  have hT : 0 ≤ (sgv_31 7).toInt := by have := i32_0; have := i32_1; have := i32_2; have := i32_m1; have := congrArg Int32.toInt (show sgv_31 7 = sg_28 7 from ksv_31 7 (by decide)); have := congrArg Int32.toInt (show sg_28 7 = sg_27 7 from up_ne esg_28 (by decide)); have := congrArg Int32.toInt (show sg_27 7 = sg_26 7 from up_ne esg_27 (by decide)); have := congrArg Int32.toInt (show sg_26 7 = sg_25 7 from up_ne esg_26 (by decide)); have := congrArg Int32.toInt (show sg_25 7 = sg_24 7 from up_ne esg_25 (by decide)); have := congrArg Int32.toInt (show sg_24 7 = tx from up_at esg_24); have := (hvx).1; have := (hvx).2; have := (hvtx).1; have := (hvtx).2; have := (hvln).1; have := (hvln).2; omega
  have h5z : (sgv_31 5).toInt = 0 := fz_r_29.2.1
  have hch : CHR ch N9 (sgv_31 8) (gm 43) := CHR_k hch0 (Eq.trans ((show KS [4, 5, 6, 9, 10, 11] sg_25 sgv_31 from (KS_tr (L := [4, 5, 6, 9, 10, 11]) (KS_up (KS_up (KS_up KS_rf esg_26 (by decide)) esg_27 (by decide)) esg_28 (by decide)) ksv_31 (by decide))) 8 (by decide)) (up_at esg_25)) rfl
  have hz6 : (sgv_31 6).toInt = 0 := fz_r_29.2.2
  have hz4 : (sgv_31 4).toInt = 0 := fz_r_29.1
  refine ec_aload_n hx hb dX7_firstWrongPlace_32 rfl (lv_at hl 0 rfl) ?_
  refine cm_callTV (t := 2) (C := RX7) (T := TX7) (N := 6) (rest := []) (as := []) ⟨hx, hb, hml, hown, htb⟩ (d_skipAround2 l dC dI ad cid a2 lx sgv_31 gm lg hl9 x ch N9 hIv_31 hvx (by have := i32_0; have := i32_1; have := i32_2; have := i32_m1; have := congrArg Int32.toInt (show sgv_31 7 = sg_28 7 from ksv_31 7 (by decide)); have := congrArg Int32.toInt (show sg_28 7 = sg_27 7 from up_ne esg_28 (by decide)); have := congrArg Int32.toInt (show sg_27 7 = sg_26 7 from up_ne esg_27 (by decide)); have := congrArg Int32.toInt (show sg_26 7 = sg_25 7 from up_ne esg_26 (by decide)); have := congrArg Int32.toInt (show sg_25 7 = sg_24 7 from up_ne esg_25 (by decide)); have := congrArg Int32.toInt (show sg_24 7 = tx from up_at esg_24); have := (hvx).1; have := (hvx).2; have := (hvtx).1; have := (hvtx).2; have := (hvln).1; have := (hvln).2; omega) (by have := i32_0; have := i32_1; have := i32_2; have := i32_m1; have := (show iv 0 80 (sgv_31 4) from CI_s hIv_31 4).1; have := (show iv 0 80 (sgv_31 4) from CI_s hIv_31 4).2; have := congrArg Int32.toInt (show sg_28 4 = sg_27 4 from up_ne esg_28 (by decide)); have := congrArg Int32.toInt (show sg_27 4 = sg_26 4 from up_ne esg_27 (by decide)); have := congrArg Int32.toInt (show sg_26 4 = sg_25 4 from up_ne esg_26 (by decide)); have := congrArg Int32.toInt (show sg_25 4 = sg_24 4 from up_ne esg_25 (by decide)); have := congrArg Int32.toInt (show sg_24 4 = sg 4 from up_ne esg_24 (by decide)); have := (show iv 0 80 (sg 4) from CI_s hI 4).1; have := (show iv 0 80 (sg 4) from CI_s hI 4).2; have := (show iv 0 240 (sgv_31 5) from CI_s hIv_31 5).1; have := (show iv 0 240 (sgv_31 5) from CI_s hIv_31 5).2; have := congrArg Int32.toInt (show sg_28 5 = sg_27 5 from up_ne esg_28 (by decide)); have := congrArg Int32.toInt (show sg_27 5 = sg_26 5 from up_ne esg_27 (by decide)); have := congrArg Int32.toInt (show sg_26 5 = sg_25 5 from up_ne esg_26 (by decide)); have := congrArg Int32.toInt (show sg_25 5 = sg_24 5 from up_ne esg_25 (by decide)); have := congrArg Int32.toInt (show sg_24 5 = sg 5 from up_ne esg_24 (by decide)); have := (show iv 0 240 (sg 5) from CI_s hI 5).1; have := (show iv 0 240 (sg 5) from CI_s hI 5).2; have := (show iv 0 1200 (sgv_31 6) from CI_s hIv_31 6).1; have := (show iv 0 1200 (sgv_31 6) from CI_s hIv_31 6).2; have := congrArg Int32.toInt (show sg_28 6 = sg_27 6 from up_ne esg_28 (by decide)); have := congrArg Int32.toInt (show sg_27 6 = sg_26 6 from up_ne esg_27 (by decide)); have := congrArg Int32.toInt (show sg_26 6 = sg_25 6 from up_ne esg_26 (by decide)); have := congrArg Int32.toInt (show sg_25 6 = sg_24 6 from up_ne esg_25 (by decide)); have := congrArg Int32.toInt (show sg_24 6 = sg 6 from up_ne esg_24 (by decide)); have := (show iv 0 1200 (sg 6) from CI_s hI 6).1; have := (show iv 0 1200 (sg 6) from CI_s hI 6).2; have := congrArg Int32.toInt (show sgv_31 7 = sg_28 7 from ksv_31 7 (by decide)); have := congrArg Int32.toInt (show sg_28 7 = sg_27 7 from up_ne esg_28 (by decide)); have := congrArg Int32.toInt (show sg_27 7 = sg_26 7 from up_ne esg_27 (by decide)); have := congrArg Int32.toInt (show sg_26 7 = sg_25 7 from up_ne esg_26 (by decide)); have := congrArg Int32.toInt (show sg_25 7 = sg_24 7 from up_ne esg_25 (by decide)); have := congrArg Int32.toInt (show sg_24 7 = tx from up_at esg_24); have := congrArg Int32.toInt (show sgv_31 8 = sg_28 8 from ksv_31 8 (by decide)); have := congrArg Int32.toInt (show sg_28 8 = sg_27 8 from up_ne esg_28 (by decide)); have := congrArg Int32.toInt (show sg_27 8 = sg_26 8 from up_ne esg_27 (by decide)); have := congrArg Int32.toInt (show sg_26 8 = sg_25 8 from up_ne esg_26 (by decide)); have := congrArg Int32.toInt (show sg_25 8 = ln from up_at esg_25); have := (hvln).1; have := (hvln).2; have := congrArg Int32.toInt (show sgv_31 9 = sg_28 9 from ksv_31 9 (by decide)); have := congrArg Int32.toInt (show sg_28 9 = sg_27 9 from up_ne esg_28 (by decide)); have := congrArg Int32.toInt (show sg_27 9 = sg_26 9 from up_ne esg_27 (by decide)); have : (sg_26 9).toInt = 0 := (by rw [up_at esg_26]; rfl); have := congrArg Int32.toInt (show sgv_31 10 = sg_28 10 from ksv_31 10 (by decide)); have := congrArg Int32.toInt (show sg_28 10 = sg_27 10 from up_ne esg_28 (by decide)); have : (sg_27 10).toInt = 0 := (by rw [up_at esg_27]; rfl); have := congrArg Int32.toInt (show sgv_31 11 = sg_28 11 from ksv_31 11 (by decide)); have : (sg_28 11).toInt = -1 := (by rw [up_at esg_28]; rfl); have := (hvx).1; have := (hvx).2; have := (hvtx).1; have := (hvtx).2; omega) (CHR_k hch rfl rfl)) (cwV 0 htb (gd_V kw_551 kw_552 kw_3 kw_151 kw_1425) rfl rfl rfl (by decide +kernel) ⟨Nat.le_of_ble_eq_true rfl, Nat.le_of_ble_eq_true rfl⟩) hvx (by decide) (by decide) rfl rfl hl.1 rfl (Nat.le_trans cs_n (by decide)) dX7_firstWrongPlace_33 ⟨Nat.le_trans (gc_le hI) (Nat.le_of_ble_eq_true rfl), Nat.le_trans (gs_le hI) (Nat.le_of_ble_eq_true rfl)⟩ hK hP hD hS hA hG (fun E ce q9 u_33 H locs hw hP hD hS hce hcv hcl => ?_) (fun v9 u_33 H locs hw hP hD hS => ?_)
  · obtain ⟨hE, hw⟩ := hw
    obtain ⟨sgv_34, gmv_34, lgv_34, rfl, hIv_34, ksv_34, kgv_34, klv_34, xB_v_34⟩ := hw
    obtain rfl := KS_nil kgv_34
    obtain rfl := KS_nil klv_34
    have hP : va_P (dC, dI) vwCl (cW ad cid a2 lx sgv_34 gm lg) H := hP
    have hD : va_D A (cW ad cid a2 lx sgv_34 gm lg) := hD
    refine vx_widen (k := gc gm gm 1) (n := gs gm gm 1) (by unfold gc; omega) (by unfold gs; omega) ?_
    subst hE
    refine mc_catch (own := RX7) (name := "java/lang/IllegalArgumentException") hown ⟨32, 75, 78, 50⟩ [] hxt (by decide) (by decide) (htb _ kw_547) (va_Nw.use rfl hG.1.2.1.1) hce hcv hcl ?_
    refine lv_astore_n (i := 3) (lv' := [(3, .ref q9), (0, eV (ad 2) x), (1, eV (ad 13) tx), (2, .int ln)]) hx hb dX7_firstWrongPlace_78 rfl hl (by decide) rfl (fun ls hl => ?_)
    refine ec_aload_n hx hb dX7_firstWrongPlace_79 rfl (lv_at hl 1 rfl) ?_
    refine cr_get (t := 2) (j := 3) (C := RX7) (T := TX7) (N := 6) (v := .int (sgv_34 9)) hx hb htb inX7 hown hK hP hvx (by decide) (by decide) (by decide) rfl (by decide) (htb _ kw_315) rfl dX7_firstWrongPlace_80 ?_
    exact W.nb (fun hN => W.widen (k := 30481) (n := 121926) (Nat.le_trans (gc_l0 (gm := gm) (k := 1) hI) (Nat.le_of_ble_eq_true rfl)) (Nat.le_trans (gs_l0 (gm := gm) (k := 1) hI) (Nat.le_of_ble_eq_true rfl)) (vx_ret (W.iret (v := (sgv_34 9)) hx hb hr (fun t ht hW => ⟨⟨some (.int (sgv_34 9)), (a2, lx, sgv_34, gm, lg), rfl, ⟨(sgv_34 9), rfl, sgv_34, gm, lg, rfl, hIv_34, (KS_tr (L := [4, 5, 6, 7, 8, 9, 10, 11]) (KS_tr (L := [4, 5, 6, 7, 8, 9, 10, 11]) (KS_up (KS_up (KS_up (KS_up (KS_up KS_rf esg_24 (by decide)) esg_25 (by decide)) esg_26 (by decide)) esg_27 (by decide)) esg_28 (by decide)) ksv_31 (by decide)) ksv_34 (by decide)), KS_rf, KS_rf, (iv_w (show iv 0 1201 (sgv_34 9) from CI_s hIv_34 9) (by decide)), (UB_k hU12 rfl (by have := i32_0; have := i32_1; have := i32_2; have := i32_m1; have := (hvx).1; have := (hvx).2; have := (hvtx).1; have := (hvtx).2; have := (hvln).1; have := (hvln).2; have := ((show iv 0 1201 (sgv_34 9) from CI_s hIv_34 9)).1; have := ((show iv 0 1201 (sgv_34 9) from CI_s hIv_34 9)).2; omega)), (UB_k hU18 rfl (by have := i32_0; have := i32_1; have := i32_2; have := i32_m1; have := (hvx).1; have := (hvx).2; have := (hvtx).1; have := (hvtx).2; have := (hvln).1; have := (hvln).2; have := ((show iv 0 1201 (sgv_34 9) from CI_s hIv_34 9)).1; have := ((show iv 0 1201 (sgv_34 9) from CI_s hIv_34 9)).2; omega)), (fun q9 => absurd q9 (by have := i32_0; have := i32_1; have := i32_2; have := i32_m1; have := (show iv 0 1201 (sgv_34 9) from CI_s hIv_34 9).1; have := (show iv 0 1201 (sgv_34 9) from CI_s hIv_34 9).2; have := congrArg Int32.toInt (show sgv_31 9 = sg_28 9 from ksv_31 9 (by decide)); have := congrArg Int32.toInt (show sg_28 9 = sg_27 9 from up_ne esg_28 (by decide)); have := congrArg Int32.toInt (show sg_27 9 = sg_26 9 from up_ne esg_27 (by decide)); have : (sg_26 9).toInt = 0 := (by rw [up_at esg_26]; rfl); have := (hvx).1; have := (hvx).2; have := (hvtx).1; have := (hvtx).2; have := (hvln).1; have := (hvln).2; have := ((show iv 0 1201 (sgv_34 9) from CI_s hIv_34 9)).1; have := ((show iv 0 1201 (sgv_34 9) from CI_s hIv_34 9)).2; omega)), (Or.inr ⟨(by have := i32_0; have := i32_1; have := i32_2; have := i32_m1; have := (show iv 0 1201 (sgv_34 9) from CI_s hIv_34 9).1; have := (show iv 0 1201 (sgv_34 9) from CI_s hIv_34 9).2; have := congrArg Int32.toInt (show sgv_31 9 = sg_28 9 from ksv_31 9 (by decide)); have := congrArg Int32.toInt (show sg_28 9 = sg_27 9 from up_ne esg_28 (by decide)); have := congrArg Int32.toInt (show sg_27 9 = sg_26 9 from up_ne esg_27 (by decide)); have : (sg_26 9).toInt = 0 := (by rw [up_at esg_26]; rfl); have := (hvx).1; have := (hvx).2; have := (hvtx).1; have := (hvtx).2; have := (hvln).1; have := (hvln).2; have := ((show iv 0 1201 (sgv_34 9) from CI_s hIv_34 9)).1; have := ((show iv 0 1201 (sgv_34 9) from CI_s hIv_34 9)).2; omega), sDoc_n (by have q := xB_v_34; rw [show (sgv_31 9).toInt.toNat = 0 from (by have := i32_0; have := i32_1; have := i32_2; have := i32_m1; have := congrArg Int32.toInt (show sgv_34 4 = sgv_31 4 from ksv_34 4 (by decide)); have := (show iv 0 80 (sgv_31 4) from CI_s hIv_31 4).1; have := (show iv 0 80 (sgv_31 4) from CI_s hIv_31 4).2; have := congrArg Int32.toInt (show sg_28 4 = sg_27 4 from up_ne esg_28 (by decide)); have := congrArg Int32.toInt (show sg_27 4 = sg_26 4 from up_ne esg_27 (by decide)); have := congrArg Int32.toInt (show sg_26 4 = sg_25 4 from up_ne esg_26 (by decide)); have := congrArg Int32.toInt (show sg_25 4 = sg_24 4 from up_ne esg_25 (by decide)); have := congrArg Int32.toInt (show sg_24 4 = sg 4 from up_ne esg_24 (by decide)); have := (show iv 0 80 (sg 4) from CI_s hI 4).1; have := (show iv 0 80 (sg 4) from CI_s hI 4).2; have := congrArg Int32.toInt (show sgv_34 5 = sgv_31 5 from ksv_34 5 (by decide)); have := (show iv 0 240 (sgv_31 5) from CI_s hIv_31 5).1; have := (show iv 0 240 (sgv_31 5) from CI_s hIv_31 5).2; have := congrArg Int32.toInt (show sg_28 5 = sg_27 5 from up_ne esg_28 (by decide)); have := congrArg Int32.toInt (show sg_27 5 = sg_26 5 from up_ne esg_27 (by decide)); have := congrArg Int32.toInt (show sg_26 5 = sg_25 5 from up_ne esg_26 (by decide)); have := congrArg Int32.toInt (show sg_25 5 = sg_24 5 from up_ne esg_25 (by decide)); have := congrArg Int32.toInt (show sg_24 5 = sg 5 from up_ne esg_24 (by decide)); have := (show iv 0 240 (sg 5) from CI_s hI 5).1; have := (show iv 0 240 (sg 5) from CI_s hI 5).2; have := congrArg Int32.toInt (show sgv_34 6 = sgv_31 6 from ksv_34 6 (by decide)); have := (show iv 0 1200 (sgv_31 6) from CI_s hIv_31 6).1; have := (show iv 0 1200 (sgv_31 6) from CI_s hIv_31 6).2; have := congrArg Int32.toInt (show sg_28 6 = sg_27 6 from up_ne esg_28 (by decide)); have := congrArg Int32.toInt (show sg_27 6 = sg_26 6 from up_ne esg_27 (by decide)); have := congrArg Int32.toInt (show sg_26 6 = sg_25 6 from up_ne esg_26 (by decide)); have := congrArg Int32.toInt (show sg_25 6 = sg_24 6 from up_ne esg_25 (by decide)); have := congrArg Int32.toInt (show sg_24 6 = sg 6 from up_ne esg_24 (by decide)); have := (show iv 0 1200 (sg 6) from CI_s hI 6).1; have := (show iv 0 1200 (sg 6) from CI_s hI 6).2; have := congrArg Int32.toInt (show sgv_34 7 = sgv_31 7 from ksv_34 7 (by decide)); have := congrArg Int32.toInt (show sgv_31 7 = sg_28 7 from ksv_31 7 (by decide)); have := congrArg Int32.toInt (show sg_28 7 = sg_27 7 from up_ne esg_28 (by decide)); have := congrArg Int32.toInt (show sg_27 7 = sg_26 7 from up_ne esg_27 (by decide)); have := congrArg Int32.toInt (show sg_26 7 = sg_25 7 from up_ne esg_26 (by decide)); have := congrArg Int32.toInt (show sg_25 7 = sg_24 7 from up_ne esg_25 (by decide)); have := congrArg Int32.toInt (show sg_24 7 = tx from up_at esg_24); have := congrArg Int32.toInt (show sgv_34 8 = sgv_31 8 from ksv_34 8 (by decide)); have := congrArg Int32.toInt (show sgv_31 8 = sg_28 8 from ksv_31 8 (by decide)); have := congrArg Int32.toInt (show sg_28 8 = sg_27 8 from up_ne esg_28 (by decide)); have := congrArg Int32.toInt (show sg_27 8 = sg_26 8 from up_ne esg_27 (by decide)); have := congrArg Int32.toInt (show sg_26 8 = sg_25 8 from up_ne esg_26 (by decide)); have := congrArg Int32.toInt (show sg_25 8 = ln from up_at esg_25); have := (hvln).1; have := (hvln).2; have := (show iv 0 1201 (sgv_34 9) from CI_s hIv_34 9).1; have := (show iv 0 1201 (sgv_34 9) from CI_s hIv_34 9).2; have := congrArg Int32.toInt (show sgv_31 9 = sg_28 9 from ksv_31 9 (by decide)); have := congrArg Int32.toInt (show sg_28 9 = sg_27 9 from up_ne esg_28 (by decide)); have := congrArg Int32.toInt (show sg_27 9 = sg_26 9 from up_ne esg_27 (by decide)); have : (sg_26 9).toInt = 0 := (by rw [up_at esg_26]; rfl); have := congrArg Int32.toInt (show sgv_34 10 = sgv_31 10 from ksv_34 10 (by decide)); have := congrArg Int32.toInt (show sgv_31 10 = sg_28 10 from ksv_31 10 (by decide)); have := congrArg Int32.toInt (show sg_28 10 = sg_27 10 from up_ne esg_28 (by decide)); have : (sg_27 10).toInt = 0 := (by rw [up_at esg_27]; rfl); have := congrArg Int32.toInt (show sgv_34 11 = sgv_31 11 from ksv_34 11 (by decide)); have := congrArg Int32.toInt (show sgv_31 11 = sg_28 11 from ksv_31 11 (by decide)); have : (sg_28 11).toInt = -1 := (by rw [up_at esg_28]; rfl); have := (hvx).1; have := (hvx).2; have := (hvtx).1; have := (hvtx).2; have := ((show iv 0 1201 (sgv_34 9) from CI_s hIv_34 9)).1; have := ((show iv 0 1201 (sgv_34 9) from CI_s hIv_34 9)).2; have := (show iv 0 1201 (sgv_34 9) from CI_s hIv_34 9).1; have := (show iv 0 1201 (sgv_34 9) from CI_s hIv_34 9).2; have := (show iv 0 1201 (sgv_31 9) from CI_s hIv_31 9).1; have := (show iv 0 1201 (sgv_31 9) from CI_s hIv_31 9).2; have := (show iv 0 1201 (sg_28 9) from CI_s hI_sg_28 9).1; have := (show iv 0 1201 (sg_28 9) from CI_s hI_sg_28 9).2; have := (show iv 0 1201 (sg_27 9) from CI_s hI_sg_27 9).1; have := (show iv 0 1201 (sg_27 9) from CI_s hI_sg_27 9).2; have := (show iv 0 1201 (sg_26 9) from CI_s hI_sg_26 9).1; have := (show iv 0 1201 (sg_26 9) from CI_s hI_sg_26 9).2; have := (show iv 0 1201 (sg_25 9) from CI_s hI_sg_25 9).1; have := (show iv 0 1201 (sg_25 9) from CI_s hI_sg_25 9).2; have := (show iv 0 1201 (sg_24 9) from CI_s hI_sg_24 9).1; have := (show iv 0 1201 (sg_24 9) from CI_s hI_sg_24 9).2; have := (show iv 0 1201 (sg 9) from CI_s hI 9).1; have := (show iv 0 1201 (sg 9) from CI_s hI 9).2; have := i32_0; have := i32_1; have := i32_2; have := i32_m1; have := congrArg Int32.toInt (show sgv_31 9 = sg_28 9 from ksv_31 9 (by decide)); have := congrArg Int32.toInt (show sg_28 9 = sg_27 9 from up_ne esg_28 (by decide)); have := congrArg Int32.toInt (show sg_27 9 = sg_26 9 from up_ne esg_27 (by decide)); have : (sg_26 9).toInt = 0 := (by rw [up_at esg_26]; rfl); have := (hvx).1; have := (hvx).2; have := (hvtx).1; have := (hvtx).2; have := (hvln).1; have := (hvln).2; have := ((show iv 0 1201 (sgv_34 9) from CI_s hIv_34 9)).1; have := ((show iv 0 1201 (sgv_34 9) from CI_s hIv_34 9)).2; omega)] at q; exact q)⟩)⟩, ⟨by rw [ht]; exact hP, va_K.moved hW.alike hK, hD⟩, (Nat.le_refl _), by rw [ht]; exact hN⟩, hS.F ht⟩) hS.2.2 dX7_firstWrongPlace_83)))
  obtain ⟨rfl, sgv_35, gmv_35, lgv_35, rfl, hIv_35, ksv_35, kgv_35, klv_35, fE_r_32, fB_r_32⟩ := hw
  obtain rfl := KS_nil kgv_35
  obtain rfl := KS_nil klv_35
  have hP : va_P (dC, dI) vwCl (cW ad cid a2 lx sgv_35 gm lg) H := hP
  have hD : va_D A (cW ad cid a2 lx sgv_35 gm lg) := hD
  refine W.eq (g2 := F0 m 36 ls []) rfl ?_
  refine ec_aload_n hx hb dX7_firstWrongPlace_36 rfl (lv_at hl 0 rfl) ?_
  refine cm_callTV (t := 2) (C := RX7) (T := TX7) (N := 6) (rest := []) (as := []) ⟨hx, hb, hml, hown, htb⟩ (d_openElement2 l dC dI ad cid a2 lx sgv_35 gm lg hl9 x ch N9 ([]) K9 hIv_35 hvx (by have := i32_0; have := i32_1; have := i32_2; have := i32_m1; have := congrArg Int32.toInt (show sgv_35 7 = sgv_31 7 from ksv_35 7 (by decide)); have := congrArg Int32.toInt (show sgv_31 7 = sg_28 7 from ksv_31 7 (by decide)); have := congrArg Int32.toInt (show sg_28 7 = sg_27 7 from up_ne esg_28 (by decide)); have := congrArg Int32.toInt (show sg_27 7 = sg_26 7 from up_ne esg_27 (by decide)); have := congrArg Int32.toInt (show sg_26 7 = sg_25 7 from up_ne esg_26 (by decide)); have := congrArg Int32.toInt (show sg_25 7 = sg_24 7 from up_ne esg_25 (by decide)); have := congrArg Int32.toInt (show sg_24 7 = tx from up_at esg_24); have := (hvx).1; have := (hvx).2; have := (hvtx).1; have := (hvtx).2; have := (hvln).1; have := (hvln).2; omega) (by have := i32_0; have := i32_1; have := i32_2; have := i32_m1; have := congrArg Int32.toInt (show sgv_35 4 = sgv_31 4 from ksv_35 4 (by decide)); have := (show iv 0 80 (sgv_31 4) from CI_s hIv_31 4).1; have := (show iv 0 80 (sgv_31 4) from CI_s hIv_31 4).2; have := congrArg Int32.toInt (show sg_28 4 = sg_27 4 from up_ne esg_28 (by decide)); have := congrArg Int32.toInt (show sg_27 4 = sg_26 4 from up_ne esg_27 (by decide)); have := congrArg Int32.toInt (show sg_26 4 = sg_25 4 from up_ne esg_26 (by decide)); have := congrArg Int32.toInt (show sg_25 4 = sg_24 4 from up_ne esg_25 (by decide)); have := congrArg Int32.toInt (show sg_24 4 = sg 4 from up_ne esg_24 (by decide)); have := (show iv 0 80 (sg 4) from CI_s hI 4).1; have := (show iv 0 80 (sg 4) from CI_s hI 4).2; have := congrArg Int32.toInt (show sgv_35 5 = sgv_31 5 from ksv_35 5 (by decide)); have := (show iv 0 240 (sgv_31 5) from CI_s hIv_31 5).1; have := (show iv 0 240 (sgv_31 5) from CI_s hIv_31 5).2; have := congrArg Int32.toInt (show sg_28 5 = sg_27 5 from up_ne esg_28 (by decide)); have := congrArg Int32.toInt (show sg_27 5 = sg_26 5 from up_ne esg_27 (by decide)); have := congrArg Int32.toInt (show sg_26 5 = sg_25 5 from up_ne esg_26 (by decide)); have := congrArg Int32.toInt (show sg_25 5 = sg_24 5 from up_ne esg_25 (by decide)); have := congrArg Int32.toInt (show sg_24 5 = sg 5 from up_ne esg_24 (by decide)); have := (show iv 0 240 (sg 5) from CI_s hI 5).1; have := (show iv 0 240 (sg 5) from CI_s hI 5).2; have := congrArg Int32.toInt (show sgv_35 6 = sgv_31 6 from ksv_35 6 (by decide)); have := (show iv 0 1200 (sgv_31 6) from CI_s hIv_31 6).1; have := (show iv 0 1200 (sgv_31 6) from CI_s hIv_31 6).2; have := congrArg Int32.toInt (show sg_28 6 = sg_27 6 from up_ne esg_28 (by decide)); have := congrArg Int32.toInt (show sg_27 6 = sg_26 6 from up_ne esg_27 (by decide)); have := congrArg Int32.toInt (show sg_26 6 = sg_25 6 from up_ne esg_26 (by decide)); have := congrArg Int32.toInt (show sg_25 6 = sg_24 6 from up_ne esg_25 (by decide)); have := congrArg Int32.toInt (show sg_24 6 = sg 6 from up_ne esg_24 (by decide)); have := (show iv 0 1200 (sg 6) from CI_s hI 6).1; have := (show iv 0 1200 (sg 6) from CI_s hI 6).2; have := congrArg Int32.toInt (show sgv_35 7 = sgv_31 7 from ksv_35 7 (by decide)); have := congrArg Int32.toInt (show sgv_31 7 = sg_28 7 from ksv_31 7 (by decide)); have := congrArg Int32.toInt (show sg_28 7 = sg_27 7 from up_ne esg_28 (by decide)); have := congrArg Int32.toInt (show sg_27 7 = sg_26 7 from up_ne esg_27 (by decide)); have := congrArg Int32.toInt (show sg_26 7 = sg_25 7 from up_ne esg_26 (by decide)); have := congrArg Int32.toInt (show sg_25 7 = sg_24 7 from up_ne esg_25 (by decide)); have := congrArg Int32.toInt (show sg_24 7 = tx from up_at esg_24); have := congrArg Int32.toInt (show sgv_35 8 = sgv_31 8 from ksv_35 8 (by decide)); have := congrArg Int32.toInt (show sgv_31 8 = sg_28 8 from ksv_31 8 (by decide)); have := congrArg Int32.toInt (show sg_28 8 = sg_27 8 from up_ne esg_28 (by decide)); have := congrArg Int32.toInt (show sg_27 8 = sg_26 8 from up_ne esg_27 (by decide)); have := congrArg Int32.toInt (show sg_26 8 = sg_25 8 from up_ne esg_26 (by decide)); have := congrArg Int32.toInt (show sg_25 8 = ln from up_at esg_25); have := (hvln).1; have := (hvln).2; have := (show iv 0 1201 (sgv_35 9) from CI_s hIv_35 9).1; have := (show iv 0 1201 (sgv_35 9) from CI_s hIv_35 9).2; have := congrArg Int32.toInt (show sgv_31 9 = sg_28 9 from ksv_31 9 (by decide)); have := congrArg Int32.toInt (show sg_28 9 = sg_27 9 from up_ne esg_28 (by decide)); have := congrArg Int32.toInt (show sg_27 9 = sg_26 9 from up_ne esg_27 (by decide)); have : (sg_26 9).toInt = 0 := (by rw [up_at esg_26]; rfl); have := congrArg Int32.toInt (show sgv_35 10 = sgv_31 10 from ksv_35 10 (by decide)); have := congrArg Int32.toInt (show sgv_31 10 = sg_28 10 from ksv_31 10 (by decide)); have := congrArg Int32.toInt (show sg_28 10 = sg_27 10 from up_ne esg_28 (by decide)); have : (sg_27 10).toInt = 0 := (by rw [up_at esg_27]; rfl); have := congrArg Int32.toInt (show sgv_35 11 = sgv_31 11 from ksv_35 11 (by decide)); have := congrArg Int32.toInt (show sgv_31 11 = sg_28 11 from ksv_31 11 (by decide)); have : (sg_28 11).toInt = -1 := (by rw [up_at esg_28]; rfl); have := (hvx).1; have := (hvx).2; have := (hvtx).1; have := (hvtx).2; omega) (RDI_k hRD (show KS [9] sgv_31 sgv_35 from (KS_tr (L := [9]) KS_rf ksv_35 (by decide))) (show KS [] gm gm from KS_rf) (by decide)) (by have := i32_0; have := i32_1; have := i32_2; have := i32_m1; have := congrArg Int32.toInt (show sgv_35 4 = sgv_31 4 from ksv_35 4 (by decide)); have := (show iv 0 80 (sgv_31 4) from CI_s hIv_31 4).1; have := (show iv 0 80 (sgv_31 4) from CI_s hIv_31 4).2; have := congrArg Int32.toInt (show sg_28 4 = sg_27 4 from up_ne esg_28 (by decide)); have := congrArg Int32.toInt (show sg_27 4 = sg_26 4 from up_ne esg_27 (by decide)); have := congrArg Int32.toInt (show sg_26 4 = sg_25 4 from up_ne esg_26 (by decide)); have := congrArg Int32.toInt (show sg_25 4 = sg_24 4 from up_ne esg_25 (by decide)); have := congrArg Int32.toInt (show sg_24 4 = sg 4 from up_ne esg_24 (by decide)); have := (show iv 0 80 (sg 4) from CI_s hI 4).1; have := (show iv 0 80 (sg 4) from CI_s hI 4).2; have := congrArg Int32.toInt (show sgv_35 5 = sgv_31 5 from ksv_35 5 (by decide)); have := (show iv 0 240 (sgv_31 5) from CI_s hIv_31 5).1; have := (show iv 0 240 (sgv_31 5) from CI_s hIv_31 5).2; have := congrArg Int32.toInt (show sg_28 5 = sg_27 5 from up_ne esg_28 (by decide)); have := congrArg Int32.toInt (show sg_27 5 = sg_26 5 from up_ne esg_27 (by decide)); have := congrArg Int32.toInt (show sg_26 5 = sg_25 5 from up_ne esg_26 (by decide)); have := congrArg Int32.toInt (show sg_25 5 = sg_24 5 from up_ne esg_25 (by decide)); have := congrArg Int32.toInt (show sg_24 5 = sg 5 from up_ne esg_24 (by decide)); have := (show iv 0 240 (sg 5) from CI_s hI 5).1; have := (show iv 0 240 (sg 5) from CI_s hI 5).2; have := congrArg Int32.toInt (show sgv_35 6 = sgv_31 6 from ksv_35 6 (by decide)); have := (show iv 0 1200 (sgv_31 6) from CI_s hIv_31 6).1; have := (show iv 0 1200 (sgv_31 6) from CI_s hIv_31 6).2; have := congrArg Int32.toInt (show sg_28 6 = sg_27 6 from up_ne esg_28 (by decide)); have := congrArg Int32.toInt (show sg_27 6 = sg_26 6 from up_ne esg_27 (by decide)); have := congrArg Int32.toInt (show sg_26 6 = sg_25 6 from up_ne esg_26 (by decide)); have := congrArg Int32.toInt (show sg_25 6 = sg_24 6 from up_ne esg_25 (by decide)); have := congrArg Int32.toInt (show sg_24 6 = sg 6 from up_ne esg_24 (by decide)); have := (show iv 0 1200 (sg 6) from CI_s hI 6).1; have := (show iv 0 1200 (sg 6) from CI_s hI 6).2; have := congrArg Int32.toInt (show sgv_35 7 = sgv_31 7 from ksv_35 7 (by decide)); have := congrArg Int32.toInt (show sgv_31 7 = sg_28 7 from ksv_31 7 (by decide)); have := congrArg Int32.toInt (show sg_28 7 = sg_27 7 from up_ne esg_28 (by decide)); have := congrArg Int32.toInt (show sg_27 7 = sg_26 7 from up_ne esg_27 (by decide)); have := congrArg Int32.toInt (show sg_26 7 = sg_25 7 from up_ne esg_26 (by decide)); have := congrArg Int32.toInt (show sg_25 7 = sg_24 7 from up_ne esg_25 (by decide)); have := congrArg Int32.toInt (show sg_24 7 = tx from up_at esg_24); have := congrArg Int32.toInt (show sgv_35 8 = sgv_31 8 from ksv_35 8 (by decide)); have := congrArg Int32.toInt (show sgv_31 8 = sg_28 8 from ksv_31 8 (by decide)); have := congrArg Int32.toInt (show sg_28 8 = sg_27 8 from up_ne esg_28 (by decide)); have := congrArg Int32.toInt (show sg_27 8 = sg_26 8 from up_ne esg_27 (by decide)); have := congrArg Int32.toInt (show sg_26 8 = sg_25 8 from up_ne esg_26 (by decide)); have := congrArg Int32.toInt (show sg_25 8 = ln from up_at esg_25); have := (hvln).1; have := (hvln).2; have := (show iv 0 1201 (sgv_35 9) from CI_s hIv_35 9).1; have := (show iv 0 1201 (sgv_35 9) from CI_s hIv_35 9).2; have := congrArg Int32.toInt (show sgv_31 9 = sg_28 9 from ksv_31 9 (by decide)); have := congrArg Int32.toInt (show sg_28 9 = sg_27 9 from up_ne esg_28 (by decide)); have := congrArg Int32.toInt (show sg_27 9 = sg_26 9 from up_ne esg_27 (by decide)); have : (sg_26 9).toInt = 0 := (by rw [up_at esg_26]; rfl); have := congrArg Int32.toInt (show sgv_35 10 = sgv_31 10 from ksv_35 10 (by decide)); have := congrArg Int32.toInt (show sgv_31 10 = sg_28 10 from ksv_31 10 (by decide)); have := congrArg Int32.toInt (show sg_28 10 = sg_27 10 from up_ne esg_28 (by decide)); have : (sg_27 10).toInt = 0 := (by rw [up_at esg_27]; rfl); have := congrArg Int32.toInt (show sgv_35 11 = sgv_31 11 from ksv_35 11 (by decide)); have := congrArg Int32.toInt (show sgv_31 11 = sg_28 11 from ksv_31 11 (by decide)); have : (sg_28 11).toInt = -1 := (by rw [up_at esg_28]; rfl); have := (hvx).1; have := (hvx).2; have := (hvtx).1; have := (hvtx).2; omega) (by have := i32_0; have := i32_1; have := i32_2; have := i32_m1; have := congrArg Int32.toInt (show sgv_35 4 = sgv_31 4 from ksv_35 4 (by decide)); have := (show iv 0 80 (sgv_31 4) from CI_s hIv_31 4).1; have := (show iv 0 80 (sgv_31 4) from CI_s hIv_31 4).2; have := congrArg Int32.toInt (show sg_28 4 = sg_27 4 from up_ne esg_28 (by decide)); have := congrArg Int32.toInt (show sg_27 4 = sg_26 4 from up_ne esg_27 (by decide)); have := congrArg Int32.toInt (show sg_26 4 = sg_25 4 from up_ne esg_26 (by decide)); have := congrArg Int32.toInt (show sg_25 4 = sg_24 4 from up_ne esg_25 (by decide)); have := congrArg Int32.toInt (show sg_24 4 = sg 4 from up_ne esg_24 (by decide)); have := (show iv 0 80 (sg 4) from CI_s hI 4).1; have := (show iv 0 80 (sg 4) from CI_s hI 4).2; have := congrArg Int32.toInt (show sgv_35 5 = sgv_31 5 from ksv_35 5 (by decide)); have := (show iv 0 240 (sgv_31 5) from CI_s hIv_31 5).1; have := (show iv 0 240 (sgv_31 5) from CI_s hIv_31 5).2; have := congrArg Int32.toInt (show sg_28 5 = sg_27 5 from up_ne esg_28 (by decide)); have := congrArg Int32.toInt (show sg_27 5 = sg_26 5 from up_ne esg_27 (by decide)); have := congrArg Int32.toInt (show sg_26 5 = sg_25 5 from up_ne esg_26 (by decide)); have := congrArg Int32.toInt (show sg_25 5 = sg_24 5 from up_ne esg_25 (by decide)); have := congrArg Int32.toInt (show sg_24 5 = sg 5 from up_ne esg_24 (by decide)); have := (show iv 0 240 (sg 5) from CI_s hI 5).1; have := (show iv 0 240 (sg 5) from CI_s hI 5).2; have := congrArg Int32.toInt (show sgv_35 6 = sgv_31 6 from ksv_35 6 (by decide)); have := (show iv 0 1200 (sgv_31 6) from CI_s hIv_31 6).1; have := (show iv 0 1200 (sgv_31 6) from CI_s hIv_31 6).2; have := congrArg Int32.toInt (show sg_28 6 = sg_27 6 from up_ne esg_28 (by decide)); have := congrArg Int32.toInt (show sg_27 6 = sg_26 6 from up_ne esg_27 (by decide)); have := congrArg Int32.toInt (show sg_26 6 = sg_25 6 from up_ne esg_26 (by decide)); have := congrArg Int32.toInt (show sg_25 6 = sg_24 6 from up_ne esg_25 (by decide)); have := congrArg Int32.toInt (show sg_24 6 = sg 6 from up_ne esg_24 (by decide)); have := (show iv 0 1200 (sg 6) from CI_s hI 6).1; have := (show iv 0 1200 (sg 6) from CI_s hI 6).2; have := congrArg Int32.toInt (show sgv_35 7 = sgv_31 7 from ksv_35 7 (by decide)); have := congrArg Int32.toInt (show sgv_31 7 = sg_28 7 from ksv_31 7 (by decide)); have := congrArg Int32.toInt (show sg_28 7 = sg_27 7 from up_ne esg_28 (by decide)); have := congrArg Int32.toInt (show sg_27 7 = sg_26 7 from up_ne esg_27 (by decide)); have := congrArg Int32.toInt (show sg_26 7 = sg_25 7 from up_ne esg_26 (by decide)); have := congrArg Int32.toInt (show sg_25 7 = sg_24 7 from up_ne esg_25 (by decide)); have := congrArg Int32.toInt (show sg_24 7 = tx from up_at esg_24); have := congrArg Int32.toInt (show sgv_35 8 = sgv_31 8 from ksv_35 8 (by decide)); have := congrArg Int32.toInt (show sgv_31 8 = sg_28 8 from ksv_31 8 (by decide)); have := congrArg Int32.toInt (show sg_28 8 = sg_27 8 from up_ne esg_28 (by decide)); have := congrArg Int32.toInt (show sg_27 8 = sg_26 8 from up_ne esg_27 (by decide)); have := congrArg Int32.toInt (show sg_26 8 = sg_25 8 from up_ne esg_26 (by decide)); have := congrArg Int32.toInt (show sg_25 8 = ln from up_at esg_25); have := (hvln).1; have := (hvln).2; have := (show iv 0 1201 (sgv_35 9) from CI_s hIv_35 9).1; have := (show iv 0 1201 (sgv_35 9) from CI_s hIv_35 9).2; have := congrArg Int32.toInt (show sgv_31 9 = sg_28 9 from ksv_31 9 (by decide)); have := congrArg Int32.toInt (show sg_28 9 = sg_27 9 from up_ne esg_28 (by decide)); have := congrArg Int32.toInt (show sg_27 9 = sg_26 9 from up_ne esg_27 (by decide)); have : (sg_26 9).toInt = 0 := (by rw [up_at esg_26]; rfl); have := congrArg Int32.toInt (show sgv_35 10 = sgv_31 10 from ksv_35 10 (by decide)); have := congrArg Int32.toInt (show sgv_31 10 = sg_28 10 from ksv_31 10 (by decide)); have := congrArg Int32.toInt (show sg_28 10 = sg_27 10 from up_ne esg_28 (by decide)); have : (sg_27 10).toInt = 0 := (by rw [up_at esg_27]; rfl); have := congrArg Int32.toInt (show sgv_35 11 = sgv_31 11 from ksv_35 11 (by decide)); have := congrArg Int32.toInt (show sgv_31 11 = sg_28 11 from ksv_31 11 (by decide)); have : (sg_28 11).toInt = -1 := (by rw [up_at esg_28]; rfl); have := (hvx).1; have := (hvx).2; have := (hvtx).1; have := (hvtx).2; omega) (hU12) (hU18) (by omega) (CHR_k hch ((show KS [9] sgv_31 sgv_35 from (KS_tr (L := [9]) KS_rf ksv_35 (by decide))) 8 (by decide)) rfl) (RDC_0 (by have := i32_0; have := i32_1; have := i32_2; have := i32_m1; have := congrArg Int32.toInt (show sgv_35 4 = sgv_31 4 from ksv_35 4 (by decide)); have := (show iv 0 80 (sgv_31 4) from CI_s hIv_31 4).1; have := (show iv 0 80 (sgv_31 4) from CI_s hIv_31 4).2; have := congrArg Int32.toInt (show sg_28 4 = sg_27 4 from up_ne esg_28 (by decide)); have := congrArg Int32.toInt (show sg_27 4 = sg_26 4 from up_ne esg_27 (by decide)); have := congrArg Int32.toInt (show sg_26 4 = sg_25 4 from up_ne esg_26 (by decide)); have := congrArg Int32.toInt (show sg_25 4 = sg_24 4 from up_ne esg_25 (by decide)); have := congrArg Int32.toInt (show sg_24 4 = sg 4 from up_ne esg_24 (by decide)); have := (show iv 0 80 (sg 4) from CI_s hI 4).1; have := (show iv 0 80 (sg 4) from CI_s hI 4).2; have := congrArg Int32.toInt (show sgv_35 5 = sgv_31 5 from ksv_35 5 (by decide)); have := (show iv 0 240 (sgv_31 5) from CI_s hIv_31 5).1; have := (show iv 0 240 (sgv_31 5) from CI_s hIv_31 5).2; have := congrArg Int32.toInt (show sg_28 5 = sg_27 5 from up_ne esg_28 (by decide)); have := congrArg Int32.toInt (show sg_27 5 = sg_26 5 from up_ne esg_27 (by decide)); have := congrArg Int32.toInt (show sg_26 5 = sg_25 5 from up_ne esg_26 (by decide)); have := congrArg Int32.toInt (show sg_25 5 = sg_24 5 from up_ne esg_25 (by decide)); have := congrArg Int32.toInt (show sg_24 5 = sg 5 from up_ne esg_24 (by decide)); have := (show iv 0 240 (sg 5) from CI_s hI 5).1; have := (show iv 0 240 (sg 5) from CI_s hI 5).2; have := congrArg Int32.toInt (show sgv_35 6 = sgv_31 6 from ksv_35 6 (by decide)); have := (show iv 0 1200 (sgv_31 6) from CI_s hIv_31 6).1; have := (show iv 0 1200 (sgv_31 6) from CI_s hIv_31 6).2; have := congrArg Int32.toInt (show sg_28 6 = sg_27 6 from up_ne esg_28 (by decide)); have := congrArg Int32.toInt (show sg_27 6 = sg_26 6 from up_ne esg_27 (by decide)); have := congrArg Int32.toInt (show sg_26 6 = sg_25 6 from up_ne esg_26 (by decide)); have := congrArg Int32.toInt (show sg_25 6 = sg_24 6 from up_ne esg_25 (by decide)); have := congrArg Int32.toInt (show sg_24 6 = sg 6 from up_ne esg_24 (by decide)); have := (show iv 0 1200 (sg 6) from CI_s hI 6).1; have := (show iv 0 1200 (sg 6) from CI_s hI 6).2; have := congrArg Int32.toInt (show sgv_35 7 = sgv_31 7 from ksv_35 7 (by decide)); have := congrArg Int32.toInt (show sgv_31 7 = sg_28 7 from ksv_31 7 (by decide)); have := congrArg Int32.toInt (show sg_28 7 = sg_27 7 from up_ne esg_28 (by decide)); have := congrArg Int32.toInt (show sg_27 7 = sg_26 7 from up_ne esg_27 (by decide)); have := congrArg Int32.toInt (show sg_26 7 = sg_25 7 from up_ne esg_26 (by decide)); have := congrArg Int32.toInt (show sg_25 7 = sg_24 7 from up_ne esg_25 (by decide)); have := congrArg Int32.toInt (show sg_24 7 = tx from up_at esg_24); have := congrArg Int32.toInt (show sgv_35 8 = sgv_31 8 from ksv_35 8 (by decide)); have := congrArg Int32.toInt (show sgv_31 8 = sg_28 8 from ksv_31 8 (by decide)); have := congrArg Int32.toInt (show sg_28 8 = sg_27 8 from up_ne esg_28 (by decide)); have := congrArg Int32.toInt (show sg_27 8 = sg_26 8 from up_ne esg_27 (by decide)); have := congrArg Int32.toInt (show sg_26 8 = sg_25 8 from up_ne esg_26 (by decide)); have := congrArg Int32.toInt (show sg_25 8 = ln from up_at esg_25); have := (hvln).1; have := (hvln).2; have := (show iv 0 1201 (sgv_35 9) from CI_s hIv_35 9).1; have := (show iv 0 1201 (sgv_35 9) from CI_s hIv_35 9).2; have := congrArg Int32.toInt (show sgv_31 9 = sg_28 9 from ksv_31 9 (by decide)); have := congrArg Int32.toInt (show sg_28 9 = sg_27 9 from up_ne esg_28 (by decide)); have := congrArg Int32.toInt (show sg_27 9 = sg_26 9 from up_ne esg_27 (by decide)); have : (sg_26 9).toInt = 0 := (by rw [up_at esg_26]; rfl); have := congrArg Int32.toInt (show sgv_35 10 = sgv_31 10 from ksv_35 10 (by decide)); have := congrArg Int32.toInt (show sgv_31 10 = sg_28 10 from ksv_31 10 (by decide)); have := congrArg Int32.toInt (show sg_28 10 = sg_27 10 from up_ne esg_28 (by decide)); have : (sg_27 10).toInt = 0 := (by rw [up_at esg_27]; rfl); have := congrArg Int32.toInt (show sgv_35 11 = sgv_31 11 from ksv_35 11 (by decide)); have := congrArg Int32.toInt (show sgv_31 11 = sg_28 11 from ksv_31 11 (by decide)); have : (sg_28 11).toInt = -1 := (by rw [up_at esg_28]; rfl); have := (hvx).1; have := (hvx).2; have := (hvtx).1; have := (hvtx).2; have := (show iv 0 1201 (sgv_35 9) from CI_s hIv_35 9).1; have := (show iv 0 1201 (sgv_35 9) from CI_s hIv_35 9).2; have := (show iv 0 1201 (sgv_31 9) from CI_s hIv_31 9).1; have := (show iv 0 1201 (sgv_31 9) from CI_s hIv_31 9).2; have := (show iv 0 1201 (sg_28 9) from CI_s hI_sg_28 9).1; have := (show iv 0 1201 (sg_28 9) from CI_s hI_sg_28 9).2; have := (show iv 0 1201 (sg_27 9) from CI_s hI_sg_27 9).1; have := (show iv 0 1201 (sg_27 9) from CI_s hI_sg_27 9).2; have := (show iv 0 1201 (sg_26 9) from CI_s hI_sg_26 9).1; have := (show iv 0 1201 (sg_26 9) from CI_s hI_sg_26 9).2; have := (show iv 0 1201 (sg_25 9) from CI_s hI_sg_25 9).1; have := (show iv 0 1201 (sg_25 9) from CI_s hI_sg_25 9).2; have := (show iv 0 1201 (sg_24 9) from CI_s hI_sg_24 9).1; have := (show iv 0 1201 (sg_24 9) from CI_s hI_sg_24 9).2; have := (show iv 0 1201 (sg 9) from CI_s hI 9).1; have := (show iv 0 1201 (sg 9) from CI_s hI 9).2; have := i32_0; have := i32_1; have := i32_2; have := i32_m1; have := congrArg Int32.toInt (show sgv_35 4 = sgv_31 4 from ksv_35 4 (by decide)); have := (show iv 0 80 (sgv_31 4) from CI_s hIv_31 4).1; have := (show iv 0 80 (sgv_31 4) from CI_s hIv_31 4).2; have := congrArg Int32.toInt (show sg_28 4 = sg_27 4 from up_ne esg_28 (by decide)); have := congrArg Int32.toInt (show sg_27 4 = sg_26 4 from up_ne esg_27 (by decide)); have := congrArg Int32.toInt (show sg_26 4 = sg_25 4 from up_ne esg_26 (by decide)); have := congrArg Int32.toInt (show sg_25 4 = sg_24 4 from up_ne esg_25 (by decide)); have := congrArg Int32.toInt (show sg_24 4 = sg 4 from up_ne esg_24 (by decide)); have := (show iv 0 80 (sg 4) from CI_s hI 4).1; have := (show iv 0 80 (sg 4) from CI_s hI 4).2; have := (hvx).1; have := (hvx).2; have := (hvtx).1; have := (hvtx).2; have := (hvln).1; have := (hvln).2; omega)) (by have := i32_0; have := i32_1; have := i32_2; have := i32_m1; have := congrArg Int32.toInt (show sgv_35 4 = sgv_31 4 from ksv_35 4 (by decide)); have := (show iv 0 80 (sgv_31 4) from CI_s hIv_31 4).1; have := (show iv 0 80 (sgv_31 4) from CI_s hIv_31 4).2; have := congrArg Int32.toInt (show sg_28 4 = sg_27 4 from up_ne esg_28 (by decide)); have := congrArg Int32.toInt (show sg_27 4 = sg_26 4 from up_ne esg_27 (by decide)); have := congrArg Int32.toInt (show sg_26 4 = sg_25 4 from up_ne esg_26 (by decide)); have := congrArg Int32.toInt (show sg_25 4 = sg_24 4 from up_ne esg_25 (by decide)); have := congrArg Int32.toInt (show sg_24 4 = sg 4 from up_ne esg_24 (by decide)); have := (show iv 0 80 (sg 4) from CI_s hI 4).1; have := (show iv 0 80 (sg 4) from CI_s hI 4).2; have := congrArg Int32.toInt (show sgv_35 5 = sgv_31 5 from ksv_35 5 (by decide)); have := (show iv 0 240 (sgv_31 5) from CI_s hIv_31 5).1; have := (show iv 0 240 (sgv_31 5) from CI_s hIv_31 5).2; have := congrArg Int32.toInt (show sg_28 5 = sg_27 5 from up_ne esg_28 (by decide)); have := congrArg Int32.toInt (show sg_27 5 = sg_26 5 from up_ne esg_27 (by decide)); have := congrArg Int32.toInt (show sg_26 5 = sg_25 5 from up_ne esg_26 (by decide)); have := congrArg Int32.toInt (show sg_25 5 = sg_24 5 from up_ne esg_25 (by decide)); have := congrArg Int32.toInt (show sg_24 5 = sg 5 from up_ne esg_24 (by decide)); have := (show iv 0 240 (sg 5) from CI_s hI 5).1; have := (show iv 0 240 (sg 5) from CI_s hI 5).2; have := congrArg Int32.toInt (show sgv_35 6 = sgv_31 6 from ksv_35 6 (by decide)); have := (show iv 0 1200 (sgv_31 6) from CI_s hIv_31 6).1; have := (show iv 0 1200 (sgv_31 6) from CI_s hIv_31 6).2; have := congrArg Int32.toInt (show sg_28 6 = sg_27 6 from up_ne esg_28 (by decide)); have := congrArg Int32.toInt (show sg_27 6 = sg_26 6 from up_ne esg_27 (by decide)); have := congrArg Int32.toInt (show sg_26 6 = sg_25 6 from up_ne esg_26 (by decide)); have := congrArg Int32.toInt (show sg_25 6 = sg_24 6 from up_ne esg_25 (by decide)); have := congrArg Int32.toInt (show sg_24 6 = sg 6 from up_ne esg_24 (by decide)); have := (show iv 0 1200 (sg 6) from CI_s hI 6).1; have := (show iv 0 1200 (sg 6) from CI_s hI 6).2; have := congrArg Int32.toInt (show sgv_35 7 = sgv_31 7 from ksv_35 7 (by decide)); have := congrArg Int32.toInt (show sgv_31 7 = sg_28 7 from ksv_31 7 (by decide)); have := congrArg Int32.toInt (show sg_28 7 = sg_27 7 from up_ne esg_28 (by decide)); have := congrArg Int32.toInt (show sg_27 7 = sg_26 7 from up_ne esg_27 (by decide)); have := congrArg Int32.toInt (show sg_26 7 = sg_25 7 from up_ne esg_26 (by decide)); have := congrArg Int32.toInt (show sg_25 7 = sg_24 7 from up_ne esg_25 (by decide)); have := congrArg Int32.toInt (show sg_24 7 = tx from up_at esg_24); have := congrArg Int32.toInt (show sgv_35 8 = sgv_31 8 from ksv_35 8 (by decide)); have := congrArg Int32.toInt (show sgv_31 8 = sg_28 8 from ksv_31 8 (by decide)); have := congrArg Int32.toInt (show sg_28 8 = sg_27 8 from up_ne esg_28 (by decide)); have := congrArg Int32.toInt (show sg_27 8 = sg_26 8 from up_ne esg_27 (by decide)); have := congrArg Int32.toInt (show sg_26 8 = sg_25 8 from up_ne esg_26 (by decide)); have := congrArg Int32.toInt (show sg_25 8 = ln from up_at esg_25); have := (hvln).1; have := (hvln).2; have := (show iv 0 1201 (sgv_35 9) from CI_s hIv_35 9).1; have := (show iv 0 1201 (sgv_35 9) from CI_s hIv_35 9).2; have := congrArg Int32.toInt (show sgv_31 9 = sg_28 9 from ksv_31 9 (by decide)); have := congrArg Int32.toInt (show sg_28 9 = sg_27 9 from up_ne esg_28 (by decide)); have := congrArg Int32.toInt (show sg_27 9 = sg_26 9 from up_ne esg_27 (by decide)); have : (sg_26 9).toInt = 0 := (by rw [up_at esg_26]; rfl); have := congrArg Int32.toInt (show sgv_35 10 = sgv_31 10 from ksv_35 10 (by decide)); have := congrArg Int32.toInt (show sgv_31 10 = sg_28 10 from ksv_31 10 (by decide)); have := congrArg Int32.toInt (show sg_28 10 = sg_27 10 from up_ne esg_28 (by decide)); have : (sg_27 10).toInt = 0 := (by rw [up_at esg_27]; rfl); have := congrArg Int32.toInt (show sgv_35 11 = sgv_31 11 from ksv_35 11 (by decide)); have := congrArg Int32.toInt (show sgv_31 11 = sg_28 11 from ksv_31 11 (by decide)); have : (sg_28 11).toInt = -1 := (by rw [up_at esg_28]; rfl); have := (hvx).1; have := (hvx).2; have := (hvtx).1; have := (hvtx).2; have := (show iv 0 1201 (sgv_35 9) from CI_s hIv_35 9).1; have := (show iv 0 1201 (sgv_35 9) from CI_s hIv_35 9).2; have := (show iv 0 1201 (sgv_31 9) from CI_s hIv_31 9).1; have := (show iv 0 1201 (sgv_31 9) from CI_s hIv_31 9).2; have := (show iv 0 1201 (sg_28 9) from CI_s hI_sg_28 9).1; have := (show iv 0 1201 (sg_28 9) from CI_s hI_sg_28 9).2; have := (show iv 0 1201 (sg_27 9) from CI_s hI_sg_27 9).1; have := (show iv 0 1201 (sg_27 9) from CI_s hI_sg_27 9).2; have := (show iv 0 1201 (sg_26 9) from CI_s hI_sg_26 9).1; have := (show iv 0 1201 (sg_26 9) from CI_s hI_sg_26 9).2; have := (show iv 0 1201 (sg_25 9) from CI_s hI_sg_25 9).1; have := (show iv 0 1201 (sg_25 9) from CI_s hI_sg_25 9).2; have := (show iv 0 1201 (sg_24 9) from CI_s hI_sg_24 9).1; have := (show iv 0 1201 (sg_24 9) from CI_s hI_sg_24 9).2; have := (show iv 0 1201 (sg 9) from CI_s hI 9).1; have := (show iv 0 1201 (sg 9) from CI_s hI 9).2; have := i32_0; have := i32_1; have := i32_2; have := i32_m1; have := congrArg Int32.toInt (show sgv_35 6 = sgv_31 6 from ksv_35 6 (by decide)); have := (show iv 0 1200 (sgv_31 6) from CI_s hIv_31 6).1; have := (show iv 0 1200 (sgv_31 6) from CI_s hIv_31 6).2; have := congrArg Int32.toInt (show sg_28 6 = sg_27 6 from up_ne esg_28 (by decide)); have := congrArg Int32.toInt (show sg_27 6 = sg_26 6 from up_ne esg_27 (by decide)); have := congrArg Int32.toInt (show sg_26 6 = sg_25 6 from up_ne esg_26 (by decide)); have := congrArg Int32.toInt (show sg_25 6 = sg_24 6 from up_ne esg_25 (by decide)); have := congrArg Int32.toInt (show sg_24 6 = sg 6 from up_ne esg_24 (by decide)); have := (show iv 0 1200 (sg 6) from CI_s hI 6).1; have := (show iv 0 1200 (sg 6) from CI_s hI 6).2; have := (hvx).1; have := (hvx).2; have := (hvtx).1; have := (hvtx).2; have := (hvln).1; have := (hvln).2; omega) (fun _ => (by have := i32_0; have := i32_1; have := i32_2; have := i32_m1; have := congrArg Int32.toInt (show sgv_35 4 = sgv_31 4 from ksv_35 4 (by decide)); have := (show iv 0 80 (sgv_31 4) from CI_s hIv_31 4).1; have := (show iv 0 80 (sgv_31 4) from CI_s hIv_31 4).2; have := congrArg Int32.toInt (show sg_28 4 = sg_27 4 from up_ne esg_28 (by decide)); have := congrArg Int32.toInt (show sg_27 4 = sg_26 4 from up_ne esg_27 (by decide)); have := congrArg Int32.toInt (show sg_26 4 = sg_25 4 from up_ne esg_26 (by decide)); have := congrArg Int32.toInt (show sg_25 4 = sg_24 4 from up_ne esg_25 (by decide)); have := congrArg Int32.toInt (show sg_24 4 = sg 4 from up_ne esg_24 (by decide)); have := (show iv 0 80 (sg 4) from CI_s hI 4).1; have := (show iv 0 80 (sg 4) from CI_s hI 4).2; have := congrArg Int32.toInt (show sgv_35 5 = sgv_31 5 from ksv_35 5 (by decide)); have := (show iv 0 240 (sgv_31 5) from CI_s hIv_31 5).1; have := (show iv 0 240 (sgv_31 5) from CI_s hIv_31 5).2; have := congrArg Int32.toInt (show sg_28 5 = sg_27 5 from up_ne esg_28 (by decide)); have := congrArg Int32.toInt (show sg_27 5 = sg_26 5 from up_ne esg_27 (by decide)); have := congrArg Int32.toInt (show sg_26 5 = sg_25 5 from up_ne esg_26 (by decide)); have := congrArg Int32.toInt (show sg_25 5 = sg_24 5 from up_ne esg_25 (by decide)); have := congrArg Int32.toInt (show sg_24 5 = sg 5 from up_ne esg_24 (by decide)); have := (show iv 0 240 (sg 5) from CI_s hI 5).1; have := (show iv 0 240 (sg 5) from CI_s hI 5).2; have := congrArg Int32.toInt (show sgv_35 6 = sgv_31 6 from ksv_35 6 (by decide)); have := (show iv 0 1200 (sgv_31 6) from CI_s hIv_31 6).1; have := (show iv 0 1200 (sgv_31 6) from CI_s hIv_31 6).2; have := congrArg Int32.toInt (show sg_28 6 = sg_27 6 from up_ne esg_28 (by decide)); have := congrArg Int32.toInt (show sg_27 6 = sg_26 6 from up_ne esg_27 (by decide)); have := congrArg Int32.toInt (show sg_26 6 = sg_25 6 from up_ne esg_26 (by decide)); have := congrArg Int32.toInt (show sg_25 6 = sg_24 6 from up_ne esg_25 (by decide)); have := congrArg Int32.toInt (show sg_24 6 = sg 6 from up_ne esg_24 (by decide)); have := (show iv 0 1200 (sg 6) from CI_s hI 6).1; have := (show iv 0 1200 (sg 6) from CI_s hI 6).2; have := congrArg Int32.toInt (show sgv_35 7 = sgv_31 7 from ksv_35 7 (by decide)); have := congrArg Int32.toInt (show sgv_31 7 = sg_28 7 from ksv_31 7 (by decide)); have := congrArg Int32.toInt (show sg_28 7 = sg_27 7 from up_ne esg_28 (by decide)); have := congrArg Int32.toInt (show sg_27 7 = sg_26 7 from up_ne esg_27 (by decide)); have := congrArg Int32.toInt (show sg_26 7 = sg_25 7 from up_ne esg_26 (by decide)); have := congrArg Int32.toInt (show sg_25 7 = sg_24 7 from up_ne esg_25 (by decide)); have := congrArg Int32.toInt (show sg_24 7 = tx from up_at esg_24); have := congrArg Int32.toInt (show sgv_35 8 = sgv_31 8 from ksv_35 8 (by decide)); have := congrArg Int32.toInt (show sgv_31 8 = sg_28 8 from ksv_31 8 (by decide)); have := congrArg Int32.toInt (show sg_28 8 = sg_27 8 from up_ne esg_28 (by decide)); have := congrArg Int32.toInt (show sg_27 8 = sg_26 8 from up_ne esg_27 (by decide)); have := congrArg Int32.toInt (show sg_26 8 = sg_25 8 from up_ne esg_26 (by decide)); have := congrArg Int32.toInt (show sg_25 8 = ln from up_at esg_25); have := (hvln).1; have := (hvln).2; have := (show iv 0 1201 (sgv_35 9) from CI_s hIv_35 9).1; have := (show iv 0 1201 (sgv_35 9) from CI_s hIv_35 9).2; have := congrArg Int32.toInt (show sgv_31 9 = sg_28 9 from ksv_31 9 (by decide)); have := congrArg Int32.toInt (show sg_28 9 = sg_27 9 from up_ne esg_28 (by decide)); have := congrArg Int32.toInt (show sg_27 9 = sg_26 9 from up_ne esg_27 (by decide)); have : (sg_26 9).toInt = 0 := (by rw [up_at esg_26]; rfl); have := congrArg Int32.toInt (show sgv_35 10 = sgv_31 10 from ksv_35 10 (by decide)); have := congrArg Int32.toInt (show sgv_31 10 = sg_28 10 from ksv_31 10 (by decide)); have := congrArg Int32.toInt (show sg_28 10 = sg_27 10 from up_ne esg_28 (by decide)); have : (sg_27 10).toInt = 0 := (by rw [up_at esg_27]; rfl); have := congrArg Int32.toInt (show sgv_35 11 = sgv_31 11 from ksv_35 11 (by decide)); have := congrArg Int32.toInt (show sgv_31 11 = sg_28 11 from ksv_31 11 (by decide)); have : (sg_28 11).toInt = -1 := (by rw [up_at esg_28]; rfl); have := (hvx).1; have := (hvx).2; have := (hvtx).1; have := (hvtx).2; have := (show iv 0 1201 (sgv_35 9) from CI_s hIv_35 9).1; have := (show iv 0 1201 (sgv_35 9) from CI_s hIv_35 9).2; have := (show iv 0 1201 (sgv_31 9) from CI_s hIv_31 9).1; have := (show iv 0 1201 (sgv_31 9) from CI_s hIv_31 9).2; have := (show iv 0 1201 (sg_28 9) from CI_s hI_sg_28 9).1; have := (show iv 0 1201 (sg_28 9) from CI_s hI_sg_28 9).2; have := (show iv 0 1201 (sg_27 9) from CI_s hI_sg_27 9).1; have := (show iv 0 1201 (sg_27 9) from CI_s hI_sg_27 9).2; have := (show iv 0 1201 (sg_26 9) from CI_s hI_sg_26 9).1; have := (show iv 0 1201 (sg_26 9) from CI_s hI_sg_26 9).2; have := (show iv 0 1201 (sg_25 9) from CI_s hI_sg_25 9).1; have := (show iv 0 1201 (sg_25 9) from CI_s hI_sg_25 9).2; have := (show iv 0 1201 (sg_24 9) from CI_s hI_sg_24 9).1; have := (show iv 0 1201 (sg_24 9) from CI_s hI_sg_24 9).2; have := (show iv 0 1201 (sg 9) from CI_s hI 9).1; have := (show iv 0 1201 (sg 9) from CI_s hI 9).2; have := i32_0; have := i32_1; have := i32_2; have := i32_m1; have := congrArg Int32.toInt (show sgv_35 4 = sgv_31 4 from ksv_35 4 (by decide)); have := (show iv 0 80 (sgv_31 4) from CI_s hIv_31 4).1; have := (show iv 0 80 (sgv_31 4) from CI_s hIv_31 4).2; have := congrArg Int32.toInt (show sg_28 4 = sg_27 4 from up_ne esg_28 (by decide)); have := congrArg Int32.toInt (show sg_27 4 = sg_26 4 from up_ne esg_27 (by decide)); have := congrArg Int32.toInt (show sg_26 4 = sg_25 4 from up_ne esg_26 (by decide)); have := congrArg Int32.toInt (show sg_25 4 = sg_24 4 from up_ne esg_25 (by decide)); have := congrArg Int32.toInt (show sg_24 4 = sg 4 from up_ne esg_24 (by decide)); have := (show iv 0 80 (sg 4) from CI_s hI 4).1; have := (show iv 0 80 (sg 4) from CI_s hI 4).2; have := (hvx).1; have := (hvx).2; have := (hvtx).1; have := (hvtx).2; have := (hvln).1; have := (hvln).2; omega)) (by have := i32_0; have := i32_1; have := i32_2; have := i32_m1; have := congrArg Int32.toInt (show sgv_35 4 = sgv_31 4 from ksv_35 4 (by decide)); have := (show iv 0 80 (sgv_31 4) from CI_s hIv_31 4).1; have := (show iv 0 80 (sgv_31 4) from CI_s hIv_31 4).2; have := congrArg Int32.toInt (show sg_28 4 = sg_27 4 from up_ne esg_28 (by decide)); have := congrArg Int32.toInt (show sg_27 4 = sg_26 4 from up_ne esg_27 (by decide)); have := congrArg Int32.toInt (show sg_26 4 = sg_25 4 from up_ne esg_26 (by decide)); have := congrArg Int32.toInt (show sg_25 4 = sg_24 4 from up_ne esg_25 (by decide)); have := congrArg Int32.toInt (show sg_24 4 = sg 4 from up_ne esg_24 (by decide)); have := (show iv 0 80 (sg 4) from CI_s hI 4).1; have := (show iv 0 80 (sg 4) from CI_s hI 4).2; have := congrArg Int32.toInt (show sgv_35 5 = sgv_31 5 from ksv_35 5 (by decide)); have := (show iv 0 240 (sgv_31 5) from CI_s hIv_31 5).1; have := (show iv 0 240 (sgv_31 5) from CI_s hIv_31 5).2; have := congrArg Int32.toInt (show sg_28 5 = sg_27 5 from up_ne esg_28 (by decide)); have := congrArg Int32.toInt (show sg_27 5 = sg_26 5 from up_ne esg_27 (by decide)); have := congrArg Int32.toInt (show sg_26 5 = sg_25 5 from up_ne esg_26 (by decide)); have := congrArg Int32.toInt (show sg_25 5 = sg_24 5 from up_ne esg_25 (by decide)); have := congrArg Int32.toInt (show sg_24 5 = sg 5 from up_ne esg_24 (by decide)); have := (show iv 0 240 (sg 5) from CI_s hI 5).1; have := (show iv 0 240 (sg 5) from CI_s hI 5).2; have := congrArg Int32.toInt (show sgv_35 6 = sgv_31 6 from ksv_35 6 (by decide)); have := (show iv 0 1200 (sgv_31 6) from CI_s hIv_31 6).1; have := (show iv 0 1200 (sgv_31 6) from CI_s hIv_31 6).2; have := congrArg Int32.toInt (show sg_28 6 = sg_27 6 from up_ne esg_28 (by decide)); have := congrArg Int32.toInt (show sg_27 6 = sg_26 6 from up_ne esg_27 (by decide)); have := congrArg Int32.toInt (show sg_26 6 = sg_25 6 from up_ne esg_26 (by decide)); have := congrArg Int32.toInt (show sg_25 6 = sg_24 6 from up_ne esg_25 (by decide)); have := congrArg Int32.toInt (show sg_24 6 = sg 6 from up_ne esg_24 (by decide)); have := (show iv 0 1200 (sg 6) from CI_s hI 6).1; have := (show iv 0 1200 (sg 6) from CI_s hI 6).2; have := congrArg Int32.toInt (show sgv_35 7 = sgv_31 7 from ksv_35 7 (by decide)); have := congrArg Int32.toInt (show sgv_31 7 = sg_28 7 from ksv_31 7 (by decide)); have := congrArg Int32.toInt (show sg_28 7 = sg_27 7 from up_ne esg_28 (by decide)); have := congrArg Int32.toInt (show sg_27 7 = sg_26 7 from up_ne esg_27 (by decide)); have := congrArg Int32.toInt (show sg_26 7 = sg_25 7 from up_ne esg_26 (by decide)); have := congrArg Int32.toInt (show sg_25 7 = sg_24 7 from up_ne esg_25 (by decide)); have := congrArg Int32.toInt (show sg_24 7 = tx from up_at esg_24); have := congrArg Int32.toInt (show sgv_35 8 = sgv_31 8 from ksv_35 8 (by decide)); have := congrArg Int32.toInt (show sgv_31 8 = sg_28 8 from ksv_31 8 (by decide)); have := congrArg Int32.toInt (show sg_28 8 = sg_27 8 from up_ne esg_28 (by decide)); have := congrArg Int32.toInt (show sg_27 8 = sg_26 8 from up_ne esg_27 (by decide)); have := congrArg Int32.toInt (show sg_26 8 = sg_25 8 from up_ne esg_26 (by decide)); have := congrArg Int32.toInt (show sg_25 8 = ln from up_at esg_25); have := (hvln).1; have := (hvln).2; have := (show iv 0 1201 (sgv_35 9) from CI_s hIv_35 9).1; have := (show iv 0 1201 (sgv_35 9) from CI_s hIv_35 9).2; have := congrArg Int32.toInt (show sgv_31 9 = sg_28 9 from ksv_31 9 (by decide)); have := congrArg Int32.toInt (show sg_28 9 = sg_27 9 from up_ne esg_28 (by decide)); have := congrArg Int32.toInt (show sg_27 9 = sg_26 9 from up_ne esg_27 (by decide)); have : (sg_26 9).toInt = 0 := (by rw [up_at esg_26]; rfl); have := congrArg Int32.toInt (show sgv_35 10 = sgv_31 10 from ksv_35 10 (by decide)); have := congrArg Int32.toInt (show sgv_31 10 = sg_28 10 from ksv_31 10 (by decide)); have := congrArg Int32.toInt (show sg_28 10 = sg_27 10 from up_ne esg_28 (by decide)); have : (sg_27 10).toInt = 0 := (by rw [up_at esg_27]; rfl); have := congrArg Int32.toInt (show sgv_35 11 = sgv_31 11 from ksv_35 11 (by decide)); have := congrArg Int32.toInt (show sgv_31 11 = sg_28 11 from ksv_31 11 (by decide)); have : (sg_28 11).toInt = -1 := (by rw [up_at esg_28]; rfl); have := (hvx).1; have := (hvx).2; have := (hvtx).1; have := (hvtx).2; have := (show iv 0 1201 (sgv_35 9) from CI_s hIv_35 9).1; have := (show iv 0 1201 (sgv_35 9) from CI_s hIv_35 9).2; have := (show iv 0 1201 (sgv_31 9) from CI_s hIv_31 9).1; have := (show iv 0 1201 (sgv_31 9) from CI_s hIv_31 9).2; have := (show iv 0 1201 (sg_28 9) from CI_s hI_sg_28 9).1; have := (show iv 0 1201 (sg_28 9) from CI_s hI_sg_28 9).2; have := (show iv 0 1201 (sg_27 9) from CI_s hI_sg_27 9).1; have := (show iv 0 1201 (sg_27 9) from CI_s hI_sg_27 9).2; have := (show iv 0 1201 (sg_26 9) from CI_s hI_sg_26 9).1; have := (show iv 0 1201 (sg_26 9) from CI_s hI_sg_26 9).2; have := (show iv 0 1201 (sg_25 9) from CI_s hI_sg_25 9).1; have := (show iv 0 1201 (sg_25 9) from CI_s hI_sg_25 9).2; have := (show iv 0 1201 (sg_24 9) from CI_s hI_sg_24 9).1; have := (show iv 0 1201 (sg_24 9) from CI_s hI_sg_24 9).2; have := (show iv 0 1201 (sg 9) from CI_s hI 9).1; have := (show iv 0 1201 (sg 9) from CI_s hI 9).2; have := i32_0; have := i32_1; have := i32_2; have := i32_m1; have := congrArg Int32.toInt (show sgv_35 10 = sgv_31 10 from ksv_35 10 (by decide)); have := congrArg Int32.toInt (show sgv_31 10 = sg_28 10 from ksv_31 10 (by decide)); have := congrArg Int32.toInt (show sg_28 10 = sg_27 10 from up_ne esg_28 (by decide)); have : (sg_27 10).toInt = 0 := (by rw [up_at esg_27]; rfl); have := (hvx).1; have := (hvx).2; have := (hvtx).1; have := (hvtx).2; have := (hvln).1; have := (hvln).2; omega)) (cwV 0 htb (gd_V kw_561 kw_562 kw_8 kw_151 kw_1430) rfl rfl rfl (by decide +kernel) ⟨Nat.le_of_ble_eq_true rfl, Nat.le_of_ble_eq_true rfl⟩) hvx (by decide) (by decide) rfl rfl hl.1 rfl (Nat.le_trans cs_n (by decide)) dX7_firstWrongPlace_37 ⟨Nat.le_trans (gc_le hI) (Nat.le_of_ble_eq_true rfl), Nat.le_trans (gs_le hI) (Nat.le_of_ble_eq_true rfl)⟩ hK hP hD hS hA hG (fun E ce q9 u_37 H locs hw hP hD hS hce hcv hcl => ?_) (fun v9 u_37 H locs hw hP hD hS => ?_)
  · obtain ⟨hE, hw⟩ := hw
    obtain ⟨sgv_38, gmv_38, lgv_38, rfl, hIv_38, ksv_38, kgv_38, klv_38, fU12_v_38, fU18_v_38, xO_v_38⟩ := hw
    have hP : va_P (dC, dI) vwCl (cW ad cid a2 lx sgv_38 gmv_38 lgv_38) H := hP
    have hD : va_D A (cW ad cid a2 lx sgv_38 gmv_38 lgv_38) := hD
    refine vx_widen (k := gc gm gm 1) (n := gs gm gm 1) (by unfold gc; omega) (by unfold gs; omega) ?_
    subst hE
    refine mc_catch (own := RX7) (name := "java/lang/IllegalArgumentException") hown ⟨32, 75, 78, 50⟩ [] hxt (by decide) (by decide) (htb _ kw_547) (va_Nw.use rfl hG.1.2.1.1) hce hcv hcl ?_
    refine lv_astore_n (i := 3) (lv' := [(3, .ref q9), (0, eV (ad 2) x), (1, eV (ad 13) tx), (2, .int ln)]) hx hb dX7_firstWrongPlace_78 rfl hl (by decide) rfl (fun ls hl => ?_)
    refine ec_aload_n hx hb dX7_firstWrongPlace_79 rfl (lv_at hl 1 rfl) ?_
    refine cr_get (t := 2) (j := 3) (C := RX7) (T := TX7) (N := 6) (v := .int (sgv_38 9)) hx hb htb inX7 hown hK hP hvx (by decide) (by decide) (by decide) rfl (by decide) (htb _ kw_315) rfl dX7_firstWrongPlace_80 ?_
    refine W.widen (k := gc gm gmv_38 1) (n := gs gm gmv_38 1) (gc_e (show gmv_38 42 = gm 42 from (kgv_38 42 (by decide))) (by decide)) (gs_e (show gmv_38 42 = gm 42 from (kgv_38 42 (by decide))) (by decide)) ?_
    have hm_39 : PHs gm ≤ PHs gmv_38 := by rw [PHs_e (show gmv_38 42 = gm 42 from (kgv_38 42 (by decide)))]; exact (Nat.le_refl _)
    exact W.nb (fun hN => W.widen (k := 30481) (n := 121926) (Nat.le_trans (gc_l0 (gm := gm) (k := 1) hIv_38) (Nat.le_of_ble_eq_true rfl)) (Nat.le_trans (gs_l0 (gm := gm) (k := 1) hIv_38) (Nat.le_of_ble_eq_true rfl)) (vx_ret (W.iret (v := (sgv_38 9)) hx hb hr (fun t ht hW => ⟨⟨some (.int (sgv_38 9)), (a2, lx, sgv_38, gmv_38, lgv_38), rfl, ⟨(sgv_38 9), rfl, sgv_38, gmv_38, lgv_38, rfl, hIv_38, (KS_tr (L := [4, 5, 6, 7, 8, 9, 10, 11]) (KS_tr (L := [4, 5, 6, 7, 8, 9, 10, 11]) (KS_tr (L := [4, 5, 6, 7, 8, 9, 10, 11]) (KS_up (KS_up (KS_up (KS_up (KS_up KS_rf esg_24 (by decide)) esg_25 (by decide)) esg_26 (by decide)) esg_27 (by decide)) esg_28 (by decide)) ksv_31 (by decide)) ksv_35 (by decide)) ksv_38 (by decide)), (KS_tr (L := [11, 12, 13, 14, 15, 16, 17, 18, 19, 20, 21, 22, 23, 24, 25, 26, 27, 44, 45, 46, 56]) KS_rf kgv_38 (by decide)), (KS_tr (L := [0, 1, 2, 3]) KS_rf klv_38 (by decide)), (iv_w (show iv 0 1201 (sgv_38 9) from CI_s hIv_38 9) (by decide)), (UB_k fU12_v_38 rfl (by have := i32_0; have := i32_1; have := i32_2; have := i32_m1; have := (hvx).1; have := (hvx).2; have := (hvtx).1; have := (hvtx).2; have := (hvln).1; have := (hvln).2; have := ((show iv 0 1201 (sgv_38 9) from CI_s hIv_38 9)).1; have := ((show iv 0 1201 (sgv_38 9) from CI_s hIv_38 9)).2; omega)), (UB_k fU18_v_38 rfl (by have := i32_0; have := i32_1; have := i32_2; have := i32_m1; have := (hvx).1; have := (hvx).2; have := (hvtx).1; have := (hvtx).2; have := (hvln).1; have := (hvln).2; have := ((show iv 0 1201 (sgv_38 9) from CI_s hIv_38 9)).1; have := ((show iv 0 1201 (sgv_38 9) from CI_s hIv_38 9)).2; omega)), (fun q9 => absurd q9 (by have := i32_0; have := i32_1; have := i32_2; have := i32_m1; have := (show iv 0 1201 (sgv_38 9) from CI_s hIv_38 9).1; have := (show iv 0 1201 (sgv_38 9) from CI_s hIv_38 9).2; have := (show iv 0 1201 (sgv_35 9) from CI_s hIv_35 9).1; have := (show iv 0 1201 (sgv_35 9) from CI_s hIv_35 9).2; have := congrArg Int32.toInt (show sgv_31 9 = sg_28 9 from ksv_31 9 (by decide)); have := congrArg Int32.toInt (show sg_28 9 = sg_27 9 from up_ne esg_28 (by decide)); have := congrArg Int32.toInt (show sg_27 9 = sg_26 9 from up_ne esg_27 (by decide)); have : (sg_26 9).toInt = 0 := (by rw [up_at esg_26]; rfl); have := (hvx).1; have := (hvx).2; have := (hvtx).1; have := (hvtx).2; have := (hvln).1; have := (hvln).2; have := ((show iv 0 1201 (sgv_38 9) from CI_s hIv_38 9)).1; have := ((show iv 0 1201 (sgv_38 9) from CI_s hIv_38 9)).2; omega)), (Or.inr ⟨(by have := i32_0; have := i32_1; have := i32_2; have := i32_m1; have := (show iv 0 1201 (sgv_38 9) from CI_s hIv_38 9).1; have := (show iv 0 1201 (sgv_38 9) from CI_s hIv_38 9).2; have := (show iv 0 1201 (sgv_35 9) from CI_s hIv_35 9).1; have := (show iv 0 1201 (sgv_35 9) from CI_s hIv_35 9).2; have := congrArg Int32.toInt (show sgv_31 9 = sg_28 9 from ksv_31 9 (by decide)); have := congrArg Int32.toInt (show sg_28 9 = sg_27 9 from up_ne esg_28 (by decide)); have := congrArg Int32.toInt (show sg_27 9 = sg_26 9 from up_ne esg_27 (by decide)); have : (sg_26 9).toInt = 0 := (by rw [up_at esg_26]; rfl); have := (hvx).1; have := (hvx).2; have := (hvtx).1; have := (hvtx).2; have := (hvln).1; have := (hvln).2; have := ((show iv 0 1201 (sgv_38 9) from CI_s hIv_38 9)).1; have := ((show iv 0 1201 (sgv_38 9) from CI_s hIv_38 9)).2; omega), (by have hB := fB_r_32; rw [show (sgv_31 9).toInt.toNat = 0 from (by have := i32_0; have := i32_1; have := i32_2; have := i32_m1; have := (show iv 0 80 (sgv_38 4) from CI_s hIv_38 4).1; have := (show iv 0 80 (sgv_38 4) from CI_s hIv_38 4).2; have := congrArg Int32.toInt (show sgv_35 4 = sgv_31 4 from ksv_35 4 (by decide)); have := (show iv 0 80 (sgv_31 4) from CI_s hIv_31 4).1; have := (show iv 0 80 (sgv_31 4) from CI_s hIv_31 4).2; have := congrArg Int32.toInt (show sg_28 4 = sg_27 4 from up_ne esg_28 (by decide)); have := congrArg Int32.toInt (show sg_27 4 = sg_26 4 from up_ne esg_27 (by decide)); have := congrArg Int32.toInt (show sg_26 4 = sg_25 4 from up_ne esg_26 (by decide)); have := congrArg Int32.toInt (show sg_25 4 = sg_24 4 from up_ne esg_25 (by decide)); have := congrArg Int32.toInt (show sg_24 4 = sg 4 from up_ne esg_24 (by decide)); have := (show iv 0 80 (sg 4) from CI_s hI 4).1; have := (show iv 0 80 (sg 4) from CI_s hI 4).2; have := (show iv 0 240 (sgv_38 5) from CI_s hIv_38 5).1; have := (show iv 0 240 (sgv_38 5) from CI_s hIv_38 5).2; have := congrArg Int32.toInt (show sgv_35 5 = sgv_31 5 from ksv_35 5 (by decide)); have := (show iv 0 240 (sgv_31 5) from CI_s hIv_31 5).1; have := (show iv 0 240 (sgv_31 5) from CI_s hIv_31 5).2; have := congrArg Int32.toInt (show sg_28 5 = sg_27 5 from up_ne esg_28 (by decide)); have := congrArg Int32.toInt (show sg_27 5 = sg_26 5 from up_ne esg_27 (by decide)); have := congrArg Int32.toInt (show sg_26 5 = sg_25 5 from up_ne esg_26 (by decide)); have := congrArg Int32.toInt (show sg_25 5 = sg_24 5 from up_ne esg_25 (by decide)); have := congrArg Int32.toInt (show sg_24 5 = sg 5 from up_ne esg_24 (by decide)); have := (show iv 0 240 (sg 5) from CI_s hI 5).1; have := (show iv 0 240 (sg 5) from CI_s hI 5).2; have := (show iv 0 1200 (sgv_38 6) from CI_s hIv_38 6).1; have := (show iv 0 1200 (sgv_38 6) from CI_s hIv_38 6).2; have := congrArg Int32.toInt (show sgv_35 6 = sgv_31 6 from ksv_35 6 (by decide)); have := (show iv 0 1200 (sgv_31 6) from CI_s hIv_31 6).1; have := (show iv 0 1200 (sgv_31 6) from CI_s hIv_31 6).2; have := congrArg Int32.toInt (show sg_28 6 = sg_27 6 from up_ne esg_28 (by decide)); have := congrArg Int32.toInt (show sg_27 6 = sg_26 6 from up_ne esg_27 (by decide)); have := congrArg Int32.toInt (show sg_26 6 = sg_25 6 from up_ne esg_26 (by decide)); have := congrArg Int32.toInt (show sg_25 6 = sg_24 6 from up_ne esg_25 (by decide)); have := congrArg Int32.toInt (show sg_24 6 = sg 6 from up_ne esg_24 (by decide)); have := (show iv 0 1200 (sg 6) from CI_s hI 6).1; have := (show iv 0 1200 (sg 6) from CI_s hI 6).2; have := congrArg Int32.toInt (show sgv_38 7 = sgv_35 7 from ksv_38 7 (by decide)); have := congrArg Int32.toInt (show sgv_35 7 = sgv_31 7 from ksv_35 7 (by decide)); have := congrArg Int32.toInt (show sgv_31 7 = sg_28 7 from ksv_31 7 (by decide)); have := congrArg Int32.toInt (show sg_28 7 = sg_27 7 from up_ne esg_28 (by decide)); have := congrArg Int32.toInt (show sg_27 7 = sg_26 7 from up_ne esg_27 (by decide)); have := congrArg Int32.toInt (show sg_26 7 = sg_25 7 from up_ne esg_26 (by decide)); have := congrArg Int32.toInt (show sg_25 7 = sg_24 7 from up_ne esg_25 (by decide)); have := congrArg Int32.toInt (show sg_24 7 = tx from up_at esg_24); have := congrArg Int32.toInt (show sgv_38 8 = sgv_35 8 from ksv_38 8 (by decide)); have := congrArg Int32.toInt (show sgv_35 8 = sgv_31 8 from ksv_35 8 (by decide)); have := congrArg Int32.toInt (show sgv_31 8 = sg_28 8 from ksv_31 8 (by decide)); have := congrArg Int32.toInt (show sg_28 8 = sg_27 8 from up_ne esg_28 (by decide)); have := congrArg Int32.toInt (show sg_27 8 = sg_26 8 from up_ne esg_27 (by decide)); have := congrArg Int32.toInt (show sg_26 8 = sg_25 8 from up_ne esg_26 (by decide)); have := congrArg Int32.toInt (show sg_25 8 = ln from up_at esg_25); have := (hvln).1; have := (hvln).2; have := (show iv 0 1201 (sgv_38 9) from CI_s hIv_38 9).1; have := (show iv 0 1201 (sgv_38 9) from CI_s hIv_38 9).2; have := (show iv 0 1201 (sgv_35 9) from CI_s hIv_35 9).1; have := (show iv 0 1201 (sgv_35 9) from CI_s hIv_35 9).2; have := congrArg Int32.toInt (show sgv_31 9 = sg_28 9 from ksv_31 9 (by decide)); have := congrArg Int32.toInt (show sg_28 9 = sg_27 9 from up_ne esg_28 (by decide)); have := congrArg Int32.toInt (show sg_27 9 = sg_26 9 from up_ne esg_27 (by decide)); have : (sg_26 9).toInt = 0 := (by rw [up_at esg_26]; rfl); have := (show iv (-1201) 6 (sgv_38 10) from CI_s hIv_38 10).1; have := (show iv (-1201) 6 (sgv_38 10) from CI_s hIv_38 10).2; have := congrArg Int32.toInt (show sgv_35 10 = sgv_31 10 from ksv_35 10 (by decide)); have := congrArg Int32.toInt (show sgv_31 10 = sg_28 10 from ksv_31 10 (by decide)); have := congrArg Int32.toInt (show sg_28 10 = sg_27 10 from up_ne esg_28 (by decide)); have : (sg_27 10).toInt = 0 := (by rw [up_at esg_27]; rfl); have := (show iv (-1) 79 (sgv_38 11) from CI_s hIv_38 11).1; have := (show iv (-1) 79 (sgv_38 11) from CI_s hIv_38 11).2; have := congrArg Int32.toInt (show sgv_35 11 = sgv_31 11 from ksv_35 11 (by decide)); have := congrArg Int32.toInt (show sgv_31 11 = sg_28 11 from ksv_31 11 (by decide)); have : (sg_28 11).toInt = -1 := (by rw [up_at esg_28]; rfl); have := (hvx).1; have := (hvx).2; have := (hvtx).1; have := (hvtx).2; have := ((show iv 0 1201 (sgv_38 9) from CI_s hIv_38 9)).1; have := ((show iv 0 1201 (sgv_38 9) from CI_s hIv_38 9)).2; have := (show iv 0 1201 (sgv_38 9) from CI_s hIv_38 9).1; have := (show iv 0 1201 (sgv_38 9) from CI_s hIv_38 9).2; have := (show iv 0 1201 (sgv_35 9) from CI_s hIv_35 9).1; have := (show iv 0 1201 (sgv_35 9) from CI_s hIv_35 9).2; have := (show iv 0 1201 (sgv_31 9) from CI_s hIv_31 9).1; have := (show iv 0 1201 (sgv_31 9) from CI_s hIv_31 9).2; have := (show iv 0 1201 (sg_28 9) from CI_s hI_sg_28 9).1; have := (show iv 0 1201 (sg_28 9) from CI_s hI_sg_28 9).2; have := (show iv 0 1201 (sg_27 9) from CI_s hI_sg_27 9).1; have := (show iv 0 1201 (sg_27 9) from CI_s hI_sg_27 9).2; have := (show iv 0 1201 (sg_26 9) from CI_s hI_sg_26 9).1; have := (show iv 0 1201 (sg_26 9) from CI_s hI_sg_26 9).2; have := (show iv 0 1201 (sg_25 9) from CI_s hI_sg_25 9).1; have := (show iv 0 1201 (sg_25 9) from CI_s hI_sg_25 9).2; have := (show iv 0 1201 (sg_24 9) from CI_s hI_sg_24 9).1; have := (show iv 0 1201 (sg_24 9) from CI_s hI_sg_24 9).2; have := (show iv 0 1201 (sg 9) from CI_s hI 9).1; have := (show iv 0 1201 (sg 9) from CI_s hI 9).2; have := i32_0; have := i32_1; have := i32_2; have := i32_m1; have := congrArg Int32.toInt (show sgv_31 9 = sg_28 9 from ksv_31 9 (by decide)); have := congrArg Int32.toInt (show sg_28 9 = sg_27 9 from up_ne esg_28 (by decide)); have := congrArg Int32.toInt (show sg_27 9 = sg_26 9 from up_ne esg_27 (by decide)); have : (sg_26 9).toInt = 0 := (by rw [up_at esg_26]; rfl); have := (hvx).1; have := (hvx).2; have := (hvtx).1; have := (hvtx).2; have := (hvln).1; have := (hvln).2; have := ((show iv 0 1201 (sgv_38 9) from CI_s hIv_38 9)).1; have := ((show iv 0 1201 (sgv_38 9) from CI_s hIv_38 9)).2; omega)] at hB; have q := xO_v_38; rw [show (sgv_35 10).toInt.toNat = 0 from (by have := i32_0; have := i32_1; have := i32_2; have := i32_m1; have := (show iv 0 80 (sgv_38 4) from CI_s hIv_38 4).1; have := (show iv 0 80 (sgv_38 4) from CI_s hIv_38 4).2; have := congrArg Int32.toInt (show sgv_35 4 = sgv_31 4 from ksv_35 4 (by decide)); have := (show iv 0 80 (sgv_31 4) from CI_s hIv_31 4).1; have := (show iv 0 80 (sgv_31 4) from CI_s hIv_31 4).2; have := congrArg Int32.toInt (show sg_28 4 = sg_27 4 from up_ne esg_28 (by decide)); have := congrArg Int32.toInt (show sg_27 4 = sg_26 4 from up_ne esg_27 (by decide)); have := congrArg Int32.toInt (show sg_26 4 = sg_25 4 from up_ne esg_26 (by decide)); have := congrArg Int32.toInt (show sg_25 4 = sg_24 4 from up_ne esg_25 (by decide)); have := congrArg Int32.toInt (show sg_24 4 = sg 4 from up_ne esg_24 (by decide)); have := (show iv 0 80 (sg 4) from CI_s hI 4).1; have := (show iv 0 80 (sg 4) from CI_s hI 4).2; have := (show iv 0 240 (sgv_38 5) from CI_s hIv_38 5).1; have := (show iv 0 240 (sgv_38 5) from CI_s hIv_38 5).2; have := congrArg Int32.toInt (show sgv_35 5 = sgv_31 5 from ksv_35 5 (by decide)); have := (show iv 0 240 (sgv_31 5) from CI_s hIv_31 5).1; have := (show iv 0 240 (sgv_31 5) from CI_s hIv_31 5).2; have := congrArg Int32.toInt (show sg_28 5 = sg_27 5 from up_ne esg_28 (by decide)); have := congrArg Int32.toInt (show sg_27 5 = sg_26 5 from up_ne esg_27 (by decide)); have := congrArg Int32.toInt (show sg_26 5 = sg_25 5 from up_ne esg_26 (by decide)); have := congrArg Int32.toInt (show sg_25 5 = sg_24 5 from up_ne esg_25 (by decide)); have := congrArg Int32.toInt (show sg_24 5 = sg 5 from up_ne esg_24 (by decide)); have := (show iv 0 240 (sg 5) from CI_s hI 5).1; have := (show iv 0 240 (sg 5) from CI_s hI 5).2; have := (show iv 0 1200 (sgv_38 6) from CI_s hIv_38 6).1; have := (show iv 0 1200 (sgv_38 6) from CI_s hIv_38 6).2; have := congrArg Int32.toInt (show sgv_35 6 = sgv_31 6 from ksv_35 6 (by decide)); have := (show iv 0 1200 (sgv_31 6) from CI_s hIv_31 6).1; have := (show iv 0 1200 (sgv_31 6) from CI_s hIv_31 6).2; have := congrArg Int32.toInt (show sg_28 6 = sg_27 6 from up_ne esg_28 (by decide)); have := congrArg Int32.toInt (show sg_27 6 = sg_26 6 from up_ne esg_27 (by decide)); have := congrArg Int32.toInt (show sg_26 6 = sg_25 6 from up_ne esg_26 (by decide)); have := congrArg Int32.toInt (show sg_25 6 = sg_24 6 from up_ne esg_25 (by decide)); have := congrArg Int32.toInt (show sg_24 6 = sg 6 from up_ne esg_24 (by decide)); have := (show iv 0 1200 (sg 6) from CI_s hI 6).1; have := (show iv 0 1200 (sg 6) from CI_s hI 6).2; have := congrArg Int32.toInt (show sgv_38 7 = sgv_35 7 from ksv_38 7 (by decide)); have := congrArg Int32.toInt (show sgv_35 7 = sgv_31 7 from ksv_35 7 (by decide)); have := congrArg Int32.toInt (show sgv_31 7 = sg_28 7 from ksv_31 7 (by decide)); have := congrArg Int32.toInt (show sg_28 7 = sg_27 7 from up_ne esg_28 (by decide)); have := congrArg Int32.toInt (show sg_27 7 = sg_26 7 from up_ne esg_27 (by decide)); have := congrArg Int32.toInt (show sg_26 7 = sg_25 7 from up_ne esg_26 (by decide)); have := congrArg Int32.toInt (show sg_25 7 = sg_24 7 from up_ne esg_25 (by decide)); have := congrArg Int32.toInt (show sg_24 7 = tx from up_at esg_24); have := congrArg Int32.toInt (show sgv_38 8 = sgv_35 8 from ksv_38 8 (by decide)); have := congrArg Int32.toInt (show sgv_35 8 = sgv_31 8 from ksv_35 8 (by decide)); have := congrArg Int32.toInt (show sgv_31 8 = sg_28 8 from ksv_31 8 (by decide)); have := congrArg Int32.toInt (show sg_28 8 = sg_27 8 from up_ne esg_28 (by decide)); have := congrArg Int32.toInt (show sg_27 8 = sg_26 8 from up_ne esg_27 (by decide)); have := congrArg Int32.toInt (show sg_26 8 = sg_25 8 from up_ne esg_26 (by decide)); have := congrArg Int32.toInt (show sg_25 8 = ln from up_at esg_25); have := (hvln).1; have := (hvln).2; have := (show iv 0 1201 (sgv_38 9) from CI_s hIv_38 9).1; have := (show iv 0 1201 (sgv_38 9) from CI_s hIv_38 9).2; have := (show iv 0 1201 (sgv_35 9) from CI_s hIv_35 9).1; have := (show iv 0 1201 (sgv_35 9) from CI_s hIv_35 9).2; have := congrArg Int32.toInt (show sgv_31 9 = sg_28 9 from ksv_31 9 (by decide)); have := congrArg Int32.toInt (show sg_28 9 = sg_27 9 from up_ne esg_28 (by decide)); have := congrArg Int32.toInt (show sg_27 9 = sg_26 9 from up_ne esg_27 (by decide)); have : (sg_26 9).toInt = 0 := (by rw [up_at esg_26]; rfl); have := (show iv (-1201) 6 (sgv_38 10) from CI_s hIv_38 10).1; have := (show iv (-1201) 6 (sgv_38 10) from CI_s hIv_38 10).2; have := congrArg Int32.toInt (show sgv_35 10 = sgv_31 10 from ksv_35 10 (by decide)); have := congrArg Int32.toInt (show sgv_31 10 = sg_28 10 from ksv_31 10 (by decide)); have := congrArg Int32.toInt (show sg_28 10 = sg_27 10 from up_ne esg_28 (by decide)); have : (sg_27 10).toInt = 0 := (by rw [up_at esg_27]; rfl); have := (show iv (-1) 79 (sgv_38 11) from CI_s hIv_38 11).1; have := (show iv (-1) 79 (sgv_38 11) from CI_s hIv_38 11).2; have := congrArg Int32.toInt (show sgv_35 11 = sgv_31 11 from ksv_35 11 (by decide)); have := congrArg Int32.toInt (show sgv_31 11 = sg_28 11 from ksv_31 11 (by decide)); have : (sg_28 11).toInt = -1 := (by rw [up_at esg_28]; rfl); have := (hvx).1; have := (hvx).2; have := (hvtx).1; have := (hvtx).2; have := ((show iv 0 1201 (sgv_38 9) from CI_s hIv_38 9)).1; have := ((show iv 0 1201 (sgv_38 9) from CI_s hIv_38 9)).2; have := (show iv 0 1201 (sgv_38 9) from CI_s hIv_38 9).1; have := (show iv 0 1201 (sgv_38 9) from CI_s hIv_38 9).2; have := (show iv 0 1201 (sgv_35 9) from CI_s hIv_35 9).1; have := (show iv 0 1201 (sgv_35 9) from CI_s hIv_35 9).2; have := (show iv 0 1201 (sgv_31 9) from CI_s hIv_31 9).1; have := (show iv 0 1201 (sgv_31 9) from CI_s hIv_31 9).2; have := (show iv 0 1201 (sg_28 9) from CI_s hI_sg_28 9).1; have := (show iv 0 1201 (sg_28 9) from CI_s hI_sg_28 9).2; have := (show iv 0 1201 (sg_27 9) from CI_s hI_sg_27 9).1; have := (show iv 0 1201 (sg_27 9) from CI_s hI_sg_27 9).2; have := (show iv 0 1201 (sg_26 9) from CI_s hI_sg_26 9).1; have := (show iv 0 1201 (sg_26 9) from CI_s hI_sg_26 9).2; have := (show iv 0 1201 (sg_25 9) from CI_s hI_sg_25 9).1; have := (show iv 0 1201 (sg_25 9) from CI_s hI_sg_25 9).2; have := (show iv 0 1201 (sg_24 9) from CI_s hI_sg_24 9).1; have := (show iv 0 1201 (sg_24 9) from CI_s hI_sg_24 9).2; have := (show iv 0 1201 (sg 9) from CI_s hI 9).1; have := (show iv 0 1201 (sg 9) from CI_s hI 9).2; have := i32_0; have := i32_1; have := i32_2; have := i32_m1; have := congrArg Int32.toInt (show sgv_35 10 = sgv_31 10 from ksv_35 10 (by decide)); have := congrArg Int32.toInt (show sgv_31 10 = sg_28 10 from ksv_31 10 (by decide)); have := congrArg Int32.toInt (show sg_28 10 = sg_27 10 from up_ne esg_28 (by decide)); have : (sg_27 10).toInt = 0 := (by rw [up_at esg_27]; rfl); have := (hvx).1; have := (hvx).2; have := (hvtx).1; have := (hvtx).2; have := (hvln).1; have := (hvln).2; have := ((show iv 0 1201 (sgv_38 9) from CI_s hIv_38 9)).1; have := ((show iv 0 1201 (sgv_38 9) from CI_s hIv_38 9)).2; omega)] at q; exact sDoc_o hB q)⟩)⟩, ⟨by rw [ht]; exact hP, va_K.moved hW.alike hK, hD⟩, hm_39, by rw [ht]; exact hN⟩, hS.F ht⟩) hS.2.2 dX7_firstWrongPlace_83)))
  obtain ⟨rfl, sgv_40, gmv_40, lgv_40, rfl, hIv_40, ksv_40, kgv_40, klv_40, fE_r_36, f5_r_36, fdp_r_36, fRD_r_36, fU12_r_36, fU18_r_36, fO_r_36, f6_r_36⟩ := hw
  have hP : va_P (dC, dI) vwCl (cW ad cid a2 lx sgv_40 gmv_40 lgv_40) H := hP
  have hD : va_D A (cW ad cid a2 lx sgv_40 gmv_40 lgv_40) := hD
  refine W.eq (g2 := F0 m 40 ls []) rfl ?_
  refine lv_iconst (v := 0) hx hb dX7_firstWrongPlace_40 (by decide) ?_
  refine lv_istore_n (i := 3) (lv' := [(3, .int 0), (0, eV (ad 2) x), (1, eV (ad 13) tx), (2, .int ln)]) hx hb dX7_firstWrongPlace_41 rfl hl (by decide) rfl (fun ls hl => ?_)
  refine W.widen (k := gc gm gmv_40 0) (n := gs gm gmv_40 0) (gc_e (show gmv_40 42 = gm 42 from (kgv_40 42 (by decide))) (by decide)) (gs_e (show gmv_40 42 = gm 42 from (kgv_40 42 (by decide))) (by decide)) ?_
  have hm_41 : PHs gm ≤ PHs gmv_40 := by rw [PHs_e (show gmv_40 42 = gm 42 from (kgv_40 42 (by decide)))]; exact (Nat.le_refl _)
  exact hj42 _ sgv_40 gmv_40 lgv_40 0 rfl (iv_w (iv_k (by decide) : iv 0 0 0) (by decide)) hvx hvtx hvln (KS_tr (L := [4, 5, 6, 7, 8, 9, 10, 11]) (KS_tr (L := [4, 5, 6, 7, 8, 9, 10, 11]) (KS_tr (L := [4, 5, 6, 7, 8, 9, 10, 11]) (KS_up (KS_up (KS_up (KS_up (KS_up KS_rf esg_24 (by decide)) esg_25 (by decide)) esg_26 (by decide)) esg_27 (by decide)) esg_28 (by decide)) ksv_31 (by decide)) ksv_35 (by decide)) ksv_40 (by decide)) (KS_tr (L := [11, 12, 13, 14, 15, 16, 17, 18, 19, 20, 21, 22, 23, 24, 25, 26, 27, 44, 45, 46, 56]) KS_rf kgv_40 (by decide)) (KS_tr (L := [0, 1, 2, 3]) KS_rf klv_40 (by decide)) hIv_40 (by have := i32_0; have := i32_1; have := i32_2; have := i32_m1; have := (show iv 0 80 (sgv_40 4) from CI_s hIv_40 4).1; have := (show iv 0 80 (sgv_40 4) from CI_s hIv_40 4).2; have := congrArg Int32.toInt (show sgv_35 4 = sgv_31 4 from ksv_35 4 (by decide)); have := (show iv 0 80 (sgv_31 4) from CI_s hIv_31 4).1; have := (show iv 0 80 (sgv_31 4) from CI_s hIv_31 4).2; have := congrArg Int32.toInt (show sg_28 4 = sg_27 4 from up_ne esg_28 (by decide)); have := congrArg Int32.toInt (show sg_27 4 = sg_26 4 from up_ne esg_27 (by decide)); have := congrArg Int32.toInt (show sg_26 4 = sg_25 4 from up_ne esg_26 (by decide)); have := congrArg Int32.toInt (show sg_25 4 = sg_24 4 from up_ne esg_25 (by decide)); have := congrArg Int32.toInt (show sg_24 4 = sg 4 from up_ne esg_24 (by decide)); have := (show iv 0 80 (sg 4) from CI_s hI 4).1; have := (show iv 0 80 (sg 4) from CI_s hI 4).2; have := (show iv 0 240 (sgv_40 5) from CI_s hIv_40 5).1; have := (show iv 0 240 (sgv_40 5) from CI_s hIv_40 5).2; have := congrArg Int32.toInt (show sgv_35 5 = sgv_31 5 from ksv_35 5 (by decide)); have := (show iv 0 240 (sgv_31 5) from CI_s hIv_31 5).1; have := (show iv 0 240 (sgv_31 5) from CI_s hIv_31 5).2; have := congrArg Int32.toInt (show sg_28 5 = sg_27 5 from up_ne esg_28 (by decide)); have := congrArg Int32.toInt (show sg_27 5 = sg_26 5 from up_ne esg_27 (by decide)); have := congrArg Int32.toInt (show sg_26 5 = sg_25 5 from up_ne esg_26 (by decide)); have := congrArg Int32.toInt (show sg_25 5 = sg_24 5 from up_ne esg_25 (by decide)); have := congrArg Int32.toInt (show sg_24 5 = sg 5 from up_ne esg_24 (by decide)); have := (show iv 0 240 (sg 5) from CI_s hI 5).1; have := (show iv 0 240 (sg 5) from CI_s hI 5).2; have := (show iv 0 1200 (sgv_40 6) from CI_s hIv_40 6).1; have := (show iv 0 1200 (sgv_40 6) from CI_s hIv_40 6).2; have := congrArg Int32.toInt (show sgv_35 6 = sgv_31 6 from ksv_35 6 (by decide)); have := (show iv 0 1200 (sgv_31 6) from CI_s hIv_31 6).1; have := (show iv 0 1200 (sgv_31 6) from CI_s hIv_31 6).2; have := congrArg Int32.toInt (show sg_28 6 = sg_27 6 from up_ne esg_28 (by decide)); have := congrArg Int32.toInt (show sg_27 6 = sg_26 6 from up_ne esg_27 (by decide)); have := congrArg Int32.toInt (show sg_26 6 = sg_25 6 from up_ne esg_26 (by decide)); have := congrArg Int32.toInt (show sg_25 6 = sg_24 6 from up_ne esg_25 (by decide)); have := congrArg Int32.toInt (show sg_24 6 = sg 6 from up_ne esg_24 (by decide)); have := (show iv 0 1200 (sg 6) from CI_s hI 6).1; have := (show iv 0 1200 (sg 6) from CI_s hI 6).2; have := congrArg Int32.toInt (show sgv_40 7 = sgv_35 7 from ksv_40 7 (by decide)); have := congrArg Int32.toInt (show sgv_35 7 = sgv_31 7 from ksv_35 7 (by decide)); have := congrArg Int32.toInt (show sgv_31 7 = sg_28 7 from ksv_31 7 (by decide)); have := congrArg Int32.toInt (show sg_28 7 = sg_27 7 from up_ne esg_28 (by decide)); have := congrArg Int32.toInt (show sg_27 7 = sg_26 7 from up_ne esg_27 (by decide)); have := congrArg Int32.toInt (show sg_26 7 = sg_25 7 from up_ne esg_26 (by decide)); have := congrArg Int32.toInt (show sg_25 7 = sg_24 7 from up_ne esg_25 (by decide)); have := congrArg Int32.toInt (show sg_24 7 = tx from up_at esg_24); have := congrArg Int32.toInt (show sgv_40 8 = sgv_35 8 from ksv_40 8 (by decide)); have := congrArg Int32.toInt (show sgv_35 8 = sgv_31 8 from ksv_35 8 (by decide)); have := congrArg Int32.toInt (show sgv_31 8 = sg_28 8 from ksv_31 8 (by decide)); have := congrArg Int32.toInt (show sg_28 8 = sg_27 8 from up_ne esg_28 (by decide)); have := congrArg Int32.toInt (show sg_27 8 = sg_26 8 from up_ne esg_27 (by decide)); have := congrArg Int32.toInt (show sg_26 8 = sg_25 8 from up_ne esg_26 (by decide)); have := congrArg Int32.toInt (show sg_25 8 = ln from up_at esg_25); have := (hvln).1; have := (hvln).2; have := (show iv 0 1201 (sgv_40 9) from CI_s hIv_40 9).1; have := (show iv 0 1201 (sgv_40 9) from CI_s hIv_40 9).2; have := (show iv 0 1201 (sgv_35 9) from CI_s hIv_35 9).1; have := (show iv 0 1201 (sgv_35 9) from CI_s hIv_35 9).2; have := congrArg Int32.toInt (show sgv_31 9 = sg_28 9 from ksv_31 9 (by decide)); have := congrArg Int32.toInt (show sg_28 9 = sg_27 9 from up_ne esg_28 (by decide)); have := congrArg Int32.toInt (show sg_27 9 = sg_26 9 from up_ne esg_27 (by decide)); have : (sg_26 9).toInt = 0 := (by rw [up_at esg_26]; rfl); have := (show iv (-1201) 6 (sgv_40 10) from CI_s hIv_40 10).1; have := (show iv (-1201) 6 (sgv_40 10) from CI_s hIv_40 10).2; have := congrArg Int32.toInt (show sgv_35 10 = sgv_31 10 from ksv_35 10 (by decide)); have := congrArg Int32.toInt (show sgv_31 10 = sg_28 10 from ksv_31 10 (by decide)); have := congrArg Int32.toInt (show sg_28 10 = sg_27 10 from up_ne esg_28 (by decide)); have : (sg_27 10).toInt = 0 := (by rw [up_at esg_27]; rfl); have := (show iv (-1) 79 (sgv_40 11) from CI_s hIv_40 11).1; have := (show iv (-1) 79 (sgv_40 11) from CI_s hIv_40 11).2; have := congrArg Int32.toInt (show sgv_35 11 = sgv_31 11 from ksv_35 11 (by decide)); have := congrArg Int32.toInt (show sgv_31 11 = sg_28 11 from ksv_31 11 (by decide)); have : (sg_28 11).toInt = -1 := (by rw [up_at esg_28]; rfl); have := (hvx).1; have := (hvx).2; have := (hvtx).1; have := (hvtx).2; omega) ((Eq.trans ((show KS [4, 5, 6, 9, 10, 11] sg_25 sgv_40 from (KS_tr (L := [4, 5, 6, 9, 10, 11]) (KS_tr (L := [4, 5, 6, 9, 10, 11]) (KS_tr (L := [4, 5, 6, 9, 10, 11]) (KS_up (KS_up (KS_up KS_rf esg_26 (by decide)) esg_27 (by decide)) esg_28 (by decide)) ksv_31 (by decide)) ksv_35 (by decide)) ksv_40 (by decide))) 8 (by decide)) (up_at esg_25))) (by have := i32_0; have := i32_1; have := i32_2; have := i32_m1; have := congrArg Int32.toInt (show sgv_40 7 = sgv_35 7 from ksv_40 7 (by decide)); have := congrArg Int32.toInt (show sgv_35 7 = sgv_31 7 from ksv_35 7 (by decide)); have := congrArg Int32.toInt (show sgv_31 7 = sg_28 7 from ksv_31 7 (by decide)); have := congrArg Int32.toInt (show sg_28 7 = sg_27 7 from up_ne esg_28 (by decide)); have := congrArg Int32.toInt (show sg_27 7 = sg_26 7 from up_ne esg_27 (by decide)); have := congrArg Int32.toInt (show sg_26 7 = sg_25 7 from up_ne esg_26 (by decide)); have := congrArg Int32.toInt (show sg_25 7 = sg_24 7 from up_ne esg_25 (by decide)); have := congrArg Int32.toInt (show sg_24 7 = tx from up_at esg_24); have := (hvx).1; have := (hvx).2; have := (hvtx).1; have := (hvtx).2; have := (hvln).1; have := (hvln).2; omega) (fRD_r_36) (by have := i32_0; have := i32_1; have := i32_2; have := i32_m1; have := (show iv 0 80 (sgv_40 4) from CI_s hIv_40 4).1; have := (show iv 0 80 (sgv_40 4) from CI_s hIv_40 4).2; have := congrArg Int32.toInt (show sgv_35 4 = sgv_31 4 from ksv_35 4 (by decide)); have := (show iv 0 80 (sgv_31 4) from CI_s hIv_31 4).1; have := (show iv 0 80 (sgv_31 4) from CI_s hIv_31 4).2; have := congrArg Int32.toInt (show sg_28 4 = sg_27 4 from up_ne esg_28 (by decide)); have := congrArg Int32.toInt (show sg_27 4 = sg_26 4 from up_ne esg_27 (by decide)); have := congrArg Int32.toInt (show sg_26 4 = sg_25 4 from up_ne esg_26 (by decide)); have := congrArg Int32.toInt (show sg_25 4 = sg_24 4 from up_ne esg_25 (by decide)); have := congrArg Int32.toInt (show sg_24 4 = sg 4 from up_ne esg_24 (by decide)); have := (show iv 0 80 (sg 4) from CI_s hI 4).1; have := (show iv 0 80 (sg 4) from CI_s hI 4).2; have := (show iv 0 240 (sgv_40 5) from CI_s hIv_40 5).1; have := (show iv 0 240 (sgv_40 5) from CI_s hIv_40 5).2; have := congrArg Int32.toInt (show sgv_35 5 = sgv_31 5 from ksv_35 5 (by decide)); have := (show iv 0 240 (sgv_31 5) from CI_s hIv_31 5).1; have := (show iv 0 240 (sgv_31 5) from CI_s hIv_31 5).2; have := congrArg Int32.toInt (show sg_28 5 = sg_27 5 from up_ne esg_28 (by decide)); have := congrArg Int32.toInt (show sg_27 5 = sg_26 5 from up_ne esg_27 (by decide)); have := congrArg Int32.toInt (show sg_26 5 = sg_25 5 from up_ne esg_26 (by decide)); have := congrArg Int32.toInt (show sg_25 5 = sg_24 5 from up_ne esg_25 (by decide)); have := congrArg Int32.toInt (show sg_24 5 = sg 5 from up_ne esg_24 (by decide)); have := (show iv 0 240 (sg 5) from CI_s hI 5).1; have := (show iv 0 240 (sg 5) from CI_s hI 5).2; have := (show iv 0 1200 (sgv_40 6) from CI_s hIv_40 6).1; have := (show iv 0 1200 (sgv_40 6) from CI_s hIv_40 6).2; have := congrArg Int32.toInt (show sgv_35 6 = sgv_31 6 from ksv_35 6 (by decide)); have := (show iv 0 1200 (sgv_31 6) from CI_s hIv_31 6).1; have := (show iv 0 1200 (sgv_31 6) from CI_s hIv_31 6).2; have := congrArg Int32.toInt (show sg_28 6 = sg_27 6 from up_ne esg_28 (by decide)); have := congrArg Int32.toInt (show sg_27 6 = sg_26 6 from up_ne esg_27 (by decide)); have := congrArg Int32.toInt (show sg_26 6 = sg_25 6 from up_ne esg_26 (by decide)); have := congrArg Int32.toInt (show sg_25 6 = sg_24 6 from up_ne esg_25 (by decide)); have := congrArg Int32.toInt (show sg_24 6 = sg 6 from up_ne esg_24 (by decide)); have := (show iv 0 1200 (sg 6) from CI_s hI 6).1; have := (show iv 0 1200 (sg 6) from CI_s hI 6).2; have := congrArg Int32.toInt (show sgv_40 7 = sgv_35 7 from ksv_40 7 (by decide)); have := congrArg Int32.toInt (show sgv_35 7 = sgv_31 7 from ksv_35 7 (by decide)); have := congrArg Int32.toInt (show sgv_31 7 = sg_28 7 from ksv_31 7 (by decide)); have := congrArg Int32.toInt (show sg_28 7 = sg_27 7 from up_ne esg_28 (by decide)); have := congrArg Int32.toInt (show sg_27 7 = sg_26 7 from up_ne esg_27 (by decide)); have := congrArg Int32.toInt (show sg_26 7 = sg_25 7 from up_ne esg_26 (by decide)); have := congrArg Int32.toInt (show sg_25 7 = sg_24 7 from up_ne esg_25 (by decide)); have := congrArg Int32.toInt (show sg_24 7 = tx from up_at esg_24); have := congrArg Int32.toInt (show sgv_40 8 = sgv_35 8 from ksv_40 8 (by decide)); have := congrArg Int32.toInt (show sgv_35 8 = sgv_31 8 from ksv_35 8 (by decide)); have := congrArg Int32.toInt (show sgv_31 8 = sg_28 8 from ksv_31 8 (by decide)); have := congrArg Int32.toInt (show sg_28 8 = sg_27 8 from up_ne esg_28 (by decide)); have := congrArg Int32.toInt (show sg_27 8 = sg_26 8 from up_ne esg_27 (by decide)); have := congrArg Int32.toInt (show sg_26 8 = sg_25 8 from up_ne esg_26 (by decide)); have := congrArg Int32.toInt (show sg_25 8 = ln from up_at esg_25); have := (hvln).1; have := (hvln).2; have := (show iv 0 1201 (sgv_40 9) from CI_s hIv_40 9).1; have := (show iv 0 1201 (sgv_40 9) from CI_s hIv_40 9).2; have := (show iv 0 1201 (sgv_35 9) from CI_s hIv_35 9).1; have := (show iv 0 1201 (sgv_35 9) from CI_s hIv_35 9).2; have := congrArg Int32.toInt (show sgv_31 9 = sg_28 9 from ksv_31 9 (by decide)); have := congrArg Int32.toInt (show sg_28 9 = sg_27 9 from up_ne esg_28 (by decide)); have := congrArg Int32.toInt (show sg_27 9 = sg_26 9 from up_ne esg_27 (by decide)); have : (sg_26 9).toInt = 0 := (by rw [up_at esg_26]; rfl); have := (show iv (-1201) 6 (sgv_40 10) from CI_s hIv_40 10).1; have := (show iv (-1201) 6 (sgv_40 10) from CI_s hIv_40 10).2; have := congrArg Int32.toInt (show sgv_35 10 = sgv_31 10 from ksv_35 10 (by decide)); have := congrArg Int32.toInt (show sgv_31 10 = sg_28 10 from ksv_31 10 (by decide)); have := congrArg Int32.toInt (show sg_28 10 = sg_27 10 from up_ne esg_28 (by decide)); have : (sg_27 10).toInt = 0 := (by rw [up_at esg_27]; rfl); have := (show iv (-1) 79 (sgv_40 11) from CI_s hIv_40 11).1; have := (show iv (-1) 79 (sgv_40 11) from CI_s hIv_40 11).2; have := congrArg Int32.toInt (show sgv_35 11 = sgv_31 11 from ksv_35 11 (by decide)); have := congrArg Int32.toInt (show sgv_31 11 = sg_28 11 from ksv_31 11 (by decide)); have : (sg_28 11).toInt = -1 := (by rw [up_at esg_28]; rfl); have := (hvx).1; have := (hvx).2; have := (hvtx).1; have := (hvtx).2; omega) (by have := i32_0; have := i32_1; have := i32_2; have := i32_m1; have := (show iv 0 80 (sgv_40 4) from CI_s hIv_40 4).1; have := (show iv 0 80 (sgv_40 4) from CI_s hIv_40 4).2; have := congrArg Int32.toInt (show sgv_35 4 = sgv_31 4 from ksv_35 4 (by decide)); have := (show iv 0 80 (sgv_31 4) from CI_s hIv_31 4).1; have := (show iv 0 80 (sgv_31 4) from CI_s hIv_31 4).2; have := congrArg Int32.toInt (show sg_28 4 = sg_27 4 from up_ne esg_28 (by decide)); have := congrArg Int32.toInt (show sg_27 4 = sg_26 4 from up_ne esg_27 (by decide)); have := congrArg Int32.toInt (show sg_26 4 = sg_25 4 from up_ne esg_26 (by decide)); have := congrArg Int32.toInt (show sg_25 4 = sg_24 4 from up_ne esg_25 (by decide)); have := congrArg Int32.toInt (show sg_24 4 = sg 4 from up_ne esg_24 (by decide)); have := (show iv 0 80 (sg 4) from CI_s hI 4).1; have := (show iv 0 80 (sg 4) from CI_s hI 4).2; have := (show iv 0 240 (sgv_40 5) from CI_s hIv_40 5).1; have := (show iv 0 240 (sgv_40 5) from CI_s hIv_40 5).2; have := congrArg Int32.toInt (show sgv_35 5 = sgv_31 5 from ksv_35 5 (by decide)); have := (show iv 0 240 (sgv_31 5) from CI_s hIv_31 5).1; have := (show iv 0 240 (sgv_31 5) from CI_s hIv_31 5).2; have := congrArg Int32.toInt (show sg_28 5 = sg_27 5 from up_ne esg_28 (by decide)); have := congrArg Int32.toInt (show sg_27 5 = sg_26 5 from up_ne esg_27 (by decide)); have := congrArg Int32.toInt (show sg_26 5 = sg_25 5 from up_ne esg_26 (by decide)); have := congrArg Int32.toInt (show sg_25 5 = sg_24 5 from up_ne esg_25 (by decide)); have := congrArg Int32.toInt (show sg_24 5 = sg 5 from up_ne esg_24 (by decide)); have := (show iv 0 240 (sg 5) from CI_s hI 5).1; have := (show iv 0 240 (sg 5) from CI_s hI 5).2; have := (show iv 0 1200 (sgv_40 6) from CI_s hIv_40 6).1; have := (show iv 0 1200 (sgv_40 6) from CI_s hIv_40 6).2; have := congrArg Int32.toInt (show sgv_35 6 = sgv_31 6 from ksv_35 6 (by decide)); have := (show iv 0 1200 (sgv_31 6) from CI_s hIv_31 6).1; have := (show iv 0 1200 (sgv_31 6) from CI_s hIv_31 6).2; have := congrArg Int32.toInt (show sg_28 6 = sg_27 6 from up_ne esg_28 (by decide)); have := congrArg Int32.toInt (show sg_27 6 = sg_26 6 from up_ne esg_27 (by decide)); have := congrArg Int32.toInt (show sg_26 6 = sg_25 6 from up_ne esg_26 (by decide)); have := congrArg Int32.toInt (show sg_25 6 = sg_24 6 from up_ne esg_25 (by decide)); have := congrArg Int32.toInt (show sg_24 6 = sg 6 from up_ne esg_24 (by decide)); have := (show iv 0 1200 (sg 6) from CI_s hI 6).1; have := (show iv 0 1200 (sg 6) from CI_s hI 6).2; have := congrArg Int32.toInt (show sgv_40 7 = sgv_35 7 from ksv_40 7 (by decide)); have := congrArg Int32.toInt (show sgv_35 7 = sgv_31 7 from ksv_35 7 (by decide)); have := congrArg Int32.toInt (show sgv_31 7 = sg_28 7 from ksv_31 7 (by decide)); have := congrArg Int32.toInt (show sg_28 7 = sg_27 7 from up_ne esg_28 (by decide)); have := congrArg Int32.toInt (show sg_27 7 = sg_26 7 from up_ne esg_27 (by decide)); have := congrArg Int32.toInt (show sg_26 7 = sg_25 7 from up_ne esg_26 (by decide)); have := congrArg Int32.toInt (show sg_25 7 = sg_24 7 from up_ne esg_25 (by decide)); have := congrArg Int32.toInt (show sg_24 7 = tx from up_at esg_24); have := congrArg Int32.toInt (show sgv_40 8 = sgv_35 8 from ksv_40 8 (by decide)); have := congrArg Int32.toInt (show sgv_35 8 = sgv_31 8 from ksv_35 8 (by decide)); have := congrArg Int32.toInt (show sgv_31 8 = sg_28 8 from ksv_31 8 (by decide)); have := congrArg Int32.toInt (show sg_28 8 = sg_27 8 from up_ne esg_28 (by decide)); have := congrArg Int32.toInt (show sg_27 8 = sg_26 8 from up_ne esg_27 (by decide)); have := congrArg Int32.toInt (show sg_26 8 = sg_25 8 from up_ne esg_26 (by decide)); have := congrArg Int32.toInt (show sg_25 8 = ln from up_at esg_25); have := (hvln).1; have := (hvln).2; have := (show iv 0 1201 (sgv_40 9) from CI_s hIv_40 9).1; have := (show iv 0 1201 (sgv_40 9) from CI_s hIv_40 9).2; have := (show iv 0 1201 (sgv_35 9) from CI_s hIv_35 9).1; have := (show iv 0 1201 (sgv_35 9) from CI_s hIv_35 9).2; have := congrArg Int32.toInt (show sgv_31 9 = sg_28 9 from ksv_31 9 (by decide)); have := congrArg Int32.toInt (show sg_28 9 = sg_27 9 from up_ne esg_28 (by decide)); have := congrArg Int32.toInt (show sg_27 9 = sg_26 9 from up_ne esg_27 (by decide)); have : (sg_26 9).toInt = 0 := (by rw [up_at esg_26]; rfl); have := (show iv (-1201) 6 (sgv_40 10) from CI_s hIv_40 10).1; have := (show iv (-1201) 6 (sgv_40 10) from CI_s hIv_40 10).2; have := congrArg Int32.toInt (show sgv_35 10 = sgv_31 10 from ksv_35 10 (by decide)); have := congrArg Int32.toInt (show sgv_31 10 = sg_28 10 from ksv_31 10 (by decide)); have := congrArg Int32.toInt (show sg_28 10 = sg_27 10 from up_ne esg_28 (by decide)); have : (sg_27 10).toInt = 0 := (by rw [up_at esg_27]; rfl); have := (show iv (-1) 79 (sgv_40 11) from CI_s hIv_40 11).1; have := (show iv (-1) 79 (sgv_40 11) from CI_s hIv_40 11).2; have := congrArg Int32.toInt (show sgv_35 11 = sgv_31 11 from ksv_35 11 (by decide)); have := congrArg Int32.toInt (show sgv_31 11 = sg_28 11 from ksv_31 11 (by decide)); have : (sg_28 11).toInt = -1 := (by rw [up_at esg_28]; rfl); have := (hvx).1; have := (hvx).2; have := (hvtx).1; have := (hvtx).2; omega) (UB_k fU12_r_36 rfl (by omega)) (UB_k fU18_r_36 rfl (by omega)) ((CHR_k hch ((show KS [4, 5, 6, 9, 10, 11] sgv_31 sgv_40 from (KS_tr (L := [4, 5, 6, 9, 10, 11]) (KS_tr (L := [4, 5, 6, 9, 10, 11]) KS_rf ksv_35 (by decide)) ksv_40 (by decide))) 8 (by decide)) ((show KS [11, 12, 13, 14, 15, 16, 17, 18, 19, 20, 21, 22, 23, 24, 25, 26, 27, 44, 45, 46] gm gmv_40 from (KS_tr (L := [11, 12, 13, 14, 15, 16, 17, 18, 19, 20, 21, 22, 23, 24, 25, 26, 27, 44, 45, 46]) KS_rf kgv_40 (by decide))) 43 (by decide)))) (f6_r_36) ((by obtain ⟨k, q, c9, y1, y2, y3⟩ := fO_r_36; have := i32_0; have := i32_1; have := i32_2; have := i32_m1; have := (show iv 0 80 (sgv_40 4) from CI_s hIv_40 4).1; have := (show iv 0 80 (sgv_40 4) from CI_s hIv_40 4).2; have := congrArg Int32.toInt (show sgv_35 4 = sgv_31 4 from ksv_35 4 (by decide)); have := (show iv 0 80 (sgv_31 4) from CI_s hIv_31 4).1; have := (show iv 0 80 (sgv_31 4) from CI_s hIv_31 4).2; have := congrArg Int32.toInt (show sg_28 4 = sg_27 4 from up_ne esg_28 (by decide)); have := congrArg Int32.toInt (show sg_27 4 = sg_26 4 from up_ne esg_27 (by decide)); have := congrArg Int32.toInt (show sg_26 4 = sg_25 4 from up_ne esg_26 (by decide)); have := congrArg Int32.toInt (show sg_25 4 = sg_24 4 from up_ne esg_25 (by decide)); have := congrArg Int32.toInt (show sg_24 4 = sg 4 from up_ne esg_24 (by decide)); have := (show iv 0 80 (sg 4) from CI_s hI 4).1; have := (show iv 0 80 (sg 4) from CI_s hI 4).2; have := (show iv 0 240 (sgv_40 5) from CI_s hIv_40 5).1; have := (show iv 0 240 (sgv_40 5) from CI_s hIv_40 5).2; have := congrArg Int32.toInt (show sgv_35 5 = sgv_31 5 from ksv_35 5 (by decide)); have := (show iv 0 240 (sgv_31 5) from CI_s hIv_31 5).1; have := (show iv 0 240 (sgv_31 5) from CI_s hIv_31 5).2; have := congrArg Int32.toInt (show sg_28 5 = sg_27 5 from up_ne esg_28 (by decide)); have := congrArg Int32.toInt (show sg_27 5 = sg_26 5 from up_ne esg_27 (by decide)); have := congrArg Int32.toInt (show sg_26 5 = sg_25 5 from up_ne esg_26 (by decide)); have := congrArg Int32.toInt (show sg_25 5 = sg_24 5 from up_ne esg_25 (by decide)); have := congrArg Int32.toInt (show sg_24 5 = sg 5 from up_ne esg_24 (by decide)); have := (show iv 0 240 (sg 5) from CI_s hI 5).1; have := (show iv 0 240 (sg 5) from CI_s hI 5).2; have := (show iv 0 1200 (sgv_40 6) from CI_s hIv_40 6).1; have := (show iv 0 1200 (sgv_40 6) from CI_s hIv_40 6).2; have := congrArg Int32.toInt (show sgv_35 6 = sgv_31 6 from ksv_35 6 (by decide)); have := (show iv 0 1200 (sgv_31 6) from CI_s hIv_31 6).1; have := (show iv 0 1200 (sgv_31 6) from CI_s hIv_31 6).2; have := congrArg Int32.toInt (show sg_28 6 = sg_27 6 from up_ne esg_28 (by decide)); have := congrArg Int32.toInt (show sg_27 6 = sg_26 6 from up_ne esg_27 (by decide)); have := congrArg Int32.toInt (show sg_26 6 = sg_25 6 from up_ne esg_26 (by decide)); have := congrArg Int32.toInt (show sg_25 6 = sg_24 6 from up_ne esg_25 (by decide)); have := congrArg Int32.toInt (show sg_24 6 = sg 6 from up_ne esg_24 (by decide)); have := (show iv 0 1200 (sg 6) from CI_s hI 6).1; have := (show iv 0 1200 (sg 6) from CI_s hI 6).2; have := congrArg Int32.toInt (show sgv_40 7 = sgv_35 7 from ksv_40 7 (by decide)); have := congrArg Int32.toInt (show sgv_35 7 = sgv_31 7 from ksv_35 7 (by decide)); have := congrArg Int32.toInt (show sgv_31 7 = sg_28 7 from ksv_31 7 (by decide)); have := congrArg Int32.toInt (show sg_28 7 = sg_27 7 from up_ne esg_28 (by decide)); have := congrArg Int32.toInt (show sg_27 7 = sg_26 7 from up_ne esg_27 (by decide)); have := congrArg Int32.toInt (show sg_26 7 = sg_25 7 from up_ne esg_26 (by decide)); have := congrArg Int32.toInt (show sg_25 7 = sg_24 7 from up_ne esg_25 (by decide)); have := congrArg Int32.toInt (show sg_24 7 = tx from up_at esg_24); have := congrArg Int32.toInt (show sgv_40 8 = sgv_35 8 from ksv_40 8 (by decide)); have := congrArg Int32.toInt (show sgv_35 8 = sgv_31 8 from ksv_35 8 (by decide)); have := congrArg Int32.toInt (show sgv_31 8 = sg_28 8 from ksv_31 8 (by decide)); have := congrArg Int32.toInt (show sg_28 8 = sg_27 8 from up_ne esg_28 (by decide)); have := congrArg Int32.toInt (show sg_27 8 = sg_26 8 from up_ne esg_27 (by decide)); have := congrArg Int32.toInt (show sg_26 8 = sg_25 8 from up_ne esg_26 (by decide)); have := congrArg Int32.toInt (show sg_25 8 = ln from up_at esg_25); have := (hvln).1; have := (hvln).2; have := (show iv 0 1201 (sgv_40 9) from CI_s hIv_40 9).1; have := (show iv 0 1201 (sgv_40 9) from CI_s hIv_40 9).2; have := (show iv 0 1201 (sgv_35 9) from CI_s hIv_35 9).1; have := (show iv 0 1201 (sgv_35 9) from CI_s hIv_35 9).2; have := congrArg Int32.toInt (show sgv_31 9 = sg_28 9 from ksv_31 9 (by decide)); have := congrArg Int32.toInt (show sg_28 9 = sg_27 9 from up_ne esg_28 (by decide)); have := congrArg Int32.toInt (show sg_27 9 = sg_26 9 from up_ne esg_27 (by decide)); have : (sg_26 9).toInt = 0 := (by rw [up_at esg_26]; rfl); have := (show iv (-1201) 6 (sgv_40 10) from CI_s hIv_40 10).1; have := (show iv (-1201) 6 (sgv_40 10) from CI_s hIv_40 10).2; have := congrArg Int32.toInt (show sgv_35 10 = sgv_31 10 from ksv_35 10 (by decide)); have := congrArg Int32.toInt (show sgv_31 10 = sg_28 10 from ksv_31 10 (by decide)); have := congrArg Int32.toInt (show sg_28 10 = sg_27 10 from up_ne esg_28 (by decide)); have : (sg_27 10).toInt = 0 := (by rw [up_at esg_27]; rfl); have := (show iv (-1) 79 (sgv_40 11) from CI_s hIv_40 11).1; have := (show iv (-1) 79 (sgv_40 11) from CI_s hIv_40 11).2; have := congrArg Int32.toInt (show sgv_35 11 = sgv_31 11 from ksv_35 11 (by decide)); have := congrArg Int32.toInt (show sgv_31 11 = sg_28 11 from ksv_31 11 (by decide)); have : (sg_28 11).toInt = -1 := (by rw [up_at esg_28]; rfl); have := (hvx).1; have := (hvx).2; have := (hvtx).1; have := (hvtx).2; have := (show iv 0 1201 (sgv_40 9) from CI_s hIv_40 9).1; have := (show iv 0 1201 (sgv_40 9) from CI_s hIv_40 9).2; have := (show iv 0 1201 (sgv_35 9) from CI_s hIv_35 9).1; have := (show iv 0 1201 (sgv_35 9) from CI_s hIv_35 9).2; have := (show iv 0 1201 (sgv_31 9) from CI_s hIv_31 9).1; have := (show iv 0 1201 (sgv_31 9) from CI_s hIv_31 9).2; have := (show iv 0 1201 (sg_28 9) from CI_s hI_sg_28 9).1; have := (show iv 0 1201 (sg_28 9) from CI_s hI_sg_28 9).2; have := (show iv 0 1201 (sg_27 9) from CI_s hI_sg_27 9).1; have := (show iv 0 1201 (sg_27 9) from CI_s hI_sg_27 9).2; have := (show iv 0 1201 (sg_26 9) from CI_s hI_sg_26 9).1; have := (show iv 0 1201 (sg_26 9) from CI_s hI_sg_26 9).2; have := (show iv 0 1201 (sg_25 9) from CI_s hI_sg_25 9).1; have := (show iv 0 1201 (sg_25 9) from CI_s hI_sg_25 9).2; have := (show iv 0 1201 (sg_24 9) from CI_s hI_sg_24 9).1; have := (show iv 0 1201 (sg_24 9) from CI_s hI_sg_24 9).2; have := (show iv 0 1201 (sg 9) from CI_s hI 9).1; have := (show iv 0 1201 (sg 9) from CI_s hI 9).2; have := i32_0; have := i32_1; have := i32_2; have := i32_m1; have := congrArg Int32.toInt (show sgv_35 10 = sgv_31 10 from ksv_35 10 (by decide)); have := congrArg Int32.toInt (show sgv_31 10 = sg_28 10 from ksv_31 10 (by decide)); have := congrArg Int32.toInt (show sg_28 10 = sg_27 10 from up_ne esg_28 (by decide)); have : (sg_27 10).toInt = 0 := (by rw [up_at esg_27]; rfl); have := (hvx).1; have := (hvx).2; have := (hvtx).1; have := (hvtx).2; have := (hvln).1; have := (hvln).2; omega)) ((by have := i32_0; have := i32_0; have := i32_1; have := i32_2; have := i32_m1; have := (show iv 0 80 (sgv_40 4) from CI_s hIv_40 4).1; have := (show iv 0 80 (sgv_40 4) from CI_s hIv_40 4).2; have := congrArg Int32.toInt (show sgv_35 4 = sgv_31 4 from ksv_35 4 (by decide)); have := (show iv 0 80 (sgv_31 4) from CI_s hIv_31 4).1; have := (show iv 0 80 (sgv_31 4) from CI_s hIv_31 4).2; have := congrArg Int32.toInt (show sg_28 4 = sg_27 4 from up_ne esg_28 (by decide)); have := congrArg Int32.toInt (show sg_27 4 = sg_26 4 from up_ne esg_27 (by decide)); have := congrArg Int32.toInt (show sg_26 4 = sg_25 4 from up_ne esg_26 (by decide)); have := congrArg Int32.toInt (show sg_25 4 = sg_24 4 from up_ne esg_25 (by decide)); have := congrArg Int32.toInt (show sg_24 4 = sg 4 from up_ne esg_24 (by decide)); have := (show iv 0 80 (sg 4) from CI_s hI 4).1; have := (show iv 0 80 (sg 4) from CI_s hI 4).2; have := (show iv 0 240 (sgv_40 5) from CI_s hIv_40 5).1; have := (show iv 0 240 (sgv_40 5) from CI_s hIv_40 5).2; have := congrArg Int32.toInt (show sgv_35 5 = sgv_31 5 from ksv_35 5 (by decide)); have := (show iv 0 240 (sgv_31 5) from CI_s hIv_31 5).1; have := (show iv 0 240 (sgv_31 5) from CI_s hIv_31 5).2; have := congrArg Int32.toInt (show sg_28 5 = sg_27 5 from up_ne esg_28 (by decide)); have := congrArg Int32.toInt (show sg_27 5 = sg_26 5 from up_ne esg_27 (by decide)); have := congrArg Int32.toInt (show sg_26 5 = sg_25 5 from up_ne esg_26 (by decide)); have := congrArg Int32.toInt (show sg_25 5 = sg_24 5 from up_ne esg_25 (by decide)); have := congrArg Int32.toInt (show sg_24 5 = sg 5 from up_ne esg_24 (by decide)); have := (show iv 0 240 (sg 5) from CI_s hI 5).1; have := (show iv 0 240 (sg 5) from CI_s hI 5).2; have := (show iv 0 1200 (sgv_40 6) from CI_s hIv_40 6).1; have := (show iv 0 1200 (sgv_40 6) from CI_s hIv_40 6).2; have := congrArg Int32.toInt (show sgv_35 6 = sgv_31 6 from ksv_35 6 (by decide)); have := (show iv 0 1200 (sgv_31 6) from CI_s hIv_31 6).1; have := (show iv 0 1200 (sgv_31 6) from CI_s hIv_31 6).2; have := congrArg Int32.toInt (show sg_28 6 = sg_27 6 from up_ne esg_28 (by decide)); have := congrArg Int32.toInt (show sg_27 6 = sg_26 6 from up_ne esg_27 (by decide)); have := congrArg Int32.toInt (show sg_26 6 = sg_25 6 from up_ne esg_26 (by decide)); have := congrArg Int32.toInt (show sg_25 6 = sg_24 6 from up_ne esg_25 (by decide)); have := congrArg Int32.toInt (show sg_24 6 = sg 6 from up_ne esg_24 (by decide)); have := (show iv 0 1200 (sg 6) from CI_s hI 6).1; have := (show iv 0 1200 (sg 6) from CI_s hI 6).2; have := congrArg Int32.toInt (show sgv_40 7 = sgv_35 7 from ksv_40 7 (by decide)); have := congrArg Int32.toInt (show sgv_35 7 = sgv_31 7 from ksv_35 7 (by decide)); have := congrArg Int32.toInt (show sgv_31 7 = sg_28 7 from ksv_31 7 (by decide)); have := congrArg Int32.toInt (show sg_28 7 = sg_27 7 from up_ne esg_28 (by decide)); have := congrArg Int32.toInt (show sg_27 7 = sg_26 7 from up_ne esg_27 (by decide)); have := congrArg Int32.toInt (show sg_26 7 = sg_25 7 from up_ne esg_26 (by decide)); have := congrArg Int32.toInt (show sg_25 7 = sg_24 7 from up_ne esg_25 (by decide)); have := congrArg Int32.toInt (show sg_24 7 = tx from up_at esg_24); have := congrArg Int32.toInt (show sgv_40 8 = sgv_35 8 from ksv_40 8 (by decide)); have := congrArg Int32.toInt (show sgv_35 8 = sgv_31 8 from ksv_35 8 (by decide)); have := congrArg Int32.toInt (show sgv_31 8 = sg_28 8 from ksv_31 8 (by decide)); have := congrArg Int32.toInt (show sg_28 8 = sg_27 8 from up_ne esg_28 (by decide)); have := congrArg Int32.toInt (show sg_27 8 = sg_26 8 from up_ne esg_27 (by decide)); have := congrArg Int32.toInt (show sg_26 8 = sg_25 8 from up_ne esg_26 (by decide)); have := congrArg Int32.toInt (show sg_25 8 = ln from up_at esg_25); have := (hvln).1; have := (hvln).2; have := (show iv 0 1201 (sgv_40 9) from CI_s hIv_40 9).1; have := (show iv 0 1201 (sgv_40 9) from CI_s hIv_40 9).2; have := (show iv 0 1201 (sgv_35 9) from CI_s hIv_35 9).1; have := (show iv 0 1201 (sgv_35 9) from CI_s hIv_35 9).2; have := congrArg Int32.toInt (show sgv_31 9 = sg_28 9 from ksv_31 9 (by decide)); have := congrArg Int32.toInt (show sg_28 9 = sg_27 9 from up_ne esg_28 (by decide)); have := congrArg Int32.toInt (show sg_27 9 = sg_26 9 from up_ne esg_27 (by decide)); have : (sg_26 9).toInt = 0 := (by rw [up_at esg_26]; rfl); have := (show iv (-1201) 6 (sgv_40 10) from CI_s hIv_40 10).1; have := (show iv (-1201) 6 (sgv_40 10) from CI_s hIv_40 10).2; have := congrArg Int32.toInt (show sgv_35 10 = sgv_31 10 from ksv_35 10 (by decide)); have := congrArg Int32.toInt (show sgv_31 10 = sg_28 10 from ksv_31 10 (by decide)); have := congrArg Int32.toInt (show sg_28 10 = sg_27 10 from up_ne esg_28 (by decide)); have : (sg_27 10).toInt = 0 := (by rw [up_at esg_27]; rfl); have := (show iv (-1) 79 (sgv_40 11) from CI_s hIv_40 11).1; have := (show iv (-1) 79 (sgv_40 11) from CI_s hIv_40 11).2; have := congrArg Int32.toInt (show sgv_35 11 = sgv_31 11 from ksv_35 11 (by decide)); have := congrArg Int32.toInt (show sgv_31 11 = sg_28 11 from ksv_31 11 (by decide)); have : (sg_28 11).toInt = -1 := (by rw [up_at esg_28]; rfl); have := (hvx).1; have := (hvx).2; have := (hvtx).1; have := (hvtx).2; have := (show iv 0 1201 (sgv_40 9) from CI_s hIv_40 9).1; have := (show iv 0 1201 (sgv_40 9) from CI_s hIv_40 9).2; have := (show iv 0 1201 (sgv_35 9) from CI_s hIv_35 9).1; have := (show iv 0 1201 (sgv_35 9) from CI_s hIv_35 9).2; have := (show iv 0 1201 (sgv_31 9) from CI_s hIv_31 9).1; have := (show iv 0 1201 (sgv_31 9) from CI_s hIv_31 9).2; have := (show iv 0 1201 (sg_28 9) from CI_s hI_sg_28 9).1; have := (show iv 0 1201 (sg_28 9) from CI_s hI_sg_28 9).2; have := (show iv 0 1201 (sg_27 9) from CI_s hI_sg_27 9).1; have := (show iv 0 1201 (sg_27 9) from CI_s hI_sg_27 9).2; have := (show iv 0 1201 (sg_26 9) from CI_s hI_sg_26 9).1; have := (show iv 0 1201 (sg_26 9) from CI_s hI_sg_26 9).2; have := (show iv 0 1201 (sg_25 9) from CI_s hI_sg_25 9).1; have := (show iv 0 1201 (sg_25 9) from CI_s hI_sg_25 9).2; have := (show iv 0 1201 (sg_24 9) from CI_s hI_sg_24 9).1; have := (show iv 0 1201 (sg_24 9) from CI_s hI_sg_24 9).2; have := (show iv 0 1201 (sg 9) from CI_s hI 9).1; have := (show iv 0 1201 (sg 9) from CI_s hI 9).2; omega)) ((by have hB := fB_r_32; rw [show (sgv_31 9).toInt.toNat = 0 from (by have := i32_0; have := i32_1; have := i32_2; have := i32_m1; have := (show iv 0 80 (sgv_40 4) from CI_s hIv_40 4).1; have := (show iv 0 80 (sgv_40 4) from CI_s hIv_40 4).2; have := congrArg Int32.toInt (show sgv_35 4 = sgv_31 4 from ksv_35 4 (by decide)); have := (show iv 0 80 (sgv_31 4) from CI_s hIv_31 4).1; have := (show iv 0 80 (sgv_31 4) from CI_s hIv_31 4).2; have := congrArg Int32.toInt (show sg_28 4 = sg_27 4 from up_ne esg_28 (by decide)); have := congrArg Int32.toInt (show sg_27 4 = sg_26 4 from up_ne esg_27 (by decide)); have := congrArg Int32.toInt (show sg_26 4 = sg_25 4 from up_ne esg_26 (by decide)); have := congrArg Int32.toInt (show sg_25 4 = sg_24 4 from up_ne esg_25 (by decide)); have := congrArg Int32.toInt (show sg_24 4 = sg 4 from up_ne esg_24 (by decide)); have := (show iv 0 80 (sg 4) from CI_s hI 4).1; have := (show iv 0 80 (sg 4) from CI_s hI 4).2; have := (show iv 0 240 (sgv_40 5) from CI_s hIv_40 5).1; have := (show iv 0 240 (sgv_40 5) from CI_s hIv_40 5).2; have := congrArg Int32.toInt (show sgv_35 5 = sgv_31 5 from ksv_35 5 (by decide)); have := (show iv 0 240 (sgv_31 5) from CI_s hIv_31 5).1; have := (show iv 0 240 (sgv_31 5) from CI_s hIv_31 5).2; have := congrArg Int32.toInt (show sg_28 5 = sg_27 5 from up_ne esg_28 (by decide)); have := congrArg Int32.toInt (show sg_27 5 = sg_26 5 from up_ne esg_27 (by decide)); have := congrArg Int32.toInt (show sg_26 5 = sg_25 5 from up_ne esg_26 (by decide)); have := congrArg Int32.toInt (show sg_25 5 = sg_24 5 from up_ne esg_25 (by decide)); have := congrArg Int32.toInt (show sg_24 5 = sg 5 from up_ne esg_24 (by decide)); have := (show iv 0 240 (sg 5) from CI_s hI 5).1; have := (show iv 0 240 (sg 5) from CI_s hI 5).2; have := (show iv 0 1200 (sgv_40 6) from CI_s hIv_40 6).1; have := (show iv 0 1200 (sgv_40 6) from CI_s hIv_40 6).2; have := congrArg Int32.toInt (show sgv_35 6 = sgv_31 6 from ksv_35 6 (by decide)); have := (show iv 0 1200 (sgv_31 6) from CI_s hIv_31 6).1; have := (show iv 0 1200 (sgv_31 6) from CI_s hIv_31 6).2; have := congrArg Int32.toInt (show sg_28 6 = sg_27 6 from up_ne esg_28 (by decide)); have := congrArg Int32.toInt (show sg_27 6 = sg_26 6 from up_ne esg_27 (by decide)); have := congrArg Int32.toInt (show sg_26 6 = sg_25 6 from up_ne esg_26 (by decide)); have := congrArg Int32.toInt (show sg_25 6 = sg_24 6 from up_ne esg_25 (by decide)); have := congrArg Int32.toInt (show sg_24 6 = sg 6 from up_ne esg_24 (by decide)); have := (show iv 0 1200 (sg 6) from CI_s hI 6).1; have := (show iv 0 1200 (sg 6) from CI_s hI 6).2; have := congrArg Int32.toInt (show sgv_40 7 = sgv_35 7 from ksv_40 7 (by decide)); have := congrArg Int32.toInt (show sgv_35 7 = sgv_31 7 from ksv_35 7 (by decide)); have := congrArg Int32.toInt (show sgv_31 7 = sg_28 7 from ksv_31 7 (by decide)); have := congrArg Int32.toInt (show sg_28 7 = sg_27 7 from up_ne esg_28 (by decide)); have := congrArg Int32.toInt (show sg_27 7 = sg_26 7 from up_ne esg_27 (by decide)); have := congrArg Int32.toInt (show sg_26 7 = sg_25 7 from up_ne esg_26 (by decide)); have := congrArg Int32.toInt (show sg_25 7 = sg_24 7 from up_ne esg_25 (by decide)); have := congrArg Int32.toInt (show sg_24 7 = tx from up_at esg_24); have := congrArg Int32.toInt (show sgv_40 8 = sgv_35 8 from ksv_40 8 (by decide)); have := congrArg Int32.toInt (show sgv_35 8 = sgv_31 8 from ksv_35 8 (by decide)); have := congrArg Int32.toInt (show sgv_31 8 = sg_28 8 from ksv_31 8 (by decide)); have := congrArg Int32.toInt (show sg_28 8 = sg_27 8 from up_ne esg_28 (by decide)); have := congrArg Int32.toInt (show sg_27 8 = sg_26 8 from up_ne esg_27 (by decide)); have := congrArg Int32.toInt (show sg_26 8 = sg_25 8 from up_ne esg_26 (by decide)); have := congrArg Int32.toInt (show sg_25 8 = ln from up_at esg_25); have := (hvln).1; have := (hvln).2; have := (show iv 0 1201 (sgv_40 9) from CI_s hIv_40 9).1; have := (show iv 0 1201 (sgv_40 9) from CI_s hIv_40 9).2; have := (show iv 0 1201 (sgv_35 9) from CI_s hIv_35 9).1; have := (show iv 0 1201 (sgv_35 9) from CI_s hIv_35 9).2; have := congrArg Int32.toInt (show sgv_31 9 = sg_28 9 from ksv_31 9 (by decide)); have := congrArg Int32.toInt (show sg_28 9 = sg_27 9 from up_ne esg_28 (by decide)); have := congrArg Int32.toInt (show sg_27 9 = sg_26 9 from up_ne esg_27 (by decide)); have : (sg_26 9).toInt = 0 := (by rw [up_at esg_26]; rfl); have := (show iv (-1201) 6 (sgv_40 10) from CI_s hIv_40 10).1; have := (show iv (-1201) 6 (sgv_40 10) from CI_s hIv_40 10).2; have := congrArg Int32.toInt (show sgv_35 10 = sgv_31 10 from ksv_35 10 (by decide)); have := congrArg Int32.toInt (show sgv_31 10 = sg_28 10 from ksv_31 10 (by decide)); have := congrArg Int32.toInt (show sg_28 10 = sg_27 10 from up_ne esg_28 (by decide)); have : (sg_27 10).toInt = 0 := (by rw [up_at esg_27]; rfl); have := (show iv (-1) 79 (sgv_40 11) from CI_s hIv_40 11).1; have := (show iv (-1) 79 (sgv_40 11) from CI_s hIv_40 11).2; have := congrArg Int32.toInt (show sgv_35 11 = sgv_31 11 from ksv_35 11 (by decide)); have := congrArg Int32.toInt (show sgv_31 11 = sg_28 11 from ksv_31 11 (by decide)); have : (sg_28 11).toInt = -1 := (by rw [up_at esg_28]; rfl); have := (hvx).1; have := (hvx).2; have := (hvtx).1; have := (hvtx).2; have := (show iv 0 1201 (sgv_40 9) from CI_s hIv_40 9).1; have := (show iv 0 1201 (sgv_40 9) from CI_s hIv_40 9).2; have := (show iv 0 1201 (sgv_35 9) from CI_s hIv_35 9).1; have := (show iv 0 1201 (sgv_35 9) from CI_s hIv_35 9).2; have := (show iv 0 1201 (sgv_31 9) from CI_s hIv_31 9).1; have := (show iv 0 1201 (sgv_31 9) from CI_s hIv_31 9).2; have := (show iv 0 1201 (sg_28 9) from CI_s hI_sg_28 9).1; have := (show iv 0 1201 (sg_28 9) from CI_s hI_sg_28 9).2; have := (show iv 0 1201 (sg_27 9) from CI_s hI_sg_27 9).1; have := (show iv 0 1201 (sg_27 9) from CI_s hI_sg_27 9).2; have := (show iv 0 1201 (sg_26 9) from CI_s hI_sg_26 9).1; have := (show iv 0 1201 (sg_26 9) from CI_s hI_sg_26 9).2; have := (show iv 0 1201 (sg_25 9) from CI_s hI_sg_25 9).1; have := (show iv 0 1201 (sg_25 9) from CI_s hI_sg_25 9).2; have := (show iv 0 1201 (sg_24 9) from CI_s hI_sg_24 9).1; have := (show iv 0 1201 (sg_24 9) from CI_s hI_sg_24 9).2; have := (show iv 0 1201 (sg 9) from CI_s hI 9).1; have := (show iv 0 1201 (sg 9) from CI_s hI 9).2; have := i32_0; have := i32_1; have := i32_2; have := i32_m1; have := (show iv 0 1201 (sgv_40 9) from CI_s hIv_40 9).1; have := (show iv 0 1201 (sgv_40 9) from CI_s hIv_40 9).2; have := (show iv 0 1201 (sgv_35 9) from CI_s hIv_35 9).1; have := (show iv 0 1201 (sgv_35 9) from CI_s hIv_35 9).2; have := congrArg Int32.toInt (show sgv_31 9 = sg_28 9 from ksv_31 9 (by decide)); have := congrArg Int32.toInt (show sg_28 9 = sg_27 9 from up_ne esg_28 (by decide)); have := congrArg Int32.toInt (show sg_27 9 = sg_26 9 from up_ne esg_27 (by decide)); have : (sg_26 9).toInt = 0 := (by rw [up_at esg_26]; rfl); have := (hvx).1; have := (hvx).2; have := (hvtx).1; have := (hvtx).2; have := (hvln).1; have := (hvln).2; omega)] at hB; obtain ⟨k, q, c9, y1, y2, y3⟩ := fO_r_36; rw [show (sgv_35 10).toInt.toNat = 0 from (by have := i32_0; have := i32_1; have := i32_2; have := i32_m1; have := (show iv 0 80 (sgv_40 4) from CI_s hIv_40 4).1; have := (show iv 0 80 (sgv_40 4) from CI_s hIv_40 4).2; have := congrArg Int32.toInt (show sgv_35 4 = sgv_31 4 from ksv_35 4 (by decide)); have := (show iv 0 80 (sgv_31 4) from CI_s hIv_31 4).1; have := (show iv 0 80 (sgv_31 4) from CI_s hIv_31 4).2; have := congrArg Int32.toInt (show sg_28 4 = sg_27 4 from up_ne esg_28 (by decide)); have := congrArg Int32.toInt (show sg_27 4 = sg_26 4 from up_ne esg_27 (by decide)); have := congrArg Int32.toInt (show sg_26 4 = sg_25 4 from up_ne esg_26 (by decide)); have := congrArg Int32.toInt (show sg_25 4 = sg_24 4 from up_ne esg_25 (by decide)); have := congrArg Int32.toInt (show sg_24 4 = sg 4 from up_ne esg_24 (by decide)); have := (show iv 0 80 (sg 4) from CI_s hI 4).1; have := (show iv 0 80 (sg 4) from CI_s hI 4).2; have := (show iv 0 240 (sgv_40 5) from CI_s hIv_40 5).1; have := (show iv 0 240 (sgv_40 5) from CI_s hIv_40 5).2; have := congrArg Int32.toInt (show sgv_35 5 = sgv_31 5 from ksv_35 5 (by decide)); have := (show iv 0 240 (sgv_31 5) from CI_s hIv_31 5).1; have := (show iv 0 240 (sgv_31 5) from CI_s hIv_31 5).2; have := congrArg Int32.toInt (show sg_28 5 = sg_27 5 from up_ne esg_28 (by decide)); have := congrArg Int32.toInt (show sg_27 5 = sg_26 5 from up_ne esg_27 (by decide)); have := congrArg Int32.toInt (show sg_26 5 = sg_25 5 from up_ne esg_26 (by decide)); have := congrArg Int32.toInt (show sg_25 5 = sg_24 5 from up_ne esg_25 (by decide)); have := congrArg Int32.toInt (show sg_24 5 = sg 5 from up_ne esg_24 (by decide)); have := (show iv 0 240 (sg 5) from CI_s hI 5).1; have := (show iv 0 240 (sg 5) from CI_s hI 5).2; have := (show iv 0 1200 (sgv_40 6) from CI_s hIv_40 6).1; have := (show iv 0 1200 (sgv_40 6) from CI_s hIv_40 6).2; have := congrArg Int32.toInt (show sgv_35 6 = sgv_31 6 from ksv_35 6 (by decide)); have := (show iv 0 1200 (sgv_31 6) from CI_s hIv_31 6).1; have := (show iv 0 1200 (sgv_31 6) from CI_s hIv_31 6).2; have := congrArg Int32.toInt (show sg_28 6 = sg_27 6 from up_ne esg_28 (by decide)); have := congrArg Int32.toInt (show sg_27 6 = sg_26 6 from up_ne esg_27 (by decide)); have := congrArg Int32.toInt (show sg_26 6 = sg_25 6 from up_ne esg_26 (by decide)); have := congrArg Int32.toInt (show sg_25 6 = sg_24 6 from up_ne esg_25 (by decide)); have := congrArg Int32.toInt (show sg_24 6 = sg 6 from up_ne esg_24 (by decide)); have := (show iv 0 1200 (sg 6) from CI_s hI 6).1; have := (show iv 0 1200 (sg 6) from CI_s hI 6).2; have := congrArg Int32.toInt (show sgv_40 7 = sgv_35 7 from ksv_40 7 (by decide)); have := congrArg Int32.toInt (show sgv_35 7 = sgv_31 7 from ksv_35 7 (by decide)); have := congrArg Int32.toInt (show sgv_31 7 = sg_28 7 from ksv_31 7 (by decide)); have := congrArg Int32.toInt (show sg_28 7 = sg_27 7 from up_ne esg_28 (by decide)); have := congrArg Int32.toInt (show sg_27 7 = sg_26 7 from up_ne esg_27 (by decide)); have := congrArg Int32.toInt (show sg_26 7 = sg_25 7 from up_ne esg_26 (by decide)); have := congrArg Int32.toInt (show sg_25 7 = sg_24 7 from up_ne esg_25 (by decide)); have := congrArg Int32.toInt (show sg_24 7 = tx from up_at esg_24); have := congrArg Int32.toInt (show sgv_40 8 = sgv_35 8 from ksv_40 8 (by decide)); have := congrArg Int32.toInt (show sgv_35 8 = sgv_31 8 from ksv_35 8 (by decide)); have := congrArg Int32.toInt (show sgv_31 8 = sg_28 8 from ksv_31 8 (by decide)); have := congrArg Int32.toInt (show sg_28 8 = sg_27 8 from up_ne esg_28 (by decide)); have := congrArg Int32.toInt (show sg_27 8 = sg_26 8 from up_ne esg_27 (by decide)); have := congrArg Int32.toInt (show sg_26 8 = sg_25 8 from up_ne esg_26 (by decide)); have := congrArg Int32.toInt (show sg_25 8 = ln from up_at esg_25); have := (hvln).1; have := (hvln).2; have := (show iv 0 1201 (sgv_40 9) from CI_s hIv_40 9).1; have := (show iv 0 1201 (sgv_40 9) from CI_s hIv_40 9).2; have := (show iv 0 1201 (sgv_35 9) from CI_s hIv_35 9).1; have := (show iv 0 1201 (sgv_35 9) from CI_s hIv_35 9).2; have := congrArg Int32.toInt (show sgv_31 9 = sg_28 9 from ksv_31 9 (by decide)); have := congrArg Int32.toInt (show sg_28 9 = sg_27 9 from up_ne esg_28 (by decide)); have := congrArg Int32.toInt (show sg_27 9 = sg_26 9 from up_ne esg_27 (by decide)); have : (sg_26 9).toInt = 0 := (by rw [up_at esg_26]; rfl); have := (show iv (-1201) 6 (sgv_40 10) from CI_s hIv_40 10).1; have := (show iv (-1201) 6 (sgv_40 10) from CI_s hIv_40 10).2; have := congrArg Int32.toInt (show sgv_35 10 = sgv_31 10 from ksv_35 10 (by decide)); have := congrArg Int32.toInt (show sgv_31 10 = sg_28 10 from ksv_31 10 (by decide)); have := congrArg Int32.toInt (show sg_28 10 = sg_27 10 from up_ne esg_28 (by decide)); have : (sg_27 10).toInt = 0 := (by rw [up_at esg_27]; rfl); have := (show iv (-1) 79 (sgv_40 11) from CI_s hIv_40 11).1; have := (show iv (-1) 79 (sgv_40 11) from CI_s hIv_40 11).2; have := congrArg Int32.toInt (show sgv_35 11 = sgv_31 11 from ksv_35 11 (by decide)); have := congrArg Int32.toInt (show sgv_31 11 = sg_28 11 from ksv_31 11 (by decide)); have : (sg_28 11).toInt = -1 := (by rw [up_at esg_28]; rfl); have := (hvx).1; have := (hvx).2; have := (hvtx).1; have := (hvtx).2; have := (show iv 0 1201 (sgv_40 9) from CI_s hIv_40 9).1; have := (show iv 0 1201 (sgv_40 9) from CI_s hIv_40 9).2; have := (show iv 0 1201 (sgv_35 9) from CI_s hIv_35 9).1; have := (show iv 0 1201 (sgv_35 9) from CI_s hIv_35 9).2; have := (show iv 0 1201 (sgv_31 9) from CI_s hIv_31 9).1; have := (show iv 0 1201 (sgv_31 9) from CI_s hIv_31 9).2; have := (show iv 0 1201 (sg_28 9) from CI_s hI_sg_28 9).1; have := (show iv 0 1201 (sg_28 9) from CI_s hI_sg_28 9).2; have := (show iv 0 1201 (sg_27 9) from CI_s hI_sg_27 9).1; have := (show iv 0 1201 (sg_27 9) from CI_s hI_sg_27 9).2; have := (show iv 0 1201 (sg_26 9) from CI_s hI_sg_26 9).1; have := (show iv 0 1201 (sg_26 9) from CI_s hI_sg_26 9).2; have := (show iv 0 1201 (sg_25 9) from CI_s hI_sg_25 9).1; have := (show iv 0 1201 (sg_25 9) from CI_s hI_sg_25 9).2; have := (show iv 0 1201 (sg_24 9) from CI_s hI_sg_24 9).1; have := (show iv 0 1201 (sg_24 9) from CI_s hI_sg_24 9).2; have := (show iv 0 1201 (sg 9) from CI_s hI 9).1; have := (show iv 0 1201 (sg 9) from CI_s hI 9).2; have := i32_0; have := i32_1; have := i32_2; have := i32_m1; have := (show iv (-1201) 6 (sgv_40 10) from CI_s hIv_40 10).1; have := (show iv (-1201) 6 (sgv_40 10) from CI_s hIv_40 10).2; have := congrArg Int32.toInt (show sgv_35 10 = sgv_31 10 from ksv_35 10 (by decide)); have := congrArg Int32.toInt (show sgv_31 10 = sg_28 10 from ksv_31 10 (by decide)); have := congrArg Int32.toInt (show sg_28 10 = sg_27 10 from up_ne esg_28 (by decide)); have : (sg_27 10).toInt = 0 := (by rw [up_at esg_27]; rfl); have := (hvx).1; have := (hvx).2; have := (hvtx).1; have := (hvtx).2; have := (hvln).1; have := (hvln).2; omega)] at y1; have e11 : (sgv_35 11).toInt = -1 := (by have := i32_0; have := i32_1; have := i32_2; have := i32_m1; have := (show iv 0 80 (sgv_40 4) from CI_s hIv_40 4).1; have := (show iv 0 80 (sgv_40 4) from CI_s hIv_40 4).2; have := congrArg Int32.toInt (show sgv_35 4 = sgv_31 4 from ksv_35 4 (by decide)); have := (show iv 0 80 (sgv_31 4) from CI_s hIv_31 4).1; have := (show iv 0 80 (sgv_31 4) from CI_s hIv_31 4).2; have := congrArg Int32.toInt (show sg_28 4 = sg_27 4 from up_ne esg_28 (by decide)); have := congrArg Int32.toInt (show sg_27 4 = sg_26 4 from up_ne esg_27 (by decide)); have := congrArg Int32.toInt (show sg_26 4 = sg_25 4 from up_ne esg_26 (by decide)); have := congrArg Int32.toInt (show sg_25 4 = sg_24 4 from up_ne esg_25 (by decide)); have := congrArg Int32.toInt (show sg_24 4 = sg 4 from up_ne esg_24 (by decide)); have := (show iv 0 80 (sg 4) from CI_s hI 4).1; have := (show iv 0 80 (sg 4) from CI_s hI 4).2; have := (show iv 0 240 (sgv_40 5) from CI_s hIv_40 5).1; have := (show iv 0 240 (sgv_40 5) from CI_s hIv_40 5).2; have := congrArg Int32.toInt (show sgv_35 5 = sgv_31 5 from ksv_35 5 (by decide)); have := (show iv 0 240 (sgv_31 5) from CI_s hIv_31 5).1; have := (show iv 0 240 (sgv_31 5) from CI_s hIv_31 5).2; have := congrArg Int32.toInt (show sg_28 5 = sg_27 5 from up_ne esg_28 (by decide)); have := congrArg Int32.toInt (show sg_27 5 = sg_26 5 from up_ne esg_27 (by decide)); have := congrArg Int32.toInt (show sg_26 5 = sg_25 5 from up_ne esg_26 (by decide)); have := congrArg Int32.toInt (show sg_25 5 = sg_24 5 from up_ne esg_25 (by decide)); have := congrArg Int32.toInt (show sg_24 5 = sg 5 from up_ne esg_24 (by decide)); have := (show iv 0 240 (sg 5) from CI_s hI 5).1; have := (show iv 0 240 (sg 5) from CI_s hI 5).2; have := (show iv 0 1200 (sgv_40 6) from CI_s hIv_40 6).1; have := (show iv 0 1200 (sgv_40 6) from CI_s hIv_40 6).2; have := congrArg Int32.toInt (show sgv_35 6 = sgv_31 6 from ksv_35 6 (by decide)); have := (show iv 0 1200 (sgv_31 6) from CI_s hIv_31 6).1; have := (show iv 0 1200 (sgv_31 6) from CI_s hIv_31 6).2; have := congrArg Int32.toInt (show sg_28 6 = sg_27 6 from up_ne esg_28 (by decide)); have := congrArg Int32.toInt (show sg_27 6 = sg_26 6 from up_ne esg_27 (by decide)); have := congrArg Int32.toInt (show sg_26 6 = sg_25 6 from up_ne esg_26 (by decide)); have := congrArg Int32.toInt (show sg_25 6 = sg_24 6 from up_ne esg_25 (by decide)); have := congrArg Int32.toInt (show sg_24 6 = sg 6 from up_ne esg_24 (by decide)); have := (show iv 0 1200 (sg 6) from CI_s hI 6).1; have := (show iv 0 1200 (sg 6) from CI_s hI 6).2; have := congrArg Int32.toInt (show sgv_40 7 = sgv_35 7 from ksv_40 7 (by decide)); have := congrArg Int32.toInt (show sgv_35 7 = sgv_31 7 from ksv_35 7 (by decide)); have := congrArg Int32.toInt (show sgv_31 7 = sg_28 7 from ksv_31 7 (by decide)); have := congrArg Int32.toInt (show sg_28 7 = sg_27 7 from up_ne esg_28 (by decide)); have := congrArg Int32.toInt (show sg_27 7 = sg_26 7 from up_ne esg_27 (by decide)); have := congrArg Int32.toInt (show sg_26 7 = sg_25 7 from up_ne esg_26 (by decide)); have := congrArg Int32.toInt (show sg_25 7 = sg_24 7 from up_ne esg_25 (by decide)); have := congrArg Int32.toInt (show sg_24 7 = tx from up_at esg_24); have := congrArg Int32.toInt (show sgv_40 8 = sgv_35 8 from ksv_40 8 (by decide)); have := congrArg Int32.toInt (show sgv_35 8 = sgv_31 8 from ksv_35 8 (by decide)); have := congrArg Int32.toInt (show sgv_31 8 = sg_28 8 from ksv_31 8 (by decide)); have := congrArg Int32.toInt (show sg_28 8 = sg_27 8 from up_ne esg_28 (by decide)); have := congrArg Int32.toInt (show sg_27 8 = sg_26 8 from up_ne esg_27 (by decide)); have := congrArg Int32.toInt (show sg_26 8 = sg_25 8 from up_ne esg_26 (by decide)); have := congrArg Int32.toInt (show sg_25 8 = ln from up_at esg_25); have := (hvln).1; have := (hvln).2; have := (show iv 0 1201 (sgv_40 9) from CI_s hIv_40 9).1; have := (show iv 0 1201 (sgv_40 9) from CI_s hIv_40 9).2; have := (show iv 0 1201 (sgv_35 9) from CI_s hIv_35 9).1; have := (show iv 0 1201 (sgv_35 9) from CI_s hIv_35 9).2; have := congrArg Int32.toInt (show sgv_31 9 = sg_28 9 from ksv_31 9 (by decide)); have := congrArg Int32.toInt (show sg_28 9 = sg_27 9 from up_ne esg_28 (by decide)); have := congrArg Int32.toInt (show sg_27 9 = sg_26 9 from up_ne esg_27 (by decide)); have : (sg_26 9).toInt = 0 := (by rw [up_at esg_26]; rfl); have := (show iv (-1201) 6 (sgv_40 10) from CI_s hIv_40 10).1; have := (show iv (-1201) 6 (sgv_40 10) from CI_s hIv_40 10).2; have := congrArg Int32.toInt (show sgv_35 10 = sgv_31 10 from ksv_35 10 (by decide)); have := congrArg Int32.toInt (show sgv_31 10 = sg_28 10 from ksv_31 10 (by decide)); have := congrArg Int32.toInt (show sg_28 10 = sg_27 10 from up_ne esg_28 (by decide)); have : (sg_27 10).toInt = 0 := (by rw [up_at esg_27]; rfl); have := (show iv (-1) 79 (sgv_40 11) from CI_s hIv_40 11).1; have := (show iv (-1) 79 (sgv_40 11) from CI_s hIv_40 11).2; have := congrArg Int32.toInt (show sgv_35 11 = sgv_31 11 from ksv_35 11 (by decide)); have := congrArg Int32.toInt (show sgv_31 11 = sg_28 11 from ksv_31 11 (by decide)); have : (sg_28 11).toInt = -1 := (by rw [up_at esg_28]; rfl); have := (hvx).1; have := (hvx).2; have := (hvtx).1; have := (hvtx).2; have := (show iv 0 1201 (sgv_40 9) from CI_s hIv_40 9).1; have := (show iv 0 1201 (sgv_40 9) from CI_s hIv_40 9).2; have := (show iv 0 1201 (sgv_35 9) from CI_s hIv_35 9).1; have := (show iv 0 1201 (sgv_35 9) from CI_s hIv_35 9).2; have := (show iv 0 1201 (sgv_31 9) from CI_s hIv_31 9).1; have := (show iv 0 1201 (sgv_31 9) from CI_s hIv_31 9).2; have := (show iv 0 1201 (sg_28 9) from CI_s hI_sg_28 9).1; have := (show iv 0 1201 (sg_28 9) from CI_s hI_sg_28 9).2; have := (show iv 0 1201 (sg_27 9) from CI_s hI_sg_27 9).1; have := (show iv 0 1201 (sg_27 9) from CI_s hI_sg_27 9).2; have := (show iv 0 1201 (sg_26 9) from CI_s hI_sg_26 9).1; have := (show iv 0 1201 (sg_26 9) from CI_s hI_sg_26 9).2; have := (show iv 0 1201 (sg_25 9) from CI_s hI_sg_25 9).1; have := (show iv 0 1201 (sg_25 9) from CI_s hI_sg_25 9).2; have := (show iv 0 1201 (sg_24 9) from CI_s hI_sg_24 9).1; have := (show iv 0 1201 (sg_24 9) from CI_s hI_sg_24 9).2; have := (show iv 0 1201 (sg 9) from CI_s hI 9).1; have := (show iv 0 1201 (sg 9) from CI_s hI 9).2; have := i32_0; have := i32_1; have := i32_2; have := i32_m1; have := (show iv (-1) 79 (sgv_40 11) from CI_s hIv_40 11).1; have := (show iv (-1) 79 (sgv_40 11) from CI_s hIv_40 11).2; have := congrArg Int32.toInt (show sgv_35 11 = sgv_31 11 from ksv_35 11 (by decide)); have := congrArg Int32.toInt (show sgv_31 11 = sg_28 11 from ksv_31 11 (by decide)); have : (sg_28 11).toInt = -1 := (by rw [up_at esg_28]; rfl); have := (hvx).1; have := (hvx).2; have := (hvtx).1; have := (hvtx).2; have := (hvln).1; have := (hvln).2; omega); have hU := sDoc_u hB y1; rw [e11] at y2; rcases y3 with ⟨w1, w2, w3⟩ | ⟨w1, w2, w3⟩; (rw [w1] at hU; refine ⟨_, y2, ?_, ?_⟩; (rw [show (sgv_40 10).toInt.toNat = 0 from (by have := congrArg Int32.toInt (show sgv_35 10 = sgv_31 10 from ksv_35 10 (by decide)); have := i32_0; have := i32_1; have := i32_2; have := i32_m1; have := (show iv 0 80 (sgv_40 4) from CI_s hIv_40 4).1; have := (show iv 0 80 (sgv_40 4) from CI_s hIv_40 4).2; have := congrArg Int32.toInt (show sgv_35 4 = sgv_31 4 from ksv_35 4 (by decide)); have := (show iv 0 80 (sgv_31 4) from CI_s hIv_31 4).1; have := (show iv 0 80 (sgv_31 4) from CI_s hIv_31 4).2; have := congrArg Int32.toInt (show sg_28 4 = sg_27 4 from up_ne esg_28 (by decide)); have := congrArg Int32.toInt (show sg_27 4 = sg_26 4 from up_ne esg_27 (by decide)); have := congrArg Int32.toInt (show sg_26 4 = sg_25 4 from up_ne esg_26 (by decide)); have := congrArg Int32.toInt (show sg_25 4 = sg_24 4 from up_ne esg_25 (by decide)); have := congrArg Int32.toInt (show sg_24 4 = sg 4 from up_ne esg_24 (by decide)); have := (show iv 0 80 (sg 4) from CI_s hI 4).1; have := (show iv 0 80 (sg 4) from CI_s hI 4).2; have := (show iv 0 240 (sgv_40 5) from CI_s hIv_40 5).1; have := (show iv 0 240 (sgv_40 5) from CI_s hIv_40 5).2; have := congrArg Int32.toInt (show sgv_35 5 = sgv_31 5 from ksv_35 5 (by decide)); have := (show iv 0 240 (sgv_31 5) from CI_s hIv_31 5).1; have := (show iv 0 240 (sgv_31 5) from CI_s hIv_31 5).2; have := congrArg Int32.toInt (show sg_28 5 = sg_27 5 from up_ne esg_28 (by decide)); have := congrArg Int32.toInt (show sg_27 5 = sg_26 5 from up_ne esg_27 (by decide)); have := congrArg Int32.toInt (show sg_26 5 = sg_25 5 from up_ne esg_26 (by decide)); have := congrArg Int32.toInt (show sg_25 5 = sg_24 5 from up_ne esg_25 (by decide)); have := congrArg Int32.toInt (show sg_24 5 = sg 5 from up_ne esg_24 (by decide)); have := (show iv 0 240 (sg 5) from CI_s hI 5).1; have := (show iv 0 240 (sg 5) from CI_s hI 5).2; have := (show iv 0 1200 (sgv_40 6) from CI_s hIv_40 6).1; have := (show iv 0 1200 (sgv_40 6) from CI_s hIv_40 6).2; have := congrArg Int32.toInt (show sgv_35 6 = sgv_31 6 from ksv_35 6 (by decide)); have := (show iv 0 1200 (sgv_31 6) from CI_s hIv_31 6).1; have := (show iv 0 1200 (sgv_31 6) from CI_s hIv_31 6).2; have := congrArg Int32.toInt (show sg_28 6 = sg_27 6 from up_ne esg_28 (by decide)); have := congrArg Int32.toInt (show sg_27 6 = sg_26 6 from up_ne esg_27 (by decide)); have := congrArg Int32.toInt (show sg_26 6 = sg_25 6 from up_ne esg_26 (by decide)); have := congrArg Int32.toInt (show sg_25 6 = sg_24 6 from up_ne esg_25 (by decide)); have := congrArg Int32.toInt (show sg_24 6 = sg 6 from up_ne esg_24 (by decide)); have := (show iv 0 1200 (sg 6) from CI_s hI 6).1; have := (show iv 0 1200 (sg 6) from CI_s hI 6).2; have := congrArg Int32.toInt (show sgv_40 7 = sgv_35 7 from ksv_40 7 (by decide)); have := congrArg Int32.toInt (show sgv_35 7 = sgv_31 7 from ksv_35 7 (by decide)); have := congrArg Int32.toInt (show sgv_31 7 = sg_28 7 from ksv_31 7 (by decide)); have := congrArg Int32.toInt (show sg_28 7 = sg_27 7 from up_ne esg_28 (by decide)); have := congrArg Int32.toInt (show sg_27 7 = sg_26 7 from up_ne esg_27 (by decide)); have := congrArg Int32.toInt (show sg_26 7 = sg_25 7 from up_ne esg_26 (by decide)); have := congrArg Int32.toInt (show sg_25 7 = sg_24 7 from up_ne esg_25 (by decide)); have := congrArg Int32.toInt (show sg_24 7 = tx from up_at esg_24); have := congrArg Int32.toInt (show sgv_40 8 = sgv_35 8 from ksv_40 8 (by decide)); have := congrArg Int32.toInt (show sgv_35 8 = sgv_31 8 from ksv_35 8 (by decide)); have := congrArg Int32.toInt (show sgv_31 8 = sg_28 8 from ksv_31 8 (by decide)); have := congrArg Int32.toInt (show sg_28 8 = sg_27 8 from up_ne esg_28 (by decide)); have := congrArg Int32.toInt (show sg_27 8 = sg_26 8 from up_ne esg_27 (by decide)); have := congrArg Int32.toInt (show sg_26 8 = sg_25 8 from up_ne esg_26 (by decide)); have := congrArg Int32.toInt (show sg_25 8 = ln from up_at esg_25); have := (hvln).1; have := (hvln).2; have := (show iv 0 1201 (sgv_40 9) from CI_s hIv_40 9).1; have := (show iv 0 1201 (sgv_40 9) from CI_s hIv_40 9).2; have := (show iv 0 1201 (sgv_35 9) from CI_s hIv_35 9).1; have := (show iv 0 1201 (sgv_35 9) from CI_s hIv_35 9).2; have := congrArg Int32.toInt (show sgv_31 9 = sg_28 9 from ksv_31 9 (by decide)); have := congrArg Int32.toInt (show sg_28 9 = sg_27 9 from up_ne esg_28 (by decide)); have := congrArg Int32.toInt (show sg_27 9 = sg_26 9 from up_ne esg_27 (by decide)); have : (sg_26 9).toInt = 0 := (by rw [up_at esg_26]; rfl); have := (show iv (-1201) 6 (sgv_40 10) from CI_s hIv_40 10).1; have := (show iv (-1201) 6 (sgv_40 10) from CI_s hIv_40 10).2; have := congrArg Int32.toInt (show sgv_35 10 = sgv_31 10 from ksv_35 10 (by decide)); have := congrArg Int32.toInt (show sgv_31 10 = sg_28 10 from ksv_31 10 (by decide)); have := congrArg Int32.toInt (show sg_28 10 = sg_27 10 from up_ne esg_28 (by decide)); have : (sg_27 10).toInt = 0 := (by rw [up_at esg_27]; rfl); have := (show iv (-1) 79 (sgv_40 11) from CI_s hIv_40 11).1; have := (show iv (-1) 79 (sgv_40 11) from CI_s hIv_40 11).2; have := congrArg Int32.toInt (show sgv_35 11 = sgv_31 11 from ksv_35 11 (by decide)); have := congrArg Int32.toInt (show sgv_31 11 = sg_28 11 from ksv_31 11 (by decide)); have : (sg_28 11).toInt = -1 := (by rw [up_at esg_28]; rfl); have := (hvx).1; have := (hvx).2; have := (hvtx).1; have := (hvtx).2; have := (show iv 0 1201 (sgv_40 9) from CI_s hIv_40 9).1; have := (show iv 0 1201 (sgv_40 9) from CI_s hIv_40 9).2; have := (show iv 0 1201 (sgv_35 9) from CI_s hIv_35 9).1; have := (show iv 0 1201 (sgv_35 9) from CI_s hIv_35 9).2; have := (show iv 0 1201 (sgv_31 9) from CI_s hIv_31 9).1; have := (show iv 0 1201 (sgv_31 9) from CI_s hIv_31 9).2; have := (show iv 0 1201 (sg_28 9) from CI_s hI_sg_28 9).1; have := (show iv 0 1201 (sg_28 9) from CI_s hI_sg_28 9).2; have := (show iv 0 1201 (sg_27 9) from CI_s hI_sg_27 9).1; have := (show iv 0 1201 (sg_27 9) from CI_s hI_sg_27 9).2; have := (show iv 0 1201 (sg_26 9) from CI_s hI_sg_26 9).1; have := (show iv 0 1201 (sg_26 9) from CI_s hI_sg_26 9).2; have := (show iv 0 1201 (sg_25 9) from CI_s hI_sg_25 9).1; have := (show iv 0 1201 (sg_25 9) from CI_s hI_sg_25 9).2; have := (show iv 0 1201 (sg_24 9) from CI_s hI_sg_24 9).1; have := (show iv 0 1201 (sg_24 9) from CI_s hI_sg_24 9).2; have := (show iv 0 1201 (sg 9) from CI_s hI 9).1; have := (show iv 0 1201 (sg 9) from CI_s hI 9).2; have := i32_0; have := i32_1; have := i32_2; have := i32_m1; have := (show iv (-1201) 6 (sgv_40 10) from CI_s hIv_40 10).1; have := (show iv (-1201) 6 (sgv_40 10) from CI_s hIv_40 10).2; have := congrArg Int32.toInt (show sgv_35 10 = sgv_31 10 from ksv_35 10 (by decide)); have := congrArg Int32.toInt (show sgv_31 10 = sg_28 10 from ksv_31 10 (by decide)); have := congrArg Int32.toInt (show sg_28 10 = sg_27 10 from up_ne esg_28 (by decide)); have : (sg_27 10).toInt = 0 := (by rw [up_at esg_27]; rfl); have := (hvx).1; have := (hvx).2; have := (hvtx).1; have := (hvtx).2; have := (hvln).1; have := (hvln).2; omega)]; exact DOI_c hU); (rw [show (sgv_40 10).toInt.toNat = 0 from (by have := congrArg Int32.toInt (show sgv_35 10 = sgv_31 10 from ksv_35 10 (by decide)); have := i32_0; have := i32_1; have := i32_2; have := i32_m1; have := (show iv 0 80 (sgv_40 4) from CI_s hIv_40 4).1; have := (show iv 0 80 (sgv_40 4) from CI_s hIv_40 4).2; have := congrArg Int32.toInt (show sgv_35 4 = sgv_31 4 from ksv_35 4 (by decide)); have := (show iv 0 80 (sgv_31 4) from CI_s hIv_31 4).1; have := (show iv 0 80 (sgv_31 4) from CI_s hIv_31 4).2; have := congrArg Int32.toInt (show sg_28 4 = sg_27 4 from up_ne esg_28 (by decide)); have := congrArg Int32.toInt (show sg_27 4 = sg_26 4 from up_ne esg_27 (by decide)); have := congrArg Int32.toInt (show sg_26 4 = sg_25 4 from up_ne esg_26 (by decide)); have := congrArg Int32.toInt (show sg_25 4 = sg_24 4 from up_ne esg_25 (by decide)); have := congrArg Int32.toInt (show sg_24 4 = sg 4 from up_ne esg_24 (by decide)); have := (show iv 0 80 (sg 4) from CI_s hI 4).1; have := (show iv 0 80 (sg 4) from CI_s hI 4).2; have := (show iv 0 240 (sgv_40 5) from CI_s hIv_40 5).1; have := (show iv 0 240 (sgv_40 5) from CI_s hIv_40 5).2; have := congrArg Int32.toInt (show sgv_35 5 = sgv_31 5 from ksv_35 5 (by decide)); have := (show iv 0 240 (sgv_31 5) from CI_s hIv_31 5).1; have := (show iv 0 240 (sgv_31 5) from CI_s hIv_31 5).2; have := congrArg Int32.toInt (show sg_28 5 = sg_27 5 from up_ne esg_28 (by decide)); have := congrArg Int32.toInt (show sg_27 5 = sg_26 5 from up_ne esg_27 (by decide)); have := congrArg Int32.toInt (show sg_26 5 = sg_25 5 from up_ne esg_26 (by decide)); have := congrArg Int32.toInt (show sg_25 5 = sg_24 5 from up_ne esg_25 (by decide)); have := congrArg Int32.toInt (show sg_24 5 = sg 5 from up_ne esg_24 (by decide)); have := (show iv 0 240 (sg 5) from CI_s hI 5).1; have := (show iv 0 240 (sg 5) from CI_s hI 5).2; have := (show iv 0 1200 (sgv_40 6) from CI_s hIv_40 6).1; have := (show iv 0 1200 (sgv_40 6) from CI_s hIv_40 6).2; have := congrArg Int32.toInt (show sgv_35 6 = sgv_31 6 from ksv_35 6 (by decide)); have := (show iv 0 1200 (sgv_31 6) from CI_s hIv_31 6).1; have := (show iv 0 1200 (sgv_31 6) from CI_s hIv_31 6).2; have := congrArg Int32.toInt (show sg_28 6 = sg_27 6 from up_ne esg_28 (by decide)); have := congrArg Int32.toInt (show sg_27 6 = sg_26 6 from up_ne esg_27 (by decide)); have := congrArg Int32.toInt (show sg_26 6 = sg_25 6 from up_ne esg_26 (by decide)); have := congrArg Int32.toInt (show sg_25 6 = sg_24 6 from up_ne esg_25 (by decide)); have := congrArg Int32.toInt (show sg_24 6 = sg 6 from up_ne esg_24 (by decide)); have := (show iv 0 1200 (sg 6) from CI_s hI 6).1; have := (show iv 0 1200 (sg 6) from CI_s hI 6).2; have := congrArg Int32.toInt (show sgv_40 7 = sgv_35 7 from ksv_40 7 (by decide)); have := congrArg Int32.toInt (show sgv_35 7 = sgv_31 7 from ksv_35 7 (by decide)); have := congrArg Int32.toInt (show sgv_31 7 = sg_28 7 from ksv_31 7 (by decide)); have := congrArg Int32.toInt (show sg_28 7 = sg_27 7 from up_ne esg_28 (by decide)); have := congrArg Int32.toInt (show sg_27 7 = sg_26 7 from up_ne esg_27 (by decide)); have := congrArg Int32.toInt (show sg_26 7 = sg_25 7 from up_ne esg_26 (by decide)); have := congrArg Int32.toInt (show sg_25 7 = sg_24 7 from up_ne esg_25 (by decide)); have := congrArg Int32.toInt (show sg_24 7 = tx from up_at esg_24); have := congrArg Int32.toInt (show sgv_40 8 = sgv_35 8 from ksv_40 8 (by decide)); have := congrArg Int32.toInt (show sgv_35 8 = sgv_31 8 from ksv_35 8 (by decide)); have := congrArg Int32.toInt (show sgv_31 8 = sg_28 8 from ksv_31 8 (by decide)); have := congrArg Int32.toInt (show sg_28 8 = sg_27 8 from up_ne esg_28 (by decide)); have := congrArg Int32.toInt (show sg_27 8 = sg_26 8 from up_ne esg_27 (by decide)); have := congrArg Int32.toInt (show sg_26 8 = sg_25 8 from up_ne esg_26 (by decide)); have := congrArg Int32.toInt (show sg_25 8 = ln from up_at esg_25); have := (hvln).1; have := (hvln).2; have := (show iv 0 1201 (sgv_40 9) from CI_s hIv_40 9).1; have := (show iv 0 1201 (sgv_40 9) from CI_s hIv_40 9).2; have := (show iv 0 1201 (sgv_35 9) from CI_s hIv_35 9).1; have := (show iv 0 1201 (sgv_35 9) from CI_s hIv_35 9).2; have := congrArg Int32.toInt (show sgv_31 9 = sg_28 9 from ksv_31 9 (by decide)); have := congrArg Int32.toInt (show sg_28 9 = sg_27 9 from up_ne esg_28 (by decide)); have := congrArg Int32.toInt (show sg_27 9 = sg_26 9 from up_ne esg_27 (by decide)); have : (sg_26 9).toInt = 0 := (by rw [up_at esg_26]; rfl); have := (show iv (-1201) 6 (sgv_40 10) from CI_s hIv_40 10).1; have := (show iv (-1201) 6 (sgv_40 10) from CI_s hIv_40 10).2; have := congrArg Int32.toInt (show sgv_35 10 = sgv_31 10 from ksv_35 10 (by decide)); have := congrArg Int32.toInt (show sgv_31 10 = sg_28 10 from ksv_31 10 (by decide)); have := congrArg Int32.toInt (show sg_28 10 = sg_27 10 from up_ne esg_28 (by decide)); have : (sg_27 10).toInt = 0 := (by rw [up_at esg_27]; rfl); have := (show iv (-1) 79 (sgv_40 11) from CI_s hIv_40 11).1; have := (show iv (-1) 79 (sgv_40 11) from CI_s hIv_40 11).2; have := congrArg Int32.toInt (show sgv_35 11 = sgv_31 11 from ksv_35 11 (by decide)); have := congrArg Int32.toInt (show sgv_31 11 = sg_28 11 from ksv_31 11 (by decide)); have : (sg_28 11).toInt = -1 := (by rw [up_at esg_28]; rfl); have := (hvx).1; have := (hvx).2; have := (hvtx).1; have := (hvtx).2; have := (show iv 0 1201 (sgv_40 9) from CI_s hIv_40 9).1; have := (show iv 0 1201 (sgv_40 9) from CI_s hIv_40 9).2; have := (show iv 0 1201 (sgv_35 9) from CI_s hIv_35 9).1; have := (show iv 0 1201 (sgv_35 9) from CI_s hIv_35 9).2; have := (show iv 0 1201 (sgv_31 9) from CI_s hIv_31 9).1; have := (show iv 0 1201 (sgv_31 9) from CI_s hIv_31 9).2; have := (show iv 0 1201 (sg_28 9) from CI_s hI_sg_28 9).1; have := (show iv 0 1201 (sg_28 9) from CI_s hI_sg_28 9).2; have := (show iv 0 1201 (sg_27 9) from CI_s hI_sg_27 9).1; have := (show iv 0 1201 (sg_27 9) from CI_s hI_sg_27 9).2; have := (show iv 0 1201 (sg_26 9) from CI_s hI_sg_26 9).1; have := (show iv 0 1201 (sg_26 9) from CI_s hI_sg_26 9).2; have := (show iv 0 1201 (sg_25 9) from CI_s hI_sg_25 9).1; have := (show iv 0 1201 (sg_25 9) from CI_s hI_sg_25 9).2; have := (show iv 0 1201 (sg_24 9) from CI_s hI_sg_24 9).1; have := (show iv 0 1201 (sg_24 9) from CI_s hI_sg_24 9).2; have := (show iv 0 1201 (sg 9) from CI_s hI 9).1; have := (show iv 0 1201 (sg 9) from CI_s hI 9).2; have := i32_0; have := i32_1; have := i32_2; have := i32_m1; have := (show iv (-1201) 6 (sgv_40 10) from CI_s hIv_40 10).1; have := (show iv (-1201) 6 (sgv_40 10) from CI_s hIv_40 10).2; have := congrArg Int32.toInt (show sgv_35 10 = sgv_31 10 from ksv_35 10 (by decide)); have := congrArg Int32.toInt (show sgv_31 10 = sg_28 10 from ksv_31 10 (by decide)); have := congrArg Int32.toInt (show sg_28 10 = sg_27 10 from up_ne esg_28 (by decide)); have : (sg_27 10).toInt = 0 := (by rw [up_at esg_27]; rfl); have := (hvx).1; have := (hvx).2; have := (hvtx).1; have := (hvtx).2; have := (hvln).1; have := (hvln).2; omega)]; show (sgv_40 11).toInt = -1; rw [w2]; exact e11)); (rw [w1] at hU; refine ⟨_, y2, ?_, ?_⟩; (rw [show (sgv_40 10).toInt.toNat = 1 from (by have := congrArg Int32.toInt (show sgv_35 10 = sgv_31 10 from ksv_35 10 (by decide)); have := i32_0; have := i32_1; have := i32_2; have := i32_m1; have := (show iv 0 80 (sgv_40 4) from CI_s hIv_40 4).1; have := (show iv 0 80 (sgv_40 4) from CI_s hIv_40 4).2; have := congrArg Int32.toInt (show sgv_35 4 = sgv_31 4 from ksv_35 4 (by decide)); have := (show iv 0 80 (sgv_31 4) from CI_s hIv_31 4).1; have := (show iv 0 80 (sgv_31 4) from CI_s hIv_31 4).2; have := congrArg Int32.toInt (show sg_28 4 = sg_27 4 from up_ne esg_28 (by decide)); have := congrArg Int32.toInt (show sg_27 4 = sg_26 4 from up_ne esg_27 (by decide)); have := congrArg Int32.toInt (show sg_26 4 = sg_25 4 from up_ne esg_26 (by decide)); have := congrArg Int32.toInt (show sg_25 4 = sg_24 4 from up_ne esg_25 (by decide)); have := congrArg Int32.toInt (show sg_24 4 = sg 4 from up_ne esg_24 (by decide)); have := (show iv 0 80 (sg 4) from CI_s hI 4).1; have := (show iv 0 80 (sg 4) from CI_s hI 4).2; have := (show iv 0 240 (sgv_40 5) from CI_s hIv_40 5).1; have := (show iv 0 240 (sgv_40 5) from CI_s hIv_40 5).2; have := congrArg Int32.toInt (show sgv_35 5 = sgv_31 5 from ksv_35 5 (by decide)); have := (show iv 0 240 (sgv_31 5) from CI_s hIv_31 5).1; have := (show iv 0 240 (sgv_31 5) from CI_s hIv_31 5).2; have := congrArg Int32.toInt (show sg_28 5 = sg_27 5 from up_ne esg_28 (by decide)); have := congrArg Int32.toInt (show sg_27 5 = sg_26 5 from up_ne esg_27 (by decide)); have := congrArg Int32.toInt (show sg_26 5 = sg_25 5 from up_ne esg_26 (by decide)); have := congrArg Int32.toInt (show sg_25 5 = sg_24 5 from up_ne esg_25 (by decide)); have := congrArg Int32.toInt (show sg_24 5 = sg 5 from up_ne esg_24 (by decide)); have := (show iv 0 240 (sg 5) from CI_s hI 5).1; have := (show iv 0 240 (sg 5) from CI_s hI 5).2; have := (show iv 0 1200 (sgv_40 6) from CI_s hIv_40 6).1; have := (show iv 0 1200 (sgv_40 6) from CI_s hIv_40 6).2; have := congrArg Int32.toInt (show sgv_35 6 = sgv_31 6 from ksv_35 6 (by decide)); have := (show iv 0 1200 (sgv_31 6) from CI_s hIv_31 6).1; have := (show iv 0 1200 (sgv_31 6) from CI_s hIv_31 6).2; have := congrArg Int32.toInt (show sg_28 6 = sg_27 6 from up_ne esg_28 (by decide)); have := congrArg Int32.toInt (show sg_27 6 = sg_26 6 from up_ne esg_27 (by decide)); have := congrArg Int32.toInt (show sg_26 6 = sg_25 6 from up_ne esg_26 (by decide)); have := congrArg Int32.toInt (show sg_25 6 = sg_24 6 from up_ne esg_25 (by decide)); have := congrArg Int32.toInt (show sg_24 6 = sg 6 from up_ne esg_24 (by decide)); have := (show iv 0 1200 (sg 6) from CI_s hI 6).1; have := (show iv 0 1200 (sg 6) from CI_s hI 6).2; have := congrArg Int32.toInt (show sgv_40 7 = sgv_35 7 from ksv_40 7 (by decide)); have := congrArg Int32.toInt (show sgv_35 7 = sgv_31 7 from ksv_35 7 (by decide)); have := congrArg Int32.toInt (show sgv_31 7 = sg_28 7 from ksv_31 7 (by decide)); have := congrArg Int32.toInt (show sg_28 7 = sg_27 7 from up_ne esg_28 (by decide)); have := congrArg Int32.toInt (show sg_27 7 = sg_26 7 from up_ne esg_27 (by decide)); have := congrArg Int32.toInt (show sg_26 7 = sg_25 7 from up_ne esg_26 (by decide)); have := congrArg Int32.toInt (show sg_25 7 = sg_24 7 from up_ne esg_25 (by decide)); have := congrArg Int32.toInt (show sg_24 7 = tx from up_at esg_24); have := congrArg Int32.toInt (show sgv_40 8 = sgv_35 8 from ksv_40 8 (by decide)); have := congrArg Int32.toInt (show sgv_35 8 = sgv_31 8 from ksv_35 8 (by decide)); have := congrArg Int32.toInt (show sgv_31 8 = sg_28 8 from ksv_31 8 (by decide)); have := congrArg Int32.toInt (show sg_28 8 = sg_27 8 from up_ne esg_28 (by decide)); have := congrArg Int32.toInt (show sg_27 8 = sg_26 8 from up_ne esg_27 (by decide)); have := congrArg Int32.toInt (show sg_26 8 = sg_25 8 from up_ne esg_26 (by decide)); have := congrArg Int32.toInt (show sg_25 8 = ln from up_at esg_25); have := (hvln).1; have := (hvln).2; have := (show iv 0 1201 (sgv_40 9) from CI_s hIv_40 9).1; have := (show iv 0 1201 (sgv_40 9) from CI_s hIv_40 9).2; have := (show iv 0 1201 (sgv_35 9) from CI_s hIv_35 9).1; have := (show iv 0 1201 (sgv_35 9) from CI_s hIv_35 9).2; have := congrArg Int32.toInt (show sgv_31 9 = sg_28 9 from ksv_31 9 (by decide)); have := congrArg Int32.toInt (show sg_28 9 = sg_27 9 from up_ne esg_28 (by decide)); have := congrArg Int32.toInt (show sg_27 9 = sg_26 9 from up_ne esg_27 (by decide)); have : (sg_26 9).toInt = 0 := (by rw [up_at esg_26]; rfl); have := (show iv (-1201) 6 (sgv_40 10) from CI_s hIv_40 10).1; have := (show iv (-1201) 6 (sgv_40 10) from CI_s hIv_40 10).2; have := congrArg Int32.toInt (show sgv_35 10 = sgv_31 10 from ksv_35 10 (by decide)); have := congrArg Int32.toInt (show sgv_31 10 = sg_28 10 from ksv_31 10 (by decide)); have := congrArg Int32.toInt (show sg_28 10 = sg_27 10 from up_ne esg_28 (by decide)); have : (sg_27 10).toInt = 0 := (by rw [up_at esg_27]; rfl); have := (show iv (-1) 79 (sgv_40 11) from CI_s hIv_40 11).1; have := (show iv (-1) 79 (sgv_40 11) from CI_s hIv_40 11).2; have := congrArg Int32.toInt (show sgv_35 11 = sgv_31 11 from ksv_35 11 (by decide)); have := congrArg Int32.toInt (show sgv_31 11 = sg_28 11 from ksv_31 11 (by decide)); have : (sg_28 11).toInt = -1 := (by rw [up_at esg_28]; rfl); have := (hvx).1; have := (hvx).2; have := (hvtx).1; have := (hvtx).2; have := (show iv 0 1201 (sgv_40 9) from CI_s hIv_40 9).1; have := (show iv 0 1201 (sgv_40 9) from CI_s hIv_40 9).2; have := (show iv 0 1201 (sgv_35 9) from CI_s hIv_35 9).1; have := (show iv 0 1201 (sgv_35 9) from CI_s hIv_35 9).2; have := (show iv 0 1201 (sgv_31 9) from CI_s hIv_31 9).1; have := (show iv 0 1201 (sgv_31 9) from CI_s hIv_31 9).2; have := (show iv 0 1201 (sg_28 9) from CI_s hI_sg_28 9).1; have := (show iv 0 1201 (sg_28 9) from CI_s hI_sg_28 9).2; have := (show iv 0 1201 (sg_27 9) from CI_s hI_sg_27 9).1; have := (show iv 0 1201 (sg_27 9) from CI_s hI_sg_27 9).2; have := (show iv 0 1201 (sg_26 9) from CI_s hI_sg_26 9).1; have := (show iv 0 1201 (sg_26 9) from CI_s hI_sg_26 9).2; have := (show iv 0 1201 (sg_25 9) from CI_s hI_sg_25 9).1; have := (show iv 0 1201 (sg_25 9) from CI_s hI_sg_25 9).2; have := (show iv 0 1201 (sg_24 9) from CI_s hI_sg_24 9).1; have := (show iv 0 1201 (sg_24 9) from CI_s hI_sg_24 9).2; have := (show iv 0 1201 (sg 9) from CI_s hI 9).1; have := (show iv 0 1201 (sg 9) from CI_s hI 9).2; have := i32_0; have := i32_1; have := i32_2; have := i32_m1; have := (show iv (-1201) 6 (sgv_40 10) from CI_s hIv_40 10).1; have := (show iv (-1201) 6 (sgv_40 10) from CI_s hIv_40 10).2; have := congrArg Int32.toInt (show sgv_35 10 = sgv_31 10 from ksv_35 10 (by decide)); have := congrArg Int32.toInt (show sgv_31 10 = sg_28 10 from ksv_31 10 (by decide)); have := congrArg Int32.toInt (show sg_28 10 = sg_27 10 from up_ne esg_28 (by decide)); have : (sg_27 10).toInt = 0 := (by rw [up_at esg_27]; rfl); have := (hvx).1; have := (hvx).2; have := (hvtx).1; have := (hvtx).2; have := (hvln).1; have := (hvln).2; omega), w2]; exact hU); (rw [show (sgv_40 10).toInt.toNat = 1 from (by have := congrArg Int32.toInt (show sgv_35 10 = sgv_31 10 from ksv_35 10 (by decide)); have := i32_0; have := i32_1; have := i32_2; have := i32_m1; have := (show iv 0 80 (sgv_40 4) from CI_s hIv_40 4).1; have := (show iv 0 80 (sgv_40 4) from CI_s hIv_40 4).2; have := congrArg Int32.toInt (show sgv_35 4 = sgv_31 4 from ksv_35 4 (by decide)); have := (show iv 0 80 (sgv_31 4) from CI_s hIv_31 4).1; have := (show iv 0 80 (sgv_31 4) from CI_s hIv_31 4).2; have := congrArg Int32.toInt (show sg_28 4 = sg_27 4 from up_ne esg_28 (by decide)); have := congrArg Int32.toInt (show sg_27 4 = sg_26 4 from up_ne esg_27 (by decide)); have := congrArg Int32.toInt (show sg_26 4 = sg_25 4 from up_ne esg_26 (by decide)); have := congrArg Int32.toInt (show sg_25 4 = sg_24 4 from up_ne esg_25 (by decide)); have := congrArg Int32.toInt (show sg_24 4 = sg 4 from up_ne esg_24 (by decide)); have := (show iv 0 80 (sg 4) from CI_s hI 4).1; have := (show iv 0 80 (sg 4) from CI_s hI 4).2; have := (show iv 0 240 (sgv_40 5) from CI_s hIv_40 5).1; have := (show iv 0 240 (sgv_40 5) from CI_s hIv_40 5).2; have := congrArg Int32.toInt (show sgv_35 5 = sgv_31 5 from ksv_35 5 (by decide)); have := (show iv 0 240 (sgv_31 5) from CI_s hIv_31 5).1; have := (show iv 0 240 (sgv_31 5) from CI_s hIv_31 5).2; have := congrArg Int32.toInt (show sg_28 5 = sg_27 5 from up_ne esg_28 (by decide)); have := congrArg Int32.toInt (show sg_27 5 = sg_26 5 from up_ne esg_27 (by decide)); have := congrArg Int32.toInt (show sg_26 5 = sg_25 5 from up_ne esg_26 (by decide)); have := congrArg Int32.toInt (show sg_25 5 = sg_24 5 from up_ne esg_25 (by decide)); have := congrArg Int32.toInt (show sg_24 5 = sg 5 from up_ne esg_24 (by decide)); have := (show iv 0 240 (sg 5) from CI_s hI 5).1; have := (show iv 0 240 (sg 5) from CI_s hI 5).2; have := (show iv 0 1200 (sgv_40 6) from CI_s hIv_40 6).1; have := (show iv 0 1200 (sgv_40 6) from CI_s hIv_40 6).2; have := congrArg Int32.toInt (show sgv_35 6 = sgv_31 6 from ksv_35 6 (by decide)); have := (show iv 0 1200 (sgv_31 6) from CI_s hIv_31 6).1; have := (show iv 0 1200 (sgv_31 6) from CI_s hIv_31 6).2; have := congrArg Int32.toInt (show sg_28 6 = sg_27 6 from up_ne esg_28 (by decide)); have := congrArg Int32.toInt (show sg_27 6 = sg_26 6 from up_ne esg_27 (by decide)); have := congrArg Int32.toInt (show sg_26 6 = sg_25 6 from up_ne esg_26 (by decide)); have := congrArg Int32.toInt (show sg_25 6 = sg_24 6 from up_ne esg_25 (by decide)); have := congrArg Int32.toInt (show sg_24 6 = sg 6 from up_ne esg_24 (by decide)); have := (show iv 0 1200 (sg 6) from CI_s hI 6).1; have := (show iv 0 1200 (sg 6) from CI_s hI 6).2; have := congrArg Int32.toInt (show sgv_40 7 = sgv_35 7 from ksv_40 7 (by decide)); have := congrArg Int32.toInt (show sgv_35 7 = sgv_31 7 from ksv_35 7 (by decide)); have := congrArg Int32.toInt (show sgv_31 7 = sg_28 7 from ksv_31 7 (by decide)); have := congrArg Int32.toInt (show sg_28 7 = sg_27 7 from up_ne esg_28 (by decide)); have := congrArg Int32.toInt (show sg_27 7 = sg_26 7 from up_ne esg_27 (by decide)); have := congrArg Int32.toInt (show sg_26 7 = sg_25 7 from up_ne esg_26 (by decide)); have := congrArg Int32.toInt (show sg_25 7 = sg_24 7 from up_ne esg_25 (by decide)); have := congrArg Int32.toInt (show sg_24 7 = tx from up_at esg_24); have := congrArg Int32.toInt (show sgv_40 8 = sgv_35 8 from ksv_40 8 (by decide)); have := congrArg Int32.toInt (show sgv_35 8 = sgv_31 8 from ksv_35 8 (by decide)); have := congrArg Int32.toInt (show sgv_31 8 = sg_28 8 from ksv_31 8 (by decide)); have := congrArg Int32.toInt (show sg_28 8 = sg_27 8 from up_ne esg_28 (by decide)); have := congrArg Int32.toInt (show sg_27 8 = sg_26 8 from up_ne esg_27 (by decide)); have := congrArg Int32.toInt (show sg_26 8 = sg_25 8 from up_ne esg_26 (by decide)); have := congrArg Int32.toInt (show sg_25 8 = ln from up_at esg_25); have := (hvln).1; have := (hvln).2; have := (show iv 0 1201 (sgv_40 9) from CI_s hIv_40 9).1; have := (show iv 0 1201 (sgv_40 9) from CI_s hIv_40 9).2; have := (show iv 0 1201 (sgv_35 9) from CI_s hIv_35 9).1; have := (show iv 0 1201 (sgv_35 9) from CI_s hIv_35 9).2; have := congrArg Int32.toInt (show sgv_31 9 = sg_28 9 from ksv_31 9 (by decide)); have := congrArg Int32.toInt (show sg_28 9 = sg_27 9 from up_ne esg_28 (by decide)); have := congrArg Int32.toInt (show sg_27 9 = sg_26 9 from up_ne esg_27 (by decide)); have : (sg_26 9).toInt = 0 := (by rw [up_at esg_26]; rfl); have := (show iv (-1201) 6 (sgv_40 10) from CI_s hIv_40 10).1; have := (show iv (-1201) 6 (sgv_40 10) from CI_s hIv_40 10).2; have := congrArg Int32.toInt (show sgv_35 10 = sgv_31 10 from ksv_35 10 (by decide)); have := congrArg Int32.toInt (show sgv_31 10 = sg_28 10 from ksv_31 10 (by decide)); have := congrArg Int32.toInt (show sg_28 10 = sg_27 10 from up_ne esg_28 (by decide)); have : (sg_27 10).toInt = 0 := (by rw [up_at esg_27]; rfl); have := (show iv (-1) 79 (sgv_40 11) from CI_s hIv_40 11).1; have := (show iv (-1) 79 (sgv_40 11) from CI_s hIv_40 11).2; have := congrArg Int32.toInt (show sgv_35 11 = sgv_31 11 from ksv_35 11 (by decide)); have := congrArg Int32.toInt (show sgv_31 11 = sg_28 11 from ksv_31 11 (by decide)); have : (sg_28 11).toInt = -1 := (by rw [up_at esg_28]; rfl); have := (hvx).1; have := (hvx).2; have := (hvtx).1; have := (hvtx).2; have := (show iv 0 1201 (sgv_40 9) from CI_s hIv_40 9).1; have := (show iv 0 1201 (sgv_40 9) from CI_s hIv_40 9).2; have := (show iv 0 1201 (sgv_35 9) from CI_s hIv_35 9).1; have := (show iv 0 1201 (sgv_35 9) from CI_s hIv_35 9).2; have := (show iv 0 1201 (sgv_31 9) from CI_s hIv_31 9).1; have := (show iv 0 1201 (sgv_31 9) from CI_s hIv_31 9).2; have := (show iv 0 1201 (sg_28 9) from CI_s hI_sg_28 9).1; have := (show iv 0 1201 (sg_28 9) from CI_s hI_sg_28 9).2; have := (show iv 0 1201 (sg_27 9) from CI_s hI_sg_27 9).1; have := (show iv 0 1201 (sg_27 9) from CI_s hI_sg_27 9).2; have := (show iv 0 1201 (sg_26 9) from CI_s hI_sg_26 9).1; have := (show iv 0 1201 (sg_26 9) from CI_s hI_sg_26 9).2; have := (show iv 0 1201 (sg_25 9) from CI_s hI_sg_25 9).1; have := (show iv 0 1201 (sg_25 9) from CI_s hI_sg_25 9).2; have := (show iv 0 1201 (sg_24 9) from CI_s hI_sg_24 9).1; have := (show iv 0 1201 (sg_24 9) from CI_s hI_sg_24 9).2; have := (show iv 0 1201 (sg 9) from CI_s hI 9).1; have := (show iv 0 1201 (sg 9) from CI_s hI 9).2; have := i32_0; have := i32_1; have := i32_2; have := i32_m1; have := (show iv (-1201) 6 (sgv_40 10) from CI_s hIv_40 10).1; have := (show iv (-1201) 6 (sgv_40 10) from CI_s hIv_40 10).2; have := congrArg Int32.toInt (show sgv_35 10 = sgv_31 10 from ksv_35 10 (by decide)); have := congrArg Int32.toInt (show sgv_31 10 = sg_28 10 from ksv_31 10 (by decide)); have := congrArg Int32.toInt (show sg_28 10 = sg_27 10 from up_ne esg_28 (by decide)); have : (sg_27 10).toInt = 0 := (by rw [up_at esg_27]; rfl); have := (hvx).1; have := (hvx).2; have := (hvtx).1; have := (hvtx).2; have := (hvln).1; have := (hvln).2; omega), w2]; exact ⟨_, by decide, rfl, rfl⟩)))) hm_41 _ _ _ hP hD hS (lv_sub hl [0, 1, 2, 3] rfl)
end
section
/-- characters as they may stand in values -/
def PV7 (v : List Int) : Prop := ∀ c, c ∈ v → 1 ≤ c ∧ c ≤ 126
def PA7 (q : At7) : Prop := ∀ y, y ∈ q → PV7 y.2
def PD7 (D : List El7) : Prop := ∀ w, w ∈ D → PA7 w.2.2.2.1
def PC7 (ch : Nat → Int) : Prop := ∀ i, ch i = -1 ∨ (1 ≤ ch i ∧ ch i ≤ 126)
theorem sCh_pv {ch : Nat → Int} {a b : Nat} {x : Int} (hc : PC7 ch) (h : sCh ch a = some (x, b)) : 1 ≤ x ∧ x ≤ 126 := by
  unfold sCh at h
  split at h
  · cases h
  · split at h
    · have := (sEn_le h).2
      constructor
      · have := this.1; dsimp only at this; omega
      · exact this.2
    · cases h
      have := hc a
      omega
theorem PV7_s {v : List Int} {x : Int} (h : PV7 v) (hx : 1 ≤ x ∧ x ≤ 126) : PV7 (v ++ [x]) := by
  intro c hc
  rcases List.mem_append.mp hc with q | q
  · exact h c q
  · rw [List.mem_singleton.mp q]; exact hx
theorem vaF_pv {ch : Nat → Int} (hc : PC7 ch) : ∀ f v a r, PV7 v → vaF ch f v a = some r → PV7 r.1 := by
  intro f
  induction f with
  | zero => intro v a r _ h; cases h
  | succ f ih =>
    intro v a r hv h
    have h : (if ch a = 34 then some (v, a + 1) else if ch a = 60 then none else match sCh ch a with | none => none | some (x, b) => if v.length = 24 then none else vaF ch f (v ++ [x]) (b + 1)) = some r := h
    split at h
    · cases h; exact hv
    · split at h
      · cases h
      · cases hq : sCh ch a with
        | none => rw [hq] at h; cases h
        | some q =>
          obtain ⟨x, b⟩ := q
          rw [hq] at h
          have h : (if v.length = 24 then none else vaF ch f (v ++ [x]) (b + 1)) = some r := h
          split at h
          · cases h
          · exact ih _ _ _ (PV7_s hv (sCh_pv hc hq)) h
theorem PV7_0 : PV7 [] := fun c hc => by cases hc
theorem PA7_0 : PA7 [] := fun c hc => by cases hc
theorem PA7_s {q : At7} {k : Int64} {v : List Int} (h : PA7 q) (hv : PV7 v) : PA7 (q ++ [(k, v)]) := by
  intro y hy
  rcases List.mem_append.mp hy with w | w
  · exact h y w
  · rw [List.mem_singleton.mp w]; exact hv
theorem sAt_pv {ch : Nat → Int} {n a : Nat} {q : At7} {r : At7 × Nat} (hc : PC7 ch) (hq : PA7 q) (h : sAt ch n q a = some r) : PA7 r.1 := by
  unfold sAt at h
  split at h
  · cases h
  · cases h1 : sNm ch a with
    | none => rw [h1] at h; cases h
    | some w =>
      obtain ⟨k, b⟩ := w
      rw [h1] at h
      have h : (if hasK q k = true then none else if ch b = 61 ∧ ch (b + 1) = 34 then (match sVa ch n [] (b + 2) with | none => none | some (v, e) => some (q ++ [(k, v)], e)) else none) = some r := h
      split at h
      · cases h
      · split at h
        · cases h2 : sVa ch n [] (b + 2) with
          | none => rw [h2] at h; cases h
          | some w2 =>
            obtain ⟨v, e⟩ := w2
            rw [h2] at h
            cases h
            exact PA7_s hq (vaF_pv hc _ _ _ _ PV7_0 h2)
        · cases h
theorem atsF_pv {ch : Nat → Int} {n : Nat} (hc : PC7 ch) : ∀ f q a r, PA7 q → atsF ch n f q a = some r → PA7 r.1 := by
  intro f
  induction f with
  | zero => intro q a r hq h; cases h; exact hq
  | succ f ih =>
    intro q a r hq h
    have h : (if a < sWh ch n a ∧ isLc (ch (sWh ch n a)) then (match sAt ch n q (sWh ch n a) with | none => none | some (q2, e) => atsF ch n f q2 e) else some (q, sWh ch n a)) = some r := h
    split at h
    · cases h1 : sAt ch n q (sWh ch n a) with
      | none => rw [h1] at h; cases h
      | some w =>
        obtain ⟨q2, e⟩ := w
        rw [h1] at h
        exact ih _ _ _ (sAt_pv hc hq h1) h
    · cases h; exact hq
theorem sOp_pv {ch : Nat → Int} {n cnt depth a : Nat} {k : Int64} {q : At7} {c : Bool} {e : Nat} (hc : PC7 ch) (h : sOp ch n cnt depth a = some (k, q, c, e)) : PA7 q := by
  by_cases h0 : ch a = 60 ∧ isLc (ch (a + 1)) ∧ depth < 6 ∧ cnt < 80
  · cases h1 : sNm ch (a + 1) with
    | none => rw [sOp_n h1] at h; cases h
    | some w =>
      obtain ⟨k2, b⟩ := w
      cases h2 : sAs ch n [] b with
      | none => rw [sOp_a h1 h2] at h; cases h
      | some w2 =>
        obtain ⟨q2, e2⟩ := w2
        rw [sOp_u h0 h1 h2] at h
        have hp := atsF_pv hc _ _ _ _ PA7_0 h2
        split at h
        · split at h
          · cases h; exact hp
          · cases h
        · split at h
          · cases h; exact hp
          · cases h
  · rw [sOp_x h0] at h; cases h
theorem PD7_s {D : List El7} {w : El7} (h : PD7 D) (hw : PA7 w.2.2.2.1) : PD7 (D ++ [w]) := by
  intro y hy
  rcases List.mem_append.mp hy with q | q
  · exact h y q
  · rw [List.mem_singleton.mp q]; exact hw
theorem sSt_pv {ch : Nat → Int} {n : Nat} {D D2 : List El7} {cur c2 : Int} {depth d2 a b : Nat} (hp : PC7 ch) (hD : PD7 D) (h : sSt ch n D cur depth a = some (D2, c2, d2, b)) : PD7 D2 := by
  unfold sSt at h
  split at h
  · split at h
    · cases hc : sCom ch n a with
      | none => rw [hc] at h; cases h
      | some e => rw [hc] at h; cases h; exact hD
    · split at h
      · cases hw : D[cur.toNat]? with
        | none => rw [hw] at h; cases h
        | some w =>
          rw [hw] at h
          have h : (match sEd ch n w.1 a with | none => none | some b => some (D, w.2.1, depth - 1, b)) = some (D2, c2, d2, b) := h
          cases hc : sEd ch n w.1 a with
          | none => rw [hc] at h; cases h
          | some e => rw [hc] at h; cases h; exact hD
      · cases hc : sOp ch n D.length depth a with
        | none => rw [hc] at h; cases h
        | some w => obtain ⟨k, q, c, e⟩ := w; rw [hc] at h; cases h; exact PD7_s hD (sOp_pv hp hc)
  · cases hc : sCh ch a with
    | none => rw [hc] at h; cases h
    | some r =>
      obtain ⟨x, e⟩ := r
      rw [hc] at h
      cases hw : D[cur.toNat]? with
      | none => rw [hw] at h; cases h
      | some w =>
        rw [hw] at h
        have h : (match sTx w.2.2.2.2.1 w.2.2.2.2.2 x with | none => none | some (ts, te) => some (D.set cur.toNat (w.1, w.2.1, w.2.2.1, w.2.2.2.1, ts, te), cur, depth, e + 1)) = some (D2, c2, d2, b) := h
        cases ht : sTx w.2.2.2.2.1 w.2.2.2.2.2 x with
        | none => rw [ht] at h; cases h
        | some t =>
          obtain ⟨ts, te⟩ := t
          rw [ht] at h
          cases h
          intro y hy
          rcases List.mem_or_eq_of_mem_set hy with q | q
          · exact hD y q
          · rw [q]; exact hD w (List.mem_of_getElem? hw)
theorem doF_pv {ch : Nat → Int} {n : Nat} (hp : PC7 ch) : ∀ f D cur depth a r, PD7 D → doF ch n f D cur depth a = some r → PD7 r.1 := by
  intro f
  induction f with
  | zero =>
    intro D cur depth a r hD h
    have h : (if depth = 0 then some (D, a) else none) = some r := h
    split at h
    · cases h; exact hD
    · cases h
  | succ f ih =>
    intro D cur depth a r hD h
    have h : (if depth = 0 then some (D, a) else match sSt ch n D cur depth a with | none => none | some (D2, c2, d2, b) => doF ch n f D2 c2 d2 b) = some r := h
    split at h
    · cases h; exact hD
    · cases hc : sSt ch n D cur depth a with
      | none => rw [hc] at h; cases h
      | some w =>
        obtain ⟨D2, c2, d2, b⟩ := w
        rw [hc] at h
        exact ih _ _ _ _ _ (sSt_pv hp hD hc) h
theorem sDoc_pv {ch : Nat → Int} {n : Nat} {D : List El7} (hp : PC7 ch) (h : sDoc ch n = some D) : PD7 D := by
  unfold sDoc at h
  cases h1 : sBet ch n 0 with
  | none => rw [h1] at h; cases h
  | some a =>
    rw [h1] at h
    dsimp only at h
    cases h2 : sOp ch n 0 0 a with
    | none => rw [h2] at h; cases h
    | some w =>
      obtain ⟨k, q, c, b⟩ := w
      rw [h2] at h
      dsimp only at h
      cases h3 : sDo ch n [(a, -1, k, q, 0, [])] (if c = true then -1 else 0) (if c = true then 0 else 1) b with
      | none => rw [h3] at h; cases h
      | some w2 =>
        obtain ⟨D2, e⟩ := w2
        rw [h3] at h
        dsimp only at h
        cases h4 : sBet ch n e with
        | none => rw [h4] at h; cases h
        | some e2 =>
          rw [h4] at h
          dsimp only at h
          split at h
          · cases h
            exact doF_pv hp _ _ _ _ _ _ (fun y hy => by rw [List.mem_singleton.mp hy]; exact sOp_pv hp h2) h3
          · cases h
theorem or8 {v : Int64} {c : Int} (h0 : 0 ≤ v.toInt) (h1 : v.toInt < 2 ^ 55) (h2 : 0 ≤ c) (h3 : c ≤ 126) : (v <<< 8 ||| Int64.ofInt c).toInt = 256 * v.toInt + c := by
  obtain ⟨x, hx⟩ : ∃ x : Int32, x.toInt = c := ⟨Int32.ofInt c, by rw [Int32.toInt_ofInt]; exact i32_bm (by omega)⟩
  rw [← nm_or hx, ← hx]
  exact lor8 (by omega) h1 (by omega) (by omega)
/-- a row of characters as a number, the last first -/
def fr7 : List Int → Int
  | [] => 0
  | c :: r => c + 256 * fr7 r
theorem fr7_p : ∀ v : List Int, PV7 v → 0 ≤ fr7 v ∧ 2 * fr7 v < (256 : Int) ^ v.length ∧ (1 ≤ v.length → (256 : Int) ^ (v.length - 1) ≤ fr7 v) := by
  intro v
  induction v with
  | nil => intro _; exact ⟨by decide, by decide, fun h => absurd h (by decide)⟩
  | cons c r ih =>
    intro h
    have hc := h c List.mem_cons_self
    obtain ⟨a1, a2, a3⟩ := ih (fun x hx => h x (List.mem_cons_of_mem _ hx))
    have e1 : fr7 (c :: r) = c + 256 * fr7 r := rfl
    have e2 : (256 : Int) ^ (c :: r).length = 256 * 256 ^ r.length := by rw [List.length_cons, Int.pow_succ]; omega
    refine ⟨by rw [e1]; omega, by rw [e1, e2]; omega, fun _ => ?_⟩
    rw [e1, List.length_cons, Nat.add_sub_cancel]
    cases r with
    | nil => show (1 : Int) ≤ _; omega
    | cons d t =>
      have a4 := a3 (by rw [List.length_cons]; omega)
      rw [List.length_cons, Nat.add_sub_cancel] at a4
      rw [List.length_cons, Int.pow_succ]
      omega
theorem fr7_i : ∀ v u : List Int, PV7 v → PV7 u → fr7 v = fr7 u → v = u := by
  intro v
  induction v with
  | nil =>
    intro u _ hu h
    cases u with
    | nil => rfl
    | cons d t =>
      have := hu d List.mem_cons_self
      have := (fr7_p t (fun x hx => hu x (List.mem_cons_of_mem _ hx))).1
      have e : fr7 (d :: t) = d + 256 * fr7 t := rfl
      have e0 : fr7 [] = 0 := rfl
      omega
  | cons c r ih =>
    intro u hv hu h
    have hc := hv c List.mem_cons_self
    have hr := (fr7_p r (fun x hx => hv x (List.mem_cons_of_mem _ hx))).1
    have e1 : fr7 (c :: r) = c + 256 * fr7 r := rfl
    cases u with
    | nil =>
      have e0 : fr7 [] = 0 := rfl
      omega
    | cons d t =>
      have hd := hu d List.mem_cons_self
      have e2 : fr7 (d :: t) = d + 256 * fr7 t := rfl
      have h1 : c = d := by omega
      have h2 : fr7 r = fr7 t := by omega
      rw [h1, ih t (fun x hx => hv x (List.mem_cons_of_mem _ hx)) (fun x hx => hu x (List.mem_cons_of_mem _ hx)) h2]
theorem PV7_r {v : List Int} (h : PV7 v) : PV7 v.reverse := fun c hc => h c (List.mem_reverse.mp hc)
theorem foL_a : ∀ (v : List Int) (u : List Int) (w : Int64), PV7 v → PV7 u → v.length + u.length ≤ 8 → w.toInt = fr7 u → (foL v w).toInt = fr7 (v.reverse ++ u) := by
  intro v
  induction v with
  | nil => intro u w _ _ _ hw; exact hw
  | cons c r ih =>
    intro u w hv hu hl hw
    have hc := hv c List.mem_cons_self
    rw [List.length_cons] at hl
    obtain ⟨p1, p2, _⟩ := fr7_p u hu
    have hp : (256 : Int) ^ u.length ≤ 256 ^ 7 := by
      rcases (show u.length = 0 ∨ u.length = 1 ∨ u.length = 2 ∨ u.length = 3 ∨ u.length = 4 ∨ u.length = 5 ∨ u.length = 6 ∨ u.length = 7 by omega) with e | e | e | e | e | e | e | e <;> rw [e] <;> decide
    have h55 : w.toInt < 2 ^ 55 := by
      have h9 : (256 : Int) ^ 7 = 2 ^ 56 := by decide
      rw [hw]; omega
    have h1 := or8 (v := w) (c := c) (by omega) h55 (by omega) (by omega)
    show (foL r (w <<< 8 ||| Int64.ofInt c)).toInt = _
    rw [ih (c :: u) _ (fun x hx => hv x (List.mem_cons_of_mem _ hx)) (fun x hx => by
      rcases List.mem_cons.mp hx with q | q
      · rw [q]; exact hc
      · exact hu x q) (by rw [List.length_cons]; omega) (by rw [h1, hw]; show 256 * fr7 u + c = c + 256 * fr7 u; omega), List.reverse_cons, List.append_assoc]
    rfl
theorem foL_n {v : List Int} (h : PV7 v) (h8 : v.length ≤ 8) : (foL v 0).toInt = fr7 v.reverse := by
  have := foL_a v [] 0 h PV7_0 (by rw [List.length_nil]; omega) rfl
  rw [List.append_nil] at this
  exact this
theorem foL_p {v : List Int} (h : PV7 v) (h8 : v.length ≤ 8) : 0 ≤ (foL v 0).toInt := by rw [foL_n h h8]; exact (fr7_p _ (PV7_r h)).1
/-- what it is below its powers tells how long it is -/
theorem foL_len {v : List Int} (h : PV7 v) (h8 : v.length ≤ 8) : (v = [] ∧ (foL v 0).toInt = 0) ∨ (∃ c, v = [c] ∧ (foL v 0).toInt = c ∧ 1 ≤ c ∧ c ≤ 126) ∨ (∃ c d, v = [c, d] ∧ (foL v 0).toInt = 256 * c + d ∧ 1 ≤ c ∧ c ≤ 126 ∧ 1 ≤ d ∧ d ≤ 126) ∨ (3 ≤ v.length ∧ 65536 ≤ (foL v 0).toInt) := by
  have hn := foL_n h h8
  cases v with
  | nil => exact Or.inl ⟨rfl, hn⟩
  | cons c r =>
    have hc := h c List.mem_cons_self
    cases r with
    | nil => exact Or.inr (Or.inl ⟨c, rfl, by rw [hn]; show c + 256 * 0 = c; omega, hc⟩)
    | cons d t =>
      have hd := h d (List.mem_cons_of_mem _ List.mem_cons_self)
      cases t with
      | nil => exact Or.inr (Or.inr (Or.inl ⟨c, d, rfl, by rw [hn]; show d + 256 * (c + 256 * 0) = _; omega, hc.1, hc.2, hd⟩))
      | cons e s =>
        refine Or.inr (Or.inr (Or.inr ⟨by simp only [List.length_cons]; omega, ?_⟩))
        have q := (fr7_p _ (PV7_r h)).2.2 (by rw [List.length_reverse]; simp only [List.length_cons]; omega)
        rw [hn]
        rw [List.length_reverse] at q
        simp only [List.length_cons, Nat.add_sub_cancel] at q
        have q2 : (256 : Int) ^ (s.length + 1 + 1) = 256 ^ s.length * 65536 := by rw [Int.pow_succ, Int.pow_succ]; omega
        have q3 : (1 : Int) ≤ 256 ^ s.length := Int.pow_pos (by decide)
        rw [q2] at q
        omega
theorem gA_pv {q : At7} {k : Int64} {v : List Int} (h : PA7 q) (hg : gA q k = some v) : PV7 v := by
  unfold gA at hg
  cases hf : q.find? (fun x => x.1 == k) with
  | none => rw [hf] at hg; cases hg
  | some y => rw [hf] at hg; cases hg; exact h y (List.mem_of_find?_eq_some hf)
theorem gA_h {q : At7} {k : Int64} : (gA q k = none ∧ aH q k = 0) ∨ ∃ v, gA q k = some v ∧ aH q k = 1 := by
  unfold aH
  cases h : hasK q k with
  | false => exact Or.inl ⟨gA_n h, if_neg (by decide)⟩
  | true =>
    right
    unfold gA
    cases hf : q.find? (fun x => x.1 == k) with
    | none =>
      rw [List.find?_eq_none] at hf
      unfold hasK at h
      rw [List.any_eq_true] at h
      obtain ⟨x, hx, hk⟩ := h
      exact absurd hk (hf x hx)
    | some y => exact ⟨y.2, rfl, if_pos rfl⟩
/-- the class's readings of a value -/
def nv7 (q : At7) (k : Int64) : Int64 := if aI q k = 1 then aW q k else 0
def lv7 (q : At7) (k : Int64) : Int := match gA q k with | some [c] => if 97 ≤ c ∧ c ≤ 122 then c - 97 else -1 | _ => -1
def pl7 (q : At7) (k : Int64) : Int := match gA q k with | some [c] => if 48 ≤ c ∧ c ≤ 50 then c - 48 else -1 | _ => -1
def cv7 (q : At7) (k : Int64) : Int := match gA q k with | some [b, c] => if b = 75 ∧ 48 ≤ c ∧ c ≤ 55 then c - 48 else -1 | _ => -1
theorem aW_s {q : At7} {k : Int64} {v : List Int} (hg : gA q k = some v) : aW q k = if v.length ≤ 8 then foL v 0 else -1 := by unfold aW; rw [hg]
theorem aW_n {q : At7} {k : Int64} (hg : gA q k = none) : aW q k = -1 := by unfold aW; rw [hg]
theorem aI_s {q : At7} {k : Int64} {v : List Int} (hg : gA q k = some v) : aI q k = if 1 ≤ v.length ∧ v.length ≤ 8 ∧ allL v = true then 1 else 0 := by unfold aI; rw [hg]
theorem aI_n {q : At7} {k : Int64} (hg : gA q k = none) : aI q k = 0 := by unfold aI; rw [hg]
theorem allL_1 {c : Int} : allL [c] = true ↔ 97 ≤ c ∧ c ≤ 122 := by unfold allL; simp
theorem i64_m1 : (-1 : Int64).toInt = -1 := by decide
theorem aI_1 {q : At7} {k : Int64} (h : PA7 q) (hI : aI q k = 1) : 97 ≤ (aW q k).toInt ∧ aH q k = 1 := by
  rcases gA_h (q := q) (k := k) with ⟨g1, g2⟩ | ⟨v, g1, g2⟩
  · rw [aI_n g1] at hI; exact absurd hI (by decide)
  · rw [aI_s g1] at hI
    have hc : 1 ≤ v.length ∧ v.length ≤ 8 ∧ allL v = true := by
      by_cases hq : 1 ≤ v.length ∧ v.length ≤ 8 ∧ allL v = true
      · exact hq
      · rw [if_neg hq] at hI; exact absurd hI (by decide)
    refine ⟨?_, g2⟩
    rw [aW_s g1, if_pos hc.2.1]
    rcases foL_len (gA_pv h g1) hc.2.1 with ⟨a, _⟩ | ⟨c, a, b, _⟩ | ⟨c, d, _, b, b1, _, b2, _⟩ | ⟨_, b⟩
    · rw [a] at hc; exact absurd hc.1 (by decide)
    · rw [a] at hc; have := (allL_1.mp hc.2.2).1; omega
    · omega
    · omega
theorem nv7_z {q : At7} {k : Int64} (h : PA7 q) : ¬ nv7 q k = 0 ↔ aI q k = 1 := by
  unfold nv7
  by_cases hI : aI q k = 1
  · rw [if_pos hI]
    have := (aI_1 h hI).1
    exact ⟨fun _ => hI, fun _ e => by rw [e] at this; exact absurd this (by decide)⟩
  · rw [if_neg hI]
    exact ⟨fun w => absurd rfl w, fun w => absurd w hI⟩
theorem lv7_a {q : At7} {k : Int64} (h : PA7 q) : (0 ≤ lv7 q k ∧ aI q k = 1 ∧ (aW q k).toInt = lv7 q k + 97 ∧ lv7 q k ≤ 25) ∨ (lv7 q k = -1 ∧ ¬ (aI q k = 1 ∧ (aW q k).toInt < 256)) := by
  rcases gA_h (q := q) (k := k) with ⟨g1, g2⟩ | ⟨v, g1, g2⟩
  · exact Or.inr ⟨by unfold lv7; rw [g1], fun w => by rw [aI_n g1] at w; exact absurd w.1 (by decide)⟩
  · rw [aI_s g1, aW_s g1]
    have hp := gA_pv h g1
    by_cases h8 : v.length ≤ 8
    · rw [if_pos h8]
      rcases foL_len hp h8 with ⟨a, _⟩ | ⟨c, a, b, _⟩ | ⟨c, d, a, b, b1, _, b2, _⟩ | ⟨a, b⟩
      · subst a
        exact Or.inr ⟨by unfold lv7; rw [g1], fun w => absurd w.1 (by decide)⟩
      · subst a
        have e : lv7 q k = if 97 ≤ c ∧ c ≤ 122 then c - 97 else -1 := by unfold lv7; rw [g1]
        rw [e]
        by_cases hc : 97 ≤ c ∧ c ≤ 122
        · rw [if_pos hc, if_pos ⟨by simp, by simp, allL_1.mpr hc⟩]
          exact Or.inl ⟨by omega, rfl, by omega, by omega⟩
        · rw [if_neg hc, if_neg (fun w => hc (allL_1.mp w.2.2))]
          exact Or.inr ⟨rfl, fun w => absurd w.1 (by decide)⟩
      · subst a
        exact Or.inr ⟨by unfold lv7; rw [g1], fun w => by have := w.2; omega⟩
      · refine Or.inr ⟨?_, fun w => by have := w.2; omega⟩
        unfold lv7
        rw [g1]
        cases v with
        | nil => rfl
        | cons c r => cases r with
          | nil => exact absurd a (by simp)
          | cons d t => rfl
    · rw [if_neg h8, if_neg (fun w => h8 w.2.1)]
      refine Or.inr ⟨?_, fun w => absurd w.1 (by decide)⟩
      unfold lv7
      rw [g1]
      cases v with
      | nil => rfl
      | cons c r => cases r with
        | nil => exact absurd (by simp) h8
        | cons d t => rfl
theorem pl7_a {q : At7} {k : Int64} (h : PA7 q) : (0 ≤ pl7 q k ∧ aH q k = 1 ∧ 48 ≤ (aW q k).toInt ∧ (aW q k).toInt ≤ 50) ∨ (pl7 q k = -1 ∧ ¬ (48 ≤ (aW q k).toInt ∧ (aW q k).toInt ≤ 50)) := by
  have hm := i64_m1
  rcases gA_h (q := q) (k := k) with ⟨g1, g2⟩ | ⟨v, g1, g2⟩
  · exact Or.inr ⟨by unfold pl7; rw [g1], fun w => by rw [aW_n g1] at w; omega⟩
  · rw [aW_s g1]
    have hp := gA_pv h g1
    by_cases h8 : v.length ≤ 8
    · rw [if_pos h8]
      rcases foL_len hp h8 with ⟨a, b⟩ | ⟨c, a, b, _⟩ | ⟨c, d, a, b, b1, _, b2, _⟩ | ⟨a, b⟩
      · subst a
        exact Or.inr ⟨by unfold pl7; rw [g1], fun w => by omega⟩
      · subst a
        have e : pl7 q k = if 48 ≤ c ∧ c ≤ 50 then c - 48 else -1 := by unfold pl7; rw [g1]
        rw [e, b]
        by_cases hc : 48 ≤ c ∧ c ≤ 50
        · rw [if_pos hc]; exact Or.inl ⟨by omega, g2, hc⟩
        · rw [if_neg hc]; exact Or.inr ⟨rfl, hc⟩
      · subst a
        exact Or.inr ⟨by unfold pl7; rw [g1], fun w => by omega⟩
      · refine Or.inr ⟨?_, fun w => by omega⟩
        unfold pl7
        rw [g1]
        cases v with
        | nil => rfl
        | cons c r => cases r with
          | nil => exact absurd a (by simp)
          | cons d t => rfl
    · rw [if_neg h8]
      refine Or.inr ⟨?_, fun w => by omega⟩
      unfold pl7
      rw [g1]
      cases v with
      | nil => rfl
      | cons c r => cases r with
        | nil => exact absurd (by simp) h8
        | cons d t => rfl
theorem cv7_a {q : At7} {k : Int64} (h : PA7 q) : (0 ≤ cv7 q k ∧ cv7 q k ≤ 7 ∧ aH q k = 1 ∧ CLSV (aW q k).toInt) ∨ (cv7 q k = -1 ∧ ¬ CLSV (aW q k).toInt) := by
  have hm := i64_m1
  rcases gA_h (q := q) (k := k) with ⟨g1, g2⟩ | ⟨v, g1, g2⟩
  · exact Or.inr ⟨by unfold cv7; rw [g1], fun w => by rw [aW_n g1, hm] at w; exact absurd w (by decide)⟩
  · rw [aW_s g1]
    have hp := gA_pv h g1
    by_cases h8 : v.length ≤ 8
    · rw [if_pos h8]
      rcases foL_len hp h8 with ⟨a, b⟩ | ⟨c, a, b, _⟩ | ⟨c, d, a, b, b1, _, b2, _⟩ | ⟨a, b⟩
      · subst a
        exact Or.inr ⟨by unfold cv7; rw [g1], fun w => by rw [b] at w; exact absurd w (by decide)⟩
      · subst a
        exact Or.inr ⟨by unfold cv7; rw [g1], fun w => by have := w.1; omega⟩
      · subst a
        have e : cv7 q k = if c = 75 ∧ 48 ≤ d ∧ d ≤ 55 then d - 48 else -1 := by unfold cv7; rw [g1]
        rw [e, b]
        by_cases hc : c = 75 ∧ 48 ≤ d ∧ d ≤ 55
        · rw [if_pos hc]; exact Or.inl ⟨by omega, by omega, g2, by unfold CLSV; omega⟩
        · rw [if_neg hc]; exact Or.inr ⟨rfl, fun w => by unfold CLSV at w; omega⟩
      · refine Or.inr ⟨?_, fun w => by have := w.1; omega⟩
        unfold cv7
        rw [g1]
        cases v with
        | nil => rfl
        | cons c r => cases r with
          | nil => rfl
          | cons d t => cases t with
            | nil => exact absurd a (by simp)
            | cons e s => rfl
    · rw [if_neg h8]
      refine Or.inr ⟨?_, fun w => by rw [hm] at w; exact absurd w (by decide)⟩
      unfold cv7
      rw [g1]
      cases v with
      | nil => rfl
      | cons c r => cases r with
        | nil => rfl
        | cons d t => cases t with
          | nil => exact absurd (by simp) h8
          | cons e s => rfl
/-- a word with this number is that word -/
theorem nv7_e {q : At7} {k K : Int64} {u : List Int} (h : PA7 q) (hu : PV7 u) (h1 : 1 ≤ u.length) (h8 : u.length ≤ 8) (hL : allL u = true) (hK : foL u 0 = K) : nv7 q k = K ↔ (aW q k).toInt = K.toInt := by
  have hp := foL_p hu h8
  have hz : ¬ K.toInt = 0 := by
    rw [← hK, foL_n hu h8]
    have := (fr7_p _ (PV7_r hu)).2.2 (by rw [List.length_reverse]; exact h1)
    have q3 : (1 : Int) ≤ 256 ^ (u.reverse.length - 1) := Int.pow_pos (by decide)
    omega
  constructor
  · intro e
    unfold nv7 at e
    by_cases hI : aI q k = 1
    · rw [if_pos hI] at e; rw [e]
    · rw [if_neg hI] at e; exact absurd (by rw [← e]; rfl) hz
  · intro e
    rcases gA_h (q := q) (k := k) with ⟨g1, g2⟩ | ⟨v, g1, g2⟩
    · rw [aW_n g1, i64_m1, ← hK] at e; omega
    · have hv := gA_pv h g1
      have e2 := e
      rw [aW_s g1] at e2
      by_cases hv8 : v.length ≤ 8
      · rw [if_pos hv8, ← hK, foL_n hv hv8, foL_n hu h8] at e2
        have e3 := fr7_i _ _ (PV7_r hv) (PV7_r hu) e2
        have e4 : v = u := by have := congrArg List.reverse e3; rw [List.reverse_reverse, List.reverse_reverse] at this; exact this
        subst e4
        have hI : aI q k = 1 := by rw [aI_s g1, if_pos ⟨h1, h8, hL⟩]
        unfold nv7
        rw [if_pos hI, aW_s g1, if_pos h8, hK]
      · rw [if_neg hv8, i64_m1, ← hK] at e2; omega
/-- an element of the list, and what it has -/
def dEl (D : List El7) (e : Nat) : El7 := (D[e]?).getD (0, -1, 0, [], 0, [])
def dAt (D : List El7) (e : Nat) : At7 := (dEl D e).2.2.2.1
def dAb (D : List El7) (e : Nat) : Int := (dEl D e).2.1
def dTx (D : List El7) (e : Nat) : Nat := (dEl D e).2.2.2.2.1
def dAy (D : List El7) (e k : Nat) : Int64 := (((dAt D e)[k]?).getD (0, [])).1
/-- the kind of a key -/
def kd7 (k : Int) : Int := if k = 422607679091 then 1 else if k = 418430673267 then 2 else if k = 1650811246 then 3 else if k = 6386279 then 4 else if k = 7562612 then 5 else if k = 1818850164 then 6 else if k = 508440638821 then 7 else if k = 7497062 then 8 else if k = 1853189228 then 9 else if k = 119225866483056 then 10 else 0
def dKd (D : List El7) (e : Nat) : Int := kd7 (dEl D e).2.2.1.toInt
def dIn (D : List El7) (e : Nat) : Int := if dAb D e = -1 then 0 else dKd D (dAb D e).toNat
def cnD (f : Nat → Int) (e : Int) : Nat → Nat
  | 0 => 0
  | n + 1 => cnD f e n + (if f n = e then 1 else 0)
def dCn (D : List El7) (e : Nat) : Nat := cnD (dAb D) (e : Int) D.length
abbrev AQD (D : List El7) (f : Int) (e k : Nat) : Prop := dAb D k = dAb D e ∧ dKd D k = dKd D e ∧ (f = 0 ∨ (aW (dAt D k) 1851878757).toInt = (aW (dAt D e) 1851878757).toInt)
def ahD (D : List El7) (f : Int) (e : Nat) : Nat → Nat
  | 0 => 0
  | k + 1 => ahD D f e k + (if AQD D f e k then 1 else 0)
def GKR (D : List El7) (x : Nat) : Prop := dKd D x = 1 ∨ (dKd D x = 2 ∧ (aI (dAt D x) 1851878757 = 1 ∧ aI (dAt D x) 29807 = 1 ∧ (dCn D x : Int) = 0)) ∨ (dKd D x = 3 ∧ (((aH (dAt D x) 26980 = 0 ∨ aI (dAt D x) 26980 = 1) ∧ (aH (dAt D x) 123563833388660 = 0 ∨ aI (dAt D x) 123563833388660 = 1) ∧ (aH (dAt D x) 28817527407604345 = 0 ∨ aI (dAt D x) 28817527407604345 = 1) ∧ (aH (dAt D x) 28259031083541619 = 0 ∨ aI (dAt D x) 28259031083541619 = 1)) ∧ ((aH (dAt D x) 120282512125796 = 0 ∨ (aI (dAt D x) 120282512125796 = 1 ∧ (aW (dAt D x) 120282512125796).toInt < 256)) ∧ (aH (dAt D x) 1768843636 = 0 ∨ (aI (dAt D x) 1768843636 = 1 ∧ (aW (dAt D x) 1768843636).toInt < 256)) ∧ (aH (dAt D x) 28259044220366713 = 0 ∨ (aI (dAt D x) 28259044220366713 = 1 ∧ (aW (dAt D x) 28259044220366713).toInt < 256))) ∧ ((aH (dAt D x) 427020088179 = 0 ∨ CLSV (aW (dAt D x) 427020088179).toInt) ∧ (aH (dAt D x) 7017298113369039732 = 0 ∨ (aW (dAt D x) 7017298113369039732).toInt = 7955827 ∨ (aW (dAt D x) 7017298113369039732).toInt = 28271) ∧ (aH (dAt D x) 1818327673 = 0 ∨ (aW (dAt D x) 1818327673).toInt = 7955827 ∨ (aW (dAt D x) 1818327673).toInt = 28271) ∧ (aH (dAt D x) 495589486693 = 0 ∨ (aW (dAt D x) 495589486693).toInt = 7302757 ∨ (aW (dAt D x) 495589486693).toInt = 1835101817)) ∧ ((dKd D (dAb D x).toNat = 1 ∧ aH (dAt D x) 26980 = 1) ∨ (¬ dKd D (dAb D x).toNat = 1 ∧ aH (dAt D x) 26980 = 0 ∧ aH (dAt D x) 7017298113369039732 = 0 ∧ aH (dAt D x) 1818327673 = 0)) ∧ ((aW (dAt D x) 7017298113369039732).toInt = 7955827 ∨ aH (dAt D x) 427020088179 = 1 ∨ aH (dAt D x) 123563833388660 = 1 ∨ aH (dAt D x) 28817527407604345 = 1) ∧ (aH (dAt D x) 28817527407604345 = 0 ∨ aH (dAt D x) 120282512125796 = 1))) ∨ (dKd D x = 4 ∧ (((aH (dAt D x) 508440638821 + aH (dAt D x) 7497062 + (dCn D x : Int) = 1 ∧ (aH (dAt D x) 7497062 = 0 ∨ aI (dAt D x) 7497062 = 1)) ∧ (ahD D 0 x x : Int) < 4 ∧ (aH (dAt D x) 24948 = 0 ∨ (48 ≤ (aW (dAt D x) 24948).toInt ∧ (aW (dAt D x) 24948).toInt ≤ 50))) ∧ (aH (dAt D x) 1954115685 = 0 ∨ ((aW (dAt D x) 1954115685).toInt = 6909556 ∨ (aW (dAt D x) 1954115685).toInt = 500136506472 ∨ (aW (dAt D x) 1954115685).toInt = 1667785074 ∨ (aW (dAt D x) 1954115685).toInt = 1952807028 ∨ (aW (dAt D x) 1954115685).toInt = 7499639) ∨ (aH (dAt D x) 1954115685 = 1 ∧ CLSV (aW (dAt D x) 1954115685).toInt)))) ∨ (dKd D x = 5 ∧ ((aH (dAt D x) 508440638821 + aH (dAt D x) 7497062 + (dCn D x : Int) = 1 ∧ (aH (dAt D x) 7497062 = 0 ∨ aI (dAt D x) 7497062 = 1)) ∧ (aI (dAt D x) 1851878757 = 1 ∧ (aW (dAt D x) 1851878757).toInt < 256) ∧ (ahD D 0 x x : Int) < 8 ∧ (ahD D 1 x x : Int) = 0)) ∨ (dKd D x = 6 ∧ ((dCn D x : Int) ≤ 6)) ∨ ((dKd D x = 7 ∨ dKd D x = 9) ∧ ((dCn D x : Int) = 0)) ∨ (dKd D x = 8 ∧ (aI (dAt D x) 1650811246 = 1 ∧ (dCn D x : Int) = 0)) ∨ (dKd D x = 10 ∧ ((aI (dAt D x) 1851878757 = 1 ∧ (aW (dAt D x) 1851878757).toInt < 256) ∧ aI (dAt D x) 1650811246 = 1 ∧ (dCn D x : Int) = 0 ∧ (ahD D 0 x x : Int) < 2 ∧ (ahD D 1 x x : Int) = 0))
def CMR (D : List El7) (x : Nat) : Prop := (INP7 (dKd D x) (dIn D x) ∧ (dKd D x = 7 ∨ (dTx D x : Int) ≤ 0)) ∧ ∀ k, 0 ≤ k → k < (dAt D x).length → ALW (dKd D x) (dAy D x k).toInt
/-- what the reference asks of an element -/
def GOODR (D : List El7) (x : Nat) : Prop := CMR D x ∧ GKR D x
/-- what the class asks of an element -/
def FON (D : List El7) (x : Nat) : Prop := ∀ k, k < x → dAb D k = dAb D x → dKd D k = dKd D x → ¬ lv7 (dAt D k) 1851878757 = lv7 (dAt D x) 1851878757
def STN (D : List El7) (x : Nat) : Prop := (dKd D x = 1 ∧ dAb D x = -1) ∨ (dKd D x = 2 ∧ dIn D x = 1) ∨ (dKd D x = 3 ∧ (dIn D x = 1 ∨ dIn D x = 4 ∨ dIn D x = 5 ∨ dIn D x = 6)) ∨ (dKd D x = 4 ∧ dIn D x = 3 ∧ ahD D 0 x x < 4) ∨ (dKd D x = 5 ∧ dIn D x = 3 ∧ ahD D 0 x x < 8 ∧ FON D x) ∨ (dKd D x = 10 ∧ dIn D x = 3 ∧ ahD D 0 x x < 2 ∧ FON D x) ∨ (dKd D x = 6 ∧ (dIn D x = 4 ∨ dIn D x = 5)) ∨ ((dKd D x = 7 ∨ dKd D x = 8 ∨ dKd D x = 9) ∧ (dIn D x = 4 ∨ dIn D x = 5 ∨ dIn D x = 6))
def MAY (kd i k : Int) : Prop := (kd = 2 ∧ (k = 1851878757 ∨ k = 29807)) ∨ (kd = 3 ∧ (((k = 26980 ∨ k = 7017298113369039732 ∨ k = 1818327673) ∧ i = 1) ∨ (k = 427020088179 ∨ k = 123563833388660 ∨ k = 495589486693 ∨ k = 28817527407604345 ∨ k = 120282512125796 ∨ k = 1768843636 ∨ k = 28259044220366713 ∨ k = 28259031083541619))) ∨ (kd = 4 ∧ (k = 24948 ∨ k = 1954115685 ∨ k = 508440638821 ∨ k = 7497062)) ∨ (kd = 5 ∧ (k = 1851878757 ∨ k = 508440638821 ∨ k = 7497062)) ∨ (kd = 8 ∧ (k = 1650811246)) ∨ (kd = 10 ∧ (k = 1851878757 ∨ k = 1650811246))
def ty7 (q : At7) (k : Int64) : Prop := 0 ≤ cv7 q k ∨ nv7 q k = 6909556 ∨ nv7 q k = 500136506472 ∨ nv7 q k = 1667785074 ∨ nv7 q k = 1952807028 ∨ nv7 q k = 7499639
def RVL (kd : Int) (q : At7) (k : Int64) : Prop := (k.toInt = 1851878757 ∧ ((kd = 2 ∧ ¬ nv7 q k = 0) ∨ (¬ kd = 2 ∧ 0 ≤ lv7 q k))) ∨ (k.toInt = 427020088179 ∧ 0 ≤ cv7 q k) ∨ ((k.toInt = 7017298113369039732 ∨ k.toInt = 1818327673) ∧ (nv7 q k = 7955827 ∨ nv7 q k = 28271)) ∨ (k.toInt = 495589486693 ∧ (nv7 q k = 7302757 ∨ nv7 q k = 1835101817)) ∨ ((k.toInt = 120282512125796 ∨ k.toInt = 1768843636 ∨ k.toInt = 28259044220366713) ∧ 0 ≤ lv7 q k) ∨ (k.toInt = 24948 ∧ 0 ≤ pl7 q k) ∨ (k.toInt = 1954115685 ∧ ty7 q k) ∨ k.toInt = 508440638821 ∨ ((k.toInt = 26980 ∨ k.toInt = 123563833388660 ∨ k.toInt = 28817527407604345 ∨ k.toInt = 28259031083541619 ∨ k.toInt = 29807 ∨ k.toInt = 7497062 ∨ k.toInt = 1650811246) ∧ ¬ nv7 q k = 0)
def ATN (D : List El7) (x : Nat) : Prop := ∀ y, y ∈ dAt D x → MAY (dKd D x) (dIn D x) y.1.toInt ∧ RVL (dKd D x) (dAt D x) y.1
def NBE (D : List El7) (x : Nat) : Prop := (¬ dIn D x = 1 ∨ aH (dAt D x) 26980 = 1) ∧ (aH (dAt D x) 28817527407604345 = 0 ∨ aH (dAt D x) 120282512125796 = 1) ∧ (nv7 (dAt D x) 7017298113369039732 = 7955827 ∨ aH (dAt D x) 427020088179 = 1 ∨ aH (dAt D x) 123563833388660 = 1 ∨ aH (dAt D x) 28817527407604345 = 1)
def NEE (D : List El7) (x : Nat) : Prop := (¬ dKd D x = 2 ∨ (aH (dAt D x) 1851878757 = 1 ∧ aH (dAt D x) 29807 = 1)) ∧ (¬ dKd D x = 3 ∨ NBE D x) ∧ (¬ dKd D x = 5 ∨ aH (dAt D x) 1851878757 = 1) ∧ (¬ dKd D x = 8 ∨ aH (dAt D x) 1650811246 = 1) ∧ (¬ dKd D x = 10 ∨ (aH (dAt D x) 1851878757 = 1 ∧ aH (dAt D x) 1650811246 = 1))
def CNT (D : List El7) (x : Nat) : Prop := dKd D x = 1 ∨ dKd D x = 3 ∨ ((dKd D x = 4 ∨ dKd D x = 5) ∧ aH (dAt D x) 508440638821 + aH (dAt D x) 7497062 + (dCn D x : Int) = 1) ∨ (dKd D x = 6 ∧ (dCn D x : Int) ≤ 6) ∨ ((dKd D x = 2 ∨ dKd D x = 7 ∨ dKd D x = 8 ∨ dKd D x = 9 ∨ dKd D x = 10) ∧ (dCn D x : Int) = 0)
def GOODC (D : List El7) (x : Nat) : Prop := STN D x ∧ ATN D x ∧ NEE D x ∧ (dTx D x = 0 ∨ dKd D x = 7) ∧ CNT D x
theorem nve_7955827 {q : At7} {k : Int64} (h : PA7 q) : nv7 q k = 7955827 ↔ (aW q k).toInt = 7955827 := nv7_e (u := [121, 101, 115]) h (by unfold PV7; decide) (by decide) (by decide) (by decide) (by decide)
theorem nve_28271 {q : At7} {k : Int64} (h : PA7 q) : nv7 q k = 28271 ↔ (aW q k).toInt = 28271 := nv7_e (u := [110, 111]) h (by unfold PV7; decide) (by decide) (by decide) (by decide) (by decide)
theorem nve_7302757 {q : At7} {k : Int64} (h : PA7 q) : nv7 q k = 7302757 ↔ (aW q k).toInt = 7302757 := nv7_e (u := [111, 110, 101]) h (by unfold PV7; decide) (by decide) (by decide) (by decide) (by decide)
theorem nve_1835101817 {q : At7} {k : Int64} (h : PA7 q) : nv7 q k = 1835101817 ↔ (aW q k).toInt = 1835101817 := nv7_e (u := [109, 97, 110, 121]) h (by unfold PV7; decide) (by decide) (by decide) (by decide) (by decide)
theorem nve_6909556 {q : At7} {k : Int64} (h : PA7 q) : nv7 q k = 6909556 ↔ (aW q k).toInt = 6909556 := nv7_e (u := [105, 110, 116]) h (by unfold PV7; decide) (by decide) (by decide) (by decide) (by decide)
theorem nve_500136506472 {q : At7} {k : Int64} (h : PA7 q) : nv7 q k = 500136506472 ↔ (aW q k).toInt = 500136506472 := nv7_e (u := [116, 114, 117, 116, 104]) h (by unfold PV7; decide) (by decide) (by decide) (by decide) (by decide)
theorem nve_1667785074 {q : At7} {k : Int64} (h : PA7 q) : nv7 q k = 1667785074 ↔ (aW q k).toInt = 1667785074 := nv7_e (u := [99, 104, 97, 114]) h (by unfold PV7; decide) (by decide) (by decide) (by decide) (by decide)
theorem nve_1952807028 {q : At7} {k : Int64} (h : PA7 q) : nv7 q k = 1952807028 ↔ (aW q k).toInt = 1952807028 := nv7_e (u := [116, 101, 120, 116]) h (by unfold PV7; decide) (by decide) (by decide) (by decide) (by decide)
theorem nve_7499639 {q : At7} {k : Int64} (h : PA7 q) : nv7 q k = 7499639 ↔ (aW q k).toInt = 7499639 := nv7_e (u := [114, 111, 119]) h (by unfold PV7; decide) (by decide) (by decide) (by decide) (by decide)
end
section
theorem lv7_b {q : At7} {k : Int64} (h : PA7 q) (hl : lv7 q k = -1) : ¬ (97 ≤ (aW q k).toInt ∧ (aW q k).toInt ≤ 122) := by
  have hm := i64_m1
  rcases gA_h (q := q) (k := k) with ⟨g1, g2⟩ | ⟨v, g1, g2⟩
  · intro w; rw [aW_n g1] at w; omega
  · rw [aW_s g1]
    have hp := gA_pv h g1
    by_cases h8 : v.length ≤ 8
    · rw [if_pos h8]
      rcases foL_len hp h8 with ⟨a, b⟩ | ⟨c, a, b, _⟩ | ⟨c, d, a, b, b1, _, b2, _⟩ | ⟨a, b⟩
      · omega
      · subst a
        have e : lv7 q k = if 97 ≤ c ∧ c ≤ 122 then c - 97 else -1 := by unfold lv7; rw [g1]
        rw [e] at hl
        by_cases hc : 97 ≤ c ∧ c ≤ 122
        · rw [if_pos hc] at hl; omega
        · rw [b]; exact hc
      · omega
      · omega
    · rw [if_neg h8]; omega
theorem dAt_pv {D : List El7} {x : Nat} (h : PD7 D) : PA7 (dAt D x) := by
  unfold dAt dEl
  cases hx : D[x]? with
  | none => exact PA7_0
  | some w => exact h w (List.mem_of_getElem? hx)
theorem aH_m {q : At7} {k : Int64} : (aH q k = 0 ∧ ∀ y, y ∈ q → ¬ y.1 = k) ∨ (aH q k = 1 ∧ ∃ y, y ∈ q ∧ y.1 = k) := by
  unfold aH
  cases h : hasK q k with
  | false =>
    unfold hasK at h
    rw [List.any_eq_false] at h
    exact Or.inl ⟨if_neg (by decide), fun y hy e => h y hy (beq_iff_eq.mpr e)⟩
  | true =>
    unfold hasK at h
    rw [List.any_eq_true] at h
    obtain ⟨y, hy, e⟩ := h
    exact Or.inr ⟨if_pos rfl, y, hy, beq_iff_eq.mp e⟩
theorem dAy_m {D : List El7} {x : Nat} {P : Int → Prop} : (∀ k, 0 ≤ k → k < (dAt D x).length → P (dAy D x k).toInt) ↔ ∀ y, y ∈ dAt D x → P y.1.toInt := by
  constructor
  · intro h y hy
    obtain ⟨i, hi, e⟩ := List.mem_iff_getElem.mp hy
    have := h i (Nat.zero_le _) hi
    unfold dAy at this
    rw [List.getElem?_eq_getElem hi, e] at this
    exact this
  · intro h k _ hk
    unfold dAy
    rw [List.getElem?_eq_getElem hk]
    exact h _ (List.getElem_mem hk)
theorem ATN_e {D : List El7} {x : Nat} : ATN D x ↔ (∀ y, y ∈ dAt D x → MAY (dKd D x) (dIn D x) y.1.toInt) ∧ ∀ k, aH (dAt D x) k = 0 ∨ RVL (dKd D x) (dAt D x) k := by
  constructor
  · intro h
    refine ⟨fun y hy => (h y hy).1, fun k => ?_⟩
    rcases aH_m (q := dAt D x) (k := k) with q | ⟨_, y, hy, e⟩
    · exact Or.inl q.1
    · rw [← e]; exact Or.inr (h y hy).2
  · intro h y hy
    refine ⟨h.1 y hy, ?_⟩
    rcases h.2 y.1 with q | q
    · rcases aH_m (q := dAt D x) (k := y.1) with w | w
      · exact absurd rfl (w.2 y hy)
      · rw [w.1] at q; exact absurd q (by decide)
    · exact q
theorem ahD_0 {D : List El7} {f : Int} {x : Nat} : ∀ n, ahD D f x n = 0 ↔ ∀ k, k < n → ¬ AQD D f x k := by
  intro n
  induction n with
  | zero => exact ⟨fun _ k hk => absurd hk (Nat.not_lt_zero k), fun _ => rfl⟩
  | succ n ih =>
    have e : ahD D f x (n + 1) = ahD D f x n + (if AQD D f x n then 1 else 0) := rfl
    rw [e]
    constructor
    · intro h k hk
      by_cases hq : AQD D f x n
      · rw [if_pos hq] at h; omega
      · rw [if_neg hq] at h
        by_cases he : k = n
        · rw [he]; exact hq
        · exact ih.mp (by omega) k (by omega)
    · intro h
      rw [if_neg (h n (by omega)), ih.mpr (fun k hk => h k (by omega))]
theorem FON_e {D : List El7} {x : Nat} (hP : PD7 D) (hl : 0 ≤ lv7 (dAt D x) 1851878757) : FON D x ↔ ahD D 1 x x = 0 := by
  rw [ahD_0]
  have hx := (lv7_a (q := dAt D x) (k := 1851878757) (dAt_pv hP)).resolve_right (fun w => by have := w.1; omega)
  constructor
  · intro h k hk hq
    obtain ⟨q1, q2, q3⟩ := hq
    have q3 := q3.resolve_left (by decide)
    refine h k hk q1 q2 ?_
    rcases lv7_a (q := dAt D k) (k := 1851878757) (dAt_pv hP) with w | w
    · omega
    · have := lv7_b (dAt_pv hP) w.1; omega
  · intro h k hk q1 q2 q3
    refine h k hk ⟨q1, q2, Or.inr ?_⟩
    rcases lv7_a (q := dAt D k) (k := 1851878757) (dAt_pv hP) with w | w
    · omega
    · omega

theorem rv_NAME {kd : Int} {q : At7} (h : PA7 q) : RVL kd q 1851878757 ↔ (kd = 2 ∧ aI q 1851878757 = 1) ∨ (¬ kd = 2 ∧ 0 ≤ lv7 q 1851878757) := by
  unfold RVL ty7
  simp only [show (1851878757 : Int64).toInt = 1851878757 from by decide, nv7_z h, nve_7955827 h, nve_28271 h, nve_7302757 h, nve_1835101817 h, nve_6909556 h, nve_500136506472 h, nve_1667785074 h, nve_1952807028 h, nve_7499639 h, Int.reduceEq, false_and, false_or, or_false, true_or, or_true, true_and, and_true, or_self] <;> (constructor <;> intro w <;> omega)

theorem rv_CLASS {kd : Int} {q : At7} (h : PA7 q) : RVL kd q 427020088179 ↔ 0 ≤ cv7 q 427020088179 := by
  unfold RVL ty7
  simp only [show (427020088179 : Int64).toInt = 427020088179 from by decide, nv7_z h, nve_7955827 h, nve_28271 h, nve_7302757 h, nve_1835101817 h, nve_6909556 h, nve_500136506472 h, nve_1667785074 h, nve_1952807028 h, nve_7499639 h, Int.reduceEq, false_and, false_or, or_false, true_or, or_true, true_and, and_true, or_self] <;> (constructor <;> intro w <;> omega)

theorem rv_AT {kd : Int} {q : At7} (h : PA7 q) : RVL kd q 24948 ↔ 0 ≤ pl7 q 24948 := by
  unfold RVL ty7
  simp only [show (24948 : Int64).toInt = 24948 from by decide, nv7_z h, nve_7955827 h, nve_28271 h, nve_7302757 h, nve_1835101817 h, nve_6909556 h, nve_500136506472 h, nve_1667785074 h, nve_1952807028 h, nve_7499639 h, Int.reduceEq, false_and, false_or, or_false, true_or, or_true, true_and, and_true, or_self] <;> (constructor <;> intro w <;> omega)

theorem rv_VALUE {kd : Int} {q : At7} (h : PA7 q) : RVL kd q 508440638821 ↔ True := by
  unfold RVL ty7
  simp only [show (508440638821 : Int64).toInt = 508440638821 from by decide, nv7_z h, nve_7955827 h, nve_28271 h, nve_7302757 h, nve_1835101817 h, nve_6909556 h, nve_500136506472 h, nve_1667785074 h, nve_1952807028 h, nve_7499639 h, Int.reduceEq, false_and, false_or, or_false, true_or, or_true, true_and, and_true, or_self] <;> (constructor <;> intro w <;> omega)

theorem rv_TYPE {kd : Int} {q : At7} (h : PA7 q) : RVL kd q 1954115685 ↔ 0 ≤ cv7 q 1954115685 ∨ (aW q 1954115685).toInt = 6909556 ∨ (aW q 1954115685).toInt = 500136506472 ∨ (aW q 1954115685).toInt = 1667785074 ∨ (aW q 1954115685).toInt = 1952807028 ∨ (aW q 1954115685).toInt = 7499639 := by
  unfold RVL ty7
  simp only [show (1954115685 : Int64).toInt = 1954115685 from by decide, nv7_z h, nve_7955827 h, nve_28271 h, nve_7302757 h, nve_1835101817 h, nve_6909556 h, nve_500136506472 h, nve_1667785074 h, nve_1952807028 h, nve_7499639 h, Int.reduceEq, false_and, false_or, or_false, true_or, or_true, true_and, and_true, or_self] <;> (constructor <;> intro w <;> omega)

theorem rv_ABSTRACT {kd : Int} {q : At7} (h : PA7 q) : RVL kd q 7017298113369039732 ↔ (aW q 7017298113369039732).toInt = 7955827 ∨ (aW q 7017298113369039732).toInt = 28271 := by
  unfold RVL ty7
  simp only [show (7017298113369039732 : Int64).toInt = 7017298113369039732 from by decide, nv7_z h, nve_7955827 h, nve_28271 h, nve_7302757 h, nve_1835101817 h, nve_6909556 h, nve_500136506472 h, nve_1667785074 h, nve_1952807028 h, nve_7499639 h, Int.reduceEq, false_and, false_or, or_false, true_or, or_true, true_and, and_true, or_self] <;> (constructor <;> intro w <;> omega)

theorem rv_LAZY {kd : Int} {q : At7} (h : PA7 q) : RVL kd q 1818327673 ↔ (aW q 1818327673).toInt = 7955827 ∨ (aW q 1818327673).toInt = 28271 := by
  unfold RVL ty7
  simp only [show (1818327673 : Int64).toInt = 1818327673 from by decide, nv7_z h, nve_7955827 h, nve_28271 h, nve_7302757 h, nve_1835101817 h, nve_6909556 h, nve_500136506472 h, nve_1667785074 h, nve_1952807028 h, nve_7499639 h, Int.reduceEq, false_and, false_or, or_false, true_or, or_true, true_and, and_true, or_self] <;> (constructor <;> intro w <;> omega)

theorem rv_SCOPE {kd : Int} {q : At7} (h : PA7 q) : RVL kd q 495589486693 ↔ (aW q 495589486693).toInt = 7302757 ∨ (aW q 495589486693).toInt = 1835101817 := by
  unfold RVL ty7
  simp only [show (495589486693 : Int64).toInt = 495589486693 from by decide, nv7_z h, nve_7955827 h, nve_28271 h, nve_7302757 h, nve_1835101817 h, nve_6909556 h, nve_500136506472 h, nve_1667785074 h, nve_1952807028 h, nve_7499639 h, Int.reduceEq, false_and, false_or, or_false, true_or, or_true, true_and, and_true, or_self] <;> (constructor <;> intro w <;> omega)

theorem rv_METHOD {kd : Int} {q : At7} (h : PA7 q) : RVL kd q 120282512125796 ↔ 0 ≤ lv7 q 120282512125796 := by
  unfold RVL ty7
  simp only [show (120282512125796 : Int64).toInt = 120282512125796 from by decide, nv7_z h, nve_7955827 h, nve_28271 h, nve_7302757 h, nve_1835101817 h, nve_6909556 h, nve_500136506472 h, nve_1667785074 h, nve_1952807028 h, nve_7499639 h, Int.reduceEq, false_and, false_or, or_false, true_or, or_true, true_and, and_true, or_self] <;> (constructor <;> intro w <;> omega)

theorem rv_INIT {kd : Int} {q : At7} (h : PA7 q) : RVL kd q 1768843636 ↔ 0 ≤ lv7 q 1768843636 := by
  unfold RVL ty7
  simp only [show (1768843636 : Int64).toInt = 1768843636 from by decide, nv7_z h, nve_7955827 h, nve_28271 h, nve_7302757 h, nve_1835101817 h, nve_6909556 h, nve_500136506472 h, nve_1667785074 h, nve_1952807028 h, nve_7499639 h, Int.reduceEq, false_and, false_or, or_false, true_or, or_true, true_and, and_true, or_self] <;> (constructor <;> intro w <;> omega)

theorem rv_DESTROY {kd : Int} {q : At7} (h : PA7 q) : RVL kd q 28259044220366713 ↔ 0 ≤ lv7 q 28259044220366713 := by
  unfold RVL ty7
  simp only [show (28259044220366713 : Int64).toInt = 28259044220366713 from by decide, nv7_z h, nve_7955827 h, nve_28271 h, nve_7302757 h, nve_1835101817 h, nve_6909556 h, nve_500136506472 h, nve_1667785074 h, nve_1952807028 h, nve_7499639 h, Int.reduceEq, false_and, false_or, or_false, true_or, or_true, true_and, and_true, or_self] <;> (constructor <;> intro w <;> omega)

theorem rv_ID {kd : Int} {q : At7} (h : PA7 q) : RVL kd q 26980 ↔ aI q 26980 = 1 := by
  unfold RVL ty7
  simp only [show (26980 : Int64).toInt = 26980 from by decide, nv7_z h, nve_7955827 h, nve_28271 h, nve_7302757 h, nve_1835101817 h, nve_6909556 h, nve_500136506472 h, nve_1667785074 h, nve_1952807028 h, nve_7499639 h, Int.reduceEq, false_and, false_or, or_false, true_or, or_true, true_and, and_true, or_self] <;> (constructor <;> intro w <;> omega)

theorem rv_PARENT {kd : Int} {q : At7} (h : PA7 q) : RVL kd q 123563833388660 ↔ aI q 123563833388660 = 1 := by
  unfold RVL ty7
  simp only [show (123563833388660 : Int64).toInt = 123563833388660 from by decide, nv7_z h, nve_7955827 h, nve_28271 h, nve_7302757 h, nve_1835101817 h, nve_6909556 h, nve_500136506472 h, nve_1667785074 h, nve_1952807028 h, nve_7499639 h, Int.reduceEq, false_and, false_or, or_false, true_or, or_true, true_and, and_true, or_self] <;> (constructor <;> intro w <;> omega)

theorem rv_FACTORY {kd : Int} {q : At7} (h : PA7 q) : RVL kd q 28817527407604345 ↔ aI q 28817527407604345 = 1 := by
  unfold RVL ty7
  simp only [show (28817527407604345 : Int64).toInt = 28817527407604345 from by decide, nv7_z h, nve_7955827 h, nve_28271 h, nve_7302757 h, nve_1835101817 h, nve_6909556 h, nve_500136506472 h, nve_1667785074 h, nve_1952807028 h, nve_7499639 h, Int.reduceEq, false_and, false_or, or_false, true_or, or_true, true_and, and_true, or_self] <;> (constructor <;> intro w <;> omega)

theorem rv_DEPENDS {kd : Int} {q : At7} (h : PA7 q) : RVL kd q 28259031083541619 ↔ aI q 28259031083541619 = 1 := by
  unfold RVL ty7
  simp only [show (28259031083541619 : Int64).toInt = 28259031083541619 from by decide, nv7_z h, nve_7955827 h, nve_28271 h, nve_7302757 h, nve_1835101817 h, nve_6909556 h, nve_500136506472 h, nve_1667785074 h, nve_1952807028 h, nve_7499639 h, Int.reduceEq, false_and, false_or, or_false, true_or, or_true, true_and, and_true, or_self] <;> (constructor <;> intro w <;> omega)

theorem rv_TO {kd : Int} {q : At7} (h : PA7 q) : RVL kd q 29807 ↔ aI q 29807 = 1 := by
  unfold RVL ty7
  simp only [show (29807 : Int64).toInt = 29807 from by decide, nv7_z h, nve_7955827 h, nve_28271 h, nve_7302757 h, nve_1835101817 h, nve_6909556 h, nve_500136506472 h, nve_1667785074 h, nve_1952807028 h, nve_7499639 h, Int.reduceEq, false_and, false_or, or_false, true_or, or_true, true_and, and_true, or_self] <;> (constructor <;> intro w <;> omega)

theorem rv_REF {kd : Int} {q : At7} (h : PA7 q) : RVL kd q 7497062 ↔ aI q 7497062 = 1 := by
  unfold RVL ty7
  simp only [show (7497062 : Int64).toInt = 7497062 from by decide, nv7_z h, nve_7955827 h, nve_28271 h, nve_7302757 h, nve_1835101817 h, nve_6909556 h, nve_500136506472 h, nve_1667785074 h, nve_1952807028 h, nve_7499639 h, Int.reduceEq, false_and, false_or, or_false, true_or, or_true, true_and, and_true, or_self] <;> (constructor <;> intro w <;> omega)

theorem rv_BEAN {kd : Int} {q : At7} (h : PA7 q) : RVL kd q 1650811246 ↔ aI q 1650811246 = 1 := by
  unfold RVL ty7
  simp only [show (1650811246 : Int64).toInt = 1650811246 from by decide, nv7_z h, nve_7955827 h, nve_28271 h, nve_7302757 h, nve_1835101817 h, nve_6909556 h, nve_500136506472 h, nve_1667785074 h, nve_1952807028 h, nve_7499639 h, Int.reduceEq, false_and, false_or, or_false, true_or, or_true, true_and, and_true, or_self] <;> (constructor <;> intro w <;> omega)

theorem GKR_2 {D : List El7} {x : Nat} (h : dKd D x = 2) : GKR D x ↔ (aI (dAt D x) 1851878757 = 1 ∧ aI (dAt D x) 29807 = 1 ∧ (dCn D x : Int) = 0) := by
  constructor
  · intro g
    unfold GKR at g
    rcases g with q | ⟨q, p⟩ | ⟨q, p⟩ | ⟨q, p⟩ | ⟨q, p⟩ | ⟨q, p⟩ | ⟨q, p⟩ | ⟨q, p⟩ | ⟨q, p⟩ <;> first | (clear p; exfalso; omega) | (exfalso; omega) | exact p
  · intro p
    exact Or.inr (Or.inl ⟨h, p⟩)

theorem GKR_3 {D : List El7} {x : Nat} (h : dKd D x = 3) : GKR D x ↔ (((aH (dAt D x) 26980 = 0 ∨ aI (dAt D x) 26980 = 1) ∧ (aH (dAt D x) 123563833388660 = 0 ∨ aI (dAt D x) 123563833388660 = 1) ∧ (aH (dAt D x) 28817527407604345 = 0 ∨ aI (dAt D x) 28817527407604345 = 1) ∧ (aH (dAt D x) 28259031083541619 = 0 ∨ aI (dAt D x) 28259031083541619 = 1)) ∧ ((aH (dAt D x) 120282512125796 = 0 ∨ (aI (dAt D x) 120282512125796 = 1 ∧ (aW (dAt D x) 120282512125796).toInt < 256)) ∧ (aH (dAt D x) 1768843636 = 0 ∨ (aI (dAt D x) 1768843636 = 1 ∧ (aW (dAt D x) 1768843636).toInt < 256)) ∧ (aH (dAt D x) 28259044220366713 = 0 ∨ (aI (dAt D x) 28259044220366713 = 1 ∧ (aW (dAt D x) 28259044220366713).toInt < 256))) ∧ ((aH (dAt D x) 427020088179 = 0 ∨ CLSV (aW (dAt D x) 427020088179).toInt) ∧ (aH (dAt D x) 7017298113369039732 = 0 ∨ (aW (dAt D x) 7017298113369039732).toInt = 7955827 ∨ (aW (dAt D x) 7017298113369039732).toInt = 28271) ∧ (aH (dAt D x) 1818327673 = 0 ∨ (aW (dAt D x) 1818327673).toInt = 7955827 ∨ (aW (dAt D x) 1818327673).toInt = 28271) ∧ (aH (dAt D x) 495589486693 = 0 ∨ (aW (dAt D x) 495589486693).toInt = 7302757 ∨ (aW (dAt D x) 495589486693).toInt = 1835101817)) ∧ ((dKd D (dAb D x).toNat = 1 ∧ aH (dAt D x) 26980 = 1) ∨ (¬ dKd D (dAb D x).toNat = 1 ∧ aH (dAt D x) 26980 = 0 ∧ aH (dAt D x) 7017298113369039732 = 0 ∧ aH (dAt D x) 1818327673 = 0)) ∧ ((aW (dAt D x) 7017298113369039732).toInt = 7955827 ∨ aH (dAt D x) 427020088179 = 1 ∨ aH (dAt D x) 123563833388660 = 1 ∨ aH (dAt D x) 28817527407604345 = 1) ∧ (aH (dAt D x) 28817527407604345 = 0 ∨ aH (dAt D x) 120282512125796 = 1)) := by
  constructor
  · intro g
    unfold GKR at g
    rcases g with q | ⟨q, p⟩ | ⟨q, p⟩ | ⟨q, p⟩ | ⟨q, p⟩ | ⟨q, p⟩ | ⟨q, p⟩ | ⟨q, p⟩ | ⟨q, p⟩ <;> first | (clear p; exfalso; omega) | (exfalso; omega) | exact p
  · intro p
    exact Or.inr (Or.inr (Or.inl ⟨h, p⟩))

theorem GKR_4 {D : List El7} {x : Nat} (h : dKd D x = 4) : GKR D x ↔ (((aH (dAt D x) 508440638821 + aH (dAt D x) 7497062 + (dCn D x : Int) = 1 ∧ (aH (dAt D x) 7497062 = 0 ∨ aI (dAt D x) 7497062 = 1)) ∧ (ahD D 0 x x : Int) < 4 ∧ (aH (dAt D x) 24948 = 0 ∨ (48 ≤ (aW (dAt D x) 24948).toInt ∧ (aW (dAt D x) 24948).toInt ≤ 50))) ∧ (aH (dAt D x) 1954115685 = 0 ∨ ((aW (dAt D x) 1954115685).toInt = 6909556 ∨ (aW (dAt D x) 1954115685).toInt = 500136506472 ∨ (aW (dAt D x) 1954115685).toInt = 1667785074 ∨ (aW (dAt D x) 1954115685).toInt = 1952807028 ∨ (aW (dAt D x) 1954115685).toInt = 7499639) ∨ (aH (dAt D x) 1954115685 = 1 ∧ CLSV (aW (dAt D x) 1954115685).toInt))) := by
  constructor
  · intro g
    unfold GKR at g
    rcases g with q | ⟨q, p⟩ | ⟨q, p⟩ | ⟨q, p⟩ | ⟨q, p⟩ | ⟨q, p⟩ | ⟨q, p⟩ | ⟨q, p⟩ | ⟨q, p⟩ <;> first | (clear p; exfalso; omega) | (exfalso; omega) | exact p
  · intro p
    exact Or.inr (Or.inr (Or.inr (Or.inl ⟨h, p⟩)))

theorem GKR_5 {D : List El7} {x : Nat} (h : dKd D x = 5) : GKR D x ↔ ((aH (dAt D x) 508440638821 + aH (dAt D x) 7497062 + (dCn D x : Int) = 1 ∧ (aH (dAt D x) 7497062 = 0 ∨ aI (dAt D x) 7497062 = 1)) ∧ (aI (dAt D x) 1851878757 = 1 ∧ (aW (dAt D x) 1851878757).toInt < 256) ∧ (ahD D 0 x x : Int) < 8 ∧ (ahD D 1 x x : Int) = 0) := by
  constructor
  · intro g
    unfold GKR at g
    rcases g with q | ⟨q, p⟩ | ⟨q, p⟩ | ⟨q, p⟩ | ⟨q, p⟩ | ⟨q, p⟩ | ⟨q, p⟩ | ⟨q, p⟩ | ⟨q, p⟩ <;> first | (clear p; exfalso; omega) | (exfalso; omega) | exact p
  · intro p
    exact Or.inr (Or.inr (Or.inr (Or.inr (Or.inl ⟨h, p⟩))))

theorem GKR_6 {D : List El7} {x : Nat} (h : dKd D x = 6) : GKR D x ↔ ((dCn D x : Int) ≤ 6) := by
  constructor
  · intro g
    unfold GKR at g
    rcases g with q | ⟨q, p⟩ | ⟨q, p⟩ | ⟨q, p⟩ | ⟨q, p⟩ | ⟨q, p⟩ | ⟨q, p⟩ | ⟨q, p⟩ | ⟨q, p⟩ <;> first | (clear p; exfalso; omega) | (exfalso; omega) | exact p
  · intro p
    exact Or.inr (Or.inr (Or.inr (Or.inr (Or.inr (Or.inl ⟨h, p⟩)))))

theorem GKR_7 {D : List El7} {x : Nat} (h : (dKd D x = 7 ∨ dKd D x = 9)) : GKR D x ↔ ((dCn D x : Int) = 0) := by
  constructor
  · intro g
    unfold GKR at g
    rcases g with q | ⟨q, p⟩ | ⟨q, p⟩ | ⟨q, p⟩ | ⟨q, p⟩ | ⟨q, p⟩ | ⟨q, p⟩ | ⟨q, p⟩ | ⟨q, p⟩ <;> first | (clear p; exfalso; omega) | (exfalso; omega) | exact p
  · intro p
    exact Or.inr (Or.inr (Or.inr (Or.inr (Or.inr (Or.inr (Or.inl ⟨h, p⟩))))))

theorem GKR_8 {D : List El7} {x : Nat} (h : dKd D x = 8) : GKR D x ↔ (aI (dAt D x) 1650811246 = 1 ∧ (dCn D x : Int) = 0) := by
  constructor
  · intro g
    unfold GKR at g
    rcases g with q | ⟨q, p⟩ | ⟨q, p⟩ | ⟨q, p⟩ | ⟨q, p⟩ | ⟨q, p⟩ | ⟨q, p⟩ | ⟨q, p⟩ | ⟨q, p⟩ <;> first | (clear p; exfalso; omega) | (exfalso; omega) | exact p
  · intro p
    exact Or.inr (Or.inr (Or.inr (Or.inr (Or.inr (Or.inr (Or.inr (Or.inl ⟨h, p⟩)))))))

theorem GKR_10 {D : List El7} {x : Nat} (h : dKd D x = 10) : GKR D x ↔ ((aI (dAt D x) 1851878757 = 1 ∧ (aW (dAt D x) 1851878757).toInt < 256) ∧ aI (dAt D x) 1650811246 = 1 ∧ (dCn D x : Int) = 0 ∧ (ahD D 0 x x : Int) < 2 ∧ (ahD D 1 x x : Int) = 0) := by
  constructor
  · intro g
    unfold GKR at g
    rcases g with q | ⟨q, p⟩ | ⟨q, p⟩ | ⟨q, p⟩ | ⟨q, p⟩ | ⟨q, p⟩ | ⟨q, p⟩ | ⟨q, p⟩ | ⟨q, p⟩ <;> first | (clear p; exfalso; omega) | (exfalso; omega) | exact p
  · intro p
    exact Or.inr (Or.inr (Or.inr (Or.inr (Or.inr (Or.inr (Or.inr (Or.inr (⟨h, p⟩))))))))

theorem kd7_r (k : Int) : 0 ≤ kd7 k ∧ kd7 k ≤ 10 := by unfold kd7; constructor <;> (repeat' split) <;> decide
theorem dIn_0 {D : List El7} {x : Nat} (hk : ∀ e, e < D.length → ¬ dKd D e = 0) (hx : x < D.length) (ha : dAb D x < (x : Int) ∧ -1 ≤ dAb D x) : (dIn D x = 0 ∧ dAb D x = -1) ∨ (¬ dIn D x = 0 ∧ 0 ≤ dAb D x ∧ dIn D x = dKd D (dAb D x).toNat) := by
  unfold dIn
  by_cases h : dAb D x = -1
  · rw [if_pos h]; exact Or.inl ⟨rfl, h⟩
  · rw [if_neg h]; exact Or.inr ⟨hk _ (by omega), by omega, rfl⟩
theorem aH_y {q : At7} {k : Int64} {y : Int64 × List Int} (hy : y ∈ q) (e : y.1.toInt = k.toInt) : aH q k = 1 := by
  rcases aH_m (q := q) (k := k) with w | w
  · exact absurd (Int64.toInt_inj.mp e) (w.2 y hy)
  · exact w.1
theorem aH_01 {q : At7} {k : Int64} : aH q k = 0 ∨ aH q k = 1 := (aH_m (q := q) (k := k)).imp (fun w => w.1) (fun w => w.1)
theorem c_w {q : At7} {k : Int64} (h : aH q k = 0 ∨ aI q k = 1) (w : aH q k = 1) : aI q k = 1 := by omega
theorem c_l {q : At7} {k : Int64} (hq : PA7 q) (h : aH q k = 0 ∨ (aI q k = 1 ∧ (aW q k).toInt < 256)) (w : aH q k = 1) : 0 ≤ lv7 q k := by
  have := lv7_a (k := k) hq; omega
theorem c_l2 {q : At7} {k : Int64} (hq : PA7 q) (h : aI q k = 1 ∧ (aW q k).toInt < 256) : 0 ≤ lv7 q k := by
  have := lv7_a (k := k) hq; omega
theorem l_c {q : At7} {k : Int64} (hq : PA7 q) (h : 0 ≤ lv7 q k) : aI q k = 1 ∧ (aW q k).toInt < 256 := by
  have := lv7_a (k := k) hq; omega
theorem c_c {q : At7} {k : Int64} (hq : PA7 q) (h : aH q k = 0 ∨ CLSV (aW q k).toInt) (w : aH q k = 1) : 0 ≤ cv7 q k := by
  rcases cv7_a (k := k) hq with v | v
  · exact v.1
  · exact absurd (h.resolve_left (by omega)) v.2
theorem cv_c {q : At7} {k : Int64} (hq : PA7 q) (h : 0 ≤ cv7 q k) : CLSV (aW q k).toInt := by
  rcases cv7_a (k := k) hq with v | v
  · exact v.2.2.2
  · have := v.1; omega
theorem c_p {q : At7} {k : Int64} (hq : PA7 q) (h : aH q k = 0 ∨ (48 ≤ (aW q k).toInt ∧ (aW q k).toInt ≤ 50)) (w : aH q k = 1) : 0 ≤ pl7 q k := by
  have := pl7_a (k := k) hq; omega
theorem p_c {q : At7} {k : Int64} (hq : PA7 q) (h : 0 ≤ pl7 q k) : 48 ≤ (aW q k).toInt ∧ (aW q k).toInt ≤ 50 := by
  have := pl7_a (k := k) hq; omega
theorem c_o {a : Int} {b : Prop} (h : a = 0 ∨ b) (w : a = 1) : b := h.resolve_left (by omega)

theorem ALW_1 {z : Int} : ALW 1 z ↔ False := by
  unfold ALW
  simp only [Int.reduceEq, false_and, false_or, or_false, true_and]

theorem MAY_1 {i z : Int} : MAY 1 i z ↔ False := by
  unfold MAY
  simp only [Int.reduceEq, false_and, false_or, or_false, true_and]

theorem INP_1 {a : Int} : INP7 1 a ↔ a = 0 := by
  unfold INP7
  simp only [Int.reduceEq, false_and, false_or, or_false, true_and, true_or, or_true, or_self]

theorem ALW_2 {z : Int} : ALW 2 z ↔ (z = 1851878757 ∨ z = 29807) := by
  unfold ALW
  simp only [Int.reduceEq, false_and, false_or, or_false, true_and]

theorem MAY_2 {i z : Int} : MAY 2 i z ↔ (z = 1851878757 ∨ z = 29807) := by
  unfold MAY
  simp only [Int.reduceEq, false_and, false_or, or_false, true_and]

theorem INP_2 {a : Int} : INP7 2 a ↔ a = 1 := by
  unfold INP7
  simp only [Int.reduceEq, false_and, false_or, or_false, true_and, true_or, or_true, or_self]

theorem ALW_3 {z : Int} : ALW 3 z ↔ (z = 26980 ∨ z = 427020088179 ∨ z = 123563833388660 ∨ z = 7017298113369039732 ∨ z = 495589486693 ∨ z = 1818327673 ∨ z = 28817527407604345 ∨ z = 120282512125796 ∨ z = 1768843636 ∨ z = 28259044220366713 ∨ z = 28259031083541619) := by
  unfold ALW
  simp only [Int.reduceEq, false_and, false_or, or_false, true_and]

theorem MAY_3 {i z : Int} : MAY 3 i z ↔ (((z = 26980 ∨ z = 7017298113369039732 ∨ z = 1818327673) ∧ i = 1) ∨ z = 427020088179 ∨ z = 123563833388660 ∨ z = 495589486693 ∨ z = 28817527407604345 ∨ z = 120282512125796 ∨ z = 1768843636 ∨ z = 28259044220366713 ∨ z = 28259031083541619) := by
  unfold MAY
  simp only [Int.reduceEq, false_and, false_or, or_false, true_and]

theorem INP_3 {a : Int} : INP7 3 a ↔ (a = 1 ∨ a = 4 ∨ a = 5 ∨ a = 6) := by
  unfold INP7
  simp only [Int.reduceEq, false_and, false_or, or_false, true_and, true_or, or_true, or_self]

theorem ALW_4 {z : Int} : ALW 4 z ↔ (z = 24948 ∨ z = 1954115685 ∨ z = 508440638821 ∨ z = 7497062) := by
  unfold ALW
  simp only [Int.reduceEq, false_and, false_or, or_false, true_and]

theorem MAY_4 {i z : Int} : MAY 4 i z ↔ (z = 24948 ∨ z = 1954115685 ∨ z = 508440638821 ∨ z = 7497062) := by
  unfold MAY
  simp only [Int.reduceEq, false_and, false_or, or_false, true_and]

theorem INP_4 {a : Int} : INP7 4 a ↔ a = 3 := by
  unfold INP7
  simp only [Int.reduceEq, false_and, false_or, or_false, true_and, true_or, or_true, or_self]

theorem ALW_5 {z : Int} : ALW 5 z ↔ (z = 1851878757 ∨ z = 508440638821 ∨ z = 7497062) := by
  unfold ALW
  simp only [Int.reduceEq, false_and, false_or, or_false, true_and]

theorem MAY_5 {i z : Int} : MAY 5 i z ↔ (z = 1851878757 ∨ z = 508440638821 ∨ z = 7497062) := by
  unfold MAY
  simp only [Int.reduceEq, false_and, false_or, or_false, true_and]

theorem INP_5 {a : Int} : INP7 5 a ↔ a = 3 := by
  unfold INP7
  simp only [Int.reduceEq, false_and, false_or, or_false, true_and, true_or, or_true, or_self]

theorem ALW_6 {z : Int} : ALW 6 z ↔ False := by
  unfold ALW
  simp only [Int.reduceEq, false_and, false_or, or_false, true_and]

theorem MAY_6 {i z : Int} : MAY 6 i z ↔ False := by
  unfold MAY
  simp only [Int.reduceEq, false_and, false_or, or_false, true_and]

theorem INP_6 {a : Int} : INP7 6 a ↔ (a = 4 ∨ a = 5) := by
  unfold INP7
  simp only [Int.reduceEq, false_and, false_or, or_false, true_and, true_or, or_true, or_self]

theorem ALW_7 {z : Int} : ALW 7 z ↔ False := by
  unfold ALW
  simp only [Int.reduceEq, false_and, false_or, or_false, true_and]

theorem MAY_7 {i z : Int} : MAY 7 i z ↔ False := by
  unfold MAY
  simp only [Int.reduceEq, false_and, false_or, or_false, true_and]

theorem INP_7 {a : Int} : INP7 7 a ↔ (a = 4 ∨ a = 5 ∨ a = 6) := by
  unfold INP7
  simp only [Int.reduceEq, false_and, false_or, or_false, true_and, true_or, or_true, or_self]

theorem ALW_8 {z : Int} : ALW 8 z ↔ (z = 1650811246) := by
  unfold ALW
  simp only [Int.reduceEq, false_and, false_or, or_false, true_and]

theorem MAY_8 {i z : Int} : MAY 8 i z ↔ (z = 1650811246) := by
  unfold MAY
  simp only [Int.reduceEq, false_and, false_or, or_false, true_and]

theorem INP_8 {a : Int} : INP7 8 a ↔ (a = 4 ∨ a = 5 ∨ a = 6) := by
  unfold INP7
  simp only [Int.reduceEq, false_and, false_or, or_false, true_and, true_or, or_true, or_self]

theorem ALW_9 {z : Int} : ALW 9 z ↔ False := by
  unfold ALW
  simp only [Int.reduceEq, false_and, false_or, or_false, true_and]

theorem MAY_9 {i z : Int} : MAY 9 i z ↔ False := by
  unfold MAY
  simp only [Int.reduceEq, false_and, false_or, or_false, true_and]

theorem INP_9 {a : Int} : INP7 9 a ↔ (a = 4 ∨ a = 5 ∨ a = 6) := by
  unfold INP7
  simp only [Int.reduceEq, false_and, false_or, or_false, true_and, true_or, or_true, or_self]

theorem ALW_10 {z : Int} : ALW 10 z ↔ (z = 1851878757 ∨ z = 1650811246) := by
  unfold ALW
  simp only [Int.reduceEq, false_and, false_or, or_false, true_and]

theorem MAY_10 {i z : Int} : MAY 10 i z ↔ (z = 1851878757 ∨ z = 1650811246) := by
  unfold MAY
  simp only [Int.reduceEq, false_and, false_or, or_false, true_and]

theorem INP_10 {a : Int} : INP7 10 a ↔ a = 3 := by
  unfold INP7
  simp only [Int.reduceEq, false_and, false_or, or_false, true_and, true_or, or_true, or_self]
theorem may3 {i kd z a b c : Int} (e : kd = i) (h : (kd = 1 ∧ a = 1) ∨ (¬ kd = 1 ∧ a = 0 ∧ b = 0 ∧ c = 0)) (a1 : z = 26980 → a = 1) (a2 : z = 7017298113369039732 → b = 1) (a3 : z = 1818327673 → c = 1) (w : z = 26980 ∨ z = 427020088179 ∨ z = 123563833388660 ∨ z = 7017298113369039732 ∨ z = 495589486693 ∨ z = 1818327673 ∨ z = 28817527407604345 ∨ z = 120282512125796 ∨ z = 1768843636 ∨ z = 28259044220366713 ∨ z = 28259031083541619) : ((z = 26980 ∨ z = 7017298113369039732 ∨ z = 1818327673) ∧ i = 1) ∨ z = 427020088179 ∨ z = 123563833388660 ∨ z = 495589486693 ∨ z = 28817527407604345 ∨ z = 120282512125796 ∨ z = 1768843636 ∨ z = 28259044220366713 ∨ z = 28259031083541619 := by
  rcases w with w | w | w | w | w | w | w | w | w | w | w
  · exact Or.inl ⟨Or.inl w, by have := a1 w; omega⟩
  · exact Or.inr (Or.inl w)
  · exact Or.inr (Or.inr (Or.inl w))
  · exact Or.inl ⟨Or.inr (Or.inl w), by have := a2 w; omega⟩
  · exact Or.inr (Or.inr (Or.inr (Or.inl w)))
  · exact Or.inl ⟨Or.inr (Or.inr w), by have := a3 w; omega⟩
  · exact Or.inr (Or.inr (Or.inr (Or.inr (Or.inl w))))
  · exact Or.inr (Or.inr (Or.inr (Or.inr (Or.inr (Or.inl w)))))
  · exact Or.inr (Or.inr (Or.inr (Or.inr (Or.inr (Or.inr (Or.inl w))))))
  · exact Or.inr (Or.inr (Or.inr (Or.inr (Or.inr (Or.inr (Or.inr (Or.inl w)))))))
  · exact Or.inr (Or.inr (Or.inr (Or.inr (Or.inr (Or.inr (Or.inr (Or.inr w)))))))
theorem nbe3 {D : List El7} {x : Nat} {kd : Int} (hq : PA7 (dAt D x)) (e : kd = dIn D x) (h : (kd = 1 ∧ aH (dAt D x) 26980 = 1) ∨ (¬ kd = 1 ∧ aH (dAt D x) 26980 = 0 ∧ aH (dAt D x) 7017298113369039732 = 0 ∧ aH (dAt D x) 1818327673 = 0)) (s : (aW (dAt D x) 7017298113369039732).toInt = 7955827 ∨ aH (dAt D x) 427020088179 = 1 ∨ aH (dAt D x) 123563833388660 = 1 ∨ aH (dAt D x) 28817527407604345 = 1) (f : aH (dAt D x) 28817527407604345 = 0 ∨ aH (dAt D x) 120282512125796 = 1) : NBE D x :=
  ⟨by omega, f, s.imp (nve_7955827 hq).mpr id⟩

theorem GF_1 {D : List El7} {x : Nat} (hP : PD7 D) (hx : x < D.length) (hk : ∀ e, e < D.length → ¬ dKd D e = 0) (ha : dAb D x < (x : Int) ∧ -1 ≤ dAb D x) (hkd : dKd D x = 1) (g : GOODR D x) : GOODC D x := by
  have hq := dAt_pv (x := x) hP
  have hin := dIn_0 hk hx ha
  have hab : ¬ dIn D x = 0 → dKd D (dAb D x).toNat = dIn D x := fun v => ((hin.resolve_left (fun w => v w.1)).2.2).symm
  obtain ⟨⟨⟨h1, h2⟩, h3⟩, h4⟩ := g
  have h3 := (dAy_m (P := fun z => ALW (dKd D x) z)).mp h3
  rw [hkd] at h3
  rw [hkd, INP_1] at h1
  refine ⟨Or.inl ⟨hkd, (hin.resolve_right (fun v => v.1 h1)).2⟩, ATN_e.mpr ⟨fun y hy => by have w := h3 y hy; rw [ALW_1] at w; rw [hkd, MAY_1]; exact w, ?_⟩, ⟨Or.inl (by clear h4; omega), Or.inl (by clear h4; omega), Or.inl (by clear h4; omega), Or.inl (by clear h4; omega), Or.inl (by clear h4; omega)⟩, (by clear h4; omega), Or.inl hkd⟩
  · intro k
    rcases aH_m (q := dAt D x) (k := k) with w | ⟨w, y, hy, e⟩
    · exact Or.inl w.1
    · right
      have w9 := h3 y hy
      rw [e, ALW_1] at w9
      exact absurd w9 id

theorem GF_2 {D : List El7} {x : Nat} (hP : PD7 D) (hx : x < D.length) (hk : ∀ e, e < D.length → ¬ dKd D e = 0) (ha : dAb D x < (x : Int) ∧ -1 ≤ dAb D x) (hkd : dKd D x = 2) (g : GOODR D x) : GOODC D x := by
  have hq := dAt_pv (x := x) hP
  have hin := dIn_0 hk hx ha
  have hab : ¬ dIn D x = 0 → dKd D (dAb D x).toNat = dIn D x := fun v => ((hin.resolve_left (fun w => v w.1)).2.2).symm
  obtain ⟨⟨⟨h1, h2⟩, h3⟩, h4⟩ := g
  have h3 := (dAy_m (P := fun z => ALW (dKd D x) z)).mp h3
  rw [hkd] at h3
  rw [hkd, INP_2] at h1
  have h4 := (GKR_2 hkd).mp h4
  refine ⟨Or.inr (Or.inl ⟨hkd, h1⟩), ATN_e.mpr ⟨fun y hy => by have w := h3 y hy; rw [ALW_2] at w; rw [hkd, MAY_2]; exact w, ?_⟩, ⟨Or.inr ⟨(aI_1 hq h4.1).2, (aI_1 hq h4.2.1).2⟩, Or.inl (by clear h4; omega), Or.inl (by clear h4; omega), Or.inl (by clear h4; omega), Or.inl (by clear h4; omega)⟩, (by clear h4; omega), Or.inr (Or.inr (Or.inr (Or.inr ⟨by omega, h4.2.2⟩)))⟩
  · intro k
    rcases aH_m (q := dAt D x) (k := k) with w | ⟨w, y, hy, e⟩
    · exact Or.inl w.1
    · right
      have w9 := h3 y hy
      rw [e, ALW_2] at w9
      rcases w9 with e9 | e9
      · obtain rfl : k = 1851878757 := Int64.toInt_inj.mp (e9.trans (by decide))
        rw [hkd]
        exact (rv_NAME hq).mpr (Or.inl ⟨rfl, h4.1⟩)
      · obtain rfl : k = 29807 := Int64.toInt_inj.mp (e9.trans (by decide))
        rw [hkd]
        exact (rv_TO hq).mpr (h4.2.1)

theorem GF_3 {D : List El7} {x : Nat} (hP : PD7 D) (hx : x < D.length) (hk : ∀ e, e < D.length → ¬ dKd D e = 0) (ha : dAb D x < (x : Int) ∧ -1 ≤ dAb D x) (hkd : dKd D x = 3) (g : GOODR D x) : GOODC D x := by
  have hq := dAt_pv (x := x) hP
  have hin := dIn_0 hk hx ha
  have hab : ¬ dIn D x = 0 → dKd D (dAb D x).toNat = dIn D x := fun v => ((hin.resolve_left (fun w => v w.1)).2.2).symm
  obtain ⟨⟨⟨h1, h2⟩, h3⟩, h4⟩ := g
  have h3 := (dAy_m (P := fun z => ALW (dKd D x) z)).mp h3
  rw [hkd] at h3
  rw [hkd, INP_3] at h1
  have hd0 : ¬ dIn D x = 0 := by omega
  have h4 := (GKR_3 hkd).mp h4
  have nbe : NBE D x := nbe3 hq (hab hd0) h4.2.2.2.1 h4.2.2.2.2.1 h4.2.2.2.2.2
  refine ⟨Or.inr (Or.inr (Or.inl ⟨hkd, h1⟩)), ATN_e.mpr ⟨fun y hy => by have w := h3 y hy; rw [ALW_3] at w; rw [hkd, MAY_3]; have a1 : y.1.toInt = 26980 → aH (dAt D x) 26980 = 1 := fun e => aH_y hy (e.trans (by decide)); have a2 : y.1.toInt = 7017298113369039732 → aH (dAt D x) 7017298113369039732 = 1 := fun e => aH_y hy (e.trans (by decide)); have a3 : y.1.toInt = 1818327673 → aH (dAt D x) 1818327673 = 1 := fun e => aH_y hy (e.trans (by decide)); exact may3 (hab hd0) h4.2.2.2.1 a1 a2 a3 w, ?_⟩, ⟨Or.inl (by clear h4; omega), Or.inr nbe, Or.inl (by clear h4; omega), Or.inl (by clear h4; omega), Or.inl (by clear h4; omega)⟩, (by clear h4; omega), Or.inr (Or.inl hkd)⟩
  · intro k
    rcases aH_m (q := dAt D x) (k := k) with w | ⟨w, y, hy, e⟩
    · exact Or.inl w.1
    · right
      have w9 := h3 y hy
      rw [e, ALW_3] at w9
      rcases w9 with e9 | e9 | e9 | e9 | e9 | e9 | e9 | e9 | e9 | e9 | e9
      · obtain rfl : k = 26980 := Int64.toInt_inj.mp (e9.trans (by decide))
        rw [hkd]
        exact (rv_ID hq).mpr (c_w h4.1.1 w)
      · obtain rfl : k = 427020088179 := Int64.toInt_inj.mp (e9.trans (by decide))
        rw [hkd]
        exact (rv_CLASS hq).mpr (c_c hq h4.2.2.1.1 w)
      · obtain rfl : k = 123563833388660 := Int64.toInt_inj.mp (e9.trans (by decide))
        rw [hkd]
        exact (rv_PARENT hq).mpr (c_w h4.1.2.1 w)
      · obtain rfl : k = 7017298113369039732 := Int64.toInt_inj.mp (e9.trans (by decide))
        rw [hkd]
        exact (rv_ABSTRACT hq).mpr (c_o h4.2.2.1.2.1 w)
      · obtain rfl : k = 495589486693 := Int64.toInt_inj.mp (e9.trans (by decide))
        rw [hkd]
        exact (rv_SCOPE hq).mpr (c_o h4.2.2.1.2.2.2 w)
      · obtain rfl : k = 1818327673 := Int64.toInt_inj.mp (e9.trans (by decide))
        rw [hkd]
        exact (rv_LAZY hq).mpr (c_o h4.2.2.1.2.2.1 w)
      · obtain rfl : k = 28817527407604345 := Int64.toInt_inj.mp (e9.trans (by decide))
        rw [hkd]
        exact (rv_FACTORY hq).mpr (c_w h4.1.2.2.1 w)
      · obtain rfl : k = 120282512125796 := Int64.toInt_inj.mp (e9.trans (by decide))
        rw [hkd]
        exact (rv_METHOD hq).mpr (c_l hq h4.2.1.1 w)
      · obtain rfl : k = 1768843636 := Int64.toInt_inj.mp (e9.trans (by decide))
        rw [hkd]
        exact (rv_INIT hq).mpr (c_l hq h4.2.1.2.1 w)
      · obtain rfl : k = 28259044220366713 := Int64.toInt_inj.mp (e9.trans (by decide))
        rw [hkd]
        exact (rv_DESTROY hq).mpr (c_l hq h4.2.1.2.2 w)
      · obtain rfl : k = 28259031083541619 := Int64.toInt_inj.mp (e9.trans (by decide))
        rw [hkd]
        exact (rv_DEPENDS hq).mpr (c_w h4.1.2.2.2 w)

theorem GF_4 {D : List El7} {x : Nat} (hP : PD7 D) (hx : x < D.length) (hk : ∀ e, e < D.length → ¬ dKd D e = 0) (ha : dAb D x < (x : Int) ∧ -1 ≤ dAb D x) (hkd : dKd D x = 4) (g : GOODR D x) : GOODC D x := by
  have hq := dAt_pv (x := x) hP
  have hin := dIn_0 hk hx ha
  have hab : ¬ dIn D x = 0 → dKd D (dAb D x).toNat = dIn D x := fun v => ((hin.resolve_left (fun w => v w.1)).2.2).symm
  obtain ⟨⟨⟨h1, h2⟩, h3⟩, h4⟩ := g
  have h3 := (dAy_m (P := fun z => ALW (dKd D x) z)).mp h3
  rw [hkd] at h3
  rw [hkd, INP_4] at h1
  have h4 := (GKR_4 hkd).mp h4
  refine ⟨Or.inr (Or.inr (Or.inr (Or.inl ⟨hkd, h1, (by have := h4.1.2.1; omega)⟩))), ATN_e.mpr ⟨fun y hy => by have w := h3 y hy; rw [ALW_4] at w; rw [hkd, MAY_4]; exact w, ?_⟩, ⟨Or.inl (by clear h4; omega), Or.inl (by clear h4; omega), Or.inl (by clear h4; omega), Or.inl (by clear h4; omega), Or.inl (by clear h4; omega)⟩, (by clear h4; omega), Or.inr (Or.inr (Or.inl ⟨Or.inl hkd, h4.1.1.1⟩))⟩
  · intro k
    rcases aH_m (q := dAt D x) (k := k) with w | ⟨w, y, hy, e⟩
    · exact Or.inl w.1
    · right
      have w9 := h3 y hy
      rw [e, ALW_4] at w9
      rcases w9 with e9 | e9 | e9 | e9
      · obtain rfl : k = 24948 := Int64.toInt_inj.mp (e9.trans (by decide))
        rw [hkd]
        exact (rv_AT hq).mpr (c_p hq h4.1.2.2 w)
      · obtain rfl : k = 1954115685 := Int64.toInt_inj.mp (e9.trans (by decide))
        rw [hkd]
        exact (rv_TYPE hq).mpr ((c_o h4.2 w).elim Or.inr (fun v => Or.inl (c_c hq (Or.inr v.2) w)))
      · obtain rfl : k = 508440638821 := Int64.toInt_inj.mp (e9.trans (by decide))
        rw [hkd]
        exact (rv_VALUE hq).mpr (trivial)
      · obtain rfl : k = 7497062 := Int64.toInt_inj.mp (e9.trans (by decide))
        rw [hkd]
        exact (rv_REF hq).mpr (c_w h4.1.1.2 w)

theorem GF_5 {D : List El7} {x : Nat} (hP : PD7 D) (hx : x < D.length) (hk : ∀ e, e < D.length → ¬ dKd D e = 0) (ha : dAb D x < (x : Int) ∧ -1 ≤ dAb D x) (hkd : dKd D x = 5) (g : GOODR D x) : GOODC D x := by
  have hq := dAt_pv (x := x) hP
  have hin := dIn_0 hk hx ha
  have hab : ¬ dIn D x = 0 → dKd D (dAb D x).toNat = dIn D x := fun v => ((hin.resolve_left (fun w => v w.1)).2.2).symm
  obtain ⟨⟨⟨h1, h2⟩, h3⟩, h4⟩ := g
  have h3 := (dAy_m (P := fun z => ALW (dKd D x) z)).mp h3
  rw [hkd] at h3
  rw [hkd, INP_5] at h1
  have h4 := (GKR_5 hkd).mp h4
  refine ⟨Or.inr (Or.inr (Or.inr (Or.inr (Or.inl ⟨hkd, h1, (by have := h4.2.2.1; omega), (FON_e hP (c_l2 hq h4.2.1)).mpr (by have := h4.2.2.2; omega)⟩)))), ATN_e.mpr ⟨fun y hy => by have w := h3 y hy; rw [ALW_5] at w; rw [hkd, MAY_5]; exact w, ?_⟩, ⟨Or.inl (by clear h4; omega), Or.inl (by clear h4; omega), Or.inr (aI_1 hq h4.2.1.1).2, Or.inl (by clear h4; omega), Or.inl (by clear h4; omega)⟩, (by clear h4; omega), Or.inr (Or.inr (Or.inl ⟨Or.inr hkd, h4.1.1⟩))⟩
  · intro k
    rcases aH_m (q := dAt D x) (k := k) with w | ⟨w, y, hy, e⟩
    · exact Or.inl w.1
    · right
      have w9 := h3 y hy
      rw [e, ALW_5] at w9
      rcases w9 with e9 | e9 | e9
      · obtain rfl : k = 1851878757 := Int64.toInt_inj.mp (e9.trans (by decide))
        rw [hkd]
        exact (rv_NAME hq).mpr (Or.inr ⟨by decide, c_l2 hq h4.2.1⟩)
      · obtain rfl : k = 508440638821 := Int64.toInt_inj.mp (e9.trans (by decide))
        rw [hkd]
        exact (rv_VALUE hq).mpr (trivial)
      · obtain rfl : k = 7497062 := Int64.toInt_inj.mp (e9.trans (by decide))
        rw [hkd]
        exact (rv_REF hq).mpr (c_w h4.1.2 w)

theorem GF_6 {D : List El7} {x : Nat} (hP : PD7 D) (hx : x < D.length) (hk : ∀ e, e < D.length → ¬ dKd D e = 0) (ha : dAb D x < (x : Int) ∧ -1 ≤ dAb D x) (hkd : dKd D x = 6) (g : GOODR D x) : GOODC D x := by
  have hq := dAt_pv (x := x) hP
  have hin := dIn_0 hk hx ha
  have hab : ¬ dIn D x = 0 → dKd D (dAb D x).toNat = dIn D x := fun v => ((hin.resolve_left (fun w => v w.1)).2.2).symm
  obtain ⟨⟨⟨h1, h2⟩, h3⟩, h4⟩ := g
  have h3 := (dAy_m (P := fun z => ALW (dKd D x) z)).mp h3
  rw [hkd] at h3
  rw [hkd, INP_6] at h1
  have h4 := (GKR_6 hkd).mp h4
  refine ⟨Or.inr (Or.inr (Or.inr (Or.inr (Or.inr (Or.inr (Or.inl ⟨hkd, h1⟩)))))), ATN_e.mpr ⟨fun y hy => by have w := h3 y hy; rw [ALW_6] at w; rw [hkd, MAY_6]; exact w, ?_⟩, ⟨Or.inl (by clear h4; omega), Or.inl (by clear h4; omega), Or.inl (by clear h4; omega), Or.inl (by clear h4; omega), Or.inl (by clear h4; omega)⟩, (by clear h4; omega), Or.inr (Or.inr (Or.inr (Or.inl ⟨hkd, h4⟩)))⟩
  · intro k
    rcases aH_m (q := dAt D x) (k := k) with w | ⟨w, y, hy, e⟩
    · exact Or.inl w.1
    · right
      have w9 := h3 y hy
      rw [e, ALW_6] at w9
      exact absurd w9 id

theorem GF_7 {D : List El7} {x : Nat} (hP : PD7 D) (hx : x < D.length) (hk : ∀ e, e < D.length → ¬ dKd D e = 0) (ha : dAb D x < (x : Int) ∧ -1 ≤ dAb D x) (hkd : dKd D x = 7) (g : GOODR D x) : GOODC D x := by
  have hq := dAt_pv (x := x) hP
  have hin := dIn_0 hk hx ha
  have hab : ¬ dIn D x = 0 → dKd D (dAb D x).toNat = dIn D x := fun v => ((hin.resolve_left (fun w => v w.1)).2.2).symm
  obtain ⟨⟨⟨h1, h2⟩, h3⟩, h4⟩ := g
  have h3 := (dAy_m (P := fun z => ALW (dKd D x) z)).mp h3
  rw [hkd] at h3
  rw [hkd, INP_7] at h1
  have h4 := (GKR_7 (Or.inl hkd)).mp h4
  refine ⟨Or.inr (Or.inr (Or.inr (Or.inr (Or.inr (Or.inr (Or.inr (⟨Or.inl hkd, h1⟩))))))), ATN_e.mpr ⟨fun y hy => by have w := h3 y hy; rw [ALW_7] at w; rw [hkd, MAY_7]; exact w, ?_⟩, ⟨Or.inl (by clear h4; omega), Or.inl (by clear h4; omega), Or.inl (by clear h4; omega), Or.inl (by clear h4; omega), Or.inl (by clear h4; omega)⟩, (by clear h4; omega), Or.inr (Or.inr (Or.inr (Or.inr ⟨by omega, h4⟩)))⟩
  · intro k
    rcases aH_m (q := dAt D x) (k := k) with w | ⟨w, y, hy, e⟩
    · exact Or.inl w.1
    · right
      have w9 := h3 y hy
      rw [e, ALW_7] at w9
      exact absurd w9 id

theorem GF_8 {D : List El7} {x : Nat} (hP : PD7 D) (hx : x < D.length) (hk : ∀ e, e < D.length → ¬ dKd D e = 0) (ha : dAb D x < (x : Int) ∧ -1 ≤ dAb D x) (hkd : dKd D x = 8) (g : GOODR D x) : GOODC D x := by
  have hq := dAt_pv (x := x) hP
  have hin := dIn_0 hk hx ha
  have hab : ¬ dIn D x = 0 → dKd D (dAb D x).toNat = dIn D x := fun v => ((hin.resolve_left (fun w => v w.1)).2.2).symm
  obtain ⟨⟨⟨h1, h2⟩, h3⟩, h4⟩ := g
  have h3 := (dAy_m (P := fun z => ALW (dKd D x) z)).mp h3
  rw [hkd] at h3
  rw [hkd, INP_8] at h1
  have h4 := (GKR_8 hkd).mp h4
  refine ⟨Or.inr (Or.inr (Or.inr (Or.inr (Or.inr (Or.inr (Or.inr (⟨Or.inr (Or.inl hkd), h1⟩))))))), ATN_e.mpr ⟨fun y hy => by have w := h3 y hy; rw [ALW_8] at w; rw [hkd, MAY_8]; exact w, ?_⟩, ⟨Or.inl (by clear h4; omega), Or.inl (by clear h4; omega), Or.inl (by clear h4; omega), Or.inr (aI_1 hq h4.1).2, Or.inl (by clear h4; omega)⟩, (by clear h4; omega), Or.inr (Or.inr (Or.inr (Or.inr ⟨by omega, h4.2⟩)))⟩
  · intro k
    rcases aH_m (q := dAt D x) (k := k) with w | ⟨w, y, hy, e⟩
    · exact Or.inl w.1
    · right
      have w9 := h3 y hy
      rw [e, ALW_8] at w9
      have e9 := w9
      · obtain rfl : k = 1650811246 := Int64.toInt_inj.mp (e9.trans (by decide))
        rw [hkd]
        exact (rv_BEAN hq).mpr (h4.1)

theorem GF_9 {D : List El7} {x : Nat} (hP : PD7 D) (hx : x < D.length) (hk : ∀ e, e < D.length → ¬ dKd D e = 0) (ha : dAb D x < (x : Int) ∧ -1 ≤ dAb D x) (hkd : dKd D x = 9) (g : GOODR D x) : GOODC D x := by
  have hq := dAt_pv (x := x) hP
  have hin := dIn_0 hk hx ha
  have hab : ¬ dIn D x = 0 → dKd D (dAb D x).toNat = dIn D x := fun v => ((hin.resolve_left (fun w => v w.1)).2.2).symm
  obtain ⟨⟨⟨h1, h2⟩, h3⟩, h4⟩ := g
  have h3 := (dAy_m (P := fun z => ALW (dKd D x) z)).mp h3
  rw [hkd] at h3
  rw [hkd, INP_9] at h1
  have h4 := (GKR_7 (Or.inr hkd)).mp h4
  refine ⟨Or.inr (Or.inr (Or.inr (Or.inr (Or.inr (Or.inr (Or.inr (⟨Or.inr (Or.inr hkd), h1⟩))))))), ATN_e.mpr ⟨fun y hy => by have w := h3 y hy; rw [ALW_9] at w; rw [hkd, MAY_9]; exact w, ?_⟩, ⟨Or.inl (by clear h4; omega), Or.inl (by clear h4; omega), Or.inl (by clear h4; omega), Or.inl (by clear h4; omega), Or.inl (by clear h4; omega)⟩, (by clear h4; omega), Or.inr (Or.inr (Or.inr (Or.inr ⟨by omega, h4⟩)))⟩
  · intro k
    rcases aH_m (q := dAt D x) (k := k) with w | ⟨w, y, hy, e⟩
    · exact Or.inl w.1
    · right
      have w9 := h3 y hy
      rw [e, ALW_9] at w9
      exact absurd w9 id

theorem GF_10 {D : List El7} {x : Nat} (hP : PD7 D) (hx : x < D.length) (hk : ∀ e, e < D.length → ¬ dKd D e = 0) (ha : dAb D x < (x : Int) ∧ -1 ≤ dAb D x) (hkd : dKd D x = 10) (g : GOODR D x) : GOODC D x := by
  have hq := dAt_pv (x := x) hP
  have hin := dIn_0 hk hx ha
  have hab : ¬ dIn D x = 0 → dKd D (dAb D x).toNat = dIn D x := fun v => ((hin.resolve_left (fun w => v w.1)).2.2).symm
  obtain ⟨⟨⟨h1, h2⟩, h3⟩, h4⟩ := g
  have h3 := (dAy_m (P := fun z => ALW (dKd D x) z)).mp h3
  rw [hkd] at h3
  rw [hkd, INP_10] at h1
  have h4 := (GKR_10 hkd).mp h4
  refine ⟨Or.inr (Or.inr (Or.inr (Or.inr (Or.inr (Or.inl ⟨hkd, h1, (by have := h4.2.2.2.1; omega), (FON_e hP (c_l2 hq h4.1)).mpr (by have := h4.2.2.2.2; omega)⟩))))), ATN_e.mpr ⟨fun y hy => by have w := h3 y hy; rw [ALW_10] at w; rw [hkd, MAY_10]; exact w, ?_⟩, ⟨Or.inl (by clear h4; omega), Or.inl (by clear h4; omega), Or.inl (by clear h4; omega), Or.inl (by clear h4; omega), Or.inr ⟨(aI_1 hq h4.1.1).2, (aI_1 hq h4.2.1).2⟩⟩, (by clear h4; omega), Or.inr (Or.inr (Or.inr (Or.inr ⟨by omega, h4.2.2.1⟩)))⟩
  · intro k
    rcases aH_m (q := dAt D x) (k := k) with w | ⟨w, y, hy, e⟩
    · exact Or.inl w.1
    · right
      have w9 := h3 y hy
      rw [e, ALW_10] at w9
      rcases w9 with e9 | e9
      · obtain rfl : k = 1851878757 := Int64.toInt_inj.mp (e9.trans (by decide))
        rw [hkd]
        exact (rv_NAME hq).mpr (Or.inr ⟨by decide, c_l2 hq h4.1⟩)
      · obtain rfl : k = 1650811246 := Int64.toInt_inj.mp (e9.trans (by decide))
        rw [hkd]
        exact (rv_BEAN hq).mpr (h4.2.1)

theorem STN_1 {D : List El7} {x : Nat} (h : dKd D x = 1) (g : STN D x) : dAb D x = -1 := by
  unfold STN at g
  rcases g with ⟨q, p⟩ | ⟨q, p⟩ | ⟨q, p⟩ | ⟨q, p⟩ | ⟨q, p⟩ | ⟨q, p⟩ | ⟨q, p⟩ | ⟨q, p⟩ <;> first | (clear p; exfalso; omega) | exact p
theorem STN_2 {D : List El7} {x : Nat} (h : dKd D x = 2) (g : STN D x) : dIn D x = 1 := by
  unfold STN at g
  rcases g with ⟨q, p⟩ | ⟨q, p⟩ | ⟨q, p⟩ | ⟨q, p⟩ | ⟨q, p⟩ | ⟨q, p⟩ | ⟨q, p⟩ | ⟨q, p⟩ <;> first | (clear p; exfalso; omega) | exact p
theorem CNT_2 {D : List El7} {x : Nat} (h : dKd D x = 2) (g : CNT D x) : (dCn D x : Int) = 0 := by unfold CNT at g; omega
theorem STN_3 {D : List El7} {x : Nat} (h : dKd D x = 3) (g : STN D x) : (dIn D x = 1 ∨ dIn D x = 4 ∨ dIn D x = 5 ∨ dIn D x = 6) := by
  unfold STN at g
  rcases g with ⟨q, p⟩ | ⟨q, p⟩ | ⟨q, p⟩ | ⟨q, p⟩ | ⟨q, p⟩ | ⟨q, p⟩ | ⟨q, p⟩ | ⟨q, p⟩ <;> first | (clear p; exfalso; omega) | exact p
theorem STN_4 {D : List El7} {x : Nat} (h : dKd D x = 4) (g : STN D x) : (dIn D x = 3 ∧ ahD D 0 x x < 4) := by
  unfold STN at g
  rcases g with ⟨q, p⟩ | ⟨q, p⟩ | ⟨q, p⟩ | ⟨q, p⟩ | ⟨q, p⟩ | ⟨q, p⟩ | ⟨q, p⟩ | ⟨q, p⟩ <;> first | (clear p; exfalso; omega) | exact p
theorem CNT_4 {D : List El7} {x : Nat} (h : dKd D x = 4) (g : CNT D x) : aH (dAt D x) 508440638821 + aH (dAt D x) 7497062 + (dCn D x : Int) = 1 := by unfold CNT at g; omega
theorem STN_5 {D : List El7} {x : Nat} (h : dKd D x = 5) (g : STN D x) : (dIn D x = 3 ∧ ahD D 0 x x < 8 ∧ FON D x) := by
  unfold STN at g
  rcases g with ⟨q, p⟩ | ⟨q, p⟩ | ⟨q, p⟩ | ⟨q, p⟩ | ⟨q, p⟩ | ⟨q, p⟩ | ⟨q, p⟩ | ⟨q, p⟩ <;> first | (clear p; exfalso; omega) | exact p
theorem CNT_5 {D : List El7} {x : Nat} (h : dKd D x = 5) (g : CNT D x) : aH (dAt D x) 508440638821 + aH (dAt D x) 7497062 + (dCn D x : Int) = 1 := by unfold CNT at g; omega
theorem STN_6 {D : List El7} {x : Nat} (h : dKd D x = 6) (g : STN D x) : (dIn D x = 4 ∨ dIn D x = 5) := by
  unfold STN at g
  rcases g with ⟨q, p⟩ | ⟨q, p⟩ | ⟨q, p⟩ | ⟨q, p⟩ | ⟨q, p⟩ | ⟨q, p⟩ | ⟨q, p⟩ | ⟨q, p⟩ <;> first | (clear p; exfalso; omega) | exact p
theorem CNT_6 {D : List El7} {x : Nat} (h : dKd D x = 6) (g : CNT D x) : (dCn D x : Int) ≤ 6 := by unfold CNT at g; omega
theorem STN_7 {D : List El7} {x : Nat} (h : dKd D x = 7) (g : STN D x) : (dIn D x = 4 ∨ dIn D x = 5 ∨ dIn D x = 6) := by
  unfold STN at g
  rcases g with ⟨q, p⟩ | ⟨q, p⟩ | ⟨q, p⟩ | ⟨q, p⟩ | ⟨q, p⟩ | ⟨q, p⟩ | ⟨q, p⟩ | ⟨q, p⟩ <;> first | (clear p; exfalso; omega) | exact p
theorem CNT_7 {D : List El7} {x : Nat} (h : dKd D x = 7) (g : CNT D x) : (dCn D x : Int) = 0 := by unfold CNT at g; omega
theorem STN_8 {D : List El7} {x : Nat} (h : dKd D x = 8) (g : STN D x) : (dIn D x = 4 ∨ dIn D x = 5 ∨ dIn D x = 6) := by
  unfold STN at g
  rcases g with ⟨q, p⟩ | ⟨q, p⟩ | ⟨q, p⟩ | ⟨q, p⟩ | ⟨q, p⟩ | ⟨q, p⟩ | ⟨q, p⟩ | ⟨q, p⟩ <;> first | (clear p; exfalso; omega) | exact p
theorem CNT_8 {D : List El7} {x : Nat} (h : dKd D x = 8) (g : CNT D x) : (dCn D x : Int) = 0 := by unfold CNT at g; omega
theorem STN_9 {D : List El7} {x : Nat} (h : dKd D x = 9) (g : STN D x) : (dIn D x = 4 ∨ dIn D x = 5 ∨ dIn D x = 6) := by
  unfold STN at g
  rcases g with ⟨q, p⟩ | ⟨q, p⟩ | ⟨q, p⟩ | ⟨q, p⟩ | ⟨q, p⟩ | ⟨q, p⟩ | ⟨q, p⟩ | ⟨q, p⟩ <;> first | (clear p; exfalso; omega) | exact p
theorem CNT_9 {D : List El7} {x : Nat} (h : dKd D x = 9) (g : CNT D x) : (dCn D x : Int) = 0 := by unfold CNT at g; omega
theorem STN_10 {D : List El7} {x : Nat} (h : dKd D x = 10) (g : STN D x) : (dIn D x = 3 ∧ ahD D 0 x x < 2 ∧ FON D x) := by
  unfold STN at g
  rcases g with ⟨q, p⟩ | ⟨q, p⟩ | ⟨q, p⟩ | ⟨q, p⟩ | ⟨q, p⟩ | ⟨q, p⟩ | ⟨q, p⟩ | ⟨q, p⟩ <;> first | (clear p; exfalso; omega) | exact p
theorem CNT_10 {D : List El7} {x : Nat} (h : dKd D x = 10) (g : CNT D x) : (dCn D x : Int) = 0 := by unfold CNT at g; omega
theorem alw3 {i z : Int} (h : ((z = 26980 ∨ z = 7017298113369039732 ∨ z = 1818327673) ∧ i = 1) ∨ z = 427020088179 ∨ z = 123563833388660 ∨ z = 495589486693 ∨ z = 28817527407604345 ∨ z = 120282512125796 ∨ z = 1768843636 ∨ z = 28259044220366713 ∨ z = 28259031083541619) : z = 26980 ∨ z = 427020088179 ∨ z = 123563833388660 ∨ z = 7017298113369039732 ∨ z = 495589486693 ∨ z = 1818327673 ∨ z = 28817527407604345 ∨ z = 120282512125796 ∨ z = 1768843636 ∨ z = 28259044220366713 ∨ z = 28259031083541619 := by omega
theorem may0 {q : At7} {i : Int} {k : Int64} (m : ∀ y, y ∈ q → MAY 3 i y.1.toInt) (hk : k.toInt = 26980 ∨ k.toInt = 7017298113369039732 ∨ k.toInt = 1818327673) (hi : ¬ i = 1) : aH q k = 0 := by
  rcases aH_m (q := q) (k := k) with w | ⟨_, y, hy, e⟩
  · exact w.1
  · have v := m y hy
    rw [MAY_3, e] at v
    omega
theorem plc3 {i kd a b c : Int} (e : kd = i) (h : ¬ i = 1 ∨ a = 1) (a1 : ¬ i = 1 → a = 0) (a2 : ¬ i = 1 → b = 0) (a3 : ¬ i = 1 → c = 0) : (kd = 1 ∧ a = 1) ∨ (¬ kd = 1 ∧ a = 0 ∧ b = 0 ∧ c = 0) := by
  by_cases hi : i = 1
  · exact Or.inl ⟨e.trans hi, h.resolve_left (fun v => v hi)⟩
  · exact Or.inr ⟨by rw [e]; exact hi, a1 hi, a2 hi, a3 hi⟩
theorem GB_1 {D : List El7} {x : Nat} (hP : PD7 D) (hx : x < D.length) (hk : ∀ e, e < D.length → ¬ dKd D e = 0) (ha : dAb D x < (x : Int) ∧ -1 ≤ dAb D x) (hkd : dKd D x = 1) (g : GOODC D x) : GOODR D x := by
  have hq := dAt_pv (x := x) hP
  have hin := dIn_0 hk hx ha
  have hab : ¬ dIn D x = 0 → dKd D (dAb D x).toNat = dIn D x := fun v => ((hin.resolve_left (fun w => v w.1)).2.2).symm
  obtain ⟨h1, h2, h3, h4, h5⟩ := g
  have h1 := STN_1 hkd h1
  obtain ⟨m, r⟩ := ATN_e.mp h2
  rw [hkd] at m r
  exact ⟨⟨⟨by rw [hkd, INP_1]; exact (hin.resolve_right (fun v => by have := v.2.1; omega)).1, by omega⟩, (dAy_m (P := fun z => ALW (dKd D x) z)).mpr (fun y hy => by have w := m y hy; rw [MAY_1] at w; show ALW (dKd D x) _; rw [hkd, ALW_1]; exact w)⟩, Or.inl hkd⟩

theorem GB_2 {D : List El7} {x : Nat} (hP : PD7 D) (hx : x < D.length) (hk : ∀ e, e < D.length → ¬ dKd D e = 0) (ha : dAb D x < (x : Int) ∧ -1 ≤ dAb D x) (hkd : dKd D x = 2) (g : GOODC D x) : GOODR D x := by
  have hq := dAt_pv (x := x) hP
  have hin := dIn_0 hk hx ha
  have hab : ¬ dIn D x = 0 → dKd D (dAb D x).toNat = dIn D x := fun v => ((hin.resolve_left (fun w => v w.1)).2.2).symm
  obtain ⟨h1, h2, h3, h4, h5⟩ := g
  have h1 := STN_2 hkd h1
  obtain ⟨m, r⟩ := ATN_e.mp h2
  rw [hkd] at m r
  have h3 := h3.1.resolve_left (fun v => v hkd)
  exact ⟨⟨⟨by rw [hkd, INP_2]; exact h1, by omega⟩, (dAy_m (P := fun z => ALW (dKd D x) z)).mpr (fun y hy => by have w := m y hy; rw [MAY_2] at w; show ALW (dKd D x) _; rw [hkd, ALW_2]; exact w)⟩, (GKR_2 hkd).mpr ⟨(((rv_NAME hq).mp ((r 1851878757).resolve_left (by rw [h3.1]; decide))).resolve_right (fun w => w.1 rfl)).2, ((rv_TO hq).mp ((r 29807).resolve_left (by rw [h3.2]; decide))), CNT_2 hkd h5⟩⟩

theorem GB_3 {D : List El7} {x : Nat} (hP : PD7 D) (hx : x < D.length) (hk : ∀ e, e < D.length → ¬ dKd D e = 0) (ha : dAb D x < (x : Int) ∧ -1 ≤ dAb D x) (hkd : dKd D x = 3) (g : GOODC D x) : GOODR D x := by
  have hq := dAt_pv (x := x) hP
  have hin := dIn_0 hk hx ha
  have hab : ¬ dIn D x = 0 → dKd D (dAb D x).toNat = dIn D x := fun v => ((hin.resolve_left (fun w => v w.1)).2.2).symm
  obtain ⟨h1, h2, h3, h4, h5⟩ := g
  have h1 := STN_3 hkd h1
  obtain ⟨m, r⟩ := ATN_e.mp h2
  rw [hkd] at m r
  have hd0 : ¬ dIn D x = 0 := by omega
  have h3 := h3.2.1.resolve_left (fun v => v hkd)
  exact ⟨⟨⟨by rw [hkd, INP_3]; exact h1, by omega⟩, (dAy_m (P := fun z => ALW (dKd D x) z)).mpr (fun y hy => by have w := m y hy; rw [MAY_3] at w; show ALW (dKd D x) _; rw [hkd, ALW_3]; exact alw3 w)⟩, (GKR_3 hkd).mpr ⟨⟨((r 26980).imp id (rv_ID hq).mp), ((r 123563833388660).imp id (rv_PARENT hq).mp), ((r 28817527407604345).imp id (rv_FACTORY hq).mp), ((r 28259031083541619).imp id (rv_DEPENDS hq).mp)⟩, ⟨(((r 120282512125796).imp id (rv_METHOD hq).mp).imp id (l_c hq)), (((r 1768843636).imp id (rv_INIT hq).mp).imp id (l_c hq)), (((r 28259044220366713).imp id (rv_DESTROY hq).mp).imp id (l_c hq))⟩, ⟨(((r 427020088179).imp id (rv_CLASS hq).mp).imp id (cv_c hq)), ((r 7017298113369039732).imp id (rv_ABSTRACT hq).mp), ((r 1818327673).imp id (rv_LAZY hq).mp), ((r 495589486693).imp id (rv_SCOPE hq).mp)⟩, plc3 (hab hd0) h3.1 (fun v => may0 (k := 26980) m (by decide) v) (fun v => may0 (k := 7017298113369039732) m (by decide) v) (fun v => may0 (k := 1818327673) m (by decide) v), h3.2.2.imp (nve_7955827 hq).mp id, h3.2.1⟩⟩

theorem GB_4 {D : List El7} {x : Nat} (hP : PD7 D) (hx : x < D.length) (hk : ∀ e, e < D.length → ¬ dKd D e = 0) (ha : dAb D x < (x : Int) ∧ -1 ≤ dAb D x) (hkd : dKd D x = 4) (g : GOODC D x) : GOODR D x := by
  have hq := dAt_pv (x := x) hP
  have hin := dIn_0 hk hx ha
  have hab : ¬ dIn D x = 0 → dKd D (dAb D x).toNat = dIn D x := fun v => ((hin.resolve_left (fun w => v w.1)).2.2).symm
  obtain ⟨h1, h2, h3, h4, h5⟩ := g
  have h1 := STN_4 hkd h1
  obtain ⟨m, r⟩ := ATN_e.mp h2
  rw [hkd] at m r
  exact ⟨⟨⟨by rw [hkd, INP_4]; exact h1.1, by omega⟩, (dAy_m (P := fun z => ALW (dKd D x) z)).mpr (fun y hy => by have w := m y hy; rw [MAY_4] at w; show ALW (dKd D x) _; rw [hkd, ALW_4]; exact w)⟩, (GKR_4 hkd).mpr ⟨⟨⟨CNT_4 hkd h5, ((r 7497062).imp id (rv_REF hq).mp)⟩, (by have := h1.2; omega), (((r 24948).imp id (rv_AT hq).mp).imp id (p_c hq))⟩, (((r 1954115685).imp id (rv_TYPE hq).mp).imp id (fun v => v.elim (fun v => Or.inr ⟨((cv7_a (k := 1954115685) hq).resolve_right (fun z => by have := z.1; omega)).2.2.1, cv_c hq v⟩) Or.inl))⟩⟩

theorem GB_5 {D : List El7} {x : Nat} (hP : PD7 D) (hx : x < D.length) (hk : ∀ e, e < D.length → ¬ dKd D e = 0) (ha : dAb D x < (x : Int) ∧ -1 ≤ dAb D x) (hkd : dKd D x = 5) (g : GOODC D x) : GOODR D x := by
  have hq := dAt_pv (x := x) hP
  have hin := dIn_0 hk hx ha
  have hab : ¬ dIn D x = 0 → dKd D (dAb D x).toNat = dIn D x := fun v => ((hin.resolve_left (fun w => v w.1)).2.2).symm
  obtain ⟨h1, h2, h3, h4, h5⟩ := g
  have h1 := STN_5 hkd h1
  obtain ⟨m, r⟩ := ATN_e.mp h2
  rw [hkd] at m r
  have h3 := h3.2.2.1.resolve_left (fun v => v hkd)
  exact ⟨⟨⟨by rw [hkd, INP_5]; exact h1.1, by omega⟩, (dAy_m (P := fun z => ALW (dKd D x) z)).mpr (fun y hy => by have w := m y hy; rw [MAY_5] at w; show ALW (dKd D x) _; rw [hkd, ALW_5]; exact w)⟩, (GKR_5 hkd).mpr ⟨⟨CNT_5 hkd h5, ((r 7497062).imp id (rv_REF hq).mp)⟩, l_c hq (((rv_NAME hq).mp ((r 1851878757).resolve_left (by rw [h3]; decide))).resolve_left (fun w => absurd w.1 (by decide))).2, (by have := h1.2.1; omega), (by have := (FON_e hP (((rv_NAME hq).mp ((r 1851878757).resolve_left (by rw [h3]; decide))).resolve_left (fun w => absurd w.1 (by decide))).2).mp h1.2.2; omega)⟩⟩

theorem GB_6 {D : List El7} {x : Nat} (hP : PD7 D) (hx : x < D.length) (hk : ∀ e, e < D.length → ¬ dKd D e = 0) (ha : dAb D x < (x : Int) ∧ -1 ≤ dAb D x) (hkd : dKd D x = 6) (g : GOODC D x) : GOODR D x := by
  have hq := dAt_pv (x := x) hP
  have hin := dIn_0 hk hx ha
  have hab : ¬ dIn D x = 0 → dKd D (dAb D x).toNat = dIn D x := fun v => ((hin.resolve_left (fun w => v w.1)).2.2).symm
  obtain ⟨h1, h2, h3, h4, h5⟩ := g
  have h1 := STN_6 hkd h1
  obtain ⟨m, r⟩ := ATN_e.mp h2
  rw [hkd] at m r
  exact ⟨⟨⟨by rw [hkd, INP_6]; exact h1, by omega⟩, (dAy_m (P := fun z => ALW (dKd D x) z)).mpr (fun y hy => by have w := m y hy; rw [MAY_6] at w; show ALW (dKd D x) _; rw [hkd, ALW_6]; exact w)⟩, (GKR_6 hkd).mpr (CNT_6 hkd h5)⟩

theorem GB_7 {D : List El7} {x : Nat} (hP : PD7 D) (hx : x < D.length) (hk : ∀ e, e < D.length → ¬ dKd D e = 0) (ha : dAb D x < (x : Int) ∧ -1 ≤ dAb D x) (hkd : dKd D x = 7) (g : GOODC D x) : GOODR D x := by
  have hq := dAt_pv (x := x) hP
  have hin := dIn_0 hk hx ha
  have hab : ¬ dIn D x = 0 → dKd D (dAb D x).toNat = dIn D x := fun v => ((hin.resolve_left (fun w => v w.1)).2.2).symm
  obtain ⟨h1, h2, h3, h4, h5⟩ := g
  have h1 := STN_7 hkd h1
  obtain ⟨m, r⟩ := ATN_e.mp h2
  rw [hkd] at m r
  exact ⟨⟨⟨by rw [hkd, INP_7]; exact h1, by omega⟩, (dAy_m (P := fun z => ALW (dKd D x) z)).mpr (fun y hy => by have w := m y hy; rw [MAY_7] at w; show ALW (dKd D x) _; rw [hkd, ALW_7]; exact w)⟩, (GKR_7 (Or.inl hkd)).mpr (CNT_7 hkd h5)⟩

theorem GB_8 {D : List El7} {x : Nat} (hP : PD7 D) (hx : x < D.length) (hk : ∀ e, e < D.length → ¬ dKd D e = 0) (ha : dAb D x < (x : Int) ∧ -1 ≤ dAb D x) (hkd : dKd D x = 8) (g : GOODC D x) : GOODR D x := by
  have hq := dAt_pv (x := x) hP
  have hin := dIn_0 hk hx ha
  have hab : ¬ dIn D x = 0 → dKd D (dAb D x).toNat = dIn D x := fun v => ((hin.resolve_left (fun w => v w.1)).2.2).symm
  obtain ⟨h1, h2, h3, h4, h5⟩ := g
  have h1 := STN_8 hkd h1
  obtain ⟨m, r⟩ := ATN_e.mp h2
  rw [hkd] at m r
  have h3 := h3.2.2.2.1.resolve_left (fun v => v hkd)
  exact ⟨⟨⟨by rw [hkd, INP_8]; exact h1, by omega⟩, (dAy_m (P := fun z => ALW (dKd D x) z)).mpr (fun y hy => by have w := m y hy; rw [MAY_8] at w; show ALW (dKd D x) _; rw [hkd, ALW_8]; exact w)⟩, (GKR_8 hkd).mpr ⟨((rv_BEAN hq).mp ((r 1650811246).resolve_left (by rw [h3]; decide))), CNT_8 hkd h5⟩⟩

theorem GB_9 {D : List El7} {x : Nat} (hP : PD7 D) (hx : x < D.length) (hk : ∀ e, e < D.length → ¬ dKd D e = 0) (ha : dAb D x < (x : Int) ∧ -1 ≤ dAb D x) (hkd : dKd D x = 9) (g : GOODC D x) : GOODR D x := by
  have hq := dAt_pv (x := x) hP
  have hin := dIn_0 hk hx ha
  have hab : ¬ dIn D x = 0 → dKd D (dAb D x).toNat = dIn D x := fun v => ((hin.resolve_left (fun w => v w.1)).2.2).symm
  obtain ⟨h1, h2, h3, h4, h5⟩ := g
  have h1 := STN_9 hkd h1
  obtain ⟨m, r⟩ := ATN_e.mp h2
  rw [hkd] at m r
  exact ⟨⟨⟨by rw [hkd, INP_9]; exact h1, by omega⟩, (dAy_m (P := fun z => ALW (dKd D x) z)).mpr (fun y hy => by have w := m y hy; rw [MAY_9] at w; show ALW (dKd D x) _; rw [hkd, ALW_9]; exact w)⟩, (GKR_7 (Or.inr hkd)).mpr (CNT_9 hkd h5)⟩

theorem GB_10 {D : List El7} {x : Nat} (hP : PD7 D) (hx : x < D.length) (hk : ∀ e, e < D.length → ¬ dKd D e = 0) (ha : dAb D x < (x : Int) ∧ -1 ≤ dAb D x) (hkd : dKd D x = 10) (g : GOODC D x) : GOODR D x := by
  have hq := dAt_pv (x := x) hP
  have hin := dIn_0 hk hx ha
  have hab : ¬ dIn D x = 0 → dKd D (dAb D x).toNat = dIn D x := fun v => ((hin.resolve_left (fun w => v w.1)).2.2).symm
  obtain ⟨h1, h2, h3, h4, h5⟩ := g
  have h1 := STN_10 hkd h1
  obtain ⟨m, r⟩ := ATN_e.mp h2
  rw [hkd] at m r
  have h3 := h3.2.2.2.2.resolve_left (fun v => v hkd)
  exact ⟨⟨⟨by rw [hkd, INP_10]; exact h1.1, by omega⟩, (dAy_m (P := fun z => ALW (dKd D x) z)).mpr (fun y hy => by have w := m y hy; rw [MAY_10] at w; show ALW (dKd D x) _; rw [hkd, ALW_10]; exact w)⟩, (GKR_10 hkd).mpr ⟨l_c hq (((rv_NAME hq).mp ((r 1851878757).resolve_left (by rw [h3.1]; decide))).resolve_left (fun w => absurd w.1 (by decide))).2, ((rv_BEAN hq).mp ((r 1650811246).resolve_left (by rw [h3.2]; decide))), CNT_10 hkd h5, (by have := h1.2.1; omega), (by have := (FON_e hP (((rv_NAME hq).mp ((r 1851878757).resolve_left (by rw [h3.1]; decide))).resolve_left (fun w => absurd w.1 (by decide))).2).mp h1.2.2; omega)⟩⟩

theorem GOOD_e {D : List El7} {x : Nat} (hP : PD7 D) (hx : x < D.length) (hk : ∀ e, e < D.length → ¬ dKd D e = 0) (ha : dAb D x < (x : Int) ∧ -1 ≤ dAb D x) : GOODR D x ↔ GOODC D x := by
  have h0 := hk x hx
  have h1 := kd7_r (dEl D x).2.2.1.toInt
  have h2 : dKd D x = kd7 (dEl D x).2.2.1.toInt := rfl
  rcases (show dKd D x = 1 ∨ dKd D x = 2 ∨ dKd D x = 3 ∨ dKd D x = 4 ∨ dKd D x = 5 ∨ dKd D x = 6 ∨ dKd D x = 7 ∨ dKd D x = 8 ∨ dKd D x = 9 ∨ dKd D x = 10 by omega) with e | e | e | e | e | e | e | e | e | e
  · exact ⟨GF_1 hP hx hk ha e, GB_1 hP hx hk ha e⟩
  · exact ⟨GF_2 hP hx hk ha e, GB_2 hP hx hk ha e⟩
  · exact ⟨GF_3 hP hx hk ha e, GB_3 hP hx hk ha e⟩
  · exact ⟨GF_4 hP hx hk ha e, GB_4 hP hx hk ha e⟩
  · exact ⟨GF_5 hP hx hk ha e, GB_5 hP hx hk ha e⟩
  · exact ⟨GF_6 hP hx hk ha e, GB_6 hP hx hk ha e⟩
  · exact ⟨GF_7 hP hx hk ha e, GB_7 hP hx hk ha e⟩
  · exact ⟨GF_8 hP hx hk ha e, GB_8 hP hx hk ha e⟩
  · exact ⟨GF_9 hP hx hk ha e, GB_9 hP hx hk ha e⟩
  · exact ⟨GF_10 hP hx hk ha e, GB_10 hP hx hk ha e⟩
/-- a good element is of some kind -/
theorem GOODR_k {D : List El7} {x : Nat} (g : GOODR D x) : ¬ dKd D x = 0 := by
  intro e
  have := g.1.1.1
  rw [e] at this
  unfold INP7 at this
  omega
theorem GOODC_k {D : List El7} {x : Nat} (g : GOODC D x) : ¬ dKd D x = 0 := by
  intro e
  have := g.2.2.2.2
  unfold CNT at this
  omega
theorem GOODS_e {D : List El7} (hP : PD7 D) (ha : ∀ x, x < D.length → dAb D x < (x : Int) ∧ -1 ≤ dAb D x) : (∀ x, x < D.length → GOODR D x) ↔ (∀ x, x < D.length → GOODC D x) := by
  constructor
  · intro h x hx; exact (GOOD_e hP hx (fun e he => GOODR_k (h e he)) (ha x hx)).mp (h x hx)
  · intro h x hx; exact (GOOD_e hP hx (fun e he => GOODC_k (h e he)) (ha x hx)).mpr (h x hx)
end
section
/-- the beans' elements below e, in their order -/
def bsN (D : List El7) : Nat → List Nat
  | 0 => []
  | e + 1 => if dKd D e = 3 then bsN D e ++ [e] else bsN D e
theorem bsN_t {D : List El7} {e : Nat} (h : dKd D e = 3) : bsN D (e + 1) = bsN D e ++ [e] := if_pos h
theorem bsN_f {D : List El7} {e : Nat} (h : ¬ dKd D e = 3) : bsN D (e + 1) = bsN D e := if_neg h
def nbD (D : List El7) : Nat := (bsN D D.length).length
def elD (D : List El7) (b : Nat) : Nat := ((bsN D D.length)[b]?).getD 0
theorem bsN_m {D : List El7} : ∀ e y, y ∈ bsN D e ↔ y < e ∧ dKd D y = 3 := by
  intro e
  induction e with
  | zero => intro y; exact ⟨fun h => (by cases h), fun h => absurd h.1 (Nat.not_lt_zero y)⟩
  | succ e ih =>
    intro y
    by_cases h : dKd D e = 3
    · rw [bsN_t h, List.mem_append, ih y, List.mem_singleton]
      constructor
      · rintro (w | rfl)
        · exact ⟨by omega, w.2⟩
        · exact ⟨by omega, h⟩
      · intro w
        by_cases he : y = e
        · exact Or.inr he
        · exact Or.inl ⟨by omega, w.2⟩
    · rw [bsN_f h, ih y]
      constructor
      · intro w; exact ⟨by omega, w.2⟩
      · intro w
        by_cases he : y = e
        · rw [he] at w; exact absurd w.2 h
        · exact ⟨by omega, w.2⟩
theorem bsN_l {D : List El7} : ∀ e, (bsN D e).length ≤ e := by
  intro e
  induction e with
  | zero => exact Nat.le_refl 0
  | succ e ih =>
    by_cases h : dKd D e = 3
    · rw [bsN_t h, List.length_append]; show _ + 1 ≤ _; omega
    · rw [bsN_f h]; omega
theorem bsN_p {D : List El7} {y : Nat} : ∀ e, y ≤ e → ∃ r, bsN D e = bsN D y ++ r := by
  intro e
  induction e with
  | zero => intro h; rw [Nat.le_zero.mp h]; exact ⟨[], (List.append_nil _).symm⟩
  | succ e ih =>
    intro h
    by_cases he : y = e + 1
    · rw [he]; exact ⟨[], (List.append_nil _).symm⟩
    · obtain ⟨r, hr⟩ := ih (by omega)
      by_cases hk : dKd D e = 3
      · rw [bsN_t hk, hr]; exact ⟨r ++ [e], List.append_assoc _ _ _⟩
      · rw [bsN_f hk]; exact ⟨r, hr⟩
theorem bsN_i {D : List El7} {y e : Nat} (h : y < e) (hk : dKd D y = 3) : (bsN D e)[(bsN D y).length]? = some y := by
  obtain ⟨r, hr⟩ := bsN_p (D := D) (y := y + 1) e h
  rw [hr, bsN_t hk, List.append_assoc, List.getElem?_append_right (Nat.le_refl _), Nat.sub_self]
  rfl
theorem elD_i {D : List El7} {y : Nat} (h : y < D.length) (hk : dKd D y = 3) : elD D (bsN D y).length = y ∧ (bsN D y).length < nbD D := by
  have q := bsN_i h hk
  refine ⟨by unfold elD; rw [q]; rfl, ?_⟩
  unfold nbD
  rcases Nat.lt_or_ge (bsN D y).length (bsN D D.length).length with w | w
  · exact w
  · rw [List.getElem?_eq_none w] at q; cases q
theorem elD_k {D : List El7} {b : Nat} (h : b < nbD D) : elD D b < D.length ∧ dKd D (elD D b) = 3 := by
  unfold nbD at h
  have q : elD D b = (bsN D D.length)[b] := by unfold elD; rw [List.getElem?_eq_getElem h]; rfl
  rw [q]
  exact (bsN_m _ _).mp (List.getElem_mem h)
/-- the numbers of beans go up with their elements -/
theorem bsN_r {D : List El7} : ∀ e b y, (bsN D e)[b]? = some y → (bsN D y).length = b := by
  intro e
  induction e with
  | zero => intro b y h; cases h
  | succ e ih =>
    intro b y h
    by_cases hk : dKd D e = 3
    · rw [bsN_t hk] at h
      rcases Nat.lt_or_ge b (bsN D e).length with w | w
      · rw [List.getElem?_append_left w] at h; exact ih b y h
      · rw [List.getElem?_append_right w] at h
        have hb : b - (bsN D e).length = 0 := by
          rcases Nat.eq_zero_or_pos (b - (bsN D e).length) with z | z
          · exact z
          · rw [List.getElem?_eq_none (by show 1 ≤ _; omega)] at h; cases h
        rw [hb] at h
        have h : some e = some y := h
        cases h
        omega
    · rw [bsN_f hk] at h; exact ih b y h
theorem elD_r {D : List El7} {b : Nat} (h : b < nbD D) : (bsN D (elD D b)).length = b := by
  unfold nbD at h
  refine bsN_r D.length b _ ?_
  rw [List.getElem?_eq_getElem h]
  unfold elD
  rw [List.getElem?_eq_getElem h]
  rfl
def qR (D : List El7) (w : Int64) (b : Nat) : Bool := decide (dAb D (elD D b) = 0) && decide (aW (dAt D (elD D b)) 26980 = w)
def widR (D : List El7) (w : Int64) : Int32 := fstB (qR D w) (nbD D) 0
def parR (D : List El7) (b : Int32) : Int32 := if aH (dAt D (elD D b.toNatClampNeg)) 123563833388660 = 0 then -1 else widR D (aW (dAt D (elD D b.toNatClampNeg)) 123563833388660)
def qC (D : List El7) (w : Int64) (b : Nat) : Bool := decide (nv7 (dAt D (elD D b)) 26980 = w)
def widC (D : List El7) (w : Int64) : Int32 := if w = 0 then -1 else fstB (qC D w) (nbD D) 0
def parC (D : List El7) (b : Int32) : Int32 := widC D (nv7 (dAt D (elD D b.toNatClampNeg)) 123563833388660)
def nmD (D : List El7) (e : Nat) : Int64 := if dKd D e = 2 then nv7 (dAt D e) 29807 else if dKd D e = 3 then nv7 (dAt D e) 26980 else 0
def wdD (D : List El7) (e : Nat) : Int64 := if dKd D e = 3 then aW (dAt D e) 26980 else aW (dAt D e) 29807
def USD (D : List El7) (e : Nat) (w : Int64) : Prop := ∃ k, k < e ∧ dAb D k = 0 ∧ ((dKd D k = 3 ∧ aW (dAt D k) 26980 = w) ∨ (dKd D k = 2 ∧ aW (dAt D k) 29807 = w))
def BR1 (D : List El7) (e : Nat) : Prop := ¬ (dAb D e = 0 ∧ USD D e (wdD D e)) ∧ (dKd D e = 3 → aH (dAt D e) 123563833388660 = 1 → ¬ parR D (nI (bsN D e).length) = -1 ∧ NR (parR D) (nI (bsN D e).length))
def BBR (D : List El7) : Prop := ∀ e, 1 ≤ e → e < D.length → BR1 D e
def BC1 (D : List El7) (e : Nat) : Prop := (¬ nmD D e = 0 → ∀ k, k < e → ¬ nmD D k = nmD D e) ∧ (dKd D e = 3 → ¬ nv7 (dAt D e) 123563833388660 = 0 → ¬ parC D (nI (bsN D e).length) = -1 ∧ NR (parC D) (parC D (nI (bsN D e).length)))
def BBC (D : List El7) : Prop := ∀ e, e < D.length → BC1 D e
/-- what good elements are, as far as wiring asks -/
def GW7 (D : List El7) (e : Nat) : Prop := (dKd D e = 2 ∧ dAb D e = 0 ∧ 1 ≤ e ∧ aI (dAt D e) 29807 = 1) ∨ (dKd D e = 3 ∧ 1 ≤ e ∧ ((dAb D e = 0 ∧ aI (dAt D e) 26980 = 1) ∨ (¬ dAb D e = 0 ∧ aH (dAt D e) 26980 = 0)) ∧ (aH (dAt D e) 123563833388660 = 0 ∨ aI (dAt D e) 123563833388660 = 1)) ∨ (¬ dKd D e = 2 ∧ ¬ dKd D e = 3 ∧ ¬ dAb D e = 0)
theorem nv_H {q : At7} {k : Int64} (h : aH q k = 0) : nv7 q k = 0 ∧ ¬ aI q k = 1 := by
  have : ¬ aI q k = 1 := by
    intro w
    rcases gA_h (q := q) (k := k) with ⟨g1, _⟩ | ⟨v, _, g2⟩
    · rw [aI_n g1] at w; exact absurd w (by decide)
    · rw [g2] at h; exact absurd h (by decide)
  exact ⟨by unfold nv7; rw [if_neg this], this⟩
theorem nv_I {q : At7} {k : Int64} (h : aI q k = 1) : nv7 q k = aW q k := by unfold nv7; rw [if_pos h]
theorem nm_w {D : List El7} (hP : PD7 D) {e : Nat} (h : GW7 D e) : (nmD D e = 0 ∧ ¬ dAb D e = 0) ∨ (¬ nmD D e = 0 ∧ dAb D e = 0 ∧ nmD D e = wdD D e ∧ (dKd D e = 2 ∨ dKd D e = 3)) := by
  have hq := dAt_pv (x := e) hP
  unfold nmD wdD
  rcases h with ⟨a, b, _, c⟩ | ⟨a, _, b, _⟩ | ⟨a, b, c⟩
  · rw [if_pos a, if_neg (by omega)]
    exact Or.inr ⟨(nv7_z hq).mpr c, b, nv_I c, Or.inl a⟩
  · rw [if_neg (by omega), if_pos a, if_pos a]
    rcases b with ⟨b, c⟩ | ⟨b, c⟩
    · exact Or.inr ⟨(nv7_z hq).mpr c, b, nv_I c, Or.inr a⟩
    · exact Or.inl ⟨(nv_H c).1, b⟩
  · rw [if_neg a, if_neg b]; exact Or.inl ⟨rfl, c⟩
theorem NM_e {D : List El7} (hP : PD7 D) (hg : ∀ e, e < D.length → GW7 D e) {e : Nat} (he : e < D.length) : (¬ (dAb D e = 0 ∧ USD D e (wdD D e))) ↔ (¬ nmD D e = 0 → ∀ k, k < e → ¬ nmD D k = nmD D e) := by
  have hw : ∀ k, k < e → nmD D k = wdD D e → ¬ nmD D e = 0 → nmD D e = wdD D e → USD D e (wdD D e) := by
    intro k hk q q2 q3
    rcases nm_w hP (hg k (by omega)) with v | ⟨v1, v2, v3, v4⟩
    · rw [v.1] at q; rw [q3, ← q] at q2; exact absurd rfl q2
    · refine ⟨k, hk, v2, ?_⟩
      unfold wdD at v3
      rcases v4 with v4 | v4
      · rw [if_neg (by omega)] at v3; exact Or.inr ⟨v4, by rw [← v3]; exact q⟩
      · rw [if_pos v4] at v3; exact Or.inl ⟨v4, by rw [← v3]; exact q⟩
  rcases nm_w hP (hg e he) with v | ⟨v1, v2, v3, v4⟩
  · exact ⟨fun _ w => absurd v.1 w, fun _ w => v.2 w.1⟩
  · constructor
    · intro h _ k hk q
      exact h ⟨v2, hw k hk (q.trans v3) v1 v3⟩
    · rintro h ⟨_, k, hk, q1, q2⟩
      refine h v1 k hk ?_
      rcases nm_w hP (hg k (by omega)) with u | ⟨u1, u2, u3, u4⟩
      · exact absurd q1 u.2
      · rw [u3, v3]
        unfold wdD at u3
        rcases q2 with ⟨q2, q3⟩ | ⟨q2, q3⟩
        · show (if dKd D k = 3 then _ else _) = _; rw [if_pos q2, q3]
        · show (if dKd D k = 3 then _ else _) = _; rw [if_neg (by omega), q3]
theorem fst_c {q r : Nat → Bool} : ∀ n j, (∀ k, j ≤ k → k < j + n → q k = r k) → fstB q n j = fstB r n j := by
  intro n
  induction n with
  | zero => intro j _; rfl
  | succ n ih =>
    intro j h
    show (if _ then _ else _) = (if _ then _ else _)
    rw [h j (by omega) (by omega), ih (j + 1) (fun k h1 h2 => h k (by omega) (by omega))]
theorem qRC {D : List El7} (hP : PD7 D) (hg : ∀ e, e < D.length → GW7 D e) {w : Int64} (hw : ¬ w = 0) {b : Nat} (hb : b < nbD D) : qR D w b = qC D w b := by
  obtain ⟨k1, k2⟩ := elD_k hb
  have hG := hg _ k1
  unfold qR qC
  have h3 : (dAb D (elD D b) = 0 ∧ aI (dAt D (elD D b)) 26980 = 1) ∨ (¬ dAb D (elD D b) = 0 ∧ aH (dAt D (elD D b)) 26980 = 0) := by
    rcases hG with v | v | v
    · have := v.1; omega
    · exact v.2.2.1
    · exact absurd k2 v.2.1
  rcases h3 with ⟨a, c⟩ | ⟨a, c⟩
  · rw [decide_eq_true a, nv_I c, Bool.true_and]
  · rw [decide_eq_false a, (nv_H c).1, Bool.false_and, decide_eq_false (fun q => hw q.symm)]
theorem parRC {D : List El7} (hP : PD7 D) (hg : ∀ e, e < D.length → GW7 D e) {b : Int32} (hb : b.toNatClampNeg < nbD D) : parR D b = parC D b := by
  obtain ⟨k1, k2⟩ := elD_k hb
  have hq := dAt_pv (x := elD D b.toNatClampNeg) hP
  unfold parR parC
  have h3 : aH (dAt D (elD D b.toNatClampNeg)) 123563833388660 = 0 ∨ aI (dAt D (elD D b.toNatClampNeg)) 123563833388660 = 1 := by
    rcases hg _ k1 with v | v | v
    · have := v.1; omega
    · exact v.2.2.2
    · exact absurd k2 v.2.1
  by_cases h0 : aH (dAt D (elD D b.toNatClampNeg)) 123563833388660 = 0
  · rw [if_pos h0, (nv_H h0).1]; unfold widC; rw [if_pos rfl]
  · rw [if_neg h0]
    have hI := h3.resolve_left h0
    have hz := (nv7_z hq).mpr hI
    rw [nv_I hI] at hz ⊢
    unfold widR widC
    rw [if_neg hz]
    exact fst_c _ _ (fun k _ hk => qRC hP hg hz (by omega))
theorem par_r {D : List El7} (h80 : D.length ≤ 80) (b : Int32) : parC D b = -1 ∨ (0 ≤ (parC D b).toInt ∧ (parC D b).toNatClampNeg < nbD D) := by
  unfold parC widC
  split
  · exact Or.inl rfl
  · rcases fst_or (qC D (nv7 (dAt D (elD D b.toNatClampNeg)) 123563833388660)) (nbD D) 0 with v | ⟨i, v1, v2, _⟩
    · exact Or.inl v.1
    · rw [v2, Nat.zero_add]
      have := bsN_l (D := D) D.length
      have h9 : nbD D ≤ 80 := by unfold nbD; omega
      have h4 : (nI i).toInt = i := nI_toInt (by omega)
      exact Or.inr ⟨by omega, by show (nI i).toInt.toNat < _; omega⟩
theorem itF_c {f g : Int32 → Int32} {P : Int32 → Prop} (h : ∀ b, P b → g b = f b) (hp : ∀ b, P b → f b = -1 ∨ P (f b)) : ∀ n b, P b → itF g n b = itF f n b := by
  intro n
  induction n with
  | zero => intro b _; rfl
  | succ n ih =>
    intro b hb
    show (if _ then _ else _) = (if _ then _ else _)
    by_cases h1 : b = -1
    · rw [if_pos h1, if_pos h1]
    · rw [if_neg h1, if_neg h1, h b hb]
      rcases hp b hb with q | q
      · rw [q, itF_m1, itF_m1]
      · exact ih _ q
theorem BB_e {D : List El7} (hP : PD7 D) (h80 : D.length ≤ 80) (hg : ∀ e, e < D.length → GW7 D e) : BBR D ↔ BBC D := by
  have hB : ∀ b : Int32, 0 ≤ b.toInt ∧ b.toNatClampNeg < nbD D → parR D b = parC D b := fun b hb => parRC hP hg hb.2
  have hIt : ∀ n (b : Int32), 0 ≤ b.toInt ∧ b.toNatClampNeg < nbD D → itF (parR D) n b = itF (parC D) n b := itF_c hB (fun b _ => (par_r h80 b))
  have hnb : ∀ {e}, e < D.length → dKd D e = 3 → 0 ≤ (nI (bsN D e).length).toInt ∧ (nI (bsN D e).length).toNatClampNeg < nbD D ∧ (nI (bsN D e).length).toNatClampNeg = (bsN D e).length := by
    intro e he hk
    have q1 := (elD_i he hk).2
    have q2 := bsN_l (D := D) e
    have h4 : (nI (bsN D e).length).toInt = (bsN D e).length := nI_toInt (by omega)
    have h5 : (nI (bsN D e).length).toNatClampNeg = (bsN D e).length := by show (nI (bsN D e).length).toInt.toNat = _; omega
    exact ⟨by omega, by omega, h5⟩
  have hm1 : ∀ b : Int32, 0 ≤ b.toInt → ¬ b = -1 := fun b hb q => by rw [q] at hb; exact absurd hb (by decide)
  have hPa : ∀ {e}, e < D.length → dKd D e = 3 → (aH (dAt D e) 123563833388660 = 1 ↔ ¬ nv7 (dAt D e) 123563833388660 = 0) := by
    intro e he hk
    rw [nv7_z (dAt_pv hP)]
    have h3 : aH (dAt D e) 123563833388660 = 0 ∨ aI (dAt D e) 123563833388660 = 1 := by
      rcases hg _ he with v | v | v
      · have := v.1; omega
      · exact v.2.2.2
      · exact absurd hk v.2.1
    constructor
    · intro w; exact h3.resolve_left (by omega)
    · intro w; exact (aI_1 (dAt_pv hP) w).2
  constructor
  · intro h e he
    refine ⟨?_, ?_⟩
    · by_cases h0 : 1 ≤ e
      · exact (NM_e hP hg he).mp (h e h0 he).1
      · intro _ k hk; omega
    · intro hk hn
      have h1e : 1 ≤ e := by
        rcases hg e he with v | v | v
        · exact v.2.2.1
        · exact v.2.1
        · exact absurd hk v.2.1
      obtain ⟨n1, n2, n3⟩ := hnb he hk
      obtain ⟨a1, a2⟩ := (h e h1e he).2 hk ((hPa he hk).mpr hn)
      rw [hB _ ⟨n1, n2⟩] at a1
      refine ⟨a1, ?_⟩
      rcases par_r h80 (nI (bsN D e).length) with q | ⟨q1, q2⟩
      · exact absurd q a1
      · -- the parent is a bean of its own
        intro k k1 k2 hk3
        obtain ⟨r1, r2⟩ := elD_k q2
        have r3 := elD_r q2
        have hr1 : 1 ≤ elD D (parC D (nI (bsN D e).length)).toNatClampNeg := by
          rcases hg _ r1 with v | v | v
          · exact v.2.2.1
          · exact v.2.1
          · exact absurd r2 v.2.1
        have r4 : nI (bsN D (elD D (parC D (nI (bsN D e).length)).toNatClampNeg)).length = parC D (nI (bsN D e).length) := by
          rw [r3]
          refine Int32.toInt_inj.mp ?_
          have := bsN_l (D := D) D.length
          have h9 : nbD D ≤ 80 := by unfold nbD; omega
          rw [nI_toInt (by omega)]
          show (((parC D (nI (bsN D e).length)).toInt.toNat : Nat) : Int) = _
          omega
        by_cases hz : aH (dAt D (elD D (parC D (nI (bsN D e).length)).toNatClampNeg)) 123563833388660 = 1
        · have := ((h _ hr1 r1).2 r2 hz).2
          rw [r4] at this
          exact this k k1 k2 (by rw [hIt k _ ⟨q1, q2⟩]; exact hk3)
        · have hz0 := aH_01.resolve_right hz
          have hpp : parR D (parC D (nI (bsN D e).length)) = -1 := by unfold parR; rw [if_pos hz0]
          rw [hB _ ⟨q1, q2⟩] at hpp
          obtain ⟨k', rfl⟩ : ∃ k', k = k' + 1 := ⟨k - 1, by omega⟩
          have h5 : itF (parC D) (k' + 1) (parC D (nI (bsN D e).length)) = -1 := by
            show (if _ then _ else _) = _
            rw [if_neg a1, hpp, itF_m1]
          rw [h5] at hk3
          exact a1 hk3.symm
  · intro h e h1e he
    refine ⟨(NM_e hP hg he).mpr (h e he).1, fun hk hn => ?_⟩
    obtain ⟨n1, n2, n3⟩ := hnb he hk
    obtain ⟨a1, a2⟩ := (h e he).2 hk ((hPa he hk).mp hn)
    rw [hB _ ⟨n1, n2⟩]
    refine ⟨a1, fun k k1 k2 hk3 => ?_⟩
    rw [hIt k _ ⟨n1, n2⟩] at hk3
    refine a2 k k1 k2 ?_
    have h6 : itF (parC D) (1 + k) (nI (bsN D e).length) = parC D (nI (bsN D e).length) := by
      rw [Nat.add_comm, itF_add, hk3, itF_1 (hm1 _ n1)]
    rw [itF_add, itF_1 (hm1 _ n1)] at h6
    exact h6
def TR7 (D : List El7) : Prop := ∀ x, x < D.length → dAb D x < (x : Int) ∧ -1 ≤ dAb D x ∧ (x = 0 ∨ 0 ≤ dAb D x)
theorem kd_0 {D : List El7} (hT : TR7 D) (h0 : 0 < D.length) (g : GOODC D 0) : dKd D 0 = 1 := by
  have h1 := hT 0 h0
  have h2 : dAb D 0 = -1 := by omega
  have h3 : dIn D 0 = 0 := by unfold dIn; rw [if_pos h2]
  have g1 := g.1
  unfold STN at g1
  rw [h3] at g1
  rcases g1 with v | v | v | v | v | v | v | v
  · exact v.1
  · have := v.2; omega
  · have := v.2; omega
  · have := v.2.1; omega
  · have := v.2.1; omega
  · have := v.2.1; omega
  · have := v.2; omega
  · have := v.2; omega
theorem dIn_n {D : List El7} {e : Nat} (h : ¬ dIn D e = 0) : ¬ dAb D e = -1 ∧ dIn D e = dKd D (dAb D e).toNat := by
  unfold dIn at h ⊢
  by_cases h1 : dAb D e = -1
  · rw [if_pos h1] at h; exact absurd rfl h
  · rw [if_neg h1]; exact ⟨h1, rfl⟩
theorem in_1 {D : List El7} (hT : TR7 D) (hg : ∀ x, x < D.length → GOODC D x) {e : Nat} (he : e < D.length) (h : dIn D e = 1) : dAb D e = 0 ∧ 1 ≤ e := by
  obtain ⟨a, b⟩ := dIn_n (D := D) (e := e) (by omega)
  obtain ⟨t1, t2, t3⟩ := hT e he
  have hl : (dAb D e).toNat < D.length := by omega
  have c := STN_1 (D := D) (x := (dAb D e).toNat) (by omega) (hg _ hl).1
  have t4 := hT _ hl
  have h5 : (dAb D e).toNat = 0 := by omega
  omega
theorem GW_e {D : List El7} (hP : PD7 D) (hT : TR7 D) (hg : ∀ x, x < D.length → GOODC D x) : ∀ e, e < D.length → GW7 D e := by
  intro e he
  have hq := dAt_pv (x := e) hP
  have h0 := kd_0 hT (by omega) (hg 0 (by omega))
  obtain ⟨t1, t2, t3⟩ := hT e he
  have hin0 : dAb D e = 0 → dIn D e = 1 := by
    intro w
    unfold dIn
    rw [if_neg (by omega), w]
    exact h0
  obtain ⟨g1, g2, g3, g4, g5⟩ := hg e he
  obtain ⟨m, r⟩ := ATN_e.mp g2
  by_cases k2 : dKd D e = 2
  · have i1 := STN_2 k2 g1
    obtain ⟨a1, a2⟩ := in_1 hT hg he i1
    have n1 := g3.1.resolve_left (fun v => v k2)
    exact Or.inl ⟨k2, a1, a2, (rv_TO hq).mp ((r 29807).resolve_left (by rw [n1.2]; decide))⟩
  · by_cases k3 : dKd D e = 3
    · have i1 := STN_3 k3 g1
      have n1 := g3.2.1.resolve_left (fun v => v k3)
      refine Or.inr (Or.inl ⟨k3, ?_, ?_, (r 123563833388660).imp id (rv_PARENT hq).mp⟩)
      · have := (dIn_n (D := D) (e := e) (by omega)).1; omega
      · by_cases i2 : dIn D e = 1
        · refine Or.inl ⟨(in_1 hT hg he i2).1, ?_⟩
          have n2 := n1.1.resolve_left (fun v => v i2)
          exact (rv_ID hq).mp ((r 26980).resolve_left (by rw [n2]; decide))
        · rw [k3] at m
          exact Or.inr ⟨fun w => i2 (hin0 w), may0 (k := 26980) m (by decide) i2⟩
    · refine Or.inr (Or.inr ⟨k2, k3, fun w => ?_⟩)
      have i1 := hin0 w
      unfold STN at g1
      rw [i1] at g1
      rcases g1 with v | v | v | v | v | v | v | v
      · have := v.2; omega
      · exact k2 v.1
      · exact k3 v.1
      · have := v.2.1; omega
      · have := v.2.1; omega
      · have := v.2.1; omega
      · have := v.2; omega
      · have := v.2; omega
/-- what the reference lets through, and what the class does -/
def ACR (D : List El7) : Prop := (∀ x, x < D.length → GOODR D x) ∧ (D.length = 0 ∨ dKd D 0 = 1) ∧ BBR D
def ACC (D : List El7) : Prop := (∀ x, x < D.length → GOODC D x) ∧ BBC D
theorem AC_e {D : List El7} (hP : PD7 D) (hT : TR7 D) (h80 : D.length ≤ 80) : ACR D ↔ ACC D := by
  have hG := GOODS_e hP (fun x hx => ⟨(hT x hx).1, (hT x hx).2.1⟩)
  constructor
  · rintro ⟨a, _, c⟩
    have a := hG.mp a
    exact ⟨a, (BB_e hP h80 (GW_e hP hT a)).mp c⟩
  · rintro ⟨a, c⟩
    refine ⟨hG.mpr a, ?_, (BB_e hP h80 (GW_e hP hT a)).mpr c⟩
    rcases Nat.eq_zero_or_pos D.length with q | q
    · exact Or.inl q
    · exact Or.inr (kd_0 hT q (a 0 q))
end
section
theorem dEl_g {D : List El7} {e : Nat} (h : e < D.length) : D[e]? = some (dEl D e) := by
  unfold dEl
  rw [List.getElem?_eq_getElem h]; rfl
theorem RDR_f {ch : Nat → Int} {D : List El7} {sg : Nat → Int32} {gm : Nat → Nat → Int32} {lg : Nat → Nat → Int64} (h : RDR ch D sg gm lg) {e : Nat} (he : e < D.length) : (gm 28 e).toInt = dAb D e ∧ (gm 31 e).toInt = (dTx D e : Int) ∧ lg 34 e = (dEl D e).2.2.1 ∧ ATR (dAt D e) gm lg e (sg 25).toInt ∧ (dAt D e).length ≤ 12 := by
  obtain ⟨_, a2, a3, a4, a5, a6, _⟩ := h.2 e _ (dEl_g he)
  exact ⟨a2, a6, a3, a4, a5⟩
/-- the kinds as the names tell them -/
def KN7 (D : List El7) (gm : Nat → Nat → Int32) (n : Nat) : Prop := ∀ k, k < n → (gm 26 k).toInt = dKd D k
theorem cn_e {D : List El7} {f : Nat → Int32} {k : Nat} : ∀ n, n ≤ D.length → (∀ j, j < D.length → (f j).toInt = dAb D j) → cntA f k n = cnD (dAb D) (k : Int) n := by
  intro n
  induction n with
  | zero => intro _ _; rfl
  | succ n ih =>
    intro h1 h2
    show cntA f k n + (if (f n).toInt = (k : Int) then 1 else 0) = cnD (dAb D) (k : Int) n + (if dAb D n = (k : Int) then 1 else 0)
    rw [ih (by omega) h2, h2 n (by omega)]
theorem ah_e {D : List El7} {gm : Nat → Nat → Int32} {lg : Nat → Nat → Int64} {f : Int} {x : Nat} (hx : x < D.length) (h28 : ∀ j, j < D.length → (gm 28 j).toInt = dAb D j) (h26 : ∀ j, j < D.length → (gm 26 j).toInt = dKd D j) (hW : ∀ j, j < D.length → mWord gm lg j 1851878757 = aW (dAt D j) 1851878757) : ∀ n, n ≤ D.length → ahF gm lg f x n = ahD D f x n := by
  intro n
  induction n with
  | zero => intro _; rfl
  | succ n ih =>
    intro h1
    have e : AQ7 gm lg f x n ↔ AQD D f x n := by
      unfold AQ7 AQD
      rw [h28 n (by omega), h28 x hx, h26 n (by omega), h26 x hx, hW n (by omega), hW x hx]
    show ahF gm lg f x n + (if AQ7 gm lg f x n then 1 else 0) = ahD D f x n + (if AQD D f x n then 1 else 0)
    rw [ih (by omega)]
    by_cases h : AQD D f x n
    · rw [if_pos h, if_pos (e.mpr h)]
    · rw [if_neg h, if_neg (fun q => h (e.mp q))]
theorem ahN_e {gm : Nat → Nat → Int32} {lg : Nat → Nat → Int64} {x : Nat} : ∀ n, ahN gm x n = ahF gm lg 0 x n := by
  intro n
  induction n with
  | zero => rfl
  | succ n ih =>
    have e : (gm 28 n = gm 28 x ∧ gm 26 n = gm 26 x) ↔ AQ7 gm lg 0 x n := by
      unfold AQ7
      rw [Int32.toInt_inj, Int32.toInt_inj]
      exact ⟨fun h => ⟨h.1, h.2, Or.inl rfl⟩, fun h => ⟨h.1, h.2.1⟩⟩
    show ahN gm x n + (if gm 28 n = gm 28 x ∧ gm 26 n = gm 26 x then 1 else 0) = ahF gm lg 0 x n + (if AQ7 gm lg 0 x n then 1 else 0)
    rw [ih]
    by_cases h : AQ7 gm lg 0 x n
    · rw [if_pos h, if_pos (e.mpr h)]
    · rw [if_neg h, if_neg (fun q => h (e.mp q))]
/-- all that rows and list have in common for an element -/
def RL7 (D : List El7) (gm : Nat → Nat → Int32) (lg : Nat → Nat → Int64) (x : Nat) : Prop := (∀ nn, mWord gm lg x nn = aW (dAt D x) nn) ∧ (∀ nn, (mIsW gm lg x nn).toInt = aI (dAt D x) nn) ∧ (∀ nn, (mHas gm lg x nn).toInt = aH (dAt D x) nn) ∧ (gm 28 x).toInt = dAb D x ∧ (gm 31 x).toInt = (dTx D x : Int) ∧ (gm 29 x).toInt = (dCn D x : Int) ∧ (gm 30 x).toNatClampNeg = (dAt D x).length ∧ (∀ k, k < (dAt D x).length → lg 35 (12 * x + k) = dAy D x k)
theorem RL_of {ch : Nat → Int} {D : List El7} {sg : Nat → Int32} {gm : Nat → Nat → Int32} {lg : Nat → Nat → Int64} (h : RDR ch D sg gm lg) (hT : TRE sg gm) (h80 : D.length ≤ 80) {x : Nat} (hx : x < D.length) : RL7 D gm lg x := by
  obtain ⟨a1, a2, a3, a4, a5⟩ := RDR_f h hx
  have hn : (sg 24).toNatClampNeg = D.length := by have := h.1; show (sg 24).toInt.toNat = _; omega
  have hw := fun nn => m_W (nn := nn) a4 (by omega) a5
  refine ⟨fun nn => (hw nn).1, fun nn => (hw nn).2.1, fun nn => (hw nn).2.2, a1, a2, ?_, ?_, ?_⟩
  · rw [hT.2 x (by omega), hn, cn_e D.length (Nat.le_refl _) (fun j hj => (RDR_f h hj).1)]; rfl
  · have := a4.1; show (gm 30 x).toInt.toNat = _; omega
  · intro k hk
    unfold dAy
    rw [List.getElem?_eq_getElem hk]
    exact (a4.2 k _ (List.getElem?_eq_getElem hk)).1
theorem GR_e {D : List El7} {gm : Nat → Nat → Int32} {lg : Nat → Nat → Int64} {x : Nat} (hx : x < D.length) (hR : ∀ j, j < D.length → RL7 D gm lg j) (hK : KN7 D gm D.length) (hA : ∀ j, j < D.length → dAb D j < (j : Int) ∧ -1 ≤ dAb D j) : GOOD7 gm lg x ↔ GOODR D x := by
  obtain ⟨hW, hI, hH, h28, h31, h29, h30, h35⟩ := hR x hx
  have h26 := hK x hx
  have hA' := hA x hx
  have hix : (gm 28 x).toNatClampNeg = (dAb D x).toNat := by show (gm 28 x).toInt.toNat = _; rw [h28]
  have h26a : (gm 26 (gm 28 x).toNatClampNeg).toInt = dKd D (dAb D x).toNat := by rw [hix]; exact hK _ (by omega)
  have hab : abk gm x = dIn D x := by unfold abk dIn; rw [h28, h26a]
  have hah : ∀ f, ahF gm lg f x x = ahD D f x x := fun f => ah_e hx (fun j hj => (hR j hj).2.2.2.1) hK (fun j hj => (hR j hj).1 _) x (by omega)
  unfold GOOD7 GOODR
  refine and_congr ?_ ?_
  · unfold COM7 CMR
    rw [h26, hab, h31]
    refine and_congr Iff.rfl ?_
    constructor
    · intro h k h0 hk
      have := h k h0 (by rw [h30]; exact hk)
      rw [h35 k hk] at this
      exact this
    · intro h k h0 hk
      rw [h30] at hk
      rw [h35 k hk]
      exact h k h0 hk
  · unfold GK7 GKR
    simp only [hW, hI, hH, h26, h26a, h29, hah]
theorem h_0 {gm : Nat → Nat → Int32} {lg : Nat → Nat → Int64} {x : Nat} {nn : Int64} {a : Int} (h : (mHas gm lg x nn).toInt = a) : mHas gm lg x nn = 0 ↔ a = 0 := by
  rw [← h]
  exact ⟨fun q => by rw [q]; rfl, fun q => Int32.toInt_inj.mp q⟩
theorem HOLD_e {D : List El7} {gm : Nat → Nat → Int32} {lg : Nat → Nat → Int64} {x : Nat} (hR : RL7 D gm lg x) (h : aH (dAt D x) 508440638821 + aH (dAt D x) 7497062 + (dCn D x : Int) = 1) : HOLD gm lg x := by
  unfold HOLD
  rw [h_0 (hR.2.2.1 508440638821), h_0 (hR.2.2.1 7497062), hR.2.2.2.2.2.1]
  have h1 := aH_01 (q := dAt D x) (k := 508440638821)
  have h2 := aH_01 (q := dAt D x) (k := 7497062)
  omega
theorem GOOD_of {D : List El7} {gm : Nat → Nat → Int32} {lg : Nat → Nat → Int64} {x : Nat} (hP : PD7 D) (hx : x < D.length) (hR : ∀ j, j < D.length → RL7 D gm lg j) (hK : KN7 D gm D.length) (g : GOODR D x) : GOOD gm lg x := by
  have hq := dAt_pv (x := x) hP
  have h26 := hK x hx
  have hah : ∀ f, ahF gm lg f x x = ahD D f x x := fun f => ah_e hx (fun j hj => (hR j hj).2.2.2.1) hK (fun j hj => (hR j hj).1 _) x (by omega)
  have hOL : aI (dAt D x) 1851878757 = 1 ∧ (aW (dAt D x) 1851878757).toInt < 256 → OL gm lg x 1851878757 := by
    intro w
    unfold OL
    rw [(hR x hx).1]
    have := lv7_a (k := 1851878757) hq
    omega
  by_cases k4 : dKd D x = 4
  · have p := (GKR_4 k4).mp g.2
    refine GOOD_4 (by omega) (HOLD_e (hR x hx) p.1.1.1) ?_ ?_
    · rw [ahN_e (lg := lg), hah]; have := p.1.2.1; omega
    · rw [h_0 ((hR x hx).2.2.1 24948), (hR x hx).1]; exact p.1.2.2
  · by_cases k5 : dKd D x = 5
    · have p := (GKR_5 k5).mp g.2
      exact GOOD_5 (by omega) (HOLD_e (hR x hx) p.1.1) (hOL p.2.1)
    · by_cases k6 : dKd D x = 6
      · have p := (GKR_6 k6).mp g.2
        exact GOOD_6 (by omega) (by rw [(hR x hx).2.2.2.2.2.1]; exact p)
      · by_cases k10 : dKd D x = 10
        · have p := (GKR_10 k10).mp g.2
          exact GOOD_10 (by omega) (hOL p.1)
        · exact GOOD_o (by omega)
end
section
def en7 (k : Nat) : Int := match k with | 0 => 422607679091 | 1 => 418430673267 | 2 => 1650811246 | 3 => 6386279 | 4 => 7562612 | 5 => 1818850164 | 6 => 508440638821 | 7 => 7497062 | 8 => 1853189228 | _ => 119225866483056
def kp7 (v : Int) : Nat → Int
  | 0 => 0
  | k + 1 => if v = en7 k then (k : Int) + 1 else kp7 v k
theorem kp7_e (v : Int) : kp7 v 10 = kd7 v := by
  by_cases h0 : v = 422607679091
  · subst h0; decide
  by_cases h1 : v = 418430673267
  · subst h1; decide
  by_cases h2 : v = 1650811246
  · subst h2; decide
  by_cases h3 : v = 6386279
  · subst h3; decide
  by_cases h4 : v = 7562612
  · subst h4; decide
  by_cases h5 : v = 1818850164
  · subst h5; decide
  by_cases h6 : v = 508440638821
  · subst h6; decide
  by_cases h7 : v = 7497062
  · subst h7; decide
  by_cases h8 : v = 1853189228
  · subst h8; decide
  by_cases h9 : v = 119225866483056
  · subst h9; decide
  simp only [kp7, en7, kd7, if_neg h0, if_neg h1, if_neg h2, if_neg h3, if_neg h4, if_neg h5, if_neg h6, if_neg h7, if_neg h8, if_neg h9]
theorem WRD7_0 {l0 l1 : Nat → Int64} (h : WRD7 l0 l1) {k : Nat} (hk : k < 10) : (l0 k).toInt = en7 k := by
  obtain ⟨⟨b0, b1, b2, b3, b4, b5, b6, b7, b8, b9⟩, _⟩ := h
  rcases (show k = 0 ∨ k = 1 ∨ k = 2 ∨ k = 3 ∨ k = 4 ∨ k = 5 ∨ k = 6 ∨ k = 7 ∨ k = 8 ∨ k = 9 by omega) with rfl | rfl | rfl | rfl | rfl | rfl | rfl | rfl | rfl | rfl
  · rw [b0]; decide
  · rw [b1]; decide
  · rw [b2]; decide
  · rw [b3]; decide
  · rw [b4]; decide
  · rw [b5]; decide
  · rw [b6]; decide
  · rw [b7]; decide
  · rw [b8]; decide
  · rw [b9]; decide
def SR7 (D : List El7) : Prop := (∀ x, x < D.length → GOODR D x) ∧ (D.length = 0 ∨ dKd D 0 = 1)
theorem TR_of {ch : Nat → Int} {D : List El7} {sg : Nat → Int32} {gm : Nat → Nat → Int32} {lg : Nat → Nat → Int64} (h : RDR ch D sg gm lg) (hT : TRE sg gm) (hm : ∀ x, x < D.length → -1 ≤ (gm 28 x).toInt) : TR7 D := by
  intro x hx
  have hn : (sg 24).toNatClampNeg = D.length := by have := h.1; show (sg 24).toInt.toNat = _; omega
  have a1 := (RDR_f h hx).1
  have a2 := hT.1 x (by omega)
  have a3 := hm x hx
  omega
theorem STR_of {ch : Nat → Int} {D : List El7} {sg : Nat → Int32} {gm : Nat → Nat → Int32} {lg : Nat → Nat → Int64} (hP : PD7 D) (h : RDR ch D sg gm lg) (hR : ∀ j, j < D.length → RL7 D gm lg j) (hK : KN7 D gm D.length) (hs : SR7 D) : STR sg gm lg := by
  have hn : (sg 24).toNatClampNeg = D.length := by have := h.1; show (sg 24).toInt.toNat = _; omega
  refine ⟨fun k hk => GOOD_of hP (by omega) hR hK (hs.1 k (by omega)), ?_⟩
  rcases hs.2 with q | q
  · exact Or.inl (by have := h.1; omega)
  · rcases Nat.eq_zero_or_pos D.length with z | z
    · exact Or.inl (by have := h.1; omega)
    · exact Or.inr (by rw [hK 0 z]; exact q)

set_option maxHeartbeats 4000000 in
set_option maxRecDepth 100000 in
theorem f_badStructure2 (l : Launch) (dC : Nat → ClassId) (dI : Nat → Nat → Nat) (h0 : Nat) (ad : Nat → Nat) (cid : Nat → ClassId) (sg : Nat → Int32) (gm : Nat → Nat → Int32) (lg : Nat → Nat → Int64) (ch : Nat → Int) (D : List El7) (hI : MI sg gm) (hTR : TRE sg gm) (hRD : RDR ch D sg gm lg) (hPD : PD7 D) (hwd : WRD7 (lg 0) (lg 1)) : MMi l dC dI yX13_badStructure wm_X13_badStructure ({ frames := 5, cells := 0, slots := 0, locals := 125 }) h0 ad cid [] sg gm lg (fun r v => ∃ (sg2 : Nat → Int32) (gm2 : Nat → Nat → Int32) (lg2 : Nat → Nat → Int64), v = (sg2, gm2, lg2) ∧ MI sg2 gm2 ∧ KS [] sg sg2 ∧ KS [26] gm gm2 ∧ KS [] lg lg2 ∧ (iv (-1) 79 r) ∧ (0 ≤ r.toInt ∨ STR sg2 gm2 lg2) ∧ (KN7 D gm2 D.length) ∧ ((r.toInt = -1 ∧ SR7 D) ∨ (0 ≤ r.toInt ∧ ¬ SR7 D))) := by
  intro sz
  refine Met.ofW (cc := cX13_badStructure) (maxL := 3) (ret := (some .int)) (by decide) rfl ?_
  intro p e s m args below meth c s₁ B hml hv
  obtain ⟨rfl, hsz, hP, hK, hD0⟩ := hv
  have hx := B.exec
  have hb := B.bytes
  have hr := B.returns
  have hts := atoms_spec (ws := wm_X13_badStructure) B.pre
  have htb := fun (w : Cond) (h : w ∈ tb) => hts w (List.mem_cons_of_mem _ h)
  have hown : s.vm.findClass RX13 = some m.cls := findClass_of_methodNamed B.named
  have hlocks := B.notSynchronized
  subst hsz
  have hD := hD0.self (sz := s.heap.size)
  generalize hAe : va_A (mW h0 ad cid sg gm lg) s.heap.size = A at hD ⊢
  have hA : ∀ q : Nat, s.heap.size ≤ q → A q := fun q h => by rw [← hAe]; exact Or.inr h
  have hS : va_S A s.heap s.heap [] := va_S.rf
  have hl := lv_entry ([.ref h0]) (n := 3) (Nat.le_of_ble_eq_true rfl)
  rw [lg_entry_eq]
  generalize (lg_sl ([.ref h0]) ++ List.replicate (3 - (lg_sl ([.ref h0])).length) Slot.unset).toArray = ls at hl ⊢
  have hl : lv_has ls 3 [(0, .ref h0)] := hl
  have hj103 : ∀ (gm_j103 : Nat → Nat → Int32) (x1_103 : Int32) (_ : iv 0 79 x1_103) (_ : KS [26] gm gm_j103) (_ : MI sg gm_j103) (_ : KN7 D gm_j103 D.length) (_ : ¬ SR7 D) (H : Heap) (locs : List Loc) (ls : Array Slot), va_P (dC, dI) vwCl (mW h0 ad cid sg gm_j103 lg) H → va_D A (mW h0 ad cid sg gm_j103 lg) → va_S A s.heap H locs → lv_has ls 3 [(1, .int x1_103), (0, .ref h0)] → W p l e (headSpec wm_X13_badStructure ({ frames := 5, cells := 0, slots := 0, locals := 125 })).room s m ([.ref h0] : List Value).toArray below meth c H locs 0 0 (MQ below (va_Qi (fun r v => ∃ (sg2 : Nat → Int32) (gm2 : Nat → Nat → Int32) (lg2 : Nat → Nat → Int64), v = (sg2, gm2, lg2) ∧ MI sg2 gm2 ∧ KS [] sg sg2 ∧ KS [26] gm gm2 ∧ KS [] lg lg2 ∧ (iv (-1) 79 r) ∧ (0 ≤ r.toInt ∨ STR sg2 gm2 lg2) ∧ (KN7 D gm2 D.length) ∧ ((r.toInt = -1 ∧ SR7 D) ∨ (0 ≤ r.toInt ∧ ¬ SR7 D))) (MB dC dI h0 ad cid A) A) ([.ref h0] : List Value).toArray s 0 0 A) (F0 m 103 ls []) := by
    intro gm_j103 x1_103 hx1_103 hkg_j103 hI_j103 hKN u103 H locs ls hP hD hS hl
    refine lv_iload_n hx hb dX13_badStructure_103 rfl (lv_at hl 0 rfl) ?_
    exact W.iret (v := x1_103) hx hb hr (fun t ht hW => ⟨⟨x1_103, (sg, gm_j103, lg), rfl, ⟨sg, gm_j103, lg, rfl, hI_j103, KS_rf, (KS_tr (L := [26]) KS_rf hkg_j103 (by decide)), KS_rf, (iv_w hx1_103 (by decide)), (Or.inl (hx1_103).1), (hKN), (Or.inr ⟨(hx1_103).1, u103⟩)⟩, by rw [ht]; exact hP, va_K.moved hW.alike hK, hD⟩, hS.F ht⟩) hS.2.2 dX13_badStructure_104
  have hj73 : ∀ (n : Nat) (gm_j73 : Nat → Nat → Int32) (x1_73 : Int32) (_ : (80 - x1_73.toInt).toNat = n) (_ : iv 0 80 x1_73) (_ : KS [26] gm gm_j73) (_ : MI sg gm_j73) (_ : KN7 D gm_j73 D.length) (_ : ∀ k9, k9 < x1_73.toNatClampNeg → GOODR D k9) (_ : x1_73.toInt = 0 ∨ (gm_j73 26 0).toInt = 1) (H : Heap) (locs : List Loc) (ls : Array Slot), va_P (dC, dI) vwCl (mW h0 ad cid sg gm_j73 lg) H → va_D A (mW h0 ad cid sg gm_j73 lg) → va_S A s.heap H locs → lv_has ls 3 [(1, .int x1_73), (0, .ref h0)] → W p l e (headSpec wm_X13_badStructure ({ frames := 5, cells := 0, slots := 0, locals := 125 })).room s m ([.ref h0] : List Value).toArray below meth c H locs 0 0 (MQ below (va_Qi (fun r v => ∃ (sg2 : Nat → Int32) (gm2 : Nat → Nat → Int32) (lg2 : Nat → Nat → Int64), v = (sg2, gm2, lg2) ∧ MI sg2 gm2 ∧ KS [] sg sg2 ∧ KS [26] gm gm2 ∧ KS [] lg lg2 ∧ (iv (-1) 79 r) ∧ (0 ≤ r.toInt ∨ STR sg2 gm2 lg2) ∧ (KN7 D gm2 D.length) ∧ ((r.toInt = -1 ∧ SR7 D) ∨ (0 ≤ r.toInt ∧ ¬ SR7 D))) (MB dC dI h0 ad cid A) A) ([.ref h0] : List Value).toArray s 0 0 A) (F0 m 73 ls []) := by
    intro n
    induction n using Nat.strongRecOn with
    | ind n ih73 =>
      intro gm_j73 x1_73 hn73 hx1_73 hkg_j73 hI_j73 hKN hgd7 hk0 H locs ls hP hD hS hl
      have hj95 : ∀ (gm_j95 : Nat → Nat → Int32) (_ : iv 0 79 x1_73) (_ : KS [26] gm gm_j95) (_ : MI sg gm_j95) (_ : KN7 D gm_j95 D.length) (_ : ∀ k9, k9 < x1_73.toNatClampNeg → GOODR D k9) (_ : (gm_j95 26 0).toInt = 1) (_ : x1_73.toInt < (sg 24).toInt) (H : Heap) (locs : List Loc) (ls : Array Slot), va_P (dC, dI) vwCl (mW h0 ad cid sg gm_j95 lg) H → va_D A (mW h0 ad cid sg gm_j95 lg) → va_S A s.heap H locs → lv_has ls 3 [(1, .int x1_73), (0, .ref h0)] → W p l e (headSpec wm_X13_badStructure ({ frames := 5, cells := 0, slots := 0, locals := 125 })).room s m ([.ref h0] : List Value).toArray below meth c H locs 0 0 (MQ below (va_Qi (fun r v => ∃ (sg2 : Nat → Int32) (gm2 : Nat → Nat → Int32) (lg2 : Nat → Nat → Int64), v = (sg2, gm2, lg2) ∧ MI sg2 gm2 ∧ KS [] sg sg2 ∧ KS [26] gm gm2 ∧ KS [] lg lg2 ∧ (iv (-1) 79 r) ∧ (0 ≤ r.toInt ∨ STR sg2 gm2 lg2) ∧ (KN7 D gm2 D.length) ∧ ((r.toInt = -1 ∧ SR7 D) ∨ (0 ≤ r.toInt ∧ ¬ SR7 D))) (MB dC dI h0 ad cid A) A) ([.ref h0] : List Value).toArray s 0 0 A) (F0 m 95 ls []) := by
        intro gm_j95 hsx1_95 hkg_j95 hI_j95 hKN hgd7 h95 hlt9 H locs ls hP hD hS hl
        have hRL : ∀ j, j < D.length → RL7 D gm_j95 lg j := (fun j hj => RL_of (RDR_k hRD rfl rfl (fun k hk => by rcases hk with rfl | rfl | rfl | rfl | rfl | rfl | rfl | rfl | rfl; exact (hkg_j95 27 (by decide)); exact (hkg_j95 28 (by decide)); exact (hkg_j95 30 (by decide)); exact (hkg_j95 31 (by decide)); exact (hkg_j95 32 (by decide)); exact (hkg_j95 36 (by decide)); exact (hkg_j95 37 (by decide)); exact (hkg_j95 38 (by decide)); exact (hkg_j95 39 (by decide))) (fun k hk => by rcases hk with rfl | rfl; exact rfl; exact rfl)) (TRE_keep hTR rfl (hkg_j95 28 (by decide)) (hkg_j95 29 (by decide))) (by have := hRD.1; have := (show iv 0 80 (sg 24) from MI_s hI 24).2; omega) hj)
        have hAv : ∀ j, j < D.length → dAb D j < (j : Int) ∧ -1 ≤ dAb D j := (fun j hj => by have := hTR.1 j (by have := hRD.1; show j < (sg 24).toInt.toNat; omega); have := (RDR_f hRD hj).1; have := (show iv (-1) 79 (gm 28 j) from hI.2 28 j (show j < 80 by have := hRD.1; have := (show iv 0 80 (sg 24) from MI_s hI 24).2; omega)).1; omega)
        have hlD : x1_73.toNatClampNeg < D.length := by have := hRD.1; have := hlt9; have := iv_cl hsx1_95 (by decide); have := i32_0; have := i32_1; have := i32_2; have := i32_m1; have := (show iv 0 80 (sg 24) from MI_s hI 24).1; have := (show iv 0 80 (sg 24) from MI_s hI 24).2; have := (hsx1_95).1; have := (hsx1_95).2; omega
        refine lv_aload_n hx hb dX13_badStructure_95 rfl (lv_at hl 1 rfl) ?_
        refine lv_iload_n hx hb dX13_badStructure_96 rfl (lv_at hl 0 rfl) ?_
        refine mr_calli (rest := []) ⟨hx, hb, hml, hown, htb⟩ (f_isGood2 l dC dI h0 ad cid sg gm_j95 lg x1_73 hI_j95 hsx1_95 (BS_hg hTR.1 (hkg_j95 28 (by decide)) h95 hsx1_95 (show iv 0 80 (sg 24) from MI_s hI 24) hlt9) (WRD7_k hwd rfl rfl)) (cwV 1 htb (gd_V kw_1172 kw_1173 kw_89 kw_160 kw_1596) rfl rfl rfl (by decide +kernel) ⟨Nat.le_of_ble_eq_true rfl, Nat.le_of_ble_eq_true rfl⟩) rfl hl.1 rfl (Nat.le_of_ble_eq_true rfl) dX13_badStructure_97 ⟨Nat.zero_le _, Nat.zero_le _⟩ hK hP hD hS hA (fun r_1 u_2 H locs hw hP hD hS => ?_)
        obtain ⟨hr_1, fGd_r_1, rfl⟩ := hw
        have hP : va_P (dC, dI) vwCl (mW h0 ad cid sg gm_j95 lg) H := hP
        have hD : va_D A (mW h0 ad cid sg gm_j95 lg) := hD
        refine lv_if_ne (tgt := 105) hx hb dX13_badStructure_100 (by decide) (fun c_3 => ?_) (fun c_3 => ?_)
        · have h_4 : iv 1 1 r_1 := iv_neL c_3 hr_1 (by decide)
          obtain ⟨z_5, ez_5⟩ : ∃ z : Int32, z = x1_73 + 1 := ⟨_, rfl⟩
          have hz_5 : iv 1 80 z_5 := iv_of ez_5 (iv_add hsx1_95 (iv_k (by decide) : iv 1 1 1) (by decide))
          have tz_5 : z_5.toInt = x1_73.toInt + 1 := by rw [ez_5]; exact iv_addE hsx1_95 (iv_k (by decide) : iv 1 1 1) (by decide)
          refine lv_iinc (v := z_5) (lv' := [(1, .int z_5), (0, .ref h0)]) hx hb dX13_badStructure_105 hl (k := 0) rfl ez_5.symm (by decide) rfl (fun ls hl => ?_)
          refine lv_goto (tgt := 73) hx hb dX13_badStructure_108 (by decide) ?_
          exact ih73 _ (by rw [← hn73]; exact (iv_meas tz_5 hsx1_95 (by decide))) gm_j95 z_5 rfl (iv_w hz_5 (by decide)) (KS_tr (L := [26]) KS_rf hkg_j95 (by decide)) hI_j95 (hKN) ((fun k hk => by rw [s_cl hsx1_95 (by decide) tz_5] at hk; by_cases hq : k = x1_73.toNatClampNeg; (rw [hq]; exact (GR_e hlD hRL hKN hAv).mp (fGd_r_1.resolve_right (fun w => absurd w.1 (by have := i32_0; have := i32_1; have := i32_2; have := i32_m1; have := (show iv 0 80 (sg 24) from MI_s hI 24).1; have := (show iv 0 80 (sg 24) from MI_s hI 24).2; have := (hsx1_95).1; have := (hsx1_95).2; have := (h_4).1; have := (h_4).2; have := (hz_5).1; have := (hz_5).2; omega))).2); exact hgd7 k (by omega))) (Or.inr h95) _ _ _ hP hD hS (lv_sub hl [0, 1] rfl)
        · have h_6 : iv 0 0 r_1 := iv_eq c_3 hr_1 (iv_k (by decide) : iv 0 0 0) (by decide)
          exact hj103 gm_j95 x1_73 hsx1_95 (KS_tr (L := [26]) KS_rf hkg_j95 (by decide)) hI_j95 (hKN) ((fun h => (fGd_r_1.resolve_left (fun w => absurd w.1 (by have := i32_0; have := i32_1; have := i32_2; have := i32_m1; have := (show iv 0 80 (sg 24) from MI_s hI 24).1; have := (show iv 0 80 (sg 24) from MI_s hI 24).2; have := (hsx1_95).1; have := (hsx1_95).2; have := (h_6).1; have := (h_6).2; omega))).2 ((GR_e hlD hRL hKN hAv).mpr (h.1 _ hlD)))) _ _ _ hP hD hS (lv_sub hl [0, 1] rfl)
      refine lv_iload_n hx hb dX13_badStructure_73 rfl (lv_at hl 0 rfl) ?_
      refine lv_aload_n hx hb dX13_badStructure_74 rfl (lv_at hl 1 rfl) ?_
      refine mr_get (v := .int (sg 24)) hx hb htb inX13 hown hK hP 24 (by decide) (htb _ kw_1051) rfl dX13_badStructure_75 ?_
      refine lv_icmp_ge (tgt := 111) hx hb dX13_badStructure_78 (by decide) (fun c_7 => ?_) (fun c_7 => ?_)
      · have d_8 : ((sg 24) : Int32).toInt ≤ (x1_73 : Int32).toInt := Int32.le_iff_toInt_le.mp c_7
        have hRL : ∀ j, j < D.length → RL7 D gm_j73 lg j := (fun j hj => RL_of (RDR_k hRD rfl rfl (fun k hk => by rcases hk with rfl | rfl | rfl | rfl | rfl | rfl | rfl | rfl | rfl; exact (hkg_j73 27 (by decide)); exact (hkg_j73 28 (by decide)); exact (hkg_j73 30 (by decide)); exact (hkg_j73 31 (by decide)); exact (hkg_j73 32 (by decide)); exact (hkg_j73 36 (by decide)); exact (hkg_j73 37 (by decide)); exact (hkg_j73 38 (by decide)); exact (hkg_j73 39 (by decide))) (fun k hk => by rcases hk with rfl | rfl; exact rfl; exact rfl)) (TRE_keep hTR rfl (hkg_j73 28 (by decide)) (hkg_j73 29 (by decide))) (by have := hRD.1; have := (show iv 0 80 (sg 24) from MI_s hI 24).2; omega) hj)
        have sr9 : SR7 D := ⟨fun k hk => hgd7 k (by have := hRD.1; have := iv_cl hx1_73 (by decide); have := i32_0; have := i32_1; have := i32_2; have := i32_m1; have := (show iv 0 80 (sg 24) from MI_s hI 24).1; have := (show iv 0 80 (sg 24) from MI_s hI 24).2; have := (hx1_73).1; have := (hx1_73).2; have := ((show iv 0 80 (sg 24) from MI_s hI 24)).1; have := ((show iv 0 80 (sg 24) from MI_s hI 24)).2; omega), by rcases hk0 with q | q; (exact Or.inl (by have := hRD.1; have := iv_cl hx1_73 (by decide); have := i32_0; have := i32_1; have := i32_2; have := i32_m1; have := (show iv 0 80 (sg 24) from MI_s hI 24).1; have := (show iv 0 80 (sg 24) from MI_s hI 24).2; have := (hx1_73).1; have := (hx1_73).2; have := ((show iv 0 80 (sg 24) from MI_s hI 24)).1; have := ((show iv 0 80 (sg 24) from MI_s hI 24)).2; omega)); (rcases Nat.eq_zero_or_pos D.length with z | z; exact Or.inl z; exact Or.inr ((hKN 0 z).symm.trans q))⟩
        refine lv_iconst (v := (-1)) hx hb dX13_badStructure_111 (by decide) ?_
        exact W.iret (v := (-1)) hx hb hr (fun t ht hW => ⟨⟨(-1), (sg, gm_j73, lg), rfl, ⟨sg, gm_j73, lg, rfl, hI_j73, KS_rf, (KS_tr (L := [26]) KS_rf hkg_j73 (by decide)), KS_rf, (iv_w (iv_k (by decide) : iv (-1) (-1) (-1)) (by decide)), (Or.inr (STR_of hPD (RDR_k hRD rfl rfl (fun k hk => by rcases hk with rfl | rfl | rfl | rfl | rfl | rfl | rfl | rfl | rfl; exact (hkg_j73 27 (by decide)); exact (hkg_j73 28 (by decide)); exact (hkg_j73 30 (by decide)); exact (hkg_j73 31 (by decide)); exact (hkg_j73 32 (by decide)); exact (hkg_j73 36 (by decide)); exact (hkg_j73 37 (by decide)); exact (hkg_j73 38 (by decide)); exact (hkg_j73 39 (by decide))) (fun k hk => by rcases hk with rfl | rfl; exact rfl; exact rfl)) hRL hKN sr9)), (hKN), (Or.inl ⟨rfl, sr9⟩)⟩, by rw [ht]; exact hP, va_K.moved hW.alike hK, hD⟩, hS.F ht⟩) hS.2.2 dX13_badStructure_112
      · have d_9 : (x1_73 : Int32).toInt < ((sg 24) : Int32).toInt := Int32.lt_iff_toInt_lt.mp (i32_lt c_7)
        have h_10 : iv 0 79 x1_73 := iv_ltL (i32_lt c_7) hx1_73 (show iv 0 80 (sg 24) from MI_s hI 24) (by decide)
        have h_11 : iv 1 80 (sg 24) := iv_ltR (i32_lt c_7) hx1_73 (show iv 0 80 (sg 24) from MI_s hI 24) (by decide)
        refine lv_iload_n hx hb dX13_badStructure_81 rfl (lv_at hl 0 rfl) ?_
        refine lv_if_ne (tgt := 95) hx hb dX13_badStructure_82 (by decide) (fun c_12 => ?_) (fun c_12 => ?_)
        · have h_13 : iv 1 79 x1_73 := iv_neL c_12 h_10 (by decide)
          exact hj95 gm_j73 (iv_w h_13 (by decide)) (KS_tr (L := [26]) KS_rf hkg_j73 (by decide)) hI_j73 (hKN) (hgd7) (hk0.resolve_left (fun q9 => c_12 (Int32.toInt_inj.mp q9))) (by have := i32_0; have := i32_1; have := i32_2; have := i32_m1; have := (show iv 0 80 (sg 24) from MI_s hI 24).1; have := (show iv 0 80 (sg 24) from MI_s hI 24).2; have := (h_13).1; have := (h_13).2; have := (h_11).1; have := (h_11).2; omega) _ _ _ hP hD hS (lv_sub hl [0, 1] rfl)
        · have h_14 : iv 0 0 x1_73 := iv_eq c_12 h_10 (iv_k (by decide) : iv 0 0 0) (by decide)
          refine lv_aload_n hx hb dX13_badStructure_85 rfl (lv_at hl 1 rfl) ?_
          refine mr_get (v := .ref (ad 26)) hx hb htb inX13 hown hK hP 26 (by decide) (htb _ kw_1053) rfl dX13_badStructure_86 ?_
          refine lv_iconst (v := 0) hx hb dX13_badStructure_89 (by decide) ?_
          refine mr_iald hx hb hK hP 19 (k := 26) rfl rfl rfl (show vp_in 0 80 from (iv_in (iv_k (by decide) : iv 0 0 0) (by decide))) dX13_badStructure_90 ?_
          refine lv_topi (fun z_15 ez_15 => ?_)
          have hz_15 : iv 0 10 z_15 := iv_of ez_15 (MI_a hI_j73 26 (iv_k (by decide) : iv 0 0 0) (by decide))
          refine lv_iconst (v := 1) hx hb dX13_badStructure_91 (by decide) ?_
          refine lv_icmp_ne (tgt := 103) hx hb dX13_badStructure_92 (by decide) (fun c_16 => ?_) (fun c_16 => ?_)
          · have d_17 : ¬ (z_15 : Int32).toInt = 1 := lv_neT c_16 rfl
            exact hj103 gm_j73 x1_73 (iv_w h_14 (by decide)) (KS_tr (L := [26]) KS_rf hkg_j73 (by decide)) hI_j73 (hKN) ((fun h => by have q8 := hKN 0 (by have := hRD.1; have := iv_cl (show iv 0 79 x1_73 from (iv_w h_14 (by decide))) (by decide); have := i32_0; have := i32_1; have := i32_2; have := i32_m1; have := (show iv 0 80 (sg 24) from MI_s hI 24).1; have := (show iv 0 80 (sg 24) from MI_s hI 24).2; have := (h_14).1; have := (h_14).2; have := (h_11).1; have := (h_11).2; have := (hz_15).1; have := (hz_15).2; omega); have q9 := congrArg Int32.toInt ez_15; rcases h.2 with q | q; (exfalso; have := hRD.1; have := iv_cl (show iv 0 79 x1_73 from (iv_w h_14 (by decide))) (by decide); have := i32_0; have := i32_1; have := i32_2; have := i32_m1; have := (show iv 0 80 (sg 24) from MI_s hI 24).1; have := (show iv 0 80 (sg 24) from MI_s hI 24).2; have := (h_14).1; have := (h_14).2; have := (h_11).1; have := (h_11).2; have := (hz_15).1; have := (hz_15).2; omega); (rw [q] at q8; exact absurd (Int32.toInt_inj.mp (q9.trans (q8.trans i32_1.symm))) c_16))) _ _ _ hP hD hS (lv_sub hl [0, 1] rfl)
          · have h_18 : iv 1 1 z_15 := iv_eq c_16 hz_15 (iv_k (by decide) : iv 1 1 1) (by decide)
            exact hj95 gm_j73 (iv_w h_14 (by decide)) (KS_tr (L := [26]) KS_rf hkg_j73 (by decide)) hI_j73 (hKN) (hgd7) (by rw [show gm_j73 26 0 = z_15 from ez_15.symm]; exact congrArg Int32.toInt c_16) (by have := i32_0; have := i32_1; have := i32_2; have := i32_m1; have := (show iv 0 80 (sg 24) from MI_s hI 24).1; have := (show iv 0 80 (sg 24) from MI_s hI 24).2; have := (h_14).1; have := (h_14).2; have := (h_11).1; have := (h_11).2; have := (h_18).1; have := (h_18).2; omega) _ _ _ hP hD hS (lv_sub hl [0, 1] rfl)
  have hj2 : ∀ (n : Nat) (gm_j2 : Nat → Nat → Int32) (x1_2 : Int32) (_ : (80 - x1_2.toInt).toNat = n) (_ : iv 0 80 x1_2) (_ : KS [26] gm gm_j2) (_ : MI sg gm_j2) (_ : ∀ k, k < x1_2.toNatClampNeg → (gm_j2 26 k).toInt = dKd D k) (H : Heap) (locs : List Loc) (ls : Array Slot), va_P (dC, dI) vwCl (mW h0 ad cid sg gm_j2 lg) H → va_D A (mW h0 ad cid sg gm_j2 lg) → va_S A s.heap H locs → lv_has ls 3 [(1, .int x1_2), (0, .ref h0)] → W p l e (headSpec wm_X13_badStructure ({ frames := 5, cells := 0, slots := 0, locals := 125 })).room s m ([.ref h0] : List Value).toArray below meth c H locs 0 0 (MQ below (va_Qi (fun r v => ∃ (sg2 : Nat → Int32) (gm2 : Nat → Nat → Int32) (lg2 : Nat → Nat → Int64), v = (sg2, gm2, lg2) ∧ MI sg2 gm2 ∧ KS [] sg sg2 ∧ KS [26] gm gm2 ∧ KS [] lg lg2 ∧ (iv (-1) 79 r) ∧ (0 ≤ r.toInt ∨ STR sg2 gm2 lg2) ∧ (KN7 D gm2 D.length) ∧ ((r.toInt = -1 ∧ SR7 D) ∨ (0 ≤ r.toInt ∧ ¬ SR7 D))) (MB dC dI h0 ad cid A) A) ([.ref h0] : List Value).toArray s 0 0 A) (F0 m 2 ls []) := by
    intro n
    induction n using Nat.strongRecOn with
    | ind n ih2 =>
      intro gm_j2 x1_2 hn2 hx1_2 hkg_j2 hI_j2 hkn H locs ls hP hD hS hl
      have hj19 : ∀ (n : Nat) (gm_j19 : Nat → Nat → Int32) (x2_19 : Int32) (_ : (10 - x2_19.toInt).toNat = n) (_ : iv 0 10 x2_19) (_ : iv 0 79 x1_2) (_ : KS [26] gm gm_j19) (_ : MI sg gm_j19) (_ : ∀ k, k < x1_2.toNatClampNeg → (gm_j19 26 k).toInt = dKd D k) (_ : (gm_j19 26 x1_2.toNatClampNeg).toInt = kp7 (lg 34 x1_2.toNatClampNeg).toInt x2_19.toNatClampNeg) (_ : x1_2.toInt < (sg 24).toInt) (H : Heap) (locs : List Loc) (ls : Array Slot), va_P (dC, dI) vwCl (mW h0 ad cid sg gm_j19 lg) H → va_D A (mW h0 ad cid sg gm_j19 lg) → va_S A s.heap H locs → lv_has ls 3 [(2, .int x2_19), (1, .int x1_2), (0, .ref h0)] → W p l e (headSpec wm_X13_badStructure ({ frames := 5, cells := 0, slots := 0, locals := 125 })).room s m ([.ref h0] : List Value).toArray below meth c H locs 0 0 (MQ below (va_Qi (fun r v => ∃ (sg2 : Nat → Int32) (gm2 : Nat → Nat → Int32) (lg2 : Nat → Nat → Int64), v = (sg2, gm2, lg2) ∧ MI sg2 gm2 ∧ KS [] sg sg2 ∧ KS [26] gm gm2 ∧ KS [] lg lg2 ∧ (iv (-1) 79 r) ∧ (0 ≤ r.toInt ∨ STR sg2 gm2 lg2) ∧ (KN7 D gm2 D.length) ∧ ((r.toInt = -1 ∧ SR7 D) ∨ (0 ≤ r.toInt ∧ ¬ SR7 D))) (MB dC dI h0 ad cid A) A) ([.ref h0] : List Value).toArray s 0 0 A) (F0 m 19 ls []) := by
        intro n
        induction n using Nat.strongRecOn with
        | ind n ih19 =>
          intro gm_j19 x2_19 hn19 hx2_19 hsx1_19 hkg_j19 hI_j19 hkn hcur hl1 H locs ls hP hD hS hl
          have hj58 : ∀ (gm_j58 : Nat → Nat → Int32) (y0_58 : Int32) (_ : iv 0 9 x2_19) (_ : iv 0 79 x1_2) (_ : iv 0 10 y0_58) (_ : iv 0 79 x1_2) (_ : KS [26] gm gm_j58) (_ : MI sg gm_j58) (_ : ∀ k, k < x1_2.toNatClampNeg → (gm_j58 26 k).toInt = dKd D k) (_ : y0_58.toInt = kp7 (lg 34 x1_2.toNatClampNeg).toInt (x2_19.toNatClampNeg + 1)) (_ : x1_2.toInt < (sg 24).toInt) (H : Heap) (locs : List Loc) (ls : Array Slot), va_P (dC, dI) vwCl (mW h0 ad cid sg gm_j58 lg) H → va_D A (mW h0 ad cid sg gm_j58 lg) → va_S A s.heap H locs → lv_has ls 3 [(2, .int x2_19), (1, .int x1_2), (0, .ref h0)] → W p l e (headSpec wm_X13_badStructure ({ frames := 5, cells := 0, slots := 0, locals := 125 })).room s m ([.ref h0] : List Value).toArray below meth c H locs 0 0 (MQ below (va_Qi (fun r v => ∃ (sg2 : Nat → Int32) (gm2 : Nat → Nat → Int32) (lg2 : Nat → Nat → Int64), v = (sg2, gm2, lg2) ∧ MI sg2 gm2 ∧ KS [] sg sg2 ∧ KS [26] gm gm2 ∧ KS [] lg lg2 ∧ (iv (-1) 79 r) ∧ (0 ≤ r.toInt ∨ STR sg2 gm2 lg2) ∧ (KN7 D gm2 D.length) ∧ ((r.toInt = -1 ∧ SR7 D) ∨ (0 ≤ r.toInt ∧ ¬ SR7 D))) (MB dC dI h0 ad cid A) A) ([.ref h0] : List Value).toArray s 0 0 A) (F0 m 58 ls [.int y0_58, .int x1_2, .ref (ad 26)]) := by
            intro gm_j58 y0_58 hsx2_58 hsx1_58 hy0_58 hsy1_58 hkg_j58 hI_j58 hkn u58 hl1 H locs ls hP hD hS hl
            refine ma_iast (x := y0_58) hx hb hK hP hD hS 19 (k := 26) rfl rfl rfl (show vp_in x1_2 80 from (iv_in hsy1_58 (by decide))) dX13_badStructure_58 (fun gm_19 H locs egm_19 hP hD hS => ?_)
            have hI_gm_19 := MI_st hI_j58 egm_19 hy0_58 (by decide)
            obtain ⟨z_20, ez_20⟩ : ∃ z : Int32, z = x2_19 + 1 := ⟨_, rfl⟩
            have hz_20 : iv 1 10 z_20 := iv_of ez_20 (iv_add hsx2_58 (iv_k (by decide) : iv 1 1 1) (by decide))
            have tz_20 : z_20.toInt = x2_19.toInt + 1 := by rw [ez_20]; exact iv_addE hsx2_58 (iv_k (by decide) : iv 1 1 1) (by decide)
            refine lv_iinc (v := z_20) (lv' := [(2, .int z_20), (1, .int x1_2), (0, .ref h0)]) hx hb dX13_badStructure_59 hl (k := 0) rfl ez_20.symm (by decide) rfl (fun ls hl => ?_)
            refine lv_goto (tgt := 19) hx hb dX13_badStructure_62 (by decide) ?_
            exact ih19 _ (by rw [← hn19]; exact (iv_meas tz_20 hsx2_58 (by decide))) gm_19 z_20 rfl (iv_w hz_20 (by decide)) hsy1_58 (KS_up (KS_tr (L := [26]) KS_rf hkg_j58 (by decide)) egm_19 (by decide)) hI_gm_19 ((fun k hk => by rw [show gm_19 26 k = _ from up_oth egm_19 (by omega)]; exact hkn k hk)) ((by rw [show gm_19 26 x1_2.toNatClampNeg = y0_58 from up_cell egm_19, s_cl hsx2_58 (by decide) tz_20]; exact u58)) (hl1) _ _ _ hP hD hS (lv_sub hl [0, 1, 2] rfl)
          refine lv_iload_n hx hb dX13_badStructure_19 rfl (lv_at hl 0 rfl) ?_
          refine lv_bipush (v := 10) hx hb dX13_badStructure_20 (by decide) ?_
          refine lv_icmp_ge (tgt := 65) hx hb dX13_badStructure_22 (by decide) (fun c_21 => ?_) (fun c_21 => ?_)
          · have h_22 : iv 10 10 x2_19 := iv_leR c_21 (iv_k (by decide) : iv 10 10 10) hx2_19 (by decide)
            obtain ⟨z_23, ez_23⟩ : ∃ z : Int32, z = x1_2 + 1 := ⟨_, rfl⟩
            have hz_23 : iv 1 80 z_23 := iv_of ez_23 (iv_add hsx1_19 (iv_k (by decide) : iv 1 1 1) (by decide))
            have tz_23 : z_23.toInt = x1_2.toInt + 1 := by rw [ez_23]; exact iv_addE hsx1_19 (iv_k (by decide) : iv 1 1 1) (by decide)
            refine lv_iinc (v := z_23) (lv' := [(1, .int z_23), (2, .int x2_19), (0, .ref h0)]) hx hb dX13_badStructure_65 hl (k := 1) rfl ez_23.symm (by decide) rfl (fun ls hl => ?_)
            refine lv_goto (tgt := 2) hx hb dX13_badStructure_68 (by decide) ?_
            exact ih2 _ (by rw [← hn2]; exact (iv_meas tz_23 hsx1_19 (by decide))) gm_j19 z_23 rfl (iv_w hz_23 (by decide)) (KS_tr (L := [26]) KS_rf hkg_j19 (by decide)) hI_j19 ((fun k hk => by rw [s_cl hsx1_19 (by decide) tz_23] at hk; by_cases hq : k = x1_2.toNatClampNeg; (rw [hq, hcur, show x2_19.toNatClampNeg = 10 from (by have := iv_cl (show iv 0 10 x2_19 from (iv_w h_22 (by decide))) (by decide); have := i32_0; have := i32_1; have := i32_2; have := i32_m1; have := (show iv 0 80 (sg 24) from MI_s hI 24).1; have := (show iv 0 80 (sg 24) from MI_s hI 24).2; have := (hsx1_19).1; have := (hsx1_19).2; have := (h_22).1; have := (h_22).2; have := (hz_23).1; have := (hz_23).2; omega), kp7_e, (RDR_f hRD (show x1_2.toNatClampNeg < D.length from (by have := hRD.1; have := iv_cl hsx1_19 (by decide); have := i32_0; have := i32_1; have := i32_2; have := i32_m1; have := (show iv 0 80 (sg 24) from MI_s hI 24).1; have := (show iv 0 80 (sg 24) from MI_s hI 24).2; have := (hsx1_19).1; have := (hsx1_19).2; have := (h_22).1; have := (h_22).2; have := (hz_23).1; have := (hz_23).2; omega))).2.2.1]; rfl); exact hkn k (by omega))) _ _ _ hP hD hS (lv_sub hl [0, 2] rfl)
          · have h_24 : iv 0 9 x2_19 := iv_ltL (i32_lt c_21) hx2_19 (iv_k (by decide) : iv 10 10 10) (by decide)
            refine lv_aload_n hx hb dX13_badStructure_25 rfl (lv_at hl 2 rfl) ?_
            refine mr_get (v := .ref (ad 26)) hx hb htb inX13 hown hK hP 26 (by decide) (htb _ kw_1053) rfl dX13_badStructure_26 ?_
            refine lv_iload_n hx hb dX13_badStructure_29 rfl (lv_at hl 1 rfl) ?_
            refine lv_aload_n hx hb dX13_badStructure_30 rfl (lv_at hl 2 rfl) ?_
            refine mr_get (v := .ref (ad 34)) hx hb htb inX13 hown hK hP 34 (by decide) (htb _ kw_1061) rfl dX13_badStructure_31 ?_
            refine lv_iload_n hx hb dX13_badStructure_34 rfl (lv_at hl 1 rfl) ?_
            refine mr_lald hx hb hK hP 27 (k := 34) rfl rfl rfl (show vp_in x1_2 80 from (iv_in hsx1_19 (by decide))) dX13_badStructure_35 ?_
            refine lv_topl (fun z_25 ez_25 => ?_)
            refine lv_aload_n hx hb dX13_badStructure_36 rfl (lv_at hl 2 rfl) ?_
            refine mr_get (v := .ref (ad 0)) hx hb htb inX13 hown hK hP 0 (by decide) (htb _ kw_1027) rfl dX13_badStructure_37 ?_
            refine lv_iload_n hx hb dX13_badStructure_40 rfl (lv_at hl 0 rfl) ?_
            refine mr_lald hx hb hK hP 0 (k := 0) rfl rfl rfl (show vp_in x2_19 10 from (iv_in h_24 (by decide))) dX13_badStructure_41 ?_
            refine lv_topl (fun z_26 ez_26 => ?_)
            refine W.lcmp hx hb dX13_badStructure_42 ?_
            refine lv_topi (fun z_27 ez_27 => ?_)
            have hz_27 : iv (-1) 1 z_27 := iv_of ez_27 (iv_cmp _ _)
            have hl_z_27 := lg_tr7 ez_27
            refine lv_if_ne (tgt := 52) hx hb dX13_badStructure_43 (by decide) (fun c_28 => ?_) (fun c_28 => ?_)
            · have d_29 : ¬ (z_27 : Int32).toInt = 0 := lv_neT c_28 rfl
              refine lv_aload_n hx hb dX13_badStructure_52 rfl (lv_at hl 2 rfl) ?_
              refine mr_get (v := .ref (ad 26)) hx hb htb inX13 hown hK hP 26 (by decide) (htb _ kw_1053) rfl dX13_badStructure_53 ?_
              refine lv_iload_n hx hb dX13_badStructure_56 rfl (lv_at hl 1 rfl) ?_
              refine mr_iald hx hb hK hP 19 (k := 26) rfl rfl rfl (show vp_in x1_2 80 from (iv_in hsx1_19 (by decide))) dX13_badStructure_57 ?_
              refine lv_topi (fun z_30 ez_30 => ?_)
              have hz_30 : iv 0 10 z_30 := iv_of ez_30 (MI_a hI_j19 26 hsx1_19 (by decide))
              exact hj58 gm_j19 z_30 h_24 hsx1_19 hz_30 hsx1_19 (KS_tr (L := [26]) KS_rf hkg_j19 (by decide)) hI_j19 (hkn) ((by have e0 := WRD7_0 hwd (k := x2_19.toNatClampNeg) (by have := iv_cl h_24 (by decide); have := i32_0; have := i32_1; have := i32_2; have := i32_m1; have := (show iv 0 80 (sg 24) from MI_s hI 24).1; have := (show iv 0 80 (sg 24) from MI_s hI 24).2; have := (hsx1_19).1; have := (hsx1_19).2; have := (h_24).1; have := (h_24).2; have := (hz_27).1; have := (hz_27).2; have := (hz_30).1; have := (hz_30).2; omega); have g3 := lg_tr7 ez_27; rw [ez_25, ez_26] at g3; rw [e0] at g3; show _ = (if (lg 34 x1_2.toNatClampNeg).toInt = en7 x2_19.toNatClampNeg then (x2_19.toNatClampNeg : Int) + 1 else kp7 (lg 34 x1_2.toNatClampNeg).toInt x2_19.toNatClampNeg); rw [if_neg (by have := i32_0; have := i32_1; have := i32_2; have := i32_m1; have := (show iv 0 80 (sg 24) from MI_s hI 24).1; have := (show iv 0 80 (sg 24) from MI_s hI 24).2; have := (hsx1_19).1; have := (hsx1_19).2; have := (h_24).1; have := (h_24).2; have := (hz_27).1; have := (hz_27).2; have := (hz_30).1; have := (hz_30).2; omega)]; rw [ez_30]; exact hcur)) (hl1) _ _ _ hP hD hS (lv_sub hl [0, 1, 2] rfl)
            · have h_31 : iv 0 0 z_27 := iv_eq c_28 hz_27 (iv_k (by decide) : iv 0 0 0) (by decide)
              refine lv_iconst (v := 1) hx hb dX13_badStructure_46 (by decide) ?_
              refine lv_iload_n hx hb dX13_badStructure_47 rfl (lv_at hl 0 rfl) ?_
              refine lv_iadd hx hb dX13_badStructure_48 ?_
              refine lv_topi (fun z_32 ez_32 => ?_)
              have hz_32 : iv 1 10 z_32 := iv_of ez_32 (iv_add (iv_k (by decide) : iv 1 1 1) h_24 (by decide))
              have tz_32 : z_32.toInt = 1 + (x2_19 : Int32).toInt := by rw [ez_32]; exact iv_addE (iv_k (by decide) : iv 1 1 1) h_24 (by decide)
              refine lv_goto (tgt := 58) hx hb dX13_badStructure_49 (by decide) ?_
              exact hj58 gm_j19 z_32 h_24 hsx1_19 (iv_w hz_32 (by decide)) hsx1_19 (KS_tr (L := [26]) KS_rf hkg_j19 (by decide)) hI_j19 (hkn) ((by have e0 := WRD7_0 hwd (k := x2_19.toNatClampNeg) (by have := iv_cl h_24 (by decide); have := i32_0; have := i32_1; have := i32_2; have := i32_m1; have := (show iv 0 80 (sg 24) from MI_s hI 24).1; have := (show iv 0 80 (sg 24) from MI_s hI 24).2; have := (hsx1_19).1; have := (hsx1_19).2; have := (h_24).1; have := (h_24).2; have := (h_31).1; have := (h_31).2; have := (hz_32).1; have := (hz_32).2; omega); have g3 := lg_tr7 ez_27; rw [ez_25, ez_26] at g3; rw [e0] at g3; show _ = (if (lg 34 x1_2.toNatClampNeg).toInt = en7 x2_19.toNatClampNeg then (x2_19.toNatClampNeg : Int) + 1 else kp7 (lg 34 x1_2.toNatClampNeg).toInt x2_19.toNatClampNeg); rw [if_pos (by have := i32_0; have := i32_1; have := i32_2; have := i32_m1; have := (show iv 0 80 (sg 24) from MI_s hI 24).1; have := (show iv 0 80 (sg 24) from MI_s hI 24).2; have := (hsx1_19).1; have := (hsx1_19).2; have := (h_24).1; have := (h_24).2; have := (h_31).1; have := (h_31).2; have := (hz_32).1; have := (hz_32).2; omega)]; have := iv_cl h_24 (by decide); have := tz_32; omega)) (hl1) _ _ _ hP hD hS (lv_sub hl [0, 1, 2] rfl)
      refine lv_iload_n hx hb dX13_badStructure_2 rfl (lv_at hl 0 rfl) ?_
      refine lv_aload_n hx hb dX13_badStructure_3 rfl (lv_at hl 1 rfl) ?_
      refine mr_get (v := .int (sg 24)) hx hb htb inX13 hown hK hP 24 (by decide) (htb _ kw_1051) rfl dX13_badStructure_4 ?_
      refine lv_icmp_ge (tgt := 71) hx hb dX13_badStructure_7 (by decide) (fun c_33 => ?_) (fun c_33 => ?_)
      · have d_34 : ((sg 24) : Int32).toInt ≤ (x1_2 : Int32).toInt := Int32.le_iff_toInt_le.mp c_33
        refine lv_iconst (v := 0) hx hb dX13_badStructure_71 (by decide) ?_
        refine lv_istore_n (lv' := [(1, .int 0), (0, .ref h0)]) hx hb dX13_badStructure_72 rfl hl (by decide) rfl (fun ls hl => ?_)
        exact hj73 _ gm_j2 0 rfl (iv_w (iv_k (by decide) : iv 0 0 0) (by decide)) (KS_tr (L := [26]) KS_rf hkg_j2 (by decide)) hI_j2 ((fun k hk => hkn k (by have := hRD.1; have := iv_cl hx1_2 (by decide); have := i32_0; have := i32_1; have := i32_2; have := i32_m1; have := (show iv 0 80 (sg 24) from MI_s hI 24).1; have := (show iv 0 80 (sg 24) from MI_s hI 24).2; have := (hx1_2).1; have := (hx1_2).2; have := ((show iv 0 80 (sg 24) from MI_s hI 24)).1; have := ((show iv 0 80 (sg 24) from MI_s hI 24)).2; omega))) ((fun k9 h9 => absurd h9 (Nat.not_lt_zero _))) (Or.inl rfl) _ _ _ hP hD hS (lv_sub hl [0, 1] rfl)
      · have d_35 : (x1_2 : Int32).toInt < ((sg 24) : Int32).toInt := Int32.lt_iff_toInt_lt.mp (i32_lt c_33)
        have h_36 : iv 0 79 x1_2 := iv_ltL (i32_lt c_33) hx1_2 (show iv 0 80 (sg 24) from MI_s hI 24) (by decide)
        have h_37 : iv 1 80 (sg 24) := iv_ltR (i32_lt c_33) hx1_2 (show iv 0 80 (sg 24) from MI_s hI 24) (by decide)
        refine lv_aload_n hx hb dX13_badStructure_10 rfl (lv_at hl 1 rfl) ?_
        refine mr_get (v := .ref (ad 26)) hx hb htb inX13 hown hK hP 26 (by decide) (htb _ kw_1053) rfl dX13_badStructure_11 ?_
        refine lv_iload_n hx hb dX13_badStructure_14 rfl (lv_at hl 0 rfl) ?_
        refine lv_iconst (v := 0) hx hb dX13_badStructure_15 (by decide) ?_
        refine ma_iast (x := 0) hx hb hK hP hD hS 19 (k := 26) rfl rfl rfl (show vp_in x1_2 80 from (iv_in h_36 (by decide))) dX13_badStructure_16 (fun gm_38 H locs egm_38 hP hD hS => ?_)
        have hI_gm_38 := MI_st hI_j2 egm_38 (iv_k (by decide) : iv 0 0 0) (by decide)
        refine lv_iconst (v := 0) hx hb dX13_badStructure_17 (by decide) ?_
        refine lv_istore_n (lv' := [(2, .int 0), (1, .int x1_2), (0, .ref h0)]) hx hb dX13_badStructure_18 rfl hl (by decide) rfl (fun ls hl => ?_)
        exact hj19 _ gm_38 0 rfl (iv_w (iv_k (by decide) : iv 0 0 0) (by decide)) h_36 (KS_up (KS_tr (L := [26]) KS_rf hkg_j2 (by decide)) egm_38 (by decide)) hI_gm_38 ((fun k hk => by rw [show gm_38 26 k = _ from up_oth egm_38 (by omega)]; exact hkn k hk)) ((by rw [show gm_38 26 x1_2.toNatClampNeg = 0 from up_cell egm_38]; rfl)) (by have := i32_0; have := i32_1; have := i32_2; have := i32_m1; have := (show iv 0 80 (sg 24) from MI_s hI 24).1; have := (show iv 0 80 (sg 24) from MI_s hI 24).2; have := (h_36).1; have := (h_36).2; have := (h_37).1; have := (h_37).2; omega) _ _ _ hP hD hS (lv_sub hl [0, 1, 2] rfl)
  refine lv_iconst (v := 0) hx hb dX13_badStructure_0 (by decide) ?_
  refine lv_istore_n (lv' := [(1, .int 0), (0, .ref h0)]) hx hb dX13_badStructure_1 rfl hl (by decide) rfl (fun ls hl => ?_)
  exact hj2 _ gm 0 rfl (iv_w (iv_k (by decide) : iv 0 0 0) (by decide)) KS_rf hI ((fun k hk => absurd hk (Nat.not_lt_zero _))) _ _ _ hP hD hS (lv_sub hl [0, 1] rfl)
end
section
/-- the beans' rows of the reference by the list -/
def BN7 (D : List El7) (sg : Nat → Int32) (gm : Nat → Nat → Int32) (n : Nat) : Prop := (sg 41).toInt = ((bsN D n).length : Int) ∧ ∀ b y : Nat, (bsN D n)[b]? = some y → (gm 42 b).toInt = (y : Int) ∧ (gm 43 y).toInt = (b : Int)
theorem BN_el {D : List El7} {sg : Nat → Int32} {gm : Nat → Nat → Int32} (h : BN7 D sg gm D.length) {b : Nat} (hb : b < nbD D) : (gm 42 b).toNatClampNeg = elD D b := by
  unfold nbD at hb
  have e : elD D b = (bsN D D.length)[b] := by unfold elD; rw [List.getElem?_eq_getElem hb]; rfl
  have q := (h.2 b _ (List.getElem?_eq_getElem hb)).1
  rw [e]
  show (gm 42 b).toInt.toNat = _
  omega
theorem BN_rk {D : List El7} {sg : Nat → Int32} {gm : Nat → Nat → Int32} (h : BN7 D sg gm D.length) {y : Nat} (hy : y < D.length) (hk : dKd D y = 3) : (gm 43 y).toInt = ((bsN D y).length : Int) := (h.2 _ _ (bsN_i hy hk)).2
theorem BN_nI {D : List El7} {sg : Nat → Int32} {gm : Nat → Nat → Int32} (h : BN7 D sg gm D.length) (h80 : D.length ≤ 80) {y : Nat} (hy : y < D.length) (hk : dKd D y = 3) : gm 43 y = nI (bsN D y).length := by
  have := bsN_l (D := D) y
  exact Int32.toInt_inj.mp (by rw [BN_rk h hy hk, nI_toInt (by omega)])
theorem parR_r {D : List El7} (h80 : D.length ≤ 80) (b : Int32) : parR D b = -1 ∨ (0 ≤ (parR D b).toInt ∧ (parR D b).toNatClampNeg < nbD D) := by
  unfold parR widR
  split
  · exact Or.inl rfl
  · rcases fst_or (qR D (aW (dAt D (elD D b.toNatClampNeg)) 123563833388660)) (nbD D) 0 with v | ⟨i, v1, v2, _⟩
    · exact Or.inl v.1
    · rw [v2, Nat.zero_add]
      have := bsN_l (D := D) D.length
      have h9 : nbD D ≤ 80 := by unfold nbD; omega
      have h4 : (nI i).toInt = i := nI_toInt (by omega)
      exact Or.inr ⟨by omega, by show (nI i).toInt.toNat < _; omega⟩
theorem mPar_e {D : List El7} {sg : Nat → Int32} {gm : Nat → Nat → Int32} {lg : Nat → Nat → Int64} (hR : ∀ j, j < D.length → RL7 D gm lg j) (h : BN7 D sg gm D.length) {b : Int32} (hb : b.toNatClampNeg < nbD D) : mPar sg gm lg b = parR D b := by
  have e1 := BN_el h hb
  have k1 := (elD_k hb).1
  have e2 : (sg 41).toNatClampNeg = nbD D := by have := h.1; show (sg 41).toInt.toNat = (bsN D D.length).length; omega
  have e3 : ∀ w, mWid sg gm lg w = widR D w := by
    intro w
    unfold mWid widR
    rw [e2]
    refine fst_c _ _ (fun k _ hk => ?_)
    have hk : k < nbD D := by omega
    have e4 := BN_el h hk
    have k4 := (elD_k hk).1
    unfold qWid qR
    rw [e4, (hR _ k4).1]
    have e5 : gm 28 (elD D k) = 0 ↔ dAb D (elD D k) = 0 := by
      rw [← (hR _ k4).2.2.2.1]
      exact ⟨fun q => by rw [q]; rfl, fun q => Int32.toInt_inj.mp q⟩
    rw [decide_eq_decide.mpr e5]
  unfold mPar parR
  rw [e1, (hR _ k1).1, e3]
  by_cases hz : aH (dAt D (elD D b.toNatClampNeg)) 123563833388660 = 0
  · rw [if_pos hz, if_pos ((h_0 ((hR _ k1).2.2.1 123563833388660)).mpr hz)]
  · rw [if_neg hz, if_neg (fun q => hz ((h_0 ((hR _ k1).2.2.1 123563833388660)).mp q))]
theorem NR_e {D : List El7} {sg : Nat → Int32} {gm : Nat → Nat → Int32} {lg : Nat → Nat → Int64} (hR : ∀ j, j < D.length → RL7 D gm lg j) (h : BN7 D sg gm D.length) (h80 : D.length ≤ 80) {b : Int32} (h0 : 0 ≤ b.toInt) (hb : b.toNatClampNeg < nbD D) : NR (mPar sg gm lg) b ↔ NR (parR D) b := by
  have hI : ∀ n (b : Int32), 0 ≤ b.toInt ∧ b.toNatClampNeg < nbD D → itF (mPar sg gm lg) n b = itF (parR D) n b := itF_c (fun b hb => mPar_e hR h hb.2) (fun b _ => parR_r h80 b)
  unfold NR
  constructor
  · intro q k k1 k2 e; exact q k k1 k2 (by rw [hI k b ⟨h0, hb⟩]; exact e)
  · intro q k k1 k2 e; exact q k k1 k2 (by rw [← hI k b ⟨h0, hb⟩]; exact e)
/-- used before as a name -/
def UQ7 (D : List El7) (k : Nat) (w : Int64) : Prop := dAb D k = 0 ∧ ((dKd D k = 3 ∧ aW (dAt D k) 26980 = w) ∨ (dKd D k = 2 ∧ aW (dAt D k) 29807 = w))
/-- wrong by its parent -/
def PB7 (D : List El7) (e : Nat) : Prop := dKd D e = 3 ∧ aH (dAt D e) 123563833388660 = 1 ∧ (parR D (nI (bsN D e).length) = -1 ∨ ¬ NR (parR D) (nI (bsN D e).length))
theorem BR1_e {D : List El7} {e : Nat} : BR1 D e ↔ ¬ (dAb D e = 0 ∧ USD D e (wdD D e)) ∧ ¬ PB7 D e := by
  unfold BR1 PB7
  refine and_congr Iff.rfl ?_
  constructor
  · rintro h ⟨a, b, c⟩
    obtain ⟨h1, h2⟩ := h a b
    rcases c with c | c
    · exact h1 c
    · exact c h2
  · intro h a b
    exact ⟨fun c => h ⟨a, b, Or.inl c⟩, Classical.byContradiction (fun c => h ⟨a, b, Or.inr c⟩)⟩
theorem BB1_of {D : List El7} {sg : Nat → Int32} {gm : Nat → Nat → Int32} {lg : Nat → Nat → Int64} (hR : ∀ j, j < D.length → RL7 D gm lg j) (hK : KN7 D gm D.length) (h : BN7 D sg gm D.length) (h80 : D.length ≤ 80) {e : Nat} (he : e < D.length) (hb : BR1 D e) : BB1 sg gm lg e := by
  intro hk
  rw [hK e he] at hk
  rw [h_0 ((hR e he).2.2.1 123563833388660)]
  rcases aH_01 (q := dAt D e) (k := 123563833388660) with q | q
  · exact Or.inl q
  · refine Or.inr ?_
    have e1 := BN_nI h h80 he hk
    have e2 := elD_i he hk
    have := bsN_l (D := D) e
    have h4 : (nI (bsN D e).length).toInt = (bsN D e).length := nI_toInt (by omega)
    rw [e1]
    exact (NR_e hR h h80 (by omega) (by show (nI (bsN D e).length).toInt.toNat < _; omega)).mpr (hb.2 hk q).2

set_option maxHeartbeats 4000000 in
set_option maxRecDepth 100000 in
theorem f_isUsed2 (l : Launch) (dC : Nat → ClassId) (dI : Nat → Nat → Nat) (h0 : Nat) (ad : Nat → Nat) (cid : Nat → ClassId) (sg : Nat → Int32) (gm : Nat → Nat → Int32) (lg : Nat → Nat → Int64) (x : Int32) (nn : Int64) (D : List El7) (hI : MI sg gm) (hvx : iv 0 79 x) (hRL : ∀ j, j < D.length → RL7 D gm lg j) (hKN : KN7 D gm D.length) (hn : (sg 24).toInt = (D.length : Int)) (hxl : x.toInt < (sg 24).toInt) : MMi l dC dI yX13_isUsed wm_X13_isUsed ({ frames := 2, cells := 0, slots := 0, locals := 51 }) h0 ad cid [.int x, .long nn] sg gm lg (fun r v => (iv 0 1 r) ∧ ((r.toInt = 1 ∧ (USD D x.toNatClampNeg nn)) ∨ (r.toInt = 0 ∧ ¬ (USD D x.toNatClampNeg nn))) ∧ v = (sg, gm, lg)) := by
  intro sz
  refine Met.ofW (cc := cX13_isUsed) (maxL := 5) (ret := (some .boolean)) (by decide) rfl ?_
  intro p e s m args below meth c s₁ B hml hv
  obtain ⟨rfl, hsz, hP, hK, hD0⟩ := hv
  have hx := B.exec
  have hb := B.bytes
  have hr := B.returns
  have hts := atoms_spec (ws := wm_X13_isUsed) B.pre
  have htb := fun (w : Cond) (h : w ∈ tb) => hts w (List.mem_cons_of_mem _ h)
  have hown : s.vm.findClass RX13 = some m.cls := findClass_of_methodNamed B.named
  have hlocks := B.notSynchronized
  subst hsz
  have hD := hD0.self (sz := s.heap.size)
  generalize hAe : va_A (mW h0 ad cid sg gm lg) s.heap.size = A at hD ⊢
  have hA : ∀ q : Nat, s.heap.size ≤ q → A q := fun q h => by rw [← hAe]; exact Or.inr h
  have hS : va_S A s.heap s.heap [] := va_S.rf
  have hl := lv_entry ([.ref h0, .int x, .long nn]) (n := 5) (Nat.le_of_ble_eq_true rfl)
  rw [lg_entry_eq]
  generalize (lg_sl ([.ref h0, .int x, .long nn]) ++ List.replicate (5 - (lg_sl ([.ref h0, .int x, .long nn])).length) Slot.unset).toArray = ls at hl ⊢
  have hl : lv_has ls 5 [(0, .ref h0), (1, .int x), (2, .long nn)] := hl
  have hj69 : ∀ (x4_69 : Int32) (_ : iv 0 78 x4_69) (_ : iv 1 79 x) (_ : x4_69.toInt < x.toInt) (_ : UQ7 D x4_69.toNatClampNeg nn) (H : Heap) (locs : List Loc) (ls : Array Slot), va_P (dC, dI) vwCl (mW h0 ad cid sg gm lg) H → va_D A (mW h0 ad cid sg gm lg) → va_S A s.heap H locs → lv_has ls 5 [(4, .int x4_69), (0, .ref h0), (1, .int x), (2, .long nn)] → W p l e (headSpec wm_X13_isUsed ({ frames := 2, cells := 0, slots := 0, locals := 51 })).room s m ([.ref h0, .int x, .long nn] : List Value).toArray below meth c H locs 0 0 (MQ below (va_Qi (fun r v => (iv 0 1 r) ∧ ((r.toInt = 1 ∧ (USD D x.toNatClampNeg nn)) ∨ (r.toInt = 0 ∧ ¬ (USD D x.toNatClampNeg nn))) ∧ v = (sg, gm, lg)) (MB dC dI h0 ad cid A) A) ([.ref h0, .int x, .long nn] : List Value).toArray s 0 0 A) (F0 m 69 ls []) := by
    intro x4_69 hx4_69 hsx1_69 hl4 u69 H locs ls hP hD hS hl
    refine lv_iconst (v := 1) hx hb dX13_isUsed_69 (by decide) ?_
    exact W.zret (v := 1) hx hb hr (iv_nb (iv_w (iv_k (by decide) : iv 1 1 1) (by decide))) (fun t ht hW => ⟨⟨1, (sg, gm, lg), rfl, ⟨(iv_w (iv_k (by decide) : iv 1 1 1) (by decide)), (Or.inl ⟨rfl, x4_69.toNatClampNeg, (by have := hl4; have := iv_cl (show iv 0 80 x4_69 from (iv_w hx4_69 (by decide))) (by decide); have := iv_cl hvx (by decide); omega), u69⟩), rfl⟩, by rw [ht]; exact hP, va_K.moved hW.alike hK, hD⟩, hS.F ht⟩) hS.2.2 dX13_isUsed_70
  have hj3 : ∀ (n : Nat) (x4_3 : Int32) (_ : (80 - x4_3.toInt).toNat = n) (_ : iv 0 80 x4_3) (_ : iv 0 79 x) (_ : ∀ k, k < x4_3.toNatClampNeg → ¬ UQ7 D k nn) (H : Heap) (locs : List Loc) (ls : Array Slot), va_P (dC, dI) vwCl (mW h0 ad cid sg gm lg) H → va_D A (mW h0 ad cid sg gm lg) → va_S A s.heap H locs → lv_has ls 5 [(4, .int x4_3), (0, .ref h0), (1, .int x), (2, .long nn)] → W p l e (headSpec wm_X13_isUsed ({ frames := 2, cells := 0, slots := 0, locals := 51 })).room s m ([.ref h0, .int x, .long nn] : List Value).toArray below meth c H locs 0 0 (MQ below (va_Qi (fun r v => (iv 0 1 r) ∧ ((r.toInt = 1 ∧ (USD D x.toNatClampNeg nn)) ∨ (r.toInt = 0 ∧ ¬ (USD D x.toNatClampNeg nn))) ∧ v = (sg, gm, lg)) (MB dC dI h0 ad cid A) A) ([.ref h0, .int x, .long nn] : List Value).toArray s 0 0 A) (F0 m 3 ls []) := by
    intro n
    induction n using Nat.strongRecOn with
    | ind n ih3 =>
      intro x4_3 hn3 hx4_3 hsx1_3 hnu H locs ls hP hD hS hl
      have hj71 : ∀ (_ : iv 0 78 x4_3) (_ : iv 1 79 x) (_ : x4_3.toInt < x.toInt) (_ : ¬ UQ7 D x4_3.toNatClampNeg nn) (H : Heap) (locs : List Loc) (ls : Array Slot), va_P (dC, dI) vwCl (mW h0 ad cid sg gm lg) H → va_D A (mW h0 ad cid sg gm lg) → va_S A s.heap H locs → lv_has ls 5 [(4, .int x4_3), (0, .ref h0), (1, .int x), (2, .long nn)] → W p l e (headSpec wm_X13_isUsed ({ frames := 2, cells := 0, slots := 0, locals := 51 })).room s m ([.ref h0, .int x, .long nn] : List Value).toArray below meth c H locs 0 0 (MQ below (va_Qi (fun r v => (iv 0 1 r) ∧ ((r.toInt = 1 ∧ (USD D x.toNatClampNeg nn)) ∨ (r.toInt = 0 ∧ ¬ (USD D x.toNatClampNeg nn))) ∧ v = (sg, gm, lg)) (MB dC dI h0 ad cid A) A) ([.ref h0, .int x, .long nn] : List Value).toArray s 0 0 A) (F0 m 71 ls []) := by
        intro  hsx4_71 hsx1_71 hl4 u71 H locs ls hP hD hS hl
        obtain ⟨z_1, ez_1⟩ : ∃ z : Int32, z = x4_3 + 1 := ⟨_, rfl⟩
        have hz_1 : iv 1 79 z_1 := iv_of ez_1 (iv_add hsx4_71 (iv_k (by decide) : iv 1 1 1) (by decide))
        have tz_1 : z_1.toInt = x4_3.toInt + 1 := by rw [ez_1]; exact iv_addE hsx4_71 (iv_k (by decide) : iv 1 1 1) (by decide)
        refine lv_iinc (v := z_1) (lv' := [(4, .int z_1), (0, .ref h0), (1, .int x), (2, .long nn)]) hx hb dX13_isUsed_71 hl (k := 0) rfl ez_1.symm (by decide) rfl (fun ls hl => ?_)
        refine lv_goto (tgt := 3) hx hb dX13_isUsed_74 (by decide) ?_
        exact ih3 _ (by rw [← hn3]; exact (iv_meas tz_1 hsx4_71 (by decide))) z_1 rfl (iv_w hz_1 (by decide)) (iv_w hsx1_71 (by decide)) ((fun k hk => by rw [s_cl (show iv 0 79 x4_3 from (iv_w hsx4_71 (by decide))) (by decide) tz_1] at hk; by_cases hq : k = x4_3.toNatClampNeg; (rw [hq]; exact u71); exact hnu k (by omega))) _ _ _ hP hD hS (lv_sub hl [0, 1, 2, 3] rfl)
      have hj44 : ∀ (_ : iv 0 78 x4_3) (_ : iv 1 79 x) (_ : x4_3.toInt < x.toInt) (_ : dAb D x4_3.toNatClampNeg = 0) (_ : ¬ (dKd D x4_3.toNatClampNeg = 3 ∧ aW (dAt D x4_3.toNatClampNeg) 26980 = nn)) (_ : RL7 D gm lg x4_3.toNatClampNeg) (_ : (gm 26 x4_3.toNatClampNeg).toInt = dKd D x4_3.toNatClampNeg) (H : Heap) (locs : List Loc) (ls : Array Slot), va_P (dC, dI) vwCl (mW h0 ad cid sg gm lg) H → va_D A (mW h0 ad cid sg gm lg) → va_S A s.heap H locs → lv_has ls 5 [(4, .int x4_3), (0, .ref h0), (1, .int x), (2, .long nn)] → W p l e (headSpec wm_X13_isUsed ({ frames := 2, cells := 0, slots := 0, locals := 51 })).room s m ([.ref h0, .int x, .long nn] : List Value).toArray below meth c H locs 0 0 (MQ below (va_Qi (fun r v => (iv 0 1 r) ∧ ((r.toInt = 1 ∧ (USD D x.toNatClampNeg nn)) ∨ (r.toInt = 0 ∧ ¬ (USD D x.toNatClampNeg nn))) ∧ v = (sg, gm, lg)) (MB dC dI h0 ad cid A) A) ([.ref h0, .int x, .long nn] : List Value).toArray s 0 0 A) (F0 m 44 ls []) := by
        intro  hsx4_44 hsx1_44 hl4 ha0 u44 hRj hKj H locs ls hP hD hS hl
        refine lv_aload_n hx hb dX13_isUsed_44 rfl (lv_at hl 1 rfl) ?_
        refine mr_get (v := .ref (ad 26)) hx hb htb inX13 hown hK hP 26 (by decide) (htb _ kw_1053) rfl dX13_isUsed_45 ?_
        refine lv_iload hx hb dX13_isUsed_48 (lv_at hl 0 rfl) ?_
        refine mr_iald hx hb hK hP 19 (k := 26) rfl rfl rfl (show vp_in x4_3 80 from (iv_in hsx4_44 (by decide))) dX13_isUsed_50 ?_
        refine lv_topi (fun z_2 ez_2 => ?_)
        have hz_2 : iv 0 10 z_2 := iv_of ez_2 (MI_a hI 26 hsx4_44 (by decide))
        refine lv_iconst (v := 2) hx hb dX13_isUsed_51 (by decide) ?_
        refine lv_icmp_ne (tgt := 71) hx hb dX13_isUsed_52 (by decide) (fun c_3 => ?_) (fun c_3 => ?_)
        · have d_4 : ¬ (z_2 : Int32).toInt = 2 := lv_neT c_3 rfl
          exact hj71 hsx4_44 hsx1_44 (by have := i32_0; have := i32_1; have := i32_2; have := i32_m1; have := (hsx1_44).1; have := (hsx1_44).2; have := (hsx4_44).1; have := (hsx4_44).2; have := (hz_2).1; have := (hz_2).2; omega) ((fun w => w.2.elim u44 (fun q => absurd q.1 (by have := congrArg Int32.toInt ez_2; have := hRj.2.2.2.1; have := hKj; have := i32_0; have := i32_1; have := i32_2; have := i32_m1; have := (hsx1_44).1; have := (hsx1_44).2; have := (hsx4_44).1; have := (hsx4_44).2; have := (hz_2).1; have := (hz_2).2; omega)))) _ _ _ hP hD hS (lv_sub hl [0, 1, 2, 3] rfl)
        · have h_5 : iv 2 2 z_2 := iv_eq c_3 hz_2 (iv_k (by decide) : iv 2 2 2) (by decide)
          refine lv_aload_n hx hb dX13_isUsed_55 rfl (lv_at hl 1 rfl) ?_
          refine lv_iload hx hb dX13_isUsed_56 (lv_at hl 0 rfl) ?_
          refine lv_ldc2 (own := RX13) (v := 29807) hx hb hown (htb _ kw_1179) dX13_isUsed_58 ?_
          refine mr_calll (rest := []) ⟨hx, hb, hml, hown, htb⟩ (f_word l dC dI h0 ad cid sg gm lg x4_3 29807 hI (iv_w hsx4_44 (by decide))) (cwV 2 htb (gd_V kw_1201 kw_1202 kw_96 kw_160 kw_1603) rfl rfl rfl (by decide +kernel) ⟨Nat.le_of_ble_eq_true rfl, Nat.le_of_ble_eq_true rfl⟩) rfl hl.1 rfl (Nat.le_of_ble_eq_true rfl) dX13_isUsed_61 ⟨Nat.zero_le _, Nat.zero_le _⟩ hK hP hD hS hA (fun r_6 u_7 H locs hw hP hD hS => ?_)
          obtain ⟨fW_r_6, rfl⟩ := hw
          have hP : va_P (dC, dI) vwCl (mW h0 ad cid sg gm lg) H := hP
          have hD : va_D A (mW h0 ad cid sg gm lg) := hD
          refine lv_lload_n hx hb dX13_isUsed_64 rfl (lv_at hl 3 rfl) ?_
          refine W.lcmp hx hb dX13_isUsed_65 ?_
          refine lv_topi (fun z_8 ez_8 => ?_)
          have hz_8 : iv (-1) 1 z_8 := iv_of ez_8 (iv_cmp _ _)
          have hl_z_8 := lg_tr7 ez_8
          refine lv_if_ne (tgt := 71) hx hb dX13_isUsed_66 (by decide) (fun c_9 => ?_) (fun c_9 => ?_)
          · have d_10 : ¬ (z_8 : Int32).toInt = 0 := lv_neT c_9 rfl
            exact hj71 hsx4_44 hsx1_44 (by have := i32_0; have := i32_1; have := i32_2; have := i32_m1; have := (hsx1_44).1; have := (hsx1_44).2; have := (hsx4_44).1; have := (hsx4_44).2; have := (h_5).1; have := (h_5).2; have := (hz_8).1; have := (hz_8).2; omega) ((fun w => w.2.elim u44 (fun q => (fun q9 => c_9 (by rw [ez_8, fW_r_6, hRj.1, q9]; exact (lg_cmp_eq _ _).mpr rfl)) q.2))) _ _ _ hP hD hS (lv_sub hl [0, 1, 2, 3] rfl)
          · have h_11 : iv 0 0 z_8 := iv_eq c_9 hz_8 (iv_k (by decide) : iv 0 0 0) (by decide)
            exact hj69 x4_3 hsx4_44 hsx1_44 (by have := i32_0; have := i32_1; have := i32_2; have := i32_m1; have := (hsx1_44).1; have := (hsx1_44).2; have := (hsx4_44).1; have := (hsx4_44).2; have := (h_5).1; have := (h_5).2; have := (h_11).1; have := (h_11).2; omega) (⟨ha0, Or.inr ⟨(by have := congrArg Int32.toInt ez_2; have := hRj.2.2.2.1; have := hKj; have := i32_0; have := i32_1; have := i32_2; have := i32_m1; have := (hsx1_44).1; have := (hsx1_44).2; have := (hsx4_44).1; have := (hsx4_44).2; have := (h_5).1; have := (h_5).2; have := (h_11).1; have := (h_11).2; omega), (by rw [← hRj.1, ← fW_r_6]; exact (lg_cmp_eq _ _).mp (by rw [← ez_8]; exact c_9))⟩⟩) _ _ _ hP hD hS (lv_sub hl [0, 1, 2, 3] rfl)
      refine lv_iload hx hb dX13_isUsed_3 (lv_at hl 0 rfl) ?_
      refine lv_iload_n hx hb dX13_isUsed_5 rfl (lv_at hl 2 rfl) ?_
      refine lv_icmp_ge (tgt := 77) hx hb dX13_isUsed_6 (by decide) (fun c_12 => ?_) (fun c_12 => ?_)
      · have d_13 : (x : Int32).toInt ≤ (x4_3 : Int32).toInt := Int32.le_iff_toInt_le.mp c_12
        refine lv_iconst (v := 0) hx hb dX13_isUsed_77 (by decide) ?_
        exact W.zret (v := 0) hx hb hr (iv_nb (iv_w (iv_k (by decide) : iv 0 0 0) (by decide))) (fun t ht hW => ⟨⟨0, (sg, gm, lg), rfl, ⟨(iv_w (iv_k (by decide) : iv 0 0 0) (by decide)), (Or.inr ⟨rfl, fun h => by obtain ⟨k, k1, k2⟩ := h; exact hnu k (by have := iv_cl hx4_3 (by decide); have := iv_cl hvx (by decide); have := i32_0; have := i32_1; have := i32_2; have := i32_m1; have := (hsx1_3).1; have := (hsx1_3).2; have := (hx4_3).1; have := (hx4_3).2; omega) k2⟩), rfl⟩, by rw [ht]; exact hP, va_K.moved hW.alike hK, hD⟩, hS.F ht⟩) hS.2.2 dX13_isUsed_78
      · have d_14 : (x4_3 : Int32).toInt < (x : Int32).toInt := Int32.lt_iff_toInt_lt.mp (i32_lt c_12)
        have h_15 : iv 0 78 x4_3 := iv_ltL (i32_lt c_12) hx4_3 hsx1_3 (by decide)
        have h_16 : iv 1 79 x := iv_ltR (i32_lt c_12) hx4_3 hsx1_3 (by decide)
        have hlD : x4_3.toNatClampNeg < D.length := by have := hxl; have := hn; have := iv_cl (show iv 0 79 x4_3 from (iv_w h_15 (by decide))) (by decide); have := i32_0; have := i32_1; have := i32_2; have := i32_m1; have := (show iv 0 80 (sg 24) from MI_s hI 24).1; have := (show iv 0 80 (sg 24) from MI_s hI 24).2; have := (h_16).1; have := (h_16).2; have := (h_15).1; have := (h_15).2; omega
        have hRj := hRL _ hlD
        have hKj := hKN _ hlD
        refine lv_aload_n hx hb dX13_isUsed_9 rfl (lv_at hl 1 rfl) ?_
        refine mr_get (v := .ref (ad 28)) hx hb htb inX13 hown hK hP 28 (by decide) (htb _ kw_1055) rfl dX13_isUsed_10 ?_
        refine lv_iload hx hb dX13_isUsed_13 (lv_at hl 0 rfl) ?_
        refine mr_iald hx hb hK hP 21 (k := 28) rfl rfl rfl (show vp_in x4_3 80 from (iv_in h_15 (by decide))) dX13_isUsed_15 ?_
        refine lv_topi (fun z_17 ez_17 => ?_)
        have hz_17 : iv (-1) 79 z_17 := iv_of ez_17 (MI_a hI 28 h_15 (by decide))
        refine lv_if_ne (tgt := 71) hx hb dX13_isUsed_16 (by decide) (fun c_18 => ?_) (fun c_18 => ?_)
        · have d_19 : ¬ (z_17 : Int32).toInt = 0 := lv_neT c_18 rfl
          exact hj71 h_15 h_16 (by have := i32_0; have := i32_1; have := i32_2; have := i32_m1; have := (h_16).1; have := (h_16).2; have := (h_15).1; have := (h_15).2; have := (hz_17).1; have := (hz_17).2; omega) ((fun w => absurd w.1 (by have := congrArg Int32.toInt ez_17; have := hRj.2.2.2.1; have := hKj; have := i32_0; have := i32_1; have := i32_2; have := i32_m1; have := (h_16).1; have := (h_16).2; have := (h_15).1; have := (h_15).2; have := (hz_17).1; have := (hz_17).2; omega))) _ _ _ hP hD hS (lv_sub hl [0, 1, 2, 3] rfl)
        · have h_20 : iv 0 0 z_17 := iv_eq c_18 hz_17 (iv_k (by decide) : iv 0 0 0) (by decide)
          refine lv_aload_n hx hb dX13_isUsed_19 rfl (lv_at hl 1 rfl) ?_
          refine mr_get (v := .ref (ad 26)) hx hb htb inX13 hown hK hP 26 (by decide) (htb _ kw_1053) rfl dX13_isUsed_20 ?_
          refine lv_iload hx hb dX13_isUsed_23 (lv_at hl 0 rfl) ?_
          refine mr_iald hx hb hK hP 19 (k := 26) rfl rfl rfl (show vp_in x4_3 80 from (iv_in h_15 (by decide))) dX13_isUsed_25 ?_
          refine lv_topi (fun z_21 ez_21 => ?_)
          have hz_21 : iv 0 10 z_21 := iv_of ez_21 (MI_a hI 26 h_15 (by decide))
          refine lv_iconst (v := 3) hx hb dX13_isUsed_26 (by decide) ?_
          refine lv_icmp_ne (tgt := 44) hx hb dX13_isUsed_27 (by decide) (fun c_22 => ?_) (fun c_22 => ?_)
          · have d_23 : ¬ (z_21 : Int32).toInt = 3 := lv_neT c_22 rfl
            exact hj44 h_15 h_16 (by have := i32_0; have := i32_1; have := i32_2; have := i32_m1; have := (h_16).1; have := (h_16).2; have := (h_15).1; have := (h_15).2; have := (h_20).1; have := (h_20).2; have := (hz_21).1; have := (hz_21).2; omega) ((by have := congrArg Int32.toInt ez_17; have := congrArg Int32.toInt ez_21; have := hRj.2.2.2.1; have := hKj; have := i32_0; have := i32_1; have := i32_2; have := i32_m1; have := (h_16).1; have := (h_16).2; have := (h_15).1; have := (h_15).2; have := (h_20).1; have := (h_20).2; have := (hz_21).1; have := (hz_21).2; omega)) ((fun w => absurd w.1 (by have := congrArg Int32.toInt ez_17; have := congrArg Int32.toInt ez_21; have := hRj.2.2.2.1; have := hKj; have := i32_0; have := i32_1; have := i32_2; have := i32_m1; have := (h_16).1; have := (h_16).2; have := (h_15).1; have := (h_15).2; have := (h_20).1; have := (h_20).2; have := (hz_21).1; have := (hz_21).2; omega))) (hRj) (hKj) _ _ _ hP hD hS (lv_sub hl [0, 1, 2, 3] rfl)
          · have h_24 : iv 3 3 z_21 := iv_eq c_22 hz_21 (iv_k (by decide) : iv 3 3 3) (by decide)
            refine lv_aload_n hx hb dX13_isUsed_30 rfl (lv_at hl 1 rfl) ?_
            refine lv_iload hx hb dX13_isUsed_31 (lv_at hl 0 rfl) ?_
            refine lv_ldc2 (own := RX13) (v := 26980) hx hb hown (htb _ kw_1180) dX13_isUsed_33 ?_
            refine mr_calll (rest := []) ⟨hx, hb, hml, hown, htb⟩ (f_word l dC dI h0 ad cid sg gm lg x4_3 26980 hI (iv_w h_15 (by decide))) (cwV 2 htb (gd_V kw_1201 kw_1202 kw_96 kw_160 kw_1603) rfl rfl rfl (by decide +kernel) ⟨Nat.le_of_ble_eq_true rfl, Nat.le_of_ble_eq_true rfl⟩) rfl hl.1 rfl (Nat.le_of_ble_eq_true rfl) dX13_isUsed_36 ⟨Nat.zero_le _, Nat.zero_le _⟩ hK hP hD hS hA (fun r_25 u_26 H locs hw hP hD hS => ?_)
            obtain ⟨fW_r_25, rfl⟩ := hw
            have hP : va_P (dC, dI) vwCl (mW h0 ad cid sg gm lg) H := hP
            have hD : va_D A (mW h0 ad cid sg gm lg) := hD
            refine lv_lload_n hx hb dX13_isUsed_39 rfl (lv_at hl 3 rfl) ?_
            refine W.lcmp hx hb dX13_isUsed_40 ?_
            refine lv_topi (fun z_27 ez_27 => ?_)
            have hz_27 : iv (-1) 1 z_27 := iv_of ez_27 (iv_cmp _ _)
            have hl_z_27 := lg_tr7 ez_27
            refine lv_if_eq (tgt := 69) hx hb dX13_isUsed_41 (by decide) (fun c_28 => ?_) (fun c_28 => ?_)
            · have h_29 : iv 0 0 z_27 := iv_eq c_28 hz_27 (iv_k (by decide) : iv 0 0 0) (by decide)
              exact hj69 x4_3 h_15 h_16 (by have := i32_0; have := i32_1; have := i32_2; have := i32_m1; have := (h_16).1; have := (h_16).2; have := (h_15).1; have := (h_15).2; have := (h_20).1; have := (h_20).2; have := (h_24).1; have := (h_24).2; have := (h_29).1; have := (h_29).2; omega) (⟨(by have := congrArg Int32.toInt ez_17; have := congrArg Int32.toInt ez_21; have := hRj.2.2.2.1; have := hKj; have := i32_0; have := i32_1; have := i32_2; have := i32_m1; have := (h_16).1; have := (h_16).2; have := (h_15).1; have := (h_15).2; have := (h_20).1; have := (h_20).2; have := (h_24).1; have := (h_24).2; have := (h_29).1; have := (h_29).2; omega), Or.inl ⟨(by have := congrArg Int32.toInt ez_17; have := congrArg Int32.toInt ez_21; have := hRj.2.2.2.1; have := hKj; have := i32_0; have := i32_1; have := i32_2; have := i32_m1; have := (h_16).1; have := (h_16).2; have := (h_15).1; have := (h_15).2; have := (h_20).1; have := (h_20).2; have := (h_24).1; have := (h_24).2; have := (h_29).1; have := (h_29).2; omega), (by rw [← hRj.1, ← fW_r_25]; exact (lg_cmp_eq _ _).mp (by rw [← ez_27]; exact c_28))⟩⟩) _ _ _ hP hD hS (lv_sub hl [0, 1, 2, 3] rfl)
            · have d_30 : ¬ (z_27 : Int32).toInt = 0 := lv_neT c_28 rfl
              exact hj44 h_15 h_16 (by have := i32_0; have := i32_1; have := i32_2; have := i32_m1; have := (h_16).1; have := (h_16).2; have := (h_15).1; have := (h_15).2; have := (h_20).1; have := (h_20).2; have := (h_24).1; have := (h_24).2; have := (hz_27).1; have := (hz_27).2; omega) ((by have := congrArg Int32.toInt ez_17; have := congrArg Int32.toInt ez_21; have := hRj.2.2.2.1; have := hKj; have := i32_0; have := i32_1; have := i32_2; have := i32_m1; have := (h_16).1; have := (h_16).2; have := (h_15).1; have := (h_15).2; have := (h_20).1; have := (h_20).2; have := (h_24).1; have := (h_24).2; have := (hz_27).1; have := (hz_27).2; omega)) ((fun w => (fun q9 => c_28 (by rw [ez_27, fW_r_25, hRj.1, q9]; exact (lg_cmp_eq _ _).mpr rfl)) w.2)) (hRj) (hKj) _ _ _ hP hD hS (lv_sub hl [0, 1, 2, 3] rfl)
  refine lv_iconst (v := 0) hx hb dX13_isUsed_0 (by decide) ?_
  refine lv_istore (lv' := [(4, .int 0), (0, .ref h0), (1, .int x), (2, .long nn)]) hx hb dX13_isUsed_1 hl (by decide) rfl (fun ls hl => ?_)
  exact hj3 _ 0 rfl (iv_w (iv_k (by decide) : iv 0 0 0) (by decide)) hvx ((fun k hk => absurd hk (Nat.not_lt_zero _))) _ _ _ hP hD hS (lv_sub hl [0, 1, 2, 3] rfl)

set_option maxHeartbeats 4000000 in
set_option maxRecDepth 100000 in
theorem f_comesToItself2 (l : Launch) (dC : Nat → ClassId) (dI : Nat → Nat → Nat) (h0 : Nat) (ad : Nat → Nat) (cid : Nat → ClassId) (sg : Nat → Int32) (gm : Nat → Nat → Int32) (lg : Nat → Nat → Int64) (b : Int32) (hI : MI sg gm) (hvb : iv 0 79 b) : MMi l dC dI yX13_comesToItself wm_X13_comesToItself ({ frames := 4, cells := 0, slots := 0, locals := 95 }) h0 ad cid [.int b] sg gm lg (fun r v => (iv 0 1 r) ∧ ((r.toInt = 1 ∧ ¬ NR (mPar sg gm lg) b) ∨ (r.toInt = 0 ∧ NR (mPar sg gm lg) b)) ∧ v = (sg, gm, lg)) := by
  intro sz
  refine Met.ofW (cc := cX13_comesToItself) (maxL := 4) (ret := (some .boolean)) (by decide) rfl ?_
  intro p e s m args below meth c s₁ B hml hv
  obtain ⟨rfl, hsz, hP, hK, hD0⟩ := hv
  have hx := B.exec
  have hb := B.bytes
  have hr := B.returns
  have hts := atoms_spec (ws := wm_X13_comesToItself) B.pre
  have htb := fun (w : Cond) (h : w ∈ tb) => hts w (List.mem_cons_of_mem _ h)
  have hown : s.vm.findClass RX13 = some m.cls := findClass_of_methodNamed B.named
  have hlocks := B.notSynchronized
  subst hsz
  have hD := hD0.self (sz := s.heap.size)
  generalize hAe : va_A (mW h0 ad cid sg gm lg) s.heap.size = A at hD ⊢
  have hA : ∀ q : Nat, s.heap.size ≤ q → A q := fun q h => by rw [← hAe]; exact Or.inr h
  have hS : va_S A s.heap s.heap [] := va_S.rf
  have hl := lv_entry ([.ref h0, .int b]) (n := 4) (Nat.le_of_ble_eq_true rfl)
  rw [lg_entry_eq]
  generalize (lg_sl ([.ref h0, .int b]) ++ List.replicate (4 - (lg_sl ([.ref h0, .int b])).length) Slot.unset).toArray = ls at hl ⊢
  have hl : lv_has ls 4 [(0, .ref h0), (1, .int b)] := hl
  have hj38 : ∀ (x3_38 : Int32) (x2_38 : Int32) (_ : iv 0 80 x3_38) (_ : iv (-1) 79 x2_38) (_ : iv 0 79 b) (_ : NR (mPar sg gm lg) b) (H : Heap) (locs : List Loc) (ls : Array Slot), va_P (dC, dI) vwCl (mW h0 ad cid sg gm lg) H → va_D A (mW h0 ad cid sg gm lg) → va_S A s.heap H locs → lv_has ls 4 [(3, .int x3_38), (2, .int x2_38), (0, .ref h0), (1, .int b)] → W p l e (headSpec wm_X13_comesToItself ({ frames := 4, cells := 0, slots := 0, locals := 95 })).room s m ([.ref h0, .int b] : List Value).toArray below meth c H locs 0 0 (MQ below (va_Qi (fun r v => (iv 0 1 r) ∧ ((r.toInt = 1 ∧ ¬ NR (mPar sg gm lg) b) ∨ (r.toInt = 0 ∧ NR (mPar sg gm lg) b)) ∧ v = (sg, gm, lg)) (MB dC dI h0 ad cid A) A) ([.ref h0, .int b] : List Value).toArray s 0 0 A) (F0 m 38 ls []) := by
    intro x3_38 x2_38 hx3_38 hx2_38 hsx1_38 hNR H locs ls hP hD hS hl
    refine lv_iconst (v := 0) hx hb dX13_comesToItself_38 (by decide) ?_
    exact W.zret (v := 0) hx hb hr (iv_nb (iv_w (iv_k (by decide) : iv 0 0 0) (by decide))) (fun t ht hW => ⟨⟨0, (sg, gm, lg), rfl, ⟨(iv_w (iv_k (by decide) : iv 0 0 0) (by decide)), (Or.inr ⟨rfl, hNR⟩), rfl⟩, by rw [ht]; exact hP, va_K.moved hW.alike hK, hD⟩, hS.F ht⟩) hS.2.2 dX13_comesToItself_39
  have hj8 : ∀ (n : Nat) (x3_8 : Int32) (x2_8 : Int32) (_ : (80 - x3_8.toInt).toNat = n) (_ : iv 0 80 x3_8) (_ : iv (-1) 79 x2_8) (_ : iv 0 79 b) (_ : x2_8 = itF (mPar sg gm lg) (x3_8.toNatClampNeg + 1) b) (_ : ∀ k9, 1 ≤ k9 → k9 ≤ x3_8.toNatClampNeg → ¬ itF (mPar sg gm lg) k9 b = b) (H : Heap) (locs : List Loc) (ls : Array Slot), va_P (dC, dI) vwCl (mW h0 ad cid sg gm lg) H → va_D A (mW h0 ad cid sg gm lg) → va_S A s.heap H locs → lv_has ls 4 [(3, .int x3_8), (2, .int x2_8), (0, .ref h0), (1, .int b)] → W p l e (headSpec wm_X13_comesToItself ({ frames := 4, cells := 0, slots := 0, locals := 95 })).room s m ([.ref h0, .int b] : List Value).toArray below meth c H locs 0 0 (MQ below (va_Qi (fun r v => (iv 0 1 r) ∧ ((r.toInt = 1 ∧ ¬ NR (mPar sg gm lg) b) ∨ (r.toInt = 0 ∧ NR (mPar sg gm lg) b)) ∧ v = (sg, gm, lg)) (MB dC dI h0 ad cid A) A) ([.ref h0, .int b] : List Value).toArray s 0 0 A) (F0 m 8 ls []) := by
    intro n
    induction n using Nat.strongRecOn with
    | ind n ih8 =>
      intro x3_8 x2_8 hn8 hx3_8 hx2_8 hsx1_8 hit hne H locs ls hP hD hS hl
      refine lv_iload_n hx hb dX13_comesToItself_8 rfl (lv_at hl 0 rfl) ?_
      refine lv_bipush (v := 80) hx hb dX13_comesToItself_9 (by decide) ?_
      refine lv_icmp_ge (tgt := 38) hx hb dX13_comesToItself_11 (by decide) (fun c_1 => ?_) (fun c_1 => ?_)
      · have h_2 : iv 80 80 x3_8 := iv_leR c_1 (iv_k (by decide) : iv 80 80 80) hx3_8 (by decide)
        exact hj38 x3_8 x2_8 (iv_w h_2 (by decide)) hx2_8 hsx1_8 (NR_80 h_2 hne) _ _ _ hP hD hS (lv_sub hl [0, 1, 2, 3] rfl)
      · have h_3 : iv 0 79 x3_8 := iv_ltL (i32_lt c_1) hx3_8 (iv_k (by decide) : iv 80 80 80) (by decide)
        refine lv_iload_n hx hb dX13_comesToItself_14 rfl (lv_at hl 1 rfl) ?_
        refine lv_iconst (v := (-1)) hx hb dX13_comesToItself_15 (by decide) ?_
        refine lv_icmp_eq (tgt := 38) hx hb dX13_comesToItself_16 (by decide) (fun c_4 => ?_) (fun c_4 => ?_)
        · have h_5 : iv (-1) (-1) x2_8 := iv_eq c_4 hx2_8 (iv_k (by decide) : iv (-1) (-1) (-1)) (by decide)
          exact hj38 x3_8 x2_8 (iv_w h_3 (by decide)) (iv_w h_5 (by decide)) hsx1_8 (NR_no hvb.1 (hit.symm.trans c_4) hne) _ _ _ hP hD hS (lv_sub hl [0, 1, 2, 3] rfl)
        · have h_6 : iv 0 79 x2_8 := iv_neL c_4 hx2_8 (by decide)
          refine lv_iload_n hx hb dX13_comesToItself_19 rfl (lv_at hl 1 rfl) ?_
          refine lv_iload_n hx hb dX13_comesToItself_20 rfl (lv_at hl 3 rfl) ?_
          refine lv_icmp_ne (tgt := 26) hx hb dX13_comesToItself_21 (by decide) (fun c_7 => ?_) (fun c_7 => ?_)
          · refine lv_aload_n hx hb dX13_comesToItself_26 rfl (lv_at hl 2 rfl) ?_
            refine lv_iload_n hx hb dX13_comesToItself_27 rfl (lv_at hl 1 rfl) ?_
            refine mr_calli (rest := []) ⟨hx, hb, hml, hown, htb⟩ (f_parentOf l dC dI h0 ad cid sg gm lg x2_8 hI h_6) (cwV 1 htb (gd_V kw_1223 kw_1224 kw_103 kw_160 kw_1611) rfl rfl rfl (by decide +kernel) ⟨Nat.le_of_ble_eq_true rfl, Nat.le_of_ble_eq_true rfl⟩) rfl hl.1 rfl (Nat.le_of_ble_eq_true rfl) dX13_comesToItself_28 ⟨Nat.zero_le _, Nat.zero_le _⟩ hK hP hD hS hA (fun r_8 u_9 H locs hw hP hD hS => ?_)
            obtain ⟨hr_8, fP_r_8, rfl⟩ := hw
            have hP : va_P (dC, dI) vwCl (mW h0 ad cid sg gm lg) H := hP
            have hD : va_D A (mW h0 ad cid sg gm lg) := hD
            refine lv_istore_n (lv' := [(2, .int r_8), (3, .int x3_8), (0, .ref h0), (1, .int b)]) hx hb dX13_comesToItself_31 rfl hl (by decide) rfl (fun ls hl => ?_)
            obtain ⟨z_10, ez_10⟩ : ∃ z : Int32, z = x3_8 + 1 := ⟨_, rfl⟩
            have hz_10 : iv 1 80 z_10 := iv_of ez_10 (iv_add h_3 (iv_k (by decide) : iv 1 1 1) (by decide))
            have tz_10 : z_10.toInt = x3_8.toInt + 1 := by rw [ez_10]; exact iv_addE h_3 (iv_k (by decide) : iv 1 1 1) (by decide)
            refine lv_iinc (v := z_10) (lv' := [(3, .int z_10), (2, .int r_8), (0, .ref h0), (1, .int b)]) hx hb dX13_comesToItself_32 hl (k := 1) rfl ez_10.symm (by decide) rfl (fun ls hl => ?_)
            refine lv_goto (tgt := 8) hx hb dX13_comesToItself_35 (by decide) ?_
            exact ih8 _ (by rw [← hn8]; exact (iv_meas tz_10 h_3 (by decide))) z_10 r_8 rfl (iv_w hz_10 (by decide)) hr_8 hsx1_8 (by rw [s_cl h_3 (by decide) tz_10]; exact itF_s hit c_4 fP_r_8) (by rw [s_cl h_3 (by decide) tz_10]; exact NR_s hit c_7 hne) _ _ _ hP hD hS (lv_sub hl [0, 1, 2, 3] rfl)
          · have d_11 : (x2_8 : Int32).toInt = (b : Int32).toInt := congrArg Int32.toInt c_7
            refine lv_iconst (v := 1) hx hb dX13_comesToItself_24 (by decide) ?_
            exact W.zret (v := 1) hx hb hr (iv_nb (iv_w (iv_k (by decide) : iv 1 1 1) (by decide))) (fun t ht hW => ⟨⟨1, (sg, gm, lg), rfl, ⟨(iv_w (iv_k (by decide) : iv 1 1 1) (by decide)), (Or.inl ⟨rfl, fun h => h (x3_8.toNatClampNeg + 1) (by omega) (by have := iv_cl h_3 (by decide); have := i32_0; have := i32_1; have := i32_2; have := i32_m1; have := (hsx1_8).1; have := (hsx1_8).2; have := (h_3).1; have := (h_3).2; have := (h_6).1; have := (h_6).2; omega) (hit.symm.trans c_7)⟩), rfl⟩, by rw [ht]; exact hP, va_K.moved hW.alike hK, hD⟩, hS.F ht⟩) hS.2.2 dX13_comesToItself_25
  refine lv_aload_n hx hb dX13_comesToItself_0 rfl (lv_at hl 0 rfl) ?_
  refine lv_iload_n hx hb dX13_comesToItself_1 rfl (lv_at hl 1 rfl) ?_
  refine mr_calli (rest := []) ⟨hx, hb, hml, hown, htb⟩ (f_parentOf l dC dI h0 ad cid sg gm lg b hI hvb) (cwV 1 htb (gd_V kw_1223 kw_1224 kw_103 kw_160 kw_1611) rfl rfl rfl (by decide +kernel) ⟨Nat.le_of_ble_eq_true rfl, Nat.le_of_ble_eq_true rfl⟩) rfl hl.1 rfl (Nat.le_of_ble_eq_true rfl) dX13_comesToItself_2 ⟨Nat.zero_le _, Nat.zero_le _⟩ hK hP hD hS hA (fun r_12 u_13 H locs hw hP hD hS => ?_)
  obtain ⟨hr_12, fP_r_12, rfl⟩ := hw
  have hP : va_P (dC, dI) vwCl (mW h0 ad cid sg gm lg) H := hP
  have hD : va_D A (mW h0 ad cid sg gm lg) := hD
  refine lv_istore_n (lv' := [(2, .int r_12), (0, .ref h0), (1, .int b)]) hx hb dX13_comesToItself_5 rfl hl (by decide) rfl (fun ls hl => ?_)
  refine lv_iconst (v := 0) hx hb dX13_comesToItself_6 (by decide) ?_
  refine lv_istore_n (lv' := [(3, .int 0), (2, .int r_12), (0, .ref h0), (1, .int b)]) hx hb dX13_comesToItself_7 rfl hl (by decide) rfl (fun ls hl => ?_)
  exact hj8 _ 0 r_12 rfl (iv_w (iv_k (by decide) : iv 0 0 0) (by decide)) hr_12 hvb (by show _ = itF _ 1 _; rw [itF_1 (fun q9 => absurd hvb.1 (by rw [q9]; decide))]; exact fP_r_12) (fun k9 h8 h9 => by have : (0 : Int32).toNatClampNeg = 0 := rfl; omega) _ _ _ hP hD hS (lv_sub hl [0, 1, 2, 3] rfl)
end
