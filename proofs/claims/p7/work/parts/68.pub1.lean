theorem dJx4a65c_size_8abf5_0 : decode cJx4a65c_size_8abf5 0 = .ok (.aload_n 0, 1) := by decide +kernel
theorem dJx4a65c_size_8abf5_1 : decode cJx4a65c_size_8abf5 1 = .ok (.getfield 48, 3) := by decide +kernel
theorem dJx4a65c_size_8abf5_4 : decode cJx4a65c_size_8abf5 4 = .ok (.ireturn, 1) := by decide +kernel

/-- every bean has its element -/
def BEL9 (sg : Nat → Int32) (gm : Nat → Nat → Int32) : Prop := ∀ b, b < (sg 12).toNatClampNeg → 0 ≤ (gm 29 b).toInt

set_option maxHeartbeats 4000000 in
set_option maxRecDepth 100000 in
theorem d_isClass2 (l : Launch) (dC : Nat → ClassId) (dI : Nat → Nat → Nat) (ad : Nat → Nat → Nat) (cid : Nat → ClassId) (a2 : Nat → Nat) (lx : List Nat) (sg : Nat → Int32) (gm : Nat → Nat → Int32) (lg : Nat → Nat → Int64) (a : Int32) (hI : CI sg gm) : CMt dC dI ad cid a2 lx l yX12_isClass wm_X12_isClass ({ frames := 0, cells := 1, slots := 6, locals := 0 }) [.int a] sg gm lg (fun v u => ∃ r : Int32, v = some (.int r) ∧ u = (sg, gm, lg) ∧ (iv 0 1 r) ∧ (r.toInt = 0 ∧ (a.toInt < 0 ∨ 7 < a.toInt) ∨ r.toInt = 1 ∧ 0 ≤ a.toInt ∧ a.toInt ≤ 7)) (fun _ _ => False) := by
  intro sz
  refine vx_ofW (cc := cX12_isClass) (maxL := 1) (ret := (some .boolean)) (by decide) rfl ?_
  intro p e s m args below meth c s₁ B hml hxt hv
  obtain ⟨rfl, hsz, hP, hK, hD0, hG⟩ := hv
  have hx := B.exec
  have hb := B.bytes
  have hr := B.returns
  have hts := atoms_spec (ws := wm_X12_isClass) B.pre
  have htb := fun (w : Cond) (h : w ∈ tb) => hts w (List.mem_cons_of_mem _ h)
  have hown : s.vm.findClass RX12 = some m.cls := findClass_of_methodNamed B.named
  have hlocks := B.notSynchronized
  subst hsz
  have hD := hD0.self (sz := s.heap.size)
  generalize hAe : va_A (cW ad cid a2 lx sg gm lg) s.heap.size = A at hD hG ⊢
  have hA : ∀ q : Nat, s.heap.size ≤ q → A q := fun q h => by rw [← hAe]; exact Or.inr h
  have hS : va_S A s.heap s.heap [] := va_S.rf
  have hl := lv_entry ([.int a]) (n := 1) (Nat.le_of_ble_eq_true rfl)
  rw [lg_entry_eq]
  generalize (lg_sl ([.int a]) ++ List.replicate (1 - (lg_sl ([.int a])).length) Slot.unset).toArray = ls at hl ⊢
  have hl : lv_has ls 1 [(0, .int a)] := hl
  have hj15 : ∀ (y0_15 : Int32) (_ : iv 0 1 y0_15) (_ : y0_15.toInt = 0 ∧ (a.toInt < 0 ∨ 7 < a.toInt) ∨ y0_15.toInt = 1 ∧ 0 ≤ a.toInt ∧ a.toInt ≤ 7) (H : Heap) (locs : List Loc) (ls : Array Slot), va_P (dC, dI) vwCl (cW ad cid a2 lx sg gm lg) H → va_D A (cW ad cid a2 lx sg gm lg) → va_S A s.heap H locs → lv_has ls 1 [(0, .int a)] → W p l e (headSpec wm_X12_isClass ({ frames := 0, cells := 1, slots := 6, locals := 0 })).room s m ([.int a] : List Value).toArray below meth c H locs 0 0 (vx_MQ below (cQx dC dI ad cid a2 lx (fun v u => ∃ r : Int32, v = some (.int r) ∧ u = (sg, gm, lg) ∧ (iv 0 1 r) ∧ (r.toInt = 0 ∧ (a.toInt < 0 ∨ 7 < a.toInt) ∨ r.toInt = 1 ∧ 0 ≤ a.toInt ∧ a.toInt ≤ 7)) A) (cX dC dI ad cid a2 lx (fun _ _ => False) A) ([.int a] : List Value).toArray s 1 6 A) (F0 m 15 ls [.int y0_15]) := by
    intro y0_15 hy0_15 hc H locs ls hP hD hS hl
    exact W.nb (fun hN => W.widen (k := 1) (n := 6) (by decide) (by decide) (vx_ret (W.zret (v := y0_15) hx hb hr (iv_nb hy0_15) (fun t ht hW => ⟨⟨some (.int y0_15), (sg, gm, lg), rfl, ⟨y0_15, rfl, rfl, hy0_15, (hc)⟩, by rw [ht]; exact hP, va_K.moved hW.alike hK, hD⟩, hS.F ht, by rw [ht]; exact hN⟩) hS.2.2 dX12_isClass_15)))
  have hj14 : ∀ (_ : a.toInt < 0 ∨ 7 < a.toInt) (H : Heap) (locs : List Loc) (ls : Array Slot), va_P (dC, dI) vwCl (cW ad cid a2 lx sg gm lg) H → va_D A (cW ad cid a2 lx sg gm lg) → va_S A s.heap H locs → lv_has ls 1 [(0, .int a)] → W p l e (headSpec wm_X12_isClass ({ frames := 0, cells := 1, slots := 6, locals := 0 })).room s m ([.int a] : List Value).toArray below meth c H locs 0 0 (vx_MQ below (cQx dC dI ad cid a2 lx (fun v u => ∃ r : Int32, v = some (.int r) ∧ u = (sg, gm, lg) ∧ (iv 0 1 r) ∧ (r.toInt = 0 ∧ (a.toInt < 0 ∨ 7 < a.toInt) ∨ r.toInt = 1 ∧ 0 ≤ a.toInt ∧ a.toInt ≤ 7)) A) (cX dC dI ad cid a2 lx (fun _ _ => False) A) ([.int a] : List Value).toArray s 1 6 A) (F0 m 14 ls []) := by
    intro  hnn H locs ls hP hD hS hl
    refine lv_iconst (v := 0) hx hb dX12_isClass_14 (by decide) ?_
    exact hj15 0 (iv_w (iv_k (by decide) : iv 0 0 0) (by decide)) (Or.inl ⟨rfl, hnn⟩) _ _ _ hP hD hS (lv_sub hl [0] rfl)
  refine lv_iload_n hx hb dX12_isClass_0 rfl (lv_at hl 0 rfl) ?_
  refine lv_if_lt (tgt := 14) hx hb dX12_isClass_1 (by decide) (fun c_1 => ?_) (fun c_1 => ?_)
  · have h_2 : iv (-2147483648) (-1) a := iv_ltL c_1 (iv_all a) (iv_k (by decide) : iv 0 0 0) (by decide)
    exact hj14 (by have := i32_0; have := i32_1; have := i32_2; have := i32_m1; have := (h_2).1; have := (h_2).2; omega) _ _ _ hP hD hS (lv_sub hl [0] rfl)
  · have h_3 : iv 0 2147483647 a := iv_leR (i32_ge c_1) (iv_k (by decide) : iv 0 0 0) (iv_all a) (by decide)
    refine lv_iload_n hx hb dX12_isClass_4 rfl (lv_at hl 0 rfl) ?_
    refine lv_bipush (v := 8) hx hb dX12_isClass_5 (by decide) ?_
    refine lv_icmp_ge (tgt := 14) hx hb dX12_isClass_7 (by decide) (fun c_4 => ?_) (fun c_4 => ?_)
    · have h_5 : iv 8 2147483647 a := iv_leR c_4 (iv_k (by decide) : iv 8 8 8) h_3 (by decide)
      exact hj14 (by have := i32_0; have := i32_1; have := i32_2; have := i32_m1; have := (h_5).1; have := (h_5).2; omega) _ _ _ hP hD hS (lv_sub hl [0] rfl)
    · have h_6 : iv 0 7 a := iv_ltL (i32_lt c_4) h_3 (iv_k (by decide) : iv 8 8 8) (by decide)
      refine lv_iconst (v := 1) hx hb dX12_isClass_10 (by decide) ?_
      refine lv_goto (tgt := 15) hx hb dX12_isClass_11 (by decide) ?_
      exact hj15 1 (iv_w (iv_k (by decide) : iv 1 1 1) (by decide)) (Or.inr ⟨rfl, by have := i32_0; have := i32_1; have := i32_2; have := i32_m1; have := (h_6).1; have := (h_6).2; omega, by have := i32_0; have := i32_1; have := i32_2; have := i32_m1; have := (h_6).1; have := (h_6).2; omega⟩) _ _ _ hP hD hS (lv_sub hl [0] rfl)

set_option maxHeartbeats 4000000 in
set_option maxRecDepth 100000 in
theorem d_declare (l : Launch) (dC : Nat → ClassId) (dI : Nat → Nat → Nat) (ad : Nat → Nat → Nat) (cid : Nat → ClassId) (a2 : Nat → Nat) (lx : List Nat) (sg : Nat → Int32) (gm : Nat → Nat → Int32) (lg : Nat → Nat → Int64) (x : Int32) (ca : Int32) (pa : Int32) (hI : CI sg gm) (hvx : iv 0 0 x) : CMt dC dI ad cid a2 lx l yX12_declare wm_X12_declare ({ frames := 1, cells := 1, slots := 6, locals := 22 }) [eV (ad 0) x, .int ca, .int pa] sg gm lg (fun v u => ∃ r : Int32, v = some (.int r) ∧ ∃ (sg2 : Nat → Int32) (gm2 : Nat → Nat → Int32) (lg2 : Nat → Nat → Int64), u = (sg2, gm2, lg2) ∧ CI sg2 gm2 ∧ KS [] sg sg2 ∧ KS [0, 1, 3, 4, 55] gm gm2 ∧ KS [] lg lg2 ∧ (iv 0 1 r) ∧ (r.toInt = 1 ∧ (0 ≤ ca.toInt ∧ ca.toInt ≤ 7 ∧ -1 ≤ pa.toInt ∧ pa.toInt < ca.toInt) ∨ r.toInt = 0 ∧ ¬ (0 ≤ ca.toInt ∧ ca.toInt ≤ 7 ∧ -1 ≤ pa.toInt ∧ pa.toInt < ca.toInt))) (fun _ _ => False) := by
  intro sz
  refine vx_ofW (cc := cX12_declare) (maxL := 3) (ret := (some .boolean)) (by decide) rfl ?_
  intro p e s m args below meth c s₁ B hml hxt hv
  obtain ⟨rfl, hsz, hP, hK, hD0, hG⟩ := hv
  have hx := B.exec
  have hb := B.bytes
  have hr := B.returns
  have hts := atoms_spec (ws := wm_X12_declare) B.pre
  have htb := fun (w : Cond) (h : w ∈ tb) => hts w (List.mem_cons_of_mem _ h)
  have hown : s.vm.findClass RX12 = some m.cls := findClass_of_methodNamed B.named
  have hlocks := B.notSynchronized
  subst hsz
  have hD := hD0.self (sz := s.heap.size)
  generalize hAe : va_A (cW ad cid a2 lx sg gm lg) s.heap.size = A at hD hG ⊢
  have hA : ∀ q : Nat, s.heap.size ≤ q → A q := fun q h => by rw [← hAe]; exact Or.inr h
  have hS : va_S A s.heap s.heap [] := va_S.rf
  have hl := lv_entry ([eV (ad 0) x, .int ca, .int pa]) (n := 3) (by rw [show (lg_sl ([eV (ad 0) x, .int ca, .int pa])).length = 3 from by simp [lg_sl, eV_cat, cat_i, cat_l]]; exact Nat.le_of_ble_eq_true rfl)
  rw [lg_entry_eq]
  generalize (lg_sl ([eV (ad 0) x, .int ca, .int pa]) ++ List.replicate (3 - (lg_sl ([eV (ad 0) x, .int ca, .int pa])).length) Slot.unset).toArray = ls at hl ⊢
  have hl : lv_has ls 3 [(0, eV (ad 0) x), (1, .int ca), (2, .int pa)] := by simp [lv_args, eV_cat, cat_i, cat_l] at hl; exact hl
  have hj17 : ∀ (_ : iv 0 0 x) (_ : ¬ (0 ≤ ca.toInt ∧ ca.toInt ≤ 7 ∧ -1 ≤ pa.toInt ∧ pa.toInt < ca.toInt)) (H : Heap) (locs : List Loc) (ls : Array Slot), va_P (dC, dI) vwCl (cW ad cid a2 lx sg gm lg) H → va_D A (cW ad cid a2 lx sg gm lg) → va_S A s.heap H locs → lv_has ls 3 [(0, eV (ad 0) x), (1, .int ca), (2, .int pa)] → W p l e (headSpec wm_X12_declare ({ frames := 1, cells := 1, slots := 6, locals := 22 })).room s m ([eV (ad 0) x, .int ca, .int pa] : List Value).toArray below meth c H locs 0 0 (vx_MQ below (cQx dC dI ad cid a2 lx (fun v u => ∃ r : Int32, v = some (.int r) ∧ ∃ (sg2 : Nat → Int32) (gm2 : Nat → Nat → Int32) (lg2 : Nat → Nat → Int64), u = (sg2, gm2, lg2) ∧ CI sg2 gm2 ∧ KS [] sg sg2 ∧ KS [0, 1, 3, 4, 55] gm gm2 ∧ KS [] lg lg2 ∧ (iv 0 1 r) ∧ (r.toInt = 1 ∧ (0 ≤ ca.toInt ∧ ca.toInt ≤ 7 ∧ -1 ≤ pa.toInt ∧ pa.toInt < ca.toInt) ∨ r.toInt = 0 ∧ ¬ (0 ≤ ca.toInt ∧ ca.toInt ≤ 7 ∧ -1 ≤ pa.toInt ∧ pa.toInt < ca.toInt))) A) (cX dC dI ad cid a2 lx (fun _ _ => False) A) ([eV (ad 0) x, .int ca, .int pa] : List Value).toArray s 1 6 A) (F0 m 17 ls []) := by
    intro  hsx0_17 hno H locs ls hP hD hS hl
    refine lv_iconst (v := 0) hx hb dX12_declare_17 (by decide) ?_
    exact W.nb (fun hN => W.widen (k := 1) (n := 6) (by decide) (by decide) (vx_ret (W.zret (v := 0) hx hb hr (iv_nb (iv_w (iv_k (by decide) : iv 0 0 0) (by decide))) (fun t ht hW => ⟨⟨some (.int 0), (sg, gm, lg), rfl, ⟨0, rfl, sg, gm, lg, rfl, hI, KS_rf, KS_rf, KS_rf, (iv_w (iv_k (by decide) : iv 0 0 0) (by decide)), (Or.inr ⟨rfl, hno⟩)⟩, by rw [ht]; exact hP, va_K.moved hW.alike hK, hD⟩, hS.F ht, by rw [ht]; exact hN⟩) hS.2.2 dX12_declare_18)))
  have hj40 : ∀ (y0_40 : Int32) (_ : iv 0 0 x) (_ : iv 0 7 ca) (_ : iv (-1) 7 pa) (_ : iv (-1) 7 y0_40) (_ : iv 0 7 ca) (_ : 0 ≤ ca.toInt ∧ ca.toInt ≤ 7 ∧ -1 ≤ pa.toInt ∧ pa.toInt < ca.toInt) (H : Heap) (locs : List Loc) (ls : Array Slot), va_P (dC, dI) vwCl (cW ad cid a2 lx sg gm lg) H → va_D A (cW ad cid a2 lx sg gm lg) → va_S A s.heap H locs → lv_has ls 3 [(0, eV (ad 0) x), (1, .int ca), (2, .int pa)] → W p l e (headSpec wm_X12_declare ({ frames := 1, cells := 1, slots := 6, locals := 22 })).room s m ([eV (ad 0) x, .int ca, .int pa] : List Value).toArray below meth c H locs 0 0 (vx_MQ below (cQx dC dI ad cid a2 lx (fun v u => ∃ r : Int32, v = some (.int r) ∧ ∃ (sg2 : Nat → Int32) (gm2 : Nat → Nat → Int32) (lg2 : Nat → Nat → Int64), u = (sg2, gm2, lg2) ∧ CI sg2 gm2 ∧ KS [] sg sg2 ∧ KS [0, 1, 3, 4, 55] gm gm2 ∧ KS [] lg lg2 ∧ (iv 0 1 r) ∧ (r.toInt = 1 ∧ (0 ≤ ca.toInt ∧ ca.toInt ≤ 7 ∧ -1 ≤ pa.toInt ∧ pa.toInt < ca.toInt) ∨ r.toInt = 0 ∧ ¬ (0 ≤ ca.toInt ∧ ca.toInt ≤ 7 ∧ -1 ≤ pa.toInt ∧ pa.toInt < ca.toInt))) A) (cX dC dI ad cid a2 lx (fun _ _ => False) A) ([eV (ad 0) x, .int ca, .int pa] : List Value).toArray s 1 6 A) (F0 m 40 ls [eV (ad 7) y0_40, eV (ad 7) ca]) := by
    intro y0_40 hsx0_40 hsx1_40 hsx2_40 hy0_40 hsy1_40 hyes H locs ls hP hD hS hl
    refine cm_callV (t := 7) (C := RX2) (T := TX2) (N := 8) (rest := []) (as := [eV (ad 7) y0_40]) ⟨hx, hb, hml, hown, htb⟩ (d_beginDc l dC dI ad cid a2 lx sg gm lg ca y0_40 hI hsy1_40 hy0_40) (cwV 1 htb (gd_V kw_229 kw_230 kw_231 kw_15 kw_1386) rfl rfl rfl (by decide +kernel) ⟨Nat.le_of_ble_eq_true rfl, Nat.le_of_ble_eq_true rfl⟩) hsy1_40 (by decide) (by decide) rfl rfl hl.1 rfl (Nat.le_trans cs_n (by decide)) dX12_declare_40 ⟨Nat.le_of_ble_eq_true rfl, Nat.le_of_ble_eq_true rfl⟩ hK hP hD hS hA hG (fun E ce q9 u_2 H locs hw hP hD hS hce hcv hcl => ?_) (fun v9 u_2 H locs hw hP hD hS => ?_)
    · exact hw.elim
    obtain ⟨rfl, sgv_3, gmv_3, lgv_3, rfl, hIv_3, ksv_3, kgv_3, klv_3⟩ := hw
    obtain rfl := KS_nil ksv_3
    obtain rfl := KS_nil klv_3
    have hP : va_P (dC, dI) vwCl (cW ad cid a2 lx sg gmv_3 lg) H := hP
    have hD : va_D A (cW ad cid a2 lx sg gmv_3 lg) := hD
    refine W.eq (g2 := F0 m 43 ls []) rfl ?_
    refine lv_iconst (v := 1) hx hb dX12_declare_43 (by decide) ?_
    exact W.nb (fun hN => W.widen (k := 1) (n := 6) (by decide) (by decide) (vx_ret (W.zret (v := 1) hx hb hr (iv_nb (iv_w (iv_k (by decide) : iv 1 1 1) (by decide))) (fun t ht hW => ⟨⟨some (.int 1), (sg, gmv_3, lg), rfl, ⟨1, rfl, sg, gmv_3, lg, rfl, hIv_3, KS_rf, (KS_tr (L := [0, 1, 3, 4, 55]) KS_rf kgv_3 (by decide)), KS_rf, (iv_w (iv_k (by decide) : iv 1 1 1) (by decide)), (Or.inl ⟨rfl, hyes⟩)⟩, by rw [ht]; exact hP, va_K.moved hW.alike hK, hD⟩, hS.F ht, by rw [ht]; exact hN⟩) hS.2.2 dX12_declare_44)))
  refine lv_iload_n hx hb dX12_declare_0 rfl (lv_at hl 1 rfl) ?_
  refine cm_callS (rest := []) (as := [.int ca]) ⟨hx, hb, hml, hown, htb⟩ (d_isClass2 l dC dI ad cid a2 lx sg gm lg ca hI) (va_cwS 1 htb (gd_S kw_227 kw_228 kw_2 kw_1385) rfl rfl rfl (by decide +kernel) ⟨Nat.le_of_ble_eq_true rfl, Nat.le_of_ble_eq_true rfl⟩)  rfl hl.1 rfl (Nat.le_trans cs_n (by decide)) dX12_declare_1 ⟨Nat.le_of_ble_eq_true rfl, Nat.le_of_ble_eq_true rfl⟩ hK hP hD hS hA hG (fun E ce q9 u_5 H locs hw hP hD hS hce hcv hcl => ?_) (fun v9 u_5 H locs hw hP hD hS => ?_)
  · exact hw.elim
  obtain ⟨r_4, rfl, rfl, hr_4, fl_r_4⟩ := hw
  have hP : va_P (dC, dI) vwCl (cW ad cid a2 lx sg gm lg) H := hP
  have hD : va_D A (cW ad cid a2 lx sg gm lg) := hD
  refine W.eq (g2 := F0 m 4 ls [.int r_4]) rfl ?_
  refine lv_if_eq (tgt := 17) hx hb dX12_declare_4 (by decide) (fun c_7 => ?_) (fun c_7 => ?_)
  · have h_8 : iv 0 0 r_4 := iv_eq c_7 hr_4 (iv_k (by decide) : iv 0 0 0) (by decide)
    exact hj17 hvx (fun q9 => by { have := fl_r_4; have := i32_0; have := i32_1; have := i32_2; have := i32_m1; have := (hvx).1; have := (hvx).2; have := (h_8).1; have := (h_8).2; omega }) _ _ _ hP hD hS (lv_sub hl [0, 1, 2] rfl)
  · have h_9 : iv 1 1 r_4 := iv_neL c_7 hr_4 (by decide)
    refine lv_iload_n hx hb dX12_declare_7 rfl (lv_at hl 2 rfl) ?_
    refine lv_iconst (v := (-1)) hx hb dX12_declare_8 (by decide) ?_
    refine lv_icmp_lt (tgt := 17) hx hb dX12_declare_9 (by decide) (fun c_10 => ?_) (fun c_10 => ?_)
    · have h_11 : iv (-2147483648) (-2) pa := iv_ltL c_10 (iv_all pa) (iv_k (by decide) : iv (-1) (-1) (-1)) (by decide)
      exact hj17 hvx (fun q9 => by { have := fl_r_4; have := i32_0; have := i32_1; have := i32_2; have := i32_m1; have := (hvx).1; have := (hvx).2; have := (h_9).1; have := (h_9).2; have := (h_11).1; have := (h_11).2; omega }) _ _ _ hP hD hS (lv_sub hl [0, 1, 2] rfl)
    · have h_12 : iv (-1) 2147483647 pa := iv_leR (i32_ge c_10) (iv_k (by decide) : iv (-1) (-1) (-1)) (iv_all pa) (by decide)
      refine lv_iload_n hx hb dX12_declare_12 rfl (lv_at hl 2 rfl) ?_
      refine lv_iload_n hx hb dX12_declare_13 rfl (lv_at hl 1 rfl) ?_
      refine lv_icmp_lt (tgt := 19) hx hb dX12_declare_14 (by decide) (fun c_13 => ?_) (fun c_13 => ?_)
      · have d_14 : (pa : Int32).toInt < (ca : Int32).toInt := Int32.lt_iff_toInt_lt.mp c_13
        have h_15 : iv (-1) 2147483646 pa := iv_ltL c_13 h_12 (iv_all ca) (by decide)
        have h_16 : iv 0 2147483647 ca := iv_ltR c_13 h_12 (iv_all ca) (by decide)
        have h_17 : iv 0 7 ca := ⟨by have := fl_r_4; have := i32_0; have := i32_1; have := i32_2; have := i32_m1; have := (hvx).1; have := (hvx).2; have := (h_9).1; have := (h_9).2; have := (h_15).1; have := (h_15).2; have := (h_16).1; have := (h_16).2; omega, by have := fl_r_4; have := i32_0; have := i32_1; have := i32_2; have := i32_m1; have := (hvx).1; have := (hvx).2; have := (h_9).1; have := (h_9).2; have := (h_15).1; have := (h_15).2; have := (h_16).1; have := (h_16).2; omega⟩
        refine ec_aload_n hx hb dX12_declare_19 rfl (lv_at hl 0 rfl) ?_
        refine cr_get (t := 0) (j := 0) (C := RX12) (T := TX12) (N := 12) (v := eV (ad 12) 0) hx hb htb inX12 hown hK hP hvx (by decide) (by decide) (by decide) rfl (by decide) (htb _ kw_13) (cV_c rfl (by decide) (by rw [show cMu 0 0 = 0 from rfl, Nat.zero_mul]; rfl)) dX12_declare_20 ?_
        refine lv_iload_n hx hb dX12_declare_23 rfl (lv_at hl 1 rfl) ?_
        refine cr_aald (t := 12) (C := RX2) (v := eV (ad 7) ca) hx hb hK hP (iv_k (by decide) : iv 0 0 0) (by decide) (by decide) (by decide) (by decide) (by decide) rfl (show vp_in ca (cLen 12) from (show vp_in ca 8 from (iv_in h_17 (by decide)))) (cAr_c (by decide) (h_17).1 (by rw [show cAm 12 = 0 from rfl, Nat.zero_mul, show cAo 12 = 0 from rfl]; omega)) dX12_declare_24 ?_
        refine lv_iload_n hx hb dX12_declare_25 rfl (lv_at hl 2 rfl) ?_
        refine lv_iconst (v := (-1)) hx hb dX12_declare_26 (by decide) ?_
        refine lv_icmp_ne (tgt := 34) hx hb dX12_declare_27 (by decide) (fun c_18 => ?_) (fun c_18 => ?_)
        · have h_19 : iv 0 2147483646 pa := iv_neL c_18 h_15 (by decide)
          have h_20 : iv 0 7 pa := ⟨by have := i32_0; have := i32_1; have := i32_2; have := i32_m1; have := (hvx).1; have := (hvx).2; have := (h_9).1; have := (h_9).2; have := (h_19).1; have := (h_19).2; have := (h_17).1; have := (h_17).2; omega, by have := i32_0; have := i32_1; have := i32_2; have := i32_m1; have := (hvx).1; have := (hvx).2; have := (h_9).1; have := (h_9).2; have := (h_19).1; have := (h_19).2; have := (h_17).1; have := (h_17).2; omega⟩
          refine ec_aload_n hx hb dX12_declare_34 rfl (lv_at hl 0 rfl) ?_
          refine cr_get (t := 0) (j := 0) (C := RX12) (T := TX12) (N := 12) (v := eV (ad 12) 0) hx hb htb inX12 hown hK hP hvx (by decide) (by decide) (by decide) rfl (by decide) (htb _ kw_13) (cV_c rfl (by decide) (by rw [show cMu 0 0 = 0 from rfl, Nat.zero_mul]; rfl)) dX12_declare_35 ?_
          refine lv_iload_n hx hb dX12_declare_38 rfl (lv_at hl 2 rfl) ?_
          refine cr_aald (t := 12) (C := RX2) (v := eV (ad 7) pa) hx hb hK hP (iv_k (by decide) : iv 0 0 0) (by decide) (by decide) (by decide) (by decide) (by decide) rfl (show vp_in pa (cLen 12) from (show vp_in pa 8 from (iv_in h_20 (by decide)))) (cAr_c (by decide) (h_20).1 (by rw [show cAm 12 = 0 from rfl, Nat.zero_mul, show cAo 12 = 0 from rfl]; omega)) dX12_declare_39 ?_
          exact hj40 pa hvx h_17 (iv_w h_20 (by decide)) (iv_w h_20 (by decide)) h_17 (⟨by have := i32_0; have := i32_1; have := i32_2; have := i32_m1; have := (hvx).1; have := (hvx).2; have := (h_9).1; have := (h_9).2; have := (h_20).1; have := (h_20).2; have := (h_17).1; have := (h_17).2; omega, by have := i32_0; have := i32_1; have := i32_2; have := i32_m1; have := (hvx).1; have := (hvx).2; have := (h_9).1; have := (h_9).2; have := (h_20).1; have := (h_20).2; have := (h_17).1; have := (h_17).2; omega, by have := i32_0; have := i32_1; have := i32_2; have := i32_m1; have := (hvx).1; have := (hvx).2; have := (h_9).1; have := (h_9).2; have := (h_20).1; have := (h_20).2; have := (h_17).1; have := (h_17).2; omega, by have := i32_0; have := i32_1; have := i32_2; have := i32_m1; have := (hvx).1; have := (hvx).2; have := (h_9).1; have := (h_9).2; have := (h_20).1; have := (h_20).2; have := (h_17).1; have := (h_17).2; omega⟩) _ _ _ hP hD hS (lv_sub hl [0, 1, 2] rfl)
        · have h_21 : iv (-1) (-1) pa := iv_eq c_18 h_15 (iv_k (by decide) : iv (-1) (-1) (-1)) (by decide)
          refine ec_null (a := ad 7) hx hb dX12_declare_30 ?_
          refine lv_goto (tgt := 40) hx hb dX12_declare_31 (by decide) ?_
          exact hj40 (-1) hvx h_17 (iv_w h_21 (by decide)) (iv_w (iv_k (by decide) : iv (-1) (-1) (-1)) (by decide)) h_17 (⟨by have := i32_0; have := i32_1; have := i32_2; have := i32_m1; have := (hvx).1; have := (hvx).2; have := (h_9).1; have := (h_9).2; have := (h_21).1; have := (h_21).2; have := (h_17).1; have := (h_17).2; omega, by have := i32_0; have := i32_1; have := i32_2; have := i32_m1; have := (hvx).1; have := (hvx).2; have := (h_9).1; have := (h_9).2; have := (h_21).1; have := (h_21).2; have := (h_17).1; have := (h_17).2; omega, by have := i32_0; have := i32_1; have := i32_2; have := i32_m1; have := (hvx).1; have := (hvx).2; have := (h_9).1; have := (h_9).2; have := (h_21).1; have := (h_21).2; have := (h_17).1; have := (h_17).2; omega, by have := i32_0; have := i32_1; have := i32_2; have := i32_m1; have := (hvx).1; have := (hvx).2; have := (h_9).1; have := (h_9).2; have := (h_21).1; have := (h_21).2; have := (h_17).1; have := (h_17).2; omega⟩) _ _ _ hP hD hS (lv_sub hl [0, 1, 2] rfl)
      · have d_22 : (ca : Int32).toInt ≤ (pa : Int32).toInt := Int32.le_iff_toInt_le.mp (i32_ge c_13)
        exact hj17 hvx (fun q9 => by { have := fl_r_4; have := i32_0; have := i32_1; have := i32_2; have := i32_m1; have := (hvx).1; have := (hvx).2; have := (h_9).1; have := (h_9).2; have := (h_12).1; have := (h_12).2; omega }) _ _ _ hP hD hS (lv_sub hl [0, 1, 2] rfl)

set_option maxHeartbeats 4000000 in
set_option maxRecDepth 100000 in
theorem d_constructor (l : Launch) (dC : Nat → ClassId) (dI : Nat → Nat → Nat) (ad : Nat → Nat → Nat) (cid : Nat → ClassId) (a2 : Nat → Nat) (lx : List Nat) (sg : Nat → Int32) (gm : Nat → Nat → Int32) (lg : Nat → Nat → Int64) (x : Int32) (ca : Int32) (na : Int32) (ta : Int32) (ub : Int32) (uc : Int32) (hI : CI sg gm) (hvx : iv 0 0 x) : CMt dC dI ad cid a2 lx l yX12_constructor wm_X12_constructor ({ frames := 2, cells := 1, slots := 6, locals := 48 }) [eV (ad 0) x, .int ca, .int na, .int ta, .int ub, .int uc] sg gm lg (fun v u => ∃ r : Int32, v = some (.int r) ∧ ∃ (sg2 : Nat → Int32) (gm2 : Nat → Nat → Int32) (lg2 : Nat → Nat → Int64), u = (sg2, gm2, lg2) ∧ CI sg2 gm2 ∧ KS [] sg sg2 ∧ KS [0, 7, 8, 9, 10, 54] gm gm2 ∧ KS [] lg lg2 ∧ (iv 0 1 r)) (fun _ _ => False) := by
  intro sz
  refine vx_ofW (cc := cX12_constructor) (maxL := 6) (ret := (some .boolean)) (by decide) rfl ?_
  intro p e s m args below meth c s₁ B hml hxt hv
  obtain ⟨rfl, hsz, hP, hK, hD0, hG⟩ := hv
  have hx := B.exec
  have hb := B.bytes
  have hr := B.returns
  have hts := atoms_spec (ws := wm_X12_constructor) B.pre
  have htb := fun (w : Cond) (h : w ∈ tb) => hts w (List.mem_cons_of_mem _ h)
  have hown : s.vm.findClass RX12 = some m.cls := findClass_of_methodNamed B.named
  have hlocks := B.notSynchronized
  subst hsz
  have hD := hD0.self (sz := s.heap.size)
  generalize hAe : va_A (cW ad cid a2 lx sg gm lg) s.heap.size = A at hD hG ⊢
  have hA : ∀ q : Nat, s.heap.size ≤ q → A q := fun q h => by rw [← hAe]; exact Or.inr h
  have hS : va_S A s.heap s.heap [] := va_S.rf
  have hl := lv_entry ([eV (ad 0) x, .int ca, .int na, .int ta, .int ub, .int uc]) (n := 6) (by rw [show (lg_sl ([eV (ad 0) x, .int ca, .int na, .int ta, .int ub, .int uc])).length = 6 from by simp [lg_sl, eV_cat, cat_i, cat_l]]; exact Nat.le_of_ble_eq_true rfl)
  rw [lg_entry_eq]
  generalize (lg_sl ([eV (ad 0) x, .int ca, .int na, .int ta, .int ub, .int uc]) ++ List.replicate (6 - (lg_sl ([eV (ad 0) x, .int ca, .int na, .int ta, .int ub, .int uc])).length) Slot.unset).toArray = ls at hl ⊢
  have hl : lv_has ls 6 [(0, eV (ad 0) x), (1, .int ca), (2, .int na), (3, .int ta), (4, .int ub), (5, .int uc)] := by simp [lv_args, eV_cat, cat_i, cat_l] at hl; exact hl
  have hj42 : ∀ (gm_j42 : Nat → Nat → Int32) (y0_42 : Int32) (_ : iv 0 0 x) (_ : iv 0 1 y0_42) (_ : KS [0, 7, 8, 9, 10, 54] gm gm_j42) (_ : CI sg gm_j42) (H : Heap) (locs : List Loc) (ls : Array Slot), va_P (dC, dI) vwCl (cW ad cid a2 lx sg gm_j42 lg) H → va_D A (cW ad cid a2 lx sg gm_j42 lg) → va_S A s.heap H locs → lv_has ls 6 [(0, eV (ad 0) x), (1, .int ca), (2, .int na), (3, .int ta), (4, .int ub), (5, .int uc)] → W p l e (headSpec wm_X12_constructor ({ frames := 2, cells := 1, slots := 6, locals := 48 })).room s m ([eV (ad 0) x, .int ca, .int na, .int ta, .int ub, .int uc] : List Value).toArray below meth c H locs 0 0 (vx_MQ below (cQx dC dI ad cid a2 lx (fun v u => ∃ r : Int32, v = some (.int r) ∧ ∃ (sg2 : Nat → Int32) (gm2 : Nat → Nat → Int32) (lg2 : Nat → Nat → Int64), u = (sg2, gm2, lg2) ∧ CI sg2 gm2 ∧ KS [] sg sg2 ∧ KS [0, 7, 8, 9, 10, 54] gm gm2 ∧ KS [] lg lg2 ∧ (iv 0 1 r)) A) (cX dC dI ad cid a2 lx (fun _ _ => False) A) ([eV (ad 0) x, .int ca, .int na, .int ta, .int ub, .int uc] : List Value).toArray s 1 6 A) (F0 m 42 ls [.int y0_42]) := by
    intro gm_j42 y0_42 hsx0_42 hy0_42 hkg_j42 hI_j42 H locs ls hP hD hS hl
    exact W.nb (fun hN => W.widen (k := 1) (n := 6) (by decide) (by decide) (vx_ret (W.zret (v := y0_42) hx hb hr (iv_nb hy0_42) (fun t ht hW => ⟨⟨some (.int y0_42), (sg, gm_j42, lg), rfl, ⟨y0_42, rfl, sg, gm_j42, lg, rfl, hI_j42, KS_rf, (KS_tr (L := [0, 7, 8, 9, 10, 54]) KS_rf hkg_j42 (by decide)), KS_rf, hy0_42⟩, by rw [ht]; exact hP, va_K.moved hW.alike hK, hD⟩, hS.F ht, by rw [ht]; exact hN⟩) hS.2.2 dX12_constructor_42)))
  have hj41 : ∀ (gm_j41 : Nat → Nat → Int32) (_ : iv 0 0 x) (_ : KS [0, 7, 8, 9, 10, 54] gm gm_j41) (_ : CI sg gm_j41) (H : Heap) (locs : List Loc) (ls : Array Slot), va_P (dC, dI) vwCl (cW ad cid a2 lx sg gm_j41 lg) H → va_D A (cW ad cid a2 lx sg gm_j41 lg) → va_S A s.heap H locs → lv_has ls 6 [(0, eV (ad 0) x), (1, .int ca), (2, .int na), (3, .int ta), (4, .int ub), (5, .int uc)] → W p l e (headSpec wm_X12_constructor ({ frames := 2, cells := 1, slots := 6, locals := 48 })).room s m ([eV (ad 0) x, .int ca, .int na, .int ta, .int ub, .int uc] : List Value).toArray below meth c H locs 0 0 (vx_MQ below (cQx dC dI ad cid a2 lx (fun v u => ∃ r : Int32, v = some (.int r) ∧ ∃ (sg2 : Nat → Int32) (gm2 : Nat → Nat → Int32) (lg2 : Nat → Nat → Int64), u = (sg2, gm2, lg2) ∧ CI sg2 gm2 ∧ KS [] sg sg2 ∧ KS [0, 7, 8, 9, 10, 54] gm gm2 ∧ KS [] lg lg2 ∧ (iv 0 1 r)) A) (cX dC dI ad cid a2 lx (fun _ _ => False) A) ([eV (ad 0) x, .int ca, .int na, .int ta, .int ub, .int uc] : List Value).toArray s 1 6 A) (F0 m 41 ls []) := by
    intro gm_j41 hsx0_41 hkg_j41 hI_j41 H locs ls hP hD hS hl
    refine lv_iconst (v := 0) hx hb dX12_constructor_41 (by decide) ?_
    exact hj42 gm_j41 0 hsx0_41 (iv_w (iv_k (by decide) : iv 0 0 0) (by decide)) (KS_tr (L := [0, 7, 8, 9, 10, 54]) KS_rf hkg_j41 (by decide)) hI_j41 _ _ _ hP hD hS (lv_sub hl [0, 1, 2, 3, 4, 5] rfl)
  refine lv_iload_n hx hb dX12_constructor_0 rfl (lv_at hl 1 rfl) ?_
  refine cm_callS (rest := []) (as := [.int ca]) ⟨hx, hb, hml, hown, htb⟩ (d_isClass2 l dC dI ad cid a2 lx sg gm lg ca hI) (va_cwS 1 htb (gd_S kw_227 kw_228 kw_2 kw_1385) rfl rfl rfl (by decide +kernel) ⟨Nat.le_of_ble_eq_true rfl, Nat.le_of_ble_eq_true rfl⟩)  rfl hl.1 rfl (Nat.le_trans cs_n (by decide)) dX12_constructor_1 ⟨Nat.le_of_ble_eq_true rfl, Nat.le_of_ble_eq_true rfl⟩ hK hP hD hS hA hG (fun E ce q9 u_2 H locs hw hP hD hS hce hcv hcl => ?_) (fun v9 u_2 H locs hw hP hD hS => ?_)
  · exact hw.elim
  obtain ⟨r_1, rfl, rfl, hr_1, fl_r_1⟩ := hw
  have hP : va_P (dC, dI) vwCl (cW ad cid a2 lx sg gm lg) H := hP
  have hD : va_D A (cW ad cid a2 lx sg gm lg) := hD
  refine W.eq (g2 := F0 m 4 ls [.int r_1]) rfl ?_
  refine lv_if_eq (tgt := 41) hx hb dX12_constructor_4 (by decide) (fun c_4 => ?_) (fun c_4 => ?_)
  · have h_5 : iv 0 0 r_1 := iv_eq c_4 hr_1 (iv_k (by decide) : iv 0 0 0) (by decide)
    exact hj41 gm hvx KS_rf hI _ _ _ hP hD hS (lv_sub hl [0, 1, 2, 3, 4, 5] rfl)
  · have h_6 : iv 1 1 r_1 := iv_neL c_4 hr_1 (by decide)
    refine lv_iload_n hx hb dX12_constructor_7 rfl (lv_at hl 2 rfl) ?_
    refine lv_iload_n hx hb dX12_constructor_8 rfl (lv_at hl 3 rfl) ?_
    refine lv_iload hx hb dX12_constructor_9 (lv_at hl 4 rfl) ?_
    refine lv_iload hx hb dX12_constructor_11 (lv_at hl 5 rfl) ?_
    refine cm_callS (rest := []) (as := [.int na, .int ta, .int ub, .int uc]) ⟨hx, hb, hml, hown, htb⟩ (d_areTypes l dC dI ad cid a2 lx sg gm lg na ta ub uc hI) (va_cwS 4 htb (gd_S kw_245 kw_246 kw_2 kw_1390) rfl rfl rfl (by decide +kernel) ⟨Nat.le_of_ble_eq_true rfl, Nat.le_of_ble_eq_true rfl⟩)  rfl hl.1 rfl (Nat.le_trans cs_n (by decide)) dX12_constructor_13 ⟨Nat.le_of_ble_eq_true rfl, Nat.le_of_ble_eq_true rfl⟩ hK hP hD hS hA hG (fun E ce q9 u_8 H locs hw hP hD hS hce hcv hcl => ?_) (fun v9 u_8 H locs hw hP hD hS => ?_)
    · exact hw.elim
    obtain ⟨r_7, rfl, rfl, hr_7, fc_r_7⟩ := hw
    have hP : va_P (dC, dI) vwCl (cW ad cid a2 lx sg gm lg) H := hP
    have hD : va_D A (cW ad cid a2 lx sg gm lg) := hD
    refine W.eq (g2 := F0 m 16 ls [.int r_7]) rfl ?_
    refine lv_if_eq (tgt := 41) hx hb dX12_constructor_16 (by decide) (fun c_10 => ?_) (fun c_10 => ?_)
    · have h_11 : iv 0 0 r_7 := iv_eq c_10 hr_7 (iv_k (by decide) : iv 0 0 0) (by decide)
      exact hj41 gm hvx KS_rf hI _ _ _ hP hD hS (lv_sub hl [0, 1, 2, 3, 4, 5] rfl)
    · have h_12 : iv 1 1 r_7 := iv_neL c_10 hr_7 (by decide)
      have h_13 : iv 0 7 ca := ⟨by have := fl_r_1; have := i32_0; have := i32_1; have := i32_2; have := i32_m1; have := (hvx).1; have := (hvx).2; have := (h_6).1; have := (h_6).2; have := (h_12).1; have := (h_12).2; omega, by have := fl_r_1; have := i32_0; have := i32_1; have := i32_2; have := i32_m1; have := (hvx).1; have := (hvx).2; have := (h_6).1; have := (h_6).2; have := (h_12).1; have := (h_12).2; omega⟩
      have h_14 : iv 0 3 na := fc_r_7.resolve_left (by have := i32_0; have := i32_1; have := i32_2; have := i32_m1; have := (hvx).1; have := (hvx).2; have := (h_6).1; have := (h_6).2; have := (h_12).1; have := (h_12).2; have := (h_13).1; have := (h_13).2; omega)
      refine ec_aload_n hx hb dX12_constructor_19 rfl (lv_at hl 0 rfl) ?_
      refine cr_get (t := 0) (j := 0) (C := RX12) (T := TX12) (N := 12) (v := eV (ad 12) 0) hx hb htb inX12 hown hK hP hvx (by decide) (by decide) (by decide) rfl (by decide) (htb _ kw_13) (cV_c rfl (by decide) (by rw [show cMu 0 0 = 0 from rfl, Nat.zero_mul]; rfl)) dX12_constructor_20 ?_
      refine lv_iload_n hx hb dX12_constructor_23 rfl (lv_at hl 1 rfl) ?_
      refine cr_aald (t := 12) (C := RX2) (v := eV (ad 7) ca) hx hb hK hP (iv_k (by decide) : iv 0 0 0) (by decide) (by decide) (by decide) (by decide) (by decide) rfl (show vp_in ca (cLen 12) from (show vp_in ca 8 from (iv_in h_13 (by decide)))) (cAr_c (by decide) (h_13).1 (by rw [show cAm 12 = 0 from rfl, Nat.zero_mul, show cAo 12 = 0 from rfl]; omega)) dX12_constructor_24 ?_
      refine lv_iload_n hx hb dX12_constructor_25 rfl (lv_at hl 2 rfl) ?_
      refine lv_iload_n hx hb dX12_constructor_26 rfl (lv_at hl 3 rfl) ?_
      refine lv_iload hx hb dX12_constructor_27 (lv_at hl 4 rfl) ?_
      refine lv_iload hx hb dX12_constructor_29 (lv_at hl 5 rfl) ?_
      refine cm_callV (t := 7) (C := RX2) (T := TX2) (N := 8) (rest := []) (as := [.int na, .int ta, .int ub, .int uc]) ⟨hx, hb, hml, hown, htb⟩ (d_addConstructor l dC dI ad cid a2 lx sg gm lg ca na ta ub uc hI h_13 h_14) (cwV 4 htb (gd_V kw_249 kw_250 kw_251 kw_15 kw_1392) rfl rfl rfl (by decide +kernel) ⟨Nat.le_of_ble_eq_true rfl, Nat.le_of_ble_eq_true rfl⟩) h_13 (by decide) (by decide) rfl rfl hl.1 rfl (Nat.le_trans cs_n (by decide)) dX12_constructor_31 ⟨Nat.le_of_ble_eq_true rfl, Nat.le_of_ble_eq_true rfl⟩ hK hP hD hS hA hG (fun E ce q9 u_16 H locs hw hP hD hS hce hcv hcl => ?_) (fun v9 u_16 H locs hw hP hD hS => ?_)
      · exact hw.elim
      obtain ⟨r_15, rfl, sgv_17, gmv_17, lgv_17, rfl, hIv_17, ksv_17, kgv_17, klv_17, hr_15⟩ := hw
      obtain rfl := KS_nil ksv_17
      obtain rfl := KS_nil klv_17
      have hP : va_P (dC, dI) vwCl (cW ad cid a2 lx sg gmv_17 lg) H := hP
      have hD : va_D A (cW ad cid a2 lx sg gmv_17 lg) := hD
      refine W.eq (g2 := F0 m 34 ls [.int r_15]) rfl ?_
      refine lv_if_eq (tgt := 41) hx hb dX12_constructor_34 (by decide) (fun c_18 => ?_) (fun c_18 => ?_)
      · have h_19 : iv 0 0 r_15 := iv_eq c_18 hr_15 (iv_k (by decide) : iv 0 0 0) (by decide)
        exact hj41 gmv_17 hvx (KS_tr (L := [0, 7, 8, 9, 10, 54]) KS_rf kgv_17 (by decide)) hIv_17 _ _ _ hP hD hS (lv_sub hl [0, 1, 2, 3, 4, 5] rfl)
      · have h_20 : iv 1 1 r_15 := iv_neL c_18 hr_15 (by decide)
        refine lv_iconst (v := 1) hx hb dX12_constructor_37 (by decide) ?_
        refine lv_goto (tgt := 42) hx hb dX12_constructor_38 (by decide) ?_
        exact hj42 gmv_17 1 hvx (iv_w (iv_k (by decide) : iv 1 1 1) (by decide)) (KS_tr (L := [0, 7, 8, 9, 10, 54]) KS_rf kgv_17 (by decide)) hIv_17 _ _ _ hP hD hS (lv_sub hl [0, 1, 2, 3, 4, 5] rfl)

set_option maxHeartbeats 4000000 in
set_option maxRecDepth 100000 in
theorem d_setter (l : Launch) (dC : Nat → ClassId) (dI : Nat → Nat → Nat) (ad : Nat → Nat → Nat) (cid : Nat → ClassId) (a2 : Nat → Nat) (lx : List Nat) (sg : Nat → Int32) (gm : Nat → Nat → Int32) (lg : Nat → Nat → Int64) (x : Int32) (ca : Int32) (nm : Int32) (ty : Int32) (hI : CI sg gm) (hvx : iv 0 0 x) : CMt dC dI ad cid a2 lx l yX12_setter wm_X12_setter ({ frames := 1, cells := 1, slots := 6, locals := 22 }) [eV (ad 0) x, .int ca, .int nm, .int ty] sg gm lg (fun v u => ∃ r : Int32, v = some (.int r) ∧ ∃ (sg2 : Nat → Int32) (gm2 : Nat → Nat → Int32) (lg2 : Nat → Nat → Int64), u = (sg2, gm2, lg2) ∧ CI sg2 gm2 ∧ KS [] sg sg2 ∧ KS [3, 55] gm gm2 ∧ KS [] lg lg2 ∧ (iv 0 1 r)) (fun _ _ => False) := by
  intro sz
  refine vx_ofW (cc := cX12_setter) (maxL := 4) (ret := (some .boolean)) (by decide) rfl ?_
  intro p e s m args below meth c s₁ B hml hxt hv
  obtain ⟨rfl, hsz, hP, hK, hD0, hG⟩ := hv
  have hx := B.exec
  have hb := B.bytes
  have hr := B.returns
  have hts := atoms_spec (ws := wm_X12_setter) B.pre
  have htb := fun (w : Cond) (h : w ∈ tb) => hts w (List.mem_cons_of_mem _ h)
  have hown : s.vm.findClass RX12 = some m.cls := findClass_of_methodNamed B.named
  have hlocks := B.notSynchronized
  subst hsz
  have hD := hD0.self (sz := s.heap.size)
  generalize hAe : va_A (cW ad cid a2 lx sg gm lg) s.heap.size = A at hD hG ⊢
  have hA : ∀ q : Nat, s.heap.size ≤ q → A q := fun q h => by rw [← hAe]; exact Or.inr h
  have hS : va_S A s.heap s.heap [] := va_S.rf
  have hl := lv_entry ([eV (ad 0) x, .int ca, .int nm, .int ty]) (n := 4) (by rw [show (lg_sl ([eV (ad 0) x, .int ca, .int nm, .int ty])).length = 4 from by simp [lg_sl, eV_cat, cat_i, cat_l]]; exact Nat.le_of_ble_eq_true rfl)
  rw [lg_entry_eq]
  generalize (lg_sl ([eV (ad 0) x, .int ca, .int nm, .int ty]) ++ List.replicate (4 - (lg_sl ([eV (ad 0) x, .int ca, .int nm, .int ty])).length) Slot.unset).toArray = ls at hl ⊢
  have hl : lv_has ls 4 [(0, eV (ad 0) x), (1, .int ca), (2, .int nm), (3, .int ty)] := by simp [lv_args, eV_cat, cat_i, cat_l] at hl; exact hl
  have hj40 : ∀ (gm_j40 : Nat → Nat → Int32) (y0_40 : Int32) (_ : iv 0 0 x) (_ : iv 0 1 y0_40) (_ : KS [3, 55] gm gm_j40) (_ : CI sg gm_j40) (H : Heap) (locs : List Loc) (ls : Array Slot), va_P (dC, dI) vwCl (cW ad cid a2 lx sg gm_j40 lg) H → va_D A (cW ad cid a2 lx sg gm_j40 lg) → va_S A s.heap H locs → lv_has ls 4 [(0, eV (ad 0) x), (1, .int ca), (2, .int nm), (3, .int ty)] → W p l e (headSpec wm_X12_setter ({ frames := 1, cells := 1, slots := 6, locals := 22 })).room s m ([eV (ad 0) x, .int ca, .int nm, .int ty] : List Value).toArray below meth c H locs 0 0 (vx_MQ below (cQx dC dI ad cid a2 lx (fun v u => ∃ r : Int32, v = some (.int r) ∧ ∃ (sg2 : Nat → Int32) (gm2 : Nat → Nat → Int32) (lg2 : Nat → Nat → Int64), u = (sg2, gm2, lg2) ∧ CI sg2 gm2 ∧ KS [] sg sg2 ∧ KS [3, 55] gm gm2 ∧ KS [] lg lg2 ∧ (iv 0 1 r)) A) (cX dC dI ad cid a2 lx (fun _ _ => False) A) ([eV (ad 0) x, .int ca, .int nm, .int ty] : List Value).toArray s 1 6 A) (F0 m 40 ls [.int y0_40]) := by
    intro gm_j40 y0_40 hsx0_40 hy0_40 hkg_j40 hI_j40 H locs ls hP hD hS hl
    exact W.nb (fun hN => W.widen (k := 1) (n := 6) (by decide) (by decide) (vx_ret (W.zret (v := y0_40) hx hb hr (iv_nb hy0_40) (fun t ht hW => ⟨⟨some (.int y0_40), (sg, gm_j40, lg), rfl, ⟨y0_40, rfl, sg, gm_j40, lg, rfl, hI_j40, KS_rf, (KS_tr (L := [3, 55]) KS_rf hkg_j40 (by decide)), KS_rf, hy0_40⟩, by rw [ht]; exact hP, va_K.moved hW.alike hK, hD⟩, hS.F ht, by rw [ht]; exact hN⟩) hS.2.2 dX12_setter_40)))
  have hj39 : ∀ (gm_j39 : Nat → Nat → Int32) (_ : iv 0 0 x) (_ : KS [3, 55] gm gm_j39) (_ : CI sg gm_j39) (H : Heap) (locs : List Loc) (ls : Array Slot), va_P (dC, dI) vwCl (cW ad cid a2 lx sg gm_j39 lg) H → va_D A (cW ad cid a2 lx sg gm_j39 lg) → va_S A s.heap H locs → lv_has ls 4 [(0, eV (ad 0) x), (1, .int ca), (2, .int nm), (3, .int ty)] → W p l e (headSpec wm_X12_setter ({ frames := 1, cells := 1, slots := 6, locals := 22 })).room s m ([eV (ad 0) x, .int ca, .int nm, .int ty] : List Value).toArray below meth c H locs 0 0 (vx_MQ below (cQx dC dI ad cid a2 lx (fun v u => ∃ r : Int32, v = some (.int r) ∧ ∃ (sg2 : Nat → Int32) (gm2 : Nat → Nat → Int32) (lg2 : Nat → Nat → Int64), u = (sg2, gm2, lg2) ∧ CI sg2 gm2 ∧ KS [] sg sg2 ∧ KS [3, 55] gm gm2 ∧ KS [] lg lg2 ∧ (iv 0 1 r)) A) (cX dC dI ad cid a2 lx (fun _ _ => False) A) ([eV (ad 0) x, .int ca, .int nm, .int ty] : List Value).toArray s 1 6 A) (F0 m 39 ls []) := by
    intro gm_j39 hsx0_39 hkg_j39 hI_j39 H locs ls hP hD hS hl
    refine lv_iconst (v := 0) hx hb dX12_setter_39 (by decide) ?_
    exact hj40 gm_j39 0 hsx0_39 (iv_w (iv_k (by decide) : iv 0 0 0) (by decide)) (KS_tr (L := [3, 55]) KS_rf hkg_j39 (by decide)) hI_j39 _ _ _ hP hD hS (lv_sub hl [0, 1, 2, 3] rfl)
  refine lv_iload_n hx hb dX12_setter_0 rfl (lv_at hl 1 rfl) ?_
  refine cm_callS (rest := []) (as := [.int ca]) ⟨hx, hb, hml, hown, htb⟩ (d_isClass2 l dC dI ad cid a2 lx sg gm lg ca hI) (va_cwS 1 htb (gd_S kw_227 kw_228 kw_2 kw_1385) rfl rfl rfl (by decide +kernel) ⟨Nat.le_of_ble_eq_true rfl, Nat.le_of_ble_eq_true rfl⟩)  rfl hl.1 rfl (Nat.le_trans cs_n (by decide)) dX12_setter_1 ⟨Nat.le_of_ble_eq_true rfl, Nat.le_of_ble_eq_true rfl⟩ hK hP hD hS hA hG (fun E ce q9 u_2 H locs hw hP hD hS hce hcv hcl => ?_) (fun v9 u_2 H locs hw hP hD hS => ?_)
  · exact hw.elim
  obtain ⟨r_1, rfl, rfl, hr_1, fl_r_1⟩ := hw
  have hP : va_P (dC, dI) vwCl (cW ad cid a2 lx sg gm lg) H := hP
  have hD : va_D A (cW ad cid a2 lx sg gm lg) := hD
  refine W.eq (g2 := F0 m 4 ls [.int r_1]) rfl ?_
  refine lv_if_eq (tgt := 39) hx hb dX12_setter_4 (by decide) (fun c_4 => ?_) (fun c_4 => ?_)
  · have h_5 : iv 0 0 r_1 := iv_eq c_4 hr_1 (iv_k (by decide) : iv 0 0 0) (by decide)
    exact hj39 gm hvx KS_rf hI _ _ _ hP hD hS (lv_sub hl [0, 1, 2, 3] rfl)
  · have h_6 : iv 1 1 r_1 := iv_neL c_4 hr_1 (by decide)
    refine lv_iload_n hx hb dX12_setter_7 rfl (lv_at hl 2 rfl) ?_
    refine cm_callS (rest := []) (as := [.int nm]) ⟨hx, hb, hml, hown, htb⟩ (d_isLetter l dC dI ad cid a2 lx sg gm lg nm hI) (va_cwS 1 htb (gd_S kw_272 kw_273 kw_2 kw_1399) rfl rfl rfl (by decide +kernel) ⟨Nat.le_of_ble_eq_true rfl, Nat.le_of_ble_eq_true rfl⟩)  rfl hl.1 rfl (Nat.le_trans cs_n (by decide)) dX12_setter_8 ⟨Nat.le_of_ble_eq_true rfl, Nat.le_of_ble_eq_true rfl⟩ hK hP hD hS hA hG (fun E ce q9 u_8 H locs hw hP hD hS hce hcv hcl => ?_) (fun v9 u_8 H locs hw hP hD hS => ?_)
    · exact hw.elim
    obtain ⟨r_7, rfl, rfl, hr_7, fc_r_7⟩ := hw
    have hP : va_P (dC, dI) vwCl (cW ad cid a2 lx sg gm lg) H := hP
    have hD : va_D A (cW ad cid a2 lx sg gm lg) := hD
    refine W.eq (g2 := F0 m 11 ls [.int r_7]) rfl ?_
    refine lv_if_eq (tgt := 39) hx hb dX12_setter_11 (by decide) (fun c_10 => ?_) (fun c_10 => ?_)
    · have h_11 : iv 0 0 r_7 := iv_eq c_10 hr_7 (iv_k (by decide) : iv 0 0 0) (by decide)
      exact hj39 gm hvx KS_rf hI _ _ _ hP hD hS (lv_sub hl [0, 1, 2, 3] rfl)
    · have h_12 : iv 1 1 r_7 := iv_neL c_10 hr_7 (by decide)
      refine lv_iload_n hx hb dX12_setter_14 rfl (lv_at hl 3 rfl) ?_
      refine cm_callS (rest := []) (as := [.int ty]) ⟨hx, hb, hml, hown, htb⟩ (d_isType l dC dI ad cid a2 lx sg gm lg ty hI) (va_cwS 1 htb (gd_S kw_247 kw_248 kw_2 kw_1391) rfl rfl rfl (by decide +kernel) ⟨Nat.le_of_ble_eq_true rfl, Nat.le_of_ble_eq_true rfl⟩)  rfl hl.1 rfl (Nat.le_trans cs_n (by decide)) dX12_setter_15 ⟨Nat.le_of_ble_eq_true rfl, Nat.le_of_ble_eq_true rfl⟩ hK hP hD hS hA hG (fun E ce q9 u_14 H locs hw hP hD hS hce hcv hcl => ?_) (fun v9 u_14 H locs hw hP hD hS => ?_)
      · exact hw.elim
      obtain ⟨r_13, rfl, rfl, hr_13, fc_r_13⟩ := hw
      have hP : va_P (dC, dI) vwCl (cW ad cid a2 lx sg gm lg) H := hP
      have hD : va_D A (cW ad cid a2 lx sg gm lg) := hD
      refine W.eq (g2 := F0 m 18 ls [.int r_13]) rfl ?_
      refine lv_if_eq (tgt := 39) hx hb dX12_setter_18 (by decide) (fun c_16 => ?_) (fun c_16 => ?_)
      · have h_17 : iv 0 0 r_13 := iv_eq c_16 hr_13 (iv_k (by decide) : iv 0 0 0) (by decide)
        exact hj39 gm hvx KS_rf hI _ _ _ hP hD hS (lv_sub hl [0, 1, 2, 3] rfl)
      · have h_18 : iv 1 1 r_13 := iv_neL c_16 hr_13 (by decide)
        have h_19 : iv 0 7 ca := ⟨by have := fl_r_1; have := i32_0; have := i32_1; have := i32_2; have := i32_m1; have := (hvx).1; have := (hvx).2; have := (h_6).1; have := (h_6).2; have := (h_12).1; have := (h_12).2; have := (h_18).1; have := (h_18).2; omega, by have := fl_r_1; have := i32_0; have := i32_1; have := i32_2; have := i32_m1; have := (hvx).1; have := (hvx).2; have := (h_6).1; have := (h_6).2; have := (h_12).1; have := (h_12).2; have := (h_18).1; have := (h_18).2; omega⟩
        have h_20 : iv 0 25 nm := fc_r_7.resolve_left (by have := i32_0; have := i32_1; have := i32_2; have := i32_m1; have := (hvx).1; have := (hvx).2; have := (h_6).1; have := (h_6).2; have := (h_12).1; have := (h_12).2; have := (h_18).1; have := (h_18).2; have := (h_19).1; have := (h_19).2; omega)
        have h_21 : iv 0 15 ty := fc_r_13.resolve_left (by have := i32_0; have := i32_1; have := i32_2; have := i32_m1; have := (hvx).1; have := (hvx).2; have := (h_6).1; have := (h_6).2; have := (h_12).1; have := (h_12).2; have := (h_18).1; have := (h_18).2; have := (h_19).1; have := (h_19).2; have := (h_20).1; have := (h_20).2; omega)
        refine ec_aload_n hx hb dX12_setter_21 rfl (lv_at hl 0 rfl) ?_
        refine cr_get (t := 0) (j := 0) (C := RX12) (T := TX12) (N := 12) (v := eV (ad 12) 0) hx hb htb inX12 hown hK hP hvx (by decide) (by decide) (by decide) rfl (by decide) (htb _ kw_13) (cV_c rfl (by decide) (by rw [show cMu 0 0 = 0 from rfl, Nat.zero_mul]; rfl)) dX12_setter_22 ?_
        refine lv_iload_n hx hb dX12_setter_25 rfl (lv_at hl 1 rfl) ?_
        refine cr_aald (t := 12) (C := RX2) (v := eV (ad 7) ca) hx hb hK hP (iv_k (by decide) : iv 0 0 0) (by decide) (by decide) (by decide) (by decide) (by decide) rfl (show vp_in ca (cLen 12) from (show vp_in ca 8 from (iv_in h_19 (by decide)))) (cAr_c (by decide) (h_19).1 (by rw [show cAm 12 = 0 from rfl, Nat.zero_mul, show cAo 12 = 0 from rfl]; omega)) dX12_setter_26 ?_
        refine lv_iload_n hx hb dX12_setter_27 rfl (lv_at hl 2 rfl) ?_
        refine lv_iload_n hx hb dX12_setter_28 rfl (lv_at hl 3 rfl) ?_
        refine cm_callV (t := 7) (C := RX2) (T := TX2) (N := 8) (rest := []) (as := [.int nm, .int ty]) ⟨hx, hb, hml, hown, htb⟩ (d_addSetter l dC dI ad cid a2 lx sg gm lg ca nm ty hI h_19 h_20 h_21) (cwV 2 htb (gd_V kw_274 kw_275 kw_276 kw_15 kw_1400) rfl rfl rfl (by decide +kernel) ⟨Nat.le_of_ble_eq_true rfl, Nat.le_of_ble_eq_true rfl⟩) h_19 (by decide) (by decide) rfl rfl hl.1 rfl (Nat.le_trans cs_n (by decide)) dX12_setter_29 ⟨Nat.le_of_ble_eq_true rfl, Nat.le_of_ble_eq_true rfl⟩ hK hP hD hS hA hG (fun E ce q9 u_23 H locs hw hP hD hS hce hcv hcl => ?_) (fun v9 u_23 H locs hw hP hD hS => ?_)
        · exact hw.elim
        obtain ⟨r_22, rfl, sgv_24, gmv_24, lgv_24, rfl, hIv_24, ksv_24, kgv_24, klv_24, hr_22⟩ := hw
        obtain rfl := KS_nil ksv_24
        obtain rfl := KS_nil klv_24
        have hP : va_P (dC, dI) vwCl (cW ad cid a2 lx sg gmv_24 lg) H := hP
        have hD : va_D A (cW ad cid a2 lx sg gmv_24 lg) := hD
        refine W.eq (g2 := F0 m 32 ls [.int r_22]) rfl ?_
        refine lv_if_eq (tgt := 39) hx hb dX12_setter_32 (by decide) (fun c_25 => ?_) (fun c_25 => ?_)
        · have h_26 : iv 0 0 r_22 := iv_eq c_25 hr_22 (iv_k (by decide) : iv 0 0 0) (by decide)
          exact hj39 gmv_24 hvx (KS_tr (L := [3, 55]) KS_rf kgv_24 (by decide)) hIv_24 _ _ _ hP hD hS (lv_sub hl [0, 1, 2, 3] rfl)
        · have h_27 : iv 1 1 r_22 := iv_neL c_25 hr_22 (by decide)
          refine lv_iconst (v := 1) hx hb dX12_setter_35 (by decide) ?_
          refine lv_goto (tgt := 40) hx hb dX12_setter_36 (by decide) ?_
          exact hj40 gmv_24 1 hvx (iv_w (iv_k (by decide) : iv 1 1 1) (by decide)) (KS_tr (L := [3, 55]) KS_rf kgv_24 (by decide)) hIv_24 _ _ _ hP hD hS (lv_sub hl [0, 1, 2, 3] rfl)

set_option maxHeartbeats 4000000 in
set_option maxRecDepth 100000 in
theorem d_factory (l : Launch) (dC : Nat → ClassId) (dI : Nat → Nat → Nat) (ad : Nat → Nat → Nat) (cid : Nat → ClassId) (a2 : Nat → Nat) (lx : List Nat) (sg : Nat → Int32) (gm : Nat → Nat → Int32) (lg : Nat → Nat → Int64) (x : Int32) (ca : Int32) (nm : Int32) (zs : Int32) (re : Int32) (na : Int32) (ta : Int32) (ub : Int32) (uc : Int32) (hI : CI sg gm) (hvx : iv 0 0 x) (hvzs : iv 0 1 zs) : CMt dC dI ad cid a2 lx l yX12_factory wm_X12_factory ({ frames := 2, cells := 1, slots := 6, locals := 51 }) [eV (ad 0) x, .int ca, .int nm, .int zs, .int re, .int na, .int ta, .int ub, .int uc] sg gm lg (fun v u => ∃ r : Int32, v = some (.int r) ∧ ∃ (sg2 : Nat → Int32) (gm2 : Nat → Nat → Int32) (lg2 : Nat → Nat → Int64), u = (sg2, gm2, lg2) ∧ CI sg2 gm2 ∧ KS [] sg sg2 ∧ KS [1, 7, 8, 9, 10, 54] gm gm2 ∧ KS [] lg lg2 ∧ (iv 0 1 r)) (fun _ _ => False) := by
  intro sz
  refine vx_ofW (cc := cX12_factory) (maxL := 9) (ret := (some .boolean)) (by decide) rfl ?_
  intro p e s m args below meth c s₁ B hml hxt hv
  obtain ⟨rfl, hsz, hP, hK, hD0, hG⟩ := hv
  have hx := B.exec
  have hb := B.bytes
  have hr := B.returns
  have hts := atoms_spec (ws := wm_X12_factory) B.pre
  have htb := fun (w : Cond) (h : w ∈ tb) => hts w (List.mem_cons_of_mem _ h)
  have hown : s.vm.findClass RX12 = some m.cls := findClass_of_methodNamed B.named
  have hlocks := B.notSynchronized
  subst hsz
  have hD := hD0.self (sz := s.heap.size)
  generalize hAe : va_A (cW ad cid a2 lx sg gm lg) s.heap.size = A at hD hG ⊢
  have hA : ∀ q : Nat, s.heap.size ≤ q → A q := fun q h => by rw [← hAe]; exact Or.inr h
  have hS : va_S A s.heap s.heap [] := va_S.rf
  have hl := lv_entry ([eV (ad 0) x, .int ca, .int nm, .int zs, .int re, .int na, .int ta, .int ub, .int uc]) (n := 9) (by rw [show (lg_sl ([eV (ad 0) x, .int ca, .int nm, .int zs, .int re, .int na, .int ta, .int ub, .int uc])).length = 9 from by simp [lg_sl, eV_cat, cat_i, cat_l]]; exact Nat.le_of_ble_eq_true rfl)
  rw [lg_entry_eq]
  generalize (lg_sl ([eV (ad 0) x, .int ca, .int nm, .int zs, .int re, .int na, .int ta, .int ub, .int uc]) ++ List.replicate (9 - (lg_sl ([eV (ad 0) x, .int ca, .int nm, .int zs, .int re, .int na, .int ta, .int ub, .int uc])).length) Slot.unset).toArray = ls at hl ⊢
  have hl : lv_has ls 9 [(0, eV (ad 0) x), (1, .int ca), (2, .int nm), (3, .int zs), (4, .int re), (5, .int na), (6, .int ta), (7, .int ub), (8, .int uc)] := by simp [lv_args, eV_cat, cat_i, cat_l] at hl; exact hl
  have hj65 : ∀ (gm_j65 : Nat → Nat → Int32) (y0_65 : Int32) (_ : iv 0 0 x) (_ : iv 0 1 zs) (_ : iv 0 1 y0_65) (_ : KS [1, 7, 8, 9, 10, 54] gm gm_j65) (_ : CI sg gm_j65) (H : Heap) (locs : List Loc) (ls : Array Slot), va_P (dC, dI) vwCl (cW ad cid a2 lx sg gm_j65 lg) H → va_D A (cW ad cid a2 lx sg gm_j65 lg) → va_S A s.heap H locs → lv_has ls 9 [(0, eV (ad 0) x), (1, .int ca), (2, .int nm), (3, .int zs), (4, .int re), (5, .int na), (6, .int ta), (7, .int ub), (8, .int uc)] → W p l e (headSpec wm_X12_factory ({ frames := 2, cells := 1, slots := 6, locals := 51 })).room s m ([eV (ad 0) x, .int ca, .int nm, .int zs, .int re, .int na, .int ta, .int ub, .int uc] : List Value).toArray below meth c H locs 0 0 (vx_MQ below (cQx dC dI ad cid a2 lx (fun v u => ∃ r : Int32, v = some (.int r) ∧ ∃ (sg2 : Nat → Int32) (gm2 : Nat → Nat → Int32) (lg2 : Nat → Nat → Int64), u = (sg2, gm2, lg2) ∧ CI sg2 gm2 ∧ KS [] sg sg2 ∧ KS [1, 7, 8, 9, 10, 54] gm gm2 ∧ KS [] lg lg2 ∧ (iv 0 1 r)) A) (cX dC dI ad cid a2 lx (fun _ _ => False) A) ([eV (ad 0) x, .int ca, .int nm, .int zs, .int re, .int na, .int ta, .int ub, .int uc] : List Value).toArray s 1 6 A) (F0 m 65 ls [.int y0_65]) := by
    intro gm_j65 y0_65 hsx0_65 hsx3_65 hy0_65 hkg_j65 hI_j65 H locs ls hP hD hS hl
    exact W.nb (fun hN => W.widen (k := 1) (n := 6) (by decide) (by decide) (vx_ret (W.zret (v := y0_65) hx hb hr (iv_nb hy0_65) (fun t ht hW => ⟨⟨some (.int y0_65), (sg, gm_j65, lg), rfl, ⟨y0_65, rfl, sg, gm_j65, lg, rfl, hI_j65, KS_rf, (KS_tr (L := [1, 7, 8, 9, 10, 54]) KS_rf hkg_j65 (by decide)), KS_rf, hy0_65⟩, by rw [ht]; exact hP, va_K.moved hW.alike hK, hD⟩, hS.F ht, by rw [ht]; exact hN⟩) hS.2.2 dX12_factory_65)))
  have hj64 : ∀ (gm_j64 : Nat → Nat → Int32) (_ : iv 0 0 x) (_ : iv 0 1 zs) (_ : KS [1, 7, 8, 9, 10, 54] gm gm_j64) (_ : CI sg gm_j64) (H : Heap) (locs : List Loc) (ls : Array Slot), va_P (dC, dI) vwCl (cW ad cid a2 lx sg gm_j64 lg) H → va_D A (cW ad cid a2 lx sg gm_j64 lg) → va_S A s.heap H locs → lv_has ls 9 [(0, eV (ad 0) x), (1, .int ca), (2, .int nm), (3, .int zs), (4, .int re), (5, .int na), (6, .int ta), (7, .int ub), (8, .int uc)] → W p l e (headSpec wm_X12_factory ({ frames := 2, cells := 1, slots := 6, locals := 51 })).room s m ([eV (ad 0) x, .int ca, .int nm, .int zs, .int re, .int na, .int ta, .int ub, .int uc] : List Value).toArray below meth c H locs 0 0 (vx_MQ below (cQx dC dI ad cid a2 lx (fun v u => ∃ r : Int32, v = some (.int r) ∧ ∃ (sg2 : Nat → Int32) (gm2 : Nat → Nat → Int32) (lg2 : Nat → Nat → Int64), u = (sg2, gm2, lg2) ∧ CI sg2 gm2 ∧ KS [] sg sg2 ∧ KS [1, 7, 8, 9, 10, 54] gm gm2 ∧ KS [] lg lg2 ∧ (iv 0 1 r)) A) (cX dC dI ad cid a2 lx (fun _ _ => False) A) ([eV (ad 0) x, .int ca, .int nm, .int zs, .int re, .int na, .int ta, .int ub, .int uc] : List Value).toArray s 1 6 A) (F0 m 64 ls []) := by
    intro gm_j64 hsx0_64 hsx3_64 hkg_j64 hI_j64 H locs ls hP hD hS hl
    refine lv_iconst (v := 0) hx hb dX12_factory_64 (by decide) ?_
    exact hj65 gm_j64 0 hsx0_64 hsx3_64 (iv_w (iv_k (by decide) : iv 0 0 0) (by decide)) (KS_tr (L := [1, 7, 8, 9, 10, 54]) KS_rf hkg_j64 (by decide)) hI_j64 _ _ _ hP hD hS (lv_sub hl [0, 1, 2, 3, 4, 5, 6, 7, 8] rfl)
  refine lv_iload_n hx hb dX12_factory_0 rfl (lv_at hl 1 rfl) ?_
  refine cm_callS (rest := []) (as := [.int ca]) ⟨hx, hb, hml, hown, htb⟩ (d_isClass2 l dC dI ad cid a2 lx sg gm lg ca hI) (va_cwS 1 htb (gd_S kw_227 kw_228 kw_2 kw_1385) rfl rfl rfl (by decide +kernel) ⟨Nat.le_of_ble_eq_true rfl, Nat.le_of_ble_eq_true rfl⟩)  rfl hl.1 rfl (Nat.le_trans cs_n (by decide)) dX12_factory_1 ⟨Nat.le_of_ble_eq_true rfl, Nat.le_of_ble_eq_true rfl⟩ hK hP hD hS hA hG (fun E ce q9 u_2 H locs hw hP hD hS hce hcv hcl => ?_) (fun v9 u_2 H locs hw hP hD hS => ?_)
  · exact hw.elim
  obtain ⟨r_1, rfl, rfl, hr_1, fl_r_1⟩ := hw
  have hP : va_P (dC, dI) vwCl (cW ad cid a2 lx sg gm lg) H := hP
  have hD : va_D A (cW ad cid a2 lx sg gm lg) := hD
  refine W.eq (g2 := F0 m 4 ls [.int r_1]) rfl ?_
  refine lv_if_eq (tgt := 64) hx hb dX12_factory_4 (by decide) (fun c_4 => ?_) (fun c_4 => ?_)
  · have h_5 : iv 0 0 r_1 := iv_eq c_4 hr_1 (iv_k (by decide) : iv 0 0 0) (by decide)
    exact hj64 gm hvx hvzs KS_rf hI _ _ _ hP hD hS (lv_sub hl [0, 1, 2, 3, 4, 5, 6, 7, 8] rfl)
  · have h_6 : iv 1 1 r_1 := iv_neL c_4 hr_1 (by decide)
    refine lv_iload_n hx hb dX12_factory_7 rfl (lv_at hl 2 rfl) ?_
    refine cm_callS (rest := []) (as := [.int nm]) ⟨hx, hb, hml, hown, htb⟩ (d_isLetter l dC dI ad cid a2 lx sg gm lg nm hI) (va_cwS 1 htb (gd_S kw_272 kw_273 kw_2 kw_1399) rfl rfl rfl (by decide +kernel) ⟨Nat.le_of_ble_eq_true rfl, Nat.le_of_ble_eq_true rfl⟩)  rfl hl.1 rfl (Nat.le_trans cs_n (by decide)) dX12_factory_8 ⟨Nat.le_of_ble_eq_true rfl, Nat.le_of_ble_eq_true rfl⟩ hK hP hD hS hA hG (fun E ce q9 u_8 H locs hw hP hD hS hce hcv hcl => ?_) (fun v9 u_8 H locs hw hP hD hS => ?_)
    · exact hw.elim
    obtain ⟨r_7, rfl, rfl, hr_7, fc_r_7⟩ := hw
    have hP : va_P (dC, dI) vwCl (cW ad cid a2 lx sg gm lg) H := hP
    have hD : va_D A (cW ad cid a2 lx sg gm lg) := hD
    refine W.eq (g2 := F0 m 11 ls [.int r_7]) rfl ?_
    refine lv_if_eq (tgt := 64) hx hb dX12_factory_11 (by decide) (fun c_10 => ?_) (fun c_10 => ?_)
    · have h_11 : iv 0 0 r_7 := iv_eq c_10 hr_7 (iv_k (by decide) : iv 0 0 0) (by decide)
      exact hj64 gm hvx hvzs KS_rf hI _ _ _ hP hD hS (lv_sub hl [0, 1, 2, 3, 4, 5, 6, 7, 8] rfl)
    · have h_12 : iv 1 1 r_7 := iv_neL c_10 hr_7 (by decide)
      refine lv_iload hx hb dX12_factory_14 (lv_at hl 4 rfl) ?_
      refine cm_callS (rest := []) (as := [.int re]) ⟨hx, hb, hml, hown, htb⟩ (d_isClass2 l dC dI ad cid a2 lx sg gm lg re hI) (va_cwS 1 htb (gd_S kw_227 kw_228 kw_2 kw_1385) rfl rfl rfl (by decide +kernel) ⟨Nat.le_of_ble_eq_true rfl, Nat.le_of_ble_eq_true rfl⟩)  rfl hl.1 rfl (Nat.le_trans cs_n (by decide)) dX12_factory_16 ⟨Nat.le_of_ble_eq_true rfl, Nat.le_of_ble_eq_true rfl⟩ hK hP hD hS hA hG (fun E ce q9 u_14 H locs hw hP hD hS hce hcv hcl => ?_) (fun v9 u_14 H locs hw hP hD hS => ?_)
      · exact hw.elim
      obtain ⟨r_13, rfl, rfl, hr_13, fl_r_13⟩ := hw
      have hP : va_P (dC, dI) vwCl (cW ad cid a2 lx sg gm lg) H := hP
      have hD : va_D A (cW ad cid a2 lx sg gm lg) := hD
      refine W.eq (g2 := F0 m 19 ls [.int r_13]) rfl ?_
      refine lv_if_eq (tgt := 64) hx hb dX12_factory_19 (by decide) (fun c_16 => ?_) (fun c_16 => ?_)
      · have h_17 : iv 0 0 r_13 := iv_eq c_16 hr_13 (iv_k (by decide) : iv 0 0 0) (by decide)
        exact hj64 gm hvx hvzs KS_rf hI _ _ _ hP hD hS (lv_sub hl [0, 1, 2, 3, 4, 5, 6, 7, 8] rfl)
      · have h_18 : iv 1 1 r_13 := iv_neL c_16 hr_13 (by decide)
        refine lv_iload hx hb dX12_factory_22 (lv_at hl 5 rfl) ?_
        refine lv_iload hx hb dX12_factory_24 (lv_at hl 6 rfl) ?_
        refine lv_iload hx hb dX12_factory_26 (lv_at hl 7 rfl) ?_
        refine lv_iload hx hb dX12_factory_28 (lv_at hl 8 rfl) ?_
        refine cm_callS (rest := []) (as := [.int na, .int ta, .int ub, .int uc]) ⟨hx, hb, hml, hown, htb⟩ (d_areTypes l dC dI ad cid a2 lx sg gm lg na ta ub uc hI) (va_cwS 4 htb (gd_S kw_245 kw_246 kw_2 kw_1390) rfl rfl rfl (by decide +kernel) ⟨Nat.le_of_ble_eq_true rfl, Nat.le_of_ble_eq_true rfl⟩)  rfl hl.1 rfl (Nat.le_trans cs_n (by decide)) dX12_factory_30 ⟨Nat.le_of_ble_eq_true rfl, Nat.le_of_ble_eq_true rfl⟩ hK hP hD hS hA hG (fun E ce q9 u_20 H locs hw hP hD hS hce hcv hcl => ?_) (fun v9 u_20 H locs hw hP hD hS => ?_)
        · exact hw.elim
        obtain ⟨r_19, rfl, rfl, hr_19, fc_r_19⟩ := hw
        have hP : va_P (dC, dI) vwCl (cW ad cid a2 lx sg gm lg) H := hP
        have hD : va_D A (cW ad cid a2 lx sg gm lg) := hD
        refine W.eq (g2 := F0 m 33 ls [.int r_19]) rfl ?_
        refine lv_if_eq (tgt := 64) hx hb dX12_factory_33 (by decide) (fun c_22 => ?_) (fun c_22 => ?_)
        · have h_23 : iv 0 0 r_19 := iv_eq c_22 hr_19 (iv_k (by decide) : iv 0 0 0) (by decide)
          exact hj64 gm hvx hvzs KS_rf hI _ _ _ hP hD hS (lv_sub hl [0, 1, 2, 3, 4, 5, 6, 7, 8] rfl)
        · have h_24 : iv 1 1 r_19 := iv_neL c_22 hr_19 (by decide)
          have h_25 : iv 0 7 ca := ⟨by have := fl_r_1; have := i32_0; have := i32_1; have := i32_2; have := i32_m1; have := (hvx).1; have := (hvx).2; have := (hvzs).1; have := (hvzs).2; have := (h_6).1; have := (h_6).2; have := (h_12).1; have := (h_12).2; have := (h_18).1; have := (h_18).2; have := (h_24).1; have := (h_24).2; omega, by have := fl_r_1; have := i32_0; have := i32_1; have := i32_2; have := i32_m1; have := (hvx).1; have := (hvx).2; have := (hvzs).1; have := (hvzs).2; have := (h_6).1; have := (h_6).2; have := (h_12).1; have := (h_12).2; have := (h_18).1; have := (h_18).2; have := (h_24).1; have := (h_24).2; omega⟩
          have h_26 : iv 0 25 nm := fc_r_7.resolve_left (by have := i32_0; have := i32_1; have := i32_2; have := i32_m1; have := (hvx).1; have := (hvx).2; have := (hvzs).1; have := (hvzs).2; have := (h_6).1; have := (h_6).2; have := (h_12).1; have := (h_12).2; have := (h_18).1; have := (h_18).2; have := (h_24).1; have := (h_24).2; have := (h_25).1; have := (h_25).2; omega)
          have h_27 : iv 0 7 re := ⟨by have := fl_r_13; have := i32_0; have := i32_1; have := i32_2; have := i32_m1; have := (hvx).1; have := (hvx).2; have := (hvzs).1; have := (hvzs).2; have := (h_6).1; have := (h_6).2; have := (h_12).1; have := (h_12).2; have := (h_18).1; have := (h_18).2; have := (h_24).1; have := (h_24).2; have := (h_25).1; have := (h_25).2; have := (h_26).1; have := (h_26).2; omega, by have := fl_r_13; have := i32_0; have := i32_1; have := i32_2; have := i32_m1; have := (hvx).1; have := (hvx).2; have := (hvzs).1; have := (hvzs).2; have := (h_6).1; have := (h_6).2; have := (h_12).1; have := (h_12).2; have := (h_18).1; have := (h_18).2; have := (h_24).1; have := (h_24).2; have := (h_25).1; have := (h_25).2; have := (h_26).1; have := (h_26).2; omega⟩
          have h_28 : iv 0 3 na := fc_r_19.resolve_left (by have := i32_0; have := i32_1; have := i32_2; have := i32_m1; have := (hvx).1; have := (hvx).2; have := (hvzs).1; have := (hvzs).2; have := (h_6).1; have := (h_6).2; have := (h_12).1; have := (h_12).2; have := (h_18).1; have := (h_18).2; have := (h_24).1; have := (h_24).2; have := (h_25).1; have := (h_25).2; have := (h_26).1; have := (h_26).2; have := (h_27).1; have := (h_27).2; omega)
          refine ec_aload_n hx hb dX12_factory_36 rfl (lv_at hl 0 rfl) ?_
          refine cr_get (t := 0) (j := 0) (C := RX12) (T := TX12) (N := 12) (v := eV (ad 12) 0) hx hb htb inX12 hown hK hP hvx (by decide) (by decide) (by decide) rfl (by decide) (htb _ kw_13) (cV_c rfl (by decide) (by rw [show cMu 0 0 = 0 from rfl, Nat.zero_mul]; rfl)) dX12_factory_37 ?_
          refine lv_iload_n hx hb dX12_factory_40 rfl (lv_at hl 1 rfl) ?_
          refine cr_aald (t := 12) (C := RX2) (v := eV (ad 7) ca) hx hb hK hP (iv_k (by decide) : iv 0 0 0) (by decide) (by decide) (by decide) (by decide) (by decide) rfl (show vp_in ca (cLen 12) from (show vp_in ca 8 from (iv_in h_25 (by decide)))) (cAr_c (by decide) (h_25).1 (by rw [show cAm 12 = 0 from rfl, Nat.zero_mul, show cAo 12 = 0 from rfl]; omega)) dX12_factory_41 ?_
          refine lv_iload_n hx hb dX12_factory_42 rfl (lv_at hl 2 rfl) ?_
          refine lv_iload_n hx hb dX12_factory_43 rfl (lv_at hl 3 rfl) ?_
          refine lv_iload hx hb dX12_factory_44 (lv_at hl 4 rfl) ?_
          refine lv_iload hx hb dX12_factory_46 (lv_at hl 5 rfl) ?_
          refine lv_iload hx hb dX12_factory_48 (lv_at hl 6 rfl) ?_
          refine lv_iload hx hb dX12_factory_50 (lv_at hl 7 rfl) ?_
          refine lv_iload hx hb dX12_factory_52 (lv_at hl 8 rfl) ?_
          refine cm_callV (t := 7) (C := RX2) (T := TX2) (N := 8) (rest := []) (as := [.int nm, .int zs, .int re, .int na, .int ta, .int ub, .int uc]) ⟨hx, hb, hml, hown, htb⟩ (d_addFactory l dC dI ad cid a2 lx sg gm lg ca nm zs re na ta ub uc hI h_25 h_26 hvzs h_27 h_28) (cwV 7 htb (gd_V kw_285 kw_286 kw_287 kw_15 kw_1404) rfl rfl rfl (by decide +kernel) ⟨Nat.le_of_ble_eq_true rfl, Nat.le_of_ble_eq_true rfl⟩) h_25 (by decide) (by decide) rfl rfl hl.1 rfl (Nat.le_trans cs_n (by decide)) dX12_factory_54 ⟨Nat.le_of_ble_eq_true rfl, Nat.le_of_ble_eq_true rfl⟩ hK hP hD hS hA hG (fun E ce q9 u_30 H locs hw hP hD hS hce hcv hcl => ?_) (fun v9 u_30 H locs hw hP hD hS => ?_)
          · exact hw.elim
          obtain ⟨r_29, rfl, sgv_31, gmv_31, lgv_31, rfl, hIv_31, ksv_31, kgv_31, klv_31, hr_29⟩ := hw
          obtain rfl := KS_nil ksv_31
          obtain rfl := KS_nil klv_31
          have hP : va_P (dC, dI) vwCl (cW ad cid a2 lx sg gmv_31 lg) H := hP
          have hD : va_D A (cW ad cid a2 lx sg gmv_31 lg) := hD
          refine W.eq (g2 := F0 m 57 ls [.int r_29]) rfl ?_
          refine lv_if_eq (tgt := 64) hx hb dX12_factory_57 (by decide) (fun c_32 => ?_) (fun c_32 => ?_)
          · have h_33 : iv 0 0 r_29 := iv_eq c_32 hr_29 (iv_k (by decide) : iv 0 0 0) (by decide)
            exact hj64 gmv_31 hvx hvzs (KS_tr (L := [1, 7, 8, 9, 10, 54]) KS_rf kgv_31 (by decide)) hIv_31 _ _ _ hP hD hS (lv_sub hl [0, 1, 2, 3, 4, 5, 6, 7, 8] rfl)
          · have h_34 : iv 1 1 r_29 := iv_neL c_32 hr_29 (by decide)
            refine lv_iconst (v := 1) hx hb dX12_factory_60 (by decide) ?_
            refine lv_goto (tgt := 65) hx hb dX12_factory_61 (by decide) ?_
            exact hj65 gmv_31 1 hvx hvzs (iv_w (iv_k (by decide) : iv 1 1 1) (by decide)) (KS_tr (L := [1, 7, 8, 9, 10, 54]) KS_rf kgv_31 (by decide)) hIv_31 _ _ _ hP hD hS (lv_sub hl [0, 1, 2, 3, 4, 5, 6, 7, 8] rfl)

set_option maxHeartbeats 4000000 in
set_option maxRecDepth 100000 in
theorem d_typedBehind (l : Launch) (dC : Nat → ClassId) (dI : Nat → Nat → Nat) (ad : Nat → Nat → Nat) (cid : Nat → ClassId) (a2 : Nat → Nat) (lx : List Nat) (sg : Nat → Int32) (gm : Nat → Nat → Int32) (lg : Nat → Nat → Int64) (x : Int32) (st : Int32) (fo : Int32) (hI : CI sg gm) (hvx : iv 0 0 x) (hvst : iv (-1) 1200 st) : CMt dC dI ad cid a2 lx l yX12_typedBehind wm_X12_typedBehind ({ frames := 0, cells := 1, slots := 6, locals := 0 }) [eV (ad 0) x, .int st, .int fo] sg gm lg (fun v u => ∃ r : Int32, v = some (.int r) ∧ ∃ (sg2 : Nat → Int32) (gm2 : Nat → Nat → Int32) (lg2 : Nat → Nat → Int64), u = (sg2, gm2, lg2) ∧ CI sg2 gm2 ∧ KS [] sg sg2 ∧ KS [43] gm gm2 ∧ KS [] lg lg2 ∧ (iv (-1) 1200 r)) (fun _ _ => False) := by
  intro sz
  refine vx_ofW (cc := cX12_typedBehind) (maxL := 6) (ret := (some .int)) (by decide) rfl ?_
  intro p e s m args below meth c s₁ B hml hxt hv
  obtain ⟨rfl, hsz, hP, hK, hD0, hG⟩ := hv
  have hx := B.exec
  have hb := B.bytes
  have hr := B.returns
  have hts := atoms_spec (ws := wm_X12_typedBehind) B.pre
  have htb := fun (w : Cond) (h : w ∈ tb) => hts w (List.mem_cons_of_mem _ h)
  have hown : s.vm.findClass RX12 = some m.cls := findClass_of_methodNamed B.named
  have hlocks := B.notSynchronized
  subst hsz
  have hD := hD0.self (sz := s.heap.size)
  generalize hAe : va_A (cW ad cid a2 lx sg gm lg) s.heap.size = A at hD hG ⊢
  have hA : ∀ q : Nat, s.heap.size ≤ q → A q := fun q h => by rw [← hAe]; exact Or.inr h
  have hS : va_S A s.heap s.heap [] := va_S.rf
  have hl := lv_entry ([eV (ad 0) x, .int st, .int fo]) (n := 6) (by rw [show (lg_sl ([eV (ad 0) x, .int st, .int fo])).length = 3 from by simp [lg_sl, eV_cat, cat_i, cat_l]]; exact Nat.le_of_ble_eq_true rfl)
  rw [lg_entry_eq]
  generalize (lg_sl ([eV (ad 0) x, .int st, .int fo]) ++ List.replicate (6 - (lg_sl ([eV (ad 0) x, .int st, .int fo])).length) Slot.unset).toArray = ls at hl ⊢
  have hl : lv_has ls 6 [(0, eV (ad 0) x), (1, .int st), (2, .int fo)] := by simp [lv_args, eV_cat, cat_i, cat_l] at hl; exact hl
  have hj66 : ∀ (gm_j66 : Nat → Nat → Int32) (x5_66 : Int32) (x4_66 : Int32) (x3_66 : Int32) (_ : iv 1 255 x5_66) (_ : iv 0 24 x4_66) (_ : iv 0 1200 x3_66) (_ : iv 0 0 x) (_ : iv 0 1200 st) (_ : KS [43] gm gm_j66) (_ : CI sg gm_j66) (H : Heap) (locs : List Loc) (ls : Array Slot), va_P (dC, dI) vwCl (cW ad cid a2 lx sg gm_j66 lg) H → va_D A (cW ad cid a2 lx sg gm_j66 lg) → va_S A s.heap H locs → lv_has ls 6 [(5, .int x5_66), (4, .int x4_66), (3, .int x3_66), (0, eV (ad 0) x), (1, .int st), (2, .int fo)] → W p l e (headSpec wm_X12_typedBehind ({ frames := 0, cells := 1, slots := 6, locals := 0 })).room s m ([eV (ad 0) x, .int st, .int fo] : List Value).toArray below meth c H locs 0 0 (vx_MQ below (cQx dC dI ad cid a2 lx (fun v u => ∃ r : Int32, v = some (.int r) ∧ ∃ (sg2 : Nat → Int32) (gm2 : Nat → Nat → Int32) (lg2 : Nat → Nat → Int64), u = (sg2, gm2, lg2) ∧ CI sg2 gm2 ∧ KS [] sg sg2 ∧ KS [43] gm gm2 ∧ KS [] lg lg2 ∧ (iv (-1) 1200 r)) A) (cX dC dI ad cid a2 lx (fun _ _ => False) A) ([eV (ad 0) x, .int st, .int fo] : List Value).toArray s 1 6 A) (F0 m 66 ls []) := by
    intro gm_j66 x5_66 x4_66 x3_66 hx5_66 hx4_66 hx3_66 hsx0_66 hsx1_66 hkg_j66 hI_j66 H locs ls hP hD hS hl
    refine lv_iconst (v := (-1)) hx hb dX12_typedBehind_66 (by decide) ?_
    exact W.nb (fun hN => W.widen (k := 1) (n := 6) (by decide) (by decide) (vx_ret (W.iret (v := (-1)) hx hb hr (fun t ht hW => ⟨⟨some (.int (-1)), (sg, gm_j66, lg), rfl, ⟨(-1), rfl, sg, gm_j66, lg, rfl, hI_j66, KS_rf, (KS_tr (L := [43]) KS_rf hkg_j66 (by decide)), KS_rf, (iv_w (iv_k (by decide) : iv (-1) (-1) (-1)) (by decide))⟩, by rw [ht]; exact hP, va_K.moved hW.alike hK, hD⟩, hS.F ht, by rw [ht]; exact hN⟩) hS.2.2 dX12_typedBehind_67)))
  have hj13 : ∀ (n : Nat) (gm_j13 : Nat → Nat → Int32) (x4_13 : Int32) (x3_13 : Int32) (_ : (x4_13.toInt + 8).toNat = n) (_ : iv (-8) 24 x4_13) (_ : iv 0 1200 x3_13) (_ : iv 0 0 x) (_ : iv 0 1200 st) (_ : KS [43] gm gm_j13) (_ : CI sg gm_j13) (H : Heap) (locs : List Loc) (ls : Array Slot), va_P (dC, dI) vwCl (cW ad cid a2 lx sg gm_j13 lg) H → va_D A (cW ad cid a2 lx sg gm_j13 lg) → va_S A s.heap H locs → lv_has ls 6 [(4, .int x4_13), (3, .int x3_13), (0, eV (ad 0) x), (1, .int st), (2, .int fo)] → W p l e (headSpec wm_X12_typedBehind ({ frames := 0, cells := 1, slots := 6, locals := 0 })).room s m ([eV (ad 0) x, .int st, .int fo] : List Value).toArray below meth c H locs 0 0 (vx_MQ below (cQx dC dI ad cid a2 lx (fun v u => ∃ r : Int32, v = some (.int r) ∧ ∃ (sg2 : Nat → Int32) (gm2 : Nat → Nat → Int32) (lg2 : Nat → Nat → Int64), u = (sg2, gm2, lg2) ∧ CI sg2 gm2 ∧ KS [] sg sg2 ∧ KS [43] gm gm2 ∧ KS [] lg lg2 ∧ (iv (-1) 1200 r)) A) (cX dC dI ad cid a2 lx (fun _ _ => False) A) ([eV (ad 0) x, .int st, .int fo] : List Value).toArray s 1 6 A) (F0 m 13 ls []) := by
    intro n
    induction n using Nat.strongRecOn with
    | ind n ih13 =>
      intro gm_j13 x4_13 x3_13 hn13 hx4_13 hx3_13 hsx0_13 hsx1_13 hkg_j13 hI_j13 H locs ls hP hD hS hl
      have hj80 : ∀ (gm_j80 : Nat → Nat → Int32) (x5_80 : Int32) (x3_80 : Int32) (_ : iv 0 126 x5_80) (_ : iv 0 24 x4_13) (_ : iv 0 1200 x3_80) (_ : iv 0 0 x) (_ : iv 0 1200 st) (_ : KS [43] gm gm_j80) (_ : CI sg gm_j80) (H : Heap) (locs : List Loc) (ls : Array Slot), va_P (dC, dI) vwCl (cW ad cid a2 lx sg gm_j80 lg) H → va_D A (cW ad cid a2 lx sg gm_j80 lg) → va_S A s.heap H locs → lv_has ls 6 [(5, .int x5_80), (4, .int x4_13), (3, .int x3_80), (0, eV (ad 0) x), (1, .int st), (2, .int fo)] → W p l e (headSpec wm_X12_typedBehind ({ frames := 0, cells := 1, slots := 6, locals := 0 })).room s m ([eV (ad 0) x, .int st, .int fo] : List Value).toArray below meth c H locs 0 0 (vx_MQ below (cQx dC dI ad cid a2 lx (fun v u => ∃ r : Int32, v = some (.int r) ∧ ∃ (sg2 : Nat → Int32) (gm2 : Nat → Nat → Int32) (lg2 : Nat → Nat → Int64), u = (sg2, gm2, lg2) ∧ CI sg2 gm2 ∧ KS [] sg sg2 ∧ KS [43] gm gm2 ∧ KS [] lg lg2 ∧ (iv (-1) 1200 r)) A) (cX dC dI ad cid a2 lx (fun _ _ => False) A) ([eV (ad 0) x, .int st, .int fo] : List Value).toArray s 1 6 A) (F0 m 80 ls []) := by
        intro gm_j80 x5_80 x3_80 hx5_80 hsx4_80 hx3_80 hsx0_80 hsx1_80 hkg_j80 hI_j80 H locs ls hP hD hS hl
        obtain ⟨z_1, ez_1⟩ : ∃ z : Int32, z = x4_13 + (-8) := ⟨_, rfl⟩
        have hz_1 : iv (-8) 16 z_1 := iv_of ez_1 (iv_add hsx4_80 (iv_k (by decide) : iv (-8) (-8) (-8)) (by decide))
        have tz_1 : z_1.toInt = x4_13.toInt - 8 := by rw [ez_1]; exact iv_addE hsx4_80 (iv_k (by decide) : iv (-8) (-8) (-8)) (by decide)
        refine lv_iinc (v := z_1) (lv' := [(4, .int z_1), (5, .int x5_80), (3, .int x3_80), (0, eV (ad 0) x), (1, .int st), (2, .int fo)]) hx hb dX12_typedBehind_80 hl (k := 1) rfl ez_1.symm (by decide) rfl (fun ls hl => ?_)
        refine lv_goto (tgt := 13) hx hb dX12_typedBehind_83 (by decide) ?_
        exact ih13 _ (by rw [← hn13]; exact (by have := i32_0; have := i32_1; have := i32_2; have := i32_m1; have := (hsx0_80).1; have := (hsx0_80).2; have := (hsx1_80).1; have := (hsx1_80).2; have := (hsx4_80).1; have := (hsx4_80).2; have := (hx3_13).1; have := (hx3_13).2; have := (hx5_80).1; have := (hx5_80).2; have := (hx3_80).1; have := (hx3_80).2; have := (hz_1).1; have := (hz_1).2; omega)) gm_j80 z_1 x3_80 rfl (iv_w hz_1 (by decide)) hx3_80 hsx0_80 hsx1_80 (KS_tr (L := [43]) KS_rf hkg_j80 (by decide)) hI_j80 _ _ _ hP hD hS (lv_sub hl [0, 2, 3, 4, 5] rfl)
      have hj57 : ∀ (gm_j57 : Nat → Nat → Int32) (x5_57 : Int32) (_ : iv 10 126 x5_57) (_ : iv 0 24 x4_13) (_ : iv 0 1200 x3_13) (_ : iv 0 0 x) (_ : iv 0 1200 st) (_ : KS [43] gm gm_j57) (_ : CI sg gm_j57) (H : Heap) (locs : List Loc) (ls : Array Slot), va_P (dC, dI) vwCl (cW ad cid a2 lx sg gm_j57 lg) H → va_D A (cW ad cid a2 lx sg gm_j57 lg) → va_S A s.heap H locs → lv_has ls 6 [(5, .int x5_57), (4, .int x4_13), (3, .int x3_13), (0, eV (ad 0) x), (1, .int st), (2, .int fo)] → W p l e (headSpec wm_X12_typedBehind ({ frames := 0, cells := 1, slots := 6, locals := 0 })).room s m ([eV (ad 0) x, .int st, .int fo] : List Value).toArray below meth c H locs 0 0 (vx_MQ below (cQx dC dI ad cid a2 lx (fun v u => ∃ r : Int32, v = some (.int r) ∧ ∃ (sg2 : Nat → Int32) (gm2 : Nat → Nat → Int32) (lg2 : Nat → Nat → Int64), u = (sg2, gm2, lg2) ∧ CI sg2 gm2 ∧ KS [] sg sg2 ∧ KS [43] gm gm2 ∧ KS [] lg lg2 ∧ (iv (-1) 1200 r)) A) (cX dC dI ad cid a2 lx (fun _ _ => False) A) ([eV (ad 0) x, .int st, .int fo] : List Value).toArray s 1 6 A) (F0 m 57 ls []) := by
        intro gm_j57 x5_57 hx5_57 hsx4_57 hsx3_57 hsx0_57 hsx1_57 hkg_j57 hI_j57 H locs ls hP hD hS hl
        refine lv_iload_n hx hb dX12_typedBehind_57 rfl (lv_at hl 2 rfl) ?_
        refine ec_aload_n hx hb dX12_typedBehind_58 rfl (lv_at hl 3 rfl) ?_
        refine cr_get (t := 0) (j := 1) (C := RX12) (T := TX12) (N := 12) (v := eV (ad 13) 0) hx hb htb inX12 hown hK hP hsx0_57 (by decide) (by decide) (by decide) rfl (by decide) (htb _ kw_17) (cV_c rfl (by decide) (by rw [show cMu 0 1 = 0 from rfl, Nat.zero_mul]; rfl)) dX12_typedBehind_59 ?_
        refine cr_alen (t := 13) (z := 1200) hx hb hK hP (iv_k (by decide) : iv 0 0 0) (by decide) (by decide) (by decide) rfl dX12_typedBehind_62 ?_
        refine lv_icmp_lt (tgt := 68) hx hb dX12_typedBehind_63 (by decide) (fun c_2 => ?_) (fun c_2 => ?_)
        · have h_3 : iv 0 1199 x3_13 := iv_ltL c_2 hsx3_57 (iv_k (by decide) : iv 1200 1200 1200) (by decide)
          refine ec_aload_n hx hb dX12_typedBehind_68 rfl (lv_at hl 3 rfl) ?_
          refine cr_get (t := 0) (j := 1) (C := RX12) (T := TX12) (N := 12) (v := eV (ad 13) 0) hx hb htb inX12 hown hK hP hsx0_57 (by decide) (by decide) (by decide) rfl (by decide) (htb _ kw_17) (cV_c rfl (by decide) (by rw [show cMu 0 1 = 0 from rfl, Nat.zero_mul]; rfl)) dX12_typedBehind_69 ?_
          refine lv_iload_n hx hb dX12_typedBehind_72 rfl (lv_at hl 2 rfl) ?_
          refine lv_iload hx hb dX12_typedBehind_73 (lv_at hl 0 rfl) ?_
          refine lv_i2c (v := ((x5_57 : Int32).toUInt32 % 65536).toInt32) hx hb dX12_typedBehind_75 rfl ?_
          refine lv_topi (fun z_4 ez_4 => ?_)
          have hz_4 : iv 0 65535 z_4 := iv_of ez_4 (iv_i2c x5_57)
          refine cr_cast (t := 13) (k := 43) (n9 := (x3_13 : Int32).toNatClampNeg) (z := z_4) hx hb hK hP hD hS (iv_k (by decide) : iv 0 0 0) (by decide) (by decide) (by decide) rfl rfl rfl (show vp_in x3_13 (cLen 13) from (show vp_in x3_13 1200 from (iv_in h_3 (by decide)))) (Or.inl rfl) (by rw [show cAw 13 = 0 from rfl, Nat.zero_mul, Nat.zero_add]) dX12_typedBehind_76 (fun gm_5 H locs egm_5 hP hD hS => ?_)
          rw [vnc hz_4] at egm_5
          have hI_gm_5 := CI_st hI_j57 egm_5 hz_4 (by decide)
          obtain ⟨z_6, ez_6⟩ : ∃ z : Int32, z = x3_13 + 1 := ⟨_, rfl⟩
          have hz_6 : iv 1 1200 z_6 := iv_of ez_6 (iv_add h_3 (iv_k (by decide) : iv 1 1 1) (by decide))
          have tz_6 : z_6.toInt = x3_13.toInt + 1 := by rw [ez_6]; exact iv_addE h_3 (iv_k (by decide) : iv 1 1 1) (by decide)
          refine lv_iinc (v := z_6) (lv' := [(3, .int z_6), (5, .int x5_57), (4, .int x4_13), (0, eV (ad 0) x), (1, .int st), (2, .int fo)]) hx hb dX12_typedBehind_77 hl (k := 2) rfl ez_6.symm (by decide) rfl (fun ls hl => ?_)
          exact hj80 gm_5 x5_57 z_6 (iv_w hx5_57 (by decide)) hsx4_57 (iv_w hz_6 (by decide)) hsx0_57 hsx1_57 (KS_up (KS_tr (L := [43]) KS_rf hkg_j57 (by decide)) egm_5 (by decide)) hI_gm_5 _ _ _ hP hD hS (lv_sub hl [1, 2, 0, 3, 4, 5] rfl)
        · have h_7 : iv 1200 1200 x3_13 := iv_leR (i32_ge c_2) (iv_k (by decide) : iv 1200 1200 1200) hsx3_57 (by decide)
          exact hj66 gm_j57 x5_57 x4_13 x3_13 (iv_w hx5_57 (by decide)) hsx4_57 (iv_w h_7 (by decide)) hsx0_57 hsx1_57 (KS_tr (L := [43]) KS_rf hkg_j57 (by decide)) hI_j57 _ _ _ hP hD hS (lv_sub hl [0, 1, 2, 3, 4, 5] rfl)
      refine lv_iload hx hb dX12_typedBehind_13 (lv_at hl 0 rfl) ?_
      refine lv_if_lt (tgt := 86) hx hb dX12_typedBehind_15 (by decide) (fun c_8 => ?_) (fun c_8 => ?_)
      · have h_9 : iv (-8) (-1) x4_13 := iv_ltL c_8 hx4_13 (iv_k (by decide) : iv 0 0 0) (by decide)
        refine lv_iload_n hx hb dX12_typedBehind_86 rfl (lv_at hl 1 rfl) ?_
        exact W.nb (fun hN => W.widen (k := 1) (n := 6) (by decide) (by decide) (vx_ret (W.iret (v := x3_13) hx hb hr (fun t ht hW => ⟨⟨some (.int x3_13), (sg, gm_j13, lg), rfl, ⟨x3_13, rfl, sg, gm_j13, lg, rfl, hI_j13, KS_rf, (KS_tr (L := [43]) KS_rf hkg_j13 (by decide)), KS_rf, (iv_w hx3_13 (by decide))⟩, by rw [ht]; exact hP, va_K.moved hW.alike hK, hD⟩, hS.F ht, by rw [ht]; exact hN⟩) hS.2.2 dX12_typedBehind_87)))
      · have h_10 : iv 0 24 x4_13 := iv_leR (i32_ge c_8) (iv_k (by decide) : iv 0 0 0) hx4_13 (by decide)
        refine lv_iload_n hx hb dX12_typedBehind_18 rfl (lv_at hl 4 rfl) ?_
        refine lv_iload hx hb dX12_typedBehind_19 (lv_at hl 0 rfl) ?_
        refine lv_iushr (v := ((fo).toUInt32 >>> ((x4_13 : Int32).toUInt32 &&& Int32.toUInt32 31)).toInt32) hx hb dX12_typedBehind_21 rfl ?_
        refine lv_topi (fun z_11 ez_11 => ?_)
        refine lv_sipush (v := 255) hx hb dX12_typedBehind_22 (by decide) ?_
        refine lv_iand hx hb dX12_typedBehind_25 ?_
        refine lv_topi (fun z_12 ez_12 => ?_)
        have hz_12 : iv 0 255 z_12 := iv_of ez_12 (iv_255 _)
        refine lv_istore (i := 5) (lv' := [(5, .int z_12), (4, .int x4_13), (3, .int x3_13), (0, eV (ad 0) x), (1, .int st), (2, .int fo)]) hx hb dX12_typedBehind_26 hl (by decide) rfl (fun ls hl => ?_)
        refine lv_iload hx hb dX12_typedBehind_28 (lv_at hl 0 rfl) ?_
        refine lv_if_ne (tgt := 36) hx hb dX12_typedBehind_30 (by decide) (fun c_13 => ?_) (fun c_13 => ?_)
        · have h_14 : iv 1 255 z_12 := iv_neL c_13 hz_12 (by decide)
          refine lv_iload hx hb dX12_typedBehind_36 (lv_at hl 0 rfl) ?_
          refine lv_bipush (v := 10) hx hb dX12_typedBehind_38 (by decide) ?_
          refine lv_icmp_eq (tgt := 57) hx hb dX12_typedBehind_40 (by decide) (fun c_15 => ?_) (fun c_15 => ?_)
          · have h_16 : iv 10 10 z_12 := iv_eq c_15 h_14 (iv_k (by decide) : iv 10 10 10) (by decide)
            exact hj57 gm_j13 z_12 (iv_w h_16 (by decide)) h_10 hx3_13 hsx0_13 hsx1_13 (KS_tr (L := [43]) KS_rf hkg_j13 (by decide)) hI_j13 _ _ _ hP hD hS (lv_sub hl [0, 1, 2, 3, 4, 5] rfl)
          · have d_17 : ¬ (z_12 : Int32).toInt = 10 := lv_neT c_15 rfl
            refine lv_iload hx hb dX12_typedBehind_43 (lv_at hl 0 rfl) ?_
            refine lv_bipush (v := 32) hx hb dX12_typedBehind_45 (by decide) ?_
            refine lv_icmp_lt (tgt := 66) hx hb dX12_typedBehind_47 (by decide) (fun c_18 => ?_) (fun c_18 => ?_)
            · have h_19 : iv 1 31 z_12 := iv_ltL c_18 h_14 (iv_k (by decide) : iv 32 32 32) (by decide)
              exact hj66 gm_j13 z_12 x4_13 x3_13 (iv_w h_19 (by decide)) h_10 hx3_13 hsx0_13 hsx1_13 (KS_tr (L := [43]) KS_rf hkg_j13 (by decide)) hI_j13 _ _ _ hP hD hS (lv_sub hl [0, 1, 2, 3, 4, 5] rfl)
            · have h_20 : iv 32 255 z_12 := iv_leR (i32_ge c_18) (iv_k (by decide) : iv 32 32 32) h_14 (by decide)
              refine lv_iload hx hb dX12_typedBehind_50 (lv_at hl 0 rfl) ?_
              refine lv_bipush (v := 126) hx hb dX12_typedBehind_52 (by decide) ?_
              refine lv_icmp_gt (tgt := 66) hx hb dX12_typedBehind_54 (by decide) (fun c_21 => ?_) (fun c_21 => ?_)
              · have h_22 : iv 127 255 z_12 := iv_ltR c_21 (iv_k (by decide) : iv 126 126 126) h_20 (by decide)
                exact hj66 gm_j13 z_12 x4_13 x3_13 (iv_w h_22 (by decide)) h_10 hx3_13 hsx0_13 hsx1_13 (KS_tr (L := [43]) KS_rf hkg_j13 (by decide)) hI_j13 _ _ _ hP hD hS (lv_sub hl [0, 1, 2, 3, 4, 5] rfl)
              · have h_23 : iv 32 126 z_12 := iv_leL (i32_ge c_21) h_20 (iv_k (by decide) : iv 126 126 126) (by decide)
                exact hj57 gm_j13 z_12 (iv_w h_23 (by decide)) h_10 hx3_13 hsx0_13 hsx1_13 (KS_tr (L := [43]) KS_rf hkg_j13 (by decide)) hI_j13 _ _ _ hP hD hS (lv_sub hl [0, 1, 2, 3, 4, 5] rfl)
        · have h_24 : iv 0 0 z_12 := iv_eq c_13 hz_12 (iv_k (by decide) : iv 0 0 0) (by decide)
          refine lv_goto (tgt := 80) hx hb dX12_typedBehind_33 (by decide) ?_
          exact hj80 gm_j13 z_12 x3_13 (iv_w h_24 (by decide)) h_10 hx3_13 hsx0_13 hsx1_13 (KS_tr (L := [43]) KS_rf hkg_j13 (by decide)) hI_j13 _ _ _ hP hD hS (lv_sub hl [0, 1, 2, 3, 4, 5] rfl)
  refine lv_iload_n hx hb dX12_typedBehind_0 rfl (lv_at hl 1 rfl) ?_
  refine lv_iconst (v := (-1)) hx hb dX12_typedBehind_1 (by decide) ?_
  refine lv_icmp_ne (tgt := 7) hx hb dX12_typedBehind_2 (by decide) (fun c_25 => ?_) (fun c_25 => ?_)
  · have h_26 : iv 0 1200 st := iv_neL c_25 hvst (by decide)
    refine lv_iload_n hx hb dX12_typedBehind_7 rfl (lv_at hl 1 rfl) ?_
    refine lv_istore_n (i := 3) (lv' := [(3, .int st), (0, eV (ad 0) x), (1, .int st), (2, .int fo)]) hx hb dX12_typedBehind_8 rfl hl (by decide) rfl (fun ls hl => ?_)
    refine lv_bipush (v := 24) hx hb dX12_typedBehind_9 (by decide) ?_
    refine lv_istore (i := 4) (lv' := [(4, .int 24), (3, .int st), (0, eV (ad 0) x), (1, .int st), (2, .int fo)]) hx hb dX12_typedBehind_11 hl (by decide) rfl (fun ls hl => ?_)
    exact hj13 _ gm 24 st rfl (iv_w (iv_k (by decide) : iv 24 24 24) (by decide)) h_26 hvx h_26 KS_rf hI _ _ _ hP hD hS (lv_sub hl [0, 1, 2, 3, 4] rfl)
  · have h_27 : iv (-1) (-1) st := iv_eq c_25 hvst (iv_k (by decide) : iv (-1) (-1) (-1)) (by decide)
    refine lv_iconst (v := (-1)) hx hb dX12_typedBehind_5 (by decide) ?_
    exact W.nb (fun hN => W.widen (k := 1) (n := 6) (by decide) (by decide) (vx_ret (W.iret (v := (-1)) hx hb hr (fun t ht hW => ⟨⟨some (.int (-1)), (sg, gm, lg), rfl, ⟨(-1), rfl, sg, gm, lg, rfl, hI, KS_rf, KS_rf, KS_rf, (iv_w (iv_k (by decide) : iv (-1) (-1) (-1)) (by decide))⟩, by rw [ht]; exact hP, va_K.moved hW.alike hK, hD⟩, hS.F ht, by rw [ht]; exact hN⟩) hS.2.2 dX12_typedBehind_6)))

set_option maxHeartbeats 4000000 in
set_option maxRecDepth 100000 in
theorem d_type (l : Launch) (dC : Nat → ClassId) (dI : Nat → Nat → Nat) (ad : Nat → Nat → Nat) (cid : Nat → ClassId) (a2 : Nat → Nat) (lx : List Nat) (sg : Nat → Int32) (gm : Nat → Nat → Int32) (lg : Nat → Nat → Int64) (x : Int32) (fa : Int32) (fb : Int32) (fc9 : Int32) (fd9 : Int32) (fe9 : Int32) (hI : CI sg gm) (hvx : iv 0 0 x) : CMt dC dI ad cid a2 lx l yX12_type wm_X12_type ({ frames := 1, cells := 1, slots := 6, locals := 25 }) [eV (ad 0) x, .int fa, .int fb, .int fc9, .int fd9, .int fe9] sg gm lg (fun v u => ∃ r : Int32, v = some (.int r) ∧ ∃ (sg2 : Nat → Int32) (gm2 : Nat → Nat → Int32) (lg2 : Nat → Nat → Int64), u = (sg2, gm2, lg2) ∧ CI sg2 gm2 ∧ KS [0] sg sg2 ∧ KS [43] gm gm2 ∧ KS [] lg lg2 ∧ (iv (-1) 1200 r)) (fun _ _ => False) := by
  intro sz
  refine vx_ofW (cc := cX12_type) (maxL := 7) (ret := (some .int)) (by decide) rfl ?_
  intro p e s m args below meth c s₁ B hml hxt hv
  obtain ⟨rfl, hsz, hP, hK, hD0, hG⟩ := hv
  have hx := B.exec
  have hb := B.bytes
  have hr := B.returns
  have hts := atoms_spec (ws := wm_X12_type) B.pre
  have htb := fun (w : Cond) (h : w ∈ tb) => hts w (List.mem_cons_of_mem _ h)
  have hown : s.vm.findClass RX12 = some m.cls := findClass_of_methodNamed B.named
  have hlocks := B.notSynchronized
  subst hsz
  have hD := hD0.self (sz := s.heap.size)
  generalize hAe : va_A (cW ad cid a2 lx sg gm lg) s.heap.size = A at hD hG ⊢
  have hA : ∀ q : Nat, s.heap.size ≤ q → A q := fun q h => by rw [← hAe]; exact Or.inr h
  have hS : va_S A s.heap s.heap [] := va_S.rf
  have hl := lv_entry ([eV (ad 0) x, .int fa, .int fb, .int fc9, .int fd9, .int fe9]) (n := 7) (by rw [show (lg_sl ([eV (ad 0) x, .int fa, .int fb, .int fc9, .int fd9, .int fe9])).length = 6 from by simp [lg_sl, eV_cat, cat_i, cat_l]]; exact Nat.le_of_ble_eq_true rfl)
  rw [lg_entry_eq]
  generalize (lg_sl ([eV (ad 0) x, .int fa, .int fb, .int fc9, .int fd9, .int fe9]) ++ List.replicate (7 - (lg_sl ([eV (ad 0) x, .int fa, .int fb, .int fc9, .int fd9, .int fe9])).length) Slot.unset).toArray = ls at hl ⊢
  have hl : lv_has ls 7 [(0, eV (ad 0) x), (1, .int fa), (2, .int fb), (3, .int fc9), (4, .int fd9), (5, .int fe9)] := by simp [lv_args, eV_cat, cat_i, cat_l] at hl; exact hl
  have hj61 : ∀ (sg_j61 : Nat → Int32) (gm_j61 : Nat → Nat → Int32) (x6_61 : Int32) (_ : iv (-1) 1200 x6_61) (_ : iv 0 0 x) (_ : KS [0] sg sg_j61) (_ : KS [43] gm gm_j61) (_ : CI sg_j61 gm_j61) (H : Heap) (locs : List Loc) (ls : Array Slot), va_P (dC, dI) vwCl (cW ad cid a2 lx sg_j61 gm_j61 lg) H → va_D A (cW ad cid a2 lx sg_j61 gm_j61 lg) → va_S A s.heap H locs → lv_has ls 7 [(6, .int x6_61), (0, eV (ad 0) x), (1, .int fa), (2, .int fb), (3, .int fc9), (4, .int fd9), (5, .int fe9)] → W p l e (headSpec wm_X12_type ({ frames := 1, cells := 1, slots := 6, locals := 25 })).room s m ([eV (ad 0) x, .int fa, .int fb, .int fc9, .int fd9, .int fe9] : List Value).toArray below meth c H locs 0 0 (vx_MQ below (cQx dC dI ad cid a2 lx (fun v u => ∃ r : Int32, v = some (.int r) ∧ ∃ (sg2 : Nat → Int32) (gm2 : Nat → Nat → Int32) (lg2 : Nat → Nat → Int64), u = (sg2, gm2, lg2) ∧ CI sg2 gm2 ∧ KS [0] sg sg2 ∧ KS [43] gm gm2 ∧ KS [] lg lg2 ∧ (iv (-1) 1200 r)) A) (cX dC dI ad cid a2 lx (fun _ _ => False) A) ([eV (ad 0) x, .int fa, .int fb, .int fc9, .int fd9, .int fe9] : List Value).toArray s 1 6 A) (F0 m 61 ls []) := by
    intro sg_j61 gm_j61 x6_61 hx6_61 hsx0_61 hks_j61 hkg_j61 hI_j61 H locs ls hP hD hS hl
    refine lv_iload hx hb dX12_type_61 (lv_at hl 0 rfl) ?_
    exact W.nb (fun hN => W.widen (k := 1) (n := 6) (by decide) (by decide) (vx_ret (W.iret (v := x6_61) hx hb hr (fun t ht hW => ⟨⟨some (.int x6_61), (sg_j61, gm_j61, lg), rfl, ⟨x6_61, rfl, sg_j61, gm_j61, lg, rfl, hI_j61, (KS_tr (L := [0]) KS_rf hks_j61 (by decide)), (KS_tr (L := [43]) KS_rf hkg_j61 (by decide)), KS_rf, hx6_61⟩, by rw [ht]; exact hP, va_K.moved hW.alike hK, hD⟩, hS.F ht, by rw [ht]; exact hN⟩) hS.2.2 dX12_type_63)))
  refine ec_aload_n hx hb dX12_type_0 rfl (lv_at hl 0 rfl) ?_
  refine ec_aload_n hx hb dX12_type_1 rfl (lv_at hl 0 rfl) ?_
  refine cr_get (t := 0) (j := 8) (C := RX12) (T := TX12) (N := 12) (v := .int (sg 0)) hx hb htb inX12 hown hK hP hvx (by decide) (by decide) (by decide) rfl (by decide) (htb _ kw_294) rfl dX12_type_2 ?_
  refine lv_iload_n hx hb dX12_type_5 rfl (lv_at hl 1 rfl) ?_
  refine cm_callV (t := 0) (C := RX12) (T := TX12) (N := 12) (rest := []) (as := [.int (sg 0), .int fa]) ⟨hx, hb, hml, hown, htb⟩ (d_typedBehind l dC dI ad cid a2 lx sg gm lg x (sg 0) fa hI hvx (iv_w (show iv 0 1200 (sg 0) from CI_s hI 0) (by decide))) (cwV 2 htb (gd_V kw_295 kw_296 kw_297 kw_2 kw_1407) rfl rfl rfl (by decide +kernel) ⟨Nat.le_of_ble_eq_true rfl, Nat.le_of_ble_eq_true rfl⟩) hvx (by decide) (by decide) rfl rfl hl.1 rfl (Nat.le_trans cs_n (by decide)) dX12_type_6 ⟨Nat.le_of_ble_eq_true rfl, Nat.le_of_ble_eq_true rfl⟩ hK hP hD hS hA hG (fun E ce q9 u_2 H locs hw hP hD hS hce hcv hcl => ?_) (fun v9 u_2 H locs hw hP hD hS => ?_)
  · exact hw.elim
  obtain ⟨r_1, rfl, sgv_3, gmv_3, lgv_3, rfl, hIv_3, ksv_3, kgv_3, klv_3, hr_1⟩ := hw
  obtain rfl := KS_nil ksv_3
  obtain rfl := KS_nil klv_3
  have hP : va_P (dC, dI) vwCl (cW ad cid a2 lx sg gmv_3 lg) H := hP
  have hD : va_D A (cW ad cid a2 lx sg gmv_3 lg) := hD
  refine W.eq (g2 := F0 m 9 ls [.int r_1]) rfl ?_
  refine lv_istore (i := 6) (lv' := [(6, .int r_1), (0, eV (ad 0) x), (1, .int fa), (2, .int fb), (3, .int fc9), (4, .int fd9), (5, .int fe9)]) hx hb dX12_type_9 hl (by decide) rfl (fun ls hl => ?_)
  refine ec_aload_n hx hb dX12_type_11 rfl (lv_at hl 1 rfl) ?_
  refine lv_iload hx hb dX12_type_12 (lv_at hl 0 rfl) ?_
  refine lv_iload_n hx hb dX12_type_14 rfl (lv_at hl 3 rfl) ?_
  refine cm_callV (t := 0) (C := RX12) (T := TX12) (N := 12) (rest := []) (as := [.int r_1, .int fb]) ⟨hx, hb, hml, hown, htb⟩ (d_typedBehind l dC dI ad cid a2 lx sg gmv_3 lg x r_1 fb hIv_3 hvx hr_1) (cwV 2 htb (gd_V kw_295 kw_296 kw_297 kw_2 kw_1407) rfl rfl rfl (by decide +kernel) ⟨Nat.le_of_ble_eq_true rfl, Nat.le_of_ble_eq_true rfl⟩) hvx (by decide) (by decide) rfl rfl hl.1 rfl (Nat.le_trans cs_n (by decide)) dX12_type_15 ⟨Nat.le_of_ble_eq_true rfl, Nat.le_of_ble_eq_true rfl⟩ hK hP hD hS hA hG (fun E ce q9 u_5 H locs hw hP hD hS hce hcv hcl => ?_) (fun v9 u_5 H locs hw hP hD hS => ?_)
  · exact hw.elim
  obtain ⟨r_4, rfl, sgv_6, gmv_6, lgv_6, rfl, hIv_6, ksv_6, kgv_6, klv_6, hr_4⟩ := hw
  obtain rfl := KS_nil ksv_6
  obtain rfl := KS_nil klv_6
  have hP : va_P (dC, dI) vwCl (cW ad cid a2 lx sg gmv_6 lg) H := hP
  have hD : va_D A (cW ad cid a2 lx sg gmv_6 lg) := hD
  refine W.eq (g2 := F0 m 18 ls [.int r_4]) rfl ?_
  refine lv_istore (i := 6) (lv' := [(6, .int r_4), (0, eV (ad 0) x), (1, .int fa), (2, .int fb), (3, .int fc9), (4, .int fd9), (5, .int fe9)]) hx hb dX12_type_18 hl (by decide) rfl (fun ls hl => ?_)
  refine ec_aload_n hx hb dX12_type_20 rfl (lv_at hl 1 rfl) ?_
  refine lv_iload hx hb dX12_type_21 (lv_at hl 0 rfl) ?_
  refine lv_iload_n hx hb dX12_type_23 rfl (lv_at hl 4 rfl) ?_
  refine cm_callV (t := 0) (C := RX12) (T := TX12) (N := 12) (rest := []) (as := [.int r_4, .int fc9]) ⟨hx, hb, hml, hown, htb⟩ (d_typedBehind l dC dI ad cid a2 lx sg gmv_6 lg x r_4 fc9 hIv_6 hvx hr_4) (cwV 2 htb (gd_V kw_295 kw_296 kw_297 kw_2 kw_1407) rfl rfl rfl (by decide +kernel) ⟨Nat.le_of_ble_eq_true rfl, Nat.le_of_ble_eq_true rfl⟩) hvx (by decide) (by decide) rfl rfl hl.1 rfl (Nat.le_trans cs_n (by decide)) dX12_type_24 ⟨Nat.le_of_ble_eq_true rfl, Nat.le_of_ble_eq_true rfl⟩ hK hP hD hS hA hG (fun E ce q9 u_8 H locs hw hP hD hS hce hcv hcl => ?_) (fun v9 u_8 H locs hw hP hD hS => ?_)
  · exact hw.elim
  obtain ⟨r_7, rfl, sgv_9, gmv_9, lgv_9, rfl, hIv_9, ksv_9, kgv_9, klv_9, hr_7⟩ := hw
  obtain rfl := KS_nil ksv_9
  obtain rfl := KS_nil klv_9
  have hP : va_P (dC, dI) vwCl (cW ad cid a2 lx sg gmv_9 lg) H := hP
  have hD : va_D A (cW ad cid a2 lx sg gmv_9 lg) := hD
  refine W.eq (g2 := F0 m 27 ls [.int r_7]) rfl ?_
  refine lv_istore (i := 6) (lv' := [(6, .int r_7), (0, eV (ad 0) x), (1, .int fa), (2, .int fb), (3, .int fc9), (4, .int fd9), (5, .int fe9)]) hx hb dX12_type_27 hl (by decide) rfl (fun ls hl => ?_)
  refine ec_aload_n hx hb dX12_type_29 rfl (lv_at hl 1 rfl) ?_
  refine lv_iload hx hb dX12_type_30 (lv_at hl 0 rfl) ?_
  refine lv_iload hx hb dX12_type_32 (lv_at hl 5 rfl) ?_
  refine cm_callV (t := 0) (C := RX12) (T := TX12) (N := 12) (rest := []) (as := [.int r_7, .int fd9]) ⟨hx, hb, hml, hown, htb⟩ (d_typedBehind l dC dI ad cid a2 lx sg gmv_9 lg x r_7 fd9 hIv_9 hvx hr_7) (cwV 2 htb (gd_V kw_295 kw_296 kw_297 kw_2 kw_1407) rfl rfl rfl (by decide +kernel) ⟨Nat.le_of_ble_eq_true rfl, Nat.le_of_ble_eq_true rfl⟩) hvx (by decide) (by decide) rfl rfl hl.1 rfl (Nat.le_trans cs_n (by decide)) dX12_type_34 ⟨Nat.le_of_ble_eq_true rfl, Nat.le_of_ble_eq_true rfl⟩ hK hP hD hS hA hG (fun E ce q9 u_11 H locs hw hP hD hS hce hcv hcl => ?_) (fun v9 u_11 H locs hw hP hD hS => ?_)
  · exact hw.elim
  obtain ⟨r_10, rfl, sgv_12, gmv_12, lgv_12, rfl, hIv_12, ksv_12, kgv_12, klv_12, hr_10⟩ := hw
  obtain rfl := KS_nil ksv_12
  obtain rfl := KS_nil klv_12
  have hP : va_P (dC, dI) vwCl (cW ad cid a2 lx sg gmv_12 lg) H := hP
  have hD : va_D A (cW ad cid a2 lx sg gmv_12 lg) := hD
  refine W.eq (g2 := F0 m 37 ls [.int r_10]) rfl ?_
  refine lv_istore (i := 6) (lv' := [(6, .int r_10), (0, eV (ad 0) x), (1, .int fa), (2, .int fb), (3, .int fc9), (4, .int fd9), (5, .int fe9)]) hx hb dX12_type_37 hl (by decide) rfl (fun ls hl => ?_)
  refine ec_aload_n hx hb dX12_type_39 rfl (lv_at hl 1 rfl) ?_
  refine lv_iload hx hb dX12_type_40 (lv_at hl 0 rfl) ?_
  refine lv_iload hx hb dX12_type_42 (lv_at hl 6 rfl) ?_
  refine cm_callV (t := 0) (C := RX12) (T := TX12) (N := 12) (rest := []) (as := [.int r_10, .int fe9]) ⟨hx, hb, hml, hown, htb⟩ (d_typedBehind l dC dI ad cid a2 lx sg gmv_12 lg x r_10 fe9 hIv_12 hvx hr_10) (cwV 2 htb (gd_V kw_295 kw_296 kw_297 kw_2 kw_1407) rfl rfl rfl (by decide +kernel) ⟨Nat.le_of_ble_eq_true rfl, Nat.le_of_ble_eq_true rfl⟩) hvx (by decide) (by decide) rfl rfl hl.1 rfl (Nat.le_trans cs_n (by decide)) dX12_type_44 ⟨Nat.le_of_ble_eq_true rfl, Nat.le_of_ble_eq_true rfl⟩ hK hP hD hS hA hG (fun E ce q9 u_14 H locs hw hP hD hS hce hcv hcl => ?_) (fun v9 u_14 H locs hw hP hD hS => ?_)
  · exact hw.elim
  obtain ⟨r_13, rfl, sgv_15, gmv_15, lgv_15, rfl, hIv_15, ksv_15, kgv_15, klv_15, hr_13⟩ := hw
  obtain rfl := KS_nil ksv_15
  obtain rfl := KS_nil klv_15
  have hP : va_P (dC, dI) vwCl (cW ad cid a2 lx sg gmv_15 lg) H := hP
  have hD : va_D A (cW ad cid a2 lx sg gmv_15 lg) := hD
  refine W.eq (g2 := F0 m 47 ls [.int r_13]) rfl ?_
  refine lv_istore (i := 6) (lv' := [(6, .int r_13), (0, eV (ad 0) x), (1, .int fa), (2, .int fb), (3, .int fc9), (4, .int fd9), (5, .int fe9)]) hx hb dX12_type_47 hl (by decide) rfl (fun ls hl => ?_)
  refine lv_iload hx hb dX12_type_49 (lv_at hl 0 rfl) ?_
  refine lv_iconst (v := (-1)) hx hb dX12_type_51 (by decide) ?_
  refine lv_icmp_eq (tgt := 61) hx hb dX12_type_52 (by decide) (fun c_16 => ?_) (fun c_16 => ?_)
  · have h_17 : iv (-1) (-1) r_13 := iv_eq c_16 hr_13 (iv_k (by decide) : iv (-1) (-1) (-1)) (by decide)
    exact hj61 sg gmv_15 r_13 (iv_w h_17 (by decide)) hvx KS_rf (KS_tr (L := [43]) (KS_tr (L := [43]) (KS_tr (L := [43]) (KS_tr (L := [43]) (KS_tr (L := [43]) KS_rf kgv_3 (by decide)) kgv_6 (by decide)) kgv_9 (by decide)) kgv_12 (by decide)) kgv_15 (by decide)) hIv_15 _ _ _ hP hD hS (lv_sub hl [0, 1, 2, 3, 4, 5, 6] rfl)
  · have h_18 : iv 0 1200 r_13 := iv_neL c_16 hr_13 (by decide)
    refine ec_aload_n hx hb dX12_type_55 rfl (lv_at hl 1 rfl) ?_
    refine lv_iload hx hb dX12_type_56 (lv_at hl 0 rfl) ?_
    refine cr_puts (t := 0) (j := 8) (C := RX12) (T := TX12) (N := 12) (ty0 := tyX12) (k := 0) (y := r_13) hx hb htb inX12 tyX12_ok nmX12 hown hK hP hD hS hvx (by decide) (by decide) (by decide) (by decide) rfl rfl rfl (by decide) (htb _ kw_294) rfl (by show Value.int r_13 = Value.int (va_up sg 0 r_13 0); rw [va_up_self]) rfl rfl dX12_type_58 (fun sg_19 H locs esg_19 hP hD hS => ?_)
    have hI_sg_19 := CI_put hIv_15 esg_19 h_18 (by decide)
    exact hj61 sg_19 gmv_15 r_13 (iv_w h_18 (by decide)) hvx (KS_up KS_rf esg_19 (by decide)) (KS_tr (L := [43]) (KS_tr (L := [43]) (KS_tr (L := [43]) (KS_tr (L := [43]) (KS_tr (L := [43]) KS_rf kgv_3 (by decide)) kgv_6 (by decide)) kgv_9 (by decide)) kgv_12 (by decide)) kgv_15 (by decide)) hI_sg_19 _ _ _ hP hD hS (lv_sub hl [0, 1, 2, 3, 4, 5, 6] rfl)

set_option maxHeartbeats 4000000 in
set_option maxRecDepth 100000 in
theorem d_fault (l : Launch) (dC : Nat → ClassId) (dI : Nat → Nat → Nat) (ad : Nat → Nat → Nat) (cid : Nat → ClassId) (a2 : Nat → Nat) (lx : List Nat) (sg : Nat → Int32) (gm : Nat → Nat → Int32) (lg : Nat → Nat → Int64) (x : Int32) (wh : Int32) (hI : CI sg gm) (hvx : iv 0 0 x) : CMt dC dI ad cid a2 lx l yX12_fault wm_X12_fault ({ frames := 1, cells := 1, slots := 6, locals := 20 }) [eV (ad 0) x, .int wh] sg gm lg (fun v u => ∃ r : Int32, v = some (.int r) ∧ u = (sg, gm, lg) ∧ (iv (-1) 1201 r)) (fun _ _ => False) := by
  intro sz
  refine vx_ofW (cc := cX12_fault) (maxL := 2) (ret := (some .int)) (by decide) rfl ?_
  intro p e s m args below meth c s₁ B hml hxt hv
  obtain ⟨rfl, hsz, hP, hK, hD0, hG⟩ := hv
  have hx := B.exec
  have hb := B.bytes
  have hr := B.returns
  have hts := atoms_spec (ws := wm_X12_fault) B.pre
  have htb := fun (w : Cond) (h : w ∈ tb) => hts w (List.mem_cons_of_mem _ h)
  have hown : s.vm.findClass RX12 = some m.cls := findClass_of_methodNamed B.named
  have hlocks := B.notSynchronized
  subst hsz
  have hD := hD0.self (sz := s.heap.size)
  generalize hAe : va_A (cW ad cid a2 lx sg gm lg) s.heap.size = A at hD hG ⊢
  have hA : ∀ q : Nat, s.heap.size ≤ q → A q := fun q h => by rw [← hAe]; exact Or.inr h
  have hS : va_S A s.heap s.heap [] := va_S.rf
  have hl := lv_entry ([eV (ad 0) x, .int wh]) (n := 2) (by rw [show (lg_sl ([eV (ad 0) x, .int wh])).length = 2 from by simp [lg_sl, eV_cat, cat_i, cat_l]]; exact Nat.le_of_ble_eq_true rfl)
  rw [lg_entry_eq]
  generalize (lg_sl ([eV (ad 0) x, .int wh]) ++ List.replicate (2 - (lg_sl ([eV (ad 0) x, .int wh])).length) Slot.unset).toArray = ls at hl ⊢
  have hl : lv_has ls 2 [(0, eV (ad 0) x), (1, .int wh)] := by simp [lv_args, eV_cat, cat_i, cat_l] at hl; exact hl
  refine lv_iload_n hx hb dX12_fault_0 rfl (lv_at hl 1 rfl) ?_
  by_cases c_1 : (wh : Int32).toInt = 0
  · refine lv_tableIn (tgt := 32) hx hb dX12_fault_1 (by rw [c_1]; decide) (by rw [c_1]; decide) (by rw [c_1]; rfl) (by decide) ?_
    have h_2 : iv 0 0 wh := iv_at c_1
    refine ec_aload_n hx hb dX12_fault_32 rfl (lv_at hl 0 rfl) ?_
    refine cr_get (t := 0) (j := 10) (C := RX12) (T := TX12) (N := 12) (v := .int (sg 2)) hx hb htb inX12 hown hK hP hvx (by decide) (by decide) (by decide) rfl (by decide) (htb _ kw_311) rfl dX12_fault_33 ?_
    exact W.nb (fun hN => W.widen (k := 1) (n := 6) (by decide) (by decide) (vx_ret (W.iret (v := (sg 2)) hx hb hr (fun t ht hW => ⟨⟨some (.int (sg 2)), (sg, gm, lg), rfl, ⟨(sg 2), rfl, rfl, (iv_w (show iv 0 3 (sg 2) from CI_s hI 2) (by decide))⟩, by rw [ht]; exact hP, va_K.moved hW.alike hK, hD⟩, hS.F ht, by rw [ht]; exact hN⟩) hS.2.2 dX12_fault_36)))
  by_cases c_3 : (wh : Int32).toInt = 1
  · refine lv_tableIn (tgt := 37) hx hb dX12_fault_1 (by rw [c_3]; decide) (by rw [c_3]; decide) (by rw [c_3]; rfl) (by decide) ?_
    have h_4 : iv 1 1 wh := iv_at c_3
    refine ec_aload_n hx hb dX12_fault_37 rfl (lv_at hl 0 rfl) ?_
    refine cr_get (t := 0) (j := 11) (C := RX12) (T := TX12) (N := 12) (v := .int (sg 3)) hx hb htb inX12 hown hK hP hvx (by decide) (by decide) (by decide) rfl (by decide) (htb _ kw_42) rfl dX12_fault_38 ?_
    exact W.nb (fun hN => W.widen (k := 1) (n := 6) (by decide) (by decide) (vx_ret (W.iret (v := (sg 3)) hx hb hr (fun t ht hW => ⟨⟨some (.int (sg 3)), (sg, gm, lg), rfl, ⟨(sg 3), rfl, rfl, (show iv (-1) 1201 (sg 3) from CI_s hI 3)⟩, by rw [ht]; exact hP, va_K.moved hW.alike hK, hD⟩, hS.F ht, by rw [ht]; exact hN⟩) hS.2.2 dX12_fault_41)))
  by_cases c_5 : (wh : Int32).toInt = 2
  · refine lv_tableIn (tgt := 42) hx hb dX12_fault_1 (by rw [c_5]; decide) (by rw [c_5]; decide) (by rw [c_5]; rfl) (by decide) ?_
    have h_6 : iv 2 2 wh := iv_at c_5
    refine ec_aload_n hx hb dX12_fault_42 rfl (lv_at hl 0 rfl) ?_
    refine cr_get (t := 0) (j := 7) (C := RX12) (T := TX12) (N := 12) (v := eV (ad 6) 0) hx hb htb inX12 hown hK hP hvx (by decide) (by decide) (by decide) rfl (by decide) (htb _ kw_41) (cV_c rfl (by decide) (by rw [show cMu 0 7 = 0 from rfl, Nat.zero_mul]; rfl)) dX12_fault_43 ?_
    refine cm_callV (t := 6) (C := RX5) (T := TX5) (N := 13) (rest := []) (as := []) ⟨hx, hb, hml, hown, htb⟩ (d_failure l dC dI ad cid a2 lx sg gm lg 0 hI (iv_k (by decide) : iv 0 0 0)) (cwV 0 htb (gd_V kw_973 kw_974 kw_975 kw_40 kw_1561) rfl rfl rfl (by decide +kernel) ⟨Nat.le_of_ble_eq_true rfl, Nat.le_of_ble_eq_true rfl⟩) (iv_k (by decide) : iv 0 0 0) (by decide) (by decide) rfl rfl hl.1 rfl (Nat.le_trans cs_n (by decide)) dX12_fault_46 ⟨Nat.le_of_ble_eq_true rfl, Nat.le_of_ble_eq_true rfl⟩ hK hP hD hS hA hG (fun E ce q9 u_8 H locs hw hP hD hS hce hcv hcl => ?_) (fun v9 u_8 H locs hw hP hD hS => ?_)
    · exact hw.elim
    obtain ⟨r_7, rfl, rfl, hr_7⟩ := hw
    have hP : va_P (dC, dI) vwCl (cW ad cid a2 lx sg gm lg) H := hP
    have hD : va_D A (cW ad cid a2 lx sg gm lg) := hD
    refine W.eq (g2 := F0 m 49 ls [.int r_7]) rfl ?_
    exact W.nb (fun hN => W.widen (k := 1) (n := 6) (by decide) (by decide) (vx_ret (W.iret (v := r_7) hx hb hr (fun t ht hW => ⟨⟨some (.int r_7), (sg, gm, lg), rfl, ⟨r_7, rfl, rfl, (iv_w hr_7 (by decide))⟩, by rw [ht]; exact hP, va_K.moved hW.alike hK, hD⟩, hS.F ht, by rw [ht]; exact hN⟩) hS.2.2 dX12_fault_49)))
  by_cases c_10 : (wh : Int32).toInt = 3
  · refine lv_tableIn (tgt := 50) hx hb dX12_fault_1 (by rw [c_10]; decide) (by rw [c_10]; decide) (by rw [c_10]; rfl) (by decide) ?_
    have h_11 : iv 3 3 wh := iv_at c_10
    refine ec_aload_n hx hb dX12_fault_50 rfl (lv_at hl 0 rfl) ?_
    refine cr_get (t := 0) (j := 7) (C := RX12) (T := TX12) (N := 12) (v := eV (ad 6) 0) hx hb htb inX12 hown hK hP hvx (by decide) (by decide) (by decide) rfl (by decide) (htb _ kw_41) (cV_c rfl (by decide) (by rw [show cMu 0 7 = 0 from rfl, Nat.zero_mul]; rfl)) dX12_fault_51 ?_
    refine cm_callV (t := 6) (C := RX5) (T := TX5) (N := 13) (rest := []) (as := []) ⟨hx, hb, hml, hown, htb⟩ (d_failureBean l dC dI ad cid a2 lx sg gm lg 0 hI (iv_k (by decide) : iv 0 0 0)) (cwV 0 htb (gd_V kw_977 kw_978 kw_979 kw_40 kw_1562) rfl rfl rfl (by decide +kernel) ⟨Nat.le_of_ble_eq_true rfl, Nat.le_of_ble_eq_true rfl⟩) (iv_k (by decide) : iv 0 0 0) (by decide) (by decide) rfl rfl hl.1 rfl (Nat.le_trans cs_n (by decide)) dX12_fault_54 ⟨Nat.le_of_ble_eq_true rfl, Nat.le_of_ble_eq_true rfl⟩ hK hP hD hS hA hG (fun E ce q9 u_13 H locs hw hP hD hS hce hcv hcl => ?_) (fun v9 u_13 H locs hw hP hD hS => ?_)
    · exact hw.elim
    obtain ⟨r_12, rfl, rfl, hr_12⟩ := hw
    have hP : va_P (dC, dI) vwCl (cW ad cid a2 lx sg gm lg) H := hP
    have hD : va_D A (cW ad cid a2 lx sg gm lg) := hD
    refine W.eq (g2 := F0 m 57 ls [.int r_12]) rfl ?_
    exact W.nb (fun hN => W.widen (k := 1) (n := 6) (by decide) (by decide) (vx_ret (W.iret (v := r_12) hx hb hr (fun t ht hW => ⟨⟨some (.int r_12), (sg, gm, lg), rfl, ⟨r_12, rfl, rfl, (iv_w hr_12 (by decide))⟩, by rw [ht]; exact hP, va_K.moved hW.alike hK, hD⟩, hS.F ht, by rw [ht]; exact hN⟩) hS.2.2 dX12_fault_57)))
  refine lv_tableOut (tgt := 58) hx hb dX12_fault_1 (by have q1 := ((iv_all wh)).1; have q2 := ((iv_all wh)).2; omega) (by decide) ?_
  refine lv_iconst (v := (-1)) hx hb dX12_fault_58 (by decide) ?_
  exact W.nb (fun hN => W.widen (k := 1) (n := 6) (by decide) (by decide) (vx_ret (W.iret (v := (-1)) hx hb hr (fun t ht hW => ⟨⟨some (.int (-1)), (sg, gm, lg), rfl, ⟨(-1), rfl, rfl, (iv_w (iv_k (by decide) : iv (-1) (-1) (-1)) (by decide))⟩, by rw [ht]; exact hP, va_K.moved hW.alike hK, hD⟩, hS.F ht, by rw [ht]; exact hN⟩) hS.2.2 dX12_fault_59)))

set_option maxHeartbeats 4000000 in
set_option maxRecDepth 100000 in
theorem d_withoutZeros (l : Launch) (dC : Nat → ClassId) (dI : Nat → Nat → Nat) (ad : Nat → Nat → Nat) (cid : Nat → ClassId) (a2 : Nat → Nat) (lx : List Nat) (sg : Nat → Int32) (gm : Nat → Nat → Int32) (lg : Nat → Nat → Int64) (nm : Int64) (hI : CI sg gm) : CMt dC dI ad cid a2 lx l yX12_withoutZeros wm_X12_withoutZeros ({ frames := 0, cells := 1, slots := 6, locals := 0 }) [.long nm] sg gm lg (fun v u => ∃ r : Int64, v = some (.long r) ∧ u = (sg, gm, lg)) (fun _ _ => False) := by
  intro sz
  refine vx_ofW (cc := cX12_withoutZeros) (maxL := 7) (ret := (some .long)) (by decide) rfl ?_
  intro p e s m args below meth c s₁ B hml hxt hv
  obtain ⟨rfl, hsz, hP, hK, hD0, hG⟩ := hv
  have hx := B.exec
  have hb := B.bytes
  have hr := B.returns
  have hts := atoms_spec (ws := wm_X12_withoutZeros) B.pre
  have htb := fun (w : Cond) (h : w ∈ tb) => hts w (List.mem_cons_of_mem _ h)
  have hown : s.vm.findClass RX12 = some m.cls := findClass_of_methodNamed B.named
  have hlocks := B.notSynchronized
  subst hsz
  have hD := hD0.self (sz := s.heap.size)
  generalize hAe : va_A (cW ad cid a2 lx sg gm lg) s.heap.size = A at hD hG ⊢
  have hA : ∀ q : Nat, s.heap.size ≤ q → A q := fun q h => by rw [← hAe]; exact Or.inr h
  have hS : va_S A s.heap s.heap [] := va_S.rf
  have hl := lv_entry ([.long nm]) (n := 7) (Nat.le_of_ble_eq_true rfl)
  rw [lg_entry_eq]
  generalize (lg_sl ([.long nm]) ++ List.replicate (7 - (lg_sl ([.long nm])).length) Slot.unset).toArray = ls at hl ⊢
  have hl : lv_has ls 7 [(0, .long nm)] := hl
  have hj6 : ∀ (n : Nat) (x4_6 : Int32) (x2_6 : Int64) (_ : (x4_6.toInt + 8).toNat = n) (_ : iv (-8) 56 x4_6) (H : Heap) (locs : List Loc) (ls : Array Slot), va_P (dC, dI) vwCl (cW ad cid a2 lx sg gm lg) H → va_D A (cW ad cid a2 lx sg gm lg) → va_S A s.heap H locs → lv_has ls 7 [(4, .int x4_6), (2, .long x2_6), (0, .long nm)] → W p l e (headSpec wm_X12_withoutZeros ({ frames := 0, cells := 1, slots := 6, locals := 0 })).room s m ([.long nm] : List Value).toArray below meth c H locs 0 0 (vx_MQ below (cQx dC dI ad cid a2 lx (fun v u => ∃ r : Int64, v = some (.long r) ∧ u = (sg, gm, lg)) A) (cX dC dI ad cid a2 lx (fun _ _ => False) A) ([.long nm] : List Value).toArray s 1 6 A) (F0 m 6 ls []) := by
    intro n
    induction n using Nat.strongRecOn with
    | ind n ih6 =>
      intro x4_6 x2_6 hn6 hx4_6 H locs ls hP hD hS hl
      have hj36 : ∀ (x5_36 : Int64) (x2_36 : Int64) (_ : iv 0 56 x4_6) (H : Heap) (locs : List Loc) (ls : Array Slot), va_P (dC, dI) vwCl (cW ad cid a2 lx sg gm lg) H → va_D A (cW ad cid a2 lx sg gm lg) → va_S A s.heap H locs → lv_has ls 7 [(5, .long x5_36), (4, .int x4_6), (2, .long x2_36), (0, .long nm)] → W p l e (headSpec wm_X12_withoutZeros ({ frames := 0, cells := 1, slots := 6, locals := 0 })).room s m ([.long nm] : List Value).toArray below meth c H locs 0 0 (vx_MQ below (cQx dC dI ad cid a2 lx (fun v u => ∃ r : Int64, v = some (.long r) ∧ u = (sg, gm, lg)) A) (cX dC dI ad cid a2 lx (fun _ _ => False) A) ([.long nm] : List Value).toArray s 1 6 A) (F0 m 36 ls []) := by
        intro x5_36 x2_36 hsx4_36 H locs ls hP hD hS hl
        obtain ⟨z_1, ez_1⟩ : ∃ z : Int32, z = x4_6 + (-8) := ⟨_, rfl⟩
        have hz_1 : iv (-8) 48 z_1 := iv_of ez_1 (iv_add hsx4_36 (iv_k (by decide) : iv (-8) (-8) (-8)) (by decide))
        have tz_1 : z_1.toInt = x4_6.toInt - 8 := by rw [ez_1]; exact iv_addE hsx4_36 (iv_k (by decide) : iv (-8) (-8) (-8)) (by decide)
        refine lv_iinc (v := z_1) (lv' := [(4, .int z_1), (5, .long x5_36), (2, .long x2_36), (0, .long nm)]) hx hb dX12_withoutZeros_36 hl (k := 1) rfl ez_1.symm (by decide) rfl (fun ls hl => ?_)
        refine lv_goto (tgt := 6) hx hb dX12_withoutZeros_39 (by decide) ?_
        exact ih6 _ (by rw [← hn6]; exact (by have := i32_0; have := i32_1; have := i32_2; have := i32_m1; have := (hsx4_36).1; have := (hsx4_36).2; have := (hz_1).1; have := (hz_1).2; omega)) z_1 x2_36 rfl (iv_w hz_1 (by decide)) _ _ _ hP hD hS (lv_sub hl [0, 2, 3] rfl)
      refine lv_iload hx hb dX12_withoutZeros_6 (lv_at hl 0 rfl) ?_
      refine lv_if_lt (tgt := 42) hx hb dX12_withoutZeros_8 (by decide) (fun c_2 => ?_) (fun c_2 => ?_)
      · have h_3 : iv (-8) (-1) x4_6 := iv_ltL c_2 hx4_6 (iv_k (by decide) : iv 0 0 0) (by decide)
        refine lv_lload_n hx hb dX12_withoutZeros_42 rfl (lv_at hl 1 rfl) ?_
        exact W.nb (fun hN => W.widen (k := 1) (n := 6) (by decide) (by decide) (vx_ret (W.lret (v := x2_6) hx hb hr (fun t ht hW => ⟨⟨some (.long x2_6), (sg, gm, lg), rfl, ⟨x2_6, rfl, rfl⟩, by rw [ht]; exact hP, va_K.moved hW.alike hK, hD⟩, hS.F ht, by rw [ht]; exact hN⟩) hS.2.2 dX12_withoutZeros_43)))
      · have h_4 : iv 0 56 x4_6 := iv_leR (i32_ge c_2) (iv_k (by decide) : iv 0 0 0) hx4_6 (by decide)
        refine lv_lload_n hx hb dX12_withoutZeros_11 rfl (lv_at hl 2 rfl) ?_
        refine lv_iload hx hb dX12_withoutZeros_12 (lv_at hl 0 rfl) ?_
        refine lv_lushr (v := (nm.toUInt64 >>> ((x4_6 : Int32).toInt64.toUInt64 &&& Int64.toUInt64 63)).toInt64) hx hb dX12_withoutZeros_14 rfl ?_
        refine lv_topl (fun z_5 ez_5 => ?_)
        refine lv_ldc2 (own := RX12) (v := 255) hx hb hown (htb _ kw_1273) dX12_withoutZeros_15 ?_
        refine lv_land hx hb dX12_withoutZeros_18 ?_
        refine lv_topl (fun z_6 ez_6 => ?_)
        refine lv_lstore (i := 5) (lv' := [(5, .long z_6), (4, .int x4_6), (2, .long x2_6), (0, .long nm)]) hx hb dX12_withoutZeros_19 hl (by decide) rfl (fun ls hl => ?_)
        refine lv_lload hx hb dX12_withoutZeros_21 (lv_at hl 0 rfl) ?_
        refine lv_lconst (v := 0) hx hb dX12_withoutZeros_23 (by decide) ?_
        refine W.lcmp hx hb dX12_withoutZeros_24 ?_
        refine lv_topi (fun z_7 ez_7 => ?_)
        have hz_7 : iv (-1) 1 z_7 := iv_of ez_7 (iv_cmp _ _)
        refine lv_if_eq (tgt := 36) hx hb dX12_withoutZeros_25 (by decide) (fun c_8 => ?_) (fun c_8 => ?_)
        · have h_9 : iv 0 0 z_7 := iv_eq c_8 hz_7 (iv_k (by decide) : iv 0 0 0) (by decide)
          exact hj36 z_6 x2_6 h_4 _ _ _ hP hD hS (lv_sub hl [0, 1, 2, 3] rfl)
        · have d_10 : ¬ (z_7 : Int32).toInt = 0 := lv_neT c_8 rfl
          refine lv_lload_n hx hb dX12_withoutZeros_28 rfl (lv_at hl 2 rfl) ?_
          refine lv_bipush (v := 8) hx hb dX12_withoutZeros_29 (by decide) ?_
          refine lv_lshl (v := x2_6 <<< ((8 : Int32).toInt64 &&& 63)) hx hb dX12_withoutZeros_31 rfl ?_
          refine lv_topl (fun z_11 ez_11 => ?_)
          refine lv_lload hx hb dX12_withoutZeros_32 (lv_at hl 0 rfl) ?_
          refine lv_lor hx hb dX12_withoutZeros_34 ?_
          refine lv_topl (fun z_12 ez_12 => ?_)
          refine lv_lstore_n (i := 2) (lv' := [(2, .long z_12), (5, .long z_6), (4, .int x4_6), (0, .long nm)]) hx hb dX12_withoutZeros_35 rfl hl (by decide) rfl (fun ls hl => ?_)
          exact hj36 z_6 z_12 h_4 _ _ _ hP hD hS (lv_sub hl [1, 2, 0, 3] rfl)
  refine lv_lconst (v := 0) hx hb dX12_withoutZeros_0 (by decide) ?_
  refine lv_lstore_n (i := 2) (lv' := [(2, .long 0), (0, .long nm)]) hx hb dX12_withoutZeros_1 rfl hl (by decide) rfl (fun ls hl => ?_)
  refine lv_bipush (v := 56) hx hb dX12_withoutZeros_2 (by decide) ?_
  refine lv_istore (i := 4) (lv' := [(4, .int 56), (2, .long 0), (0, .long nm)]) hx hb dX12_withoutZeros_4 hl (by decide) rfl (fun ls hl => ?_)
  exact hj6 _ 56 0 rfl (iv_w (iv_k (by decide) : iv 56 56 56) (by decide)) _ _ _ hP hD hS (lv_sub hl [0, 1, 2] rfl)

set_option maxHeartbeats 4000000 in
set_option maxRecDepth 100000 in
theorem d_close (l : Launch) (dC : Nat → ClassId) (dI : Nat → Nat → Nat) (ad : Nat → Nat → Nat) (cid : Nat → ClassId) (a2 : Nat → Nat) (lx : List Nat) (sg : Nat → Int32) (gm : Nat → Nat → Int32) (lg : Nat → Nat → Int64) (x : Int32) (hI : CI sg gm) (hvx : iv 0 0 x) (hFND9 : FND9 sg gm) : CMt dC dI ad cid a2 lx l yX12_close wm_X12_close ({ frames := 3, cells := 1, slots := 6, locals := 63 }) [eV (ad 0) x] sg gm lg (fun v u => ∃ r : Int32, v = some (.int r) ∧ ∃ (sg2 : Nat → Int32) (gm2 : Nat → Nat → Int32) (lg2 : Nat → Nat → Int64), u = (sg2, gm2, lg2) ∧ CI sg2 gm2 ∧ KS [13, 15] sg sg2 ∧ KS [38, 48] gm gm2 ∧ KS [] lg lg2 ∧ (iv 0 400 r) ∧ (∀ j9, j9 < (sg 12).toNatClampNeg → gm2 38 j9 = 0) ∧ ((sg2 15).toInt = 0)) (fun _ _ => False) := by
  intro sz
  refine vx_ofW (cc := cX12_close) (maxL := 1) (ret := (some .int)) (by decide) rfl ?_
  intro p e s m args below meth c s₁ B hml hxt hv
  obtain ⟨rfl, hsz, hP, hK, hD0, hG⟩ := hv
  have hx := B.exec
  have hb := B.bytes
  have hr := B.returns
  have hts := atoms_spec (ws := wm_X12_close) B.pre
  have htb := fun (w : Cond) (h : w ∈ tb) => hts w (List.mem_cons_of_mem _ h)
  have hown : s.vm.findClass RX12 = some m.cls := findClass_of_methodNamed B.named
  have hlocks := B.notSynchronized
  subst hsz
  have hD := hD0.self (sz := s.heap.size)
  generalize hAe : va_A (cW ad cid a2 lx sg gm lg) s.heap.size = A at hD hG ⊢
  have hA : ∀ q : Nat, s.heap.size ≤ q → A q := fun q h => by rw [← hAe]; exact Or.inr h
  have hS : va_S A s.heap s.heap [] := va_S.rf
  have hl := lv_entry ([eV (ad 0) x]) (n := 1) (by rw [show (lg_sl ([eV (ad 0) x])).length = 1 from by simp [lg_sl, eV_cat, cat_i, cat_l]]; exact Nat.le_of_ble_eq_true rfl)
  rw [lg_entry_eq]
  generalize (lg_sl ([eV (ad 0) x]) ++ List.replicate (1 - (lg_sl ([eV (ad 0) x])).length) Slot.unset).toArray = ls at hl ⊢
  have hl : lv_has ls 1 [(0, eV (ad 0) x)] := by simp [lv_args, eV_cat, cat_i, cat_l] at hl; exact hl
  refine ec_aload_n hx hb dX12_close_0 rfl (lv_at hl 0 rfl) ?_
  refine cr_get (t := 0) (j := 7) (C := RX12) (T := TX12) (N := 12) (v := eV (ad 6) 0) hx hb htb inX12 hown hK hP hvx (by decide) (by decide) (by decide) rfl (by decide) (htb _ kw_41) (cV_c rfl (by decide) (by rw [show cMu 0 7 = 0 from rfl, Nat.zero_mul]; rfl)) dX12_close_1 ?_
  refine cm_callV (t := 6) (C := RX5) (T := TX5) (N := 13) (rest := []) (as := []) ⟨hx, hb, hml, hown, htb⟩ (d_destroyAll l dC dI ad cid a2 lx sg gm lg 0 hI (iv_k (by decide) : iv 0 0 0) hFND9) (cwV 0 htb (gd_V kw_1306 kw_1142 kw_1143 kw_40 kw_1598) rfl rfl rfl (by decide +kernel) ⟨Nat.le_of_ble_eq_true rfl, Nat.le_of_ble_eq_true rfl⟩) (iv_k (by decide) : iv 0 0 0) (by decide) (by decide) rfl rfl hl.1 rfl (Nat.le_trans cs_n (by decide)) dX12_close_4 ⟨Nat.le_of_ble_eq_true rfl, Nat.le_of_ble_eq_true rfl⟩ hK hP hD hS hA hG (fun E ce q9 u_2 H locs hw hP hD hS hce hcv hcl => ?_) (fun v9 u_2 H locs hw hP hD hS => ?_)
  · exact hw.elim
  obtain ⟨rfl, sgv_3, gmv_3, lgv_3, rfl, hIv_3, ksv_3, kgv_3, klv_3, fM_r_1, f15_r_1⟩ := hw
  obtain rfl := KS_nil klv_3
  have hP : va_P (dC, dI) vwCl (cW ad cid a2 lx sgv_3 gmv_3 lg) H := hP
  have hD : va_D A (cW ad cid a2 lx sgv_3 gmv_3 lg) := hD
  refine W.eq (g2 := F0 m 7 ls []) rfl ?_
  refine ec_aload_n hx hb dX12_close_7 rfl (lv_at hl 0 rfl) ?_
  refine cr_get (t := 0) (j := 6) (C := RX12) (T := TX12) (N := 12) (v := eV (ad 5) 0) hx hb htb inX12 hown hK hP hvx (by decide) (by decide) (by decide) rfl (by decide) (htb _ kw_37) (cV_c rfl (by decide) (by rw [show cMu 0 6 = 0 from rfl, Nat.zero_mul]; rfl)) dX12_close_8 ?_
  refine cm_callV (t := 5) (C := RX4) (T := TX4) (N := 2) (rest := []) (as := []) ⟨hx, hb, hml, hown, htb⟩ (d_countEv l dC dI ad cid a2 lx sgv_3 gmv_3 lg 0 hIv_3 (iv_k (by decide) : iv 0 0 0)) (cwV 0 htb (gd_V kw_1307 kw_1308 kw_1309 kw_36 kw_1650) rfl rfl rfl (by decide +kernel) ⟨Nat.le_of_ble_eq_true rfl, Nat.le_of_ble_eq_true rfl⟩) (iv_k (by decide) : iv 0 0 0) (by decide) (by decide) rfl rfl hl.1 rfl (Nat.le_trans cs_n (by decide)) dX12_close_11 ⟨Nat.le_of_ble_eq_true rfl, Nat.le_of_ble_eq_true rfl⟩ hK hP hD hS hA hG (fun E ce q9 u_5 H locs hw hP hD hS hce hcv hcl => ?_) (fun v9 u_5 H locs hw hP hD hS => ?_)
  · exact hw.elim
  obtain ⟨r_4, rfl, rfl, hr_4⟩ := hw
  have hP : va_P (dC, dI) vwCl (cW ad cid a2 lx sgv_3 gmv_3 lg) H := hP
  have hD : va_D A (cW ad cid a2 lx sgv_3 gmv_3 lg) := hD
  refine W.eq (g2 := F0 m 14 ls [.int r_4]) rfl ?_
  exact W.nb (fun hN => W.widen (k := 1) (n := 6) (by decide) (by decide) (vx_ret (W.iret (v := r_4) hx hb hr (fun t ht hW => ⟨⟨some (.int r_4), (sgv_3, gmv_3, lg), rfl, ⟨r_4, rfl, sgv_3, gmv_3, lg, rfl, hIv_3, (KS_tr (L := [13, 15]) KS_rf ksv_3 (by decide)), (KS_tr (L := [38, 48]) KS_rf kgv_3 (by decide)), KS_rf, hr_4, (fM_r_1), (f15_r_1)⟩, by rw [ht]; exact hP, va_K.moved hW.alike hK, hD⟩, hS.F ht, by rw [ht]; exact hN⟩) hS.2.2 dX12_close_14)))

set_option maxHeartbeats 4000000 in
set_option maxRecDepth 100000 in
theorem d_events (l : Launch) (dC : Nat → ClassId) (dI : Nat → Nat → Nat) (ad : Nat → Nat → Nat) (cid : Nat → ClassId) (a2 : Nat → Nat) (lx : List Nat) (sg : Nat → Int32) (gm : Nat → Nat → Int32) (lg : Nat → Nat → Int64) (x : Int32) (hI : CI sg gm) (hvx : iv 0 0 x) : CMt dC dI ad cid a2 lx l yX12_events wm_X12_events ({ frames := 1, cells := 1, slots := 6, locals := 20 }) [eV (ad 0) x] sg gm lg (fun v u => ∃ r : Int32, v = some (.int r) ∧ u = (sg, gm, lg) ∧ (iv 0 400 r)) (fun _ _ => False) := by
  intro sz
  refine vx_ofW (cc := cX12_events) (maxL := 1) (ret := (some .int)) (by decide) rfl ?_
  intro p e s m args below meth c s₁ B hml hxt hv
  obtain ⟨rfl, hsz, hP, hK, hD0, hG⟩ := hv
  have hx := B.exec
  have hb := B.bytes
  have hr := B.returns
  have hts := atoms_spec (ws := wm_X12_events) B.pre
  have htb := fun (w : Cond) (h : w ∈ tb) => hts w (List.mem_cons_of_mem _ h)
  have hown : s.vm.findClass RX12 = some m.cls := findClass_of_methodNamed B.named
  have hlocks := B.notSynchronized
  subst hsz
  have hD := hD0.self (sz := s.heap.size)
  generalize hAe : va_A (cW ad cid a2 lx sg gm lg) s.heap.size = A at hD hG ⊢
  have hA : ∀ q : Nat, s.heap.size ≤ q → A q := fun q h => by rw [← hAe]; exact Or.inr h
  have hS : va_S A s.heap s.heap [] := va_S.rf
  have hl := lv_entry ([eV (ad 0) x]) (n := 1) (by rw [show (lg_sl ([eV (ad 0) x])).length = 1 from by simp [lg_sl, eV_cat, cat_i, cat_l]]; exact Nat.le_of_ble_eq_true rfl)
  rw [lg_entry_eq]
  generalize (lg_sl ([eV (ad 0) x]) ++ List.replicate (1 - (lg_sl ([eV (ad 0) x])).length) Slot.unset).toArray = ls at hl ⊢
  have hl : lv_has ls 1 [(0, eV (ad 0) x)] := by simp [lv_args, eV_cat, cat_i, cat_l] at hl; exact hl
  refine ec_aload_n hx hb dX12_events_0 rfl (lv_at hl 0 rfl) ?_
  refine cr_get (t := 0) (j := 6) (C := RX12) (T := TX12) (N := 12) (v := eV (ad 5) 0) hx hb htb inX12 hown hK hP hvx (by decide) (by decide) (by decide) rfl (by decide) (htb _ kw_37) (cV_c rfl (by decide) (by rw [show cMu 0 6 = 0 from rfl, Nat.zero_mul]; rfl)) dX12_events_1 ?_
  refine cm_callV (t := 5) (C := RX4) (T := TX4) (N := 2) (rest := []) (as := []) ⟨hx, hb, hml, hown, htb⟩ (d_countEv l dC dI ad cid a2 lx sg gm lg 0 hI (iv_k (by decide) : iv 0 0 0)) (cwV 0 htb (gd_V kw_1307 kw_1308 kw_1309 kw_36 kw_1650) rfl rfl rfl (by decide +kernel) ⟨Nat.le_of_ble_eq_true rfl, Nat.le_of_ble_eq_true rfl⟩) (iv_k (by decide) : iv 0 0 0) (by decide) (by decide) rfl rfl hl.1 rfl (Nat.le_trans cs_n (by decide)) dX12_events_4 ⟨Nat.le_of_ble_eq_true rfl, Nat.le_of_ble_eq_true rfl⟩ hK hP hD hS hA hG (fun E ce q9 u_2 H locs hw hP hD hS hce hcv hcl => ?_) (fun v9 u_2 H locs hw hP hD hS => ?_)
  · exact hw.elim
  obtain ⟨r_1, rfl, rfl, hr_1⟩ := hw
  have hP : va_P (dC, dI) vwCl (cW ad cid a2 lx sg gm lg) H := hP
  have hD : va_D A (cW ad cid a2 lx sg gm lg) := hD
  refine W.eq (g2 := F0 m 7 ls [.int r_1]) rfl ?_
  exact W.nb (fun hN => W.widen (k := 1) (n := 6) (by decide) (by decide) (vx_ret (W.iret (v := r_1) hx hb hr (fun t ht hW => ⟨⟨some (.int r_1), (sg, gm, lg), rfl, ⟨r_1, rfl, rfl, hr_1⟩, by rw [ht]; exact hP, va_K.moved hW.alike hK, hD⟩, hS.F ht, by rw [ht]; exact hN⟩) hS.2.2 dX12_events_7)))

set_option maxHeartbeats 4000000 in
set_option maxRecDepth 100000 in
theorem d_event (l : Launch) (dC : Nat → ClassId) (dI : Nat → Nat → Nat) (ad : Nat → Nat → Nat) (cid : Nat → ClassId) (a2 : Nat → Nat) (lx : List Nat) (sg : Nat → Int32) (gm : Nat → Nat → Int32) (lg : Nat → Nat → Int64) (x : Int32) (k : Int32) (wh : Int32) (hI : CI sg gm) (hvx : iv 0 0 x) : CMt dC dI ad cid a2 lx l yX12_event wm_X12_event ({ frames := 1, cells := 1, slots := 6, locals := 22 }) [eV (ad 0) x, .int k, .int wh] sg gm lg (fun v u => ∃ r : Int32, v = some (.int r) ∧ u = (sg, gm, lg)) (fun _ _ => False) := by
  intro sz
  refine vx_ofW (cc := cX12_event) (maxL := 3) (ret := (some .int)) (by decide) rfl ?_
  intro p e s m args below meth c s₁ B hml hxt hv
  obtain ⟨rfl, hsz, hP, hK, hD0, hG⟩ := hv
  have hx := B.exec
  have hb := B.bytes
  have hr := B.returns
  have hts := atoms_spec (ws := wm_X12_event) B.pre
  have htb := fun (w : Cond) (h : w ∈ tb) => hts w (List.mem_cons_of_mem _ h)
  have hown : s.vm.findClass RX12 = some m.cls := findClass_of_methodNamed B.named
  have hlocks := B.notSynchronized
  subst hsz
  have hD := hD0.self (sz := s.heap.size)
  generalize hAe : va_A (cW ad cid a2 lx sg gm lg) s.heap.size = A at hD hG ⊢
  have hA : ∀ q : Nat, s.heap.size ≤ q → A q := fun q h => by rw [← hAe]; exact Or.inr h
  have hS : va_S A s.heap s.heap [] := va_S.rf
  have hl := lv_entry ([eV (ad 0) x, .int k, .int wh]) (n := 3) (by rw [show (lg_sl ([eV (ad 0) x, .int k, .int wh])).length = 3 from by simp [lg_sl, eV_cat, cat_i, cat_l]]; exact Nat.le_of_ble_eq_true rfl)
  rw [lg_entry_eq]
  generalize (lg_sl ([eV (ad 0) x, .int k, .int wh]) ++ List.replicate (3 - (lg_sl ([eV (ad 0) x, .int k, .int wh])).length) Slot.unset).toArray = ls at hl ⊢
  have hl : lv_has ls 3 [(0, eV (ad 0) x), (1, .int k), (2, .int wh)] := by simp [lv_args, eV_cat, cat_i, cat_l] at hl; exact hl
  refine ec_aload_n hx hb dX12_event_0 rfl (lv_at hl 0 rfl) ?_
  refine cr_get (t := 0) (j := 6) (C := RX12) (T := TX12) (N := 12) (v := eV (ad 5) 0) hx hb htb inX12 hown hK hP hvx (by decide) (by decide) (by decide) rfl (by decide) (htb _ kw_37) (cV_c rfl (by decide) (by rw [show cMu 0 6 = 0 from rfl, Nat.zero_mul]; rfl)) dX12_event_1 ?_
  refine lv_iload_n hx hb dX12_event_4 rfl (lv_at hl 1 rfl) ?_
  refine lv_iload_n hx hb dX12_event_5 rfl (lv_at hl 2 rfl) ?_
  refine cm_callV (t := 5) (C := RX4) (T := TX4) (N := 2) (rest := []) (as := [.int k, .int wh]) ⟨hx, hb, hml, hown, htb⟩ (d_numberEv l dC dI ad cid a2 lx sg gm lg 0 k wh hI (iv_k (by decide) : iv 0 0 0)) (cwV 2 htb (gd_V kw_1322 kw_1323 kw_1324 kw_36 kw_1655) rfl rfl rfl (by decide +kernel) ⟨Nat.le_of_ble_eq_true rfl, Nat.le_of_ble_eq_true rfl⟩) (iv_k (by decide) : iv 0 0 0) (by decide) (by decide) rfl rfl hl.1 rfl (Nat.le_trans cs_n (by decide)) dX12_event_6 ⟨Nat.le_of_ble_eq_true rfl, Nat.le_of_ble_eq_true rfl⟩ hK hP hD hS hA hG (fun E ce q9 u_2 H locs hw hP hD hS hce hcv hcl => ?_) (fun v9 u_2 H locs hw hP hD hS => ?_)
  · exact hw.elim
  obtain ⟨r_1, rfl, rfl⟩ := hw
  have hP : va_P (dC, dI) vwCl (cW ad cid a2 lx sg gm lg) H := hP
  have hD : va_D A (cW ad cid a2 lx sg gm lg) := hD
  refine W.eq (g2 := F0 m 9 ls [.int r_1]) rfl ?_
  exact W.nb (fun hN => W.widen (k := 1) (n := 6) (by decide) (by decide) (vx_ret (W.iret (v := r_1) hx hb hr (fun t ht hW => ⟨⟨some (.int r_1), (sg, gm, lg), rfl, ⟨r_1, rfl, rfl⟩, by rw [ht]; exact hP, va_K.moved hW.alike hK, hD⟩, hS.F ht, by rw [ht]; exact hN⟩) hS.2.2 dX12_event_9)))

set_option maxHeartbeats 4000000 in
set_option maxRecDepth 100000 in
theorem d_object (l : Launch) (dC : Nat → ClassId) (dI : Nat → Nat → Nat) (ad : Nat → Nat → Nat) (cid : Nat → ClassId) (a2 : Nat → Nat) (lx : List Nat) (sg : Nat → Int32) (gm : Nat → Nat → Int32) (lg : Nat → Nat → Int64) (x : Int32) (k : Int32) (wh : Int32) (hI : CI sg gm) (hvx : iv 0 0 x) : CMt dC dI ad cid a2 lx l yX12_object wm_X12_object ({ frames := 2, cells := 1, slots := 6, locals := 42 }) [eV (ad 0) x, .int k, .int wh] sg gm lg (fun v u => ∃ r : Int32, v = some (.int r) ∧ u = (sg, gm, lg) ∧ (iv (-1) 79 r)) (fun _ _ => False) := by
  intro sz
  refine vx_ofW (cc := cX12_object) (maxL := 3) (ret := (some .int)) (by decide) rfl ?_
  intro p e s m args below meth c s₁ B hml hxt hv
  obtain ⟨rfl, hsz, hP, hK, hD0, hG⟩ := hv
  have hx := B.exec
  have hb := B.bytes
  have hr := B.returns
  have hts := atoms_spec (ws := wm_X12_object) B.pre
  have htb := fun (w : Cond) (h : w ∈ tb) => hts w (List.mem_cons_of_mem _ h)
  have hown : s.vm.findClass RX12 = some m.cls := findClass_of_methodNamed B.named
  have hlocks := B.notSynchronized
  subst hsz
  have hD := hD0.self (sz := s.heap.size)
  generalize hAe : va_A (cW ad cid a2 lx sg gm lg) s.heap.size = A at hD hG ⊢
  have hA : ∀ q : Nat, s.heap.size ≤ q → A q := fun q h => by rw [← hAe]; exact Or.inr h
  have hS : va_S A s.heap s.heap [] := va_S.rf
  have hl := lv_entry ([eV (ad 0) x, .int k, .int wh]) (n := 3) (by rw [show (lg_sl ([eV (ad 0) x, .int k, .int wh])).length = 3 from by simp [lg_sl, eV_cat, cat_i, cat_l]]; exact Nat.le_of_ble_eq_true rfl)
  rw [lg_entry_eq]
  generalize (lg_sl ([eV (ad 0) x, .int k, .int wh]) ++ List.replicate (3 - (lg_sl ([eV (ad 0) x, .int k, .int wh])).length) Slot.unset).toArray = ls at hl ⊢
  have hl : lv_has ls 3 [(0, eV (ad 0) x), (1, .int k), (2, .int wh)] := by simp [lv_args, eV_cat, cat_i, cat_l] at hl; exact hl
  have hj30 : ∀ (y0_30 : Int32) (_ : iv 0 0 x) (_ : iv (-1) 79 y0_30) (H : Heap) (locs : List Loc) (ls : Array Slot), va_P (dC, dI) vwCl (cW ad cid a2 lx sg gm lg) H → va_D A (cW ad cid a2 lx sg gm lg) → va_S A s.heap H locs → lv_has ls 3 [(0, eV (ad 0) x), (1, .int k), (2, .int wh)] → W p l e (headSpec wm_X12_object ({ frames := 2, cells := 1, slots := 6, locals := 42 })).room s m ([eV (ad 0) x, .int k, .int wh] : List Value).toArray below meth c H locs 0 0 (vx_MQ below (cQx dC dI ad cid a2 lx (fun v u => ∃ r : Int32, v = some (.int r) ∧ u = (sg, gm, lg) ∧ (iv (-1) 79 r)) A) (cX dC dI ad cid a2 lx (fun _ _ => False) A) ([eV (ad 0) x, .int k, .int wh] : List Value).toArray s 1 6 A) (F0 m 30 ls [.int y0_30]) := by
    intro y0_30 hsx0_30 hy0_30 H locs ls hP hD hS hl
    exact W.nb (fun hN => W.widen (k := 1) (n := 6) (by decide) (by decide) (vx_ret (W.iret (v := y0_30) hx hb hr (fun t ht hW => ⟨⟨some (.int y0_30), (sg, gm, lg), rfl, ⟨y0_30, rfl, rfl, hy0_30⟩, by rw [ht]; exact hP, va_K.moved hW.alike hK, hD⟩, hS.F ht, by rw [ht]; exact hN⟩) hS.2.2 dX12_object_30)))
  refine lv_iload_n hx hb dX12_object_0 rfl (lv_at hl 2 rfl) ?_
  refine lv_if_ne (tgt := 13) hx hb dX12_object_1 (by decide) (fun c_1 => ?_) (fun c_1 => ?_)
  · have d_2 : ¬ (wh : Int32).toInt = 0 := lv_neT c_1 rfl
    refine lv_iload_n hx hb dX12_object_13 rfl (lv_at hl 2 rfl) ?_
    refine lv_iconst (v := 1) hx hb dX12_object_14 (by decide) ?_
    refine lv_icmp_ne (tgt := 29) hx hb dX12_object_15 (by decide) (fun c_3 => ?_) (fun c_3 => ?_)
    · have d_4 : ¬ (wh : Int32).toInt = 1 := lv_neT c_3 rfl
      refine lv_iconst (v := (-1)) hx hb dX12_object_29 (by decide) ?_
      exact hj30 (-1) hvx (iv_w (iv_k (by decide) : iv (-1) (-1) (-1)) (by decide)) _ _ _ hP hD hS (lv_sub hl [0, 1, 2] rfl)
    · have h_5 : iv 1 1 wh := iv_eq c_3 (iv_all wh) (iv_k (by decide) : iv 1 1 1) (by decide)
      refine ec_aload_n hx hb dX12_object_18 rfl (lv_at hl 0 rfl) ?_
      refine cr_get (t := 0) (j := 7) (C := RX12) (T := TX12) (N := 12) (v := eV (ad 6) 0) hx hb htb inX12 hown hK hP hvx (by decide) (by decide) (by decide) rfl (by decide) (htb _ kw_41) (cV_c rfl (by decide) (by rw [show cMu 0 7 = 0 from rfl, Nat.zero_mul]; rfl)) dX12_object_19 ?_
      refine lv_iload_n hx hb dX12_object_22 rfl (lv_at hl 1 rfl) ?_
      refine cm_callV (t := 6) (C := RX5) (T := TX5) (N := 13) (rest := []) (as := [.int k]) ⟨hx, hb, hml, hown, htb⟩ (d_beanOfObject l dC dI ad cid a2 lx sg gm lg 0 k hI (iv_k (by decide) : iv 0 0 0)) (cwV 1 htb (gd_V kw_1334 kw_1335 kw_1336 kw_40 kw_1659) rfl rfl rfl (by decide +kernel) ⟨Nat.le_of_ble_eq_true rfl, Nat.le_of_ble_eq_true rfl⟩) (iv_k (by decide) : iv 0 0 0) (by decide) (by decide) rfl rfl hl.1 rfl (Nat.le_trans cs_n (by decide)) dX12_object_23 ⟨Nat.le_of_ble_eq_true rfl, Nat.le_of_ble_eq_true rfl⟩ hK hP hD hS hA hG (fun E ce q9 u_7 H locs hw hP hD hS hce hcv hcl => ?_) (fun v9 u_7 H locs hw hP hD hS => ?_)
      · exact hw.elim
      obtain ⟨r_6, rfl, rfl, hr_6⟩ := hw
      have hP : va_P (dC, dI) vwCl (cW ad cid a2 lx sg gm lg) H := hP
      have hD : va_D A (cW ad cid a2 lx sg gm lg) := hD
      refine W.eq (g2 := F0 m 26 ls [.int r_6]) rfl ?_
      refine lv_goto (tgt := 30) hx hb dX12_object_26 (by decide) ?_
      exact hj30 r_6 hvx hr_6 _ _ _ hP hD hS (lv_sub hl [0, 1, 2] rfl)
  · have h_9 : iv 0 0 wh := iv_eq c_1 (iv_all wh) (iv_k (by decide) : iv 0 0 0) (by decide)
    refine ec_aload_n hx hb dX12_object_4 rfl (lv_at hl 0 rfl) ?_
    refine cr_get (t := 0) (j := 7) (C := RX12) (T := TX12) (N := 12) (v := eV (ad 6) 0) hx hb htb inX12 hown hK hP hvx (by decide) (by decide) (by decide) rfl (by decide) (htb _ kw_41) (cV_c rfl (by decide) (by rw [show cMu 0 7 = 0 from rfl, Nat.zero_mul]; rfl)) dX12_object_5 ?_
    refine lv_iload_n hx hb dX12_object_8 rfl (lv_at hl 1 rfl) ?_
    refine cm_callV (t := 6) (C := RX5) (T := TX5) (N := 13) (rest := []) (as := [.int k]) ⟨hx, hb, hml, hown, htb⟩ (d_classOfObject l dC dI ad cid a2 lx sg gm lg 0 k hI (iv_k (by decide) : iv 0 0 0)) (cwV 1 htb (gd_V kw_1331 kw_1332 kw_1333 kw_40 kw_1658) rfl rfl rfl (by decide +kernel) ⟨Nat.le_of_ble_eq_true rfl, Nat.le_of_ble_eq_true rfl⟩) (iv_k (by decide) : iv 0 0 0) (by decide) (by decide) rfl rfl hl.1 rfl (Nat.le_trans cs_n (by decide)) dX12_object_9 ⟨Nat.le_of_ble_eq_true rfl, Nat.le_of_ble_eq_true rfl⟩ hK hP hD hS hA hG (fun E ce q9 u_11 H locs hw hP hD hS hce hcv hcl => ?_) (fun v9 u_11 H locs hw hP hD hS => ?_)
    · exact hw.elim
    obtain ⟨r_10, rfl, rfl, hr_10⟩ := hw
    have hP : va_P (dC, dI) vwCl (cW ad cid a2 lx sg gm lg) H := hP
    have hD : va_D A (cW ad cid a2 lx sg gm lg) := hD
    refine W.eq (g2 := F0 m 12 ls [.int r_10]) rfl ?_
    exact W.nb (fun hN => W.widen (k := 1) (n := 6) (by decide) (by decide) (vx_ret (W.iret (v := r_10) hx hb hr (fun t ht hW => ⟨⟨some (.int r_10), (sg, gm, lg), rfl, ⟨r_10, rfl, rfl, (iv_w hr_10 (by decide))⟩, by rw [ht]; exact hP, va_K.moved hW.alike hK, hD⟩, hS.F ht, by rw [ht]; exact hN⟩) hS.2.2 dX12_object_12)))

set_option maxHeartbeats 4000000 in
set_option maxRecDepth 100000 in
theorem d_lsize (l : Launch) (dC : Nat → ClassId) (dI : Nat → Nat → Nat) (ad : Nat → Nat → Nat) (cid : Nat → ClassId) (a2 : Nat → Nat) (lx : List Nat) (sg : Nat → Int32) (gm : Nat → Nat → Int32) (lg : Nat → Nat → Int64) (x : Int32) (hI : CI sg gm) (hvx : iv 0 239 x) : CMt dC dI ad cid a2 lx l yJx4a65c_size_8abf5 wm_Jx4a65c_size_8abf5 ({ frames := 0, cells := 1, slots := 6, locals := 0 }) [eV (ad 11) x] sg gm lg (fun v u => ∃ r : Int32, v = some (.int r) ∧ u = (sg, gm, lg) ∧ (iv 0 80 r) ∧ (r = gm 41 x.toNatClampNeg)) (fun _ _ => False) := by
  intro sz
  refine vx_ofW (cc := cJx4a65c_size_8abf5) (maxL := 1) (ret := (some .int)) (by decide) rfl ?_
  intro p e s m args below meth c s₁ B hml hxt hv
  obtain ⟨rfl, hsz, hP, hK, hD0, hG⟩ := hv
  have hx := B.exec
  have hb := B.bytes
  have hr := B.returns
  have hts := atoms_spec (ws := wm_Jx4a65c_size_8abf5) B.pre
  have htb := fun (w : Cond) (h : w ∈ tb) => hts w (List.mem_cons_of_mem _ h)
  have hown : s.vm.findClass RJx4a65c = some m.cls := findClass_of_methodNamed B.named
  have hlocks := B.notSynchronized
  subst hsz
  have hD := hD0.self (sz := s.heap.size)
  generalize hAe : va_A (cW ad cid a2 lx sg gm lg) s.heap.size = A at hD hG ⊢
  have hA : ∀ q : Nat, s.heap.size ≤ q → A q := fun q h => by rw [← hAe]; exact Or.inr h
  have hS : va_S A s.heap s.heap [] := va_S.rf
  have hl := lv_entry ([eV (ad 11) x]) (n := 1) (by rw [show (lg_sl ([eV (ad 11) x])).length = 1 from by simp [lg_sl, eV_cat, cat_i, cat_l]]; exact Nat.le_of_ble_eq_true rfl)
  rw [lg_entry_eq]
  generalize (lg_sl ([eV (ad 11) x]) ++ List.replicate (1 - (lg_sl ([eV (ad 11) x])).length) Slot.unset).toArray = ls at hl ⊢
  have hl : lv_has ls 1 [(0, eV (ad 11) x)] := by simp [lv_args, eV_cat, cat_i, cat_l] at hl; exact hl
  refine ec_aload_n hx hb dJx4a65c_size_8abf5_0 rfl (lv_at hl 0 rfl) ?_
  refine cr_get (t := 11) (j := 2) (C := RJx4a65c) (T := TJx4a65c) (N := 3) (v := .int (gm 41 x.toNatClampNeg)) hx hb htb inJx4a65c hown hK hP hvx (by decide) (by decide) (by decide) rfl (by decide) (htb _ kw_678) rfl dJx4a65c_size_8abf5_1 ?_
  obtain ⟨z_1, ez_1⟩ : ∃ z : Int32, z = (gm 41 x.toNatClampNeg) := ⟨_, rfl⟩
  refine W.eq (g2 := F0 m 4 ls [.int z_1]) (by rw [ez_1]) ?_
  have hz_1 : iv 0 80 z_1 := iv_of ez_1 (CI_a hI 41 hvx (by decide))
  exact W.nb (fun hN => W.widen (k := 1) (n := 6) (by decide) (by decide) (vx_ret (W.iret (v := z_1) hx hb hr (fun t ht hW => ⟨⟨some (.int z_1), (sg, gm, lg), rfl, ⟨z_1, rfl, rfl, hz_1, (ez_1)⟩, by rw [ht]; exact hP, va_K.moved hW.alike hK, hD⟩, hS.F ht, by rw [ht]; exact hN⟩) hS.2.2 dJx4a65c_size_8abf5_4)))

set_option maxHeartbeats 4000000 in
set_option maxRecDepth 100000 in
theorem d_told (l : Launch) (dC : Nat → ClassId) (dI : Nat → Nat → Nat) (ad : Nat → Nat → Nat) (cid : Nat → ClassId) (a2 : Nat → Nat) (lx : List Nat) (sg : Nat → Int32) (gm : Nat → Nat → Int32) (lg : Nat → Nat → Int64) (b : Int32) (wh : Int32) (hI : CI sg gm) (hvb : iv 0 79 b) (hel : 0 ≤ (gm 29 b.toNatClampNeg).toInt) : CMt dC dI ad cid a2 lx l yX1_told wm_X1_told ({ frames := 1, cells := 1, slots := 6, locals := 20 }) [eV (ad 10) b, .int wh] sg gm lg (fun v u => ∃ r : Int32, v = some (.int r) ∧ u = (sg, gm, lg) ∧ (iv (-1) 1201 r)) (fun _ _ => False) := by
  intro sz
  refine vx_ofW (cc := cX1_told) (maxL := 2) (ret := (some .int)) (by decide) rfl ?_
  intro p e s m args below meth c s₁ B hml hxt hv
  obtain ⟨rfl, hsz, hP, hK, hD0, hG⟩ := hv
  have hx := B.exec
  have hb := B.bytes
  have hr := B.returns
  have hts := atoms_spec (ws := wm_X1_told) B.pre
  have htb := fun (w : Cond) (h : w ∈ tb) => hts w (List.mem_cons_of_mem _ h)
  have hown : s.vm.findClass RX1 = some m.cls := findClass_of_methodNamed B.named
  have hlocks := B.notSynchronized
  subst hsz
  have hD := hD0.self (sz := s.heap.size)
  generalize hAe : va_A (cW ad cid a2 lx sg gm lg) s.heap.size = A at hD hG ⊢
  have hA : ∀ q : Nat, s.heap.size ≤ q → A q := fun q h => by rw [← hAe]; exact Or.inr h
  have hS : va_S A s.heap s.heap [] := va_S.rf
  have hl := lv_entry ([eV (ad 10) b, .int wh]) (n := 2) (by rw [show (lg_sl ([eV (ad 10) b, .int wh])).length = 2 from by simp [lg_sl, eV_cat, cat_i, cat_l]]; exact Nat.le_of_ble_eq_true rfl)
  rw [lg_entry_eq]
  generalize (lg_sl ([eV (ad 10) b, .int wh]) ++ List.replicate (2 - (lg_sl ([eV (ad 10) b, .int wh])).length) Slot.unset).toArray = ls at hl ⊢
  have hl : lv_has ls 2 [(0, eV (ad 10) b), (1, .int wh)] := by simp [lv_args, eV_cat, cat_i, cat_l] at hl; exact hl
  have hj120 : ∀ (y0_120 : Int32) (_ : iv 0 79 b) (_ : iv 7 7 wh) (_ : iv 0 1 y0_120) (H : Heap) (locs : List Loc) (ls : Array Slot), va_P (dC, dI) vwCl (cW ad cid a2 lx sg gm lg) H → va_D A (cW ad cid a2 lx sg gm lg) → va_S A s.heap H locs → lv_has ls 2 [(0, eV (ad 10) b), (1, .int wh)] → W p l e (headSpec wm_X1_told ({ frames := 1, cells := 1, slots := 6, locals := 20 })).room s m ([eV (ad 10) b, .int wh] : List Value).toArray below meth c H locs 0 0 (vx_MQ below (cQx dC dI ad cid a2 lx (fun v u => ∃ r : Int32, v = some (.int r) ∧ u = (sg, gm, lg) ∧ (iv (-1) 1201 r)) A) (cX dC dI ad cid a2 lx (fun _ _ => False) A) ([eV (ad 10) b, .int wh] : List Value).toArray s 1 6 A) (F0 m 120 ls [.int y0_120]) := by
    intro y0_120 hsx0_120 hsx1_120 hy0_120 H locs ls hP hD hS hl
    exact W.nb (fun hN => W.widen (k := 1) (n := 6) (by decide) (by decide) (vx_ret (W.iret (v := y0_120) hx hb hr (fun t ht hW => ⟨⟨some (.int y0_120), (sg, gm, lg), rfl, ⟨y0_120, rfl, rfl, (iv_w hy0_120 (by decide))⟩, by rw [ht]; exact hP, va_K.moved hW.alike hK, hD⟩, hS.F ht, by rw [ht]; exact hN⟩) hS.2.2 dX1_told_120)))
  have hj133 : ∀ (y0_133 : Int32) (_ : iv 0 79 b) (_ : iv 8 8 wh) (_ : iv 0 1 y0_133) (H : Heap) (locs : List Loc) (ls : Array Slot), va_P (dC, dI) vwCl (cW ad cid a2 lx sg gm lg) H → va_D A (cW ad cid a2 lx sg gm lg) → va_S A s.heap H locs → lv_has ls 2 [(0, eV (ad 10) b), (1, .int wh)] → W p l e (headSpec wm_X1_told ({ frames := 1, cells := 1, slots := 6, locals := 20 })).room s m ([eV (ad 10) b, .int wh] : List Value).toArray below meth c H locs 0 0 (vx_MQ below (cQx dC dI ad cid a2 lx (fun v u => ∃ r : Int32, v = some (.int r) ∧ u = (sg, gm, lg) ∧ (iv (-1) 1201 r)) A) (cX dC dI ad cid a2 lx (fun _ _ => False) A) ([eV (ad 10) b, .int wh] : List Value).toArray s 1 6 A) (F0 m 133 ls [.int y0_133]) := by
    intro y0_133 hsx0_133 hsx1_133 hy0_133 H locs ls hP hD hS hl
    exact W.nb (fun hN => W.widen (k := 1) (n := 6) (by decide) (by decide) (vx_ret (W.iret (v := y0_133) hx hb hr (fun t ht hW => ⟨⟨some (.int y0_133), (sg, gm, lg), rfl, ⟨y0_133, rfl, rfl, (iv_w hy0_133 (by decide))⟩, by rw [ht]; exact hP, va_K.moved hW.alike hK, hD⟩, hS.F ht, by rw [ht]; exact hN⟩) hS.2.2 dX1_told_133)))
  have hj146 : ∀ (y0_146 : Int32) (_ : iv 0 79 b) (_ : iv 9 9 wh) (_ : iv 0 1 y0_146) (H : Heap) (locs : List Loc) (ls : Array Slot), va_P (dC, dI) vwCl (cW ad cid a2 lx sg gm lg) H → va_D A (cW ad cid a2 lx sg gm lg) → va_S A s.heap H locs → lv_has ls 2 [(0, eV (ad 10) b), (1, .int wh)] → W p l e (headSpec wm_X1_told ({ frames := 1, cells := 1, slots := 6, locals := 20 })).room s m ([eV (ad 10) b, .int wh] : List Value).toArray below meth c H locs 0 0 (vx_MQ below (cQx dC dI ad cid a2 lx (fun v u => ∃ r : Int32, v = some (.int r) ∧ u = (sg, gm, lg) ∧ (iv (-1) 1201 r)) A) (cX dC dI ad cid a2 lx (fun _ _ => False) A) ([eV (ad 10) b, .int wh] : List Value).toArray s 1 6 A) (F0 m 146 ls [.int y0_146]) := by
    intro y0_146 hsx0_146 hsx1_146 hy0_146 H locs ls hP hD hS hl
    exact W.nb (fun hN => W.widen (k := 1) (n := 6) (by decide) (by decide) (vx_ret (W.iret (v := y0_146) hx hb hr (fun t ht hW => ⟨⟨some (.int y0_146), (sg, gm, lg), rfl, ⟨y0_146, rfl, rfl, (iv_w hy0_146 (by decide))⟩, by rw [ht]; exact hP, va_K.moved hW.alike hK, hD⟩, hS.F ht, by rw [ht]; exact hN⟩) hS.2.2 dX1_told_146)))
  have hj159 : ∀ (y0_159 : Int32) (_ : iv 0 79 b) (_ : iv 10 10 wh) (_ : iv 0 1 y0_159) (H : Heap) (locs : List Loc) (ls : Array Slot), va_P (dC, dI) vwCl (cW ad cid a2 lx sg gm lg) H → va_D A (cW ad cid a2 lx sg gm lg) → va_S A s.heap H locs → lv_has ls 2 [(0, eV (ad 10) b), (1, .int wh)] → W p l e (headSpec wm_X1_told ({ frames := 1, cells := 1, slots := 6, locals := 20 })).room s m ([eV (ad 10) b, .int wh] : List Value).toArray below meth c H locs 0 0 (vx_MQ below (cQx dC dI ad cid a2 lx (fun v u => ∃ r : Int32, v = some (.int r) ∧ u = (sg, gm, lg) ∧ (iv (-1) 1201 r)) A) (cX dC dI ad cid a2 lx (fun _ _ => False) A) ([eV (ad 10) b, .int wh] : List Value).toArray s 1 6 A) (F0 m 159 ls [.int y0_159]) := by
    intro y0_159 hsx0_159 hsx1_159 hy0_159 H locs ls hP hD hS hl
    exact W.nb (fun hN => W.widen (k := 1) (n := 6) (by decide) (by decide) (vx_ret (W.iret (v := y0_159) hx hb hr (fun t ht hW => ⟨⟨some (.int y0_159), (sg, gm, lg), rfl, ⟨y0_159, rfl, rfl, (iv_w hy0_159 (by decide))⟩, by rw [ht]; exact hP, va_K.moved hW.alike hK, hD⟩, hS.F ht, by rw [ht]; exact hN⟩) hS.2.2 dX1_told_159)))
  refine lv_iload_n hx hb dX1_told_0 rfl (lv_at hl 1 rfl) ?_
  by_cases c_1 : (wh : Int32).toInt = 0
  · refine lv_tableIn (tgt := 64) hx hb dX1_told_1 (by rw [c_1]; decide) (by rw [c_1]; decide) (by rw [c_1]; rfl) (by decide) ?_
    have h_2 : iv 0 0 wh := iv_at c_1
    refine ec_aload_n hx hb dX1_told_64 rfl (lv_at hl 0 rfl) ?_
    refine cr_get (t := 10) (j := 9) (C := RX1) (T := TX1) (N := 19) (v := .int (gm 30 b.toNatClampNeg)) hx hb htb inX1 hown hK hP hvb (by decide) (by decide) (by decide) rfl (by decide) (htb _ kw_666) rfl dX1_told_65 ?_
    obtain ⟨z_3, ez_3⟩ : ∃ z : Int32, z = (gm 30 b.toNatClampNeg) := ⟨_, rfl⟩
    refine W.eq (g2 := F0 m 68 ls [.int z_3]) (by rw [ez_3]) ?_
    have hz_3 : iv (-1) 7 z_3 := iv_of ez_3 (CI_a hI 30 hvb (by decide))
    exact W.nb (fun hN => W.widen (k := 1) (n := 6) (by decide) (by decide) (vx_ret (W.iret (v := z_3) hx hb hr (fun t ht hW => ⟨⟨some (.int z_3), (sg, gm, lg), rfl, ⟨z_3, rfl, rfl, (iv_w hz_3 (by decide))⟩, by rw [ht]; exact hP, va_K.moved hW.alike hK, hD⟩, hS.F ht, by rw [ht]; exact hN⟩) hS.2.2 dX1_told_68)))
  by_cases c_4 : (wh : Int32).toInt = 1
  · refine lv_tableIn (tgt := 69) hx hb dX1_told_1 (by rw [c_4]; decide) (by rw [c_4]; decide) (by rw [c_4]; rfl) (by decide) ?_
    have h_5 : iv 1 1 wh := iv_at c_4
    refine ec_aload_n hx hb dX1_told_69 rfl (lv_at hl 0 rfl) ?_
    obtain ⟨q_6, hq_6, nq_6, tq_6⟩ := ix_mk (3 * b.toNatClampNeg + 0) 239 (by have q1 := iv_cl hvb (by decide); have q2 := (hvb).2; omega) (by decide)
    refine cr_get (t := 10) (j := 1) (C := RX1) (T := TX1) (N := 19) (v := eV (ad 11) q_6) hx hb htb inX1 hown hK hP hvb (by decide) (by decide) (by decide) rfl (by decide) (htb _ kw_99) (cV_c rfl hq_6.1 nq_6) dX1_told_70 ?_
    refine cm_callV (t := 11) (C := RJx4a65c) (T := TJx4a65c) (N := 3) (rest := []) (as := []) ⟨hx, hb, hml, hown, htb⟩ (d_lsize l dC dI ad cid a2 lx sg gm lg q_6 hI hq_6) (cwV 0 htb (gd_V kw_790 kw_791 kw_792 kw_98 kw_1511) rfl rfl rfl (by decide +kernel) ⟨Nat.le_of_ble_eq_true rfl, Nat.le_of_ble_eq_true rfl⟩) hq_6 (by decide) (by decide) rfl rfl hl.1 rfl (Nat.le_trans cs_n (by decide)) dX1_told_73 ⟨Nat.le_of_ble_eq_true rfl, Nat.le_of_ble_eq_true rfl⟩ hK hP hD hS hA hG (fun E ce q9 u_8 H locs hw hP hD hS hce hcv hcl => ?_) (fun v9 u_8 H locs hw hP hD hS => ?_)
    · exact hw.elim
    obtain ⟨r_7, rfl, rfl, hr_7, fr_r_7⟩ := hw
    have hP : va_P (dC, dI) vwCl (cW ad cid a2 lx sg gm lg) H := hP
    have hD : va_D A (cW ad cid a2 lx sg gm lg) := hD
    refine W.eq (g2 := F0 m 76 ls [.int r_7]) rfl ?_
    exact W.nb (fun hN => W.widen (k := 1) (n := 6) (by decide) (by decide) (vx_ret (W.iret (v := r_7) hx hb hr (fun t ht hW => ⟨⟨some (.int r_7), (sg, gm, lg), rfl, ⟨r_7, rfl, rfl, (iv_w hr_7 (by decide))⟩, by rw [ht]; exact hP, va_K.moved hW.alike hK, hD⟩, hS.F ht, by rw [ht]; exact hN⟩) hS.2.2 dX1_told_76)))
  by_cases c_10 : (wh : Int32).toInt = 2
  · refine lv_tableIn (tgt := 77) hx hb dX1_told_1 (by rw [c_10]; decide) (by rw [c_10]; decide) (by rw [c_10]; rfl) (by decide) ?_
    have h_11 : iv 2 2 wh := iv_at c_10
    refine ec_aload_n hx hb dX1_told_77 rfl (lv_at hl 0 rfl) ?_
    obtain ⟨q_12, hq_12, nq_12, tq_12⟩ := ix_mk (3 * b.toNatClampNeg + 1) 239 (by have q1 := iv_cl hvb (by decide); have q2 := (hvb).2; omega) (by decide)
    refine cr_get (t := 10) (j := 2) (C := RX1) (T := TX1) (N := 19) (v := eV (ad 11) q_12) hx hb htb inX1 hown hK hP hvb (by decide) (by decide) (by decide) rfl (by decide) (htb _ kw_100) (cV_c rfl hq_12.1 nq_12) dX1_told_78 ?_
    refine cm_callV (t := 11) (C := RJx4a65c) (T := TJx4a65c) (N := 3) (rest := []) (as := []) ⟨hx, hb, hml, hown, htb⟩ (d_lsize l dC dI ad cid a2 lx sg gm lg q_12 hI hq_12) (cwV 0 htb (gd_V kw_790 kw_791 kw_792 kw_98 kw_1511) rfl rfl rfl (by decide +kernel) ⟨Nat.le_of_ble_eq_true rfl, Nat.le_of_ble_eq_true rfl⟩) hq_12 (by decide) (by decide) rfl rfl hl.1 rfl (Nat.le_trans cs_n (by decide)) dX1_told_81 ⟨Nat.le_of_ble_eq_true rfl, Nat.le_of_ble_eq_true rfl⟩ hK hP hD hS hA hG (fun E ce q9 u_14 H locs hw hP hD hS hce hcv hcl => ?_) (fun v9 u_14 H locs hw hP hD hS => ?_)
    · exact hw.elim
    obtain ⟨r_13, rfl, rfl, hr_13, fr_r_13⟩ := hw
    have hP : va_P (dC, dI) vwCl (cW ad cid a2 lx sg gm lg) H := hP
    have hD : va_D A (cW ad cid a2 lx sg gm lg) := hD
    refine W.eq (g2 := F0 m 84 ls [.int r_13]) rfl ?_
    exact W.nb (fun hN => W.widen (k := 1) (n := 6) (by decide) (by decide) (vx_ret (W.iret (v := r_13) hx hb hr (fun t ht hW => ⟨⟨some (.int r_13), (sg, gm, lg), rfl, ⟨r_13, rfl, rfl, (iv_w hr_13 (by decide))⟩, by rw [ht]; exact hP, va_K.moved hW.alike hK, hD⟩, hS.F ht, by rw [ht]; exact hN⟩) hS.2.2 dX1_told_84)))
  by_cases c_16 : (wh : Int32).toInt = 3
  · refine lv_tableIn (tgt := 85) hx hb dX1_told_1 (by rw [c_16]; decide) (by rw [c_16]; decide) (by rw [c_16]; rfl) (by decide) ?_
    have h_17 : iv 3 3 wh := iv_at c_16
    refine ec_aload_n hx hb dX1_told_85 rfl (lv_at hl 0 rfl) ?_
    obtain ⟨q_18, hq_18, nq_18, tq_18⟩ := ix_mk (3 * b.toNatClampNeg + 2) 239 (by have q1 := iv_cl hvb (by decide); have q2 := (hvb).2; omega) (by decide)
    refine cr_get (t := 10) (j := 3) (C := RX1) (T := TX1) (N := 19) (v := eV (ad 11) q_18) hx hb htb inX1 hown hK hP hvb (by decide) (by decide) (by decide) rfl (by decide) (htb _ kw_101) (cV_c rfl hq_18.1 nq_18) dX1_told_86 ?_
    refine cm_callV (t := 11) (C := RJx4a65c) (T := TJx4a65c) (N := 3) (rest := []) (as := []) ⟨hx, hb, hml, hown, htb⟩ (d_lsize l dC dI ad cid a2 lx sg gm lg q_18 hI hq_18) (cwV 0 htb (gd_V kw_790 kw_791 kw_792 kw_98 kw_1511) rfl rfl rfl (by decide +kernel) ⟨Nat.le_of_ble_eq_true rfl, Nat.le_of_ble_eq_true rfl⟩) hq_18 (by decide) (by decide) rfl rfl hl.1 rfl (Nat.le_trans cs_n (by decide)) dX1_told_89 ⟨Nat.le_of_ble_eq_true rfl, Nat.le_of_ble_eq_true rfl⟩ hK hP hD hS hA hG (fun E ce q9 u_20 H locs hw hP hD hS hce hcv hcl => ?_) (fun v9 u_20 H locs hw hP hD hS => ?_)
    · exact hw.elim
    obtain ⟨r_19, rfl, rfl, hr_19, fr_r_19⟩ := hw
    have hP : va_P (dC, dI) vwCl (cW ad cid a2 lx sg gm lg) H := hP
    have hD : va_D A (cW ad cid a2 lx sg gm lg) := hD
    refine W.eq (g2 := F0 m 92 ls [.int r_19]) rfl ?_
    exact W.nb (fun hN => W.widen (k := 1) (n := 6) (by decide) (by decide) (vx_ret (W.iret (v := r_19) hx hb hr (fun t ht hW => ⟨⟨some (.int r_19), (sg, gm, lg), rfl, ⟨r_19, rfl, rfl, (iv_w hr_19 (by decide))⟩, by rw [ht]; exact hP, va_K.moved hW.alike hK, hD⟩, hS.F ht, by rw [ht]; exact hN⟩) hS.2.2 dX1_told_92)))
  by_cases c_22 : (wh : Int32).toInt = 4
  · refine lv_tableIn (tgt := 93) hx hb dX1_told_1 (by rw [c_22]; decide) (by rw [c_22]; decide) (by rw [c_22]; rfl) (by decide) ?_
    have h_23 : iv 4 4 wh := iv_at c_22
    refine ec_aload_n hx hb dX1_told_93 rfl (lv_at hl 0 rfl) ?_
    refine cr_get (t := 10) (j := 10) (C := RX1) (T := TX1) (N := 19) (v := .int (gm 31 b.toNatClampNeg)) hx hb htb inX1 hown hK hP hvb (by decide) (by decide) (by decide) rfl (by decide) (htb _ kw_667) rfl dX1_told_94 ?_
    obtain ⟨z_24, ez_24⟩ : ∃ z : Int32, z = (gm 31 b.toNatClampNeg) := ⟨_, rfl⟩
    refine W.eq (g2 := F0 m 97 ls [.int z_24]) (by rw [ez_24]) ?_
    have hz_24 : iv (-1) 25 z_24 := iv_of ez_24 (CI_a hI 31 hvb (by decide))
    exact W.nb (fun hN => W.widen (k := 1) (n := 6) (by decide) (by decide) (vx_ret (W.iret (v := z_24) hx hb hr (fun t ht hW => ⟨⟨some (.int z_24), (sg, gm, lg), rfl, ⟨z_24, rfl, rfl, (iv_w hz_24 (by decide))⟩, by rw [ht]; exact hP, va_K.moved hW.alike hK, hD⟩, hS.F ht, by rw [ht]; exact hN⟩) hS.2.2 dX1_told_97)))
  by_cases c_25 : (wh : Int32).toInt = 5
  · refine lv_tableIn (tgt := 98) hx hb dX1_told_1 (by rw [c_25]; decide) (by rw [c_25]; decide) (by rw [c_25]; rfl) (by decide) ?_
    have h_26 : iv 5 5 wh := iv_at c_25
    refine ec_aload_n hx hb dX1_told_98 rfl (lv_at hl 0 rfl) ?_
    refine cr_get (t := 10) (j := 11) (C := RX1) (T := TX1) (N := 19) (v := .int (gm 32 b.toNatClampNeg)) hx hb htb inX1 hown hK hP hvb (by decide) (by decide) (by decide) rfl (by decide) (htb _ kw_668) rfl dX1_told_99 ?_
    obtain ⟨z_27, ez_27⟩ : ∃ z : Int32, z = (gm 32 b.toNatClampNeg) := ⟨_, rfl⟩
    refine W.eq (g2 := F0 m 102 ls [.int z_27]) (by rw [ez_27]) ?_
    have hz_27 : iv (-1) 25 z_27 := iv_of ez_27 (CI_a hI 32 hvb (by decide))
    exact W.nb (fun hN => W.widen (k := 1) (n := 6) (by decide) (by decide) (vx_ret (W.iret (v := z_27) hx hb hr (fun t ht hW => ⟨⟨some (.int z_27), (sg, gm, lg), rfl, ⟨z_27, rfl, rfl, (iv_w hz_27 (by decide))⟩, by rw [ht]; exact hP, va_K.moved hW.alike hK, hD⟩, hS.F ht, by rw [ht]; exact hN⟩) hS.2.2 dX1_told_102)))
  by_cases c_28 : (wh : Int32).toInt = 6
  · refine lv_tableIn (tgt := 103) hx hb dX1_told_1 (by rw [c_28]; decide) (by rw [c_28]; decide) (by rw [c_28]; rfl) (by decide) ?_
    have h_29 : iv 6 6 wh := iv_at c_28
    refine ec_aload_n hx hb dX1_told_103 rfl (lv_at hl 0 rfl) ?_
    refine cr_get (t := 10) (j := 12) (C := RX1) (T := TX1) (N := 19) (v := .int (gm 33 b.toNatClampNeg)) hx hb htb inX1 hown hK hP hvb (by decide) (by decide) (by decide) rfl (by decide) (htb _ kw_669) rfl dX1_told_104 ?_
    obtain ⟨z_30, ez_30⟩ : ∃ z : Int32, z = (gm 33 b.toNatClampNeg) := ⟨_, rfl⟩
    refine W.eq (g2 := F0 m 107 ls [.int z_30]) (by rw [ez_30]) ?_
    have hz_30 : iv (-1) 25 z_30 := iv_of ez_30 (CI_a hI 33 hvb (by decide))
    exact W.nb (fun hN => W.widen (k := 1) (n := 6) (by decide) (by decide) (vx_ret (W.iret (v := z_30) hx hb hr (fun t ht hW => ⟨⟨some (.int z_30), (sg, gm, lg), rfl, ⟨z_30, rfl, rfl, (iv_w hz_30 (by decide))⟩, by rw [ht]; exact hP, va_K.moved hW.alike hK, hD⟩, hS.F ht, by rw [ht]; exact hN⟩) hS.2.2 dX1_told_107)))
  by_cases c_31 : (wh : Int32).toInt = 7
  · refine lv_tableIn (tgt := 108) hx hb dX1_told_1 (by rw [c_31]; decide) (by rw [c_31]; decide) (by rw [c_31]; rfl) (by decide) ?_
    have h_32 : iv 7 7 wh := iv_at c_31
    refine ec_aload_n hx hb dX1_told_108 rfl (lv_at hl 0 rfl) ?_
    refine cr_get (t := 10) (j := 13) (C := RX1) (T := TX1) (N := 19) (v := .int (gm 34 b.toNatClampNeg)) hx hb htb inX1 hown hK hP hvb (by decide) (by decide) (by decide) rfl (by decide) (htb _ kw_659) rfl dX1_told_109 ?_
    obtain ⟨z_33, ez_33⟩ : ∃ z : Int32, z = (gm 34 b.toNatClampNeg) := ⟨_, rfl⟩
    refine W.eq (g2 := F0 m 112 ls [.int z_33]) (by rw [ez_33]) ?_
    have hz_33 : iv 0 1 z_33 := iv_of ez_33 (CI_a hI 34 hvb (by decide))
    refine lv_if_eq (tgt := 119) hx hb dX1_told_112 (by decide) (fun c_34 => ?_) (fun c_34 => ?_)
    · have h_35 : iv 0 0 z_33 := iv_eq c_34 hz_33 (iv_k (by decide) : iv 0 0 0) (by decide)
      refine lv_iconst (v := 0) hx hb dX1_told_119 (by decide) ?_
      exact hj120 0 hvb h_32 (iv_w (iv_k (by decide) : iv 0 0 0) (by decide)) _ _ _ hP hD hS (lv_sub hl [0, 1] rfl)
    · have h_36 : iv 1 1 z_33 := iv_neL c_34 hz_33 (by decide)
      refine lv_iconst (v := 1) hx hb dX1_told_115 (by decide) ?_
      refine lv_goto (tgt := 120) hx hb dX1_told_116 (by decide) ?_
      exact hj120 1 hvb h_32 (iv_w (iv_k (by decide) : iv 1 1 1) (by decide)) _ _ _ hP hD hS (lv_sub hl [0, 1] rfl)
  by_cases c_37 : (wh : Int32).toInt = 8
  · refine lv_tableIn (tgt := 121) hx hb dX1_told_1 (by rw [c_37]; decide) (by rw [c_37]; decide) (by rw [c_37]; rfl) (by decide) ?_
    have h_38 : iv 8 8 wh := iv_at c_37
    refine ec_aload_n hx hb dX1_told_121 rfl (lv_at hl 0 rfl) ?_
    refine cr_get (t := 10) (j := 14) (C := RX1) (T := TX1) (N := 19) (v := .int (gm 35 b.toNatClampNeg)) hx hb htb inX1 hown hK hP hvb (by decide) (by decide) (by decide) rfl (by decide) (htb _ kw_662) rfl dX1_told_122 ?_
    obtain ⟨z_39, ez_39⟩ : ∃ z : Int32, z = (gm 35 b.toNatClampNeg) := ⟨_, rfl⟩
    refine W.eq (g2 := F0 m 125 ls [.int z_39]) (by rw [ez_39]) ?_
    have hz_39 : iv 0 1 z_39 := iv_of ez_39 (CI_a hI 35 hvb (by decide))
    refine lv_if_eq (tgt := 132) hx hb dX1_told_125 (by decide) (fun c_40 => ?_) (fun c_40 => ?_)
    · have h_41 : iv 0 0 z_39 := iv_eq c_40 hz_39 (iv_k (by decide) : iv 0 0 0) (by decide)
      refine lv_iconst (v := 0) hx hb dX1_told_132 (by decide) ?_
      exact hj133 0 hvb h_38 (iv_w (iv_k (by decide) : iv 0 0 0) (by decide)) _ _ _ hP hD hS (lv_sub hl [0, 1] rfl)
    · have h_42 : iv 1 1 z_39 := iv_neL c_40 hz_39 (by decide)
      refine lv_iconst (v := 1) hx hb dX1_told_128 (by decide) ?_
      refine lv_goto (tgt := 133) hx hb dX1_told_129 (by decide) ?_
      exact hj133 1 hvb h_38 (iv_w (iv_k (by decide) : iv 1 1 1) (by decide)) _ _ _ hP hD hS (lv_sub hl [0, 1] rfl)
  by_cases c_43 : (wh : Int32).toInt = 9
  · refine lv_tableIn (tgt := 134) hx hb dX1_told_1 (by rw [c_43]; decide) (by rw [c_43]; decide) (by rw [c_43]; rfl) (by decide) ?_
    have h_44 : iv 9 9 wh := iv_at c_43
    refine ec_aload_n hx hb dX1_told_134 rfl (lv_at hl 0 rfl) ?_
    refine cr_get (t := 10) (j := 15) (C := RX1) (T := TX1) (N := 19) (v := .int (gm 36 b.toNatClampNeg)) hx hb htb inX1 hown hK hP hvb (by decide) (by decide) (by decide) rfl (by decide) (htb _ kw_664) rfl dX1_told_135 ?_
    obtain ⟨z_45, ez_45⟩ : ∃ z : Int32, z = (gm 36 b.toNatClampNeg) := ⟨_, rfl⟩
    refine W.eq (g2 := F0 m 138 ls [.int z_45]) (by rw [ez_45]) ?_
    have hz_45 : iv 0 1 z_45 := iv_of ez_45 (CI_a hI 36 hvb (by decide))
    refine lv_if_eq (tgt := 145) hx hb dX1_told_138 (by decide) (fun c_46 => ?_) (fun c_46 => ?_)
    · have h_47 : iv 0 0 z_45 := iv_eq c_46 hz_45 (iv_k (by decide) : iv 0 0 0) (by decide)
      refine lv_iconst (v := 0) hx hb dX1_told_145 (by decide) ?_
      exact hj146 0 hvb h_44 (iv_w (iv_k (by decide) : iv 0 0 0) (by decide)) _ _ _ hP hD hS (lv_sub hl [0, 1] rfl)
    · have h_48 : iv 1 1 z_45 := iv_neL c_46 hz_45 (by decide)
      refine lv_iconst (v := 1) hx hb dX1_told_141 (by decide) ?_
      refine lv_goto (tgt := 146) hx hb dX1_told_142 (by decide) ?_
      exact hj146 1 hvb h_44 (iv_w (iv_k (by decide) : iv 1 1 1) (by decide)) _ _ _ hP hD hS (lv_sub hl [0, 1] rfl)
  by_cases c_49 : (wh : Int32).toInt = 10
  · refine lv_tableIn (tgt := 147) hx hb dX1_told_1 (by rw [c_49]; decide) (by rw [c_49]; decide) (by rw [c_49]; rfl) (by decide) ?_
    have h_50 : iv 10 10 wh := iv_at c_49
    refine ec_aload_n hx hb dX1_told_147 rfl (lv_at hl 0 rfl) ?_
    refine cr_get (t := 10) (j := 17) (C := RX1) (T := TX1) (N := 19) (v := .int (gm 38 b.toNatClampNeg)) hx hb htb inX1 hown hK hP hvb (by decide) (by decide) (by decide) rfl (by decide) (htb _ kw_671) rfl dX1_told_148 ?_
    obtain ⟨z_51, ez_51⟩ : ∃ z : Int32, z = (gm 38 b.toNatClampNeg) := ⟨_, rfl⟩
    refine W.eq (g2 := F0 m 151 ls [.int z_51]) (by rw [ez_51]) ?_
    have hz_51 : iv 0 1 z_51 := iv_of ez_51 (CI_a hI 38 hvb (by decide))
    refine lv_if_eq (tgt := 158) hx hb dX1_told_151 (by decide) (fun c_52 => ?_) (fun c_52 => ?_)
    · have h_53 : iv 0 0 z_51 := iv_eq c_52 hz_51 (iv_k (by decide) : iv 0 0 0) (by decide)
      refine lv_iconst (v := 0) hx hb dX1_told_158 (by decide) ?_
      exact hj159 0 hvb h_50 (iv_w (iv_k (by decide) : iv 0 0 0) (by decide)) _ _ _ hP hD hS (lv_sub hl [0, 1] rfl)
    · have h_54 : iv 1 1 z_51 := iv_neL c_52 hz_51 (by decide)
      refine lv_iconst (v := 1) hx hb dX1_told_154 (by decide) ?_
      refine lv_goto (tgt := 159) hx hb dX1_told_155 (by decide) ?_
      exact hj159 1 hvb h_50 (iv_w (iv_k (by decide) : iv 1 1 1) (by decide)) _ _ _ hP hD hS (lv_sub hl [0, 1] rfl)
  by_cases c_55 : (wh : Int32).toInt = 11
  · refine lv_tableIn (tgt := 160) hx hb dX1_told_1 (by rw [c_55]; decide) (by rw [c_55]; decide) (by rw [c_55]; rfl) (by decide) ?_
    have h_56 : iv 11 11 wh := iv_at c_55
    refine ec_aload_n hx hb dX1_told_160 rfl (lv_at hl 0 rfl) ?_
    refine cr_get (t := 10) (j := 4) (C := RX1) (T := TX1) (N := 19) (v := eV (ad 9) (gm 29 b.toNatClampNeg)) hx hb htb inX1 hown hK hP hvb (by decide) (by decide) (by decide) rfl (by decide) (htb _ kw_650) rfl dX1_told_161 ?_
    obtain ⟨z_57, ez_57⟩ : ∃ z : Int32, z = (gm 29 b.toNatClampNeg) := ⟨_, rfl⟩
    refine W.eq (g2 := F0 m 164 ls [eV (ad 9) z_57]) (by rw [ez_57]) ?_
    have hz_57 : iv (-1) 79 z_57 := iv_of ez_57 (CI_a hI 29 hvb (by decide))
    have h_58 : iv 0 79 z_57 := ⟨by rw [ez_57]; exact hel, (hz_57).2⟩
    refine cr_get (t := 9) (j := 3) (C := RX3) (T := TX3) (N := 21) (v := .int (gm 13 z_57.toNatClampNeg)) hx hb htb inX3 hown hK hP h_58 (by decide) (by decide) (by decide) rfl (by decide) (htb _ kw_1347) rfl dX1_told_164 ?_
    obtain ⟨z_59, ez_59⟩ : ∃ z : Int32, z = (gm 13 z_57.toNatClampNeg) := ⟨_, rfl⟩
    refine W.eq (g2 := F0 m 167 ls [.int z_59]) (by rw [ez_59]) ?_
    have hz_59 : iv 0 1201 z_59 := iv_of ez_59 (CI_a hI 13 h_58 (by decide))
    exact W.nb (fun hN => W.widen (k := 1) (n := 6) (by decide) (by decide) (vx_ret (W.iret (v := z_59) hx hb hr (fun t ht hW => ⟨⟨some (.int z_59), (sg, gm, lg), rfl, ⟨z_59, rfl, rfl, (iv_w hz_59 (by decide))⟩, by rw [ht]; exact hP, va_K.moved hW.alike hK, hD⟩, hS.F ht, by rw [ht]; exact hN⟩) hS.2.2 dX1_told_167)))
  refine lv_tableOut (tgt := 168) hx hb dX1_told_1 (by have q1 := ((iv_all wh)).1; have q2 := ((iv_all wh)).2; omega) (by decide) ?_
  refine lv_iconst (v := (-1)) hx hb dX1_told_168 (by decide) ?_
  exact W.nb (fun hN => W.widen (k := 1) (n := 6) (by decide) (by decide) (vx_ret (W.iret (v := (-1)) hx hb hr (fun t ht hW => ⟨⟨some (.int (-1)), (sg, gm, lg), rfl, ⟨(-1), rfl, rfl, (iv_w (iv_k (by decide) : iv (-1) (-1) (-1)) (by decide))⟩, by rw [ht]; exact hP, va_K.moved hW.alike hK, hD⟩, hS.F ht, by rw [ht]; exact hN⟩) hS.2.2 dX1_told_169)))

set_option maxHeartbeats 4000000 in
set_option maxRecDepth 100000 in
theorem d_bean (l : Launch) (dC : Nat → ClassId) (dI : Nat → Nat → Nat) (ad : Nat → Nat → Nat) (cid : Nat → ClassId) (a2 : Nat → Nat) (lx : List Nat) (sg : Nat → Int32) (gm : Nat → Nat → Int32) (lg : Nat → Nat → Int64) (x : Int32) (k : Int32) (wh : Int32) (hI : CI sg gm) (hvx : iv 0 0 x) (hBEL9 : BEL9 sg gm) : CMt dC dI ad cid a2 lx l yX12_bean wm_X12_bean ({ frames := 2, cells := 1, slots := 6, locals := 41 }) [eV (ad 0) x, .int k, .int wh] sg gm lg (fun v u => ∃ r : Int32, v = some (.int r) ∧ u = (sg, gm, lg) ∧ (iv (-1) 1201 r)) (fun _ _ => False) := by
  intro sz
  refine vx_ofW (cc := cX12_bean) (maxL := 3) (ret := (some .int)) (by decide) rfl ?_
  intro p e s m args below meth c s₁ B hml hxt hv
  obtain ⟨rfl, hsz, hP, hK, hD0, hG⟩ := hv
  have hx := B.exec
  have hb := B.bytes
  have hr := B.returns
  have hts := atoms_spec (ws := wm_X12_bean) B.pre
  have htb := fun (w : Cond) (h : w ∈ tb) => hts w (List.mem_cons_of_mem _ h)
  have hown : s.vm.findClass RX12 = some m.cls := findClass_of_methodNamed B.named
  have hlocks := B.notSynchronized
  subst hsz
  have hD := hD0.self (sz := s.heap.size)
  generalize hAe : va_A (cW ad cid a2 lx sg gm lg) s.heap.size = A at hD hG ⊢
  have hA : ∀ q : Nat, s.heap.size ≤ q → A q := fun q h => by rw [← hAe]; exact Or.inr h
  have hS : va_S A s.heap s.heap [] := va_S.rf
  have hl := lv_entry ([eV (ad 0) x, .int k, .int wh]) (n := 3) (by rw [show (lg_sl ([eV (ad 0) x, .int k, .int wh])).length = 3 from by simp [lg_sl, eV_cat, cat_i, cat_l]]; exact Nat.le_of_ble_eq_true rfl)
  rw [lg_entry_eq]
  generalize (lg_sl ([eV (ad 0) x, .int k, .int wh]) ++ List.replicate (3 - (lg_sl ([eV (ad 0) x, .int k, .int wh])).length) Slot.unset).toArray = ls at hl ⊢
  have hl : lv_has ls 3 [(0, eV (ad 0) x), (1, .int k), (2, .int wh)] := by simp [lv_args, eV_cat, cat_i, cat_l] at hl; exact hl
  have hj31 : ∀ (y0_31 : Int32) (_ : iv 0 0 x) (_ : iv (-1) 1201 y0_31) (H : Heap) (locs : List Loc) (ls : Array Slot), va_P (dC, dI) vwCl (cW ad cid a2 lx sg gm lg) H → va_D A (cW ad cid a2 lx sg gm lg) → va_S A s.heap H locs → lv_has ls 3 [(0, eV (ad 0) x), (1, .int k), (2, .int wh)] → W p l e (headSpec wm_X12_bean ({ frames := 2, cells := 1, slots := 6, locals := 41 })).room s m ([eV (ad 0) x, .int k, .int wh] : List Value).toArray below meth c H locs 0 0 (vx_MQ below (cQx dC dI ad cid a2 lx (fun v u => ∃ r : Int32, v = some (.int r) ∧ u = (sg, gm, lg) ∧ (iv (-1) 1201 r)) A) (cX dC dI ad cid a2 lx (fun _ _ => False) A) ([eV (ad 0) x, .int k, .int wh] : List Value).toArray s 1 6 A) (F0 m 31 ls [.int y0_31]) := by
    intro y0_31 hsx0_31 hy0_31 H locs ls hP hD hS hl
    exact W.nb (fun hN => W.widen (k := 1) (n := 6) (by decide) (by decide) (vx_ret (W.iret (v := y0_31) hx hb hr (fun t ht hW => ⟨⟨some (.int y0_31), (sg, gm, lg), rfl, ⟨y0_31, rfl, rfl, hy0_31⟩, by rw [ht]; exact hP, va_K.moved hW.alike hK, hD⟩, hS.F ht, by rw [ht]; exact hN⟩) hS.2.2 dX12_bean_31)))
  have hj30 : ∀ (_ : iv 0 0 x) (H : Heap) (locs : List Loc) (ls : Array Slot), va_P (dC, dI) vwCl (cW ad cid a2 lx sg gm lg) H → va_D A (cW ad cid a2 lx sg gm lg) → va_S A s.heap H locs → lv_has ls 3 [(0, eV (ad 0) x), (1, .int k), (2, .int wh)] → W p l e (headSpec wm_X12_bean ({ frames := 2, cells := 1, slots := 6, locals := 41 })).room s m ([eV (ad 0) x, .int k, .int wh] : List Value).toArray below meth c H locs 0 0 (vx_MQ below (cQx dC dI ad cid a2 lx (fun v u => ∃ r : Int32, v = some (.int r) ∧ u = (sg, gm, lg) ∧ (iv (-1) 1201 r)) A) (cX dC dI ad cid a2 lx (fun _ _ => False) A) ([eV (ad 0) x, .int k, .int wh] : List Value).toArray s 1 6 A) (F0 m 30 ls []) := by
    intro  hsx0_30 H locs ls hP hD hS hl
    refine lv_iconst (v := (-1)) hx hb dX12_bean_30 (by decide) ?_
    exact hj31 (-1) hsx0_30 (iv_w (iv_k (by decide) : iv (-1) (-1) (-1)) (by decide)) _ _ _ hP hD hS (lv_sub hl [0, 1, 2] rfl)
  refine lv_iload_n hx hb dX12_bean_0 rfl (lv_at hl 1 rfl) ?_
  refine lv_if_lt (tgt := 30) hx hb dX12_bean_1 (by decide) (fun c_1 => ?_) (fun c_1 => ?_)
  · have h_2 : iv (-2147483648) (-1) k := iv_ltL c_1 (iv_all k) (iv_k (by decide) : iv 0 0 0) (by decide)
    exact hj30 hvx _ _ _ hP hD hS (lv_sub hl [0, 1, 2] rfl)
  · have h_3 : iv 0 2147483647 k := iv_leR (i32_ge c_1) (iv_k (by decide) : iv 0 0 0) (iv_all k) (by decide)
    refine lv_iload_n hx hb dX12_bean_4 rfl (lv_at hl 1 rfl) ?_
    refine ec_aload_n hx hb dX12_bean_5 rfl (lv_at hl 0 rfl) ?_
    refine cr_get (t := 0) (j := 5) (C := RX12) (T := TX12) (N := 12) (v := eV (ad 4) 0) hx hb htb inX12 hown hK hP hvx (by decide) (by decide) (by decide) rfl (by decide) (htb _ kw_33) (cV_c rfl (by decide) (by rw [show cMu 0 5 = 0 from rfl, Nat.zero_mul]; rfl)) dX12_bean_6 ?_
    refine cm_callV (t := 4) (C := RX10) (T := TX10) (N := 4) (rest := [.int k]) (as := []) ⟨hx, hb, hml, hown, htb⟩ (d_countWi l dC dI ad cid a2 lx sg gm lg 0 hI (iv_k (by decide) : iv 0 0 0)) (cwV 0 htb (gd_V kw_809 kw_323 kw_324 kw_32 kw_1413) rfl rfl rfl (by decide +kernel) ⟨Nat.le_of_ble_eq_true rfl, Nat.le_of_ble_eq_true rfl⟩) (iv_k (by decide) : iv 0 0 0) (by decide) (by decide) rfl rfl hl.1 rfl (Nat.le_trans (cs_c (cat_i _) cs_n) (by decide)) dX12_bean_9 ⟨Nat.le_of_ble_eq_true rfl, Nat.le_of_ble_eq_true rfl⟩ hK hP hD hS hA hG (fun E ce q9 u_5 H locs hw hP hD hS hce hcv hcl => ?_) (fun v9 u_5 H locs hw hP hD hS => ?_)
    · exact hw.elim
    obtain ⟨r_4, rfl, rfl, hr_4, fr_r_4⟩ := hw
    have hP : va_P (dC, dI) vwCl (cW ad cid a2 lx sg gm lg) H := hP
    have hD : va_D A (cW ad cid a2 lx sg gm lg) := hD
    refine W.eq (g2 := F0 m 12 ls [.int r_4, .int k]) rfl ?_
    refine lv_icmp_ge (tgt := 30) hx hb dX12_bean_12 (by decide) (fun c_7 => ?_) (fun c_7 => ?_)
    · have d_8 : (r_4 : Int32).toInt ≤ (k : Int32).toInt := Int32.le_iff_toInt_le.mp c_7
      exact hj30 hvx _ _ _ hP hD hS (lv_sub hl [0, 1, 2] rfl)
    · have d_9 : (k : Int32).toInt < (r_4 : Int32).toInt := Int32.lt_iff_toInt_lt.mp (i32_lt c_7)
      have h_10 : iv 0 79 k := iv_ltL (i32_lt c_7) h_3 hr_4 (by decide)
      have h_11 : iv 1 80 r_4 := iv_ltR (i32_lt c_7) h_3 hr_4 (by decide)
      refine ec_aload_n hx hb dX12_bean_15 rfl (lv_at hl 0 rfl) ?_
      refine cr_get (t := 0) (j := 5) (C := RX12) (T := TX12) (N := 12) (v := eV (ad 4) 0) hx hb htb inX12 hown hK hP hvx (by decide) (by decide) (by decide) rfl (by decide) (htb _ kw_33) (cV_c rfl (by decide) (by rw [show cMu 0 5 = 0 from rfl, Nat.zero_mul]; rfl)) dX12_bean_16 ?_
      refine lv_iload_n hx hb dX12_bean_19 rfl (lv_at hl 1 rfl) ?_
      refine cm_callV (t := 4) (C := RX10) (T := TX10) (N := 4) (rest := []) (as := [.int k]) ⟨hx, hb, hml, hown, htb⟩ (d_numbered l dC dI ad cid a2 lx sg gm lg 0 k hI (iv_k (by decide) : iv 0 0 0) h_10) (cwV 1 htb (gd_V kw_1343 kw_327 kw_328 kw_32 kw_1414) rfl rfl rfl (by decide +kernel) ⟨Nat.le_of_ble_eq_true rfl, Nat.le_of_ble_eq_true rfl⟩) (iv_k (by decide) : iv 0 0 0) (by decide) (by decide) rfl rfl hl.1 rfl (Nat.le_trans cs_n (by decide)) dX12_bean_20 ⟨Nat.le_of_ble_eq_true rfl, Nat.le_of_ble_eq_true rfl⟩ hK hP hD hS hA hG (fun E ce q9 u_13 H locs hw hP hD hS hce hcv hcl => ?_) (fun v9 u_13 H locs hw hP hD hS => ?_)
      · exact hw.elim
      obtain ⟨r_12, rfl, rfl, hr_12, fr_r_12⟩ := hw
      have hP : va_P (dC, dI) vwCl (cW ad cid a2 lx sg gm lg) H := hP
      have hD : va_D A (cW ad cid a2 lx sg gm lg) := hD
      refine W.eq (g2 := F0 m 23 ls [eV (ad 10) r_12]) rfl ?_
      refine lv_iload_n hx hb dX12_bean_23 rfl (lv_at hl 2 rfl) ?_
      refine cm_callV (t := 10) (C := RX1) (T := TX1) (N := 19) (rest := []) (as := [.int wh]) ⟨hx, hb, hml, hown, htb⟩ (d_told l dC dI ad cid a2 lx sg gm lg r_12 wh hI hr_12 (by rw [fr_r_12]; exact hBEL9 _ (lt_cl h_10 (show iv 0 80 (sg 12) from CI_s hI 12) (by decide) (by decide) (by have q3 := congrArg Int32.toInt fr_r_4; have := i32_0; have := i32_1; have := i32_2; have := i32_m1; have := (show iv 0 80 (sg 12) from CI_s hI 12).1; have := (show iv 0 80 (sg 12) from CI_s hI 12).2; have := (hvx).1; have := (hvx).2; have := (h_10).1; have := (h_10).2; have := (h_11).1; have := (h_11).2; have := (hr_12).1; have := (hr_12).2; omega)))) (cwV 1 htb (gd_V kw_1344 kw_1345 kw_1346 kw_90 kw_1662) rfl rfl rfl (by decide +kernel) ⟨Nat.le_of_ble_eq_true rfl, Nat.le_of_ble_eq_true rfl⟩) hr_12 (by decide) (by decide) rfl rfl hl.1 rfl (Nat.le_trans cs_n (by decide)) dX12_bean_24 ⟨Nat.le_of_ble_eq_true rfl, Nat.le_of_ble_eq_true rfl⟩ hK hP hD hS hA hG (fun E ce q9 u_16 H locs hw hP hD hS hce hcv hcl => ?_) (fun v9 u_16 H locs hw hP hD hS => ?_)
      · exact hw.elim
      obtain ⟨r_15, rfl, rfl, hr_15⟩ := hw
      have hP : va_P (dC, dI) vwCl (cW ad cid a2 lx sg gm lg) H := hP
      have hD : va_D A (cW ad cid a2 lx sg gm lg) := hD
      refine W.eq (g2 := F0 m 27 ls [.int r_15]) rfl ?_
      refine lv_goto (tgt := 31) hx hb dX12_bean_27 (by decide) ?_
      exact hj31 r_15 hvx hr_15 _ _ _ hP hD hS (lv_sub hl [0, 1, 2] rfl)
