theorem GI0_own {sg sg2 : Nat → Int32} {gm gm2 : Nat → Nat → Int32} {lg lg2 : Nat → Nat → Int64} {b : Nat} {v : Int32} (q : GI0 sg gm lg) (h : DK sg gm lg sg2 gm2 lg2) (h1 : lg2 1 = lg 1) (h60 : gm2 60 = upd (gm 60) b v) (h61 : gm2 61 = gm 61) (h62 : gm2 62 = gm 62) (h70 : gm2 70 = gm 70) (h71 : gm2 71 = gm 71) (h72 : gm2 72 = gm 72) (h73 : gm2 73 = gm 73) (h50 : sg2 50 = sg 50) (hv : 0 ≤ v.toInt) : GI0 sg2 gm2 lg2 := by
  refine ⟨VAL_k h70 h71 h72 h73 q.1, fun k hk => ?_, by rw [h50, h61]; exact q.2.2⟩
  have := q.2.1 k hk
  unfold BI at *
  rw [h61, h62, mMny_k h h1]
  intro h9
  have h8 := this h9
  refine ⟨?_, h8.2.1, h8.2.2⟩
  by_cases e9 : k = b
  · subst e9; rw [h60, upd_at]; exact hv
  · rw [h60, upd_ne e9]; exact h8.1
/-- an object is made for the bean on top -/
def MKO (sg : Nat → Int32) (gm : Nat → Nat → Int32) (lg : Nat → Nat → Int64) (b : Int32) (gm2 : Nat → Nat → Int32) : Prop := 0 ≤ (gm2 69 (TOPn sg)).toInt ∧ (¬ mMny gm lg b.toNatClampNeg → 0 ≤ (gm2 60 b.toNatClampNeg).toInt) ∧ (∀ j, j ≠ TOPn sg → gm2 69 j = gm 69 j) ∧ ∀ k, 0 ≤ (gm 60 k).toInt → 0 ≤ (gm2 60 k).toInt
theorem MKO_k {sg : Nat → Int32} {gm gm1 gm2 : Nat → Nat → Int32} {lg : Nat → Nat → Int64} {b : Int32} (h : MKO sg gm lg b gm1) (h69 : gm2 69 = gm1 69) (h60 : gm2 60 = gm1 60) : MKO sg gm lg b gm2 := by
  unfold MKO at *; rw [h69, h60]; exact h
theorem MKO_m {sg : Nat → Int32} {gm gm2 : Nat → Nat → Int32} {lg : Nat → Nat → Int64} {b v : Int32} {t : Nat} (h69 : gm2 69 = upd (gm 69) t v) (ht : t = TOPn sg) (h60 : gm2 60 = gm 60) (hv : 0 ≤ v.toInt) (hm : mMny gm lg b.toNatClampNeg) : MKO sg gm lg b gm2 := by
  subst ht
  refine ⟨by rw [h69, upd_at]; exact hv, fun q => absurd hm q, fun j hj => by rw [h69, upd_ne hj], fun k hk => by rw [h60]; exact hk⟩
theorem MKO_o {sg : Nat → Int32} {gm gm2 : Nat → Nat → Int32} {lg : Nat → Nat → Int64} {b v : Int32} {t : Nat} (h69 : gm2 69 = upd (gm 69) t v) (ht : t = TOPn sg) (h60 : gm2 60 = upd (gm 60) b.toNatClampNeg v) (hv : 0 ≤ v.toInt) : MKO sg gm lg b gm2 := by
  subst ht
  refine ⟨by rw [h69, upd_at]; exact hv, fun q => by rw [h60, upd_at]; exact hv, fun j hj => by rw [h69, upd_ne hj], fun k hk => ?_⟩
  by_cases q : k = b.toNatClampNeg
  · subst q; rw [h60, upd_at]; exact hv
  · rw [h60, upd_ne q]; exact hk

set_option maxHeartbeats 4000000 in
set_option maxRecDepth 100000 in
theorem f_makeObject (l : Launch) (dC : Nat → ClassId) (dI : Nat → Nat → Nat) (h0 : Nat) (ad : Nat → Nat) (cid : Nat → ClassId) (sg : Nat → Int32) (gm : Nat → Nat → Int32) (lg : Nat → Nat → Int64) (b : Int32) (hI : MI sg gm) (hvb : iv 0 79 b) (hdoc : DOC sg gm lg) (hgi : GI0 sg gm lg) (hPR : PR gm) (hh1 : 1 ≤ (sg 63).toInt) (hbl : b.toInt < (sg 41).toInt) : MMv l dC dI yX13_makeObject wm_X13_makeObject ({ frames := 9, cells := 0, slots := 0, locals := 226 }) h0 ad cid [.int b] sg gm lg (fun v => ∃ (sg2 : Nat → Int32) (gm2 : Nat → Nat → Int32) (lg2 : Nat → Nat → Int64), v = (sg2, gm2, lg2) ∧ MI sg2 gm2 ∧ KS [48, 49, 51, 52] sg sg2 ∧ KS [53, 54, 55, 56, 57, 58, 60, 69, 75] gm gm2 ∧ KS [] lg lg2 ∧ (GI0 sg2 gm2 lg2) ∧ (1 ≤ (sg2 51).toInt ∨ MKO sg gm lg b gm2)) := by
  intro sz
  refine Met.ofW (cc := cX13_makeObject) (maxL := 9) (ret := none) (by decide) rfl ?_
  intro p e s m args below meth c s₁ B hml hv
  obtain ⟨rfl, hsz, hP, hK, hD0⟩ := hv
  have hx := B.exec
  have hb := B.bytes
  have hr := B.returns
  have hts := atoms_spec (ws := wm_X13_makeObject) B.pre
  have htb := fun (w : Cond) (h : w ∈ tb) => hts w (List.mem_cons_of_mem _ h)
  have hown : s.vm.findClass RX13 = some m.cls := findClass_of_methodNamed B.named
  have hlocks := B.notSynchronized
  subst hsz
  have hD := hD0.self (sz := s.heap.size)
  generalize hAe : va_A (mW h0 ad cid sg gm lg) s.heap.size = A at hD ⊢
  have hA : ∀ q : Nat, s.heap.size ≤ q → A q := fun q h => by rw [← hAe]; exact Or.inr h
  have hS : va_S A s.heap s.heap [] := va_S.rf
  have hl := lv_entry ([.ref h0, .int b]) (n := 9) (Nat.le_of_ble_eq_true rfl)
  rw [lg_entry_eq]
  generalize (lg_sl ([.ref h0, .int b]) ++ List.replicate (9 - (lg_sl ([.ref h0, .int b])).length) Slot.unset).toArray = ls at hl ⊢
  have hl : lv_has ls 9 [(0, .ref h0), (1, .int b)] := hl
  have h63 : iv 1 80 (sg 63) := ⟨hh1, (show iv 0 80 (sg 63) from MI_s hI 63).2⟩
  have hj293 : ∀ (n : Nat) (sg_j293 : Nat → Int32) (gm_j293 : Nat → Nat → Int32) (x8_293 : Int32) (x7_293 : Int32) (x5_293 : Int32) (x4_293 : Int32) (x3_293 : Int32) (x2_293 : Int32) (_ : (3 - x8_293.toInt).toNat = n) (_ : iv 0 3 x8_293) (_ : iv 0 3 x7_293) (_ : iv 0 59 (sg 48)) (_ : iv 0 31 x5_293) (_ : iv (-1) 7 x4_293) (_ : iv 0 1 x3_293) (_ : iv 0 79 x2_293) (_ : iv 0 79 b) (_ : KS [48, 49, 51, 52] sg sg_j293) (_ : KS [53, 54, 55, 56, 57, 58, 60, 69, 75] gm gm_j293) (_ : MI sg_j293 gm_j293) (_ : (x3_293 = 0 ∨ x7_293 = gm 8 x5_293.toNatClampNeg) ∧ (¬ x3_293 = 0 ∨ x7_293 = gm 16 x5_293.toNatClampNeg)) (_ : x7_293.toInt ≤ 0 ∨ SPF (gm_j293 75) x7_293.toNatClampNeg) (_ : x2_293.toNatClampNeg = TOPn sg) (_ : x5_293 = -1 ∨ CHO sg gm lg b x3_293 x4_293 x5_293) (_ : MKO sg gm lg b gm_j293) (_ : GI0 sg_j293 gm_j293 lg) (_ : ¬ x5_293 = -1) (H : Heap) (locs : List Loc) (ls : Array Slot), va_P (dC, dI) vwCl (mW h0 ad cid sg_j293 gm_j293 lg) H → va_D A (mW h0 ad cid sg_j293 gm_j293 lg) → va_S A s.heap H locs → lv_has ls 9 [(8, .int x8_293), (7, .int x7_293), (6, .int (sg 48)), (5, .int x5_293), (4, .int x4_293), (3, .int x3_293), (2, .int x2_293), (0, .ref h0), (1, .int b)] → W p l e (headSpec wm_X13_makeObject ({ frames := 9, cells := 0, slots := 0, locals := 226 })).room s m ([.ref h0, .int b] : List Value).toArray below meth c H locs 0 0 (MQ below (va_Qv (fun v => ∃ (sg2 : Nat → Int32) (gm2 : Nat → Nat → Int32) (lg2 : Nat → Nat → Int64), v = (sg2, gm2, lg2) ∧ MI sg2 gm2 ∧ KS [48, 49, 51, 52] sg sg2 ∧ KS [53, 54, 55, 56, 57, 58, 60, 69, 75] gm gm2 ∧ KS [] lg lg2 ∧ (GI0 sg2 gm2 lg2) ∧ (1 ≤ (sg2 51).toInt ∨ MKO sg gm lg b gm2)) (MB dC dI h0 ad cid A) A) ([.ref h0, .int b] : List Value).toArray s 0 0 A) (F0 m 293 ls []) := by
    intro n
    induction n using Nat.strongRecOn with
    | ind n ih293 =>
      intro sg_j293 gm_j293 x8_293 x7_293 x5_293 x4_293 x3_293 x2_293 hn293 hx8_293 hx7_293 hsx6_293 hx5_293 hx4_293 hx3_293 hx2_293 hsx1_293 hks_j293 hkg_j293 hI_j293 hsz hSPF htop hch hmk hgi h5n H locs ls hP hD hS hl
      have hj348 : ∀ (sg_j348 : Nat → Int32) (gm_j348 : Nat → Nat → Int32) (y0_348 : Int32) (y1_348 : Int32) (_ : iv 0 2 x8_293) (_ : iv 1 3 x7_293) (_ : iv 0 59 (sg 48)) (_ : iv 0 31 x5_293) (_ : iv (-1) 7 x4_293) (_ : iv 0 1 x3_293) (_ : iv 0 79 x2_293) (_ : iv 0 79 b) (_ : iv 0 397 y1_348) (_ : iv 0 2 x8_293) (_ : iv 0 59 (sg 48)) (_ : KS [48, 49, 51, 52] sg sg_j348) (_ : KS [53, 54, 55, 56, 57, 58, 60, 69, 75] gm gm_j348) (_ : MI sg_j348 gm_j348) (_ : (x3_293 = 0 ∨ x7_293 = gm 8 x5_293.toNatClampNeg) ∧ (¬ x3_293 = 0 ∨ x7_293 = gm 16 x5_293.toNatClampNeg)) (_ : x7_293.toInt ≤ 0 ∨ SPF (gm_j348 75) x7_293.toNatClampNeg) (_ : x2_293.toNatClampNeg = TOPn sg) (_ : x5_293 = -1 ∨ CHO sg gm lg b x3_293 x4_293 x5_293) (_ : MKO sg gm lg b gm_j348) (_ : GI0 sg_j348 gm_j348 lg) (_ : ¬ x5_293 = -1) (H : Heap) (locs : List Loc) (ls : Array Slot), va_P (dC, dI) vwCl (mW h0 ad cid sg_j348 gm_j348 lg) H → va_D A (mW h0 ad cid sg_j348 gm_j348 lg) → va_S A s.heap H locs → lv_has ls 9 [(8, .int x8_293), (7, .int x7_293), (6, .int (sg 48)), (5, .int x5_293), (4, .int x4_293), (3, .int x3_293), (2, .int x2_293), (0, .ref h0), (1, .int b)] → W p l e (headSpec wm_X13_makeObject ({ frames := 9, cells := 0, slots := 0, locals := 226 })).room s m ([.ref h0, .int b] : List Value).toArray below meth c H locs 0 0 (MQ below (va_Qv (fun v => ∃ (sg2 : Nat → Int32) (gm2 : Nat → Nat → Int32) (lg2 : Nat → Nat → Int64), v = (sg2, gm2, lg2) ∧ MI sg2 gm2 ∧ KS [48, 49, 51, 52] sg sg2 ∧ KS [53, 54, 55, 56, 57, 58, 60, 69, 75] gm gm2 ∧ KS [] lg lg2 ∧ (GI0 sg2 gm2 lg2) ∧ (1 ≤ (sg2 51).toInt ∨ MKO sg gm lg b gm2)) (MB dC dI h0 ad cid A) A) ([.ref h0, .int b] : List Value).toArray s 0 0 A) (F0 m 348 ls [.int y0_348, .int y1_348, .int x8_293, .int (sg 48), .int 3, .ref h0]) := by
        intro sg_j348 gm_j348 y0_348 y1_348 hsx8_348 hsx7_348 hsx6_348 hsx5_348 hsx4_348 hsx3_348 hsx2_348 hsx1_348 hy1_348 hsy2_348 hsy3_348 hks_j348 hkg_j348 hI_j348 hsz hSPF htop hch hmk hgi h5n H locs ls hP hD hS hl
        refine mr_callv (rest := []) ⟨hx, hb, hml, hown, htb⟩ (f_tell l dC dI h0 ad cid sg_j348 gm_j348 lg 3 (sg 48) x8_293 y1_348 y0_348 hI_j348 (iv_w hy1_348 (by decide)) (hgi.1)) (cwV 5 htb (gd_V kw_1248 kw_1249 kw_1250 kw_5 kw_1631) rfl rfl rfl (by decide +kernel) ⟨Nat.le_of_ble_eq_true rfl, Nat.le_of_ble_eq_true rfl⟩) rfl hl.1 rfl (Nat.le_of_ble_eq_true rfl) dX13_makeObject_348 ⟨Nat.zero_le _, Nat.zero_le _⟩ hK hP hD hS hA (fun u_2 H locs hw hP hD hS => ?_)
        obtain ⟨sgv_3, gmv_3, lgv_3, rfl, hIv_3, ksv_3, kgv_3, klv_3⟩ := hw
        obtain rfl := KS_nil klv_3
        have hP : va_P (dC, dI) vwCl (mW h0 ad cid sgv_3 gmv_3 lg) H := hP
        have hD : va_D A (mW h0 ad cid sgv_3 gmv_3 lg) := hD
        obtain ⟨z_4, ez_4⟩ : ∃ z : Int32, z = x8_293 + 1 := ⟨_, rfl⟩
        have hz_4 : iv 1 3 z_4 := iv_of ez_4 (iv_add hsy2_348 (iv_k (by decide) : iv 1 1 1) (by decide))
        have tz_4 : z_4.toInt = x8_293.toInt + 1 := by rw [ez_4]; exact iv_addE hsy2_348 (iv_k (by decide) : iv 1 1 1) (by decide)
        refine lv_iinc (v := z_4) (lv' := [(8, .int z_4), (7, .int x7_293), (6, .int (sg 48)), (5, .int x5_293), (4, .int x4_293), (3, .int x3_293), (2, .int x2_293), (0, .ref h0), (1, .int b)]) hx hb dX13_makeObject_351 hl (k := 0) rfl ez_4.symm (by decide) rfl (fun ls hl => ?_)
        refine lv_goto (tgt := 293) hx hb dX13_makeObject_354 (by decide) ?_
        exact ih293 _ (by rw [← hn293]; exact (iv_meas tz_4 hsy2_348 (by decide))) sgv_3 gmv_3 z_4 x7_293 x5_293 x4_293 x3_293 x2_293 rfl (iv_w hz_4 (by decide)) (iv_w hsx7_348 (by decide)) hsy3_348 hsx5_348 hsx4_348 hsx3_348 hsx2_348 hsx1_348 (KS_tr (L := [48, 49, 51, 52]) (KS_tr (L := [48, 49, 51, 52]) KS_rf hks_j348 (by decide)) ksv_3 (by decide)) (KS_tr (L := [53, 54, 55, 56, 57, 58, 60, 69, 75]) (KS_tr (L := [53, 54, 55, 56, 57, 58, 60, 69, 75]) KS_rf hkg_j348 (by decide)) kgv_3 (by decide)) hIv_3 (hsz) (hSPF.imp id (fun q9 => by rw [((show KS [55, 56, 57, 58] gm_j348 gmv_3 from (KS_tr (L := [55, 56, 57, 58]) KS_rf kgv_3 (by decide))) 75 (by decide))]; exact q9)) (htop) (hch) (MKO_k hmk ((show KS [55, 56, 57, 58] gm_j348 gmv_3 from (KS_tr (L := [55, 56, 57, 58]) KS_rf kgv_3 (by decide))) 69 (by decide)) ((show KS [55, 56, 57, 58] gm_j348 gmv_3 from (KS_tr (L := [55, 56, 57, 58]) KS_rf kgv_3 (by decide))) 60 (by decide))) (GI0_of hgi (show KS [49] sg_j348 sgv_3 from (KS_tr (L := [49]) KS_rf ksv_3 (by decide))) (show KS [55, 56, 57, 58] gm_j348 gmv_3 from (KS_tr (L := [55, 56, 57, 58]) KS_rf kgv_3 (by decide))) (show KS [] lg lg from KS_rf) (by decide) (by decide) (by decide) (by decide) (by decide) (by decide)) (h5n) _ _ _ hP hD hS (lv_sub hl [0, 1, 2, 3, 4, 5, 6, 7, 8] rfl)
      refine lv_iload hx hb dX13_makeObject_293 (lv_at hl 0 rfl) ?_
      refine lv_iload hx hb dX13_makeObject_295 (lv_at hl 1 rfl) ?_
      refine lv_icmp_ge (tgt := 357) hx hb dX13_makeObject_297 (by decide) (fun c_5 => ?_) (fun c_5 => ?_)
      · have d_6 : (x7_293 : Int32).toInt ≤ (x8_293 : Int32).toInt := Int32.le_iff_toInt_le.mp c_5
        exact W.vret hx hb hr (fun t ht hW => ⟨⟨(sg_j293, gm_j293, lg), rfl, ⟨sg_j293, gm_j293, lg, rfl, hI_j293, (KS_tr (L := [48, 49, 51, 52]) KS_rf hks_j293 (by decide)), (KS_tr (L := [53, 54, 55, 56, 57, 58, 60, 69, 75]) KS_rf hkg_j293 (by decide)), KS_rf, (hgi), (Or.inr hmk)⟩, by rw [ht]; exact hP, va_K.moved hW.alike hK, hD⟩, hS.F ht⟩) hS.2.2 dX13_makeObject_357
      · have d_7 : (x8_293 : Int32).toInt < (x7_293 : Int32).toInt := Int32.lt_iff_toInt_lt.mp (i32_lt c_5)
        have h_8 : iv 0 2 x8_293 := iv_ltL (i32_lt c_5) hx8_293 hx7_293 (by decide)
        have h_9 : iv 1 3 x7_293 := iv_ltR (i32_lt c_5) hx8_293 hx7_293 (by decide)
        refine lv_aload_n hx hb dX13_makeObject_300 rfl (lv_at hl 7 rfl) ?_
        refine lv_iconst (v := 3) hx hb dX13_makeObject_301 (by decide) ?_
        refine lv_iload hx hb dX13_makeObject_302 (lv_at hl 2 rfl) ?_
        refine lv_iload hx hb dX13_makeObject_304 (lv_at hl 0 rfl) ?_
        refine lv_iconst (v := 5) hx hb dX13_makeObject_306 (by decide) ?_
        refine lv_iload_n hx hb dX13_makeObject_307 rfl (lv_at hl 6 rfl) ?_
        refine lv_imul hx hb dX13_makeObject_308 ?_
        refine lv_topi (fun z_10 ez_10 => ?_)
        have hz_10 : iv 0 395 z_10 := iv_of ez_10 (iv_mul (iv_k (by decide) : iv 5 5 5) hx2_293 (by decide))
        have tz_10 : z_10.toInt = 5 * (x2_293 : Int32).toInt := by rw [ez_10]; exact iv_mulE (iv_k (by decide) : iv 5 5 5) hx2_293 (by decide)
        refine lv_aload_n hx hb dX13_makeObject_309 rfl (lv_at hl 7 rfl) ?_
        refine mr_get (v := .ref (ad 75)) hx hb htb inX13 hown hK hP 75 (by decide) (htb _ kw_223) rfl dX13_makeObject_310 ?_
        refine lv_iload hx hb dX13_makeObject_313 (lv_at hl 0 rfl) ?_
        refine mr_iald hx hb hK hP 59 (k := 75) rfl rfl rfl (show vp_in x8_293 4 from (iv_in h_8 (by decide))) dX13_makeObject_315 ?_
        refine lv_topi (fun z_11 ez_11 => ?_)
        have hz_11 : iv (-1) 3 z_11 := iv_of ez_11 (MI_a hI_j293 75 h_8 (by decide))
        have h_12 : iv 0 2 z_11 := ⟨by have q9 := (hSPF.resolve_left (by have := i32_0; have := i32_1; have := i32_2; have := i32_m1; have := (hsx1_293).1; have := (hsx1_293).2; have := (h63).1; have := (h63).2; have := (h_8).1; have := (h_8).2; have := (h_9).1; have := (h_9).2; have := (hsx6_293).1; have := (hsx6_293).2; have := (hx5_293).1; have := (hx5_293).2; have := (hx4_293).1; have := (hx4_293).2; have := (hx3_293).1; have := (hx3_293).2; have := (hx2_293).1; have := (hx2_293).2; have := (hz_10).1; have := (hz_10).2; have := (hz_11).1; have := (hz_11).2; omega) _ (lt_cl h_8 h_9 (by decide) (by decide) (by have := i32_0; have := i32_1; have := i32_2; have := i32_m1; have := (hsx1_293).1; have := (hsx1_293).2; have := (h63).1; have := (h63).2; have := (h_8).1; have := (h_8).2; have := (h_9).1; have := (h_9).2; have := (hsx6_293).1; have := (hsx6_293).2; have := (hx5_293).1; have := (hx5_293).2; have := (hx4_293).1; have := (hx4_293).2; have := (hx3_293).1; have := (hx3_293).2; have := (hx2_293).1; have := (hx2_293).2; have := (hz_10).1; have := (hz_10).2; have := (hz_11).1; have := (hz_11).2; omega))).1; rw [← ez_11] at q9; exact q9, by have q9 := (hSPF.resolve_left (by have := i32_0; have := i32_1; have := i32_2; have := i32_m1; have := (hsx1_293).1; have := (hsx1_293).2; have := (h63).1; have := (h63).2; have := (h_8).1; have := (h_8).2; have := (h_9).1; have := (h_9).2; have := (hsx6_293).1; have := (hsx6_293).2; have := (hx5_293).1; have := (hx5_293).2; have := (hx4_293).1; have := (hx4_293).2; have := (hx3_293).1; have := (hx3_293).2; have := (hx2_293).1; have := (hx2_293).2; have := (hz_10).1; have := (hz_10).2; have := (hz_11).1; have := (hz_11).2; omega) _ (lt_cl h_8 h_9 (by decide) (by decide) (by have := i32_0; have := i32_1; have := i32_2; have := i32_m1; have := (hsx1_293).1; have := (hsx1_293).2; have := (h63).1; have := (h63).2; have := (h_8).1; have := (h_8).2; have := (h_9).1; have := (h_9).2; have := (hsx6_293).1; have := (hsx6_293).2; have := (hx5_293).1; have := (hx5_293).2; have := (hx4_293).1; have := (hx4_293).2; have := (hx3_293).1; have := (hx3_293).2; have := (hx2_293).1; have := (hx2_293).2; have := (hz_10).1; have := (hz_10).2; have := (hz_11).1; have := (hz_11).2; omega))).2; rw [← ez_11] at q9; have := iv_cl h_9 (by decide); have := (h_9).2; omega⟩
        refine lv_iadd hx hb dX13_makeObject_316 ?_
        refine lv_topi (fun z_13 ez_13 => ?_)
        have hz_13 : iv 0 397 z_13 := iv_of ez_13 (iv_add hz_10 h_12 (by decide))
        have tz_13 : z_13.toInt = (z_10 : Int32).toInt + (z_11 : Int32).toInt := by rw [ez_13]; exact iv_addE hz_10 h_12 (by decide)
        refine lv_iload_n hx hb dX13_makeObject_317 rfl (lv_at hl 5 rfl) ?_
        refine lv_if_eq (tgt := 336) hx hb dX13_makeObject_318 (by decide) (fun c_14 => ?_) (fun c_14 => ?_)
        · have h_15 : iv 0 0 x3_293 := iv_eq c_14 hx3_293 (iv_k (by decide) : iv 0 0 0) (by decide)
          refine lv_aload_n hx hb dX13_makeObject_336 rfl (lv_at hl 7 rfl) ?_
          refine mr_get (v := .ref (ad 17)) hx hb htb inX13 hown hK hP 17 (by decide) (htb _ kw_176) rfl dX13_makeObject_337 ?_
          refine lv_iconst (v := 3) hx hb dX13_makeObject_340 (by decide) ?_
          refine lv_iload hx hb dX13_makeObject_341 (lv_at hl 3 rfl) ?_
          refine lv_imul hx hb dX13_makeObject_343 ?_
          refine lv_topi (fun z_16 ez_16 => ?_)
          have hz_16 : iv 0 93 z_16 := iv_of ez_16 (iv_mul (iv_k (by decide) : iv 3 3 3) hx5_293 (by decide))
          have tz_16 : z_16.toInt = 3 * (x5_293 : Int32).toInt := by rw [ez_16]; exact iv_mulE (iv_k (by decide) : iv 3 3 3) hx5_293 (by decide)
          refine lv_iload hx hb dX13_makeObject_344 (lv_at hl 0 rfl) ?_
          refine lv_iadd hx hb dX13_makeObject_346 ?_
          refine lv_topi (fun z_17 ez_17 => ?_)
          have hz_17 : iv 0 95 z_17 := iv_of ez_17 (iv_add hz_16 h_8 (by decide))
          have tz_17 : z_17.toInt = (z_16 : Int32).toInt + (x8_293 : Int32).toInt := by rw [ez_17]; exact iv_addE hz_16 h_8 (by decide)
          refine mr_iald hx hb hK hP 16 (k := 17) rfl rfl rfl (show vp_in z_17 96 from (iv_in hz_17 (by decide))) dX13_makeObject_347 ?_
          refine lv_topi (fun z_18 ez_18 => ?_)
          have ez_18 := ez_18.trans (congrFun (hkg_j293 17 (by decide)) _)
          exact hj348 sg_j293 gm_j293 z_18 z_13 h_8 h_9 hsx6_293 hx5_293 hx4_293 (iv_w h_15 (by decide)) hx2_293 hsx1_293 hz_13 h_8 hsx6_293 (KS_tr (L := [48, 49, 51, 52]) KS_rf hks_j293 (by decide)) (KS_tr (L := [53, 54, 55, 56, 57, 58, 60, 69, 75]) KS_rf hkg_j293 (by decide)) hI_j293 (hsz) (hSPF) (htop) (hch) (MKO_k hmk ((show KS [] gm_j293 gm_j293 from KS_rf) 69 (by decide)) ((show KS [] gm_j293 gm_j293 from KS_rf) 60 (by decide))) (GI0_of hgi (show KS [] sg_j293 sg_j293 from KS_rf) (show KS [] gm_j293 gm_j293 from KS_rf) (show KS [] lg lg from KS_rf) (by decide) (by decide) (by decide) (by decide) (by decide) (by decide)) (h5n) _ _ _ hP hD hS (lv_sub hl [0, 1, 2, 3, 4, 5, 6, 7, 8] rfl)
        · have h_19 : iv 1 1 x3_293 := iv_neL c_14 hx3_293 (by decide)
          refine lv_aload_n hx hb dX13_makeObject_321 rfl (lv_at hl 7 rfl) ?_
          refine mr_get (v := .ref (ad 9)) hx hb htb inX13 hown hK hP 9 (by decide) (htb _ kw_168) rfl dX13_makeObject_322 ?_
          refine lv_iconst (v := 3) hx hb dX13_makeObject_325 (by decide) ?_
          refine lv_iload hx hb dX13_makeObject_326 (lv_at hl 3 rfl) ?_
          refine lv_imul hx hb dX13_makeObject_328 ?_
          refine lv_topi (fun z_20 ez_20 => ?_)
          have hz_20 : iv 0 93 z_20 := iv_of ez_20 (iv_mul (iv_k (by decide) : iv 3 3 3) hx5_293 (by decide))
          have tz_20 : z_20.toInt = 3 * (x5_293 : Int32).toInt := by rw [ez_20]; exact iv_mulE (iv_k (by decide) : iv 3 3 3) hx5_293 (by decide)
          refine lv_iload hx hb dX13_makeObject_329 (lv_at hl 0 rfl) ?_
          refine lv_iadd hx hb dX13_makeObject_331 ?_
          refine lv_topi (fun z_21 ez_21 => ?_)
          have hz_21 : iv 0 95 z_21 := iv_of ez_21 (iv_add hz_20 h_8 (by decide))
          have tz_21 : z_21.toInt = (z_20 : Int32).toInt + (x8_293 : Int32).toInt := by rw [ez_21]; exact iv_addE hz_20 h_8 (by decide)
          refine mr_iald hx hb hK hP 8 (k := 9) rfl rfl rfl (show vp_in z_21 96 from (iv_in hz_21 (by decide))) dX13_makeObject_332 ?_
          refine lv_topi (fun z_22 ez_22 => ?_)
          have ez_22 := ez_22.trans (congrFun (hkg_j293 9 (by decide)) _)
          refine lv_goto (tgt := 348) hx hb dX13_makeObject_333 (by decide) ?_
          exact hj348 sg_j293 gm_j293 z_22 z_13 h_8 h_9 hsx6_293 hx5_293 hx4_293 (iv_w h_19 (by decide)) hx2_293 hsx1_293 hz_13 h_8 hsx6_293 (KS_tr (L := [48, 49, 51, 52]) KS_rf hks_j293 (by decide)) (KS_tr (L := [53, 54, 55, 56, 57, 58, 60, 69, 75]) KS_rf hkg_j293 (by decide)) hI_j293 (hsz) (hSPF) (htop) (hch) (MKO_k hmk ((show KS [] gm_j293 gm_j293 from KS_rf) 69 (by decide)) ((show KS [] gm_j293 gm_j293 from KS_rf) 60 (by decide))) (GI0_of hgi (show KS [] sg_j293 sg_j293 from KS_rf) (show KS [] gm_j293 gm_j293 from KS_rf) (show KS [] lg lg from KS_rf) (by decide) (by decide) (by decide) (by decide) (by decide) (by decide)) (h5n) _ _ _ hP hD hS (lv_sub hl [0, 1, 2, 3, 4, 5, 6, 7, 8] rfl)
  have hj290 : ∀ (sg_j290 : Nat → Int32) (gm_j290 : Nat → Nat → Int32) (x7_290 : Int32) (x5_290 : Int32) (x4_290 : Int32) (x3_290 : Int32) (x2_290 : Int32) (_ : iv 0 3 x7_290) (_ : iv 0 59 (sg 48)) (_ : iv 0 31 x5_290) (_ : iv (-1) 7 x4_290) (_ : iv 0 1 x3_290) (_ : iv 0 79 x2_290) (_ : iv 0 79 b) (_ : KS [48, 49, 51, 52] sg sg_j290) (_ : KS [53, 54, 55, 56, 57, 58, 60, 69, 75] gm gm_j290) (_ : MI sg_j290 gm_j290) (_ : (x3_290 = 0 ∨ x7_290 = gm 8 x5_290.toNatClampNeg) ∧ (¬ x3_290 = 0 ∨ x7_290 = gm 16 x5_290.toNatClampNeg)) (_ : x7_290.toInt ≤ 0 ∨ SPF (gm_j290 75) x7_290.toNatClampNeg) (_ : x2_290.toNatClampNeg = TOPn sg) (_ : x5_290 = -1 ∨ CHO sg gm lg b x3_290 x4_290 x5_290) (_ : MKO sg gm lg b gm_j290) (_ : GI0 sg_j290 gm_j290 lg) (_ : ¬ x5_290 = -1) (H : Heap) (locs : List Loc) (ls : Array Slot), va_P (dC, dI) vwCl (mW h0 ad cid sg_j290 gm_j290 lg) H → va_D A (mW h0 ad cid sg_j290 gm_j290 lg) → va_S A s.heap H locs → lv_has ls 9 [(7, .int x7_290), (6, .int (sg 48)), (5, .int x5_290), (4, .int x4_290), (3, .int x3_290), (2, .int x2_290), (0, .ref h0), (1, .int b)] → W p l e (headSpec wm_X13_makeObject ({ frames := 9, cells := 0, slots := 0, locals := 226 })).room s m ([.ref h0, .int b] : List Value).toArray below meth c H locs 0 0 (MQ below (va_Qv (fun v => ∃ (sg2 : Nat → Int32) (gm2 : Nat → Nat → Int32) (lg2 : Nat → Nat → Int64), v = (sg2, gm2, lg2) ∧ MI sg2 gm2 ∧ KS [48, 49, 51, 52] sg sg2 ∧ KS [53, 54, 55, 56, 57, 58, 60, 69, 75] gm gm2 ∧ KS [] lg lg2 ∧ (GI0 sg2 gm2 lg2) ∧ (1 ≤ (sg2 51).toInt ∨ MKO sg gm lg b gm2)) (MB dC dI h0 ad cid A) A) ([.ref h0, .int b] : List Value).toArray s 0 0 A) (F0 m 290 ls []) := by
    intro sg_j290 gm_j290 x7_290 x5_290 x4_290 x3_290 x2_290 hx7_290 hsx6_290 hx5_290 hx4_290 hx3_290 hx2_290 hsx1_290 hks_j290 hkg_j290 hI_j290 hsz hSPF htop hch hmk hgi h5n H locs ls hP hD hS hl
    have hcho := hch.resolve_left h5n
    refine lv_iconst (v := 0) hx hb dX13_makeObject_290 (by decide) ?_
    refine lv_istore (lv' := [(8, .int 0), (7, .int x7_290), (6, .int (sg 48)), (5, .int x5_290), (4, .int x4_290), (3, .int x3_290), (2, .int x2_290), (0, .ref h0), (1, .int b)]) hx hb dX13_makeObject_291 hl (by decide) rfl (fun ls hl => ?_)
    exact hj293 _ sg_j290 gm_j290 0 x7_290 x5_290 x4_290 x3_290 x2_290 rfl (iv_w (iv_k (by decide) : iv 0 0 0) (by decide)) hx7_290 hsx6_290 hx5_290 hx4_290 hx3_290 hx2_290 hsx1_290 (KS_tr (L := [48, 49, 51, 52]) KS_rf hks_j290 (by decide)) (KS_tr (L := [53, 54, 55, 56, 57, 58, 60, 69, 75]) KS_rf hkg_j290 (by decide)) hI_j290 (hsz) (hSPF) (htop) (hch) (MKO_k hmk ((show KS [] gm_j290 gm_j290 from KS_rf) 69 (by decide)) ((show KS [] gm_j290 gm_j290 from KS_rf) 60 (by decide))) (GI0_of hgi (show KS [] sg_j290 sg_j290 from KS_rf) (show KS [] gm_j290 gm_j290 from KS_rf) (show KS [] lg lg from KS_rf) (by decide) (by decide) (by decide) (by decide) (by decide) (by decide)) (h5n) _ _ _ hP hD hS (lv_sub hl [0, 1, 2, 3, 4, 5, 6, 7, 8] rfl)
  have hj272 : ∀ (sg_j272 : Nat → Int32) (gm_j272 : Nat → Nat → Int32) (x5_272 : Int32) (x4_272 : Int32) (x3_272 : Int32) (x2_272 : Int32) (y0_272 : Int32) (_ : iv 0 59 (sg 48)) (_ : iv 0 31 x5_272) (_ : iv (-1) 7 x4_272) (_ : iv 0 1 x3_272) (_ : iv 0 79 x2_272) (_ : iv 0 79 b) (_ : iv 0 3 y0_272) (_ : KS [48, 49, 51, 52] sg sg_j272) (_ : KS [53, 54, 55, 56, 57, 58, 60, 69, 75] gm gm_j272) (_ : MI sg_j272 gm_j272) (_ : (x3_272 = 0 ∨ y0_272 = gm 8 x5_272.toNatClampNeg) ∧ (¬ x3_272 = 0 ∨ y0_272 = gm 16 x5_272.toNatClampNeg)) (_ : x2_272.toNatClampNeg = TOPn sg) (_ : x5_272 = -1 ∨ CHO sg gm lg b x3_272 x4_272 x5_272) (_ : MKO sg gm lg b gm_j272) (_ : GI0 sg_j272 gm_j272 lg) (_ : ¬ x5_272 = -1) (H : Heap) (locs : List Loc) (ls : Array Slot), va_P (dC, dI) vwCl (mW h0 ad cid sg_j272 gm_j272 lg) H → va_D A (mW h0 ad cid sg_j272 gm_j272 lg) → va_S A s.heap H locs → lv_has ls 9 [(6, .int (sg 48)), (5, .int x5_272), (4, .int x4_272), (3, .int x3_272), (2, .int x2_272), (0, .ref h0), (1, .int b)] → W p l e (headSpec wm_X13_makeObject ({ frames := 9, cells := 0, slots := 0, locals := 226 })).room s m ([.ref h0, .int b] : List Value).toArray below meth c H locs 0 0 (MQ below (va_Qv (fun v => ∃ (sg2 : Nat → Int32) (gm2 : Nat → Nat → Int32) (lg2 : Nat → Nat → Int64), v = (sg2, gm2, lg2) ∧ MI sg2 gm2 ∧ KS [48, 49, 51, 52] sg sg2 ∧ KS [53, 54, 55, 56, 57, 58, 60, 69, 75] gm gm2 ∧ KS [] lg lg2 ∧ (GI0 sg2 gm2 lg2) ∧ (1 ≤ (sg2 51).toInt ∨ MKO sg gm lg b gm2)) (MB dC dI h0 ad cid A) A) ([.ref h0, .int b] : List Value).toArray s 0 0 A) (F0 m 272 ls [.int y0_272]) := by
    intro sg_j272 gm_j272 x5_272 x4_272 x3_272 x2_272 y0_272 hsx6_272 hx5_272 hx4_272 hx3_272 hx2_272 hsx1_272 hy0_272 hks_j272 hkg_j272 hI_j272 hsz htop hch hmk hgi h5n H locs ls hP hD hS hl
    refine lv_istore (lv' := [(7, .int y0_272), (6, .int (sg 48)), (5, .int x5_272), (4, .int x4_272), (3, .int x3_272), (2, .int x2_272), (0, .ref h0), (1, .int b)]) hx hb dX13_makeObject_272 hl (by decide) rfl (fun ls hl => ?_)
    refine lv_iload hx hb dX13_makeObject_274 (lv_at hl 0 rfl) ?_
    refine lv_if_le (tgt := 290) hx hb dX13_makeObject_276 (by decide) (fun c_23 => ?_) (fun c_23 => ?_)
    · have h_24 : iv 0 0 y0_272 := iv_leL c_23 hy0_272 (iv_k (by decide) : iv 0 0 0) (by decide)
      exact hj290 sg_j272 gm_j272 y0_272 x5_272 x4_272 x3_272 x2_272 (iv_w h_24 (by decide)) hsx6_272 hx5_272 hx4_272 hx3_272 hx2_272 hsx1_272 (KS_tr (L := [48, 49, 51, 52]) KS_rf hks_j272 (by decide)) (KS_tr (L := [53, 54, 55, 56, 57, 58, 60, 69, 75]) KS_rf hkg_j272 (by decide)) hI_j272 (hsz) (Or.inl (by have := i32_0; have := i32_1; have := i32_2; have := i32_m1; have := (hsx1_272).1; have := (hsx1_272).2; have := (h63).1; have := (h63).2; have := (hsx6_272).1; have := (hsx6_272).2; have := (hx5_272).1; have := (hx5_272).2; have := (hx4_272).1; have := (hx4_272).2; have := (hx3_272).1; have := (hx3_272).2; have := (hx2_272).1; have := (hx2_272).2; have := (h_24).1; have := (h_24).2; omega)) (htop) (hch) (MKO_k hmk ((show KS [] gm_j272 gm_j272 from KS_rf) 69 (by decide)) ((show KS [] gm_j272 gm_j272 from KS_rf) 60 (by decide))) (GI0_of hgi (show KS [] sg_j272 sg_j272 from KS_rf) (show KS [] gm_j272 gm_j272 from KS_rf) (show KS [] lg lg from KS_rf) (by decide) (by decide) (by decide) (by decide) (by decide) (by decide)) (h5n) _ _ _ hP hD hS (lv_sub hl [0, 1, 2, 3, 4, 5, 6, 7] rfl)
    · have h_25 : iv 1 3 y0_272 := iv_ltR (i32_lt c_23) (iv_k (by decide) : iv 0 0 0) hy0_272 (by decide)
      have hcho := hch.resolve_left h5n
      refine lv_aload_n hx hb dX13_makeObject_279 rfl (lv_at hl 6 rfl) ?_
      refine lv_iload_n hx hb dX13_makeObject_280 rfl (lv_at hl 7 rfl) ?_
      refine lv_iload hx hb dX13_makeObject_281 (lv_at hl 0 rfl) ?_
      refine mr_calli (rest := []) ⟨hx, hb, hml, hown, htb⟩ (f_placed l dC dI h0 ad cid sg_j272 gm_j272 lg b y0_272 hI_j272 hsx1_272 (iv_w h_25 (by decide)) (by have := i32_0; have := i32_1; have := i32_2; have := i32_m1; have := congrArg Int32.toInt (show sg_j272 41 = sg 41 from hks_j272 41 (by decide)); have := (show iv 0 80 (sg 41) from MI_s hI 41).1; have := (show iv 0 80 (sg 41) from MI_s hI 41).2; have := (hsx1_272).1; have := (hsx1_272).2; have := (h63).1; have := (h63).2; have := (hsx6_272).1; have := (hsx6_272).2; have := (hx5_272).1; have := (hx5_272).2; have := (hx4_272).1; have := (hx4_272).2; have := (hx3_272).1; have := (hx3_272).2; have := (hx2_272).1; have := (hx2_272).2; have := (h_25).1; have := (h_25).2; omega) ((DOC_of hdoc (show KS [48, 49, 51, 52] sg sg_j272 from (KS_tr (L := [48, 49, 51, 52]) KS_rf hks_j272 (by decide))) (show KS [53, 54, 55, 56, 57, 58, 60, 69, 75] gm gm_j272 from (KS_tr (L := [53, 54, 55, 56, 57, 58, 60, 69, 75]) KS_rf hkg_j272 (by decide))) (show KS [] lg lg from KS_rf) (by decide) (by decide) (by decide) (by decide)).1.2.2.2) ((DOC_of hdoc (show KS [48, 49, 51, 52] sg sg_j272 from (KS_tr (L := [48, 49, 51, 52]) KS_rf hks_j272 (by decide))) (show KS [53, 54, 55, 56, 57, 58, 60, 69, 75] gm gm_j272 from (KS_tr (L := [53, 54, 55, 56, 57, 58, 60, 69, 75]) KS_rf hkg_j272 (by decide))) (show KS [] lg lg from KS_rf) (by decide) (by decide) (by decide) (by decide)).1.2.1) (ARGN_k (DK_of (show KS [48, 49, 51, 52] sg sg_j272 from (KS_tr (L := [48, 49, 51, 52]) KS_rf hks_j272 (by decide))) (show KS [53, 54, 55, 56, 57, 58, 60, 69, 75] gm gm_j272 from (KS_tr (L := [53, 54, 55, 56, 57, 58, 60, 69, 75]) KS_rf hkg_j272 (by decide))) (show KS [] lg lg from KS_rf) (by decide) (by decide) (by decide)) (by by_cases q9 : x3_272 = 0; (rw [hsz.2.resolve_left (fun q8 => q8 q9)]; exact hcho.2.2.2 q9); (rw [hsz.1.resolve_left q9]; exact hcho.2.2.1 q9)))) (cwV 2 htb (gd_V kw_1223 kw_1224 kw_1225 kw_5 kw_1624) rfl rfl rfl (by decide +kernel) ⟨Nat.le_of_ble_eq_true rfl, Nat.le_of_ble_eq_true rfl⟩) rfl hl.1 rfl (Nat.le_of_ble_eq_true rfl) dX13_makeObject_283 ⟨Nat.zero_le _, Nat.zero_le _⟩ hK hP hD hS hA (fun r_26 u_27 H locs hw hP hD hS => ?_)
      obtain ⟨sgv_28, gmv_28, lgv_28, rfl, hIv_28, ksv_28, kgv_28, klv_28, hr_26, fPl_r_26⟩ := hw
      obtain rfl := KS_nil ksv_28
      obtain rfl := KS_nil klv_28
      have hP : va_P (dC, dI) vwCl (mW h0 ad cid sg_j272 gmv_28 lg) H := hP
      have hD : va_D A (mW h0 ad cid sg_j272 gmv_28 lg) := hD
      refine lv_if_ne (tgt := 290) hx hb dX13_makeObject_286 (by decide) (fun c_29 => ?_) (fun c_29 => ?_)
      · have h_30 : iv 1 1 r_26 := iv_neL c_29 hr_26 (by decide)
        exact hj290 sg_j272 gmv_28 y0_272 x5_272 x4_272 x3_272 x2_272 (iv_w h_25 (by decide)) hsx6_272 hx5_272 hx4_272 hx3_272 hx2_272 hsx1_272 (KS_tr (L := [48, 49, 51, 52]) KS_rf hks_j272 (by decide)) (KS_tr (L := [53, 54, 55, 56, 57, 58, 60, 69, 75]) (KS_tr (L := [53, 54, 55, 56, 57, 58, 60, 69, 75]) KS_rf hkg_j272 (by decide)) kgv_28 (by decide)) hIv_28 (hsz) (Or.inr (fPl_r_26.resolve_left (fun q9 => c_29 (Int32.toInt_inj.mp q9)))) (htop) (hch) (MKO_k hmk ((show KS [75] gm_j272 gmv_28 from (KS_tr (L := [75]) KS_rf kgv_28 (by decide))) 69 (by decide)) ((show KS [75] gm_j272 gmv_28 from (KS_tr (L := [75]) KS_rf kgv_28 (by decide))) 60 (by decide))) (GI0_of hgi (show KS [] sg_j272 sg_j272 from KS_rf) (show KS [75] gm_j272 gmv_28 from (KS_tr (L := [75]) KS_rf kgv_28 (by decide))) (show KS [] lg lg from KS_rf) (by decide) (by decide) (by decide) (by decide) (by decide) (by decide)) (h5n) _ _ _ hP hD hS (lv_sub hl [0, 1, 2, 3, 4, 5, 6, 7] rfl)
      · have h_31 : iv 0 0 r_26 := iv_eq c_29 hr_26 (iv_k (by decide) : iv 0 0 0) (by decide)
        exact W.vret hx hb hr (fun t ht hW => ⟨⟨(sg_j272, gmv_28, lg), rfl, ⟨sg_j272, gmv_28, lg, rfl, hIv_28, (KS_tr (L := [48, 49, 51, 52]) KS_rf hks_j272 (by decide)), (KS_tr (L := [53, 54, 55, 56, 57, 58, 60, 69, 75]) (KS_tr (L := [53, 54, 55, 56, 57, 58, 60, 69, 75]) KS_rf hkg_j272 (by decide)) kgv_28 (by decide)), KS_rf, (GI0_of hgi (show KS [] sg_j272 sg_j272 from KS_rf) (show KS [75] gm_j272 gmv_28 from (KS_tr (L := [75]) KS_rf kgv_28 (by decide))) (show KS [] lg lg from KS_rf) (by decide) (by decide) (by decide) (by decide) (by decide) (by decide)), (Or.inr (MKO_k hmk ((show KS [75] gm_j272 gmv_28 from (KS_tr (L := [75]) KS_rf kgv_28 (by decide))) 69 (by decide)) ((show KS [75] gm_j272 gmv_28 from (KS_tr (L := [75]) KS_rf kgv_28 (by decide))) 60 (by decide))))⟩, by rw [ht]; exact hP, va_K.moved hW.alike hK, hD⟩, hS.F ht⟩) hS.2.2 dX13_makeObject_289
  have hj248 : ∀ (sg_j248 : Nat → Int32) (gm_j248 : Nat → Nat → Int32) (x5_248 : Int32) (x4_248 : Int32) (x3_248 : Int32) (x2_248 : Int32) (y0_248 : Int32) (y1_248 : Int32) (y3_248 : Int32) (_ : iv 0 59 (sg 48)) (_ : iv 0 31 x5_248) (_ : iv (-1) 7 x4_248) (_ : iv 0 1 x3_248) (_ : iv 0 79 x2_248) (_ : iv 0 79 b) (_ : iv 0 59 y0_248) (_ : iv 0 7 y1_248) (_ : iv 0 59 (sg 48)) (_ : iv 1 2 y3_248) (_ : KS [48, 51, 52] sg sg_j248) (_ : KS [53, 54, 60, 69, 75] gm gm_j248) (_ : MI sg_j248 gm_j248) (_ : x2_248.toNatClampNeg = TOPn sg) (_ : x5_248 = -1 ∨ CHO sg gm lg b x3_248 x4_248 x5_248) (_ : MKO sg gm lg b gm_j248) (_ : GI0 sg_j248 gm_j248 lg) (_ : ¬ x5_248 = -1) (H : Heap) (locs : List Loc) (ls : Array Slot), va_P (dC, dI) vwCl (mW h0 ad cid sg_j248 gm_j248 lg) H → va_D A (mW h0 ad cid sg_j248 gm_j248 lg) → va_S A s.heap H locs → lv_has ls 9 [(6, .int (sg 48)), (5, .int x5_248), (4, .int x4_248), (3, .int x3_248), (2, .int x2_248), (0, .ref h0), (1, .int b)] → W p l e (headSpec wm_X13_makeObject ({ frames := 9, cells := 0, slots := 0, locals := 226 })).room s m ([.ref h0, .int b] : List Value).toArray below meth c H locs 0 0 (MQ below (va_Qv (fun v => ∃ (sg2 : Nat → Int32) (gm2 : Nat → Nat → Int32) (lg2 : Nat → Nat → Int64), v = (sg2, gm2, lg2) ∧ MI sg2 gm2 ∧ KS [48, 49, 51, 52] sg sg2 ∧ KS [53, 54, 55, 56, 57, 58, 60, 69, 75] gm gm2 ∧ KS [] lg lg2 ∧ (GI0 sg2 gm2 lg2) ∧ (1 ≤ (sg2 51).toInt ∨ MKO sg gm lg b gm2)) (MB dC dI h0 ad cid A) A) ([.ref h0, .int b] : List Value).toArray s 0 0 A) (F0 m 248 ls [.int y0_248, .int y1_248, .int (sg 48), .int y3_248, .ref h0]) := by
    intro sg_j248 gm_j248 x5_248 x4_248 x3_248 x2_248 y0_248 y1_248 y3_248 hsx6_248 hx5_248 hx4_248 hx3_248 hx2_248 hsx1_248 hy0_248 hy1_248 hsy2_248 hy3_248 hks_j248 hkg_j248 hI_j248 htop hch hmk hgi h5n H locs ls hP hD hS hl
    refine mr_callv (rest := []) ⟨hx, hb, hml, hown, htb⟩ (a_happens l dC dI h0 ad cid sg_j248 gm_j248 lg y3_248 (sg 48) y1_248 y0_248 hI_j248) (cwV 4 htb (gd_V kw_1245 kw_1246 kw_1247 kw_5 kw_1630) rfl rfl rfl (by decide +kernel) ⟨Nat.le_of_ble_eq_true rfl, Nat.le_of_ble_eq_true rfl⟩) rfl hl.1 rfl (Nat.le_of_ble_eq_true rfl) dX13_makeObject_248 ⟨Nat.zero_le _, Nat.zero_le _⟩ hK hP hD hS hA (fun u_33 H locs hw hP hD hS => ?_)
    obtain ⟨sgv_34, gmv_34, lgv_34, rfl, hIv_34, ksv_34, kgv_34, klv_34⟩ := hw
    obtain rfl := KS_nil klv_34
    have hP : va_P (dC, dI) vwCl (mW h0 ad cid sgv_34 gmv_34 lg) H := hP
    have hD : va_D A (mW h0 ad cid sgv_34 gmv_34 lg) := hD
    refine lv_iload_n hx hb dX13_makeObject_251 rfl (lv_at hl 3 rfl) ?_
    refine lv_if_eq (tgt := 265) hx hb dX13_makeObject_252 (by decide) (fun c_35 => ?_) (fun c_35 => ?_)
    · have h_36 : iv 0 0 x3_248 := iv_eq c_35 hx3_248 (iv_k (by decide) : iv 0 0 0) (by decide)
      refine lv_aload_n hx hb dX13_makeObject_265 rfl (lv_at hl 5 rfl) ?_
      refine mr_get (v := .ref (ad 16)) hx hb htb inX13 hown hK hP 16 (by decide) (htb _ kw_175) rfl dX13_makeObject_266 ?_
      refine lv_iload hx hb dX13_makeObject_269 (lv_at hl 1 rfl) ?_
      refine mr_iald hx hb hK hP 15 (k := 16) rfl rfl rfl (show vp_in x5_248 32 from (iv_in hx5_248 (by decide))) dX13_makeObject_271 ?_
      refine lv_topi (fun z_37 ez_37 => ?_)
      have hz_37 : iv 0 3 z_37 := iv_of ez_37 (MI_a hIv_34 16 hx5_248 (by decide))
      have ez_37 := ez_37.trans (congrFun (Eq.trans (kgv_34 16 (by decide)) (hkg_j248 16 (by decide))) _)
      exact hj272 sgv_34 gmv_34 x5_248 x4_248 x3_248 x2_248 z_37 hsy2_248 hx5_248 hx4_248 (iv_w h_36 (by decide)) hx2_248 hsx1_248 hz_37 (KS_tr (L := [48, 49, 51, 52]) (KS_tr (L := [48, 49, 51, 52]) KS_rf hks_j248 (by decide)) ksv_34 (by decide)) (KS_tr (L := [53, 54, 55, 56, 57, 58, 60, 69, 75]) (KS_tr (L := [53, 54, 55, 56, 57, 58, 60, 69, 75]) KS_rf hkg_j248 (by decide)) kgv_34 (by decide)) hIv_34 (⟨Or.inl c_35, Or.inr ez_37⟩) (htop) (hch) (MKO_k hmk ((show KS [55, 56, 57, 58] gm_j248 gmv_34 from (KS_tr (L := [55, 56, 57, 58]) KS_rf kgv_34 (by decide))) 69 (by decide)) ((show KS [55, 56, 57, 58] gm_j248 gmv_34 from (KS_tr (L := [55, 56, 57, 58]) KS_rf kgv_34 (by decide))) 60 (by decide))) (GI0_of hgi (show KS [49] sg_j248 sgv_34 from (KS_tr (L := [49]) KS_rf ksv_34 (by decide))) (show KS [55, 56, 57, 58] gm_j248 gmv_34 from (KS_tr (L := [55, 56, 57, 58]) KS_rf kgv_34 (by decide))) (show KS [] lg lg from KS_rf) (by decide) (by decide) (by decide) (by decide) (by decide) (by decide)) (h5n) _ _ _ hP hD hS (lv_sub hl [0, 1, 2, 3, 4, 5, 6] rfl)
    · have h_38 : iv 1 1 x3_248 := iv_neL c_35 hx3_248 (by decide)
      refine lv_aload_n hx hb dX13_makeObject_255 rfl (lv_at hl 5 rfl) ?_
      refine mr_get (v := .ref (ad 8)) hx hb htb inX13 hown hK hP 8 (by decide) (htb _ kw_167) rfl dX13_makeObject_256 ?_
      refine lv_iload hx hb dX13_makeObject_259 (lv_at hl 1 rfl) ?_
      refine mr_iald hx hb hK hP 7 (k := 8) rfl rfl rfl (show vp_in x5_248 32 from (iv_in hx5_248 (by decide))) dX13_makeObject_261 ?_
      refine lv_topi (fun z_39 ez_39 => ?_)
      have hz_39 : iv 0 3 z_39 := iv_of ez_39 (MI_a hIv_34 8 hx5_248 (by decide))
      have ez_39 := ez_39.trans (congrFun (Eq.trans (kgv_34 8 (by decide)) (hkg_j248 8 (by decide))) _)
      refine lv_goto (tgt := 272) hx hb dX13_makeObject_262 (by decide) ?_
      exact hj272 sgv_34 gmv_34 x5_248 x4_248 x3_248 x2_248 z_39 hsy2_248 hx5_248 hx4_248 (iv_w h_38 (by decide)) hx2_248 hsx1_248 hz_39 (KS_tr (L := [48, 49, 51, 52]) (KS_tr (L := [48, 49, 51, 52]) KS_rf hks_j248 (by decide)) ksv_34 (by decide)) (KS_tr (L := [53, 54, 55, 56, 57, 58, 60, 69, 75]) (KS_tr (L := [53, 54, 55, 56, 57, 58, 60, 69, 75]) KS_rf hkg_j248 (by decide)) kgv_34 (by decide)) hIv_34 (⟨Or.inr ez_39, Or.inl c_35⟩) (htop) (hch) (MKO_k hmk ((show KS [55, 56, 57, 58] gm_j248 gmv_34 from (KS_tr (L := [55, 56, 57, 58]) KS_rf kgv_34 (by decide))) 69 (by decide)) ((show KS [55, 56, 57, 58] gm_j248 gmv_34 from (KS_tr (L := [55, 56, 57, 58]) KS_rf kgv_34 (by decide))) 60 (by decide))) (GI0_of hgi (show KS [49] sg_j248 sgv_34 from (KS_tr (L := [49]) KS_rf ksv_34 (by decide))) (show KS [55, 56, 57, 58] gm_j248 gmv_34 from (KS_tr (L := [55, 56, 57, 58]) KS_rf kgv_34 (by decide))) (show KS [] lg lg from KS_rf) (by decide) (by decide) (by decide) (by decide) (by decide) (by decide)) (h5n) _ _ _ hP hD hS (lv_sub hl [0, 1, 2, 3, 4, 5, 6] rfl)
  have hj216 : ∀ (sg_j216 : Nat → Int32) (gm_j216 : Nat → Nat → Int32) (x5_216 : Int32) (x4_216 : Int32) (x3_216 : Int32) (x2_216 : Int32) (y0_216 : Int32) (_ : iv 0 59 (sg 48)) (_ : iv 0 31 x5_216) (_ : iv (-1) 7 x4_216) (_ : iv 0 1 x3_216) (_ : iv 0 79 x2_216) (_ : iv 0 79 b) (_ : iv 1 2 y0_216) (_ : KS [48, 51, 52] sg sg_j216) (_ : KS [53, 54, 60, 69, 75] gm gm_j216) (_ : MI sg_j216 gm_j216) (_ : x2_216.toNatClampNeg = TOPn sg) (_ : x5_216 = -1 ∨ CHO sg gm lg b x3_216 x4_216 x5_216) (_ : MKO sg gm lg b gm_j216) (_ : GI0 sg_j216 gm_j216 lg) (_ : ¬ x5_216 = -1) (H : Heap) (locs : List Loc) (ls : Array Slot), va_P (dC, dI) vwCl (mW h0 ad cid sg_j216 gm_j216 lg) H → va_D A (mW h0 ad cid sg_j216 gm_j216 lg) → va_S A s.heap H locs → lv_has ls 9 [(6, .int (sg 48)), (5, .int x5_216), (4, .int x4_216), (3, .int x3_216), (2, .int x2_216), (0, .ref h0), (1, .int b)] → W p l e (headSpec wm_X13_makeObject ({ frames := 9, cells := 0, slots := 0, locals := 226 })).room s m ([.ref h0, .int b] : List Value).toArray below meth c H locs 0 0 (MQ below (va_Qv (fun v => ∃ (sg2 : Nat → Int32) (gm2 : Nat → Nat → Int32) (lg2 : Nat → Nat → Int64), v = (sg2, gm2, lg2) ∧ MI sg2 gm2 ∧ KS [48, 49, 51, 52] sg sg2 ∧ KS [53, 54, 55, 56, 57, 58, 60, 69, 75] gm gm2 ∧ KS [] lg lg2 ∧ (GI0 sg2 gm2 lg2) ∧ (1 ≤ (sg2 51).toInt ∨ MKO sg gm lg b gm2)) (MB dC dI h0 ad cid A) A) ([.ref h0, .int b] : List Value).toArray s 0 0 A) (F0 m 216 ls [.int y0_216, .ref h0]) := by
    intro sg_j216 gm_j216 x5_216 x4_216 x3_216 x2_216 y0_216 hsx6_216 hx5_216 hx4_216 hx3_216 hx2_216 hsx1_216 hy0_216 hks_j216 hkg_j216 hI_j216 htop hch hmk hgi h5n H locs ls hP hD hS hl
    refine lv_iload hx hb dX13_makeObject_216 (lv_at hl 0 rfl) ?_
    refine lv_aload_n hx hb dX13_makeObject_218 rfl (lv_at hl 5 rfl) ?_
    refine mr_get (v := .ref (ad 53)) hx hb htb inX13 hown hK hP 53 (by decide) (htb _ kw_203) rfl dX13_makeObject_219 ?_
    refine lv_iload hx hb dX13_makeObject_222 (lv_at hl 0 rfl) ?_
    refine mr_iald hx hb hK hP 39 (k := 53) rfl rfl rfl (show vp_in (sg 48) 60 from (iv_in hsx6_216 (by decide))) dX13_makeObject_224 ?_
    refine lv_topi (fun z_40 ez_40 => ?_)
    have hz_40 : iv 0 7 z_40 := iv_of ez_40 (MI_a hI_j216 53 hsx6_216 (by decide))
    refine lv_iload_n hx hb dX13_makeObject_225 rfl (lv_at hl 3 rfl) ?_
    refine lv_if_eq (tgt := 236) hx hb dX13_makeObject_226 (by decide) (fun c_41 => ?_) (fun c_41 => ?_)
    · have h_42 : iv 0 0 x3_216 := iv_eq c_41 hx3_216 (iv_k (by decide) : iv 0 0 0) (by decide)
      refine lv_bipush (v := 8) hx hb dX13_makeObject_236 (by decide) ?_
      refine lv_iload hx hb dX13_makeObject_238 (lv_at hl 1 rfl) ?_
      refine lv_iconst (v := 4) hx hb dX13_makeObject_240 (by decide) ?_
      refine lv_idiv hx hb dX13_makeObject_241 (by decide) ?_
      refine lv_topi (fun z_43 ez_43 => ?_)
      have hz_43 : iv 0 7 z_43 := iv_of ez_43 (iv_div hx5_216 (by decide) (by decide))
      refine lv_imul hx hb dX13_makeObject_242 ?_
      refine lv_topi (fun z_44 ez_44 => ?_)
      have hz_44 : iv 0 56 z_44 := iv_of ez_44 (iv_mul (iv_k (by decide) : iv 8 8 8) hz_43 (by decide))
      have tz_44 : z_44.toInt = 8 * (z_43 : Int32).toInt := by rw [ez_44]; exact iv_mulE (iv_k (by decide) : iv 8 8 8) hz_43 (by decide)
      refine lv_iload hx hb dX13_makeObject_243 (lv_at hl 1 rfl) ?_
      refine lv_iconst (v := 4) hx hb dX13_makeObject_245 (by decide) ?_
      refine lv_irem hx hb dX13_makeObject_246 (by decide) ?_
      refine lv_topi (fun z_45 ez_45 => ?_)
      have hz_45 : iv 0 3 z_45 := iv_of ez_45 (iv_rem hx5_216 (by decide) (by decide))
      refine lv_iadd hx hb dX13_makeObject_247 ?_
      refine lv_topi (fun z_46 ez_46 => ?_)
      have hz_46 : iv 0 59 z_46 := iv_of ez_46 (iv_add hz_44 hz_45 (by decide))
      have tz_46 : z_46.toInt = (z_44 : Int32).toInt + (z_45 : Int32).toInt := by rw [ez_46]; exact iv_addE hz_44 hz_45 (by decide)
      exact hj248 sg_j216 gm_j216 x5_216 x4_216 x3_216 x2_216 z_46 z_40 y0_216 hsx6_216 hx5_216 hx4_216 (iv_w h_42 (by decide)) hx2_216 hsx1_216 hz_46 hz_40 hsx6_216 hy0_216 (KS_tr (L := [48, 51, 52]) KS_rf hks_j216 (by decide)) (KS_tr (L := [53, 54, 60, 69, 75]) KS_rf hkg_j216 (by decide)) hI_j216 (htop) (hch) (MKO_k hmk ((show KS [] gm_j216 gm_j216 from KS_rf) 69 (by decide)) ((show KS [] gm_j216 gm_j216 from KS_rf) 60 (by decide))) (GI0_of hgi (show KS [] sg_j216 sg_j216 from KS_rf) (show KS [] gm_j216 gm_j216 from KS_rf) (show KS [] lg lg from KS_rf) (by decide) (by decide) (by decide) (by decide) (by decide) (by decide)) (h5n) _ _ _ hP hD hS (lv_sub hl [0, 1, 2, 3, 4, 5, 6] rfl)
    · have h_47 : iv 1 1 x3_216 := iv_neL c_41 hx3_216 (by decide)
      refine lv_iload hx hb dX13_makeObject_229 (lv_at hl 1 rfl) ?_
      refine lv_iconst (v := 4) hx hb dX13_makeObject_231 (by decide) ?_
      refine lv_irem hx hb dX13_makeObject_232 (by decide) ?_
      refine lv_topi (fun z_48 ez_48 => ?_)
      have hz_48 : iv 0 3 z_48 := iv_of ez_48 (iv_rem hx5_216 (by decide) (by decide))
      refine lv_goto (tgt := 248) hx hb dX13_makeObject_233 (by decide) ?_
      exact hj248 sg_j216 gm_j216 x5_216 x4_216 x3_216 x2_216 z_48 z_40 y0_216 hsx6_216 hx5_216 hx4_216 (iv_w h_47 (by decide)) hx2_216 hsx1_216 (iv_w hz_48 (by decide)) hz_40 hsx6_216 hy0_216 (KS_tr (L := [48, 51, 52]) KS_rf hks_j216 (by decide)) (KS_tr (L := [53, 54, 60, 69, 75]) KS_rf hkg_j216 (by decide)) hI_j216 (htop) (hch) (MKO_k hmk ((show KS [] gm_j216 gm_j216 from KS_rf) 69 (by decide)) ((show KS [] gm_j216 gm_j216 from KS_rf) 60 (by decide))) (GI0_of hgi (show KS [] sg_j216 sg_j216 from KS_rf) (show KS [] gm_j216 gm_j216 from KS_rf) (show KS [] lg lg from KS_rf) (by decide) (by decide) (by decide) (by decide) (by decide) (by decide)) (h5n) _ _ _ hP hD hS (lv_sub hl [0, 1, 2, 3, 4, 5, 6] rfl)
  have hj206 : ∀ (sg_j206 : Nat → Int32) (gm_j206 : Nat → Nat → Int32) (x5_206 : Int32) (x4_206 : Int32) (x3_206 : Int32) (x2_206 : Int32) (_ : iv 0 59 (sg 48)) (_ : iv 0 31 x5_206) (_ : iv (-1) 7 x4_206) (_ : iv 0 1 x3_206) (_ : iv 0 79 x2_206) (_ : iv 0 79 b) (_ : KS [48, 51, 52] sg sg_j206) (_ : KS [53, 54, 60, 69, 75] gm gm_j206) (_ : MI sg_j206 gm_j206) (_ : x2_206.toNatClampNeg = TOPn sg) (_ : x5_206 = -1 ∨ CHO sg gm lg b x3_206 x4_206 x5_206) (_ : MKO sg gm lg b gm_j206) (_ : GI0 sg_j206 gm_j206 lg) (_ : ¬ x5_206 = -1) (H : Heap) (locs : List Loc) (ls : Array Slot), va_P (dC, dI) vwCl (mW h0 ad cid sg_j206 gm_j206 lg) H → va_D A (mW h0 ad cid sg_j206 gm_j206 lg) → va_S A s.heap H locs → lv_has ls 9 [(6, .int (sg 48)), (5, .int x5_206), (4, .int x4_206), (3, .int x3_206), (2, .int x2_206), (0, .ref h0), (1, .int b)] → W p l e (headSpec wm_X13_makeObject ({ frames := 9, cells := 0, slots := 0, locals := 226 })).room s m ([.ref h0, .int b] : List Value).toArray below meth c H locs 0 0 (MQ below (va_Qv (fun v => ∃ (sg2 : Nat → Int32) (gm2 : Nat → Nat → Int32) (lg2 : Nat → Nat → Int64), v = (sg2, gm2, lg2) ∧ MI sg2 gm2 ∧ KS [48, 49, 51, 52] sg sg2 ∧ KS [53, 54, 55, 56, 57, 58, 60, 69, 75] gm gm2 ∧ KS [] lg lg2 ∧ (GI0 sg2 gm2 lg2) ∧ (1 ≤ (sg2 51).toInt ∨ MKO sg gm lg b gm2)) (MB dC dI h0 ad cid A) A) ([.ref h0, .int b] : List Value).toArray s 0 0 A) (F0 m 206 ls []) := by
    intro sg_j206 gm_j206 x5_206 x4_206 x3_206 x2_206 hsx6_206 hx5_206 hx4_206 hx3_206 hx2_206 hsx1_206 hks_j206 hkg_j206 hI_j206 htop hch hmk hgi h5n H locs ls hP hD hS hl
    refine lv_aload_n hx hb dX13_makeObject_206 rfl (lv_at hl 5 rfl) ?_
    refine lv_iload_n hx hb dX13_makeObject_207 rfl (lv_at hl 3 rfl) ?_
    refine lv_if_eq (tgt := 215) hx hb dX13_makeObject_208 (by decide) (fun c_49 => ?_) (fun c_49 => ?_)
    · have h_50 : iv 0 0 x3_206 := iv_eq c_49 hx3_206 (iv_k (by decide) : iv 0 0 0) (by decide)
      refine lv_iconst (v := 2) hx hb dX13_makeObject_215 (by decide) ?_
      exact hj216 sg_j206 gm_j206 x5_206 x4_206 x3_206 x2_206 2 hsx6_206 hx5_206 hx4_206 (iv_w h_50 (by decide)) hx2_206 hsx1_206 (iv_w (iv_k (by decide) : iv 2 2 2) (by decide)) (KS_tr (L := [48, 51, 52]) KS_rf hks_j206 (by decide)) (KS_tr (L := [53, 54, 60, 69, 75]) KS_rf hkg_j206 (by decide)) hI_j206 (htop) (hch) (MKO_k hmk ((show KS [] gm_j206 gm_j206 from KS_rf) 69 (by decide)) ((show KS [] gm_j206 gm_j206 from KS_rf) 60 (by decide))) (GI0_of hgi (show KS [] sg_j206 sg_j206 from KS_rf) (show KS [] gm_j206 gm_j206 from KS_rf) (show KS [] lg lg from KS_rf) (by decide) (by decide) (by decide) (by decide) (by decide) (by decide)) (h5n) _ _ _ hP hD hS (lv_sub hl [0, 1, 2, 3, 4, 5, 6] rfl)
    · have h_51 : iv 1 1 x3_206 := iv_neL c_49 hx3_206 (by decide)
      refine lv_iconst (v := 1) hx hb dX13_makeObject_211 (by decide) ?_
      refine lv_goto (tgt := 216) hx hb dX13_makeObject_212 (by decide) ?_
      exact hj216 sg_j206 gm_j206 x5_206 x4_206 x3_206 x2_206 1 hsx6_206 hx5_206 hx4_206 (iv_w h_51 (by decide)) hx2_206 hsx1_206 (iv_w (iv_k (by decide) : iv 1 1 1) (by decide)) (KS_tr (L := [48, 51, 52]) KS_rf hks_j206 (by decide)) (KS_tr (L := [53, 54, 60, 69, 75]) KS_rf hkg_j206 (by decide)) hI_j206 (htop) (hch) (MKO_k hmk ((show KS [] gm_j206 gm_j206 from KS_rf) 69 (by decide)) ((show KS [] gm_j206 gm_j206 from KS_rf) 60 (by decide))) (GI0_of hgi (show KS [] sg_j206 sg_j206 from KS_rf) (show KS [] gm_j206 gm_j206 from KS_rf) (show KS [] lg lg from KS_rf) (by decide) (by decide) (by decide) (by decide) (by decide) (by decide)) (h5n) _ _ _ hP hD hS (lv_sub hl [0, 1, 2, 3, 4, 5, 6] rfl)
  have hj173 : ∀ (sg_j173 : Nat → Int32) (gm_j173 : Nat → Nat → Int32) (x5_173 : Int32) (x4_173 : Int32) (x3_173 : Int32) (x2_173 : Int32) (y0_173 : Int32) (_ : iv 0 59 (sg 48)) (_ : iv 0 31 x5_173) (_ : iv (-1) 7 x4_173) (_ : iv 0 1 x3_173) (_ : iv 0 79 x2_173) (_ : iv 0 79 b) (_ : iv 0 7 y0_173) (_ : iv 0 59 (sg 48)) (_ : KS [48, 51, 52] sg sg_j173) (_ : KS [75] gm gm_j173) (_ : MI sg_j173 gm_j173) (_ : x2_173.toNatClampNeg = TOPn sg) (_ : x5_173 = -1 ∨ CHO sg gm lg b x3_173 x4_173 x5_173) (_ : ¬ x5_173 = -1) (H : Heap) (locs : List Loc) (ls : Array Slot), va_P (dC, dI) vwCl (mW h0 ad cid sg_j173 gm_j173 lg) H → va_D A (mW h0 ad cid sg_j173 gm_j173 lg) → va_S A s.heap H locs → lv_has ls 9 [(6, .int (sg 48)), (5, .int x5_173), (4, .int x4_173), (3, .int x3_173), (2, .int x2_173), (0, .ref h0), (1, .int b)] → W p l e (headSpec wm_X13_makeObject ({ frames := 9, cells := 0, slots := 0, locals := 226 })).room s m ([.ref h0, .int b] : List Value).toArray below meth c H locs 0 0 (MQ below (va_Qv (fun v => ∃ (sg2 : Nat → Int32) (gm2 : Nat → Nat → Int32) (lg2 : Nat → Nat → Int64), v = (sg2, gm2, lg2) ∧ MI sg2 gm2 ∧ KS [48, 49, 51, 52] sg sg2 ∧ KS [53, 54, 55, 56, 57, 58, 60, 69, 75] gm gm2 ∧ KS [] lg lg2 ∧ (GI0 sg2 gm2 lg2) ∧ (1 ≤ (sg2 51).toInt ∨ MKO sg gm lg b gm2)) (MB dC dI h0 ad cid A) A) ([.ref h0, .int b] : List Value).toArray s 0 0 A) (F0 m 173 ls [.int y0_173, .int (sg 48), .ref (ad 53)]) := by
    intro sg_j173 gm_j173 x5_173 x4_173 x3_173 x2_173 y0_173 hsx6_173 hx5_173 hx4_173 hx3_173 hx2_173 hsx1_173 hy0_173 hsy1_173 hks_j173 hkg_j173 hI_j173 htop hch h5n H locs ls hP hD hS hl
    refine ma_iast (x := y0_173) hx hb hK hP hD hS 39 (k := 53) rfl rfl rfl (show vp_in (sg 48) 60 from (iv_in hsy1_173 (by decide))) dX13_makeObject_173 (fun gm_52 H locs egm_52 hP hD hS => ?_)
    have hI_gm_52 := MI_st hI_j173 egm_52 hy0_173 (by decide)
    refine lv_aload_n hx hb dX13_makeObject_174 rfl (lv_at hl 5 rfl) ?_
    refine mr_get (v := .ref (ad 54)) hx hb htb inX13 hown hK hP 54 (by decide) (htb _ kw_204) rfl dX13_makeObject_175 ?_
    refine lv_iload hx hb dX13_makeObject_178 (lv_at hl 0 rfl) ?_
    refine lv_iload_n hx hb dX13_makeObject_180 rfl (lv_at hl 6 rfl) ?_
    refine ma_iast (x := b) hx hb hK hP hD hS 40 (k := 54) rfl rfl rfl (show vp_in (sg 48) 60 from (iv_in hsy1_173 (by decide))) dX13_makeObject_181 (fun gm_53 H locs egm_53 hP hD hS => ?_)
    have hI_gm_53 := MI_st hI_gm_52 egm_53 hsx1_173 (by decide)
    refine lv_aload_n hx hb dX13_makeObject_182 rfl (lv_at hl 5 rfl) ?_
    refine mr_get (v := .ref (ad 69)) hx hb htb inX13 hown hK hP 69 (by decide) (htb _ kw_218) rfl dX13_makeObject_183 ?_
    refine lv_iload_n hx hb dX13_makeObject_186 rfl (lv_at hl 4 rfl) ?_
    refine lv_iload hx hb dX13_makeObject_187 (lv_at hl 0 rfl) ?_
    refine ma_iast (x := (sg 48)) hx hb hK hP hD hS 54 (k := 69) rfl rfl rfl (show vp_in x2_173 81 from (iv_in hx2_173 (by decide))) dX13_makeObject_189 (fun gm_54 H locs egm_54 hP hD hS => ?_)
    have hI_gm_54 := MI_st hI_gm_53 egm_54 hsy1_173 (by decide)
    refine lv_aload_n hx hb dX13_makeObject_190 rfl (lv_at hl 5 rfl) ?_
    refine lv_iload_n hx hb dX13_makeObject_191 rfl (lv_at hl 6 rfl) ?_
    refine mr_calli (rest := []) ⟨hx, hb, hml, hown, htb⟩ (f_isMany l dC dI h0 ad cid sg_j173 gm_54 lg b hI_gm_54 hsx1_173) (cwV 1 htb (gd_V kw_1154 kw_1155 kw_1156 kw_5 kw_1602) rfl rfl rfl (by decide +kernel) ⟨Nat.le_of_ble_eq_true rfl, Nat.le_of_ble_eq_true rfl⟩) rfl hl.1 rfl (Nat.le_of_ble_eq_true rfl) dX13_makeObject_192 ⟨Nat.zero_le _, Nat.zero_le _⟩ hK hP hD hS hA (fun r_55 u_56 H locs hw hP hD hS => ?_)
    obtain ⟨hr_55, fY_r_55, rfl⟩ := hw
    have hP : va_P (dC, dI) vwCl (mW h0 ad cid sg_j173 gm_54 lg) H := hP
    have hD : va_D A (mW h0 ad cid sg_j173 gm_54 lg) := hD
    refine lv_if_ne (tgt := 206) hx hb dX13_makeObject_195 (by decide) (fun c_57 => ?_) (fun c_57 => ?_)
    · have h_58 : iv 1 1 r_55 := iv_neL c_57 hr_55 (by decide)
      exact hj206 sg_j173 gm_54 x5_173 x4_173 x3_173 x2_173 hsy1_173 hx5_173 hx4_173 hx3_173 hx2_173 hsx1_173 (KS_tr (L := [48, 51, 52]) KS_rf hks_j173 (by decide)) (KS_up (KS_up (KS_up (KS_tr (L := [53, 54, 60, 69, 75]) KS_rf hkg_j173 (by decide)) egm_52 (by decide)) egm_53 (by decide)) egm_54 (by decide)) hI_gm_54 (htop) (hch) (MKO_m (show gm_54 69 = upd (gm 69) (x2_173 : Int32).toNatClampNeg (sg 48) from ((up_at egm_54).trans (by rw [show gm_53 69 = gm 69 from ((up_ne egm_53 (by decide)).trans ((up_ne egm_52 (by decide)).trans ((hkg_j173 69 (by decide)).trans rfl)))]))) htop (Eq.trans (Eq.trans (Eq.trans (up_ne egm_54 (by decide)) (up_ne egm_53 (by decide))) (up_ne egm_52 (by decide))) (hkg_j173 60 (by decide))) (hsy1_173).1 (by have q9 := (fY_r_55.resolve_left (fun q8 => c_57 (Int32.toInt_inj.mp q8.1))).2; rw [mMny_k (sg := sg) (gm := gm) (lg := lg) (DK_of (show KS [48, 51, 52] sg sg_j173 from (KS_tr (L := [48, 51, 52]) KS_rf hks_j173 (by decide))) (show KS [53, 54, 69, 75] gm gm_54 from (KS_up (KS_up (KS_up (KS_tr (L := [53, 54, 69, 75]) KS_rf hkg_j173 (by decide)) egm_52 (by decide)) egm_53 (by decide)) egm_54 (by decide))) (show KS [] lg lg from KS_rf) (by decide) (by decide) (by decide)) rfl] at q9; exact q9)) (GI0_of hgi (show KS [48, 51, 52] sg sg_j173 from (KS_tr (L := [48, 51, 52]) KS_rf hks_j173 (by decide))) (show KS [53, 54, 69, 75] gm gm_54 from (KS_up (KS_up (KS_up (KS_tr (L := [53, 54, 69, 75]) KS_rf hkg_j173 (by decide)) egm_52 (by decide)) egm_53 (by decide)) egm_54 (by decide))) (show KS [] lg lg from KS_rf) (by decide) (by decide) (by decide) (by decide) (by decide) (by decide)) (h5n) _ _ _ hP hD hS (lv_sub hl [0, 1, 2, 3, 4, 5, 6] rfl)
    · have h_59 : iv 0 0 r_55 := iv_eq c_57 hr_55 (iv_k (by decide) : iv 0 0 0) (by decide)
      refine lv_aload_n hx hb dX13_makeObject_198 rfl (lv_at hl 5 rfl) ?_
      refine mr_get (v := .ref (ad 60)) hx hb htb inX13 hown hK hP 60 (by decide) (htb _ kw_210) rfl dX13_makeObject_199 ?_
      refine lv_iload_n hx hb dX13_makeObject_202 rfl (lv_at hl 6 rfl) ?_
      refine lv_iload hx hb dX13_makeObject_203 (lv_at hl 0 rfl) ?_
      refine ma_iast (x := (sg 48)) hx hb hK hP hD hS 46 (k := 60) rfl rfl rfl (show vp_in b 80 from (iv_in hsx1_173 (by decide))) dX13_makeObject_205 (fun gm_60 H locs egm_60 hP hD hS => ?_)
      have hI_gm_60 := MI_st hI_gm_54 egm_60 hsy1_173 (by decide)
      exact hj206 sg_j173 gm_60 x5_173 x4_173 x3_173 x2_173 hsy1_173 hx5_173 hx4_173 hx3_173 hx2_173 hsx1_173 (KS_tr (L := [48, 51, 52]) KS_rf hks_j173 (by decide)) (KS_up (KS_up (KS_up (KS_up (KS_tr (L := [53, 54, 60, 69, 75]) KS_rf hkg_j173 (by decide)) egm_52 (by decide)) egm_53 (by decide)) egm_54 (by decide)) egm_60 (by decide)) hI_gm_60 (htop) (hch) (MKO_o (show gm_60 69 = upd (gm 69) (x2_173 : Int32).toNatClampNeg (sg 48) from ((up_ne egm_60 (by decide)).trans ((up_at egm_54).trans (by rw [show gm_53 69 = gm 69 from ((up_ne egm_53 (by decide)).trans ((up_ne egm_52 (by decide)).trans ((hkg_j173 69 (by decide)).trans rfl)))])))) htop (show gm_60 60 = upd (gm 60) (b : Int32).toNatClampNeg (sg 48) from ((up_at egm_60).trans (by rw [show gm_54 60 = gm 60 from ((up_ne egm_54 (by decide)).trans ((up_ne egm_53 (by decide)).trans ((up_ne egm_52 (by decide)).trans ((hkg_j173 60 (by decide)).trans rfl))))]))) (hsy1_173).1) (GI0_own hgi (DK_of (show KS [48, 51, 52] sg sg_j173 from (KS_tr (L := [48, 51, 52]) KS_rf hks_j173 (by decide))) (show KS [53, 54, 60, 69, 75] gm gm_60 from (KS_up (KS_up (KS_up (KS_up (KS_tr (L := [53, 54, 60, 69, 75]) KS_rf hkg_j173 (by decide)) egm_52 (by decide)) egm_53 (by decide)) egm_54 (by decide)) egm_60 (by decide))) (show KS [] lg lg from KS_rf) (by decide) (by decide) (by decide)) rfl (show gm_60 60 = upd (gm 60) (b : Int32).toNatClampNeg (sg 48) from ((up_at egm_60).trans (by rw [show gm_54 60 = gm 60 from ((up_ne egm_54 (by decide)).trans ((up_ne egm_53 (by decide)).trans ((up_ne egm_52 (by decide)).trans ((hkg_j173 60 (by decide)).trans rfl))))]))) (Eq.trans (Eq.trans (Eq.trans (Eq.trans (up_ne egm_60 (by decide)) (up_ne egm_54 (by decide))) (up_ne egm_53 (by decide))) (up_ne egm_52 (by decide))) (hkg_j173 61 (by decide))) (Eq.trans (Eq.trans (Eq.trans (Eq.trans (up_ne egm_60 (by decide)) (up_ne egm_54 (by decide))) (up_ne egm_53 (by decide))) (up_ne egm_52 (by decide))) (hkg_j173 62 (by decide))) (Eq.trans (Eq.trans (Eq.trans (Eq.trans (up_ne egm_60 (by decide)) (up_ne egm_54 (by decide))) (up_ne egm_53 (by decide))) (up_ne egm_52 (by decide))) (hkg_j173 70 (by decide))) (Eq.trans (Eq.trans (Eq.trans (Eq.trans (up_ne egm_60 (by decide)) (up_ne egm_54 (by decide))) (up_ne egm_53 (by decide))) (up_ne egm_52 (by decide))) (hkg_j173 71 (by decide))) (Eq.trans (Eq.trans (Eq.trans (Eq.trans (up_ne egm_60 (by decide)) (up_ne egm_54 (by decide))) (up_ne egm_53 (by decide))) (up_ne egm_52 (by decide))) (hkg_j173 72 (by decide))) (Eq.trans (Eq.trans (Eq.trans (Eq.trans (up_ne egm_60 (by decide)) (up_ne egm_54 (by decide))) (up_ne egm_53 (by decide))) (up_ne egm_52 (by decide))) (hkg_j173 73 (by decide))) (hks_j173 50 (by decide)) (hsy1_173).1) (h5n) _ _ _ hP hD hS (lv_sub hl [0, 1, 2, 3, 4, 5, 6] rfl)
  have hj127 : ∀ (sg_j127 : Nat → Int32) (gm_j127 : Nat → Nat → Int32) (x5_127 : Int32) (x4_127 : Int32) (x3_127 : Int32) (x2_127 : Int32) (_ : iv (-1) 31 x5_127) (_ : iv (-1) 7 x4_127) (_ : iv 0 1 x3_127) (_ : iv 0 79 x2_127) (_ : iv 0 79 b) (_ : KS [51, 52] sg sg_j127) (_ : KS [75] gm gm_j127) (_ : MI sg_j127 gm_j127) (_ : 1 ≤ (sg_j127 51).toInt ∨ ¬ x5_127 = -1) (_ : 1 ≤ (sg_j127 51).toInt ∨ (sg 48).toInt ≤ 59) (_ : x2_127.toNatClampNeg = TOPn sg) (_ : x5_127 = -1 ∨ CHO sg gm lg b x3_127 x4_127 x5_127) (H : Heap) (locs : List Loc) (ls : Array Slot), va_P (dC, dI) vwCl (mW h0 ad cid sg_j127 gm_j127 lg) H → va_D A (mW h0 ad cid sg_j127 gm_j127 lg) → va_S A s.heap H locs → lv_has ls 9 [(5, .int x5_127), (4, .int x4_127), (3, .int x3_127), (2, .int x2_127), (0, .ref h0), (1, .int b)] → W p l e (headSpec wm_X13_makeObject ({ frames := 9, cells := 0, slots := 0, locals := 226 })).room s m ([.ref h0, .int b] : List Value).toArray below meth c H locs 0 0 (MQ below (va_Qv (fun v => ∃ (sg2 : Nat → Int32) (gm2 : Nat → Nat → Int32) (lg2 : Nat → Nat → Int64), v = (sg2, gm2, lg2) ∧ MI sg2 gm2 ∧ KS [48, 49, 51, 52] sg sg2 ∧ KS [53, 54, 55, 56, 57, 58, 60, 69, 75] gm gm2 ∧ KS [] lg lg2 ∧ (GI0 sg2 gm2 lg2) ∧ (1 ≤ (sg2 51).toInt ∨ MKO sg gm lg b gm2)) (MB dC dI h0 ad cid A) A) ([.ref h0, .int b] : List Value).toArray s 0 0 A) (F0 m 127 ls []) := by
    intro sg_j127 gm_j127 x5_127 x4_127 x3_127 x2_127 hx5_127 hx4_127 hx3_127 hx2_127 hsx1_127 hks_j127 hkg_j127 hI_j127 h5f h48f htop hch H locs ls hP hD hS hl
    refine lv_aload_n hx hb dX13_makeObject_127 rfl (lv_at hl 4 rfl) ?_
    refine mr_get (v := .int (sg_j127 51)) hx hb htb inX13 hown hK hP 51 (by decide) (htb _ kw_983) rfl dX13_makeObject_128 ?_
    refine lv_if_eq (tgt := 135) hx hb dX13_makeObject_131 (by decide) (fun c_61 => ?_) (fun c_61 => ?_)
    · have h_62 : iv 0 0 (sg_j127 51) := iv_eq c_61 (show iv 0 8 (sg_j127 51) from MI_s hI_j127 51) (iv_k (by decide) : iv 0 0 0) (by decide)
      have h5n : ¬ x5_127 = -1 := h5f.resolve_left (by have := i32_0; have := i32_1; have := i32_2; have := i32_m1; have := (show iv 0 8 (sg_j127 51) from MI_s hI_j127 51).1; have := (show iv 0 8 (sg_j127 51) from MI_s hI_j127 51).2; have := (show iv 0 8 (sg 51) from MI_s hI 51).1; have := (show iv 0 8 (sg 51) from MI_s hI 51).2; have := (hsx1_127).1; have := (hsx1_127).2; have := (h63).1; have := (h63).2; have := (hx5_127).1; have := (hx5_127).2; have := (hx4_127).1; have := (hx4_127).2; have := (hx3_127).1; have := (hx3_127).2; have := (hx2_127).1; have := (hx2_127).2; have := (h_62).1; have := (h_62).2; omega)
      have hcho := hch.resolve_left h5n
      have h48 : iv 0 59 (sg 48) := ⟨(show iv 0 60 (sg 48) from MI_s hI 48).1, h48f.resolve_left (by have := i32_0; have := i32_1; have := i32_2; have := i32_m1; have := (show iv 0 8 (sg_j127 51) from MI_s hI_j127 51).1; have := (show iv 0 8 (sg_j127 51) from MI_s hI_j127 51).2; have := (show iv 0 8 (sg 51) from MI_s hI 51).1; have := (show iv 0 8 (sg 51) from MI_s hI 51).2; have := (hsx1_127).1; have := (hsx1_127).2; have := (h63).1; have := (h63).2; have := (hcho.1).1; have := (hcho.1).2; have := (hx4_127).1; have := (hx4_127).2; have := (hx3_127).1; have := (hx3_127).2; have := (hx2_127).1; have := (hx2_127).2; have := (h_62).1; have := (h_62).2; omega)⟩
      refine lv_aload_n hx hb dX13_makeObject_135 rfl (lv_at hl 4 rfl) ?_
      refine mr_get (v := .int (sg_j127 48)) hx hb htb inX13 hown hK hP 48 (by decide) (htb _ kw_819) rfl dX13_makeObject_136 ?_
      refine lv_topi (fun z_63 ez_63 => ?_)
      obtain rfl : (sg 48) = z_63 := (ez_63.trans (hks_j127 48 (by decide))).symm
      refine lv_istore (lv' := [(6, .int (sg 48)), (5, .int x5_127), (4, .int x4_127), (3, .int x3_127), (2, .int x2_127), (0, .ref h0), (1, .int b)]) hx hb dX13_makeObject_139 hl (by decide) rfl (fun ls hl => ?_)
      refine lv_aload_n hx hb dX13_makeObject_141 rfl (lv_at hl 5 rfl) ?_
      refine lv_dup hx hb dX13_makeObject_142 rfl ?_
      refine mr_get (v := .int (sg_j127 48)) hx hb htb inX13 hown hK hP 48 (by decide) (htb _ kw_819) rfl dX13_makeObject_143 ?_
      refine lv_topi (fun z_64 ez_64 => ?_)
      obtain rfl : (sg 48) = z_64 := (ez_64.trans (hks_j127 48 (by decide))).symm
      refine lv_iconst (v := 1) hx hb dX13_makeObject_146 (by decide) ?_
      refine lv_iadd hx hb dX13_makeObject_147 ?_
      refine lv_topi (fun z_65 ez_65 => ?_)
      have hz_65 : iv 1 60 z_65 := iv_of ez_65 (iv_add h48 (iv_k (by decide) : iv 1 1 1) (by decide))
      have tz_65 : z_65.toInt = ((sg 48) : Int32).toInt + 1 := by rw [ez_65]; exact iv_addE h48 (iv_k (by decide) : iv 1 1 1) (by decide)
      refine ma_put (x := z_65) hx hb htb inX13 hown hK hP hD hS 48 (by decide) (by decide) (htb _ kw_819) rfl rfl rfl dX13_makeObject_148 (fun sg_66 H locs esg_66 hP hD hS => ?_)
      have hI_sg_66 := MI_put hI_j127 esg_66 hz_65 (by decide)
      refine lv_aload_n hx hb dX13_makeObject_151 rfl (lv_at hl 5 rfl) ?_
      refine mr_get (v := .ref (ad 53)) hx hb htb inX13 hown hK hP 53 (by decide) (htb _ kw_203) rfl dX13_makeObject_152 ?_
      refine lv_iload hx hb dX13_makeObject_155 (lv_at hl 0 rfl) ?_
      refine lv_iload_n hx hb dX13_makeObject_157 rfl (lv_at hl 3 rfl) ?_
      refine lv_if_eq (tgt := 166) hx hb dX13_makeObject_158 (by decide) (fun c_67 => ?_) (fun c_67 => ?_)
      · have h_68 : iv 0 0 x3_127 := iv_eq c_67 hx3_127 (iv_k (by decide) : iv 0 0 0) (by decide)
        refine lv_aload_n hx hb dX13_makeObject_166 rfl (lv_at hl 5 rfl) ?_
        refine mr_get (v := .ref (ad 15)) hx hb htb inX13 hown hK hP 15 (by decide) (htb _ kw_174) rfl dX13_makeObject_167 ?_
        refine lv_iload hx hb dX13_makeObject_170 (lv_at hl 1 rfl) ?_
        refine mr_iald hx hb hK hP 14 (k := 15) rfl rfl rfl (show vp_in x5_127 32 from (iv_in hcho.1 (by decide))) dX13_makeObject_172 ?_
        refine lv_topi (fun z_69 ez_69 => ?_)
        have hz_69 : iv 0 7 z_69 := iv_of ez_69 (MI_a hI_sg_66 15 hcho.1 (by decide))
        have ez_69 := ez_69.trans (congrFun (hkg_j127 15 (by decide)) _)
        exact hj173 sg_66 gm_j127 x5_127 x4_127 x3_127 x2_127 z_69 h48 hcho.1 hx4_127 (iv_w h_68 (by decide)) hx2_127 hsx1_127 hz_69 h48 (KS_up (KS_tr (L := [48, 51, 52]) KS_rf hks_j127 (by decide)) esg_66 (by decide)) (KS_tr (L := [75]) KS_rf hkg_j127 (by decide)) hI_sg_66 (htop) (hch) (h5n) _ _ _ hP hD hS (lv_sub hl [0, 1, 2, 3, 4, 5, 6] rfl)
      · have h_70 : iv 1 1 x3_127 := iv_neL c_67 hx3_127 (by decide)
        have h161 : iv 0 7 x4_127 := ⟨hcho.2.1, (hx4_127).2⟩
        refine lv_iload hx hb dX13_makeObject_161 (lv_at hl 2 rfl) ?_
        refine lv_goto (tgt := 173) hx hb dX13_makeObject_163 (by decide) ?_
        exact hj173 sg_66 gm_j127 x5_127 x4_127 x3_127 x2_127 x4_127 h48 hcho.1 (iv_w h161 (by decide)) (iv_w h_70 (by decide)) hx2_127 hsx1_127 h161 h48 (KS_up (KS_tr (L := [48, 51, 52]) KS_rf hks_j127 (by decide)) esg_66 (by decide)) (KS_tr (L := [75]) KS_rf hkg_j127 (by decide)) hI_sg_66 (htop) (hch) (h5n) _ _ _ hP hD hS (lv_sub hl [0, 1, 2, 3, 4, 5, 6] rfl)
    · have h_71 : iv 1 8 (sg_j127 51) := iv_neL c_61 (show iv 0 8 (sg_j127 51) from MI_s hI_j127 51) (by decide)
      exact W.vret hx hb hr (fun t ht hW => ⟨⟨(sg_j127, gm_j127, lg), rfl, ⟨sg_j127, gm_j127, lg, rfl, hI_j127, (KS_tr (L := [48, 49, 51, 52]) KS_rf hks_j127 (by decide)), (KS_tr (L := [53, 54, 55, 56, 57, 58, 60, 69, 75]) KS_rf hkg_j127 (by decide)), KS_rf, (GI0_of hgi (show KS [51, 52] sg sg_j127 from (KS_tr (L := [51, 52]) KS_rf hks_j127 (by decide))) (show KS [75] gm gm_j127 from (KS_tr (L := [75]) KS_rf hkg_j127 (by decide))) (show KS [] lg lg from KS_rf) (by decide) (by decide) (by decide) (by decide) (by decide) (by decide)), (Or.inl (by have := i32_0; have := i32_1; have := i32_2; have := i32_m1; have := (show iv 0 8 (sg_j127 51) from MI_s hI_j127 51).1; have := (show iv 0 8 (sg_j127 51) from MI_s hI_j127 51).2; have := (show iv 0 8 (sg 51) from MI_s hI 51).1; have := (show iv 0 8 (sg 51) from MI_s hI 51).2; have := (hsx1_127).1; have := (hsx1_127).2; have := (h63).1; have := (h63).2; have := (hx5_127).1; have := (hx5_127).2; have := (hx4_127).1; have := (hx4_127).2; have := (hx3_127).1; have := (hx3_127).2; have := (hx2_127).1; have := (hx2_127).2; have := (h_71).1; have := (h_71).2; omega))⟩, by rw [ht]; exact hP, va_K.moved hW.alike hK, hD⟩, hS.F ht⟩) hS.2.2 dX13_makeObject_134
  have hj112 : ∀ (sg_j112 : Nat → Int32) (gm_j112 : Nat → Nat → Int32) (x5_112 : Int32) (x4_112 : Int32) (x3_112 : Int32) (x2_112 : Int32) (_ : iv (-1) 31 x5_112) (_ : iv (-1) 7 x4_112) (_ : iv 0 1 x3_112) (_ : iv 0 79 x2_112) (_ : iv 0 79 b) (_ : KS [51, 52] sg sg_j112) (_ : KS [75] gm gm_j112) (_ : MI sg_j112 gm_j112) (_ : 1 ≤ (sg_j112 51).toInt ∨ ¬ x5_112 = -1) (_ : x2_112.toNatClampNeg = TOPn sg) (_ : x5_112 = -1 ∨ CHO sg gm lg b x3_112 x4_112 x5_112) (H : Heap) (locs : List Loc) (ls : Array Slot), va_P (dC, dI) vwCl (mW h0 ad cid sg_j112 gm_j112 lg) H → va_D A (mW h0 ad cid sg_j112 gm_j112 lg) → va_S A s.heap H locs → lv_has ls 9 [(5, .int x5_112), (4, .int x4_112), (3, .int x3_112), (2, .int x2_112), (0, .ref h0), (1, .int b)] → W p l e (headSpec wm_X13_makeObject ({ frames := 9, cells := 0, slots := 0, locals := 226 })).room s m ([.ref h0, .int b] : List Value).toArray below meth c H locs 0 0 (MQ below (va_Qv (fun v => ∃ (sg2 : Nat → Int32) (gm2 : Nat → Nat → Int32) (lg2 : Nat → Nat → Int64), v = (sg2, gm2, lg2) ∧ MI sg2 gm2 ∧ KS [48, 49, 51, 52] sg sg2 ∧ KS [53, 54, 55, 56, 57, 58, 60, 69, 75] gm gm2 ∧ KS [] lg lg2 ∧ (GI0 sg2 gm2 lg2) ∧ (1 ≤ (sg2 51).toInt ∨ MKO sg gm lg b gm2)) (MB dC dI h0 ad cid A) A) ([.ref h0, .int b] : List Value).toArray s 0 0 A) (F0 m 112 ls []) := by
    intro sg_j112 gm_j112 x5_112 x4_112 x3_112 x2_112 hx5_112 hx4_112 hx3_112 hx2_112 hsx1_112 hks_j112 hkg_j112 hI_j112 h5f htop hch H locs ls hP hD hS hl
    refine lv_aload_n hx hb dX13_makeObject_112 rfl (lv_at hl 4 rfl) ?_
    refine mr_get (v := .int (sg_j112 48)) hx hb htb inX13 hown hK hP 48 (by decide) (htb _ kw_819) rfl dX13_makeObject_113 ?_
    refine lv_topi (fun z_72 ez_72 => ?_)
    obtain rfl : (sg 48) = z_72 := (ez_72.trans (hks_j112 48 (by decide))).symm
    refine lv_bipush (v := 60) hx hb dX13_makeObject_116 (by decide) ?_
    refine lv_icmp_ne (tgt := 127) hx hb dX13_makeObject_118 (by decide) (fun c_73 => ?_) (fun c_73 => ?_)
    · have h_74 : iv 0 59 (sg 48) := iv_neH c_73 (show iv 0 60 (sg 48) from MI_s hI 48) (by decide)
      exact hj127 sg_j112 gm_j112 x5_112 x4_112 x3_112 x2_112 hx5_112 hx4_112 hx3_112 hx2_112 hsx1_112 (KS_tr (L := [51, 52]) KS_rf hks_j112 (by decide)) (KS_tr (L := [75]) KS_rf hkg_j112 (by decide)) hI_j112 (h5f) (Or.inr (by have := i32_0; have := i32_1; have := i32_2; have := i32_m1; have := congrArg Int32.toInt (show sg_j112 48 = sg 48 from hks_j112 48 (by decide)); have := (show iv 0 60 (sg 48) from MI_s hI 48).1; have := (show iv 0 60 (sg 48) from MI_s hI 48).2; have := (hsx1_112).1; have := (hsx1_112).2; have := (h63).1; have := (h63).2; have := (hx5_112).1; have := (hx5_112).2; have := (hx4_112).1; have := (hx4_112).2; have := (hx3_112).1; have := (hx3_112).2; have := (hx2_112).1; have := (hx2_112).2; have := (h_74).1; have := (h_74).2; omega)) (htop) (hch) _ _ _ hP hD hS (lv_sub hl [0, 1, 2, 3, 4, 5] rfl)
    · have h_75 : iv 60 60 (sg 48) := iv_eq c_73 (show iv 0 60 (sg 48) from MI_s hI 48) (iv_k (by decide) : iv 60 60 60) (by decide)
      refine lv_aload_n hx hb dX13_makeObject_121 rfl (lv_at hl 4 rfl) ?_
      refine lv_bipush (v := 6) hx hb dX13_makeObject_122 (by decide) ?_
      refine mr_callv (rest := []) ⟨hx, hb, hml, hown, htb⟩ (f_fails l dC dI h0 ad cid sg_j112 gm_j112 lg 6 hI_j112 (iv_w (iv_k (by decide) : iv 6 6 6) (by decide))) (cwV 1 htb (gd_V kw_1165 kw_1166 kw_1167 kw_5 kw_1605) rfl rfl rfl (by decide +kernel) ⟨Nat.le_of_ble_eq_true rfl, Nat.le_of_ble_eq_true rfl⟩) rfl hl.1 rfl (Nat.le_of_ble_eq_true rfl) dX13_makeObject_124 ⟨Nat.zero_le _, Nat.zero_le _⟩ hK hP hD hS hA (fun u_77 H locs hw hP hD hS => ?_)
      obtain ⟨sgv_78, gmv_78, lgv_78, rfl, hIv_78, ksv_78, kgv_78, klv_78, fFl_r_76⟩ := hw
      obtain rfl := KS_nil kgv_78
      obtain rfl := KS_nil klv_78
      have hP : va_P (dC, dI) vwCl (mW h0 ad cid sgv_78 gm_j112 lg) H := hP
      have hD : va_D A (mW h0 ad cid sgv_78 gm_j112 lg) := hD
      exact hj127 sgv_78 gm_j112 x5_112 x4_112 x3_112 x2_112 hx5_112 hx4_112 hx3_112 hx2_112 hsx1_112 (KS_tr (L := [51, 52]) (KS_tr (L := [51, 52]) KS_rf hks_j112 (by decide)) ksv_78 (by decide)) (KS_tr (L := [75]) KS_rf hkg_j112 (by decide)) hIv_78 (Or.inl (by have := i32_0; have := i32_1; have := i32_2; have := i32_m1; have := (show iv 0 8 (sgv_78 51) from MI_s hIv_78 51).1; have := (show iv 0 8 (sgv_78 51) from MI_s hIv_78 51).2; have := (show iv 0 8 (sg_j112 51) from MI_s hI_j112 51).1; have := (show iv 0 8 (sg_j112 51) from MI_s hI_j112 51).2; have := (show iv 0 8 (sg 51) from MI_s hI 51).1; have := (show iv 0 8 (sg 51) from MI_s hI 51).2; have := (hsx1_112).1; have := (hsx1_112).2; have := (h63).1; have := (h63).2; have := (hx5_112).1; have := (hx5_112).2; have := (hx4_112).1; have := (hx4_112).2; have := (hx3_112).1; have := (hx3_112).2; have := (hx2_112).1; have := (hx2_112).2; have := (h_75).1; have := (h_75).2; omega)) (Or.inl (by have := i32_0; have := i32_1; have := i32_2; have := i32_m1; have := (show iv 0 8 (sgv_78 51) from MI_s hIv_78 51).1; have := (show iv 0 8 (sgv_78 51) from MI_s hIv_78 51).2; have := (show iv 0 8 (sg_j112 51) from MI_s hI_j112 51).1; have := (show iv 0 8 (sg_j112 51) from MI_s hI_j112 51).2; have := (show iv 0 8 (sg 51) from MI_s hI 51).1; have := (show iv 0 8 (sg 51) from MI_s hI 51).2; have := (hsx1_112).1; have := (hsx1_112).2; have := (h63).1; have := (h63).2; have := (hx5_112).1; have := (hx5_112).2; have := (hx4_112).1; have := (hx4_112).2; have := (hx3_112).1; have := (hx3_112).2; have := (hx2_112).1; have := (hx2_112).2; have := (h_75).1; have := (h_75).2; omega)) (htop) (hch) _ _ _ hP hD hS (lv_sub hl [0, 1, 2, 3, 4, 5] rfl)
  have hj91 : ∀ (x4_91 : Int32) (x3_91 : Int32) (x2_91 : Int32) (_ : iv (-1) 7 x4_91) (_ : iv 0 1 x3_91) (_ : iv 0 79 x2_91) (_ : iv 0 79 b) (_ : x2_91.toNatClampNeg = TOPn sg) (H : Heap) (locs : List Loc) (ls : Array Slot), va_P (dC, dI) vwCl (mW h0 ad cid sg gm lg) H → va_D A (mW h0 ad cid sg gm lg) → va_S A s.heap H locs → lv_has ls 9 [(4, .int x4_91), (3, .int x3_91), (2, .int x2_91), (0, .ref h0), (1, .int b)] → W p l e (headSpec wm_X13_makeObject ({ frames := 9, cells := 0, slots := 0, locals := 226 })).room s m ([.ref h0, .int b] : List Value).toArray below meth c H locs 0 0 (MQ below (va_Qv (fun v => ∃ (sg2 : Nat → Int32) (gm2 : Nat → Nat → Int32) (lg2 : Nat → Nat → Int64), v = (sg2, gm2, lg2) ∧ MI sg2 gm2 ∧ KS [48, 49, 51, 52] sg sg2 ∧ KS [53, 54, 55, 56, 57, 58, 60, 69, 75] gm gm2 ∧ KS [] lg lg2 ∧ (GI0 sg2 gm2 lg2) ∧ (1 ≤ (sg2 51).toInt ∨ MKO sg gm lg b gm2)) (MB dC dI h0 ad cid A) A) ([.ref h0, .int b] : List Value).toArray s 0 0 A) (F0 m 91 ls []) := by
    intro x4_91 x3_91 x2_91 hx4_91 hx3_91 hx2_91 hsx1_91 htop H locs ls hP hD hS hl
    refine lv_aload_n hx hb dX13_makeObject_91 rfl (lv_at hl 3 rfl) ?_
    refine lv_iload_n hx hb dX13_makeObject_92 rfl (lv_at hl 4 rfl) ?_
    refine lv_iload_n hx hb dX13_makeObject_93 rfl (lv_at hl 1 rfl) ?_
    refine lv_iload hx hb dX13_makeObject_94 (lv_at hl 0 rfl) ?_
    refine mr_calli (rest := []) ⟨hx, hb, hml, hown, htb⟩ (f_chosen l dC dI h0 ad cid sg gm lg b x3_91 x4_91 hI hsx1_91 hx3_91 hx4_91 (by have := i32_0; have := i32_1; have := i32_2; have := i32_m1; have := (show iv 0 80 (sg 41) from MI_s hI 41).1; have := (show iv 0 80 (sg 41) from MI_s hI 41).2; have := (hsx1_91).1; have := (hsx1_91).2; have := (h63).1; have := (h63).2; have := (hx4_91).1; have := (hx4_91).2; have := (hx3_91).1; have := (hx3_91).2; have := (hx2_91).1; have := (hx2_91).2; omega) (hdoc.1.2.2.2) (hdoc.1.2.1) hPR (hgi.1) (by have := i32_0; have := i32_1; have := i32_2; have := i32_m1; have := (show iv 0 80 (sg 63) from MI_s hI 63).1; have := (show iv 0 80 (sg 63) from MI_s hI 63).2; have := (hsx1_91).1; have := (hsx1_91).2; have := (h63).1; have := (h63).2; have := (hx4_91).1; have := (hx4_91).2; have := (hx3_91).1; have := (hx3_91).2; have := (hx2_91).1; have := (hx2_91).2; omega)) (cwV 3 htb (gd_V kw_1216 kw_1217 kw_1218 kw_5 kw_1622) rfl rfl rfl (by decide +kernel) ⟨Nat.le_of_ble_eq_true rfl, Nat.le_of_ble_eq_true rfl⟩) rfl hl.1 rfl (Nat.le_of_ble_eq_true rfl) dX13_makeObject_96 ⟨Nat.zero_le _, Nat.zero_le _⟩ hK hP hD hS hA (fun r_79 u_80 H locs hw hP hD hS => ?_)
    obtain ⟨sgv_81, gmv_81, lgv_81, rfl, hIv_81, ksv_81, kgv_81, klv_81, hr_79, fCh_r_79⟩ := hw
    obtain rfl := KS_nil ksv_81
    obtain rfl := KS_nil klv_81
    have hP : va_P (dC, dI) vwCl (mW h0 ad cid sg gmv_81 lg) H := hP
    have hD : va_D A (mW h0 ad cid sg gmv_81 lg) := hD
    refine lv_istore (lv' := [(5, .int r_79), (4, .int x4_91), (3, .int x3_91), (2, .int x2_91), (0, .ref h0), (1, .int b)]) hx hb dX13_makeObject_99 hl (by decide) rfl (fun ls hl => ?_)
    refine lv_iload hx hb dX13_makeObject_101 (lv_at hl 0 rfl) ?_
    refine lv_iconst (v := (-1)) hx hb dX13_makeObject_103 (by decide) ?_
    refine lv_icmp_ne (tgt := 112) hx hb dX13_makeObject_104 (by decide) (fun c_82 => ?_) (fun c_82 => ?_)
    · have h_83 : iv 0 31 r_79 := iv_neL c_82 hr_79 (by decide)
      exact hj112 sg gmv_81 r_79 x4_91 x3_91 x2_91 (iv_w h_83 (by decide)) hx4_91 hx3_91 hx2_91 hsx1_91 KS_rf (KS_tr (L := [75]) KS_rf kgv_81 (by decide)) hIv_81 (Or.inr c_82) (htop) (fCh_r_79) _ _ _ hP hD hS (lv_sub hl [0, 1, 2, 3, 4, 5] rfl)
    · have h_84 : iv (-1) (-1) r_79 := iv_eq c_82 hr_79 (iv_k (by decide) : iv (-1) (-1) (-1)) (by decide)
      refine lv_aload_n hx hb dX13_makeObject_107 rfl (lv_at hl 4 rfl) ?_
      refine lv_iconst (v := 5) hx hb dX13_makeObject_108 (by decide) ?_
      refine mr_callv (rest := []) ⟨hx, hb, hml, hown, htb⟩ (f_fails l dC dI h0 ad cid sg gmv_81 lg 5 hIv_81 (iv_w (iv_k (by decide) : iv 5 5 5) (by decide))) (cwV 1 htb (gd_V kw_1165 kw_1166 kw_1167 kw_5 kw_1605) rfl rfl rfl (by decide +kernel) ⟨Nat.le_of_ble_eq_true rfl, Nat.le_of_ble_eq_true rfl⟩) rfl hl.1 rfl (Nat.le_of_ble_eq_true rfl) dX13_makeObject_109 ⟨Nat.zero_le _, Nat.zero_le _⟩ hK hP hD hS hA (fun u_86 H locs hw hP hD hS => ?_)
      obtain ⟨sgv_87, gmv_87, lgv_87, rfl, hIv_87, ksv_87, kgv_87, klv_87, fFl_r_85⟩ := hw
      obtain rfl := KS_nil kgv_87
      obtain rfl := KS_nil klv_87
      have hP : va_P (dC, dI) vwCl (mW h0 ad cid sgv_87 gmv_81 lg) H := hP
      have hD : va_D A (mW h0 ad cid sgv_87 gmv_81 lg) := hD
      exact hj112 sgv_87 gmv_81 r_79 x4_91 x3_91 x2_91 (iv_w h_84 (by decide)) hx4_91 hx3_91 hx2_91 hsx1_91 (KS_tr (L := [51, 52]) KS_rf ksv_87 (by decide)) (KS_tr (L := [75]) KS_rf kgv_81 (by decide)) hIv_87 (Or.inl (by have := i32_0; have := i32_1; have := i32_2; have := i32_m1; have := (show iv 0 8 (sgv_87 51) from MI_s hIv_87 51).1; have := (show iv 0 8 (sgv_87 51) from MI_s hIv_87 51).2; have := (show iv 0 8 (sg 51) from MI_s hI 51).1; have := (show iv 0 8 (sg 51) from MI_s hI 51).2; have := (hsx1_91).1; have := (hsx1_91).2; have := (h63).1; have := (h63).2; have := (hx4_91).1; have := (hx4_91).2; have := (hx3_91).1; have := (hx3_91).2; have := (hx2_91).1; have := (hx2_91).2; have := (h_84).1; have := (h_84).2; omega)) (htop) (fCh_r_79) _ _ _ hP hD hS (lv_sub hl [0, 1, 2, 3, 4, 5] rfl)
  have hj86 : ∀ (x4_86 : Int32) (x3_86 : Int32) (x2_86 : Int32) (y0_86 : Int32) (y1_86 : Int32) (y2_86 : Int32) (_ : iv (-1) 7 x4_86) (_ : iv 0 0 x3_86) (_ : iv 0 79 x2_86) (_ : iv 0 79 b) (_ : iv 0 1 y0_86) (_ : iv (-1) 7 y2_86) (_ : x2_86.toNatClampNeg = TOPn sg) (H : Heap) (locs : List Loc) (ls : Array Slot), va_P (dC, dI) vwCl (mW h0 ad cid sg gm lg) H → va_D A (mW h0 ad cid sg gm lg) → va_S A s.heap H locs → lv_has ls 9 [(4, .int x4_86), (3, .int x3_86), (2, .int x2_86), (0, .ref h0), (1, .int b)] → W p l e (headSpec wm_X13_makeObject ({ frames := 9, cells := 0, slots := 0, locals := 226 })).room s m ([.ref h0, .int b] : List Value).toArray below meth c H locs 0 0 (MQ below (va_Qv (fun v => ∃ (sg2 : Nat → Int32) (gm2 : Nat → Nat → Int32) (lg2 : Nat → Nat → Int64), v = (sg2, gm2, lg2) ∧ MI sg2 gm2 ∧ KS [48, 49, 51, 52] sg sg2 ∧ KS [53, 54, 55, 56, 57, 58, 60, 69, 75] gm gm2 ∧ KS [] lg lg2 ∧ (GI0 sg2 gm2 lg2) ∧ (1 ≤ (sg2 51).toInt ∨ MKO sg gm lg b gm2)) (MB dC dI h0 ad cid A) A) ([.ref h0, .int b] : List Value).toArray s 0 0 A) (F0 m 86 ls [.int y0_86, .int y1_86, .int y2_86, .ref h0]) := by
    intro x4_86 x3_86 x2_86 y0_86 y1_86 y2_86 hx4_86 hx3_86 hx2_86 hsx1_86 hy0_86 hy2_86 htop H locs ls hP hD hS hl
    refine mr_calli (rest := []) ⟨hx, hb, hml, hown, htb⟩ (a_classWithFactory l dC dI h0 ad cid sg gm lg y2_86 y1_86 y0_86 hI hy2_86 hy0_86 hPR) (cwV 3 htb (gd_V kw_1210 kw_1211 kw_1212 kw_5 kw_1620) rfl rfl rfl (by decide +kernel) ⟨Nat.le_of_ble_eq_true rfl, Nat.le_of_ble_eq_true rfl⟩) rfl hl.1 rfl (Nat.le_of_ble_eq_true rfl) dX13_makeObject_86 ⟨Nat.zero_le _, Nat.zero_le _⟩ hK hP hD hS hA (fun r_88 u_89 H locs hw hP hD hS => ?_)
    obtain ⟨hr_88, rfl⟩ := hw
    have hP : va_P (dC, dI) vwCl (mW h0 ad cid sg gm lg) H := hP
    have hD : va_D A (mW h0 ad cid sg gm lg) := hD
    refine lv_istore (lv' := [(4, .int r_88), (3, .int x3_86), (2, .int x2_86), (0, .ref h0), (1, .int b)]) hx hb dX13_makeObject_89 hl (by decide) rfl (fun ls hl => ?_)
    exact hj91 r_88 x3_86 x2_86 hr_88 (iv_w hx3_86 (by decide)) hx2_86 hsx1_86 (htop) _ _ _ hP hD hS (lv_sub hl [0, 1, 2, 3, 4] rfl)
  have hj54 : ∀ (x3_54 : Int32) (x2_54 : Int32) (y0_54 : Int32) (_ : iv 0 1 x3_54) (_ : iv 0 79 x2_54) (_ : iv 0 79 b) (_ : iv (-1) 7 y0_54) (_ : x2_54.toNatClampNeg = TOPn sg) (H : Heap) (locs : List Loc) (ls : Array Slot), va_P (dC, dI) vwCl (mW h0 ad cid sg gm lg) H → va_D A (mW h0 ad cid sg gm lg) → va_S A s.heap H locs → lv_has ls 9 [(3, .int x3_54), (2, .int x2_54), (0, .ref h0), (1, .int b)] → W p l e (headSpec wm_X13_makeObject ({ frames := 9, cells := 0, slots := 0, locals := 226 })).room s m ([.ref h0, .int b] : List Value).toArray below meth c H locs 0 0 (MQ below (va_Qv (fun v => ∃ (sg2 : Nat → Int32) (gm2 : Nat → Nat → Int32) (lg2 : Nat → Nat → Int64), v = (sg2, gm2, lg2) ∧ MI sg2 gm2 ∧ KS [48, 49, 51, 52] sg sg2 ∧ KS [53, 54, 55, 56, 57, 58, 60, 69, 75] gm gm2 ∧ KS [] lg lg2 ∧ (GI0 sg2 gm2 lg2) ∧ (1 ≤ (sg2 51).toInt ∨ MKO sg gm lg b gm2)) (MB dC dI h0 ad cid A) A) ([.ref h0, .int b] : List Value).toArray s 0 0 A) (F0 m 54 ls [.int y0_54]) := by
    intro x3_54 x2_54 y0_54 hx3_54 hx2_54 hsx1_54 hy0_54 htop H locs ls hP hD hS hl
    refine lv_istore (lv' := [(4, .int y0_54), (3, .int x3_54), (2, .int x2_54), (0, .ref h0), (1, .int b)]) hx hb dX13_makeObject_54 hl (by decide) rfl (fun ls hl => ?_)
    refine lv_iload_n hx hb dX13_makeObject_56 rfl (lv_at hl 1 rfl) ?_
    refine lv_if_ne (tgt := 91) hx hb dX13_makeObject_57 (by decide) (fun c_90 => ?_) (fun c_90 => ?_)
    · have h_91 : iv 1 1 x3_54 := iv_neL c_90 hx3_54 (by decide)
      exact hj91 y0_54 x3_54 x2_54 hy0_54 (iv_w h_91 (by decide)) hx2_54 hsx1_54 (htop) _ _ _ hP hD hS (lv_sub hl [0, 1, 2, 3, 4] rfl)
    · have h_92 : iv 0 0 x3_54 := iv_eq c_90 hx3_54 (iv_k (by decide) : iv 0 0 0) (by decide)
      refine lv_aload_n hx hb dX13_makeObject_60 rfl (lv_at hl 3 rfl) ?_
      refine lv_iload hx hb dX13_makeObject_61 (lv_at hl 0 rfl) ?_
      refine lv_aload_n hx hb dX13_makeObject_63 rfl (lv_at hl 3 rfl) ?_
      refine lv_iload_n hx hb dX13_makeObject_64 rfl (lv_at hl 4 rfl) ?_
      refine lv_ldc2 (own := RX13) (v := 120282512125796) hx hb hown (htb _ kw_906) dX13_makeObject_65 ?_
      refine mr_calli (rest := [.int y0_54, .ref h0]) ⟨hx, hb, hml, hown, htb⟩ (a_letter l dC dI h0 ad cid sg gm lg b 120282512125796 hI (iv_w hsx1_54 (by decide)) (by have := i32_0; have := i32_1; have := i32_2; have := i32_m1; have := (show iv 0 80 (sg 41) from MI_s hI 41).1; have := (show iv 0 80 (sg 41) from MI_s hI 41).2; have := (hsx1_54).1; have := (hsx1_54).2; have := (h63).1; have := (h63).2; have := (h_92).1; have := (h_92).2; have := (hx2_54).1; have := (hx2_54).2; have := (hy0_54).1; have := (hy0_54).2; omega) (hdoc.1.2.2.2)) (cwV 2 htb (gd_V kw_1204 kw_1205 kw_1206 kw_5 kw_1618) rfl rfl rfl (by decide +kernel) ⟨Nat.le_of_ble_eq_true rfl, Nat.le_of_ble_eq_true rfl⟩) rfl hl.1 rfl (Nat.le_of_ble_eq_true rfl) dX13_makeObject_68 ⟨Nat.zero_le _, Nat.zero_le _⟩ hK hP hD hS hA (fun r_93 u_94 H locs hw hP hD hS => ?_)
      obtain rfl := hw
      have hP : va_P (dC, dI) vwCl (mW h0 ad cid sg gm lg) H := hP
      have hD : va_D A (mW h0 ad cid sg gm lg) := hD
      refine lv_aload_n hx hb dX13_makeObject_71 rfl (lv_at hl 3 rfl) ?_
      refine mr_get (v := .ref (ad 68)) hx hb htb inX13 hown hK hP 68 (by decide) (htb _ kw_217) rfl dX13_makeObject_72 ?_
      refine lv_iload_n hx hb dX13_makeObject_75 rfl (lv_at hl 2 rfl) ?_
      refine mr_iald hx hb hK hP 53 (k := 68) rfl rfl rfl (show vp_in x2_54 81 from (iv_in hx2_54 (by decide))) dX13_makeObject_76 ?_
      refine lv_topi (fun z_95 ez_95 => ?_)
      have hz_95 : iv (-1) 59 z_95 := iv_of ez_95 (MI_a hI 68 hx2_54 (by decide))
      refine lv_iconst (v := (-1)) hx hb dX13_makeObject_77 (by decide) ?_
      refine lv_icmp_ne (tgt := 85) hx hb dX13_makeObject_78 (by decide) (fun c_96 => ?_) (fun c_96 => ?_)
      · have h_97 : iv 0 59 z_95 := iv_neL c_96 hz_95 (by decide)
        refine lv_iconst (v := 0) hx hb dX13_makeObject_85 (by decide) ?_
        exact hj86 y0_54 x3_54 x2_54 0 r_93 y0_54 hy0_54 h_92 hx2_54 hsx1_54 (iv_w (iv_k (by decide) : iv 0 0 0) (by decide)) hy0_54 (htop) _ _ _ hP hD hS (lv_sub hl [0, 1, 2, 3, 4] rfl)
      · have h_98 : iv (-1) (-1) z_95 := iv_eq c_96 hz_95 (iv_k (by decide) : iv (-1) (-1) (-1)) (by decide)
        refine lv_iconst (v := 1) hx hb dX13_makeObject_81 (by decide) ?_
        refine lv_goto (tgt := 86) hx hb dX13_makeObject_82 (by decide) ?_
        exact hj86 y0_54 x3_54 x2_54 1 r_93 y0_54 hy0_54 h_92 hx2_54 hsx1_54 (iv_w (iv_k (by decide) : iv 1 1 1) (by decide)) hy0_54 (htop) _ _ _ hP hD hS (lv_sub hl [0, 1, 2, 3, 4] rfl)
  have hj24 : ∀ (x2_24 : Int32) (y0_24 : Int32) (_ : iv 0 79 x2_24) (_ : iv 0 79 b) (_ : iv 0 1 y0_24) (_ : x2_24.toNatClampNeg = TOPn sg) (H : Heap) (locs : List Loc) (ls : Array Slot), va_P (dC, dI) vwCl (mW h0 ad cid sg gm lg) H → va_D A (mW h0 ad cid sg gm lg) → va_S A s.heap H locs → lv_has ls 9 [(2, .int x2_24), (0, .ref h0), (1, .int b)] → W p l e (headSpec wm_X13_makeObject ({ frames := 9, cells := 0, slots := 0, locals := 226 })).room s m ([.ref h0, .int b] : List Value).toArray below meth c H locs 0 0 (MQ below (va_Qv (fun v => ∃ (sg2 : Nat → Int32) (gm2 : Nat → Nat → Int32) (lg2 : Nat → Nat → Int64), v = (sg2, gm2, lg2) ∧ MI sg2 gm2 ∧ KS [48, 49, 51, 52] sg sg2 ∧ KS [53, 54, 55, 56, 57, 58, 60, 69, 75] gm gm2 ∧ KS [] lg lg2 ∧ (GI0 sg2 gm2 lg2) ∧ (1 ≤ (sg2 51).toInt ∨ MKO sg gm lg b gm2)) (MB dC dI h0 ad cid A) A) ([.ref h0, .int b] : List Value).toArray s 0 0 A) (F0 m 24 ls [.int y0_24]) := by
    intro x2_24 y0_24 hx2_24 hsx1_24 hy0_24 htop H locs ls hP hD hS hl
    refine lv_istore_n (lv' := [(3, .int y0_24), (2, .int x2_24), (0, .ref h0), (1, .int b)]) hx hb dX13_makeObject_24 rfl hl (by decide) rfl (fun ls hl => ?_)
    refine lv_aload_n hx hb dX13_makeObject_25 rfl (lv_at hl 2 rfl) ?_
    refine mr_get (v := .ref (ad 68)) hx hb htb inX13 hown hK hP 68 (by decide) (htb _ kw_217) rfl dX13_makeObject_26 ?_
    refine lv_iload_n hx hb dX13_makeObject_29 rfl (lv_at hl 1 rfl) ?_
    refine mr_iald hx hb hK hP 53 (k := 68) rfl rfl rfl (show vp_in x2_24 81 from (iv_in hx2_24 (by decide))) dX13_makeObject_30 ?_
    refine lv_topi (fun z_99 ez_99 => ?_)
    have hz_99 : iv (-1) 59 z_99 := iv_of ez_99 (MI_a hI 68 hx2_24 (by decide))
    refine lv_iconst (v := (-1)) hx hb dX13_makeObject_31 (by decide) ?_
    refine lv_icmp_eq (tgt := 49) hx hb dX13_makeObject_32 (by decide) (fun c_100 => ?_) (fun c_100 => ?_)
    · have h_101 : iv (-1) (-1) z_99 := iv_eq c_100 hz_99 (iv_k (by decide) : iv (-1) (-1) (-1)) (by decide)
      refine lv_aload_n hx hb dX13_makeObject_49 rfl (lv_at hl 2 rfl) ?_
      refine lv_iload_n hx hb dX13_makeObject_50 rfl (lv_at hl 3 rfl) ?_
      refine mr_calli (rest := []) ⟨hx, hb, hml, hown, htb⟩ (a_classOf l dC dI h0 ad cid sg gm lg b hI (iv_w hsx1_24 (by decide)) (by have := i32_0; have := i32_1; have := i32_2; have := i32_m1; have := (show iv 0 80 (sg 41) from MI_s hI 41).1; have := (show iv 0 80 (sg 41) from MI_s hI 41).2; have := (hsx1_24).1; have := (hsx1_24).2; have := (h63).1; have := (h63).2; have := (hx2_24).1; have := (hx2_24).2; have := (hy0_24).1; have := (hy0_24).2; have := (h_101).1; have := (h_101).2; omega) (hdoc.1.2.2.2)) (cwV 1 htb (gd_V kw_1207 kw_1208 kw_1209 kw_5 kw_1619) rfl rfl rfl (by decide +kernel) ⟨Nat.le_of_ble_eq_true rfl, Nat.le_of_ble_eq_true rfl⟩) rfl hl.1 rfl (Nat.le_of_ble_eq_true rfl) dX13_makeObject_51 ⟨Nat.zero_le _, Nat.zero_le _⟩ hK hP hD hS hA (fun r_102 u_103 H locs hw hP hD hS => ?_)
      obtain ⟨hr_102, rfl⟩ := hw
      have hP : va_P (dC, dI) vwCl (mW h0 ad cid sg gm lg) H := hP
      have hD : va_D A (mW h0 ad cid sg gm lg) := hD
      exact hj54 y0_24 x2_24 r_102 hy0_24 hx2_24 hsx1_24 hr_102 (htop) _ _ _ hP hD hS (lv_sub hl [0, 1, 2, 3] rfl)
    · have h_104 : iv 0 59 z_99 := iv_neL c_100 hz_99 (by decide)
      refine lv_aload_n hx hb dX13_makeObject_35 rfl (lv_at hl 2 rfl) ?_
      refine mr_get (v := .ref (ad 53)) hx hb htb inX13 hown hK hP 53 (by decide) (htb _ kw_203) rfl dX13_makeObject_36 ?_
      refine lv_aload_n hx hb dX13_makeObject_39 rfl (lv_at hl 2 rfl) ?_
      refine mr_get (v := .ref (ad 68)) hx hb htb inX13 hown hK hP 68 (by decide) (htb _ kw_217) rfl dX13_makeObject_40 ?_
      refine lv_iload_n hx hb dX13_makeObject_43 rfl (lv_at hl 1 rfl) ?_
      refine mr_iald hx hb hK hP 53 (k := 68) rfl rfl rfl (show vp_in x2_24 81 from (iv_in hx2_24 (by decide))) dX13_makeObject_44 ?_
      refine lv_topi (fun z_105 ez_105 => ?_)
      obtain rfl : z_99 = z_105 := ez_99.trans ez_105.symm
      refine mr_iald hx hb hK hP 39 (k := 53) rfl rfl rfl (show vp_in z_99 60 from (iv_in h_104 (by decide))) dX13_makeObject_45 ?_
      refine lv_topi (fun z_106 ez_106 => ?_)
      have hz_106 : iv 0 7 z_106 := iv_of ez_106 (MI_a hI 53 h_104 (by decide))
      refine lv_goto (tgt := 54) hx hb dX13_makeObject_46 (by decide) ?_
      exact hj54 y0_24 x2_24 z_106 hy0_24 hx2_24 hsx1_24 (iv_w hz_106 (by decide)) (htop) _ _ _ hP hD hS (lv_sub hl [0, 1, 2, 3] rfl)
  refine lv_aload_n hx hb dX13_makeObject_0 rfl (lv_at hl 0 rfl) ?_
  refine mr_get (v := .int (sg 63)) hx hb htb inX13 hown hK hP 63 (by decide) (htb _ kw_1160) rfl dX13_makeObject_1 ?_
  refine lv_iconst (v := 1) hx hb dX13_makeObject_4 (by decide) ?_
  refine lv_isub hx hb dX13_makeObject_5 ?_
  refine lv_topi (fun z_107 ez_107 => ?_)
  have hz_107 : iv 0 79 z_107 := iv_of ez_107 (iv_sub h63 (iv_k (by decide) : iv 1 1 1) (by decide))
  have tz_107 : z_107.toInt = ((sg 63) : Int32).toInt - 1 := by rw [ez_107]; exact iv_subE h63 (iv_k (by decide) : iv 1 1 1) (by decide)
  refine lv_istore_n (lv' := [(2, .int z_107), (0, .ref h0), (1, .int b)]) hx hb dX13_makeObject_6 rfl hl (by decide) rfl (fun ls hl => ?_)
  have htop := top_n h63 tz_107
  refine lv_aload_n hx hb dX13_makeObject_7 rfl (lv_at hl 1 rfl) ?_
  refine lv_iload_n hx hb dX13_makeObject_8 rfl (lv_at hl 2 rfl) ?_
  refine lv_ldc2 (own := RX13) (v := 120282512125796) hx hb hown (htb _ kw_906) dX13_makeObject_9 ?_
  refine mr_calli (rest := []) ⟨hx, hb, hml, hown, htb⟩ (a_letter l dC dI h0 ad cid sg gm lg b 120282512125796 hI (iv_w hvb (by decide)) (by have := i32_0; have := i32_1; have := i32_2; have := i32_m1; have := (show iv 0 80 (sg 41) from MI_s hI 41).1; have := (show iv 0 80 (sg 41) from MI_s hI 41).2; have := (hvb).1; have := (hvb).2; have := (h63).1; have := (h63).2; have := (hz_107).1; have := (hz_107).2; omega) (hdoc.1.2.2.2)) (cwV 2 htb (gd_V kw_1204 kw_1205 kw_1206 kw_5 kw_1618) rfl rfl rfl (by decide +kernel) ⟨Nat.le_of_ble_eq_true rfl, Nat.le_of_ble_eq_true rfl⟩) rfl hl.1 rfl (Nat.le_of_ble_eq_true rfl) dX13_makeObject_12 ⟨Nat.zero_le _, Nat.zero_le _⟩ hK hP hD hS hA (fun r_108 u_109 H locs hw hP hD hS => ?_)
  obtain rfl := hw
  have hP : va_P (dC, dI) vwCl (mW h0 ad cid sg gm lg) H := hP
  have hD : va_D A (mW h0 ad cid sg gm lg) := hD
  refine lv_iconst (v := (-1)) hx hb dX13_makeObject_15 (by decide) ?_
  refine lv_icmp_ne (tgt := 23) hx hb dX13_makeObject_16 (by decide) (fun c_110 => ?_) (fun c_110 => ?_)
  · have d_111 : ¬ (r_108 : Int32).toInt = (-1) := lv_neT c_110 rfl
    refine lv_iconst (v := 0) hx hb dX13_makeObject_23 (by decide) ?_
    exact hj24 z_107 0 hz_107 hvb (iv_w (iv_k (by decide) : iv 0 0 0) (by decide)) (htop) _ _ _ hP hD hS (lv_sub hl [0, 1, 2] rfl)
  · have h_112 : iv (-1) (-1) r_108 := iv_eq c_110 (iv_all r_108) (iv_k (by decide) : iv (-1) (-1) (-1)) (by decide)
    refine lv_iconst (v := 1) hx hb dX13_makeObject_19 (by decide) ?_
    refine lv_goto (tgt := 24) hx hb dX13_makeObject_20 (by decide) ?_
    exact hj24 z_107 1 hz_107 hvb (iv_w (iv_k (by decide) : iv 1 1 1) (by decide)) (htop) _ _ _ hP hD hS (lv_sub hl [0, 1, 2] rfl)
