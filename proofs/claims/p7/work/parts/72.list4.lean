section LSM
variable {p : Program} {l : Launch} {e : Env} {R : Room} {s : State} {m : MethodId} {args : Array Value} {below : List Frame} {meth : Method} {c : Code} {H : Heap} {locs : List Loc} {cells slots : Nat} {Q : State → Prop} {cc : ByteArray} {pc : Nat} {ls : Array Slot} {rest : List Value} {A : Nat → Prop} {H0 : Heap}
variable {dC : Nat → ClassId} {dI : Nat → Nat → Nat} {ad : Nat → Nat → Nat} {cid : Nat → ClassId} {a2 : Nat → Nat} {lx : List Nat} {sg : Nat → Int32} {gm : Nat → Nat → Int32} {lg : Nat → Nat → Int64} {own : String} {index : Nat}
theorem cl_getM {h : Int} {x : Int32} (hexec : p.tables.exec = Jvm.exec) (hb : c.code = cc) (htb : ∀ w ∈ tb, w.before args s = true) (hown : s.vm.findClass own = some m.cls) (hK : va_K (dC, dI) vwCl (cT cid) s) (hP : va_P (dC, dI) vwCl (cW ad cid a2 lx sg gm lg) H) (hx : iv 0 h x) (hn : h < (cNum 11 : Int)) (hlink : (Cond.fieldLink own index "java/util/ArrayList" "modCount" "I").before args s = true) (hdg : decode cc pc = .ok (.getfield index, 3))
    (kk : W p l e R s m args below meth c H locs cells slots Q (F0 m (pc + 3) ls (.int (gm 40 x.toNatClampNeg) :: rest))) : W p l e R s m args below meth c H locs cells slots Q (F0 m pc ls (eV (ad 11) x :: rest)) := by
  obtain ⟨p9, hp⟩ := cPL_at (t := 11) (by decide) (cnx hx hn)
  rw [eV_ref hx.1]
  exact va_get (D := (dC, dI)) (ci := cIx 11) (C := RJx4a65c) (T := TJx4a65c) (N := 3) (ref := "java/util/ArrayList") hexec hb htb inJx4a65c hown hK hP p9 (by rw [cW_at hp, cE_o (by decide)]) rfl 0 (by decide) hlink (fun x9 h9 => u_same (htb _ kw_677) x9 h9) (by rw [cFs_get (by decide)]; rfl) hdg kk
theorem cl_putM {h : Int} {x y : Int32} (hexec : p.tables.exec = Jvm.exec) (hb : c.code = cc) (htb : ∀ w ∈ tb, w.before args s = true) (hown : s.vm.findClass own = some m.cls) (hK : va_K (dC, dI) vwCl (cT cid) s) (hP : va_P (dC, dI) vwCl (cW ad cid a2 lx sg gm lg) H) (hD : va_D A (cW ad cid a2 lx sg gm lg)) (hS : va_S A H0 H locs) (hx : iv 0 h x) (hn : h < (cNum 11 : Int)) (hlink : (Cond.fieldLink own index "java/util/ArrayList" "modCount" "I").before args s = true) (hdg : decode cc pc = .ok (.putfield index, 3))
    (kk : ∀ (gm1 : Nat → Nat → Int32) (H1 : Heap) (locs1 : List Loc), gm1 = va_up gm 40 (upd (gm 40) x.toNatClampNeg y) → va_P (dC, dI) vwCl (cW ad cid a2 lx sg gm1 lg) H1 → va_D A (cW ad cid a2 lx sg gm1 lg) → va_S A H0 H1 locs1 → W p l e R s m args below meth c H1 locs1 cells slots Q (F0 m (pc + 3) ls rest)) : W p l e R s m args below meth c H locs cells slots Q (F0 m pc ls (.int y :: eV (ad 11) x :: rest)) := by
  obtain ⟨p9, hp⟩ := cPL_at (t := 11) (by decide) (cnx hx hn)
  rw [eV_ref hx.1]
  have hv : Value.int y = cV ad a2 sg (va_up gm (cKy 11 0) (upd (gm (cKy 11 0)) x.toNatClampNeg y)) lg 11 0 x.toNatClampNeg := by
    show _ = Value.int (va_up gm 40 (upd (gm 40) x.toNatClampNeg y) 40 x.toNatClampNeg)
    rw [show va_up gm 40 (upd (gm 40) x.toNatClampNeg y) 40 = upd (gm 40) x.toNatClampNeg y from up_at rfl, upd_at]
  refine va_put (D := (dC, dI)) (ci := cIx 11) (v := .int y) (ty := tyJx4a65c 0) (C := RJx4a65c) (T := TJx4a65c) (N := 3) (ref := "java/util/ArrayList") hexec hb htb inJx4a65c tyJx4a65c tyJx4a65c_ok nmJx4a65c hown hK hP hD hS p9 (by rw [cW_at hp, cE_o (by decide)]) rfl 0 (by decide) hlink (fun x9 h9 => u_same (htb _ kw_677) x9 h9) rfl (tyJx4a65c_ok 0 (by decide)) rfl rfl (by rw [cFs_len]; decide) hdg (fun H1 locs1 g1 g2 g3 => kk _ H1 locs1 rfl ?_ ?_ g3)
  · rw [hv, cW_g hp (by decide) (by decide) (Or.inl rfl)] at g1; exact g1
  · rw [hv, cW_g hp (by decide) (by decide) (Or.inl rfl)] at g2; exact g2
end LSM
theorem iv_fl (x : Int32) : iv (-2147483648) 2147483647 x := ⟨x.le_toInt, by have := x.toInt_lt; omega⟩
theorem LDI_clr {lx : List Nat} {sg : Nat → Int32} {gm gm2 : Nat → Nat → Int32} {q : Nat} (hI : CI sg gm) (h : LDI lx gm) (h41 : gm2 41 = upd (gm 41) q 0) (h42 : gm2 42 = gm 42) (h57 : ∀ q2, q2 ≠ q → ∀ j9, j9 < 128 → gm2 57 (128 * q2 + j9) = gm 57 (128 * q2 + j9)) : LDI lx gm2 := fun q2 hq2 => by
  obtain ⟨b1, b2, b3⟩ := h q2 hq2
  have c42 := (show iv 0 127 (gm 42 q2) from CI_n hI 42 hq2)
  have c41 := (show iv 0 80 (gm 41 q2) from CI_n hI 41 hq2)
  rw [h41, h42]
  by_cases e9 : q2 = q
  · rw [e9, upd_at]
    rw [e9] at b2 c42
    refine ⟨c42.1, b2, fun j hj => absurd hj (Nat.not_lt_zero _)⟩
  · rw [upd_ne e9]
    refine ⟨b1, b2, fun j hj => ?_⟩
    have k := iv_cl c41 (by decide)
    have k2 := c41.2
    rw [h57 q2 e9 j (by omega)]
    exact b3 j hj

theorem dJx4a65c_clear_da8c8_0 : decode cJx4a65c_clear_da8c8 0 = .ok (.aload_n 0, 1) := by decide +kernel
theorem dJx4a65c_clear_da8c8_1 : decode cJx4a65c_clear_da8c8 1 = .ok (.dup, 1) := by decide +kernel
theorem dJx4a65c_clear_da8c8_2 : decode cJx4a65c_clear_da8c8 2 = .ok (.getfield 63, 3) := by decide +kernel
theorem dJx4a65c_clear_da8c8_5 : decode cJx4a65c_clear_da8c8 5 = .ok (.iconst 1, 1) := by decide +kernel
theorem dJx4a65c_clear_da8c8_6 : decode cJx4a65c_clear_da8c8 6 = .ok (.iadd, 1) := by decide +kernel
theorem dJx4a65c_clear_da8c8_7 : decode cJx4a65c_clear_da8c8 7 = .ok (.putfield 63, 3) := by decide +kernel
theorem dJx4a65c_clear_da8c8_10 : decode cJx4a65c_clear_da8c8 10 = .ok (.aload_n 0, 1) := by decide +kernel
theorem dJx4a65c_clear_da8c8_11 : decode cJx4a65c_clear_da8c8 11 = .ok (.getfield 9, 3) := by decide +kernel
theorem dJx4a65c_clear_da8c8_14 : decode cJx4a65c_clear_da8c8 14 = .ok (.astore_n 1, 1) := by decide +kernel
theorem dJx4a65c_clear_da8c8_15 : decode cJx4a65c_clear_da8c8 15 = .ok (.aload_n 0, 1) := by decide +kernel
theorem dJx4a65c_clear_da8c8_16 : decode cJx4a65c_clear_da8c8 16 = .ok (.getfield 48, 3) := by decide +kernel
theorem dJx4a65c_clear_da8c8_19 : decode cJx4a65c_clear_da8c8 19 = .ok (.istore_n 2, 1) := by decide +kernel
theorem dJx4a65c_clear_da8c8_20 : decode cJx4a65c_clear_da8c8 20 = .ok (.aload_n 0, 1) := by decide +kernel
theorem dJx4a65c_clear_da8c8_21 : decode cJx4a65c_clear_da8c8 21 = .ok (.iconst 0, 1) := by decide +kernel
theorem dJx4a65c_clear_da8c8_22 : decode cJx4a65c_clear_da8c8 22 = .ok (.dup_x1, 1) := by decide +kernel
theorem dJx4a65c_clear_da8c8_23 : decode cJx4a65c_clear_da8c8 23 = .ok (.putfield 48, 3) := by decide +kernel
theorem dJx4a65c_clear_da8c8_26 : decode cJx4a65c_clear_da8c8 26 = .ok (.istore_n 3, 1) := by decide +kernel
theorem dJx4a65c_clear_da8c8_27 : decode cJx4a65c_clear_da8c8 27 = .ok (.iload_n 3, 1) := by decide +kernel
theorem dJx4a65c_clear_da8c8_28 : decode cJx4a65c_clear_da8c8 28 = .ok (.iload_n 2, 1) := by decide +kernel
theorem dJx4a65c_clear_da8c8_29 : decode cJx4a65c_clear_da8c8 29 = .ok (.if_icmp .ge 13, 3) := by decide +kernel
theorem dJx4a65c_clear_da8c8_32 : decode cJx4a65c_clear_da8c8 32 = .ok (.aload_n 1, 1) := by decide +kernel
theorem dJx4a65c_clear_da8c8_33 : decode cJx4a65c_clear_da8c8 33 = .ok (.iload_n 3, 1) := by decide +kernel
theorem dJx4a65c_clear_da8c8_34 : decode cJx4a65c_clear_da8c8 34 = .ok (.aconst_null, 1) := by decide +kernel
theorem dJx4a65c_clear_da8c8_35 : decode cJx4a65c_clear_da8c8 35 = .ok (.aastore, 1) := by decide +kernel
theorem dJx4a65c_clear_da8c8_36 : decode cJx4a65c_clear_da8c8 36 = .ok (.iinc 3 1, 3) := by decide +kernel
theorem dJx4a65c_clear_da8c8_39 : decode cJx4a65c_clear_da8c8 39 = .ok (.goto (-12), 3) := by decide +kernel
theorem dJx4a65c_clear_da8c8_42 : decode cJx4a65c_clear_da8c8 42 = .ok (.return_, 1) := by decide +kernel

set_option maxHeartbeats 4000000 in
set_option maxRecDepth 100000 in
theorem d_lclear (l : Launch) (dC : Nat → ClassId) (dI : Nat → Nat → Nat) (ad : Nat → Nat → Nat) (cid : Nat → ClassId) (a2 : Nat → Nat) (lx : List Nat) (sg : Nat → Int32) (gm : Nat → Nat → Int32) (lg : Nat → Nat → Int64) (x : Int32) (hI : CI sg gm) (hvx : iv 0 239 x) (hLD : LDI lx gm) : CMt dC dI ad cid a2 lx l yJx4a65c_clear_da8c8 wm_Jx4a65c_clear_da8c8 ({ frames := 0, cells := 1, slots := 6, locals := 0 }) [eV (ad 11) x] sg gm lg (fun v u => v = none ∧ ∃ (sg2 : Nat → Int32) (gm2 : Nat → Nat → Int32) (lg2 : Nat → Nat → Int64), u = (sg2, gm2, lg2) ∧ CI sg2 gm2 ∧ KS [] sg sg2 ∧ KS [40, 41, 57] gm gm2 ∧ KS [] lg lg2 ∧ (gm2 41 = upd (gm 41) x.toNatClampNeg 0) ∧ (∀ q2, q2 ≠ x.toNatClampNeg → ∀ j9, j9 < 128 → gm2 57 (128 * q2 + j9) = gm 57 (128 * q2 + j9)) ∧ (LDI lx gm2)) (fun _ _ => False) := by
  intro sz
  refine vx_ofW (cc := cJx4a65c_clear_da8c8) (maxL := 4) (ret := none) (by decide) rfl ?_
  intro p e s m args below meth c s₁ B hml hxt hv
  obtain ⟨rfl, hsz, hP, hK, hD0, hG⟩ := hv
  have hx := B.exec
  have hb := B.bytes
  have hr := B.returns
  have hts := atoms_spec (ws := wm_Jx4a65c_clear_da8c8) B.pre
  have htb := fun (w : Cond) (h : w ∈ tb) => hts w (List.mem_cons_of_mem _ h)
  have hown : s.vm.findClass RJx4a65c = some m.cls := findClass_of_methodNamed B.named
  have hlocks := B.notSynchronized
  subst hsz
  have hD := hD0.self (sz := s.heap.size)
  generalize hAe : va_A (cW ad cid a2 lx sg gm lg) s.heap.size = A at hD hG ⊢
  have hA : ∀ q : Nat, s.heap.size ≤ q → A q := fun q h => by rw [← hAe]; exact Or.inr h
  have hS : va_S A s.heap s.heap [] := va_S.rf
  have hl := lv_entry ([eV (ad 11) x]) (n := 4) (by rw [show (lg_sl ([eV (ad 11) x])).length = 1 from by simp [lg_sl, eV_cat, cat_i, cat_l]]; exact Nat.le_of_ble_eq_true rfl)
  rw [lg_entry_eq]
  generalize (lg_sl ([eV (ad 11) x]) ++ List.replicate (4 - (lg_sl ([eV (ad 11) x])).length) Slot.unset).toArray = ls at hl ⊢
  have hl : lv_has ls 4 [(0, eV (ad 11) x)] := by simp [lv_args, eV_cat, cat_i, cat_l] at hl; exact hl
  have hj27 : ∀ (n : Nat) (gm_j27 : Nat → Nat → Int32) (x3_27 : Int32) (x2_27 : Int32) (_ : (80 - x3_27.toInt).toNat = n) (_ : iv 0 80 x3_27) (_ : iv 0 80 x2_27) (_ : iv 0 239 x) (_ : KS [40, 41, 57] gm gm_j27) (_ : CI sg gm_j27) (_ : ∀ q2, q2 ≠ x.toNatClampNeg → ∀ j9, j9 < 128 → gm_j27 57 (128 * q2 + j9) = gm 57 (128 * q2 + j9)) (_ : x2_27 = gm 41 x.toNatClampNeg) (_ : gm_j27 41 = upd (gm 41) x.toNatClampNeg 0) (H : Heap) (locs : List Loc) (ls : Array Slot), va_P (dC, dI) vwCl (cW ad cid a2 lx sg gm_j27 lg) H → va_D A (cW ad cid a2 lx sg gm_j27 lg) → va_S A s.heap H locs → lv_has ls 4 [(3, .int x3_27), (2, .int x2_27), (1, .ref (if (gm 42 x.toNatClampNeg).toInt = 0 then ad 34 0 else a2 x.toNatClampNeg)), (0, eV (ad 11) x)] → W p l e (headSpec wm_Jx4a65c_clear_da8c8 ({ frames := 0, cells := 1, slots := 6, locals := 0 })).room s m ([eV (ad 11) x] : List Value).toArray below meth c H locs 0 0 (vx_MQ below (cQx dC dI ad cid a2 lx (fun v u => v = none ∧ ∃ (sg2 : Nat → Int32) (gm2 : Nat → Nat → Int32) (lg2 : Nat → Nat → Int64), u = (sg2, gm2, lg2) ∧ CI sg2 gm2 ∧ KS [] sg sg2 ∧ KS [40, 41, 57] gm gm2 ∧ KS [] lg lg2 ∧ (gm2 41 = upd (gm 41) x.toNatClampNeg 0) ∧ (∀ q2, q2 ≠ x.toNatClampNeg → ∀ j9, j9 < 128 → gm2 57 (128 * q2 + j9) = gm 57 (128 * q2 + j9)) ∧ (LDI lx gm2)) A) (cX dC dI ad cid a2 lx (fun _ _ => False) A) ([eV (ad 11) x] : List Value).toArray s 1 6 A) (F0 m 27 ls []) := by
    intro n
    induction n using Nat.strongRecOn with
    | ind n ih27 =>
      intro gm_j27 x3_27 x2_27 hn27 hx3_27 hx2_27 hsx0_27 hkg_j27 hI_j27 h57 h2e h41b H locs ls hP hD hS hl
      refine lv_iload_n hx hb dJx4a65c_clear_da8c8_27 rfl (lv_at hl 0 rfl) ?_
      refine lv_iload_n hx hb dJx4a65c_clear_da8c8_28 rfl (lv_at hl 1 rfl) ?_
      refine lv_icmp_ge (tgt := 42) hx hb dJx4a65c_clear_da8c8_29 (by decide) (fun c_1 => ?_) (fun c_1 => ?_)
      · have d_2 : (x2_27 : Int32).toInt ≤ (x3_27 : Int32).toInt := Int32.le_iff_toInt_le.mp c_1
        exact W.nb (fun hN => W.widen (k := 1) (n := 6) (by decide) (by decide) (vx_ret (W.vret hx hb hr (fun t ht hW => ⟨⟨none, (sg, gm_j27, lg), rfl, ⟨rfl, sg, gm_j27, lg, rfl, hI_j27, KS_rf, (KS_tr (L := [40, 41, 57]) KS_rf hkg_j27 (by decide)), KS_rf, (h41b), (h57), (LDI_clr hI hLD h41b (hkg_j27 42 (by decide)) h57)⟩, by rw [ht]; exact hP, va_K.moved hW.alike hK, hD⟩, hS.F ht, by rw [ht]; exact hN⟩) hS.2.2 dJx4a65c_clear_da8c8_42)))
      · have d_3 : (x3_27 : Int32).toInt < (x2_27 : Int32).toInt := Int32.lt_iff_toInt_lt.mp (i32_lt c_1)
        have h_4 : iv 0 79 x3_27 := iv_ltL (i32_lt c_1) hx3_27 hx2_27 (by decide)
        have h_5 : iv 1 80 x2_27 := iv_ltR (i32_lt c_1) hx3_27 hx2_27 (by decide)
        refine lv_aload_n hx hb dJx4a65c_clear_da8c8_32 rfl (lv_at hl 2 rfl) ?_
        refine lv_iload_n hx hb dJx4a65c_clear_da8c8_33 rfl (lv_at hl 0 rfl) ?_
        refine ec_null (a := ad 9) hx hb dJx4a65c_clear_da8c8_34 ?_
        have e42 : gm_j27 42 = gm 42 := (hkg_j27 42 (by decide))
        have hq := hLD x.toNatClampNeg (by have := iv_cl hvx (by decide); have := hvx.2; omega)
        have h42 := (show iv 0 127 (gm 42 x.toNatClampNeg) from CI_a hI 42 hvx (by decide))
        have q41 := congrArg Int32.toInt h2e
        have hc9 : ¬ (gm_j27 42 x.toNatClampNeg).toInt = 0 := by rw [e42]; have := hq.1; have := i32_0; have := i32_1; have := i32_2; have := i32_m1; have := (hsx0_27).1; have := (hsx0_27).2; have := (h_4).1; have := (h_4).2; have := (h_5).1; have := (h_5).2; omega
        have k1 := cl_0 (x := x3_27) (by have := i32_0; have := i32_1; have := i32_2; have := i32_m1; have := (hsx0_27).1; have := (hsx0_27).2; have := (h_4).1; have := (h_4).2; have := (h_5).1; have := (h_5).2; omega)
        have k2 := iv_cl h42 (by decide)
        refine W.eq (g2 := F0 m 35 ls [eV (ad 9) (-1), .int x3_27, dV ad a2 gm_j27 x.toNatClampNeg]) (by unfold dV; rw [e42]) ?_
        refine cl_aastN hx hb hK hP hD hS (hq.2.1 (by rw [← e42]; exact hc9)) hc9 (by rw [e42]; exact vp_in_iff.mpr ⟨by have := i32_0; have := i32_1; have := i32_2; have := i32_m1; have := (hsx0_27).1; have := (hsx0_27).2; have := (h_4).1; have := (h_4).2; have := (h_5).1; have := (h_5).2; omega, by have := hq.1; have := i32_0; have := i32_1; have := i32_2; have := i32_m1; have := (hsx0_27).1; have := (hsx0_27).2; have := (h_4).1; have := (h_4).2; have := (h_5).1; have := (h_5).2; omega⟩) (by have := hq.1; have := h42.2; have := i32_0; have := i32_1; have := i32_2; have := i32_m1; have := (hsx0_27).1; have := (hsx0_27).2; have := (h_4).1; have := (h_4).2; have := (h_5).1; have := (h_5).2; omega) dJx4a65c_clear_da8c8_35 (fun gm_6 H locs egm_6 hP hD hS => ?_)
        have hI_gm_6 := CI_st hI_j27 egm_6 (iv_k (by decide) : iv (-1) (-1) (-1)) (by decide)
        have h57b : ∀ q2, q2 ≠ x.toNatClampNeg → ∀ j9, j9 < 128 → gm_6 57 (128 * q2 + j9) = gm 57 (128 * q2 + j9) := fun q2 a9 j9 b9 => by { rw [show gm_6 57 = _ from up_at egm_6, upd_ne (by have := hq.1; have := h42.2; have := i32_0; have := i32_1; have := i32_2; have := i32_m1; have := (hsx0_27).1; have := (hsx0_27).2; have := (h_4).1; have := (h_4).2; have := (h_5).1; have := (h_5).2; omega)]; exact h57 q2 a9 j9 b9 }
        obtain ⟨z_7, ez_7⟩ : ∃ z : Int32, z = x3_27 + 1 := ⟨_, rfl⟩
        have hz_7 : iv 1 80 z_7 := iv_of ez_7 (iv_add h_4 (iv_k (by decide) : iv 1 1 1) (by decide))
        have tz_7 : z_7.toInt = x3_27.toInt + 1 := by rw [ez_7]; exact iv_addE h_4 (iv_k (by decide) : iv 1 1 1) (by decide)
        refine lv_iinc (v := z_7) (lv' := [(3, .int z_7), (2, .int x2_27), (1, .ref (if (gm 42 x.toNatClampNeg).toInt = 0 then ad 34 0 else a2 x.toNatClampNeg)), (0, eV (ad 11) x)]) hx hb dJx4a65c_clear_da8c8_36 hl (k := 0) rfl ez_7.symm (by decide) rfl (fun ls hl => ?_)
        refine lv_goto (tgt := 27) hx hb dJx4a65c_clear_da8c8_39 (by decide) ?_
        exact ih27 _ (by rw [← hn27]; exact (iv_meas tz_7 h_4 (by decide))) gm_6 z_7 x2_27 rfl (iv_w hz_7 (by decide)) (iv_w h_5 (by decide)) hsx0_27 (KS_up (KS_tr (L := [40, 41, 57]) KS_rf hkg_j27 (by decide)) egm_6 (by decide)) hI_gm_6 (h57b) (h2e) ((by rw [show gm_6 41 = gm_j27 41 from (show KS [57] gm_j27 gm_6 from (KS_up KS_rf egm_6 (by decide))) 41 (by decide)]; exact h41b)) _ _ _ hP hD hS (lv_sub hl [0, 1, 2, 3] rfl)
  refine ec_aload_n hx hb dJx4a65c_clear_da8c8_0 rfl (lv_at hl 0 rfl) ?_
  refine lv_dup hx hb dJx4a65c_clear_da8c8_1 (eV_cat _ _) ?_
  refine cl_getM hx hb htb hown hK hP hvx (by decide) (htb _ kw_676) dJx4a65c_clear_da8c8_2 ?_
  refine lv_topi (fun z_8 ez_8 => ?_)
  refine lv_iconst (v := 1) hx hb dJx4a65c_clear_da8c8_5 (by decide) ?_
  refine lv_iadd hx hb dJx4a65c_clear_da8c8_6 ?_
  refine lv_topi (fun z_9 ez_9 => ?_)
  refine cl_putM (y := z_9) hx hb htb hown hK hP hD hS hvx (by decide) (htb _ kw_676) dJx4a65c_clear_da8c8_7 (fun gm_10 H locs egm_10 hP hD hS => ?_)
  have hI_gm_10 := CI_st hI egm_10 (iv_fl z_9) (by decide)
  refine ec_aload_n hx hb dJx4a65c_clear_da8c8_10 rfl (lv_at hl 0 rfl) ?_
  refine cr_get (t := 11) (j := 1) (C := RJx4a65c) (T := TJx4a65c) (N := 3) (v := .ref (if (gm 42 x.toNatClampNeg).toInt = 0 then ad 34 0 else a2 x.toNatClampNeg)) hx hb htb inJx4a65c hown hK hP hvx (by decide) (by decide) (by decide) rfl (by decide) (htb _ kw_105) (by rw [← show gm_10 42 = gm 42 from (up_ne egm_10 (by decide))]; rfl) dJx4a65c_clear_da8c8_11 ?_
  refine lv_astore_n (i := 1) (lv' := [(1, .ref (if (gm 42 x.toNatClampNeg).toInt = 0 then ad 34 0 else a2 x.toNatClampNeg)), (0, eV (ad 11) x)]) hx hb dJx4a65c_clear_da8c8_14 rfl hl (by decide) (by simp [List.filter, eV_cat, cat_i, cat_l]) (fun ls hl => ?_)
  refine ec_aload_n hx hb dJx4a65c_clear_da8c8_15 rfl (lv_at hl 1 rfl) ?_
  refine cr_get (t := 11) (j := 2) (C := RJx4a65c) (T := TJx4a65c) (N := 3) (v := .int (gm_10 41 x.toNatClampNeg)) hx hb htb inJx4a65c hown hK hP hvx (by decide) (by decide) (by decide) rfl (by decide) (htb _ kw_678) rfl dJx4a65c_clear_da8c8_16 ?_
  obtain ⟨z_11, ez_11⟩ : ∃ z : Int32, z = (gm_10 41 x.toNatClampNeg) := ⟨_, rfl⟩
  refine W.eq (g2 := F0 m 19 ls [.int z_11]) (by rw [ez_11]) ?_
  have hz_11 : iv 0 80 z_11 := iv_of ez_11 (CI_a hI_gm_10 41 hvx (by decide))
  have ez_11 := ez_11.trans (congrFun (up_ne egm_10 (by decide)) _)
  refine lv_istore_n (i := 2) (lv' := [(2, .int z_11), (1, .ref (if (gm 42 x.toNatClampNeg).toInt = 0 then ad 34 0 else a2 x.toNatClampNeg)), (0, eV (ad 11) x)]) hx hb dJx4a65c_clear_da8c8_19 rfl hl (by decide) rfl (fun ls hl => ?_)
  refine ec_aload_n hx hb dJx4a65c_clear_da8c8_20 rfl (lv_at hl 2 rfl) ?_
  refine lv_iconst (v := 0) hx hb dJx4a65c_clear_da8c8_21 (by decide) ?_
  refine lv_dup_x1 hx hb dJx4a65c_clear_da8c8_22 rfl (eV_cat _ _) ?_
  refine cr_putg (t := 11) (j := 2) (C := RJx4a65c) (T := TJx4a65c) (N := 3) (ty0 := tyJx4a65c) (k := 41) (y := 0) hx hb htb inJx4a65c tyJx4a65c_ok nmJx4a65c hown hK hP hD hS hvx (by decide) (by decide) (by decide) (by decide) rfl rfl (by decide) (htb _ kw_678) rfl (by show Value.int 0 = Value.int (va_up gm_10 41 (upd (gm_10 41) x.toNatClampNeg 0) 41 x.toNatClampNeg); rw [va_up_self, upd_at]) rfl rfl dJx4a65c_clear_da8c8_23 (fun gm_12 H locs egm_12 hP hD hS => ?_)
  have hI_gm_12 := CI_st hI_gm_10 egm_12 (iv_k (by decide) : iv 0 0 0) (by decide)
  refine lv_istore_n (i := 3) (lv' := [(3, .int 0), (2, .int z_11), (1, .ref (if (gm 42 x.toNatClampNeg).toInt = 0 then ad 34 0 else a2 x.toNatClampNeg)), (0, eV (ad 11) x)]) hx hb dJx4a65c_clear_da8c8_26 rfl hl (by decide) rfl (fun ls hl => ?_)
  exact hj27 _ gm_12 0 z_11 rfl (iv_w (iv_k (by decide) : iv 0 0 0) (by decide)) hz_11 hvx (KS_up (KS_up KS_rf egm_10 (by decide)) egm_12 (by decide)) hI_gm_12 (fun q2 _ j9 _ => by rw [(Eq.trans (up_ne egm_12 (by decide)) (up_ne egm_10 (by decide)))]) (ez_11) ((show gm_12 41 = upd (gm 41) (x : Int32).toNatClampNeg 0 from ((up_at egm_12).trans (by rw [show gm_10 41 = gm 41 from ((up_ne egm_10 (by decide)).trans rfl)])))) _ _ _ hP hD hS (lv_sub hl [0, 1, 2, 3] rfl)
