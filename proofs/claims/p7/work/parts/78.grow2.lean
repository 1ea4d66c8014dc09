
theorem dJx4a65c_grow_92f84_0 : decode cJx4a65c_grow_92f84 0 = .ok (.aload_n 0, 1) := by decide +kernel
theorem dJx4a65c_grow_92f84_1 : decode cJx4a65c_grow_92f84 1 = .ok (.getfield 9, 3) := by decide +kernel
theorem dJx4a65c_grow_92f84_4 : decode cJx4a65c_grow_92f84 4 = .ok (.arraylength, 1) := by decide +kernel
theorem dJx4a65c_grow_92f84_5 : decode cJx4a65c_grow_92f84 5 = .ok (.istore_n 2, 1) := by decide +kernel
theorem dJx4a65c_grow_92f84_6 : decode cJx4a65c_grow_92f84 6 = .ok (.iload_n 2, 1) := by decide +kernel
theorem dJx4a65c_grow_92f84_7 : decode cJx4a65c_grow_92f84 7 = .ok (.ifCond .gt 13, 3) := by decide +kernel
theorem dJx4a65c_grow_92f84_10 : decode cJx4a65c_grow_92f84 10 = .ok (.aload_n 0, 1) := by decide +kernel
theorem dJx4a65c_grow_92f84_11 : decode cJx4a65c_grow_92f84 11 = .ok (.getfield 9, 3) := by decide +kernel
theorem dJx4a65c_grow_92f84_14 : decode cJx4a65c_grow_92f84 14 = .ok (.getstatic 39, 3) := by decide +kernel
theorem dJx4a65c_grow_92f84_17 : decode cJx4a65c_grow_92f84 17 = .ok (.if_acmp .eq 28, 3) := by decide +kernel
theorem dJx4a65c_grow_92f84_20 : decode cJx4a65c_grow_92f84 20 = .ok (.iload_n 2, 1) := by decide +kernel
theorem dJx4a65c_grow_92f84_21 : decode cJx4a65c_grow_92f84 21 = .ok (.iload_n 1, 1) := by decide +kernel
theorem dJx4a65c_grow_92f84_22 : decode cJx4a65c_grow_92f84 22 = .ok (.iload_n 2, 1) := by decide +kernel
theorem dJx4a65c_grow_92f84_23 : decode cJx4a65c_grow_92f84 23 = .ok (.isub, 1) := by decide +kernel
theorem dJx4a65c_grow_92f84_24 : decode cJx4a65c_grow_92f84 24 = .ok (.iload_n 2, 1) := by decide +kernel
theorem dJx4a65c_grow_92f84_25 : decode cJx4a65c_grow_92f84 25 = .ok (.iconst 1, 1) := by decide +kernel
theorem dJx4a65c_grow_92f84_26 : decode cJx4a65c_grow_92f84 26 = .ok (.ishr, 1) := by decide +kernel
theorem dJx4a65c_grow_92f84_27 : decode cJx4a65c_grow_92f84 27 = .ok (.invokestatic 73, 3) := by decide +kernel
theorem dJx4a65c_grow_92f84_30 : decode cJx4a65c_grow_92f84 30 = .ok (.istore_n 3, 1) := by decide +kernel
theorem dJx4a65c_grow_92f84_31 : decode cJx4a65c_grow_92f84 31 = .ok (.aload_n 0, 1) := by decide +kernel
theorem dJx4a65c_grow_92f84_32 : decode cJx4a65c_grow_92f84 32 = .ok (.aload_n 0, 1) := by decide +kernel
theorem dJx4a65c_grow_92f84_33 : decode cJx4a65c_grow_92f84 33 = .ok (.getfield 9, 3) := by decide +kernel
theorem dJx4a65c_grow_92f84_36 : decode cJx4a65c_grow_92f84 36 = .ok (.iload_n 3, 1) := by decide +kernel
theorem dJx4a65c_grow_92f84_37 : decode cJx4a65c_grow_92f84 37 = .ok (.invokestatic 66, 3) := by decide +kernel
theorem dJx4a65c_grow_92f84_40 : decode cJx4a65c_grow_92f84 40 = .ok (.dup_x1, 1) := by decide +kernel
theorem dJx4a65c_grow_92f84_41 : decode cJx4a65c_grow_92f84 41 = .ok (.putfield 9, 3) := by decide +kernel
theorem dJx4a65c_grow_92f84_44 : decode cJx4a65c_grow_92f84 44 = .ok (.areturn, 1) := by decide +kernel
theorem dJx4a65c_grow_92f84_45 : decode cJx4a65c_grow_92f84 45 = .ok (.aload_n 0, 1) := by decide +kernel
theorem dJx4a65c_grow_92f84_46 : decode cJx4a65c_grow_92f84 46 = .ok (.bipush 10, 2) := by decide +kernel
theorem dJx4a65c_grow_92f84_48 : decode cJx4a65c_grow_92f84 48 = .ok (.iload_n 1, 1) := by decide +kernel
theorem dJx4a65c_grow_92f84_49 : decode cJx4a65c_grow_92f84 49 = .ok (.invokestatic 79, 3) := by decide +kernel
theorem dJx4a65c_grow_92f84_52 : decode cJx4a65c_grow_92f84 52 = .ok (.anewarray 7, 3) := by decide +kernel
theorem dJx4a65c_grow_92f84_55 : decode cJx4a65c_grow_92f84 55 = .ok (.dup_x1, 1) := by decide +kernel
theorem dJx4a65c_grow_92f84_56 : decode cJx4a65c_grow_92f84 56 = .ok (.putfield 9, 3) := by decide +kernel
theorem dJx4a65c_grow_92f84_59 : decode cJx4a65c_grow_92f84 59 = .ok (.areturn, 1) := by decide +kernel
theorem dJx4a65c_grow_d5877_0 : decode cJx4a65c_grow_d5877 0 = .ok (.aload_n 0, 1) := by decide +kernel
theorem dJx4a65c_grow_d5877_1 : decode cJx4a65c_grow_d5877 1 = .ok (.aload_n 0, 1) := by decide +kernel
theorem dJx4a65c_grow_d5877_2 : decode cJx4a65c_grow_d5877 2 = .ok (.getfield 48, 3) := by decide +kernel
theorem dJx4a65c_grow_d5877_5 : decode cJx4a65c_grow_d5877 5 = .ok (.iconst 1, 1) := by decide +kernel
theorem dJx4a65c_grow_d5877_6 : decode cJx4a65c_grow_d5877 6 = .ok (.iadd, 1) := by decide +kernel
theorem dJx4a65c_grow_d5877_7 : decode cJx4a65c_grow_d5877 7 = .ok (.invokevirtual 69, 3) := by decide +kernel
theorem dJx4a65c_grow_d5877_10 : decode cJx4a65c_grow_d5877 10 = .ok (.areturn, 1) := by decide +kernel
theorem dJx4a65c_add_72be8_0 : decode cJx4a65c_add_72be8 0 = .ok (.iload_n 3, 1) := by decide +kernel
theorem dJx4a65c_add_72be8_1 : decode cJx4a65c_add_72be8 1 = .ok (.aload_n 2, 1) := by decide +kernel
theorem dJx4a65c_add_72be8_2 : decode cJx4a65c_add_72be8 2 = .ok (.arraylength, 1) := by decide +kernel
theorem dJx4a65c_add_72be8_3 : decode cJx4a65c_add_72be8 3 = .ok (.if_icmp .ne 8, 3) := by decide +kernel
theorem dJx4a65c_add_72be8_6 : decode cJx4a65c_add_72be8 6 = .ok (.aload_n 0, 1) := by decide +kernel
theorem dJx4a65c_add_72be8_7 : decode cJx4a65c_add_72be8 7 = .ok (.invokevirtual 129, 3) := by decide +kernel
theorem dJx4a65c_add_72be8_10 : decode cJx4a65c_add_72be8 10 = .ok (.astore_n 2, 1) := by decide +kernel
theorem dJx4a65c_add_72be8_11 : decode cJx4a65c_add_72be8 11 = .ok (.aload_n 2, 1) := by decide +kernel
theorem dJx4a65c_add_72be8_12 : decode cJx4a65c_add_72be8 12 = .ok (.iload_n 3, 1) := by decide +kernel
theorem dJx4a65c_add_72be8_13 : decode cJx4a65c_add_72be8 13 = .ok (.aload_n 1, 1) := by decide +kernel
theorem dJx4a65c_add_72be8_14 : decode cJx4a65c_add_72be8 14 = .ok (.aastore, 1) := by decide +kernel
theorem dJx4a65c_add_72be8_15 : decode cJx4a65c_add_72be8 15 = .ok (.aload_n 0, 1) := by decide +kernel
theorem dJx4a65c_add_72be8_16 : decode cJx4a65c_add_72be8 16 = .ok (.iload_n 3, 1) := by decide +kernel
theorem dJx4a65c_add_72be8_17 : decode cJx4a65c_add_72be8 17 = .ok (.iconst 1, 1) := by decide +kernel
theorem dJx4a65c_add_72be8_18 : decode cJx4a65c_add_72be8 18 = .ok (.iadd, 1) := by decide +kernel
theorem dJx4a65c_add_72be8_19 : decode cJx4a65c_add_72be8 19 = .ok (.putfield 48, 3) := by decide +kernel
theorem dJx4a65c_add_72be8_22 : decode cJx4a65c_add_72be8 22 = .ok (.return_, 1) := by decide +kernel
theorem dJx4a65c_add_9ea2d_0 : decode cJx4a65c_add_9ea2d 0 = .ok (.aload_n 0, 1) := by decide +kernel
theorem dJx4a65c_add_9ea2d_1 : decode cJx4a65c_add_9ea2d 1 = .ok (.dup, 1) := by decide +kernel
theorem dJx4a65c_add_9ea2d_2 : decode cJx4a65c_add_9ea2d 2 = .ok (.getfield 63, 3) := by decide +kernel
theorem dJx4a65c_add_9ea2d_5 : decode cJx4a65c_add_9ea2d 5 = .ok (.iconst 1, 1) := by decide +kernel
theorem dJx4a65c_add_9ea2d_6 : decode cJx4a65c_add_9ea2d 6 = .ok (.iadd, 1) := by decide +kernel
theorem dJx4a65c_add_9ea2d_7 : decode cJx4a65c_add_9ea2d 7 = .ok (.putfield 63, 3) := by decide +kernel
theorem dJx4a65c_add_9ea2d_10 : decode cJx4a65c_add_9ea2d 10 = .ok (.aload_n 0, 1) := by decide +kernel
theorem dJx4a65c_add_9ea2d_11 : decode cJx4a65c_add_9ea2d 11 = .ok (.aload_n 1, 1) := by decide +kernel
theorem dJx4a65c_add_9ea2d_12 : decode cJx4a65c_add_9ea2d 12 = .ok (.aload_n 0, 1) := by decide +kernel
theorem dJx4a65c_add_9ea2d_13 : decode cJx4a65c_add_9ea2d 13 = .ok (.getfield 9, 3) := by decide +kernel
theorem dJx4a65c_add_9ea2d_16 : decode cJx4a65c_add_9ea2d 16 = .ok (.aload_n 0, 1) := by decide +kernel
theorem dJx4a65c_add_9ea2d_17 : decode cJx4a65c_add_9ea2d 17 = .ok (.getfield 48, 3) := by decide +kernel
theorem dJx4a65c_add_9ea2d_20 : decode cJx4a65c_add_9ea2d 20 = .ok (.invokevirtual 131, 3) := by decide +kernel
theorem dJx4a65c_add_9ea2d_23 : decode cJx4a65c_add_9ea2d 23 = .ok (.iconst 1, 1) := by decide +kernel
theorem dJx4a65c_add_9ea2d_24 : decode cJx4a65c_add_9ea2d 24 = .ok (.ireturn, 1) := by decide +kernel

section LDL
variable {p : Program} {l : Launch} {e : Env} {R : Room} {s : State} {m : MethodId} {args : Array Value} {below : List Frame} {meth : Method} {c : Code} {H : Heap} {locs : List Loc} {cells slots : Nat} {Q : State → Prop} {cc : ByteArray} {pc : Nat} {ls : Array Slot} {rest : List Value} {A : Nat → Prop}
variable {dC : Nat → ClassId} {dI : Nat → Nat → Nat} {ad : Nat → Nat → Nat} {cid : Nat → ClassId} {a2 : Nat → Nat} {lx : List Nat} {sg : Nat → Int32} {gm : Nat → Nat → Int32} {lg : Nat → Nat → Int64}
theorem cl_dlen {q : Nat} (hexec : p.tables.exec = Jvm.exec) (hb : c.code = cc) (hG : CE ad A s) (hK : va_K (dC, dI) vwCl (cT cid) s) (hP : va_P (dC, dI) vwCl (cW ad cid a2 lx sg gm lg) H) (hS : va_S A s.heap H locs) (hI : CI sg gm) (hq : q < 240) (hl : ¬ (gm 42 q).toInt = 0 → q ∈ lx) (hdg : decode cc pc = .ok (.arraylength, 1))
    (kk : W p l e R s m args below meth c H locs cells slots Q (F0 m (pc + 1) ls (.int (gm 42 q) :: rest))) : W p l e R s m args below meth c H locs cells slots Q (F0 m pc ls (dV ad a2 gm q :: rest)) := by
  obtain ⟨k1, k2, k3, k4⟩ := cap_of hI hq
  by_cases h0 : (gm 42 q).toInt = 0
  · unfold dV
    rw [if_pos h0]
    exact va_tlen hexec hb hG.2.1.2.2.2.2.2 hS (by rw [← k4]; congr 1; omega) hdg kk
  · rw [dV_n h0]
    obtain ⟨i, hi⟩ := List.getElem?_of_mem (hl h0)
    exact va_alen (D := (dC, dI)) hexec hb hK hP _ 32 (cW_lat hi) (cT_at (by decide)) k4 hdg kk
end LDL
theorem nD_0 {ad : Nat → Nat → Nat} {cid : Nat → ClassId} {gm : Nat → Nat → Int32} {q N : Nat} (h : (gm 42 q).toNatClampNeg = 0) : nD ad cid gm q N = .inl (cid 32, N, .inr (.inr (.inr (.inr (fun _ => none))))) := by
  unfold nD
  rw [h, show va_cpy (cDr ad gm q) (fun _ => none) 0 0 0 = (fun _ => none) from funext fun k => by unfold va_cpy; rw [if_neg (by omega)]]
theorem LDI_add {lx : List Nat} {gm gm2 : Nat → Nat → Int32} {q n : Nat} {z el : Int32} (h : LDI lx gm) (e57 : gm2 57 = upd (gm 57) (128 * q + n) el) (e41 : gm2 41 = upd (gm 41) q z) (e42 : gm2 42 = gm 42) (hz : z.toInt = (gm 41 q).toInt + 1) (h0 : 0 ≤ (gm 41 q).toInt) (hn : n = (gm 41 q).toNatClampNeg) (hc : (gm 41 q).toInt < (gm 42 q).toInt) (hel : 0 ≤ el.toInt) : LDI lx gm2 := fun q2 h2 => by
  obtain ⟨b1, b2, b3⟩ := h q2 h2
  have hk : n = (gm 41 q).toInt.toNat := hn
  rw [e41, e42, e57]
  by_cases e9 : q2 = q
  · subst e9
    rw [upd_at]
    refine ⟨by omega, b2, fun j hj => ?_⟩
    have hz2 : z.toNatClampNeg = z.toInt.toNat := rfl
    by_cases ej : j = n
    · rw [ej, upd_at]; exact hel
    · rw [upd_ne (by omega)]; exact b3 j (by have : (gm 41 q2).toNatClampNeg = (gm 41 q2).toInt.toNat := rfl; omega)
  · rw [upd_ne e9]
    refine ⟨b1, b2, fun j hj => ?_⟩
    by_cases ej : 128 * q2 + j = 128 * q + n
    · rw [ej, upd_at]; exact hel
    · rw [upd_ne ej]; exact b3 j hj

set_option maxHeartbeats 4000000 in
set_option maxRecDepth 100000 in
theorem d_grow1 (l : Launch) (dC : Nat → ClassId) (dI : Nat → Nat → Nat) (ad : Nat → Nat → Nat) (cid : Nat → ClassId) (a2 : Nat → Nat) (lx : List Nat) (sg : Nat → Int32) (gm : Nat → Nat → Int32) (lg : Nat → Nat → Int64) (x : Int32) (mn : Int32) (hI : CI sg gm) (hvx : iv 0 239 x) (hvmn : iv 1 80 mn) (hLD : LDI lx gm) (hcap : (gm 42 x.toNatClampNeg).toInt = (gm 41 x.toNatClampNeg).toInt) (hsz : (gm 41 x.toNatClampNeg).toInt < 80) (hmn : mn.toInt = (gm 41 x.toNatClampNeg).toInt + 1) : CMg dC dI ad cid l yJx4a65c_grow_92f84 wm_Jx4a65c_grow_92f84 ({ frames := 7, cells := 30481, slots := 122047, locals := 181 }) [eV (ad 11) x, .int mn] a2 lx sg gm lg 0 30481 122047 (fun v u => ∃ r : Nat, v = some (.ref r) ∧ ∃ (a22 : Nat → Nat) (lx2 : List Nat), ∃ (sg2 : Nat → Int32) (gm2 : Nat → Nat → Int32) (lg2 : Nat → Nat → Int64), u = (a22, lx2, sg2, gm2, lg2) ∧ CI sg2 gm2 ∧ KS [] sg sg2 ∧ KS [42, 57] gm gm2 ∧ KS [] lg lg2 ∧ (r = a22 x.toNatClampNeg) ∧ ((gm 42 x.toNatClampNeg).toInt < (gm2 42 x.toNatClampNeg).toInt) ∧ (∀ j9, j9 < (gm 42 x.toNatClampNeg).toNatClampNeg → gm2 57 (128 * x.toNatClampNeg + j9) = gm 57 (128 * x.toNatClampNeg + j9)) ∧ (∀ q2, q2 ≠ x.toNatClampNeg → ∀ j9, j9 < 128 → gm2 57 (128 * q2 + j9) = gm 57 (128 * q2 + j9)) ∧ (LDI lx2 gm2)) (fun _ _ => False) := by
  intro sz
  refine vx_ofW (cc := cJx4a65c_grow_92f84) (maxL := 4) (ret := (some (.array (.object "java/lang/Object")))) (by decide) rfl ?_
  intro p e s m args below meth c s₁ B hml hxt hv
  obtain ⟨rfl, hsz, hP, hK, hD0, hG⟩ := hv
  have hx := B.exec
  have hb := B.bytes
  have hr := B.returns
  have hts := atoms_spec (ws := wm_Jx4a65c_grow_92f84) B.pre
  have htb := fun (w : Cond) (h : w ∈ tb) => hts w (List.mem_cons_of_mem _ h)
  have hown : s.vm.findClass RJx4a65c = some m.cls := findClass_of_methodNamed B.named
  have hlocks := B.notSynchronized
  subst hsz
  have hD := hD0.self (sz := s.heap.size)
  generalize hAe : va_A (cW ad cid a2 lx sg gm lg) s.heap.size = A at hD hG ⊢
  have hA : ∀ q : Nat, s.heap.size ≤ q → A q := fun q h => by rw [← hAe]; exact Or.inr h
  have hS : va_S A s.heap s.heap [] := va_S.rf
  have hl := lv_entry ([eV (ad 11) x, .int mn]) (n := 4) (by rw [show (lg_sl ([eV (ad 11) x, .int mn])).length = 2 from by simp [lg_sl, eV_cat, cat_i, cat_l]]; exact Nat.le_of_ble_eq_true rfl)
  rw [lg_entry_eq]
  generalize (lg_sl ([eV (ad 11) x, .int mn]) ++ List.replicate (4 - (lg_sl ([eV (ad 11) x, .int mn])).length) Slot.unset).toArray = ls at hl ⊢
  have hl : lv_has ls 4 [(0, eV (ad 11) x), (1, .int mn)] := by simp [lv_args, eV_cat, cat_i, cat_l] at hl; exact hl
  refine W.widen (k := gc gm gm 0) (n := gs gm gm 0) (Nat.zero_le _) (Nat.zero_le _) ?_
  refine ec_aload_n hx hb dJx4a65c_grow_92f84_0 rfl (lv_at hl 0 rfl) ?_
  refine cr_get (t := 11) (j := 1) (C := RJx4a65c) (T := TJx4a65c) (N := 3) (v := dV ad a2 gm x.toNatClampNeg) hx hb htb inJx4a65c hown hK hP hvx (by decide) (by decide) (by decide) rfl (by decide) (htb _ kw_105) rfl dJx4a65c_grow_92f84_1 ?_
  refine cl_dlen hx hb hG hK hP hS hI (by have := iv_cl hvx (by decide); have := hvx.2; omega) (hLD _ (by have := iv_cl hvx (by decide); have := hvx.2; omega)).2.1 dJx4a65c_grow_92f84_4 ?_
  refine lv_topi (fun z_1 ez_1 => ?_)
  have hz_1 : iv 0 127 z_1 := iv_of ez_1 (show iv 0 127 _ from CI_a hI 42 hvx (by decide))
  have cz_1 := congrArg Int32.toInt ez_1
  refine lv_istore_n (i := 2) (lv' := [(2, .int z_1), (0, eV (ad 11) x), (1, .int mn)]) hx hb dJx4a65c_grow_92f84_5 rfl hl (by decide) rfl (fun ls hl => ?_)
  refine lv_iload_n hx hb dJx4a65c_grow_92f84_6 rfl (lv_at hl 0 rfl) ?_
  refine lv_if_gt (tgt := 20) hx hb dJx4a65c_grow_92f84_7 (by decide) (fun c_2 => ?_) (fun c_2 => ?_)
  · have h_3 : iv 1 127 z_1 := iv_ltR c_2 (iv_k (by decide) : iv 0 0 0) hz_1 (by decide)
    have h_4 : iv 1 79 z_1 := ⟨by have := i32_0; have := i32_1; have := i32_2; have := i32_m1; have := (hvx).1; have := (hvx).2; have := (hvmn).1; have := (hvmn).2; have := (h_3).1; have := (h_3).2; omega, by have := i32_0; have := i32_1; have := i32_2; have := i32_m1; have := (hvx).1; have := (hvx).2; have := (hvmn).1; have := (hvmn).2; have := (h_3).1; have := (h_3).2; omega⟩
    refine lv_iload_n hx hb dJx4a65c_grow_92f84_20 rfl (lv_at hl 0 rfl) ?_
    refine lv_iload_n hx hb dJx4a65c_grow_92f84_21 rfl (lv_at hl 2 rfl) ?_
    refine lv_iload_n hx hb dJx4a65c_grow_92f84_22 rfl (lv_at hl 0 rfl) ?_
    refine lv_isub hx hb dJx4a65c_grow_92f84_23 ?_
    refine lv_topi (fun z_5 ez_5 => ?_)
    have hz_5 : iv (-78) 79 z_5 := iv_of ez_5 (iv_sub hvmn h_4 (by decide))
    have tz_5 : z_5.toInt = (mn : Int32).toInt - (z_1 : Int32).toInt := by rw [ez_5]; exact iv_subE hvmn h_4 (by decide)
    have h_6 : iv 1 1 z_5 := ⟨by have := i32_0; have := i32_1; have := i32_2; have := i32_m1; have := (hvx).1; have := (hvx).2; have := (hvmn).1; have := (hvmn).2; have := (h_4).1; have := (h_4).2; have := (hz_5).1; have := (hz_5).2; omega, by have := i32_0; have := i32_1; have := i32_2; have := i32_m1; have := (hvx).1; have := (hvx).2; have := (hvmn).1; have := (hvmn).2; have := (h_4).1; have := (h_4).2; have := (hz_5).1; have := (hz_5).2; omega⟩
    refine lv_iload_n hx hb dJx4a65c_grow_92f84_24 rfl (lv_at hl 0 rfl) ?_
    refine lv_iconst (v := 1) hx hb dJx4a65c_grow_92f84_25 (by decide) ?_
    refine lv_ishr hx hb dJx4a65c_grow_92f84_26 ?_
    refine lv_topi (fun z_7 ez_7 => ?_)
    have tz_7 : z_7.toInt = z_1.toInt / 2 := by rw [ez_7]; exact shr1 (iv_w h_4 (by decide))
    have hz_7 : iv 0 54 z_7 := by { have q1 := (h_4).1; have q2 := (h_4).2; exact ⟨by omega, by omega⟩ }
    refine cm_callTS (rest := []) (as := [.int z_1, .int z_5, .int z_7]) ⟨hx, hb, hml, hown, htb⟩ (d_newLength l dC dI ad cid a2 lx sg gm lg z_1 z_5 z_7 hI (iv_w h_4 (by decide)) (iv_w h_6 (by decide)) hz_7) (va_cwS 3 htb (gd_S kw_762 kw_763 kw_764 kw_1505) rfl rfl rfl (by decide +kernel) ⟨Nat.le_of_ble_eq_true rfl, Nat.le_of_ble_eq_true rfl⟩)  rfl hl.1 rfl (Nat.le_trans cs_n (by decide)) dJx4a65c_grow_92f84_27 ⟨Nat.le_trans (gc_le hI) (Nat.le_of_ble_eq_true rfl), Nat.le_trans (gs_le hI) (Nat.le_of_ble_eq_true rfl)⟩ hK hP hD hS hA hG (fun E ce q9 u_9 H locs hw hP hD hS hce hcv hcl => ?_) (fun v9 u_9 H locs hw hP hD hS => ?_)
    · exact hw.elim
    obtain ⟨r_8, rfl, rfl, hr_8, fN_r_8⟩ := hw
    have hP : va_P (dC, dI) vwCl (cW ad cid a2 lx sg gm lg) H := hP
    have hD : va_D A (cW ad cid a2 lx sg gm lg) := hD
    refine W.eq (g2 := F0 m 30 ls [.int r_8]) rfl ?_
    refine lv_istore_n (i := 3) (lv' := [(3, .int r_8), (2, .int z_1), (0, eV (ad 11) x), (1, .int mn)]) hx hb dJx4a65c_grow_92f84_30 rfl hl (by decide) rfl (fun ls hl => ?_)
    refine ec_aload_n hx hb dJx4a65c_grow_92f84_31 rfl (lv_at hl 2 rfl) ?_
    refine ec_aload_n hx hb dJx4a65c_grow_92f84_32 rfl (lv_at hl 2 rfl) ?_
    refine cr_get (t := 11) (j := 1) (C := RJx4a65c) (T := TJx4a65c) (N := 3) (v := dV ad a2 gm x.toNatClampNeg) hx hb htb inJx4a65c hown hK hP hvx (by decide) (by decide) (by decide) rfl (by decide) (htb _ kw_105) rfl dJx4a65c_grow_92f84_33 ?_
    refine lv_iload_n hx hb dJx4a65c_grow_92f84_36 rfl (lv_at hl 0 rfl) ?_
    have hc1 : ¬ (gm 42 x.toNatClampNeg).toInt = 0 := by have := i32_0; have := i32_1; have := i32_2; have := i32_m1; have := (hvx).1; have := (hvx).2; have := (hvmn).1; have := (hvmn).2; have := (h_4).1; have := (h_4).2; have := (h_6).1; have := (h_6).2; have := (hz_7).1; have := (hz_7).2; have := (hr_8).1; have := (hr_8).2; omega
    have hn118 : iv 2 118 r_8 := by { have fq := fN_r_8; exact ⟨by have := i32_0; have := i32_1; have := i32_2; have := i32_m1; have := (hvx).1; have := (hvx).2; have := (hvmn).1; have := (hvmn).2; have := (h_4).1; have := (h_4).2; have := (h_6).1; have := (h_6).2; have := (hz_7).1; have := (hz_7).2; have := (hr_8).1; have := (hr_8).2; have := tz_7; omega, by have := i32_0; have := i32_1; have := i32_2; have := i32_m1; have := (hvx).1; have := (hvx).2; have := (hvmn).1; have := (hvmn).2; have := (h_4).1; have := (h_4).2; have := (h_6).1; have := (h_6).2; have := (hz_7).1; have := (hz_7).2; have := (hr_8).1; have := (hr_8).2; have := tz_7; omega⟩ }
    have hroom : r_8.toInt ≤ 4 * (r_8.toInt - (gm 42 x.toNatClampNeg).toInt) ∧ (gm 42 x.toNatClampNeg).toInt < r_8.toInt := by { have fq := fN_r_8; exact ⟨by have := i32_0; have := i32_1; have := i32_2; have := i32_m1; have := (hvx).1; have := (hvx).2; have := (hvmn).1; have := (hvmn).2; have := (h_4).1; have := (h_4).2; have := (h_6).1; have := (h_6).2; have := (hz_7).1; have := (hz_7).2; have := (hr_8).1; have := (hr_8).2; have := tz_7; omega, by have := i32_0; have := i32_1; have := i32_2; have := i32_m1; have := (hvx).1; have := (hvx).2; have := (hvmn).1; have := (hvmn).2; have := (h_4).1; have := (h_4).2; have := (h_6).1; have := (h_6).2; have := (hz_7).1; have := (hz_7).2; have := (hr_8).1; have := (hr_8).2; have := tz_7; omega⟩ }
    have hFc := cfree hD hS hA
    obtain ⟨i9, hi9⟩ := List.getElem?_of_mem ((hLD _ (by have := iv_cl hvx (by decide); have := hvx.2; omega)).2.1 hc1)
    refine W.eq (g2 := F0 m 37 ls [.int r_8, .ref (a2 x.toNatClampNeg), eV (ad 11) x]) (by rw [dV_n hc1]) ?_
    refine cm_goN (q := x.toNatClampNeg) (N := r_8.toNatClampNeg) (vx_runS (cells := gc gm gm 0) (slots := gs gm gm 0) (As := [.ref (a2 x.toNatClampNeg), .int r_8]) (rest := [eV (ad 11) x]) ⟨hx, hb, hml, hown, htb⟩ (d_copyOf2 l dC dI ad cid a2 lx sg gm lg x.toNatClampNeg i9 r_8 hI (by have := iv_cl hvx (by decide); have := hvx.2; omega) hi9 (iv_w hn118 (by decide)) (by omega) H.size) (va_cwS 2 htb (gd_S kw_769 kw_770 kw_771 kw_1507) rfl rfl rfl (by decide +kernel) ⟨Nat.le_of_ble_eq_true rfl, Nat.le_of_ble_eq_true rfl⟩) ⟨CPre_blind, fun U hU hW => ⟨rfl, by rw [hU], by rw [hU]; exact hP, va_K.moved hW.alike hK, hD.weaken (fun _ _ _ _ => trivial), hG.go hS hFc hU hW⟩⟩ rfl rfl hl.1 rfl (lv_room (Nat.le_trans (cs_c (eV_cat _ _) cs_n) (by decide))) dJx4a65c_grow_92f84_37 ⟨Nat.le_trans (gc_le hI) (Nat.le_of_ble_eq_true rfl), Nat.le_trans (gs_le hI) (Nat.le_of_ble_eq_true rfl)⟩) hD hS hA (fun ar_11 H locs hP hD hS => ?_)
    refine lv_dup_x1 hx hb dJx4a65c_grow_92f84_40 rfl (eV_cat _ _) ?_
    refine cl_putD (n := r_8) hx hb htb hown hK hP hD hS hvx (by decide) (by have := hn118.1; omega) (Nat.le_trans (cap_of hI (by have := iv_cl hvx (by decide); have := hvx.2; omega)).1 (by decide)) (htb _ kw_105) dJx4a65c_grow_92f84_41 (fun H locs hP hD hS => ?_)
    obtain ⟨gmG, egG⟩ : ∃ z, z = gG gm x.toNatClampNeg r_8 := ⟨_, rfl⟩
    rw [← egG] at hP hD
    have hIG : CI sg gmG := by rw [egG]; exact CI_gG hI (iv_w hn118 (by decide) : iv 0 127 r_8)
    have hkG : KS [42, 57] gm gmG := fun k9 q9 => by rw [egG]; exact gG_k (fun e9 => by rw [e9] at q9; exact absurd q9 (by decide)) (fun e9 => by rw [e9] at q9; exact absurd q9 (by decide))
    have hpg := PHs_gG (gm := gm) (q := x.toNatClampNeg) (n := r_8) (by have := iv_cl hvx (by decide); have := hvx.2; omega)
    rw [← egG] at hpg
    obtain ⟨kc1, kc2, kc3, kc4⟩ := cap_of hI (show x.toNatClampNeg < 240 from by have := iv_cl hvx (by decide); have := hvx.2; omega)
    have kn : r_8.toNatClampNeg = r_8.toInt.toNat := rfl
    have hmG : PHs gm ≤ PHs gmG := by omega
    refine W.widen (k := gc gm gmG 0) (n := gs gm gmG 0) (by unfold gc PH; omega) (by unfold gs PH; omega) ?_
    exact W.nb (fun hN => W.widen (k := 30481) (n := 122047) (Nat.le_trans (gc_l0 (gm := gm) (k := 0) hIG) (Nat.le_of_ble_eq_true rfl)) (Nat.le_trans (gs_l0 (gm := gm) (k := 0) hIG) (Nat.le_of_ble_eq_true rfl)) (vx_ret (W.aret (v := .ref ar_11) hx hb hr (Or.inr ⟨_, rfl⟩) (Or.inr ⟨_, rfl⟩) (fun t ht hW => ⟨⟨some (.ref ar_11), ((va_up a2 x.toNatClampNeg ar_11), (lG lx x.toNatClampNeg), sg, gmG, lg), rfl, ⟨ar_11, rfl, (va_up a2 x.toNatClampNeg ar_11), (lG lx x.toNatClampNeg), sg, gmG, lg, rfl, hIG, KS_rf, (KS_tr (L := [42, 57]) KS_rf hkG (by decide)), KS_rf, (by rw [va_up_self]), (by rw [egG, gG_42, upd_at]; omega), (fun j9 q9 => by rw [egG]; exact gG_lt q9), (fun q2 q9 j9 q8 => by rw [egG]; exact gG_ne q9 q8), (by rw [egG]; exact LDI_gG hI hLD (by omega))⟩, ⟨by rw [ht]; exact hP, va_K.moved hW.alike hK, hD⟩, hmG, by rw [ht]; exact hN⟩, hS.F ht⟩) hS.2.2 dJx4a65c_grow_92f84_44)))
  · have h_12 : iv 0 0 z_1 := iv_leL (i32_ge c_2) hz_1 (iv_k (by decide) : iv 0 0 0) (by decide)
    refine ec_aload_n hx hb dJx4a65c_grow_92f84_10 rfl (lv_at hl 1 rfl) ?_
    refine cr_get (t := 11) (j := 1) (C := RJx4a65c) (T := TJx4a65c) (N := 3) (v := dV ad a2 gm x.toNatClampNeg) hx hb htb inJx4a65c hown hK hP hvx (by decide) (by decide) (by decide) rfl (by decide) (htb _ kw_105) rfl dJx4a65c_grow_92f84_11 ?_
    refine va_gets hx hb hG.2.1.2.2.2.2.1 hS hown (htb _ kw_104) (fun _ h9 => h9) dJx4a65c_grow_92f84_14 ?_
    have hc0 : (gm 42 x.toNatClampNeg).toInt = 0 := by have := i32_0; have := i32_1; have := i32_2; have := i32_m1; have := (hvx).1; have := (hvx).2; have := (hvmn).1; have := (hvmn).2; have := (h_12).1; have := (h_12).2; omega
    refine W.eq (g2 := F0 m 17 ls [.ref (ad 34 0), .ref (ad 34 0)]) (by unfold dV; rw [if_pos hc0]) ?_
    refine lv_acmp_eq (rx := some (ad 34 0)) (ry := some (ad 34 0)) (tgt := 45) hx hb dJx4a65c_grow_92f84_17 (by decide) (fun _ => ?_) (fun q9 => absurd rfl q9)
    refine ec_aload_n hx hb dJx4a65c_grow_92f84_45 rfl (lv_at hl 1 rfl) ?_
    refine lv_bipush (v := 10) hx hb dJx4a65c_grow_92f84_46 (by decide) ?_
    refine lv_iload_n hx hb dJx4a65c_grow_92f84_48 rfl (lv_at hl 2 rfl) ?_
    refine va_mmax hx hb (hml.trans hl.1.symm) hown (htb _ kw_758) (htb _ kw_759) (htb _ kw_760) (htb _ kw_1504) (Nat.le_of_ble_eq_true rfl) (Nat.le_trans (Nat.add_le_add_right (show _ ≤ 8 from (Nat.le_trans (cs_c (eV_cat _ _) cs_n) (by decide))) _) (Nat.le_of_ble_eq_true rfl)) (Nat.le_trans (gc_l0 (gm := gm) (k := 0) hI) (Nat.le_of_ble_eq_true rfl)) (Nat.le_trans (gs_l0 (gm := gm) (k := 0) hI) (Nat.le_of_ble_eq_true rfl)) dJx4a65c_grow_92f84_49 ?_
    refine lv_topi (fun z_13 ez_13 => ?_)
    have xz_13 := mmax_i ez_13
    have hz_13 : iv 10 80 z_13 := by { have q1 := ((iv_k (by decide) : iv 10 10 10)).1; have q2 := ((iv_k (by decide) : iv 10 10 10)).2; have q3 := (hvmn).1; have q4 := (hvmn).2; exact ⟨by omega, by omega⟩ }
    have hn118 : iv 10 118 z_13 := ⟨by have := i32_0; have := i32_1; have := i32_2; have := i32_m1; have := (hvx).1; have := (hvx).2; have := (hvmn).1; have := (hvmn).2; have := (h_12).1; have := (h_12).2; have := (hz_13).1; have := (hz_13).2; omega, by have := i32_0; have := i32_1; have := i32_2; have := i32_m1; have := (hvx).1; have := (hvx).2; have := (hvmn).1; have := (hvmn).2; have := (h_12).1; have := (h_12).2; have := (hz_13).1; have := (hz_13).2; omega⟩
    have hn9 : z_13.toNatClampNeg = z_13.toInt.toNat := rfl
    have hn10 := hn118.1
    have hn11 := hn118.2
    have hroom : z_13.toInt ≤ 4 * (z_13.toInt - (gm 42 x.toNatClampNeg).toInt) ∧ (gm 42 x.toNatClampNeg).toInt < z_13.toInt := ⟨by omega, by omega⟩
    refine va_newq (D := (dC, dI)) (N' := z_13.toNatClampNeg) (C := "java/lang/Object") hx hb hown (htb _ kw_761) hG.2.1.2.2.2.1.1 hK hP hD hS hA (fun q9 => by have := Int32.lt_iff_toInt_lt.mp q9; have z0 : (0 : Int32).toInt = 0 := (by decide); omega) rfl (by omega) (Nat.le_trans (gc_le hI) (Nat.le_of_ble_eq_true rfl)) (Nat.le_trans (Nat.add_le_add_left (show z_13.toNatClampNeg ≤ 127 from by omega) _) (Nat.le_trans (gs_le hI) (Nat.le_of_ble_eq_true rfl))) dJx4a65c_grow_92f84_52 (fun ar_14 cA_15 H hK2 hP hD hS => ?_)
    obtain rfl : cA_15 = cid 32 := cA_eq hK hK2
    have hc00 : (gm 42 x.toNatClampNeg).toNatClampNeg = 0 := by have q9 : (gm 42 x.toNatClampNeg).toNatClampNeg = (gm 42 x.toNatClampNeg).toInt.toNat := rfl; omega
    rw [← nD_0 (ad := ad) (cid := cid) hc00] at hP hD
    refine lv_dup_x1 hx hb dJx4a65c_grow_92f84_55 rfl (eV_cat _ _) ?_
    refine cl_putD (n := z_13) hx hb htb hown hK hP hD hS hvx (by decide) (by have := hn118.1; omega) (Nat.le_trans (cap_of hI (by have := iv_cl hvx (by decide); have := hvx.2; omega)).1 (by decide)) (htb _ kw_105) dJx4a65c_grow_92f84_56 (fun H locs hP hD hS => ?_)
    obtain ⟨gmG, egG⟩ : ∃ z, z = gG gm x.toNatClampNeg z_13 := ⟨_, rfl⟩
    rw [← egG] at hP hD
    have hIG : CI sg gmG := by rw [egG]; exact CI_gG hI (iv_w hn118 (by decide) : iv 0 127 z_13)
    have hkG : KS [42, 57] gm gmG := fun k9 q9 => by rw [egG]; exact gG_k (fun e9 => by rw [e9] at q9; exact absurd q9 (by decide)) (fun e9 => by rw [e9] at q9; exact absurd q9 (by decide))
    have hpg := PHs_gG (gm := gm) (q := x.toNatClampNeg) (n := z_13) (by have := iv_cl hvx (by decide); have := hvx.2; omega)
    rw [← egG] at hpg
    obtain ⟨kc1, kc2, kc3, kc4⟩ := cap_of hI (show x.toNatClampNeg < 240 from by have := iv_cl hvx (by decide); have := hvx.2; omega)
    have kn : z_13.toNatClampNeg = z_13.toInt.toNat := rfl
    have hmG : PHs gm ≤ PHs gmG := by omega
    refine W.widen (k := gc gm gmG 0) (n := gs gm gmG 0) (by unfold gc PH; omega) (by unfold gs PH; omega) ?_
    exact W.nb (fun hN => W.widen (k := 30481) (n := 122047) (Nat.le_trans (gc_l0 (gm := gm) (k := 0) hIG) (Nat.le_of_ble_eq_true rfl)) (Nat.le_trans (gs_l0 (gm := gm) (k := 0) hIG) (Nat.le_of_ble_eq_true rfl)) (vx_ret (W.aret (v := .ref ar_14) hx hb hr (Or.inr ⟨_, rfl⟩) (Or.inr ⟨_, rfl⟩) (fun t ht hW => ⟨⟨some (.ref ar_14), ((va_up a2 x.toNatClampNeg ar_14), (lG lx x.toNatClampNeg), sg, gmG, lg), rfl, ⟨ar_14, rfl, (va_up a2 x.toNatClampNeg ar_14), (lG lx x.toNatClampNeg), sg, gmG, lg, rfl, hIG, KS_rf, (KS_tr (L := [42, 57]) KS_rf hkG (by decide)), KS_rf, (by rw [va_up_self]), (by rw [egG, gG_42, upd_at]; omega), (fun j9 q9 => by rw [egG]; exact gG_lt q9), (fun q2 q9 j9 q8 => by rw [egG]; exact gG_ne q9 q8), (by rw [egG]; exact LDI_gG hI hLD (by omega))⟩, ⟨by rw [ht]; exact hP, va_K.moved hW.alike hK, hD⟩, hmG, by rw [ht]; exact hN⟩, hS.F ht⟩) hS.2.2 dJx4a65c_grow_92f84_59)))

set_option maxHeartbeats 4000000 in
set_option maxRecDepth 100000 in
theorem d_grow0 (l : Launch) (dC : Nat → ClassId) (dI : Nat → Nat → Nat) (ad : Nat → Nat → Nat) (cid : Nat → ClassId) (a2 : Nat → Nat) (lx : List Nat) (sg : Nat → Int32) (gm : Nat → Nat → Int32) (lg : Nat → Nat → Int64) (x : Int32) (hI : CI sg gm) (hvx : iv 0 239 x) (hLD : LDI lx gm) (hcap : (gm 42 x.toNatClampNeg).toInt = (gm 41 x.toNatClampNeg).toInt) (hsz : (gm 41 x.toNatClampNeg).toInt < 80) : CMg dC dI ad cid l yJx4a65c_grow_d5877 wm_Jx4a65c_grow_d5877 ({ frames := 8, cells := 60961, slots := 243967, locals := 204 }) [eV (ad 11) x] a2 lx sg gm lg 0 60961 243967 (fun v u => ∃ r : Nat, v = some (.ref r) ∧ ∃ (a22 : Nat → Nat) (lx2 : List Nat), ∃ (sg2 : Nat → Int32) (gm2 : Nat → Nat → Int32) (lg2 : Nat → Nat → Int64), u = (a22, lx2, sg2, gm2, lg2) ∧ CI sg2 gm2 ∧ KS [] sg sg2 ∧ KS [42, 57] gm gm2 ∧ KS [] lg lg2 ∧ (r = a22 x.toNatClampNeg) ∧ ((gm 42 x.toNatClampNeg).toInt < (gm2 42 x.toNatClampNeg).toInt) ∧ (∀ j9, j9 < (gm 42 x.toNatClampNeg).toNatClampNeg → gm2 57 (128 * x.toNatClampNeg + j9) = gm 57 (128 * x.toNatClampNeg + j9)) ∧ (∀ q2, q2 ≠ x.toNatClampNeg → ∀ j9, j9 < 128 → gm2 57 (128 * q2 + j9) = gm 57 (128 * q2 + j9)) ∧ (LDI lx2 gm2)) (fun _ _ => False) := by
  intro sz
  refine vx_ofW (cc := cJx4a65c_grow_d5877) (maxL := 1) (ret := (some (.array (.object "java/lang/Object")))) (by decide) rfl ?_
  intro p e s m args below meth c s₁ B hml hxt hv
  obtain ⟨rfl, hsz, hP, hK, hD0, hG⟩ := hv
  have hx := B.exec
  have hb := B.bytes
  have hr := B.returns
  have hts := atoms_spec (ws := wm_Jx4a65c_grow_d5877) B.pre
  have htb := fun (w : Cond) (h : w ∈ tb) => hts w (List.mem_cons_of_mem _ h)
  have hown : s.vm.findClass RJx4a65c = some m.cls := findClass_of_methodNamed B.named
  have hlocks := B.notSynchronized
  subst hsz
  have hD := hD0.self (sz := s.heap.size)
  generalize hAe : va_A (cW ad cid a2 lx sg gm lg) s.heap.size = A at hD hG ⊢
  have hA : ∀ q : Nat, s.heap.size ≤ q → A q := fun q h => by rw [← hAe]; exact Or.inr h
  have hS : va_S A s.heap s.heap [] := va_S.rf
  have hl := lv_entry ([eV (ad 11) x]) (n := 1) (by rw [show (lg_sl ([eV (ad 11) x])).length = 1 from by simp [lg_sl, eV_cat, cat_i, cat_l]]; exact Nat.le_of_ble_eq_true rfl)
  rw [lg_entry_eq]
  generalize (lg_sl ([eV (ad 11) x]) ++ List.replicate (1 - (lg_sl ([eV (ad 11) x])).length) Slot.unset).toArray = ls at hl ⊢
  have hl : lv_has ls 1 [(0, eV (ad 11) x)] := by simp [lv_args, eV_cat, cat_i, cat_l] at hl; exact hl
  refine W.widen (k := gc gm gm 0) (n := gs gm gm 0) (Nat.zero_le _) (Nat.zero_le _) ?_
  refine ec_aload_n hx hb dJx4a65c_grow_d5877_0 rfl (lv_at hl 0 rfl) ?_
  refine ec_aload_n hx hb dJx4a65c_grow_d5877_1 rfl (lv_at hl 0 rfl) ?_
  refine cr_get (t := 11) (j := 2) (C := RJx4a65c) (T := TJx4a65c) (N := 3) (v := .int (gm 41 x.toNatClampNeg)) hx hb htb inJx4a65c hown hK hP hvx (by decide) (by decide) (by decide) rfl (by decide) (htb _ kw_678) rfl dJx4a65c_grow_d5877_2 ?_
  obtain ⟨z_1, ez_1⟩ : ∃ z : Int32, z = (gm 41 x.toNatClampNeg) := ⟨_, rfl⟩
  refine W.eq (g2 := F0 m 5 ls [.int z_1, eV (ad 11) x]) (by rw [ez_1]) ?_
  have hz_1 : iv 0 80 z_1 := iv_of ez_1 (CI_a hI 41 hvx (by decide))
  have h_2 : iv 0 79 z_1 := ⟨(hz_1).1, by rw [ez_1]; omega⟩
  refine lv_iconst (v := 1) hx hb dJx4a65c_grow_d5877_5 (by decide) ?_
  refine lv_iadd hx hb dJx4a65c_grow_d5877_6 ?_
  refine lv_topi (fun z_3 ez_3 => ?_)
  have hz_3 : iv 1 80 z_3 := iv_of ez_3 (iv_add h_2 (iv_k (by decide) : iv 1 1 1) (by decide))
  have tz_3 : z_3.toInt = (z_1 : Int32).toInt + 1 := by rw [ez_3]; exact iv_addE h_2 (iv_k (by decide) : iv 1 1 1) (by decide)
  refine cm_callGV (t := 11) (C := RJx4a65c) (T := TJx4a65c) (N := 3) (rest := []) (as := [.int z_3]) ⟨hx, hb, hml, hown, htb⟩ (d_grow1 l dC dI ad cid a2 lx sg gm lg x z_3 hI hvx hz_3 hLD hcap hsz (by have q9 := congrArg Int32.toInt ez_1; have := i32_0; have := i32_1; have := i32_2; have := i32_m1; have := (hvx).1; have := (hvx).2; have := (h_2).1; have := (h_2).2; have := (hz_3).1; have := (hz_3).2; omega)) (cwV 1 htb (gd_V kw_755 kw_756 kw_757 kw_98 kw_1503) rfl rfl rfl (by decide +kernel) ⟨Nat.le_of_ble_eq_true rfl, Nat.le_of_ble_eq_true rfl⟩) hvx (by decide) (by decide) rfl rfl hl.1 rfl (Nat.le_trans cs_n (by decide)) dJx4a65c_grow_d5877_7 ⟨Nat.le_trans (gc_le hI) (Nat.le_of_ble_eq_true rfl), Nat.le_trans (gs_le hI) (Nat.le_of_ble_eq_true rfl)⟩ hK hP hD hS hA hG (fun E ce q9 u_5 H locs hw hmu hP hD hS hce hcv hcl => ?_) (fun v9 u_5 H locs hw hmu hP hD hS => ?_)
  · exact hw.elim
  obtain ⟨r_4, rfl, a2v_6, lxv_6, sgv_6, gmv_6, lgv_6, rfl, hIv_6, ksv_6, kgv_6, klv_6, fR_r_4, fC_r_4, f57_r_4, f57n_r_4, fLD_r_4⟩ := hw
  obtain rfl := KS_nil ksv_6
  obtain rfl := KS_nil klv_6
  have hP : va_P (dC, dI) vwCl (cW ad cid a2v_6 lxv_6 sg gmv_6 lg) H := hP
  have hD : va_D A (cW ad cid a2v_6 lxv_6 sg gmv_6 lg) := hD
  have hmu : PHs gm ≤ PHs gmv_6 := hmu
  rw [show (gc gm gm 0 + gc gm gmv_6 0) = gc gm gmv_6 0 from gc_t (Nat.le_refl _) hmu, show (gs gm gm 0 + gs gm gmv_6 0) = gs gm gmv_6 0 from gs_t (Nat.le_refl _) hmu]
  have hm_7 : PHs gm ≤ PHs gmv_6 := Nat.le_trans (Nat.le_refl _) hmu
  refine W.eq (g2 := F0 m 10 ls [.ref r_4]) rfl ?_
  exact W.nb (fun hN => W.widen (k := 60961) (n := 243967) (Nat.le_trans (gc_l0 (gm := gm) (k := 0) hIv_6) (Nat.le_of_ble_eq_true rfl)) (Nat.le_trans (gs_l0 (gm := gm) (k := 0) hIv_6) (Nat.le_of_ble_eq_true rfl)) (vx_ret (W.aret (v := .ref r_4) hx hb hr (Or.inr ⟨_, rfl⟩) (Or.inr ⟨_, rfl⟩) (fun t ht hW => ⟨⟨some (.ref r_4), (a2v_6, lxv_6, sg, gmv_6, lg), rfl, ⟨r_4, rfl, a2v_6, lxv_6, sg, gmv_6, lg, rfl, hIv_6, KS_rf, (KS_tr (L := [42, 57]) KS_rf kgv_6 (by decide)), KS_rf, (fR_r_4), (fC_r_4), (f57_r_4), (f57n_r_4), (fLD_r_4)⟩, ⟨by rw [ht]; exact hP, va_K.moved hW.alike hK, hD⟩, hm_7, by rw [ht]; exact hN⟩, hS.F ht⟩) hS.2.2 dJx4a65c_grow_d5877_10)))

set_option maxHeartbeats 4000000 in
set_option maxRecDepth 100000 in
theorem d_ladd3 (l : Launch) (dC : Nat → ClassId) (dI : Nat → Nat → Nat) (ad : Nat → Nat → Nat) (cid : Nat → ClassId) (a2 : Nat → Nat) (lx : List Nat) (sg : Nat → Int32) (gm : Nat → Nat → Int32) (lg : Nat → Nat → Int64) (x : Int32) (el : Int32) (sz : Int32) (hI : CI sg gm) (hvx : iv 0 239 x) (hvel : iv 0 79 el) (hvsz : iv 0 79 sz) (hLD : LDI lx gm) (hsz : (gm 41 x.toNatClampNeg).toInt < 80) (hs9 : sz = gm 41 x.toNatClampNeg) : CMg dC dI ad cid l yJx4a65c_add_72be8 wm_Jx4a65c_add_72be8 ({ frames := 9, cells := 91441, slots := 365887, locals := 224 }) [eV (ad 11) x, eV (ad 9) el, dV ad a2 gm x.toNatClampNeg, .int sz] a2 lx sg gm lg 0 91441 365887 (fun v u => v = none ∧ ∃ (a22 : Nat → Nat) (lx2 : List Nat), ∃ (sg2 : Nat → Int32) (gm2 : Nat → Nat → Int32) (lg2 : Nat → Nat → Int64), u = (a22, lx2, sg2, gm2, lg2) ∧ CI sg2 gm2 ∧ KS [] sg sg2 ∧ KS [41, 42, 57] gm gm2 ∧ KS [] lg lg2 ∧ (∃ z9 : Int32, gm2 41 = upd (gm 41) x.toNatClampNeg z9 ∧ z9.toInt = (gm 41 x.toNatClampNeg).toInt + 1) ∧ (gm2 57 (128 * x.toNatClampNeg + (gm 41 x.toNatClampNeg).toNatClampNeg) = el) ∧ (∀ j9, j9 < (gm 41 x.toNatClampNeg).toNatClampNeg → gm2 57 (128 * x.toNatClampNeg + j9) = gm 57 (128 * x.toNatClampNeg + j9)) ∧ (∀ q2, q2 ≠ x.toNatClampNeg → ∀ j9, j9 < 128 → gm2 57 (128 * q2 + j9) = gm 57 (128 * q2 + j9)) ∧ (LDI lx2 gm2)) (fun _ _ => False) := by
  intro sz
  refine vx_ofW (cc := cJx4a65c_add_72be8) (maxL := 4) (ret := none) (by decide) rfl ?_
  intro p e s m args below meth c s₁ B hml hxt hv
  obtain ⟨rfl, hsz, hP, hK, hD0, hG⟩ := hv
  have hx := B.exec
  have hb := B.bytes
  have hr := B.returns
  have hts := atoms_spec (ws := wm_Jx4a65c_add_72be8) B.pre
  have htb := fun (w : Cond) (h : w ∈ tb) => hts w (List.mem_cons_of_mem _ h)
  have hown : s.vm.findClass RJx4a65c = some m.cls := findClass_of_methodNamed B.named
  have hlocks := B.notSynchronized
  subst hsz
  have hD := hD0.self (sz := s.heap.size)
  generalize hAe : va_A (cW ad cid a2 lx sg gm lg) s.heap.size = A at hD hG ⊢
  have hA : ∀ q : Nat, s.heap.size ≤ q → A q := fun q h => by rw [← hAe]; exact Or.inr h
  have hS : va_S A s.heap s.heap [] := va_S.rf
  have hl := lv_entry ([eV (ad 11) x, eV (ad 9) el, dV ad a2 gm x.toNatClampNeg, .int sz]) (n := 4) (by rw [show (lg_sl ([eV (ad 11) x, eV (ad 9) el, dV ad a2 gm x.toNatClampNeg, .int sz])).length = 4 from by simp [lg_sl, eV_cat, cat_i, cat_l, dV_cat]]; exact Nat.le_of_ble_eq_true rfl)
  rw [lg_entry_eq]
  generalize (lg_sl ([eV (ad 11) x, eV (ad 9) el, dV ad a2 gm x.toNatClampNeg, .int sz]) ++ List.replicate (4 - (lg_sl ([eV (ad 11) x, eV (ad 9) el, dV ad a2 gm x.toNatClampNeg, .int sz])).length) Slot.unset).toArray = ls at hl ⊢
  have hl : lv_has ls 4 [(0, eV (ad 11) x), (1, eV (ad 9) el), (2, dV ad a2 gm x.toNatClampNeg), (3, .int sz)] := by simp [lv_args, eV_cat, cat_i, cat_l, dV_cat] at hl; exact hl
  refine W.widen (k := gc gm gm 0) (n := gs gm gm 0) (Nat.zero_le _) (Nat.zero_le _) ?_
  refine lv_iload_n hx hb dJx4a65c_add_72be8_0 rfl (lv_at hl 3 rfl) ?_
  refine lv_aload_n hx hb dJx4a65c_add_72be8_1 rfl (lv_at hl 2 rfl) ?_
  refine W.eq (g2 := F0 m 2 ls [dV ad a2 gm x.toNatClampNeg, .int sz]) rfl ?_
  refine cl_dlen hx hb hG hK hP hS hI (by have := iv_cl hvx (by decide); have := hvx.2; omega) (hLD _ (by have := iv_cl hvx (by decide); have := hvx.2; omega)).2.1 dJx4a65c_add_72be8_2 ?_
  refine lv_topi (fun z_1 ez_1 => ?_)
  have hz_1 : iv 0 127 z_1 := iv_of ez_1 (show iv 0 127 _ from CI_a hI 42 hvx (by decide))
  have cz_1 := congrArg Int32.toInt ez_1
  refine lv_icmp_ne (tgt := 11) hx hb dJx4a65c_add_72be8_3 (by decide) (fun c_2 => ?_) (fun c_2 => ?_)
  · refine lv_aload_n hx hb dJx4a65c_add_72be8_11 rfl (lv_at hl 2 rfl) ?_
    refine W.eq (g2 := F0 m 12 ls [dV ad a2 gm x.toNatClampNeg]) rfl ?_
    refine lv_iload_n hx hb dJx4a65c_add_72be8_12 rfl (lv_at hl 3 rfl) ?_
    refine ec_aload_n hx hb dJx4a65c_add_72be8_13 rfl (lv_at hl 1 rfl) ?_
    have hX : x.toNatClampNeg < 240 := (by have := iv_cl hvx (by decide); have := hvx.2; omega)
    obtain ⟨kc1, kc2, kc3, kc4⟩ := cap_of hI hX
    have k41 := (show iv 0 80 (gm 41 x.toNatClampNeg) from CI_a hI 41 hvx (by decide))
    have ks9 := congrArg Int32.toInt hs9
    have hLDc := hLD
    have hnec : ¬ sz.toInt = z_1.toInt := fun q9 => c_2 (Int32.toInt_inj.mp q9)
    have hltc : (gm 41 x.toNatClampNeg).toInt < (gm 42 x.toNatClampNeg).toInt := by have := (hLD _ hX).1; have := i32_0; have := i32_1; have := i32_2; have := i32_m1; have := (hvx).1; have := (hvx).2; have := (hvel).1; have := (hvel).2; have := (hvsz).1; have := (hvsz).2; have := (hz_1).1; have := (hz_1).2; omega
    obtain ⟨kd1, kd2, kd3, kd4⟩ := cap_of hI hX
    have hcc : ¬ (gm 42 x.toNatClampNeg).toInt = 0 := by have := k41.1; omega
    have kcl := cl_0 (x := sz) (by have := k41.1; omega)
    refine cl_aast hx hb hG hK hP hD hS ((hLDc _ hX).2.1 hcc) hcc (vp_in_iff.mpr ⟨by have := k41.1; omega, by omega⟩) (by omega) hvel (by decide) dJx4a65c_add_72be8_14 (fun gm_3 H locs egm_3 hP hD hS => ?_)
    have hI_gm_3 := CI_st hI egm_3 hvel (by decide)
    refine ec_aload_n hx hb dJx4a65c_add_72be8_15 rfl (lv_at hl 0 rfl) ?_
    refine lv_iload_n hx hb dJx4a65c_add_72be8_16 rfl (lv_at hl 3 rfl) ?_
    refine lv_iconst (v := 1) hx hb dJx4a65c_add_72be8_17 (by decide) ?_
    refine lv_iadd hx hb dJx4a65c_add_72be8_18 ?_
    refine lv_topi (fun z_4 ez_4 => ?_)
    have hz_4 : iv 1 80 z_4 := iv_of ez_4 (iv_add hvsz (iv_k (by decide) : iv 1 1 1) (by decide))
    have tz_4 : z_4.toInt = (sz : Int32).toInt + 1 := by rw [ez_4]; exact iv_addE hvsz (iv_k (by decide) : iv 1 1 1) (by decide)
    refine cr_putg (t := 11) (j := 2) (C := RJx4a65c) (T := TJx4a65c) (N := 3) (ty0 := tyJx4a65c) (k := 41) (y := z_4) hx hb htb inJx4a65c tyJx4a65c_ok nmJx4a65c hown hK hP hD hS hvx (by decide) (by decide) (by decide) (by decide) rfl rfl (by decide) (htb _ kw_678) rfl (by show Value.int z_4 = Value.int (va_up gm_3 41 (upd (gm_3 41) x.toNatClampNeg z_4) 41 x.toNatClampNeg); rw [va_up_self, upd_at]) rfl rfl dJx4a65c_add_72be8_19 (fun gm_5 H locs egm_5 hP hD hS => ?_)
    have hI_gm_5 := CI_st hI_gm_3 egm_5 hz_4 (by decide)
    refine W.widen (k := gc gm gm_5 0) (n := gs gm gm_5 0) (gc_e (show gm_5 42 = gm 42 from (Eq.trans (up_ne egm_5 (by decide)) (up_ne egm_3 (by decide)))) (by decide)) (gs_e (show gm_5 42 = gm 42 from (Eq.trans (up_ne egm_5 (by decide)) (up_ne egm_3 (by decide)))) (by decide)) ?_
    have hm_6 : PHs gm ≤ PHs gm_5 := by rw [PHs_e (show gm_5 42 = gm 42 from (Eq.trans (up_ne egm_5 (by decide)) (up_ne egm_3 (by decide))))]; exact (Nat.le_refl _)
    exact W.nb (fun hN => W.widen (k := 91441) (n := 365887) (Nat.le_trans (gc_l0 (gm := gm) (k := 0) hI_gm_5) (Nat.le_of_ble_eq_true rfl)) (Nat.le_trans (gs_l0 (gm := gm) (k := 0) hI_gm_5) (Nat.le_of_ble_eq_true rfl)) (vx_ret (W.vret hx hb hr (fun t ht hW => ⟨⟨none, (a2, lx, sg, gm_5, lg), rfl, ⟨rfl, a2, lx, sg, gm_5, lg, rfl, hI_gm_5, KS_rf, (KS_up (KS_up KS_rf egm_3 (by decide)) egm_5 (by decide)), KS_rf, (⟨z_4, by rw [(show gm_5 41 = upd (gm 41) x.toNatClampNeg z_4 from (by rw [show gm_5 41 = _ from up_at egm_5, show gm_3 41 = gm 41 from up_ne egm_3 (by decide)])), (show gm 41 = gm 41 from rfl)], by omega⟩), (by { have kz : sz.toNatClampNeg = (gm 41 x.toNatClampNeg).toNatClampNeg := (by rw [hs9]); rw [(show gm_5 57 = upd (gm 57) (128 * x.toNatClampNeg + sz.toNatClampNeg) el from (by rw [show gm_5 57 = gm_3 57 from up_ne egm_5 (by decide)]; exact up_at egm_3)), kz, upd_at] }), (fun j9 q9 => by { have kz : sz.toNatClampNeg = (gm 41 x.toNatClampNeg).toNatClampNeg := (by rw [hs9]); rw [(show gm_5 57 = upd (gm 57) (128 * x.toNatClampNeg + sz.toNatClampNeg) el from (by rw [show gm_5 57 = gm_3 57 from up_ne egm_5 (by decide)]; exact up_at egm_3)), upd_ne (by omega)] }), (fun q2 q9 j9 q8 => by { rw [(show gm_5 57 = upd (gm 57) (128 * x.toNatClampNeg + sz.toNatClampNeg) el from (by rw [show gm_5 57 = gm_3 57 from up_ne egm_5 (by decide)]; exact up_at egm_3)), upd_ne (by omega)] }), (LDI_add hLDc (show gm_5 57 = upd (gm 57) (128 * x.toNatClampNeg + sz.toNatClampNeg) el from (by rw [show gm_5 57 = gm_3 57 from up_ne egm_5 (by decide)]; exact up_at egm_3)) (show gm_5 41 = upd (gm 41) x.toNatClampNeg z_4 from (by rw [show gm_5 41 = _ from up_at egm_5, show gm_3 41 = gm 41 from up_ne egm_3 (by decide)])) (show gm_5 42 = gm 42 from (up_ne egm_5 (by decide)).trans (up_ne egm_3 (by decide))) (by rw [(show gm 41 = gm 41 from rfl)]; omega) (by rw [(show gm 41 = gm 41 from rfl)]; exact k41.1) (by rw [(show gm 41 = gm 41 from rfl), hs9]) (by rw [(show gm 41 = gm 41 from rfl)]; exact hltc) hvel.1)⟩, ⟨by rw [ht]; exact hP, va_K.moved hW.alike hK, hD⟩, hm_6, by rw [ht]; exact hN⟩, hS.F ht⟩) hS.2.2 dJx4a65c_add_72be8_22)))
  · have d_7 : (sz : Int32).toInt = (z_1 : Int32).toInt := congrArg Int32.toInt c_2
    have h_8 : iv 0 79 z_1 := iv_eq (Eq.symm c_2) hz_1 hvsz (by decide)
    refine ec_aload_n hx hb dJx4a65c_add_72be8_6 rfl (lv_at hl 0 rfl) ?_
    refine cm_callGV (t := 11) (C := RJx4a65c) (T := TJx4a65c) (N := 3) (rest := []) (as := []) ⟨hx, hb, hml, hown, htb⟩ (d_grow0 l dC dI ad cid a2 lx sg gm lg x hI hvx hLD (by have q9 := congrArg Int32.toInt hs9; have := i32_0; have := i32_1; have := i32_2; have := i32_m1; have := (hvx).1; have := (hvx).2; have := (hvel).1; have := (hvel).2; have := (hvsz).1; have := (hvsz).2; have := (h_8).1; have := (h_8).2; omega) hsz) (cwV 0 htb (gd_V kw_752 kw_753 kw_754 kw_98 kw_1502) rfl rfl rfl (by decide +kernel) ⟨Nat.le_of_ble_eq_true rfl, Nat.le_of_ble_eq_true rfl⟩) hvx (by decide) (by decide) rfl rfl hl.1 rfl (Nat.le_trans cs_n (by decide)) dJx4a65c_add_72be8_7 ⟨Nat.le_trans (gc_le hI) (Nat.le_of_ble_eq_true rfl), Nat.le_trans (gs_le hI) (Nat.le_of_ble_eq_true rfl)⟩ hK hP hD hS hA hG (fun E ce q9 u_10 H locs hw hmu hP hD hS hce hcv hcl => ?_) (fun v9 u_10 H locs hw hmu hP hD hS => ?_)
    · exact hw.elim
    obtain ⟨r_9, rfl, a2v_11, lxv_11, sgv_11, gmv_11, lgv_11, rfl, hIv_11, ksv_11, kgv_11, klv_11, fR_r_9, fC_r_9, f57_r_9, f57n_r_9, fLD_r_9⟩ := hw
    obtain rfl := KS_nil ksv_11
    obtain rfl := KS_nil klv_11
    have hP : va_P (dC, dI) vwCl (cW ad cid a2v_11 lxv_11 sg gmv_11 lg) H := hP
    have hD : va_D A (cW ad cid a2v_11 lxv_11 sg gmv_11 lg) := hD
    have hmu : PHs gm ≤ PHs gmv_11 := hmu
    rw [show (gc gm gm 0 + gc gm gmv_11 0) = gc gm gmv_11 0 from gc_t (Nat.le_refl _) hmu, show (gs gm gm 0 + gs gm gmv_11 0) = gs gm gmv_11 0 from gs_t (Nat.le_refl _) hmu]
    have hm_12 : PHs gm ≤ PHs gmv_11 := Nat.le_trans (Nat.le_refl _) hmu
    refine W.eq (g2 := F0 m 10 ls [.ref r_9]) rfl ?_
    refine lv_astore_n (i := 2) (lv' := [(2, .ref r_9), (0, eV (ad 11) x), (1, eV (ad 9) el), (3, .int sz)]) hx hb dJx4a65c_add_72be8_10 rfl hl (by decide) (by simp [List.filter, eV_cat, cat_i, cat_l]) (fun ls hl => ?_)
    refine lv_aload_n hx hb dJx4a65c_add_72be8_11 rfl (lv_at hl 0 rfl) ?_
    have hcg : ¬ (gmv_11 42 x.toNatClampNeg).toInt = 0 := by have := fC_r_9; have := (cap_of hI (show x.toNatClampNeg < 240 from by have := iv_cl hvx (by decide); have := hvx.2; omega)).2.1; omega
    refine W.eq (g2 := F0 m 12 ls [dV ad a2v_11 gmv_11 x.toNatClampNeg]) (by rw [dV_n hcg, fR_r_9]) ?_
    refine lv_iload_n hx hb dJx4a65c_add_72be8_12 rfl (lv_at hl 3 rfl) ?_
    refine ec_aload_n hx hb dJx4a65c_add_72be8_13 rfl (lv_at hl 2 rfl) ?_
    have hX : x.toNatClampNeg < 240 := (by have := iv_cl hvx (by decide); have := hvx.2; omega)
    obtain ⟨kc1, kc2, kc3, kc4⟩ := cap_of hI hX
    have k41 := (show iv 0 80 (gm 41 x.toNatClampNeg) from CI_a hI 41 hvx (by decide))
    have ks9 := congrArg Int32.toInt hs9
    have hLDc := fLD_r_9
    have hltc : (gm 41 x.toNatClampNeg).toInt < (gmv_11 42 x.toNatClampNeg).toInt := by have := fC_r_9; omega
    obtain ⟨kd1, kd2, kd3, kd4⟩ := cap_of hIv_11 hX
    have hcc : ¬ (gmv_11 42 x.toNatClampNeg).toInt = 0 := by have := k41.1; omega
    have kcl := cl_0 (x := sz) (by have := k41.1; omega)
    refine cl_aast hx hb hG hK hP hD hS ((hLDc _ hX).2.1 hcc) hcc (vp_in_iff.mpr ⟨by have := k41.1; omega, by omega⟩) (by omega) hvel (by decide) dJx4a65c_add_72be8_14 (fun gm_13 H locs egm_13 hP hD hS => ?_)
    have hI_gm_13 := CI_st hIv_11 egm_13 hvel (by decide)
    refine ec_aload_n hx hb dJx4a65c_add_72be8_15 rfl (lv_at hl 1 rfl) ?_
    refine lv_iload_n hx hb dJx4a65c_add_72be8_16 rfl (lv_at hl 3 rfl) ?_
    refine lv_iconst (v := 1) hx hb dJx4a65c_add_72be8_17 (by decide) ?_
    refine lv_iadd hx hb dJx4a65c_add_72be8_18 ?_
    refine lv_topi (fun z_14 ez_14 => ?_)
    have hz_14 : iv 1 80 z_14 := iv_of ez_14 (iv_add hvsz (iv_k (by decide) : iv 1 1 1) (by decide))
    have tz_14 : z_14.toInt = (sz : Int32).toInt + 1 := by rw [ez_14]; exact iv_addE hvsz (iv_k (by decide) : iv 1 1 1) (by decide)
    refine cr_putg (t := 11) (j := 2) (C := RJx4a65c) (T := TJx4a65c) (N := 3) (ty0 := tyJx4a65c) (k := 41) (y := z_14) hx hb htb inJx4a65c tyJx4a65c_ok nmJx4a65c hown hK hP hD hS hvx (by decide) (by decide) (by decide) (by decide) rfl rfl (by decide) (htb _ kw_678) rfl (by show Value.int z_14 = Value.int (va_up gm_13 41 (upd (gm_13 41) x.toNatClampNeg z_14) 41 x.toNatClampNeg); rw [va_up_self, upd_at]) rfl rfl dJx4a65c_add_72be8_19 (fun gm_15 H locs egm_15 hP hD hS => ?_)
    have hI_gm_15 := CI_st hI_gm_13 egm_15 hz_14 (by decide)
    refine W.widen (k := gc gm gm_15 0) (n := gs gm gm_15 0) (gc_e (show gm_15 42 = gmv_11 42 from (Eq.trans (up_ne egm_15 (by decide)) (up_ne egm_13 (by decide)))) (by decide)) (gs_e (show gm_15 42 = gmv_11 42 from (Eq.trans (up_ne egm_15 (by decide)) (up_ne egm_13 (by decide)))) (by decide)) ?_
    have hm_16 : PHs gm ≤ PHs gm_15 := by rw [PHs_e (show gm_15 42 = gmv_11 42 from (Eq.trans (up_ne egm_15 (by decide)) (up_ne egm_13 (by decide))))]; exact hm_12
    exact W.nb (fun hN => W.widen (k := 91441) (n := 365887) (Nat.le_trans (gc_l0 (gm := gm) (k := 0) hI_gm_15) (Nat.le_of_ble_eq_true rfl)) (Nat.le_trans (gs_l0 (gm := gm) (k := 0) hI_gm_15) (Nat.le_of_ble_eq_true rfl)) (vx_ret (W.vret hx hb hr (fun t ht hW => ⟨⟨none, (a2v_11, lxv_11, sg, gm_15, lg), rfl, ⟨rfl, a2v_11, lxv_11, sg, gm_15, lg, rfl, hI_gm_15, KS_rf, (KS_up (KS_up (KS_tr (L := [41, 42, 57]) KS_rf kgv_11 (by decide)) egm_13 (by decide)) egm_15 (by decide)), KS_rf, (⟨z_14, by rw [(show gm_15 41 = upd (gmv_11 41) x.toNatClampNeg z_14 from (by rw [show gm_15 41 = _ from up_at egm_15, show gm_13 41 = gmv_11 41 from up_ne egm_13 (by decide)])), (show gmv_11 41 = gm 41 from (show KS [42, 57] gm gmv_11 from (KS_tr (L := [42, 57]) KS_rf kgv_11 (by decide))) 41 (by decide))], by omega⟩), (by { have kz : sz.toNatClampNeg = (gm 41 x.toNatClampNeg).toNatClampNeg := (by rw [hs9]); rw [(show gm_15 57 = upd (gmv_11 57) (128 * x.toNatClampNeg + sz.toNatClampNeg) el from (by rw [show gm_15 57 = gm_13 57 from up_ne egm_15 (by decide)]; exact up_at egm_13)), kz, upd_at] }), (fun j9 q9 => by { have kz : sz.toNatClampNeg = (gm 41 x.toNatClampNeg).toNatClampNeg := (by rw [hs9]); rw [(show gm_15 57 = upd (gmv_11 57) (128 * x.toNatClampNeg + sz.toNatClampNeg) el from (by rw [show gm_15 57 = gm_13 57 from up_ne egm_15 (by decide)]; exact up_at egm_13)), upd_ne (by omega)]; exact f57_r_9 j9 (by have q1 : (gm 42 x.toNatClampNeg).toNatClampNeg = (gm 42 x.toNatClampNeg).toInt.toNat := rfl; have q2 : (gm 41 x.toNatClampNeg).toNatClampNeg = (gm 41 x.toNatClampNeg).toInt.toNat := rfl; omega) }), (fun q2 q9 j9 q8 => by { rw [(show gm_15 57 = upd (gmv_11 57) (128 * x.toNatClampNeg + sz.toNatClampNeg) el from (by rw [show gm_15 57 = gm_13 57 from up_ne egm_15 (by decide)]; exact up_at egm_13)), upd_ne (by omega)]; exact f57n_r_9 q2 q9 j9 q8 }), (LDI_add hLDc (show gm_15 57 = upd (gmv_11 57) (128 * x.toNatClampNeg + sz.toNatClampNeg) el from (by rw [show gm_15 57 = gm_13 57 from up_ne egm_15 (by decide)]; exact up_at egm_13)) (show gm_15 41 = upd (gmv_11 41) x.toNatClampNeg z_14 from (by rw [show gm_15 41 = _ from up_at egm_15, show gm_13 41 = gmv_11 41 from up_ne egm_13 (by decide)])) (show gm_15 42 = gmv_11 42 from (up_ne egm_15 (by decide)).trans (up_ne egm_13 (by decide))) (by rw [(show gmv_11 41 = gm 41 from (show KS [42, 57] gm gmv_11 from (KS_tr (L := [42, 57]) KS_rf kgv_11 (by decide))) 41 (by decide))]; omega) (by rw [(show gmv_11 41 = gm 41 from (show KS [42, 57] gm gmv_11 from (KS_tr (L := [42, 57]) KS_rf kgv_11 (by decide))) 41 (by decide))]; exact k41.1) (by rw [(show gmv_11 41 = gm 41 from (show KS [42, 57] gm gmv_11 from (KS_tr (L := [42, 57]) KS_rf kgv_11 (by decide))) 41 (by decide)), hs9]) (by rw [(show gmv_11 41 = gm 41 from (show KS [42, 57] gm gmv_11 from (KS_tr (L := [42, 57]) KS_rf kgv_11 (by decide))) 41 (by decide))]; exact hltc) hvel.1)⟩, ⟨by rw [ht]; exact hP, va_K.moved hW.alike hK, hD⟩, hm_16, by rw [ht]; exact hN⟩, hS.F ht⟩) hS.2.2 dJx4a65c_add_72be8_22)))

set_option maxHeartbeats 4000000 in
set_option maxRecDepth 100000 in
theorem d_ladd (l : Launch) (dC : Nat → ClassId) (dI : Nat → Nat → Nat) (ad : Nat → Nat → Nat) (cid : Nat → ClassId) (a2 : Nat → Nat) (lx : List Nat) (sg : Nat → Int32) (gm : Nat → Nat → Int32) (lg : Nat → Nat → Int64) (x : Int32) (el : Int32) (hI : CI sg gm) (hvx : iv 0 239 x) (hvel : iv 0 79 el) (hLD : LDI lx gm) (hsz : (gm 41 x.toNatClampNeg).toInt < 80) : CMg dC dI ad cid l yJx4a65c_add_9ea2d wm_Jx4a65c_add_9ea2d ({ frames := 10, cells := 121921, slots := 487807, locals := 247 }) [eV (ad 11) x, eV (ad 9) el] a2 lx sg gm lg 0 121921 487807 (fun v u => ∃ r : Int32, v = some (.int r) ∧ ∃ (a22 : Nat → Nat) (lx2 : List Nat), ∃ (sg2 : Nat → Int32) (gm2 : Nat → Nat → Int32) (lg2 : Nat → Nat → Int64), u = (a22, lx2, sg2, gm2, lg2) ∧ CI sg2 gm2 ∧ KS [] sg sg2 ∧ KS [40, 41, 42, 57] gm gm2 ∧ KS [] lg lg2 ∧ (iv 0 1 r) ∧ (∃ z9 : Int32, gm2 41 = upd (gm 41) x.toNatClampNeg z9 ∧ z9.toInt = (gm 41 x.toNatClampNeg).toInt + 1) ∧ (gm2 57 (128 * x.toNatClampNeg + (gm 41 x.toNatClampNeg).toNatClampNeg) = el) ∧ (∀ j9, j9 < (gm 41 x.toNatClampNeg).toNatClampNeg → gm2 57 (128 * x.toNatClampNeg + j9) = gm 57 (128 * x.toNatClampNeg + j9)) ∧ (∀ q2, q2 ≠ x.toNatClampNeg → ∀ j9, j9 < 128 → gm2 57 (128 * q2 + j9) = gm 57 (128 * q2 + j9)) ∧ (LDI lx2 gm2)) (fun _ _ => False) := by
  intro sz
  refine vx_ofW (cc := cJx4a65c_add_9ea2d) (maxL := 2) (ret := (some .boolean)) (by decide) rfl ?_
  intro p e s m args below meth c s₁ B hml hxt hv
  obtain ⟨rfl, hsz, hP, hK, hD0, hG⟩ := hv
  have hx := B.exec
  have hb := B.bytes
  have hr := B.returns
  have hts := atoms_spec (ws := wm_Jx4a65c_add_9ea2d) B.pre
  have htb := fun (w : Cond) (h : w ∈ tb) => hts w (List.mem_cons_of_mem _ h)
  have hown : s.vm.findClass RJx4a65c = some m.cls := findClass_of_methodNamed B.named
  have hlocks := B.notSynchronized
  subst hsz
  have hD := hD0.self (sz := s.heap.size)
  generalize hAe : va_A (cW ad cid a2 lx sg gm lg) s.heap.size = A at hD hG ⊢
  have hA : ∀ q : Nat, s.heap.size ≤ q → A q := fun q h => by rw [← hAe]; exact Or.inr h
  have hS : va_S A s.heap s.heap [] := va_S.rf
  have hl := lv_entry ([eV (ad 11) x, eV (ad 9) el]) (n := 2) (by rw [show (lg_sl ([eV (ad 11) x, eV (ad 9) el])).length = 2 from by simp [lg_sl, eV_cat, cat_i, cat_l]]; exact Nat.le_of_ble_eq_true rfl)
  rw [lg_entry_eq]
  generalize (lg_sl ([eV (ad 11) x, eV (ad 9) el]) ++ List.replicate (2 - (lg_sl ([eV (ad 11) x, eV (ad 9) el])).length) Slot.unset).toArray = ls at hl ⊢
  have hl : lv_has ls 2 [(0, eV (ad 11) x), (1, eV (ad 9) el)] := by simp [lv_args, eV_cat, cat_i, cat_l] at hl; exact hl
  refine W.widen (k := gc gm gm 0) (n := gs gm gm 0) (Nat.zero_le _) (Nat.zero_le _) ?_
  refine ec_aload_n hx hb dJx4a65c_add_9ea2d_0 rfl (lv_at hl 0 rfl) ?_
  refine lv_dup hx hb dJx4a65c_add_9ea2d_1 (eV_cat _ _) ?_
  refine cl_getM hx hb htb hown hK hP hvx (by decide) (htb _ kw_676) dJx4a65c_add_9ea2d_2 ?_
  refine lv_topi (fun z_1 ez_1 => ?_)
  refine lv_iconst (v := 1) hx hb dJx4a65c_add_9ea2d_5 (by decide) ?_
  refine lv_iadd hx hb dJx4a65c_add_9ea2d_6 ?_
  refine lv_topi (fun z_2 ez_2 => ?_)
  refine cl_putM (y := z_2) hx hb htb hown hK hP hD hS hvx (by decide) (htb _ kw_676) dJx4a65c_add_9ea2d_7 (fun gm_3 H locs egm_3 hP hD hS => ?_)
  have hI_gm_3 := CI_st hI egm_3 (iv_fl z_2) (by decide)
  refine ec_aload_n hx hb dJx4a65c_add_9ea2d_10 rfl (lv_at hl 0 rfl) ?_
  refine ec_aload_n hx hb dJx4a65c_add_9ea2d_11 rfl (lv_at hl 1 rfl) ?_
  refine ec_aload_n hx hb dJx4a65c_add_9ea2d_12 rfl (lv_at hl 0 rfl) ?_
  refine cr_get (t := 11) (j := 1) (C := RJx4a65c) (T := TJx4a65c) (N := 3) (v := dV ad a2 gm_3 x.toNatClampNeg) hx hb htb inJx4a65c hown hK hP hvx (by decide) (by decide) (by decide) rfl (by decide) (htb _ kw_105) rfl dJx4a65c_add_9ea2d_13 ?_
  refine ec_aload_n hx hb dJx4a65c_add_9ea2d_16 rfl (lv_at hl 0 rfl) ?_
  refine cr_get (t := 11) (j := 2) (C := RJx4a65c) (T := TJx4a65c) (N := 3) (v := .int (gm_3 41 x.toNatClampNeg)) hx hb htb inJx4a65c hown hK hP hvx (by decide) (by decide) (by decide) rfl (by decide) (htb _ kw_678) rfl dJx4a65c_add_9ea2d_17 ?_
  obtain ⟨z_4, ez_4⟩ : ∃ z : Int32, z = (gm_3 41 x.toNatClampNeg) := ⟨_, rfl⟩
  refine W.eq (g2 := F0 m 20 ls [.int z_4, dV ad a2 gm_3 x.toNatClampNeg, eV (ad 9) el, eV (ad 11) x]) (by rw [ez_4]) ?_
  have hz_4 : iv 0 80 z_4 := iv_of ez_4 (CI_a hI_gm_3 41 hvx (by decide))
  have ez_4 := ez_4.trans (congrFun (up_ne egm_3 (by decide)) _)
  have h_5 : iv 0 79 z_4 := ⟨(hz_4).1, by rw [ez_4]; omega⟩
  refine W.widen (k := gc gm gm_3 0) (n := gs gm gm_3 0) (gc_e (show gm_3 42 = gm 42 from (up_ne egm_3 (by decide))) (by decide)) (gs_e (show gm_3 42 = gm 42 from (up_ne egm_3 (by decide))) (by decide)) ?_
  have hm_6 : PHs gm ≤ PHs gm_3 := by rw [PHs_e (show gm_3 42 = gm 42 from (up_ne egm_3 (by decide)))]; exact (Nat.le_refl _)
  refine cm_callGV (t := 11) (C := RJx4a65c) (T := TJx4a65c) (N := 3) (rest := []) (as := [eV (ad 9) el, dV ad a2 gm_3 x.toNatClampNeg, .int z_4]) ⟨hx, hb, hml, hown, htb⟩ (d_ladd3 l dC dI ad cid a2 lx sg gm_3 lg x el z_4 hI_gm_3 hvx hvel h_5 (LDI_e hLD (up_ne egm_3 (by decide)) (up_ne egm_3 (by decide)) (up_ne egm_3 (by decide))) (by rw [(up_ne egm_3 (by decide))]; exact hsz) (by rw [ez_4, (up_ne egm_3 (by decide))])) (cwV 3 htb (gd_V kw_749 kw_750 kw_751 kw_98 kw_1501) rfl rfl rfl (by decide +kernel) ⟨Nat.le_of_ble_eq_true rfl, Nat.le_of_ble_eq_true rfl⟩) hvx (by decide) (by decide) rfl rfl hl.1 rfl (Nat.le_trans cs_n (by decide)) dJx4a65c_add_9ea2d_20 ⟨Nat.le_trans (gc_le hI_gm_3) (Nat.le_of_ble_eq_true rfl), Nat.le_trans (gs_le hI_gm_3) (Nat.le_of_ble_eq_true rfl)⟩ hK hP hD hS hA hG (fun E ce q9 u_8 H locs hw hmu hP hD hS hce hcv hcl => ?_) (fun v9 u_8 H locs hw hmu hP hD hS => ?_)
  · exact hw.elim
  obtain ⟨rfl, a2v_9, lxv_9, sgv_9, gmv_9, lgv_9, rfl, hIv_9, ksv_9, kgv_9, klv_9, f41_r_7, f57e_r_7, f57_r_7, f57n_r_7, fLD_r_7⟩ := hw
  obtain rfl := KS_nil ksv_9
  obtain rfl := KS_nil klv_9
  have hP : va_P (dC, dI) vwCl (cW ad cid a2v_9 lxv_9 sg gmv_9 lg) H := hP
  have hD : va_D A (cW ad cid a2v_9 lxv_9 sg gmv_9 lg) := hD
  have hmu : PHs gm_3 ≤ PHs gmv_9 := hmu
  rw [show (gc gm gm_3 0 + gc gm_3 gmv_9 0) = gc gm gmv_9 0 from gc_t hm_6 hmu, show (gs gm gm_3 0 + gs gm_3 gmv_9 0) = gs gm gmv_9 0 from gs_t hm_6 hmu]
  have hm_10 : PHs gm ≤ PHs gmv_9 := Nat.le_trans hm_6 hmu
  refine W.eq (g2 := F0 m 23 ls []) rfl ?_
  refine lv_iconst (v := 1) hx hb dJx4a65c_add_9ea2d_23 (by decide) ?_
  exact W.nb (fun hN => W.widen (k := 121921) (n := 487807) (Nat.le_trans (gc_l0 (gm := gm) (k := 0) hIv_9) (Nat.le_of_ble_eq_true rfl)) (Nat.le_trans (gs_l0 (gm := gm) (k := 0) hIv_9) (Nat.le_of_ble_eq_true rfl)) (vx_ret (W.zret (v := 1) hx hb hr (iv_nb (iv_w (iv_k (by decide) : iv 1 1 1) (by decide))) (fun t ht hW => ⟨⟨some (.int 1), (a2v_9, lxv_9, sg, gmv_9, lg), rfl, ⟨1, rfl, a2v_9, lxv_9, sg, gmv_9, lg, rfl, hIv_9, KS_rf, (KS_tr (L := [40, 41, 42, 57]) (KS_up KS_rf egm_3 (by decide)) kgv_9 (by decide)), KS_rf, (iv_w (iv_k (by decide) : iv 1 1 1) (by decide)), ((by rw [← (show gm_3 41 = gm 41 from (up_ne egm_3 (by decide)))]; exact f41_r_7)), ((by rw [← (show gm_3 41 = gm 41 from (up_ne egm_3 (by decide)))]; exact f57e_r_7)), ((by rw [← (show gm_3 41 = gm 41 from (up_ne egm_3 (by decide))), ← (show gm_3 57 = gm 57 from (up_ne egm_3 (by decide)))]; exact f57_r_7)), ((by rw [← (show gm_3 57 = gm 57 from (up_ne egm_3 (by decide)))]; exact f57n_r_7)), (fLD_r_7)⟩, ⟨by rw [ht]; exact hP, va_K.moved hW.alike hK, hD⟩, hm_10, by rw [ht]; exact hN⟩, hS.F ht⟩) hS.2.2 dJx4a65c_add_9ea2d_24)))
