section

theorem dJx4a65c_grow_92f84_0 : decode cJx4a65c_grow_92f84 0 = .ok (.aload_n 0, 1) := by decide +kernel
theorem dJx4a65c_grow_92f84_1 : decode cJx4a65c_grow_92f84 1 = .ok (.getfield 9, 3) := by decide +kernel
theorem dJx4a65c_grow_92f84_4 : decode cJx4a65c_grow_92f84 4 = .ok (.arraylength, 1) := by decide +kernel
theorem dJx4a65c_grow_92f84_5 : decode cJx4a65c_grow_92f84 5 = .ok (.istore_n 2, 1) := by decide +kernel
theorem dJx4a65c_grow_92f84_6 : decode cJx4a65c_grow_92f84 6 = .ok (.iload_n 2, 1) := by decide +kernel
theorem dJx4a65c_grow_92f84_7 : decode cJx4a65c_grow_92f84 7 = .ok (.ifCond .gt 13, 3) := by decide +kernel
theorem dJx4a65c_grow_92f84_10 : decode cJx4a65c_grow_92f84 10 = .ok (.aload_n 0, 1) := by decide +kernel
theorem dJx4a65c_grow_92f84_11 : decode cJx4a65c_grow_92f84 11 = .ok (.getfield 9, 3) := by decide +kernel
theorem dJx4a65c_grow_92f84_14 : decode cJx4a65c_grow_92f84 14 = .ok (.getstatic 39, 3) := by decide +kernel
theorem dJx4a65c_grow_92f84_17 : decode cJx4a65c_grow_92f84 17 = .ok (.if_acmp .eq 28, 3) := by decide +kernel
theorem dJx4a65c_grow_92f84_20 : decode cJx4a65c_grow_92f84 20 = .ok (.iload_n 2, 1) := by decide +kernel
theorem dJx4a65c_grow_92f84_21 : decode cJx4a65c_grow_92f84 21 = .ok (.iload_n 1, 1) := by decide +kernel
theorem dJx4a65c_grow_92f84_22 : decode cJx4a65c_grow_92f84 22 = .ok (.iload_n 2, 1) := by decide +kernel
theorem dJx4a65c_grow_92f84_23 : decode cJx4a65c_grow_92f84 23 = .ok (.isub, 1) := by decide +kernel
theorem dJx4a65c_grow_92f84_24 : decode cJx4a65c_grow_92f84 24 = .ok (.iload_n 2, 1) := by decide +kernel
theorem dJx4a65c_grow_92f84_25 : decode cJx4a65c_grow_92f84 25 = .ok (.iconst 1, 1) := by decide +kernel
theorem dJx4a65c_grow_92f84_26 : decode cJx4a65c_grow_92f84 26 = .ok (.ishr, 1) := by decide +kernel
theorem dJx4a65c_grow_92f84_27 : decode cJx4a65c_grow_92f84 27 = .ok (.invokestatic 73, 3) := by decide +kernel
theorem dJx4a65c_grow_92f84_30 : decode cJx4a65c_grow_92f84 30 = .ok (.istore_n 3, 1) := by decide +kernel
theorem dJx4a65c_grow_92f84_31 : decode cJx4a65c_grow_92f84 31 = .ok (.aload_n 0, 1) := by decide +kernel
theorem dJx4a65c_grow_92f84_32 : decode cJx4a65c_grow_92f84 32 = .ok (.aload_n 0, 1) := by decide +kernel
theorem dJx4a65c_grow_92f84_33 : decode cJx4a65c_grow_92f84 33 = .ok (.getfield 9, 3) := by decide +kernel
theorem dJx4a65c_grow_92f84_36 : decode cJx4a65c_grow_92f84 36 = .ok (.iload_n 3, 1) := by decide +kernel
theorem dJx4a65c_grow_92f84_37 : decode cJx4a65c_grow_92f84 37 = .ok (.invokestatic 66, 3) := by decide +kernel
theorem dJx4a65c_grow_92f84_40 : decode cJx4a65c_grow_92f84 40 = .ok (.dup_x1, 1) := by decide +kernel
theorem dJx4a65c_grow_92f84_41 : decode cJx4a65c_grow_92f84 41 = .ok (.putfield 9, 3) := by decide +kernel
theorem dJx4a65c_grow_92f84_44 : decode cJx4a65c_grow_92f84 44 = .ok (.areturn, 1) := by decide +kernel
theorem dJx4a65c_grow_92f84_45 : decode cJx4a65c_grow_92f84 45 = .ok (.aload_n 0, 1) := by decide +kernel
theorem dJx4a65c_grow_92f84_46 : decode cJx4a65c_grow_92f84 46 = .ok (.bipush 10, 2) := by decide +kernel
theorem dJx4a65c_grow_92f84_48 : decode cJx4a65c_grow_92f84 48 = .ok (.iload_n 1, 1) := by decide +kernel
theorem dJx4a65c_grow_92f84_49 : decode cJx4a65c_grow_92f84 49 = .ok (.invokestatic 79, 3) := by decide +kernel
theorem dJx4a65c_grow_92f84_52 : decode cJx4a65c_grow_92f84 52 = .ok (.anewarray 7, 3) := by decide +kernel
theorem dJx4a65c_grow_92f84_55 : decode cJx4a65c_grow_92f84 55 = .ok (.dup_x1, 1) := by decide +kernel
theorem dJx4a65c_grow_92f84_56 : decode cJx4a65c_grow_92f84 56 = .ok (.putfield 9, 3) := by decide +kernel
theorem dJx4a65c_grow_92f84_59 : decode cJx4a65c_grow_92f84 59 = .ok (.areturn, 1) := by decide +kernel
theorem dJx4a65c_grow_d5877_0 : decode cJx4a65c_grow_d5877 0 = .ok (.aload_n 0, 1) := by decide +kernel
theorem dJx4a65c_grow_d5877_1 : decode cJx4a65c_grow_d5877 1 = .ok (.aload_n 0, 1) := by decide +kernel
theorem dJx4a65c_grow_d5877_2 : decode cJx4a65c_grow_d5877 2 = .ok (.getfield 48, 3) := by decide +kernel
theorem dJx4a65c_grow_d5877_5 : decode cJx4a65c_grow_d5877 5 = .ok (.iconst 1, 1) := by decide +kernel
theorem dJx4a65c_grow_d5877_6 : decode cJx4a65c_grow_d5877 6 = .ok (.iadd, 1) := by decide +kernel
theorem dJx4a65c_grow_d5877_7 : decode cJx4a65c_grow_d5877 7 = .ok (.invokevirtual 69, 3) := by decide +kernel
theorem dJx4a65c_grow_d5877_10 : decode cJx4a65c_grow_d5877 10 = .ok (.areturn, 1) := by decide +kernel
theorem dJx4a65c_add_72be8_0 : decode cJx4a65c_add_72be8 0 = .ok (.iload_n 3, 1) := by decide +kernel
theorem dJx4a65c_add_72be8_1 : decode cJx4a65c_add_72be8 1 = .ok (.aload_n 2, 1) := by decide +kernel
theorem dJx4a65c_add_72be8_2 : decode cJx4a65c_add_72be8 2 = .ok (.arraylength, 1) := by decide +kernel
theorem dJx4a65c_add_72be8_3 : decode cJx4a65c_add_72be8 3 = .ok (.if_icmp .ne 8, 3) := by decide +kernel
theorem dJx4a65c_add_72be8_6 : decode cJx4a65c_add_72be8 6 = .ok (.aload_n 0, 1) := by decide +kernel
theorem dJx4a65c_add_72be8_7 : decode cJx4a65c_add_72be8 7 = .ok (.invokevirtual 129, 3) := by decide +kernel
theorem dJx4a65c_add_72be8_10 : decode cJx4a65c_add_72be8 10 = .ok (.astore_n 2, 1) := by decide +kernel
theorem dJx4a65c_add_72be8_11 : decode cJx4a65c_add_72be8 11 = .ok (.aload_n 2, 1) := by decide +kernel
theorem dJx4a65c_add_72be8_12 : decode cJx4a65c_add_72be8 12 = .ok (.iload_n 3, 1) := by decide +kernel
theorem dJx4a65c_add_72be8_13 : decode cJx4a65c_add_72be8 13 = .ok (.aload_n 1, 1) := by decide +kernel
theorem dJx4a65c_add_72be8_14 : decode cJx4a65c_add_72be8 14 = .ok (.aastore, 1) := by decide +kernel
theorem dJx4a65c_add_72be8_15 : decode cJx4a65c_add_72be8 15 = .ok (.aload_n 0, 1) := by decide +kernel
theorem dJx4a65c_add_72be8_16 : decode cJx4a65c_add_72be8 16 = .ok (.iload_n 3, 1) := by decide +kernel
theorem dJx4a65c_add_72be8_17 : decode cJx4a65c_add_72be8 17 = .ok (.iconst 1, 1) := by decide +kernel
theorem dJx4a65c_add_72be8_18 : decode cJx4a65c_add_72be8 18 = .ok (.iadd, 1) := by decide +kernel
theorem dJx4a65c_add_72be8_19 : decode cJx4a65c_add_72be8 19 = .ok (.putfield 48, 3) := by decide +kernel
theorem dJx4a65c_add_72be8_22 : decode cJx4a65c_add_72be8 22 = .ok (.return_, 1) := by decide +kernel
theorem dJx4a65c_add_9ea2d_0 : decode cJx4a65c_add_9ea2d 0 = .ok (.aload_n 0, 1) := by decide +kernel
theorem dJx4a65c_add_9ea2d_1 : decode cJx4a65c_add_9ea2d 1 = .ok (.dup, 1) := by decide +kernel
theorem dJx4a65c_add_9ea2d_2 : decode cJx4a65c_add_9ea2d 2 = .ok (.getfield 63, 3) := by decide +kernel
theorem dJx4a65c_add_9ea2d_5 : decode cJx4a65c_add_9ea2d 5 = .ok (.iconst 1, 1) := by decide +kernel
theorem dJx4a65c_add_9ea2d_6 : decode cJx4a65c_add_9ea2d 6 = .ok (.iadd, 1) := by decide +kernel
theorem dJx4a65c_add_9ea2d_7 : decode cJx4a65c_add_9ea2d 7 = .ok (.putfield 63, 3) := by decide +kernel
theorem dJx4a65c_add_9ea2d_10 : decode cJx4a65c_add_9ea2d 10 = .ok (.aload_n 0, 1) := by decide +kernel
theorem dJx4a65c_add_9ea2d_11 : decode cJx4a65c_add_9ea2d 11 = .ok (.aload_n 1, 1) := by decide +kernel
theorem dJx4a65c_add_9ea2d_12 : decode cJx4a65c_add_9ea2d 12 = .ok (.aload_n 0, 1) := by decide +kernel
theorem dJx4a65c_add_9ea2d_13 : decode cJx4a65c_add_9ea2d 13 = .ok (.getfield 9, 3) := by decide +kernel
theorem dJx4a65c_add_9ea2d_16 : decode cJx4a65c_add_9ea2d 16 = .ok (.aload_n 0, 1) := by decide +kernel
theorem dJx4a65c_add_9ea2d_17 : decode cJx4a65c_add_9ea2d 17 = .ok (.getfield 48, 3) := by decide +kernel
theorem dJx4a65c_add_9ea2d_20 : decode cJx4a65c_add_9ea2d 20 = .ok (.invokevirtual 131, 3) := by decide +kernel
theorem dJx4a65c_add_9ea2d_23 : decode cJx4a65c_add_9ea2d 23 = .ok (.iconst 1, 1) := by decide +kernel
theorem dJx4a65c_add_9ea2d_24 : decode cJx4a65c_add_9ea2d 24 = .ok (.ireturn, 1) := by decide +kernel

section LDL
variable {p : Program} {l : Launch} {e : Env} {R : Room} {s : State} {m : MethodId} {args : Array Value} {below : List Frame} {meth : Method} {c : Code} {H : Heap} {locs : List Loc} {cells slots : Nat} {Q : State → Prop} {cc : ByteArray} {pc : Nat} {ls : Array Slot} {rest : List Value} {A : Nat → Prop}
variable {dC : Nat → ClassId} {dI : Nat → Nat → Nat} {ad : Nat → Nat → Nat} {cid : Nat → ClassId} {a2 : Nat → Nat} {lx : List Nat} {sg : Nat → Int32} {gm : Nat → Nat → Int32} {lg : Nat → Nat → Int64}
theorem cl_dlen {q : Nat} (hexec : p.tables.exec = Jvm.exec) (hb : c.code = cc) (hG : CE ad A s) (hK : va_K (dC, dI) vwCl (cT cid) s) (hP : va_P (dC, dI) vwCl (cW ad cid a2 lx sg gm lg) H) (hS : va_S A s.heap H locs) (hI : CI sg gm) (hq : q < 240) (hl : ¬ (gm 42 q).toInt = 0 → q ∈ lx) (hdg : decode cc pc = .ok (.arraylength, 1))
    (kk : W p l e R s m args below meth c H locs cells slots Q (F0 m (pc + 1) ls (.int (gm 42 q) :: rest))) : W p l e R s m args below meth c H locs cells slots Q (F0 m pc ls (dV ad a2 gm q :: rest)) := by
  obtain ⟨k1, k2, k3, k4⟩ := cap_of hI hq
  by_cases h0 : (gm 42 q).toInt = 0
  · unfold dV
    rw [if_pos h0]
    exact va_tlen hexec hb hG.2.1.2.2.2.2.2 hS (by rw [← k4]; congr 1; omega) hdg kk
  · rw [dV_n h0]
    obtain ⟨i, hi⟩ := List.getElem?_of_mem (hl h0)
    exact va_alen (D := (dC, dI)) hexec hb hK hP _ 32 (cW_lat hi) (cT_at (by decide)) k4 hdg kk
end LDL
theorem nD_0 {ad : Nat → Nat → Nat} {cid : Nat → ClassId} {gm : Nat → Nat → Int32} {q N : Nat} (h : (gm 42 q).toNatClampNeg = 0) : nD ad cid gm q N = .inl (cid 32, N, .inr (.inr (.inr (.inr (fun _ => none))))) := by
  unfold nD
  rw [h, show va_cpy (cDr ad gm q) (fun _ => none) 0 0 0 = (fun _ => none) from funext fun k => by unfold va_cpy; rw [if_neg (by omega)]]
theorem LDI_add {lx : List Nat} {gm gm2 : Nat → Nat → Int32} {q n : Nat} {z el : Int32} (h : LDI lx gm) (e57 : gm2 57 = upd (gm 57) (128 * q + n) el) (e41 : gm2 41 = upd (gm 41) q z) (e42 : gm2 42 = gm 42) (hz : z.toInt = (gm 41 q).toInt + 1) (h0 : 0 ≤ (gm 41 q).toInt) (hn : n = (gm 41 q).toNatClampNeg) (hc : (gm 41 q).toInt < (gm 42 q).toInt) (hel : 0 ≤ el.toInt) : LDI lx gm2 := fun q2 h2 => by
  obtain ⟨b1, b2, b3⟩ := h q2 h2
  have hk : n = (gm 41 q).toInt.toNat := hn
  rw [e41, e42, e57]
  by_cases e9 : q2 = q
  · subst e9
    rw [upd_at]
    refine ⟨by omega, b2, fun j hj => ?_⟩
    have hz2 : z.toNatClampNeg = z.toInt.toNat := rfl
    by_cases ej : j = n
    · rw [ej, upd_at]; exact hel
    · rw [upd_ne (by omega)]; exact b3 j (by have : (gm 41 q2).toNatClampNeg = (gm 41 q2).toInt.toNat := rfl; omega)
  · rw [upd_ne e9]
    refine ⟨b1, b2, fun j hj => ?_⟩
    by_cases ej : 128 * q2 + j = 128 * q + n
    · rw [ej, upd_at]; exact hel
    · rw [upd_ne ej]; exact b3 j hj

set_option maxHeartbeats 4000000 in
set_option maxRecDepth 100000 in
theorem d_grow1 (l : Launch) (dC : Nat → ClassId) (dI : Nat → Nat → Nat) (ad : Nat → Nat → Nat) (cid : Nat → ClassId) (a2 : Nat → Nat) (lx : List Nat) (sg : Nat → Int32) (gm : Nat → Nat → Int32) (lg : Nat → Nat → Int64) (x : Int32) (mn : Int32) (hI : CI sg gm) (hvx : iv 0 239 x) (hvmn : iv 1 80 mn) (hLD : LDI lx gm) (hcap : (gm 42 x.toNatClampNeg).toInt = (gm 41 x.toNatClampNeg).toInt) (hsz : (gm 41 x.toNatClampNeg).toInt < 80) (hmn : mn.toInt = (gm 41 x.toNatClampNeg).toInt + 1) : CMg dC dI ad cid l yJx4a65c_grow_92f84 wm_Jx4a65c_grow_92f84 ({ frames := 7, cells := 30481, slots := 122047, locals := 181 }) [eV (ad 11) x, .int mn] a2 lx sg gm lg 0 30481 122047 (fun v u => ∃ r : Nat, v = some (.ref r) ∧ ∃ (a22 : Nat → Nat) (lx2 : List Nat), ∃ (sg2 : Nat → Int32) (gm2 : Nat → Nat → Int32) (lg2 : Nat → Nat → Int64), u = (a22, lx2, sg2, gm2, lg2) ∧ CI sg2 gm2 ∧ KS [] sg sg2 ∧ KS [42, 57] gm gm2 ∧ KS [] lg lg2 ∧ (r = a22 x.toNatClampNeg) ∧ ((gm 42 x.toNatClampNeg).toInt < (gm2 42 x.toNatClampNeg).toInt) ∧ (∀ j9, j9 < (gm 42 x.toNatClampNeg).toNatClampNeg → gm2 57 (128 * x.toNatClampNeg + j9) = gm 57 (128 * x.toNatClampNeg + j9)) ∧ (∀ q2, q2 ≠ x.toNatClampNeg → ∀ j9, j9 < 128 → gm2 57 (128 * q2 + j9) = gm 57 (128 * q2 + j9)) ∧ (LDI lx2 gm2)) (fun _ _ => False) := by
  intro sz
  refine vx_ofW (cc := cJx4a65c_grow_92f84) (maxL := 4) (ret := (some (.array (.object "java/lang/Object")))) (by decide) rfl ?_
  intro p e s m args below meth c s₁ B hml hxt hv
  obtain ⟨rfl, hsz, hP, hK, hD0, hG⟩ := hv
  have hx := B.exec
  have hb := B.bytes
  have hr := B.returns
  have hts := atoms_spec (ws := wm_Jx4a65c_grow_92f84) B.pre
  have htb := fun (w : Cond) (h : w ∈ tb) => hts w (List.mem_cons_of_mem _ h)
  have hown : s.vm.findClass RJx4a65c = some m.cls := findClass_of_methodNamed B.named
  have hlocks := B.notSynchronized
  subst hsz
  have hD := hD0.self (sz := s.heap.size)
  generalize hAe : va_A (cW ad cid a2 lx sg gm lg) s.heap.size = A at hD hG ⊢
  have hA : ∀ q : Nat, s.heap.size ≤ q → A q := fun q h => by rw [← hAe]; exact Or.inr h
  have hS : va_S A s.heap s.heap [] := va_S.rf
  have hl := lv_entry ([eV (ad 11) x, .int mn]) (n := 4) (by rw [show (lg_sl ([eV (ad 11) x, .int mn])).length = 2 from by simp [lg_sl, eV_cat, cat_i, cat_l]]; exact Nat.le_of_ble_eq_true rfl)
  rw [lg_entry_eq]
  generalize (lg_sl ([eV (ad 11) x, .int mn]) ++ List.replicate (4 - (lg_sl ([eV (ad 11) x, .int mn])).length) Slot.unset).toArray = ls at hl ⊢
  have hl : lv_has ls 4 [(0, eV (ad 11) x), (1, .int mn)] := by simp [lv_args, eV_cat, cat_i, cat_l] at hl; exact hl
  refine W.widen (k := gc gm gm 0) (n := gs gm gm 0) (Nat.zero_le _) (Nat.zero_le _) ?_
  refine ec_aload_n hx hb dJx4a65c_grow_92f84_0 rfl (lv_at hl 0 rfl) ?_
  refine cr_get (t := 11) (j := 1) (C := RJx4a65c) (T := TJx4a65c) (N := 3) (v := dV ad a2 gm x.toNatClampNeg) hx hb htb inJx4a65c hown hK hP hvx (by decide) (by decide) (by decide) rfl (by decide) (htb _ kw_105) rfl dJx4a65c_grow_92f84_1 ?_
  refine cl_dlen hx hb hG hK hP hS hI (by have := iv_cl hvx (by decide); have := hvx.2; omega) (hLD _ (by have := iv_cl hvx (by decide); have := hvx.2; omega)).2.1 dJx4a65c_grow_92f84_4 ?_
  refine lv_topi (fun z_1 ez_1 => ?_)
  have hz_1 : iv 0 127 z_1 := iv_of ez_1 (show iv 0 127 _ from CI_a hI 42 hvx (by decide))
  have cz_1 := congrArg Int32.toInt ez_1
  refine lv_istore_n (i := 2) (lv' := [(2, .int z_1), (0, eV (ad 11) x), (1, .int mn)]) hx hb dJx4a65c_grow_92f84_5 rfl hl (by decide) rfl (fun ls hl => ?_)
  refine lv_iload_n hx hb dJx4a65c_grow_92f84_6 rfl (lv_at hl 0 rfl) ?_
  refine lv_if_gt (tgt := 20) hx hb dJx4a65c_grow_92f84_7 (by decide) (fun c_2 => ?_) (fun c_2 => ?_)
  · have h_3 : iv 1 127 z_1 := iv_ltR c_2 (iv_k (by decide) : iv 0 0 0) hz_1 (by decide)
    have h_4 : iv 1 79 z_1 := ⟨by have := i32_0; have := i32_1; have := i32_2; have := i32_m1; have := (hvx).1; have := (hvx).2; have := (hvmn).1; have := (hvmn).2; have := (h_3).1; have := (h_3).2; omega, by have := i32_0; have := i32_1; have := i32_2; have := i32_m1; have := (hvx).1; have := (hvx).2; have := (hvmn).1; have := (hvmn).2; have := (h_3).1; have := (h_3).2; omega⟩
    refine lv_iload_n hx hb dJx4a65c_grow_92f84_20 rfl (lv_at hl 0 rfl) ?_
    refine lv_iload_n hx hb dJx4a65c_grow_92f84_21 rfl (lv_at hl 2 rfl) ?_
    refine lv_iload_n hx hb dJx4a65c_grow_92f84_22 rfl (lv_at hl 0 rfl) ?_
    refine lv_isub hx hb dJx4a65c_grow_92f84_23 ?_
    refine lv_topi (fun z_5 ez_5 => ?_)
    have hz_5 : iv (-78) 79 z_5 := iv_of ez_5 (iv_sub hvmn h_4 (by decide))
    have tz_5 : z_5.toInt = (mn : Int32).toInt - (z_1 : Int32).toInt := by rw [ez_5]; exact iv_subE hvmn h_4 (by decide)
    have h_6 : iv 1 1 z_5 := ⟨by have := i32_0; have := i32_1; have := i32_2; have := i32_m1; have := (hvx).1; have := (hvx).2; have := (hvmn).1; have := (hvmn).2; have := (h_4).1; have := (h_4).2; have := (hz_5).1; have := (hz_5).2; omega, by have := i32_0; have := i32_1; have := i32_2; have := i32_m1; have := (hvx).1; have := (hvx).2; have := (hvmn).1; have := (hvmn).2; have := (h_4).1; have := (h_4).2; have := (hz_5).1; have := (hz_5).2; omega⟩
    refine lv_iload_n hx hb dJx4a65c_grow_92f84_24 rfl (lv_at hl 0 rfl) ?_
    refine lv_iconst (v := 1) hx hb dJx4a65c_grow_92f84_25 (by decide) ?_
    refine lv_ishr hx hb dJx4a65c_grow_92f84_26 ?_
    refine lv_topi (fun z_7 ez_7 => ?_)
    have tz_7 : z_7.toInt = z_1.toInt / 2 := by rw [ez_7]; exact shr1 (iv_w h_4 (by decide))
    have hz_7 : iv 0 54 z_7 := by { have q1 := (h_4).1; have q2 := (h_4).2; exact ⟨by omega, by omega⟩ }
    refine cm_callTS (rest := []) (as := [.int z_1, .int z_5, .int z_7]) ⟨hx, hb, hml, hown, htb⟩ (d_newLength l dC dI ad cid a2 lx sg gm lg z_1 z_5 z_7 hI (iv_w h_4 (by decide)) (iv_w h_6 (by decide)) hz_7) (va_cwS 3 htb (gd_S kw_762 kw_763 kw_764 kw_1505) rfl rfl rfl (by decide +kernel) ⟨Nat.le_of_ble_eq_true rfl, Nat.le_of_ble_eq_true rfl⟩)  rfl hl.1 rfl (Nat.le_trans cs_n (by decide)) dJx4a65c_grow_92f84_27 ⟨Nat.le_trans (gc_le hI) (Nat.le_of_ble_eq_true rfl), Nat.le_trans (gs_le hI) (Nat.le_of_ble_eq_true rfl)⟩ hK hP hD hS hA hG (fun E ce q9 u_9 H locs hw hP hD hS hce hcv hcl => ?_) (fun v9 u_9 H locs hw hP hD hS => ?_)
    · exact hw.elim
    obtain ⟨r_8, rfl, rfl, hr_8, fN_r_8⟩ := hw
    have hP : va_P (dC, dI) vwCl (cW ad cid a2 lx sg gm lg) H := hP
    have hD : va_D A (cW ad cid a2 lx sg gm lg) := hD
    refine W.eq (g2 := F0 m 30 ls [.int r_8]) rfl ?_
    refine lv_istore_n (i := 3) (lv' := [(3, .int r_8), (2, .int z_1), (0, eV (ad 11) x), (1, .int mn)]) hx hb dJx4a65c_grow_92f84_30 rfl hl (by decide) rfl (fun ls hl => ?_)
    refine ec_aload_n hx hb dJx4a65c_grow_92f84_31 rfl (lv_at hl 2 rfl) ?_
    refine ec_aload_n hx hb dJx4a65c_grow_92f84_32 rfl (lv_at hl 2 rfl) ?_
    refine cr_get (t := 11) (j := 1) (C := RJx4a65c) (T := TJx4a65c) (N := 3) (v := dV ad a2 gm x.toNatClampNeg) hx hb htb inJx4a65c hown hK hP hvx (by decide) (by decide) (by decide) rfl (by decide) (htb _ kw_105) rfl dJx4a65c_grow_92f84_33 ?_
    refine lv_iload_n hx hb dJx4a65c_grow_92f84_36 rfl (lv_at hl 0 rfl) ?_
    have hc1 : ¬ (gm 42 x.toNatClampNeg).toInt = 0 := by have := i32_0; have := i32_1; have := i32_2; have := i32_m1; have := (hvx).1; have := (hvx).2; have := (hvmn).1; have := (hvmn).2; have := (h_4).1; have := (h_4).2; have := (h_6).1; have := (h_6).2; have := (hz_7).1; have := (hz_7).2; have := (hr_8).1; have := (hr_8).2; omega
    have hn118 : iv 2 118 r_8 := by { have fq := fN_r_8; exact ⟨by have := i32_0; have := i32_1; have := i32_2; have := i32_m1; have := (hvx).1; have := (hvx).2; have := (hvmn).1; have := (hvmn).2; have := (h_4).1; have := (h_4).2; have := (h_6).1; have := (h_6).2; have := (hz_7).1; have := (hz_7).2; have := (hr_8).1; have := (hr_8).2; have := tz_7; omega, by have := i32_0; have := i32_1; have := i32_2; have := i32_m1; have := (hvx).1; have := (hvx).2; have := (hvmn).1; have := (hvmn).2; have := (h_4).1; have := (h_4).2; have := (h_6).1; have := (h_6).2; have := (hz_7).1; have := (hz_7).2; have := (hr_8).1; have := (hr_8).2; have := tz_7; omega⟩ }
    have hroom : r_8.toInt ≤ 4 * (r_8.toInt - (gm 42 x.toNatClampNeg).toInt) ∧ (gm 42 x.toNatClampNeg).toInt < r_8.toInt := by { have fq := fN_r_8; exact ⟨by have := i32_0; have := i32_1; have := i32_2; have := i32_m1; have := (hvx).1; have := (hvx).2; have := (hvmn).1; have := (hvmn).2; have := (h_4).1; have := (h_4).2; have := (h_6).1; have := (h_6).2; have := (hz_7).1; have := (hz_7).2; have := (hr_8).1; have := (hr_8).2; have := tz_7; omega, by have := i32_0; have := i32_1; have := i32_2; have := i32_m1; have := (hvx).1; have := (hvx).2; have := (hvmn).1; have := (hvmn).2; have := (h_4).1; have := (h_4).2; have := (h_6).1; have := (h_6).2; have := (hz_7).1; have := (hz_7).2; have := (hr_8).1; have := (hr_8).2; have := tz_7; omega⟩ }
    have hFc := cfree hD hS hA
    obtain ⟨i9, hi9⟩ := List.getElem?_of_mem ((hLD _ (by have := iv_cl hvx (by decide); have := hvx.2; omega)).2.1 hc1)
    refine W.eq (g2 := F0 m 37 ls [.int r_8, .ref (a2 x.toNatClampNeg), eV (ad 11) x]) (by rw [dV_n hc1]) ?_
    refine cm_goN (q := x.toNatClampNeg) (N := r_8.toNatClampNeg) (vx_runS (cells := gc gm gm 0) (slots := gs gm gm 0) (As := [.ref (a2 x.toNatClampNeg), .int r_8]) (rest := [eV (ad 11) x]) ⟨hx, hb, hml, hown, htb⟩ (d_copyOf2 l dC dI ad cid a2 lx sg gm lg x.toNatClampNeg i9 r_8 hI (by have := iv_cl hvx (by decide); have := hvx.2; omega) hi9 (iv_w hn118 (by decide)) (by omega) H.size) (va_cwS 2 htb (gd_S kw_769 kw_770 kw_771 kw_1507) rfl rfl rfl (by decide +kernel) ⟨Nat.le_of_ble_eq_true rfl, Nat.le_of_ble_eq_true rfl⟩) ⟨CPre_blind, fun U hU hW => ⟨rfl, by rw [hU], by rw [hU]; exact hP, va_K.moved hW.alike hK, hD.weaken (fun _ _ _ _ => trivial), hG.go hS hFc hU hW⟩⟩ rfl rfl hl.1 rfl (lv_room (Nat.le_trans (cs_c (eV_cat _ _) cs_n) (by decide))) dJx4a65c_grow_92f84_37 ⟨Nat.le_trans (gc_le hI) (Nat.le_of_ble_eq_true rfl), Nat.le_trans (gs_le hI) (Nat.le_of_ble_eq_true rfl)⟩) hD hS hA (fun ar_11 H locs hP hD hS => ?_)
    refine lv_dup_x1 hx hb dJx4a65c_grow_92f84_40 rfl (eV_cat _ _) ?_
    refine cl_putD (n := r_8) hx hb htb hown hK hP hD hS hvx (by decide) (by have := hn118.1; omega) (Nat.le_trans (cap_of hI (by have := iv_cl hvx (by decide); have := hvx.2; omega)).1 (by decide)) (htb _ kw_105) dJx4a65c_grow_92f84_41 (fun H locs hP hD hS => ?_)
    obtain ⟨gmG, egG⟩ : ∃ z, z = gG gm x.toNatClampNeg r_8 := ⟨_, rfl⟩
    rw [← egG] at hP hD
    have hIG : CI sg gmG := by rw [egG]; exact CI_gG hI (iv_w hn118 (by decide) : iv 0 127 r_8)
    have hkG : KS [42, 57] gm gmG := fun k9 q9 => by rw [egG]; exact gG_k (fun e9 => by rw [e9] at q9; exact absurd q9 (by decide)) (fun e9 => by rw [e9] at q9; exact absurd q9 (by decide))
    have hpg := PHs_gG (gm := gm) (q := x.toNatClampNeg) (n := r_8) (by have := iv_cl hvx (by decide); have := hvx.2; omega)
    rw [← egG] at hpg
    obtain ⟨kc1, kc2, kc3, kc4⟩ := cap_of hI (show x.toNatClampNeg < 240 from by have := iv_cl hvx (by decide); have := hvx.2; omega)
    have kn : r_8.toNatClampNeg = r_8.toInt.toNat := rfl
    have hmG : PHs gm ≤ PHs gmG := by omega
    refine W.widen (k := gc gm gmG 0) (n := gs gm gmG 0) (by unfold gc PH; omega) (by unfold gs PH; omega) ?_
    exact W.nb (fun hN => W.widen (k := 30481) (n := 122047) (Nat.le_trans (gc_l0 (gm := gm) (k := 0) hIG) (Nat.le_of_ble_eq_true rfl)) (Nat.le_trans (gs_l0 (gm := gm) (k := 0) hIG) (Nat.le_of_ble_eq_true rfl)) (vx_ret (W.aret (v := .ref ar_11) hx hb hr (Or.inr ⟨_, rfl⟩) (Or.inr ⟨_, rfl⟩) (fun t ht hW => ⟨⟨some (.ref ar_11), ((va_up a2 x.toNatClampNeg ar_11), (lG lx x.toNatClampNeg), sg, gmG, lg), rfl, ⟨ar_11, rfl, (va_up a2 x.toNatClampNeg ar_11), (lG lx x.toNatClampNeg), sg, gmG, lg, rfl, hIG, KS_rf, (KS_tr (L := [42, 57]) KS_rf hkG (by decide)), KS_rf, (by rw [va_up_self]), (by rw [egG, gG_42, upd_at]; omega), (fun j9 q9 => by rw [egG]; exact gG_lt q9), (fun q2 q9 j9 q8 => by rw [egG]; exact gG_ne q9 q8), (by rw [egG]; exact LDI_gG hI hLD (by omega))⟩, ⟨by rw [ht]; exact hP, va_K.moved hW.alike hK, hD⟩, hmG, by rw [ht]; exact hN⟩, hS.F ht⟩) hS.2.2 dJx4a65c_grow_92f84_44)))
  · have h_12 : iv 0 0 z_1 := iv_leL (i32_ge c_2) hz_1 (iv_k (by decide) : iv 0 0 0) (by decide)
    refine ec_aload_n hx hb dJx4a65c_grow_92f84_10 rfl (lv_at hl 1 rfl) ?_
    refine cr_get (t := 11) (j := 1) (C := RJx4a65c) (T := TJx4a65c) (N := 3) (v := dV ad a2 gm x.toNatClampNeg) hx hb htb inJx4a65c hown hK hP hvx (by decide) (by decide) (by decide) rfl (by decide) (htb _ kw_105) rfl dJx4a65c_grow_92f84_11 ?_
    refine va_gets hx hb hG.2.1.2.2.2.2.1 hS hown (htb _ kw_104) (fun _ h9 => h9) dJx4a65c_grow_92f84_14 ?_
    have hc0 : (gm 42 x.toNatClampNeg).toInt = 0 := by have := i32_0; have := i32_1; have := i32_2; have := i32_m1; have := (hvx).1; have := (hvx).2; have := (hvmn).1; have := (hvmn).2; have := (h_12).1; have := (h_12).2; omega
    refine W.eq (g2 := F0 m 17 ls [.ref (ad 34 0), .ref (ad 34 0)]) (by unfold dV; rw [if_pos hc0]) ?_
    refine lv_acmp_eq (rx := some (ad 34 0)) (ry := some (ad 34 0)) (tgt := 45) hx hb dJx4a65c_grow_92f84_17 (by decide) (fun _ => ?_) (fun q9 => absurd rfl q9)
    refine ec_aload_n hx hb dJx4a65c_grow_92f84_45 rfl (lv_at hl 1 rfl) ?_
    refine lv_bipush (v := 10) hx hb dJx4a65c_grow_92f84_46 (by decide) ?_
    refine lv_iload_n hx hb dJx4a65c_grow_92f84_48 rfl (lv_at hl 2 rfl) ?_
    refine va_mmax hx hb (hml.trans hl.1.symm) hown (htb _ kw_758) (htb _ kw_759) (htb _ kw_760) (htb _ kw_1504) (Nat.le_of_ble_eq_true rfl) (Nat.le_trans (Nat.add_le_add_right (show _ ≤ 8 from (Nat.le_trans (cs_c (eV_cat _ _) cs_n) (by decide))) _) (Nat.le_of_ble_eq_true rfl)) (Nat.le_trans (gc_l0 (gm := gm) (k := 0) hI) (Nat.le_of_ble_eq_true rfl)) (Nat.le_trans (gs_l0 (gm := gm) (k := 0) hI) (Nat.le_of_ble_eq_true rfl)) dJx4a65c_grow_92f84_49 ?_
    refine lv_topi (fun z_13 ez_13 => ?_)
    have xz_13 := mmax_i ez_13
    have hz_13 : iv 10 80 z_13 := by { have q1 := ((iv_k (by decide) : iv 10 10 10)).1; have q2 := ((iv_k (by decide) : iv 10 10 10)).2; have q3 := (hvmn).1; have q4 := (hvmn).2; exact ⟨by omega, by omega⟩ }
    have hn118 : iv 10 118 z_13 := ⟨by have := i32_0; have := i32_1; have := i32_2; have := i32_m1; have := (hvx).1; have := (hvx).2; have := (hvmn).1; have := (hvmn).2; have := (h_12).1; have := (h_12).2; have := (hz_13).1; have := (hz_13).2; omega, by have := i32_0; have := i32_1; have := i32_2; have := i32_m1; have := (hvx).1; have := (hvx).2; have := (hvmn).1; have := (hvmn).2; have := (h_12).1; have := (h_12).2; have := (hz_13).1; have := (hz_13).2; omega⟩
    have hn9 : z_13.toNatClampNeg = z_13.toInt.toNat := rfl
    have hn10 := hn118.1
    have hn11 := hn118.2
    have hroom : z_13.toInt ≤ 4 * (z_13.toInt - (gm 42 x.toNatClampNeg).toInt) ∧ (gm 42 x.toNatClampNeg).toInt < z_13.toInt := ⟨by omega, by omega⟩
    refine va_newq (D := (dC, dI)) (N' := z_13.toNatClampNeg) (C := "java/lang/Object") hx hb hown (htb _ kw_761) hG.2.1.2.2.2.1.1 hK hP hD hS hA (fun q9 => by have := Int32.lt_iff_toInt_lt.mp q9; have z0 : (0 : Int32).toInt = 0 := (by decide); omega) rfl (by omega) (Nat.le_trans (gc_le hI) (Nat.le_of_ble_eq_true rfl)) (Nat.le_trans (Nat.add_le_add_left (show z_13.toNatClampNeg ≤ 127 from by omega) _) (Nat.le_trans (gs_le hI) (Nat.le_of_ble_eq_true rfl))) dJx4a65c_grow_92f84_52 (fun ar_14 cA_15 H hK2 hP hD hS => ?_)
    obtain rfl : cA_15 = cid 32 := cA_eq hK hK2
    have hc00 : (gm 42 x.toNatClampNeg).toNatClampNeg = 0 := by have q9 : (gm 42 x.toNatClampNeg).toNatClampNeg = (gm 42 x.toNatClampNeg).toInt.toNat := rfl; omega
    rw [← nD_0 (ad := ad) (cid := cid) hc00] at hP hD
    refine lv_dup_x1 hx hb dJx4a65c_grow_92f84_55 rfl (eV_cat _ _) ?_
    refine cl_putD (n := z_13) hx hb htb hown hK hP hD hS hvx (by decide) (by have := hn118.1; omega) (Nat.le_trans (cap_of hI (by have := iv_cl hvx (by decide); have := hvx.2; omega)).1 (by decide)) (htb _ kw_105) dJx4a65c_grow_92f84_56 (fun H locs hP hD hS => ?_)
    obtain ⟨gmG, egG⟩ : ∃ z, z = gG gm x.toNatClampNeg z_13 := ⟨_, rfl⟩
    rw [← egG] at hP hD
    have hIG : CI sg gmG := by rw [egG]; exact CI_gG hI (iv_w hn118 (by decide) : iv 0 127 z_13)
    have hkG : KS [42, 57] gm gmG := fun k9 q9 => by rw [egG]; exact gG_k (fun e9 => by rw [e9] at q9; exact absurd q9 (by decide)) (fun e9 => by rw [e9] at q9; exact absurd q9 (by decide))
    have hpg := PHs_gG (gm := gm) (q := x.toNatClampNeg) (n := z_13) (by have := iv_cl hvx (by decide); have := hvx.2; omega)
    rw [← egG] at hpg
    obtain ⟨kc1, kc2, kc3, kc4⟩ := cap_of hI (show x.toNatClampNeg < 240 from by have := iv_cl hvx (by decide); have := hvx.2; omega)
    have kn : z_13.toNatClampNeg = z_13.toInt.toNat := rfl
    have hmG : PHs gm ≤ PHs gmG := by omega
    refine W.widen (k := gc gm gmG 0) (n := gs gm gmG 0) (by unfold gc PH; omega) (by unfold gs PH; omega) ?_
    exact W.nb (fun hN => W.widen (k := 30481) (n := 122047) (Nat.le_trans (gc_l0 (gm := gm) (k := 0) hIG) (Nat.le_of_ble_eq_true rfl)) (Nat.le_trans (gs_l0 (gm := gm) (k := 0) hIG) (Nat.le_of_ble_eq_true rfl)) (vx_ret (W.aret (v := .ref ar_14) hx hb hr (Or.inr ⟨_, rfl⟩) (Or.inr ⟨_, rfl⟩) (fun t ht hW => ⟨⟨some (.ref ar_14), ((va_up a2 x.toNatClampNeg ar_14), (lG lx x.toNatClampNeg), sg, gmG, lg), rfl, ⟨ar_14, rfl, (va_up a2 x.toNatClampNeg ar_14), (lG lx x.toNatClampNeg), sg, gmG, lg, rfl, hIG, KS_rf, (KS_tr (L := [42, 57]) KS_rf hkG (by decide)), KS_rf, (by rw [va_up_self]), (by rw [egG, gG_42, upd_at]; omega), (fun j9 q9 => by rw [egG]; exact gG_lt q9), (fun q2 q9 j9 q8 => by rw [egG]; exact gG_ne q9 q8), (by rw [egG]; exact LDI_gG hI hLD (by omega))⟩, ⟨by rw [ht]; exact hP, va_K.moved hW.alike hK, hD⟩, hmG, by rw [ht]; exact hN⟩, hS.F ht⟩) hS.2.2 dJx4a65c_grow_92f84_59)))

set_option maxHeartbeats 4000000 in
set_option maxRecDepth 100000 in
theorem d_grow0 (l : Launch) (dC : Nat → ClassId) (dI : Nat → Nat → Nat) (ad : Nat → Nat → Nat) (cid : Nat → ClassId) (a2 : Nat → Nat) (lx : List Nat) (sg : Nat → Int32) (gm : Nat → Nat → Int32) (lg : Nat → Nat → Int64) (x : Int32) (hI : CI sg gm) (hvx : iv 0 239 x) (hLD : LDI lx gm) (hcap : (gm 42 x.toNatClampNeg).toInt = (gm 41 x.toNatClampNeg).toInt) (hsz : (gm 41 x.toNatClampNeg).toInt < 80) : CMg dC dI ad cid l yJx4a65c_grow_d5877 wm_Jx4a65c_grow_d5877 ({ frames := 8, cells := 60961, slots := 243967, locals := 204 }) [eV (ad 11) x] a2 lx sg gm lg 0 60961 243967 (fun v u => ∃ r : Nat, v = some (.ref r) ∧ ∃ (a22 : Nat → Nat) (lx2 : List Nat), ∃ (sg2 : Nat → Int32) (gm2 : Nat → Nat → Int32) (lg2 : Nat → Nat → Int64), u = (a22, lx2, sg2, gm2, lg2) ∧ CI sg2 gm2 ∧ KS [] sg sg2 ∧ KS [42, 57] gm gm2 ∧ KS [] lg lg2 ∧ (r = a22 x.toNatClampNeg) ∧ ((gm 42 x.toNatClampNeg).toInt < (gm2 42 x.toNatClampNeg).toInt) ∧ (∀ j9, j9 < (gm 42 x.toNatClampNeg).toNatClampNeg → gm2 57 (128 * x.toNatClampNeg + j9) = gm 57 (128 * x.toNatClampNeg + j9)) ∧ (∀ q2, q2 ≠ x.toNatClampNeg → ∀ j9, j9 < 128 → gm2 57 (128 * q2 + j9) = gm 57 (128 * q2 + j9)) ∧ (LDI lx2 gm2)) (fun _ _ => False) := by
  intro sz
  refine vx_ofW (cc := cJx4a65c_grow_d5877) (maxL := 1) (ret := (some (.array (.object "java/lang/Object")))) (by decide) rfl ?_
  intro p e s m args below meth c s₁ B hml hxt hv
  obtain ⟨rfl, hsz, hP, hK, hD0, hG⟩ := hv
  have hx := B.exec
  have hb := B.bytes
  have hr := B.returns
  have hts := atoms_spec (ws := wm_Jx4a65c_grow_d5877) B.pre
  have htb := fun (w : Cond) (h : w ∈ tb) => hts w (List.mem_cons_of_mem _ h)
  have hown : s.vm.findClass RJx4a65c = some m.cls := findClass_of_methodNamed B.named
  have hlocks := B.notSynchronized
  subst hsz
  have hD := hD0.self (sz := s.heap.size)
  generalize hAe : va_A (cW ad cid a2 lx sg gm lg) s.heap.size = A at hD hG ⊢
  have hA : ∀ q : Nat, s.heap.size ≤ q → A q := fun q h => by rw [← hAe]; exact Or.inr h
  have hS : va_S A s.heap s.heap [] := va_S.rf
  have hl := lv_entry ([eV (ad 11) x]) (n := 1) (by rw [show (lg_sl ([eV (ad 11) x])).length = 1 from by simp [lg_sl, eV_cat, cat_i, cat_l]]; exact Nat.le_of_ble_eq_true rfl)
  rw [lg_entry_eq]
  generalize (lg_sl ([eV (ad 11) x]) ++ List.replicate (1 - (lg_sl ([eV (ad 11) x])).length) Slot.unset).toArray = ls at hl ⊢
  have hl : lv_has ls 1 [(0, eV (ad 11) x)] := by simp [lv_args, eV_cat, cat_i, cat_l] at hl; exact hl
  refine W.widen (k := gc gm gm 0) (n := gs gm gm 0) (Nat.zero_le _) (Nat.zero_le _) ?_
  refine ec_aload_n hx hb dJx4a65c_grow_d5877_0 rfl (lv_at hl 0 rfl) ?_
  refine ec_aload_n hx hb dJx4a65c_grow_d5877_1 rfl (lv_at hl 0 rfl) ?_
  refine cr_get (t := 11) (j := 2) (C := RJx4a65c) (T := TJx4a65c) (N := 3) (v := .int (gm 41 x.toNatClampNeg)) hx hb htb inJx4a65c hown hK hP hvx (by decide) (by decide) (by decide) rfl (by decide) (htb _ kw_678) rfl dJx4a65c_grow_d5877_2 ?_
  obtain ⟨z_1, ez_1⟩ : ∃ z : Int32, z = (gm 41 x.toNatClampNeg) := ⟨_, rfl⟩
  refine W.eq (g2 := F0 m 5 ls [.int z_1, eV (ad 11) x]) (by rw [ez_1]) ?_
  have hz_1 : iv 0 80 z_1 := iv_of ez_1 (CI_a hI 41 hvx (by decide))
  have h_2 : iv 0 79 z_1 := ⟨(hz_1).1, by rw [ez_1]; omega⟩
  refine lv_iconst (v := 1) hx hb dJx4a65c_grow_d5877_5 (by decide) ?_
  refine lv_iadd hx hb dJx4a65c_grow_d5877_6 ?_
  refine lv_topi (fun z_3 ez_3 => ?_)
  have hz_3 : iv 1 80 z_3 := iv_of ez_3 (iv_add h_2 (iv_k (by decide) : iv 1 1 1) (by decide))
  have tz_3 : z_3.toInt = (z_1 : Int32).toInt + 1 := by rw [ez_3]; exact iv_addE h_2 (iv_k (by decide) : iv 1 1 1) (by decide)
  refine cm_callGV (t := 11) (C := RJx4a65c) (T := TJx4a65c) (N := 3) (rest := []) (as := [.int z_3]) ⟨hx, hb, hml, hown, htb⟩ (d_grow1 l dC dI ad cid a2 lx sg gm lg x z_3 hI hvx hz_3 hLD hcap hsz (by have q9 := congrArg Int32.toInt ez_1; have := i32_0; have := i32_1; have := i32_2; have := i32_m1; have := (hvx).1; have := (hvx).2; have := (h_2).1; have := (h_2).2; have := (hz_3).1; have := (hz_3).2; omega)) (cwV 1 htb (gd_V kw_755 kw_756 kw_757 kw_98 kw_1503) rfl rfl rfl (by decide +kernel) ⟨Nat.le_of_ble_eq_true rfl, Nat.le_of_ble_eq_true rfl⟩) hvx (by decide) (by decide) rfl rfl hl.1 rfl (Nat.le_trans cs_n (by decide)) dJx4a65c_grow_d5877_7 ⟨Nat.le_trans (gc_le hI) (Nat.le_of_ble_eq_true rfl), Nat.le_trans (gs_le hI) (Nat.le_of_ble_eq_true rfl)⟩ hK hP hD hS hA hG (fun E ce q9 u_5 H locs hw hmu hP hD hS hce hcv hcl => ?_) (fun v9 u_5 H locs hw hmu hP hD hS => ?_)
  · exact hw.elim
  obtain ⟨r_4, rfl, a2v_6, lxv_6, sgv_6, gmv_6, lgv_6, rfl, hIv_6, ksv_6, kgv_6, klv_6, fR_r_4, fC_r_4, f57_r_4, f57n_r_4, fLD_r_4⟩ := hw
  obtain rfl := KS_nil ksv_6
  obtain rfl := KS_nil klv_6
  have hP : va_P (dC, dI) vwCl (cW ad cid a2v_6 lxv_6 sg gmv_6 lg) H := hP
  have hD : va_D A (cW ad cid a2v_6 lxv_6 sg gmv_6 lg) := hD
  have hmu : PHs gm ≤ PHs gmv_6 := hmu
  rw [show (gc gm gm 0 + gc gm gmv_6 0) = gc gm gmv_6 0 from gc_t (Nat.le_refl _) hmu, show (gs gm gm 0 + gs gm gmv_6 0) = gs gm gmv_6 0 from gs_t (Nat.le_refl _) hmu]
  have hm_7 : PHs gm ≤ PHs gmv_6 := Nat.le_trans (Nat.le_refl _) hmu
  refine W.eq (g2 := F0 m 10 ls [.ref r_4]) rfl ?_
  exact W.nb (fun hN => W.widen (k := 60961) (n := 243967) (Nat.le_trans (gc_l0 (gm := gm) (k := 0) hIv_6) (Nat.le_of_ble_eq_true rfl)) (Nat.le_trans (gs_l0 (gm := gm) (k := 0) hIv_6) (Nat.le_of_ble_eq_true rfl)) (vx_ret (W.aret (v := .ref r_4) hx hb hr (Or.inr ⟨_, rfl⟩) (Or.inr ⟨_, rfl⟩) (fun t ht hW => ⟨⟨some (.ref r_4), (a2v_6, lxv_6, sg, gmv_6, lg), rfl, ⟨r_4, rfl, a2v_6, lxv_6, sg, gmv_6, lg, rfl, hIv_6, KS_rf, (KS_tr (L := [42, 57]) KS_rf kgv_6 (by decide)), KS_rf, (fR_r_4), (fC_r_4), (f57_r_4), (f57n_r_4), (fLD_r_4)⟩, ⟨by rw [ht]; exact hP, va_K.moved hW.alike hK, hD⟩, hm_7, by rw [ht]; exact hN⟩, hS.F ht⟩) hS.2.2 dJx4a65c_grow_d5877_10)))

set_option maxHeartbeats 4000000 in
set_option maxRecDepth 100000 in
theorem d_ladd3 (l : Launch) (dC : Nat → ClassId) (dI : Nat → Nat → Nat) (ad : Nat → Nat → Nat) (cid : Nat → ClassId) (a2 : Nat → Nat) (lx : List Nat) (sg : Nat → Int32) (gm : Nat → Nat → Int32) (lg : Nat → Nat → Int64) (x : Int32) (el : Int32) (sz : Int32) (hI : CI sg gm) (hvx : iv 0 239 x) (hvel : iv 0 79 el) (hvsz : iv 0 79 sz) (hLD : LDI lx gm) (hsz : (gm 41 x.toNatClampNeg).toInt < 80) (hs9 : sz = gm 41 x.toNatClampNeg) : CMg dC dI ad cid l yJx4a65c_add_72be8 wm_Jx4a65c_add_72be8 ({ frames := 9, cells := 91441, slots := 365887, locals := 224 }) [eV (ad 11) x, eV (ad 9) el, dV ad a2 gm x.toNatClampNeg, .int sz] a2 lx sg gm lg 0 91441 365887 (fun v u => v = none ∧ ∃ (a22 : Nat → Nat) (lx2 : List Nat), ∃ (sg2 : Nat → Int32) (gm2 : Nat → Nat → Int32) (lg2 : Nat → Nat → Int64), u = (a22, lx2, sg2, gm2, lg2) ∧ CI sg2 gm2 ∧ KS [] sg sg2 ∧ KS [41, 42, 57] gm gm2 ∧ KS [] lg lg2 ∧ (∃ z9 : Int32, gm2 41 = upd (gm 41) x.toNatClampNeg z9 ∧ z9.toInt = (gm 41 x.toNatClampNeg).toInt + 1) ∧ (gm2 57 (128 * x.toNatClampNeg + (gm 41 x.toNatClampNeg).toNatClampNeg) = el) ∧ (∀ j9, j9 < (gm 41 x.toNatClampNeg).toNatClampNeg → gm2 57 (128 * x.toNatClampNeg + j9) = gm 57 (128 * x.toNatClampNeg + j9)) ∧ (∀ q2, q2 ≠ x.toNatClampNeg → ∀ j9, j9 < 128 → gm2 57 (128 * q2 + j9) = gm 57 (128 * q2 + j9)) ∧ (LDI lx2 gm2)) (fun _ _ => False) := by
  intro sz
  refine vx_ofW (cc := cJx4a65c_add_72be8) (maxL := 4) (ret := none) (by decide) rfl ?_
  intro p e s m args below meth c s₁ B hml hxt hv
  obtain ⟨rfl, hsz, hP, hK, hD0, hG⟩ := hv
  have hx := B.exec
  have hb := B.bytes
  have hr := B.returns
  have hts := atoms_spec (ws := wm_Jx4a65c_add_72be8) B.pre
  have htb := fun (w : Cond) (h : w ∈ tb) => hts w (List.mem_cons_of_mem _ h)
  have hown : s.vm.findClass RJx4a65c = some m.cls := findClass_of_methodNamed B.named
  have hlocks := B.notSynchronized
  subst hsz
  have hD := hD0.self (sz := s.heap.size)
  generalize hAe : va_A (cW ad cid a2 lx sg gm lg) s.heap.size = A at hD hG ⊢
  have hA : ∀ q : Nat, s.heap.size ≤ q → A q := fun q h => by rw [← hAe]; exact Or.inr h
  have hS : va_S A s.heap s.heap [] := va_S.rf
  have hl := lv_entry ([eV (ad 11) x, eV (ad 9) el, dV ad a2 gm x.toNatClampNeg, .int sz]) (n := 4) (by rw [show (lg_sl ([eV (ad 11) x, eV (ad 9) el, dV ad a2 gm x.toNatClampNeg, .int sz])).length = 4 from by simp [lg_sl, eV_cat, cat_i, cat_l, dV_cat]]; exact Nat.le_of_ble_eq_true rfl)
  rw [lg_entry_eq]
  generalize (lg_sl ([eV (ad 11) x, eV (ad 9) el, dV ad a2 gm x.toNatClampNeg, .int sz]) ++ List.replicate (4 - (lg_sl ([eV (ad 11) x, eV (ad 9) el, dV ad a2 gm x.toNatClampNeg, .int sz])).length) Slot.unset).toArray = ls at hl ⊢
  have hl : lv_has ls 4 [(0, eV (ad 11) x), (1, eV (ad 9) el), (2, dV ad a2 gm x.toNatClampNeg), (3, .int sz)] := by simp [lv_args, eV_cat, cat_i, cat_l, dV_cat] at hl; exact hl
  refine W.widen (k := gc gm gm 0) (n := gs gm gm 0) (Nat.zero_le _) (Nat.zero_le _) ?_
  refine lv_iload_n hx hb dJx4a65c_add_72be8_0 rfl (lv_at hl 3 rfl) ?_
  refine lv_aload_n hx hb dJx4a65c_add_72be8_1 rfl (lv_at hl 2 rfl) ?_
  refine W.eq (g2 := F0 m 2 ls [dV ad a2 gm x.toNatClampNeg, .int sz]) rfl ?_
  refine cl_dlen hx hb hG hK hP hS hI (by have := iv_cl hvx (by decide); have := hvx.2; omega) (hLD _ (by have := iv_cl hvx (by decide); have := hvx.2; omega)).2.1 dJx4a65c_add_72be8_2 ?_
  refine lv_topi (fun z_1 ez_1 => ?_)
  have hz_1 : iv 0 127 z_1 := iv_of ez_1 (show iv 0 127 _ from CI_a hI 42 hvx (by decide))
  have cz_1 := congrArg Int32.toInt ez_1
  refine lv_icmp_ne (tgt := 11) hx hb dJx4a65c_add_72be8_3 (by decide) (fun c_2 => ?_) (fun c_2 => ?_)
  · refine lv_aload_n hx hb dJx4a65c_add_72be8_11 rfl (lv_at hl 2 rfl) ?_
    refine W.eq (g2 := F0 m 12 ls [dV ad a2 gm x.toNatClampNeg]) rfl ?_
    refine lv_iload_n hx hb dJx4a65c_add_72be8_12 rfl (lv_at hl 3 rfl) ?_
    refine ec_aload_n hx hb dJx4a65c_add_72be8_13 rfl (lv_at hl 1 rfl) ?_
    have hX : x.toNatClampNeg < 240 := (by have := iv_cl hvx (by decide); have := hvx.2; omega)
    obtain ⟨kc1, kc2, kc3, kc4⟩ := cap_of hI hX
    have k41 := (show iv 0 80 (gm 41 x.toNatClampNeg) from CI_a hI 41 hvx (by decide))
    have ks9 := congrArg Int32.toInt hs9
    have hLDc := hLD
    have hnec : ¬ sz.toInt = z_1.toInt := fun q9 => c_2 (Int32.toInt_inj.mp q9)
    have hltc : (gm 41 x.toNatClampNeg).toInt < (gm 42 x.toNatClampNeg).toInt := by have := (hLD _ hX).1; have := i32_0; have := i32_1; have := i32_2; have := i32_m1; have := (hvx).1; have := (hvx).2; have := (hvel).1; have := (hvel).2; have := (hvsz).1; have := (hvsz).2; have := (hz_1).1; have := (hz_1).2; omega
    obtain ⟨kd1, kd2, kd3, kd4⟩ := cap_of hI hX
    have hcc : ¬ (gm 42 x.toNatClampNeg).toInt = 0 := by have := k41.1; omega
    have kcl := cl_0 (x := sz) (by have := k41.1; omega)
    refine cl_aast hx hb hG hK hP hD hS ((hLDc _ hX).2.1 hcc) hcc (vp_in_iff.mpr ⟨by have := k41.1; omega, by omega⟩) (by omega) hvel (by decide) dJx4a65c_add_72be8_14 (fun gm_3 H locs egm_3 hP hD hS => ?_)
    have hI_gm_3 := CI_st hI egm_3 hvel (by decide)
    refine ec_aload_n hx hb dJx4a65c_add_72be8_15 rfl (lv_at hl 0 rfl) ?_
    refine lv_iload_n hx hb dJx4a65c_add_72be8_16 rfl (lv_at hl 3 rfl) ?_
    refine lv_iconst (v := 1) hx hb dJx4a65c_add_72be8_17 (by decide) ?_
    refine lv_iadd hx hb dJx4a65c_add_72be8_18 ?_
    refine lv_topi (fun z_4 ez_4 => ?_)
    have hz_4 : iv 1 80 z_4 := iv_of ez_4 (iv_add hvsz (iv_k (by decide) : iv 1 1 1) (by decide))
    have tz_4 : z_4.toInt = (sz : Int32).toInt + 1 := by rw [ez_4]; exact iv_addE hvsz (iv_k (by decide) : iv 1 1 1) (by decide)
    refine cr_putg (t := 11) (j := 2) (C := RJx4a65c) (T := TJx4a65c) (N := 3) (ty0 := tyJx4a65c) (k := 41) (y := z_4) hx hb htb inJx4a65c tyJx4a65c_ok nmJx4a65c hown hK hP hD hS hvx (by decide) (by decide) (by decide) (by decide) rfl rfl (by decide) (htb _ kw_678) rfl (by show Value.int z_4 = Value.int (va_up gm_3 41 (upd (gm_3 41) x.toNatClampNeg z_4) 41 x.toNatClampNeg); rw [va_up_self, upd_at]) rfl rfl dJx4a65c_add_72be8_19 (fun gm_5 H locs egm_5 hP hD hS => ?_)
    have hI_gm_5 := CI_st hI_gm_3 egm_5 hz_4 (by decide)
    refine W.widen (k := gc gm gm_5 0) (n := gs gm gm_5 0) (gc_e (show gm_5 42 = gm 42 from (Eq.trans (up_ne egm_5 (by decide)) (up_ne egm_3 (by decide)))) (by decide)) (gs_e (show gm_5 42 = gm 42 from (Eq.trans (up_ne egm_5 (by decide)) (up_ne egm_3 (by decide)))) (by decide)) ?_
    have hm_6 : PHs gm ≤ PHs gm_5 := by rw [PHs_e (show gm_5 42 = gm 42 from (Eq.trans (up_ne egm_5 (by decide)) (up_ne egm_3 (by decide))))]; exact (Nat.le_refl _)
    exact W.nb (fun hN => W.widen (k := 91441) (n := 365887) (Nat.le_trans (gc_l0 (gm := gm) (k := 0) hI_gm_5) (Nat.le_of_ble_eq_true rfl)) (Nat.le_trans (gs_l0 (gm := gm) (k := 0) hI_gm_5) (Nat.le_of_ble_eq_true rfl)) (vx_ret (W.vret hx hb hr (fun t ht hW => ⟨⟨none, (a2, lx, sg, gm_5, lg), rfl, ⟨rfl, a2, lx, sg, gm_5, lg, rfl, hI_gm_5, KS_rf, (KS_up (KS_up KS_rf egm_3 (by decide)) egm_5 (by decide)), KS_rf, (⟨z_4, by rw [(show gm_5 41 = upd (gm 41) x.toNatClampNeg z_4 from (by rw [show gm_5 41 = _ from up_at egm_5, show gm_3 41 = gm 41 from up_ne egm_3 (by decide)])), (show gm 41 = gm 41 from rfl)], by omega⟩), (by { have kz : sz.toNatClampNeg = (gm 41 x.toNatClampNeg).toNatClampNeg := (by rw [hs9]); rw [(show gm_5 57 = upd (gm 57) (128 * x.toNatClampNeg + sz.toNatClampNeg) el from (by rw [show gm_5 57 = gm_3 57 from up_ne egm_5 (by decide)]; exact up_at egm_3)), kz, upd_at] }), (fun j9 q9 => by { have kz : sz.toNatClampNeg = (gm 41 x.toNatClampNeg).toNatClampNeg := (by rw [hs9]); rw [(show gm_5 57 = upd (gm 57) (128 * x.toNatClampNeg + sz.toNatClampNeg) el from (by rw [show gm_5 57 = gm_3 57 from up_ne egm_5 (by decide)]; exact up_at egm_3)), upd_ne (by omega)] }), (fun q2 q9 j9 q8 => by { rw [(show gm_5 57 = upd (gm 57) (128 * x.toNatClampNeg + sz.toNatClampNeg) el from (by rw [show gm_5 57 = gm_3 57 from up_ne egm_5 (by decide)]; exact up_at egm_3)), upd_ne (by omega)] }), (LDI_add hLDc (show gm_5 57 = upd (gm 57) (128 * x.toNatClampNeg + sz.toNatClampNeg) el from (by rw [show gm_5 57 = gm_3 57 from up_ne egm_5 (by decide)]; exact up_at egm_3)) (show gm_5 41 = upd (gm 41) x.toNatClampNeg z_4 from (by rw [show gm_5 41 = _ from up_at egm_5, show gm_3 41 = gm 41 from up_ne egm_3 (by decide)])) (show gm_5 42 = gm 42 from (up_ne egm_5 (by decide)).trans (up_ne egm_3 (by decide))) (by rw [(show gm 41 = gm 41 from rfl)]; omega) (by rw [(show gm 41 = gm 41 from rfl)]; exact k41.1) (by rw [(show gm 41 = gm 41 from rfl), hs9]) (by rw [(show gm 41 = gm 41 from rfl)]; exact hltc) hvel.1)⟩, ⟨by rw [ht]; exact hP, va_K.moved hW.alike hK, hD⟩, hm_6, by rw [ht]; exact hN⟩, hS.F ht⟩) hS.2.2 dJx4a65c_add_72be8_22)))
  · have d_7 : (sz : Int32).toInt = (z_1 : Int32).toInt := congrArg Int32.toInt c_2
    have h_8 : iv 0 79 z_1 := iv_eq (Eq.symm c_2) hz_1 hvsz (by decide)
    refine ec_aload_n hx hb dJx4a65c_add_72be8_6 rfl (lv_at hl 0 rfl) ?_
    refine cm_callGV (t := 11) (C := RJx4a65c) (T := TJx4a65c) (N := 3) (rest := []) (as := []) ⟨hx, hb, hml, hown, htb⟩ (d_grow0 l dC dI ad cid a2 lx sg gm lg x hI hvx hLD (by have q9 := congrArg Int32.toInt hs9; have := i32_0; have := i32_1; have := i32_2; have := i32_m1; have := (hvx).1; have := (hvx).2; have := (hvel).1; have := (hvel).2; have := (hvsz).1; have := (hvsz).2; have := (h_8).1; have := (h_8).2; omega) hsz) (cwV 0 htb (gd_V kw_752 kw_753 kw_754 kw_98 kw_1502) rfl rfl rfl (by decide +kernel) ⟨Nat.le_of_ble_eq_true rfl, Nat.le_of_ble_eq_true rfl⟩) hvx (by decide) (by decide) rfl rfl hl.1 rfl (Nat.le_trans cs_n (by decide)) dJx4a65c_add_72be8_7 ⟨Nat.le_trans (gc_le hI) (Nat.le_of_ble_eq_true rfl), Nat.le_trans (gs_le hI) (Nat.le_of_ble_eq_true rfl)⟩ hK hP hD hS hA hG (fun E ce q9 u_10 H locs hw hmu hP hD hS hce hcv hcl => ?_) (fun v9 u_10 H locs hw hmu hP hD hS => ?_)
    · exact hw.elim
    obtain ⟨r_9, rfl, a2v_11, lxv_11, sgv_11, gmv_11, lgv_11, rfl, hIv_11, ksv_11, kgv_11, klv_11, fR_r_9, fC_r_9, f57_r_9, f57n_r_9, fLD_r_9⟩ := hw
    obtain rfl := KS_nil ksv_11
    obtain rfl := KS_nil klv_11
    have hP : va_P (dC, dI) vwCl (cW ad cid a2v_11 lxv_11 sg gmv_11 lg) H := hP
    have hD : va_D A (cW ad cid a2v_11 lxv_11 sg gmv_11 lg) := hD
    have hmu : PHs gm ≤ PHs gmv_11 := hmu
    rw [show (gc gm gm 0 + gc gm gmv_11 0) = gc gm gmv_11 0 from gc_t (Nat.le_refl _) hmu, show (gs gm gm 0 + gs gm gmv_11 0) = gs gm gmv_11 0 from gs_t (Nat.le_refl _) hmu]
    have hm_12 : PHs gm ≤ PHs gmv_11 := Nat.le_trans (Nat.le_refl _) hmu
    refine W.eq (g2 := F0 m 10 ls [.ref r_9]) rfl ?_
    refine lv_astore_n (i := 2) (lv' := [(2, .ref r_9), (0, eV (ad 11) x), (1, eV (ad 9) el), (3, .int sz)]) hx hb dJx4a65c_add_72be8_10 rfl hl (by decide) (by simp [List.filter, eV_cat, cat_i, cat_l]) (fun ls hl => ?_)
    refine lv_aload_n hx hb dJx4a65c_add_72be8_11 rfl (lv_at hl 0 rfl) ?_
    have hcg : ¬ (gmv_11 42 x.toNatClampNeg).toInt = 0 := by have := fC_r_9; have := (cap_of hI (show x.toNatClampNeg < 240 from by have := iv_cl hvx (by decide); have := hvx.2; omega)).2.1; omega
    refine W.eq (g2 := F0 m 12 ls [dV ad a2v_11 gmv_11 x.toNatClampNeg]) (by rw [dV_n hcg, fR_r_9]) ?_
    refine lv_iload_n hx hb dJx4a65c_add_72be8_12 rfl (lv_at hl 3 rfl) ?_
    refine ec_aload_n hx hb dJx4a65c_add_72be8_13 rfl (lv_at hl 2 rfl) ?_
    have hX : x.toNatClampNeg < 240 := (by have := iv_cl hvx (by decide); have := hvx.2; omega)
    obtain ⟨kc1, kc2, kc3, kc4⟩ := cap_of hI hX
    have k41 := (show iv 0 80 (gm 41 x.toNatClampNeg) from CI_a hI 41 hvx (by decide))
    have ks9 := congrArg Int32.toInt hs9
    have hLDc := fLD_r_9
    have hltc : (gm 41 x.toNatClampNeg).toInt < (gmv_11 42 x.toNatClampNeg).toInt := by have := fC_r_9; omega
    obtain ⟨kd1, kd2, kd3, kd4⟩ := cap_of hIv_11 hX
    have hcc : ¬ (gmv_11 42 x.toNatClampNeg).toInt = 0 := by have := k41.1; omega
    have kcl := cl_0 (x := sz) (by have := k41.1; omega)
    refine cl_aast hx hb hG hK hP hD hS ((hLDc _ hX).2.1 hcc) hcc (vp_in_iff.mpr ⟨by have := k41.1; omega, by omega⟩) (by omega) hvel (by decide) dJx4a65c_add_72be8_14 (fun gm_13 H locs egm_13 hP hD hS => ?_)
    have hI_gm_13 := CI_st hIv_11 egm_13 hvel (by decide)
    refine ec_aload_n hx hb dJx4a65c_add_72be8_15 rfl (lv_at hl 1 rfl) ?_
    refine lv_iload_n hx hb dJx4a65c_add_72be8_16 rfl (lv_at hl 3 rfl) ?_
    refine lv_iconst (v := 1) hx hb dJx4a65c_add_72be8_17 (by decide) ?_
    refine lv_iadd hx hb dJx4a65c_add_72be8_18 ?_
    refine lv_topi (fun z_14 ez_14 => ?_)
    have hz_14 : iv 1 80 z_14 := iv_of ez_14 (iv_add hvsz (iv_k (by decide) : iv 1 1 1) (by decide))
    have tz_14 : z_14.toInt = (sz : Int32).toInt + 1 := by rw [ez_14]; exact iv_addE hvsz (iv_k (by decide) : iv 1 1 1) (by decide)
    refine cr_putg (t := 11) (j := 2) (C := RJx4a65c) (T := TJx4a65c) (N := 3) (ty0 := tyJx4a65c) (k := 41) (y := z_14) hx hb htb inJx4a65c tyJx4a65c_ok nmJx4a65c hown hK hP hD hS hvx (by decide) (by decide) (by decide) (by decide) rfl rfl (by decide) (htb _ kw_678) rfl (by show Value.int z_14 = Value.int (va_up gm_13 41 (upd (gm_13 41) x.toNatClampNeg z_14) 41 x.toNatClampNeg); rw [va_up_self, upd_at]) rfl rfl dJx4a65c_add_72be8_19 (fun gm_15 H locs egm_15 hP hD hS => ?_)
    have hI_gm_15 := CI_st hI_gm_13 egm_15 hz_14 (by decide)
    refine W.widen (k := gc gm gm_15 0) (n := gs gm gm_15 0) (gc_e (show gm_15 42 = gmv_11 42 from (Eq.trans (up_ne egm_15 (by decide)) (up_ne egm_13 (by decide)))) (by decide)) (gs_e (show gm_15 42 = gmv_11 42 from (Eq.trans (up_ne egm_15 (by decide)) (up_ne egm_13 (by decide)))) (by decide)) ?_
    have hm_16 : PHs gm ≤ PHs gm_15 := by rw [PHs_e (show gm_15 42 = gmv_11 42 from (Eq.trans (up_ne egm_15 (by decide)) (up_ne egm_13 (by decide))))]; exact hm_12
    exact W.nb (fun hN => W.widen (k := 91441) (n := 365887) (Nat.le_trans (gc_l0 (gm := gm) (k := 0) hI_gm_15) (Nat.le_of_ble_eq_true rfl)) (Nat.le_trans (gs_l0 (gm := gm) (k := 0) hI_gm_15) (Nat.le_of_ble_eq_true rfl)) (vx_ret (W.vret hx hb hr (fun t ht hW => ⟨⟨none, (a2v_11, lxv_11, sg, gm_15, lg), rfl, ⟨rfl, a2v_11, lxv_11, sg, gm_15, lg, rfl, hI_gm_15, KS_rf, (KS_up (KS_up (KS_tr (L := [41, 42, 57]) KS_rf kgv_11 (by decide)) egm_13 (by decide)) egm_15 (by decide)), KS_rf, (⟨z_14, by rw [(show gm_15 41 = upd (gmv_11 41) x.toNatClampNeg z_14 from (by rw [show gm_15 41 = _ from up_at egm_15, show gm_13 41 = gmv_11 41 from up_ne egm_13 (by decide)])), (show gmv_11 41 = gm 41 from (show KS [42, 57] gm gmv_11 from (KS_tr (L := [42, 57]) KS_rf kgv_11 (by decide))) 41 (by decide))], by omega⟩), (by { have kz : sz.toNatClampNeg = (gm 41 x.toNatClampNeg).toNatClampNeg := (by rw [hs9]); rw [(show gm_15 57 = upd (gmv_11 57) (128 * x.toNatClampNeg + sz.toNatClampNeg) el from (by rw [show gm_15 57 = gm_13 57 from up_ne egm_15 (by decide)]; exact up_at egm_13)), kz, upd_at] }), (fun j9 q9 => by { have kz : sz.toNatClampNeg = (gm 41 x.toNatClampNeg).toNatClampNeg := (by rw [hs9]); rw [(show gm_15 57 = upd (gmv_11 57) (128 * x.toNatClampNeg + sz.toNatClampNeg) el from (by rw [show gm_15 57 = gm_13 57 from up_ne egm_15 (by decide)]; exact up_at egm_13)), upd_ne (by omega)]; exact f57_r_9 j9 (by have q1 : (gm 42 x.toNatClampNeg).toNatClampNeg = (gm 42 x.toNatClampNeg).toInt.toNat := rfl; have q2 : (gm 41 x.toNatClampNeg).toNatClampNeg = (gm 41 x.toNatClampNeg).toInt.toNat := rfl; omega) }), (fun q2 q9 j9 q8 => by { rw [(show gm_15 57 = upd (gmv_11 57) (128 * x.toNatClampNeg + sz.toNatClampNeg) el from (by rw [show gm_15 57 = gm_13 57 from up_ne egm_15 (by decide)]; exact up_at egm_13)), upd_ne (by omega)]; exact f57n_r_9 q2 q9 j9 q8 }), (LDI_add hLDc (show gm_15 57 = upd (gmv_11 57) (128 * x.toNatClampNeg + sz.toNatClampNeg) el from (by rw [show gm_15 57 = gm_13 57 from up_ne egm_15 (by decide)]; exact up_at egm_13)) (show gm_15 41 = upd (gmv_11 41) x.toNatClampNeg z_14 from (by rw [show gm_15 41 = _ from up_at egm_15, show gm_13 41 = gmv_11 41 from up_ne egm_13 (by decide)])) (show gm_15 42 = gmv_11 42 from (up_ne egm_15 (by decide)).trans (up_ne egm_13 (by decide))) (by rw [(show gmv_11 41 = gm 41 from (show KS [42, 57] gm gmv_11 from (KS_tr (L := [42, 57]) KS_rf kgv_11 (by decide))) 41 (by decide))]; omega) (by rw [(show gmv_11 41 = gm 41 from (show KS [42, 57] gm gmv_11 from (KS_tr (L := [42, 57]) KS_rf kgv_11 (by decide))) 41 (by decide))]; exact k41.1) (by rw [(show gmv_11 41 = gm 41 from (show KS [42, 57] gm gmv_11 from (KS_tr (L := [42, 57]) KS_rf kgv_11 (by decide))) 41 (by decide)), hs9]) (by rw [(show gmv_11 41 = gm 41 from (show KS [42, 57] gm gmv_11 from (KS_tr (L := [42, 57]) KS_rf kgv_11 (by decide))) 41 (by decide))]; exact hltc) hvel.1)⟩, ⟨by rw [ht]; exact hP, va_K.moved hW.alike hK, hD⟩, hm_16, by rw [ht]; exact hN⟩, hS.F ht⟩) hS.2.2 dJx4a65c_add_72be8_22)))

set_option maxHeartbeats 4000000 in
set_option maxRecDepth 100000 in
theorem d_ladd (l : Launch) (dC : Nat → ClassId) (dI : Nat → Nat → Nat) (ad : Nat → Nat → Nat) (cid : Nat → ClassId) (a2 : Nat → Nat) (lx : List Nat) (sg : Nat → Int32) (gm : Nat → Nat → Int32) (lg : Nat → Nat → Int64) (x : Int32) (el : Int32) (hI : CI sg gm) (hvx : iv 0 239 x) (hvel : iv 0 79 el) (hLD : LDI lx gm) (hsz : (gm 41 x.toNatClampNeg).toInt < 80) : CMg dC dI ad cid l yJx4a65c_add_9ea2d wm_Jx4a65c_add_9ea2d ({ frames := 10, cells := 121921, slots := 487807, locals := 247 }) [eV (ad 11) x, eV (ad 9) el] a2 lx sg gm lg 0 121921 487807 (fun v u => ∃ r : Int32, v = some (.int r) ∧ ∃ (a22 : Nat → Nat) (lx2 : List Nat), ∃ (sg2 : Nat → Int32) (gm2 : Nat → Nat → Int32) (lg2 : Nat → Nat → Int64), u = (a22, lx2, sg2, gm2, lg2) ∧ CI sg2 gm2 ∧ KS [] sg sg2 ∧ KS [40, 41, 42, 57] gm gm2 ∧ KS [] lg lg2 ∧ (iv 0 1 r) ∧ (∃ z9 : Int32, gm2 41 = upd (gm 41) x.toNatClampNeg z9 ∧ z9.toInt = (gm 41 x.toNatClampNeg).toInt + 1) ∧ (gm2 57 (128 * x.toNatClampNeg + (gm 41 x.toNatClampNeg).toNatClampNeg) = el) ∧ (∀ j9, j9 < (gm 41 x.toNatClampNeg).toNatClampNeg → gm2 57 (128 * x.toNatClampNeg + j9) = gm 57 (128 * x.toNatClampNeg + j9)) ∧ (∀ q2, q2 ≠ x.toNatClampNeg → ∀ j9, j9 < 128 → gm2 57 (128 * q2 + j9) = gm 57 (128 * q2 + j9)) ∧ (LDI lx2 gm2)) (fun _ _ => False) := by
  intro sz
  refine vx_ofW (cc := cJx4a65c_add_9ea2d) (maxL := 2) (ret := (some .boolean)) (by decide) rfl ?_
  intro p e s m args below meth c s₁ B hml hxt hv
  obtain ⟨rfl, hsz, hP, hK, hD0, hG⟩ := hv
  have hx := B.exec
  have hb := B.bytes
  have hr := B.returns
  have hts := atoms_spec (ws := wm_Jx4a65c_add_9ea2d) B.pre
  have htb := fun (w : Cond) (h : w ∈ tb) => hts w (List.mem_cons_of_mem _ h)
  have hown : s.vm.findClass RJx4a65c = some m.cls := findClass_of_methodNamed B.named
  have hlocks := B.notSynchronized
  subst hsz
  have hD := hD0.self (sz := s.heap.size)
  generalize hAe : va_A (cW ad cid a2 lx sg gm lg) s.heap.size = A at hD hG ⊢
  have hA : ∀ q : Nat, s.heap.size ≤ q → A q := fun q h => by rw [← hAe]; exact Or.inr h
  have hS : va_S A s.heap s.heap [] := va_S.rf
  have hl := lv_entry ([eV (ad 11) x, eV (ad 9) el]) (n := 2) (by rw [show (lg_sl ([eV (ad 11) x, eV (ad 9) el])).length = 2 from by simp [lg_sl, eV_cat, cat_i, cat_l]]; exact Nat.le_of_ble_eq_true rfl)
  rw [lg_entry_eq]
  generalize (lg_sl ([eV (ad 11) x, eV (ad 9) el]) ++ List.replicate (2 - (lg_sl ([eV (ad 11) x, eV (ad 9) el])).length) Slot.unset).toArray = ls at hl ⊢
  have hl : lv_has ls 2 [(0, eV (ad 11) x), (1, eV (ad 9) el)] := by simp [lv_args, eV_cat, cat_i, cat_l] at hl; exact hl
  refine W.widen (k := gc gm gm 0) (n := gs gm gm 0) (Nat.zero_le _) (Nat.zero_le _) ?_
  refine ec_aload_n hx hb dJx4a65c_add_9ea2d_0 rfl (lv_at hl 0 rfl) ?_
  refine lv_dup hx hb dJx4a65c_add_9ea2d_1 (eV_cat _ _) ?_
  refine cl_getM hx hb htb hown hK hP hvx (by decide) (htb _ kw_676) dJx4a65c_add_9ea2d_2 ?_
  refine lv_topi (fun z_1 ez_1 => ?_)
  refine lv_iconst (v := 1) hx hb dJx4a65c_add_9ea2d_5 (by decide) ?_
  refine lv_iadd hx hb dJx4a65c_add_9ea2d_6 ?_
  refine lv_topi (fun z_2 ez_2 => ?_)
  refine cl_putM (y := z_2) hx hb htb hown hK hP hD hS hvx (by decide) (htb _ kw_676) dJx4a65c_add_9ea2d_7 (fun gm_3 H locs egm_3 hP hD hS => ?_)
  have hI_gm_3 := CI_st hI egm_3 (iv_fl z_2) (by decide)
  refine ec_aload_n hx hb dJx4a65c_add_9ea2d_10 rfl (lv_at hl 0 rfl) ?_
  refine ec_aload_n hx hb dJx4a65c_add_9ea2d_11 rfl (lv_at hl 1 rfl) ?_
  refine ec_aload_n hx hb dJx4a65c_add_9ea2d_12 rfl (lv_at hl 0 rfl) ?_
  refine cr_get (t := 11) (j := 1) (C := RJx4a65c) (T := TJx4a65c) (N := 3) (v := dV ad a2 gm_3 x.toNatClampNeg) hx hb htb inJx4a65c hown hK hP hvx (by decide) (by decide) (by decide) rfl (by decide) (htb _ kw_105) rfl dJx4a65c_add_9ea2d_13 ?_
  refine ec_aload_n hx hb dJx4a65c_add_9ea2d_16 rfl (lv_at hl 0 rfl) ?_
  refine cr_get (t := 11) (j := 2) (C := RJx4a65c) (T := TJx4a65c) (N := 3) (v := .int (gm_3 41 x.toNatClampNeg)) hx hb htb inJx4a65c hown hK hP hvx (by decide) (by decide) (by decide) rfl (by decide) (htb _ kw_678) rfl dJx4a65c_add_9ea2d_17 ?_
  obtain ⟨z_4, ez_4⟩ : ∃ z : Int32, z = (gm_3 41 x.toNatClampNeg) := ⟨_, rfl⟩
  refine W.eq (g2 := F0 m 20 ls [.int z_4, dV ad a2 gm_3 x.toNatClampNeg, eV (ad 9) el, eV (ad 11) x]) (by rw [ez_4]) ?_
  have hz_4 : iv 0 80 z_4 := iv_of ez_4 (CI_a hI_gm_3 41 hvx (by decide))
  have ez_4 := ez_4.trans (congrFun (up_ne egm_3 (by decide)) _)
  have h_5 : iv 0 79 z_4 := ⟨(hz_4).1, by rw [ez_4]; omega⟩
  refine W.widen (k := gc gm gm_3 0) (n := gs gm gm_3 0) (gc_e (show gm_3 42 = gm 42 from (up_ne egm_3 (by decide))) (by decide)) (gs_e (show gm_3 42 = gm 42 from (up_ne egm_3 (by decide))) (by decide)) ?_
  have hm_6 : PHs gm ≤ PHs gm_3 := by rw [PHs_e (show gm_3 42 = gm 42 from (up_ne egm_3 (by decide)))]; exact (Nat.le_refl _)
  refine cm_callGV (t := 11) (C := RJx4a65c) (T := TJx4a65c) (N := 3) (rest := []) (as := [eV (ad 9) el, dV ad a2 gm_3 x.toNatClampNeg, .int z_4]) ⟨hx, hb, hml, hown, htb⟩ (d_ladd3 l dC dI ad cid a2 lx sg gm_3 lg x el z_4 hI_gm_3 hvx hvel h_5 (LDI_e hLD (up_ne egm_3 (by decide)) (up_ne egm_3 (by decide)) (up_ne egm_3 (by decide))) (by rw [(up_ne egm_3 (by decide))]; exact hsz) (by rw [ez_4, (up_ne egm_3 (by decide))])) (cwV 3 htb (gd_V kw_749 kw_750 kw_751 kw_98 kw_1501) rfl rfl rfl (by decide +kernel) ⟨Nat.le_of_ble_eq_true rfl, Nat.le_of_ble_eq_true rfl⟩) hvx (by decide) (by decide) rfl rfl hl.1 rfl (Nat.le_trans cs_n (by decide)) dJx4a65c_add_9ea2d_20 ⟨Nat.le_trans (gc_le hI_gm_3) (Nat.le_of_ble_eq_true rfl), Nat.le_trans (gs_le hI_gm_3) (Nat.le_of_ble_eq_true rfl)⟩ hK hP hD hS hA hG (fun E ce q9 u_8 H locs hw hmu hP hD hS hce hcv hcl => ?_) (fun v9 u_8 H locs hw hmu hP hD hS => ?_)
  · exact hw.elim
  obtain ⟨rfl, a2v_9, lxv_9, sgv_9, gmv_9, lgv_9, rfl, hIv_9, ksv_9, kgv_9, klv_9, f41_r_7, f57e_r_7, f57_r_7, f57n_r_7, fLD_r_7⟩ := hw
  obtain rfl := KS_nil ksv_9
  obtain rfl := KS_nil klv_9
  have hP : va_P (dC, dI) vwCl (cW ad cid a2v_9 lxv_9 sg gmv_9 lg) H := hP
  have hD : va_D A (cW ad cid a2v_9 lxv_9 sg gmv_9 lg) := hD
  have hmu : PHs gm_3 ≤ PHs gmv_9 := hmu
  rw [show (gc gm gm_3 0 + gc gm_3 gmv_9 0) = gc gm gmv_9 0 from gc_t hm_6 hmu, show (gs gm gm_3 0 + gs gm_3 gmv_9 0) = gs gm gmv_9 0 from gs_t hm_6 hmu]
  have hm_10 : PHs gm ≤ PHs gmv_9 := Nat.le_trans hm_6 hmu
  refine W.eq (g2 := F0 m 23 ls []) rfl ?_
  refine lv_iconst (v := 1) hx hb dJx4a65c_add_9ea2d_23 (by decide) ?_
  exact W.nb (fun hN => W.widen (k := 121921) (n := 487807) (Nat.le_trans (gc_l0 (gm := gm) (k := 0) hIv_9) (Nat.le_of_ble_eq_true rfl)) (Nat.le_trans (gs_l0 (gm := gm) (k := 0) hIv_9) (Nat.le_of_ble_eq_true rfl)) (vx_ret (W.zret (v := 1) hx hb hr (iv_nb (iv_w (iv_k (by decide) : iv 1 1 1) (by decide))) (fun t ht hW => ⟨⟨some (.int 1), (a2v_9, lxv_9, sg, gmv_9, lg), rfl, ⟨1, rfl, a2v_9, lxv_9, sg, gmv_9, lg, rfl, hIv_9, KS_rf, (KS_tr (L := [40, 41, 42, 57]) (KS_up KS_rf egm_3 (by decide)) kgv_9 (by decide)), KS_rf, (iv_w (iv_k (by decide) : iv 1 1 1) (by decide)), ((by rw [← (show gm_3 41 = gm 41 from (up_ne egm_3 (by decide)))]; exact f41_r_7)), ((by rw [← (show gm_3 41 = gm 41 from (up_ne egm_3 (by decide)))]; exact f57e_r_7)), ((by rw [← (show gm_3 41 = gm 41 from (up_ne egm_3 (by decide))), ← (show gm_3 57 = gm 57 from (up_ne egm_3 (by decide)))]; exact f57_r_7)), ((by rw [← (show gm_3 57 = gm 57 from (up_ne egm_3 (by decide)))]; exact f57n_r_7)), (fLD_r_7)⟩, ⟨by rw [ht]; exact hP, va_K.moved hW.alike hK, hD⟩, hm_10, by rw [ht]; exact hN⟩, hS.F ht⟩) hS.2.2 dJx4a65c_add_9ea2d_24)))
end
section

/-- the other lists are the same -/
def LSM (q : Nat) (gm gm2 : Nat → Nat → Int32) : Prop := ∀ q2, q2 ≠ q → gm2 41 q2 = gm 41 q2 ∧ ∀ j, j < 128 → gm2 57 (128 * q2 + j) = gm 57 (128 * q2 + j)
/-- every element of a list is the new one or an old one -/
def LIN (q : Nat) (nm : Int32) (gm gm2 : Nat → Nat → Int32) : Prop := ∀ j, j < (gm2 41 q).toNatClampNeg → gm2 57 (128 * q + j) = nm ∨ ∃ i, i < (gm 41 q).toNatClampNeg ∧ gm2 57 (128 * q + j) = gm 57 (128 * q + i)
/-- the letters of a list differ -/
def LDL (q : Nat) (gm : Nat → Nat → Int32) : Prop := ∀ i j, i < j → j < (gm 41 q).toNatClampNeg → ¬ gm 22 (gm 57 (128 * q + i)).toNatClampNeg = gm 22 (gm 57 (128 * q + j)).toNatClampNeg
def PNP (lx : List Nat) (q : Nat) (nm : Int32) (gm gm2 : Nat → Nat → Int32) : Prop := LDI lx gm2 ∧ LDL q gm2 ∧ LSM q gm gm2 ∧ LIN q nm gm gm2
theorem PN_set {lx : List Nat} {gm gm2 : Nat → Nat → Int32} {q i : Nat} {nm : Int32} (hLD : LDI lx gm2) (hDL : LDL q gm) (e57 : gm2 57 = upd (gm 57) (128 * q + i) nm) (e41 : gm2 41 = gm 41) (e22 : gm2 22 = gm 22) (hi : i < 128) (hl : gm 22 (gm 57 (128 * q + i)).toNatClampNeg = gm 22 nm.toNatClampNeg) : PNP lx q nm gm gm2 := by
  have hlet : ∀ j, gm2 22 (gm2 57 (128 * q + j)).toNatClampNeg = gm 22 (gm 57 (128 * q + j)).toNatClampNeg := fun j => by
    rw [e22, e57]
    by_cases e9 : j = i
    · rw [e9, upd_at, hl]
    · rw [upd_ne (by omega)]
  refine ⟨hLD, fun a b hab hb => ?_, fun q2 h2 => ⟨by rw [e41], fun j hj => by rw [e57, upd_ne (by omega)]⟩, fun j hj => ?_⟩
  · rw [hlet, hlet]; rw [e41] at hb; exact hDL a b hab hb
  · rw [e57]
    by_cases e9 : j = i
    · left; rw [e9, upd_at]
    · right; exact ⟨j, by rw [e41] at hj; exact hj, by rw [upd_ne (by omega)]⟩
theorem LSM_add {gm gm2 : Nat → Nat → Int32} {q : Nat} (f41 : ∃ z9 : Int32, gm2 41 = upd (gm 41) q z9 ∧ z9.toInt = (gm 41 q).toInt + 1) (f57n : ∀ q2, q2 ≠ q → ∀ j9, j9 < 128 → gm2 57 (128 * q2 + j9) = gm 57 (128 * q2 + j9)) : LSM q gm gm2 := fun q2 h2 => by
  obtain ⟨z, e41, -⟩ := f41
  exact ⟨by rw [e41, upd_ne h2], f57n q2 h2⟩
theorem LIN_add {gm gm2 : Nat → Nat → Int32} {q : Nat} {nm : Int32} (h0 : 0 ≤ (gm 41 q).toInt) (f41 : ∃ z9 : Int32, gm2 41 = upd (gm 41) q z9 ∧ z9.toInt = (gm 41 q).toInt + 1) (f57e : gm2 57 (128 * q + (gm 41 q).toNatClampNeg) = nm) (f57 : ∀ j9, j9 < (gm 41 q).toNatClampNeg → gm2 57 (128 * q + j9) = gm 57 (128 * q + j9)) : LIN q nm gm gm2 := fun j hj => by
  obtain ⟨z, e41, hz⟩ := f41
  rw [e41, upd_at] at hj
  have k1 : z.toNatClampNeg = z.toInt.toNat := rfl
  have k2 : (gm 41 q).toNatClampNeg = (gm 41 q).toInt.toNat := rfl
  by_cases e9 : j < (gm 41 q).toNatClampNeg
  · exact Or.inr ⟨j, e9, f57 j e9⟩
  · left
    rw [show j = (gm 41 q).toNatClampNeg from by omega]; exact f57e
theorem PN_add {lx : List Nat} {gm gm2 : Nat → Nat → Int32} {q : Nat} {nm : Int32} (hLD : LDI lx gm2) (hDL : LDL q gm) (h0 : 0 ≤ (gm 41 q).toInt) (f41 : ∃ z9 : Int32, gm2 41 = upd (gm 41) q z9 ∧ z9.toInt = (gm 41 q).toInt + 1) (f57e : gm2 57 (128 * q + (gm 41 q).toNatClampNeg) = nm) (f57 : ∀ j9, j9 < (gm 41 q).toNatClampNeg → gm2 57 (128 * q + j9) = gm 57 (128 * q + j9)) (f57n : ∀ q2, q2 ≠ q → ∀ j9, j9 < 128 → gm2 57 (128 * q2 + j9) = gm 57 (128 * q2 + j9)) (e22 : gm2 22 = gm 22) (hno : ∀ k, k < (gm 41 q).toNatClampNeg → ¬ gm 22 (gm 57 (128 * q + k)).toNatClampNeg = gm 22 nm.toNatClampNeg) : PNP lx q nm gm gm2 := by
  refine ⟨hLD, fun a b hab hb => ?_, LSM_add f41 f57n, LIN_add h0 f41 f57e f57⟩
  obtain ⟨z, e41, hz⟩ := f41
  rw [e41, upd_at] at hb
  have k1 : z.toNatClampNeg = z.toInt.toNat := rfl
  have k2 : (gm 41 q).toNatClampNeg = (gm 41 q).toInt.toNat := rfl
  rw [e22]
  by_cases e9 : b < (gm 41 q).toNatClampNeg
  · rw [f57 a (by omega), f57 b e9]; exact hDL a b hab e9
  · rw [show b = (gm 41 q).toNatClampNeg from by omega, f57e, f57 a (by omega)]
    exact hno a (by omega)
theorem LDL_80 {lx : List Nat} {sg : Nat → Int32} {gm : Nat → Nat → Int32} {q : Nat} (hI : CI sg gm) (hq : q < 240) (hLD : LDI lx gm) (h : LDL q gm) : (gm 41 q).toInt < 80 := by
  have i41 := (show iv 0 80 (gm 41 q) from CI_n hI 41 hq)
  have k2 : (gm 41 q).toNatClampNeg = (gm 41 q).toInt.toNat := rfl
  by_cases h9 : (gm 41 q).toInt < 80
  · exact h9
  exfalso
  have hl : ∀ k, k ≤ 27 → iv (-1) 25 (gm 22 (gm 57 (128 * q + k)).toNatClampNeg) := fun k hk => by
    have h1 := (hLD q hq).2.2 k (by omega)
    have h2 := (show iv (-1) 79 (gm 57 (128 * q + k)) from CI_n hI 57 (show 128 * q + k < crLen 57 from by show _ < 30720; omega)).2
    have k3 : (gm 57 (128 * q + k)).toNatClampNeg = (gm 57 (128 * q + k)).toInt.toNat := rfl
    exact (show iv (-1) 25 _ from CI_n hI 22 (show (gm 57 (128 * q + k)).toNatClampNeg < crLen 22 from by show _ < 80; omega))
  obtain ⟨i, j, h1, h2, h3⟩ := pigeon 27 (fun k => ((gm 22 (gm 57 (128 * q + k)).toNatClampNeg).toInt + 1).toNat) (fun k hk => by
    have a1 := (hl k hk).1
    have a2 := (hl k hk).2
    show ((gm 22 (gm 57 (128 * q + k)).toNatClampNeg).toInt + 1).toNat < 27
    omega)
  have a1 := (hl i (by omega)).1
  have b1 := (hl j h2).1
  have h3 : ((gm 22 (gm 57 (128 * q + i)).toNatClampNeg).toInt + 1).toNat = ((gm 22 (gm 57 (128 * q + j)).toNatClampNeg).toInt + 1).toNat := h3
  exact h i j h1 (by omega) (Int32.toInt_inj.mp (by omega))
/-- the elements of a list: their word, and that they are elements of the document -/
def LWD (sg : Nat → Int32) (gm : Nat → Nat → Int32) (q : Nat) (w : Int) : Prop := ∀ j, j < (gm 41 q).toNatClampNeg → (gm 14 (gm 57 (128 * q + j)).toNatClampNeg).toInt = w ∧ (gm 57 (128 * q + j)).toInt < (sg 4).toInt
def BLI (sg : Nat → Int32) (gm : Nat → Nat → Int32) (b : Nat) : Prop := LWD sg gm (3 * b + 0) 3 ∧ LWD sg gm (3 * b + 1) 4 ∧ LDL (3 * b + 1) gm ∧ LDL (3 * b + 2) gm
def OVS (b : Nat) (gm gm2 : Nat → Nat → Int32) : Prop := ∀ q2, ¬ q2 = 3 * b + 0 → ¬ q2 = 3 * b + 1 → ¬ q2 = 3 * b + 2 → gm2 41 q2 = gm 41 q2 ∧ ∀ j, j < 128 → gm2 57 (128 * q2 + j) = gm 57 (128 * q2 + j)
theorem OVS_rf {b : Nat} {gm : Nat → Nat → Int32} : OVS b gm gm := fun _ _ _ _ => ⟨rfl, fun _ _ => rfl⟩
theorem OVS_s {b q : Nat} {gm gm1 gm2 : Nat → Nat → Int32} (h : OVS b gm gm1) (h2 : LSM q gm1 gm2) (hq : q = 3 * b + 0 ∨ q = 3 * b + 1 ∨ q = 3 * b + 2) : OVS b gm gm2 := fun q2 a1 a2 a3 => by
  obtain ⟨b1, b2⟩ := h q2 a1 a2 a3
  obtain ⟨c1, c2⟩ := h2 q2 (by omega)
  exact ⟨c1.trans b1, fun j hj => (c2 j hj).trans (b2 j hj)⟩
theorem LWD_s {sg : Nat → Int32} {gm gm2 : Nat → Nat → Int32} {q : Nat} {w : Int} (h : LWD sg gm q w) (h1 : gm2 41 q = gm 41 q) (h2 : ∀ j, j < 128 → gm2 57 (128 * q + j) = gm 57 (128 * q + j)) (h14 : gm2 14 = gm 14) (h41 : (gm 41 q).toInt ≤ 80) : LWD sg gm2 q w := fun j hj => by
  have k2 : (gm 41 q).toNatClampNeg = (gm 41 q).toInt.toNat := rfl
  rw [h1] at hj
  rw [h14, h2 j (by omega)]
  exact h j hj
theorem LDL_s {gm gm2 : Nat → Nat → Int32} {q : Nat} (h : LDL q gm) (h1 : gm2 41 q = gm 41 q) (h2 : ∀ j, j < 128 → gm2 57 (128 * q + j) = gm 57 (128 * q + j)) (h22 : gm2 22 = gm 22) (h41 : (gm 41 q).toInt ≤ 80) : LDL q gm2 := fun i j hij hj => by
  have k2 : (gm 41 q).toNatClampNeg = (gm 41 q).toInt.toNat := rfl
  rw [h1] at hj
  rw [h22, h2 j (by omega), h2 i (by omega)]
  exact h i j hij hj
theorem LWD_in {sg : Nat → Int32} {gm gm2 : Nat → Nat → Int32} {q : Nat} {w : Int} {nm : Int32} (h : LWD sg gm q w) (hN : LIN q nm gm gm2) (h14 : gm2 14 = gm 14) (hw : (gm 14 nm.toNatClampNeg).toInt = w) (h4 : nm.toInt < (sg 4).toInt) : LWD sg gm2 q w := fun j hj => by
  rw [h14]
  rcases hN j hj with e | ⟨i, hi, e⟩
  · rw [e]; exact ⟨hw, h4⟩
  · rw [e]; exact h i hi
theorem sz80 {sg : Nat → Int32} {gm : Nat → Nat → Int32} {q : Nat} (hI : CI sg gm) (hq : q < 240) : (gm 41 q).toInt ≤ 80 := (show iv 0 80 (gm 41 q) from CI_n hI 41 hq).2
theorem BLI_0 {sg : Nat → Int32} {gm gm2 : Nat → Nat → Int32} {b : Nat} (hI : CI sg gm) (hb : b < 80) (h : BLI sg gm b) (hs : LSM (3 * b + 0) gm gm2) (h14 : gm2 14 = gm 14) (h22 : gm2 22 = gm 22) (hw : LWD sg gm2 (3 * b + 0) 3) : BLI sg gm2 b :=
  ⟨hw, LWD_s h.2.1 (hs _ (by omega)).1 (hs _ (by omega)).2 h14 (sz80 hI (by omega)), LDL_s h.2.2.1 (hs _ (by omega)).1 (hs _ (by omega)).2 h22 (sz80 hI (by omega)), LDL_s h.2.2.2 (hs _ (by omega)).1 (hs _ (by omega)).2 h22 (sz80 hI (by omega))⟩
theorem BLI_1 {lx : List Nat} {sg : Nat → Int32} {gm gm2 : Nat → Nat → Int32} {b : Nat} {nm : Int32} (hI : CI sg gm) (hb : b < 80) (h : BLI sg gm b) (hp : PNP lx (3 * b + 1) nm gm gm2) (h14 : gm2 14 = gm 14) (h22 : gm2 22 = gm 22) (hw : (gm 14 nm.toNatClampNeg).toInt = 4) (h4 : nm.toInt < (sg 4).toInt) : BLI sg gm2 b := by
  obtain ⟨-, h1, hs, hN⟩ := hp
  exact ⟨LWD_s h.1 (hs _ (by omega)).1 (hs _ (by omega)).2 h14 (sz80 hI (by omega)), LWD_in h.2.1 hN h14 hw h4, h1, LDL_s h.2.2.2 (hs _ (by omega)).1 (hs _ (by omega)).2 h22 (sz80 hI (by omega))⟩
theorem BLI_2 {lx : List Nat} {sg : Nat → Int32} {gm gm2 : Nat → Nat → Int32} {b : Nat} {nm : Int32} (hI : CI sg gm) (hb : b < 80) (h : BLI sg gm b) (hp : PNP lx (3 * b + 2) nm gm gm2) (h14 : gm2 14 = gm 14) (h22 : gm2 22 = gm 22) : BLI sg gm2 b := by
  obtain ⟨-, h1, hs, hN⟩ := hp
  exact ⟨LWD_s h.1 (hs _ (by omega)).1 (hs _ (by omega)).2 h14 (sz80 hI (by omega)), LWD_s h.2.1 (hs _ (by omega)).1 (hs _ (by omega)).2 h14 (sz80 hI (by omega)), LDL_s h.2.2.1 (hs _ (by omega)).1 (hs _ (by omega)).2 h22 (sz80 hI (by omega)), h1⟩
theorem LSM_clr {gm gm2 : Nat → Nat → Int32} {q : Nat} (f41 : gm2 41 = upd (gm 41) q 0) (f57 : ∀ q2, q2 ≠ q → ∀ j9, j9 < 128 → gm2 57 (128 * q2 + j9) = gm 57 (128 * q2 + j9)) : LSM q gm gm2 := fun q2 h2 => ⟨by rw [f41, upd_ne h2], f57 q2 h2⟩
theorem LWD_0 {sg : Nat → Int32} {gm : Nat → Nat → Int32} {q : Nat} {w : Int} (h : gm 41 q = 0) : LWD sg gm q w := fun j hj => by rw [h] at hj; exact absurd hj (Nat.not_lt_zero _)
theorem BLI_e {sg sg2 : Nat → Int32} {gm gm2 : Nat → Nat → Int32} {b : Nat} (h : BLI sg gm b) (h4 : sg2 4 = sg 4) (h14 : gm2 14 = gm 14) (h22 : gm2 22 = gm 22) (h41 : gm2 41 = gm 41) (h57 : gm2 57 = gm 57) : BLI sg2 gm2 b := by
  unfold BLI LWD LDL at *; rw [h4, h14, h22, h41, h57]; exact h
theorem LK_e2 {sg sg2 : Nat → Int32} {gm gm2 : Nat → Nat → Int32} (h : LK sg gm) (h4 : sg2 4 = sg 4) (h15 : gm2 15 = gm 15) (h16 : gm2 16 = gm 16) (h17 : gm2 17 = gm 17) : LK sg2 gm2 := by
  unfold LK at *; rw [h4, h15, h16, h17]; exact h
end
section

theorem SOK_e {gm gm2 : Nat → Nat → Int32} {lg lg2 : Nat → Nat → Int64} {j : Nat} (h : SOK gm lg j) (h14 : gm2 14 = gm 14) (h15 : gm2 15 = gm 15) (h19 : gm2 19 = gm 19) (h20 : gm2 20 = gm 20) (h44 : gm2 44 = gm 44) (h45 : gm2 45 = gm 45) (h46 : gm2 46 = gm 46) (h0 : lg2 0 = lg 0) : SOK gm2 lg2 j := by
  unfold SOK HOK LVP FND ISI HSK at *; rw [h14, h15, h19, h20, h44, h45, h46, h0]; exact h
/-- an element that is settled -/
def STL (sg : Nat → Int32) (gm : Nat → Nat → Int32) (lg : Nat → Nat → Int64) (o : Nat) : Prop :=
  0 ≤ (gm 25 o).toInt ∧ (¬ (gm 14 o).toInt = 3 → ¬ (gm 14 o).toInt = 4 → gm 25 o = gm 14 o) ∧
  ((gm 14 o).toInt = 3 ∨ (gm 14 o).toInt = 4 → (0 ≤ (gm 16 o).toInt ∧ gm 26 o = gm 16 o) ∨ ((gm 26 o).toInt = (o : Int) ∧ ((gm 25 o).toInt = 7 ∨ (gm 25 o).toInt = 8))) ∧
  ((gm 14 o).toInt = 4 → 0 ≤ (gm 22 o).toInt) ∧
  ((gm 27 o).toInt = -1 ∨ ((gm 14 o).toInt = 2 ∧ (gm 27 o).toInt < (sg 12).toInt ∧ (lg 4 (gm 27 o).toNatClampNeg = 0 ∨ HSK gm lg o (wKy.getD 10 0))))
/-- what settling an element leaves of the others -/
def SFR (gm gm2 : Nat → Nat → Int32) (o : Nat) : Prop := ∀ j, j ≠ o → gm2 25 j = gm 25 j ∧ gm2 26 j = gm 26 j ∧ gm2 22 j = gm 22 j ∧ gm2 27 j = gm 27 j
/-- no bean begins, or the next one -/
def BBG (sg sg2 : Nat → Int32) (gm gm2 : Nat → Nat → Int32) (lg lg2 : Nat → Nat → Int64) (o : Int32) : Prop :=
  (sg2 12 = sg 12 ∧ gm2 29 = gm 29 ∧ gm2 37 = gm 37 ∧ gm2 38 = gm 38 ∧ gm2 41 = gm 41 ∧ lg2 4 = lg 4) ∨
  ((sg2 12).toInt = (sg 12).toInt + 1 ∧ gm2 29 = upd (gm 29) (sg 12).toNatClampNeg o ∧ gm2 37 = upd (gm 37) (sg 12).toNatClampNeg 0 ∧ gm2 38 = upd (gm 38) (sg 12).toNatClampNeg 0 ∧ gm2 41 = upd (upd (upd (gm 41) (3 * (sg 12).toNatClampNeg + 0) 0) (3 * (sg 12).toNatClampNeg + 1) 0) (3 * (sg 12).toNatClampNeg + 2) 0 ∧ ∃ id9 : Int64, lg2 4 = vp_updL (lg 4) (sg 12).toNatClampNeg id9)
theorem BBG_0 {sg sg2 : Nat → Int32} {gm gm2 : Nat → Nat → Int32} {lg lg2 : Nat → Nat → Int64} {o : Int32} (h12 : sg2 12 = sg 12) (h29 : gm2 29 = gm 29) (h37 : gm2 37 = gm 37) (h38 : gm2 38 = gm 38) (h41 : gm2 41 = gm 41) (h4 : lg2 4 = lg 4) : BBG sg sg2 gm gm2 lg lg2 o := Or.inl ⟨h12, h29, h37, h38, h41, h4⟩
/-- neither arg nor set nor bean -/
theorem STL_k {sg2 : Nat → Int32} {gm gm2 : Nat → Nat → Int32} {lg lg2 : Nat → Nat → Int64} {o : Nat} (hw : SOK gm lg o) (hb : gm 27 o = -1) (h14 : gm2 14 = gm 14) (h25 : gm2 25 = upd (gm 25) o (gm 14 o)) (h27 : gm2 27 = gm 27) (n3 : ¬ (gm 14 o).toInt = 3) (n4 : ¬ (gm 14 o).toInt = 4) : STL sg2 gm2 lg2 o := by
  unfold STL
  rw [h14, h25, h27, upd_at, hb]
  exact ⟨hw.1, fun _ _ => rfl, fun q => by omega, fun q => absurd q n4, Or.inl (by decide)⟩
theorem SFR_k {gm gm2 : Nat → Nat → Int32} {o : Nat} {w : Int32} (h25 : gm2 25 = upd (gm 25) o w) (h26 : gm2 26 = gm 26) (h22 : gm2 22 = gm 22) (h27 : gm2 27 = gm 27) : SFR gm gm2 o := fun j hj => by
  rw [h25, h26, h22, h27, upd_ne hj]; exact ⟨rfl, rfl, rfl, rfl⟩
theorem SFR_l {gm gm2 : Nat → Nat → Int32} {o : Nat} {w l : Int32} (h25 : gm2 25 = upd (gm 25) o w) (h26 : gm2 26 = gm 26) (h22 : gm2 22 = upd (gm 22) o l) (h27 : gm2 27 = gm 27) : SFR gm gm2 o := fun j hj => by
  rw [h25, h26, h22, h27, upd_ne hj, upd_ne hj]; exact ⟨rfl, rfl, rfl, rfl⟩
theorem SFR_b {gm gm2 : Nat → Nat → Int32} {o : Nat} {w l : Int32} (h25 : gm2 25 = upd (gm 25) o w) (h26 : gm2 26 = gm 26) (h22 : gm2 22 = gm 22) (h27 : gm2 27 = upd (gm 27) o l) : SFR gm gm2 o := fun j hj => by
  rw [h25, h26, h22, h27, upd_ne hj, upd_ne hj]; exact ⟨rfl, rfl, rfl, rfl⟩
/-- arg and set -/
theorem STL_a {sg2 : Nat → Int32} {gm gm1 gm2 : Nat → Nat → Int32} {lg lg2 : Nat → Nat → Int64} {o : Int32} (ho : 0 ≤ o.toInt) (hw : SOK gm lg o.toNatClampNeg) (hb : gm 27 o.toNatClampNeg = -1) (h14 : gm2 14 = gm 14) (h16 : gm2 16 = gm 16) (h25 : gm1 25 = upd (gm 25) o.toNatClampNeg (gm 14 o.toNatClampNeg)) (h26 : gm1 26 = gm 26) (h16b : gm1 16 = gm 16) (h27 : gm2 27 = gm 27)
    (hC : ∃ c9 : Int32, gm2 26 = upd (gm1 26) o.toNatClampNeg c9 ∧ ((0 ≤ (gm1 16 o.toNatClampNeg).toInt ∧ c9 = gm1 16 o.toNatClampNeg) ∨ ((gm1 16 o.toNatClampNeg).toInt < 0 ∧ c9 = o)))
    (hK : (0 ≤ (gm1 16 o.toNatClampNeg).toInt ∧ gm2 25 = gm1 25) ∨ ((gm1 16 o.toNatClampNeg).toInt < 0 ∧ (gm2 25 = upd (gm1 25) o.toNatClampNeg 7 ∨ gm2 25 = upd (gm1 25) o.toNatClampNeg 8)))
    (h34 : (gm 14 o.toNatClampNeg).toInt = 3 ∨ (gm 14 o.toNatClampNeg).toInt = 4) (h4 : (gm 14 o.toNatClampNeg).toInt = 4 → 0 ≤ (gm2 22 o.toNatClampNeg).toInt) : STL sg2 gm2 lg2 o.toNatClampNeg := by
  have e7 : (7 : Int32).toInt = 7 := by decide
  have e8 : (8 : Int32).toInt = 8 := by decide
  obtain ⟨c9, e26, hc⟩ := hC
  rw [h16b] at hc hK
  have k1 := cl_0 ho
  have hw0 := hw.1
  unfold STL
  rw [h14, h16, h27, e26, upd_at, hb]
  refine ⟨?_, fun q1 q2 => by omega, fun _ => ?_, h4, Or.inl (by decide)⟩
  · rcases hK with ⟨-, q⟩ | ⟨-, q | q⟩
    · rw [q, h25, upd_at]; exact hw0
    · rw [q, upd_at, e7]; decide
    · rw [q, upd_at, e8]; decide
  · rcases hc with ⟨q1, q2⟩ | ⟨q1, q2⟩
    · exact Or.inl ⟨q1, q2⟩
    · refine Or.inr ⟨by rw [q2]; omega, ?_⟩
      rcases hK with ⟨q3, -⟩ | ⟨-, q | q⟩
      · omega
      · rw [q, upd_at]; exact Or.inl e7
      · rw [q, upd_at]; exact Or.inr e8
theorem SFR_a {gm gm1 gm2 : Nat → Nat → Int32} {o : Int32} {w : Int32} (h25 : gm1 25 = upd (gm 25) o.toNatClampNeg w) (h26 : gm1 26 = gm 26) (h27 : gm2 27 = gm 27)
    (hC : ∃ c9 : Int32, gm2 26 = upd (gm1 26) o.toNatClampNeg c9 ∧ ((0 ≤ (gm1 16 o.toNatClampNeg).toInt ∧ c9 = gm1 16 o.toNatClampNeg) ∨ ((gm1 16 o.toNatClampNeg).toInt < 0 ∧ c9 = o)))
    (hK : (0 ≤ (gm1 16 o.toNatClampNeg).toInt ∧ gm2 25 = gm1 25) ∨ ((gm1 16 o.toNatClampNeg).toInt < 0 ∧ (gm2 25 = upd (gm1 25) o.toNatClampNeg 7 ∨ gm2 25 = upd (gm1 25) o.toNatClampNeg 8)))
    (h22 : gm2 22 = gm 22 ∨ ∃ l9, gm2 22 = upd (gm 22) o.toNatClampNeg l9) : SFR gm gm2 o.toNatClampNeg := fun j hj => by
  obtain ⟨c9, e26, -⟩ := hC
  refine ⟨?_, by rw [e26, upd_ne hj, h26], ?_, by rw [h27]⟩
  · rcases hK with ⟨-, q⟩ | ⟨-, q | q⟩
    · rw [q, h25, upd_ne hj]
    · rw [q, upd_ne hj, h25, upd_ne hj]
    · rw [q, upd_ne hj, h25, upd_ne hj]
  · rcases h22 with q | ⟨l9, q⟩
    · rw [q]
    · rw [q, upd_ne hj]
/-- a bean -/
theorem STL_b {sg2 : Nat → Int32} {gm gm1 gm2 : Nat → Nat → Int32} {lg lg1 lg2 : Nat → Nat → Int64} {o : Nat} {c : Int32} (hw : SOK gm lg o) (h14 : gm2 14 = gm 14) (h19 : gm2 19 = gm 19) (h20 : gm2 20 = gm 20) (h25 : gm2 25 = upd (gm 25) o (gm 14 o)) (h27 : gm2 27 = upd (gm 27) o c) (hc0 : 0 ≤ c.toInt) (h2 : (gm 14 o).toInt = 2) (hc : c.toInt < (sg2 12).toInt) (hl0 : lg2 0 = lg 0)
    (hid : ∃ id9 : Int64, lg2 4 = vp_updL (lg1 4) c.toNatClampNeg id9 ∧ (id9 = 0 ∨ HSK gm1 lg1 o (wKy.getD 10 0))) (h19b : gm1 19 = gm 19) (h20b : gm1 20 = gm 20) (hl0b : lg1 0 = lg 0) : STL sg2 gm2 lg2 o := by
  obtain ⟨id9, e4, hd⟩ := hid
  unfold STL
  rw [h14, h25, h27, upd_at, upd_at]
  refine ⟨hw.1, fun _ _ => rfl, fun q => by omega, fun q => by omega, Or.inr ⟨h2, hc, ?_⟩⟩
  rw [e4, pk_uLs]
  rcases hd with q | q
  · exact Or.inl q
  · exact Or.inr (HSK_e q (h19.trans h19b.symm) (h20.trans h20b.symm) (hl0.trans hl0b.symm))
theorem BBG_1 {sg sg2 : Nat → Int32} {gm gm1 gm2 : Nat → Nat → Int32} {lg lg1 lg2 : Nat → Nat → Int64} {o : Int32} (h12 : (sg2 12).toInt = (sg 12).toInt + 1) (e29 : gm1 29 = gm 29) (e37 : gm1 37 = gm 37) (e38 : gm1 38 = gm 38) (e41 : gm1 41 = gm 41) (e4 : lg1 4 = lg 4) (fE : gm2 29 = upd (gm1 29) (sg 12).toNatClampNeg o) (f37 : gm2 37 = upd (gm1 37) (sg 12).toNatClampNeg 0) (f38 : gm2 38 = upd (gm1 38) (sg 12).toNatClampNeg 0) (fS : gm2 41 = upd (upd (upd (gm1 41) (3 * (sg 12).toNatClampNeg + 0) 0) (3 * (sg 12).toNatClampNeg + 1) 0) (3 * (sg 12).toNatClampNeg + 2) 0) {P : Int64 → Prop} (fI : ∃ id9 : Int64, lg2 4 = vp_updL (lg1 4) (sg 12).toNatClampNeg id9 ∧ P id9) : BBG sg sg2 gm gm2 lg lg2 o := by
  obtain ⟨id9, e9, -⟩ := fI
  rw [e29] at fE; rw [e37] at f37; rw [e38] at f38; rw [e41] at fS; rw [e4] at e9
  exact Or.inr ⟨h12, fE, f37, f38, fS, id9, e9⟩
/-- the beans that have begun -/
def BGN (sg : Nat → Int32) (gm : Nat → Nat → Int32) : Prop := ∀ c, c < (sg 12).toNatClampNeg → (0 ≤ (gm 29 c).toInt ∧ (gm 29 c).toInt < (sg 4).toInt) ∧ (gm 37 c = 0 ∧ gm 38 c = 0) ∧ gm 41 (3 * c + 0) = 0 ∧ gm 41 (3 * c + 1) = 0 ∧ gm 41 (3 * c + 2) = 0
theorem BGN_s {sg sg2 : Nat → Int32} {gm gm2 : Nat → Nat → Int32} {lg lg2 : Nat → Nat → Int64} {o : Int32} (h : BGN sg gm) (hb : BBG sg sg2 gm gm2 lg lg2 o) (h0 : 0 ≤ (sg 12).toInt) (h4 : sg2 4 = sg 4) (ho : 0 ≤ o.toInt ∧ o.toInt < (sg 4).toInt) : BGN sg2 gm2 := fun c hc => by
  rcases hb with ⟨e12, e29, e37, e38, e41, -⟩ | ⟨e12, e29, e37, e38, e41, -⟩
  · rw [e12] at hc; rw [e29, e37, e38, e41, h4]; exact h c hc
  · have k1 := cl_0 h0
    have k2 := cl_0 (x := sg2 12) (by omega)
    rw [e29, e37, e38, e41, h4]
    by_cases e9 : c = (sg 12).toNatClampNeg
    · subst e9
      rw [upd_at, upd_at, upd_at, upd_at]
      refine ⟨ho, ⟨rfl, rfl⟩, ?_, ?_, rfl⟩
      · rw [upd_ne (by omega), upd_ne (by omega), upd_at]
      · rw [upd_ne (by omega), upd_at]
    · obtain ⟨a1, a2, a3, a4, a5⟩ := h c (by omega)
      rw [upd_ne e9, upd_ne e9, upd_ne e9]
      refine ⟨a1, a2, ?_, ?_, ?_⟩
      · rw [upd_ne (by omega), upd_ne (by omega), upd_ne (by omega)]; exact a3
      · rw [upd_ne (by omega), upd_ne (by omega), upd_ne (by omega)]; exact a4
      · rw [upd_ne (by omega), upd_ne (by omega), upd_ne (by omega)]; exact a5
theorem STL_s {sg sg2 : Nat → Int32} {gm gm2 : Nat → Nat → Int32} {lg lg2 : Nat → Nat → Int64} {o : Int32} {j : Nat} (h : STL sg gm lg j) (hI : CI sg gm) (hj8 : j < 80) (hj : j ≠ o.toNatClampNeg) (hf : SFR gm gm2 o.toNatClampNeg) (hb : BBG sg sg2 gm gm2 lg lg2 o) (h0 : 0 ≤ (sg 12).toInt) (h14 : gm2 14 = gm 14) (h16 : gm2 16 = gm 16) (h19 : gm2 19 = gm 19) (h20 : gm2 20 = gm 20) (hl0 : lg2 0 = lg 0) : STL sg2 gm2 lg2 j := by
  obtain ⟨a1, a2, a3, a4, a5⟩ := h
  obtain ⟨e25, e26, e22, e27⟩ := hf j hj
  unfold STL
  rw [h14, h16, e25, e26, e22, e27]
  refine ⟨a1, a2, a3, a4, ?_⟩
  have i27 := (show iv (-1) 79 (gm 27 j) from CI_n hI 27 hj8)
  rcases a5 with q | ⟨q1, q2, q3⟩
  · exact Or.inl q
  · by_cases hm : (gm 27 j).toInt = -1
    · exact Or.inl hm
    have k1 := cl_0 h0
    have hn0 := i27.1
    have k2 := cl_0 (x := gm 27 j) (by omega)
    refine Or.inr ⟨q1, ?_, q3.imp (fun q => ?_) (fun q => HSK_e q h19 h20 hl0)⟩
    · rcases hb with ⟨e12, -⟩ | ⟨e12, -⟩
      · rw [e12]; exact q2
      · omega
    · rcases hb with ⟨-, -, -, -, -, e4⟩ | ⟨-, -, -, -, -, id9, e4⟩
      · rw [e4]; exact q
      · rw [e4, pk_uLn (by omega)]; exact q
theorem STL_e {sg sg2 : Nat → Int32} {gm gm2 : Nat → Nat → Int32} {lg lg2 : Nat → Nat → Int64} {j : Nat} (h : STL sg gm lg j) (h12 : sg2 12 = sg 12) (h14 : gm2 14 = gm 14) (h16 : gm2 16 = gm 16) (h19 : gm2 19 = gm 19) (h20 : gm2 20 = gm 20) (h22 : gm2 22 = gm 22) (h25 : gm2 25 = gm 25) (h26 : gm2 26 = gm 26) (h27 : gm2 27 = gm 27) (hl0 : lg2 0 = lg 0) (hl4 : lg2 4 = lg 4) : STL sg2 gm2 lg2 j := by
  unfold STL HSK at *; rw [h12, h14, h16, h19, h20, h22, h25, h26, h27, hl0, hl4]; exact h
theorem BLI_z {sg : Nat → Int32} {gm : Nat → Nat → Int32} {b : Nat} (h0 : gm 41 (3 * b + 0) = 0) (h1 : gm 41 (3 * b + 1) = 0) (h2 : gm 41 (3 * b + 2) = 0) : BLI sg gm b :=
  ⟨LWD_0 h0, LWD_0 h1, fun i j _ hj => by rw [h1] at hj; exact absurd hj (Nat.not_lt_zero _), fun i j _ hj => by rw [h2] at hj; exact absurd hj (Nat.not_lt_zero _)⟩
theorem BLI_o {sg : Nat → Int32} {gm gm2 : Nat → Nat → Int32} {b c : Nat} (hI : CI sg gm) (hc : c < 80) (h : BLI sg gm c) (hov : OVS b gm gm2) (hne : c ≠ b) (h14 : gm2 14 = gm 14) (h22 : gm2 22 = gm 22) : BLI sg gm2 c := by
  have s0 := hov (3 * c + 0) (by omega) (by omega) (by omega)
  have s1 := hov (3 * c + 1) (by omega) (by omega) (by omega)
  have s2 := hov (3 * c + 2) (by omega) (by omega) (by omega)
  exact ⟨LWD_s h.1 s0.1 s0.2 h14 (sz80 hI (by omega)), LWD_s h.2.1 s1.1 s1.2 h14 (sz80 hI (by omega)), LDL_s h.2.2.1 s1.1 s1.2 h22 (sz80 hI (by omega)), LDL_s h.2.2.2 s2.1 s2.2 h22 (sz80 hI (by omega))⟩
theorem OVS_e {b : Nat} {gm gm1 gm2 : Nat → Nat → Int32} (h : OVS b gm1 gm2) (h41 : gm1 41 = gm 41) (h57 : gm1 57 = gm 57) : OVS b gm gm2 := by
  unfold OVS at *; rw [← h41, ← h57]; exact h
theorem OVS_t {b : Nat} {gm gm1 gm2 : Nat → Nat → Int32} (h : OVS b gm gm1) (h2 : OVS b gm1 gm2) : OVS b gm gm2 := fun q2 a1 a2 a3 => ⟨(h2 q2 a1 a2 a3).1.trans (h q2 a1 a2 a3).1, fun j hj => ((h2 q2 a1 a2 a3).2 j hj).trans ((h q2 a1 a2 a3).2 j hj)⟩
/-- the elements of the beans -/
def BEE (sg : Nat → Int32) (gm : Nat → Nat → Int32) : Prop := ∀ c, c < (sg 12).toNatClampNeg → 0 ≤ (gm 29 c).toInt ∧ (gm 29 c).toInt < (sg 4).toInt
theorem BEE_e {sg sg2 : Nat → Int32} {gm gm2 : Nat → Nat → Int32} (h : BEE sg gm) (h4 : sg2 4 = sg 4) (h12 : sg2 12 = sg 12) (h29 : gm2 29 = gm 29) : BEE sg2 gm2 := by
  unfold BEE at *; rw [h4, h12, h29]; exact h
/-- a document that is wired -/
def WRD (sg : Nat → Int32) (gm : Nat → Nat → Int32) (lg : Nat → Nat → Int64) : Prop := LK sg gm ∧ (∀ j, j < (sg 4).toNatClampNeg → STL sg gm lg j ∧ SOK gm lg j) ∧ BEE sg gm ∧ ∀ c, c < (sg 12).toNatClampNeg → BLI sg gm c
end
section

theorem OVS_k {b : Nat} {gm gm2 : Nat → Nat → Int32} (h41 : gm2 41 = gm 41) (h57 : gm2 57 = gm 57) : OVS b gm gm2 := fun q2 _ _ _ => ⟨by rw [h41], fun j _ => by rw [h57]⟩
end
section
theorem cF_d {f : Nat → Int32} (j : Nat) : ∀ k, j ≤ k → cF f k ≤ cF f j + (k - j) := by
  intro k
  induction k with
  | zero => intro h; have h0 : j = 0 := by omega
            subst h0; exact Nat.le_refl _
  | succ k ih =>
    intro h
    by_cases hj : j = k + 1
    · subst hj; omega
    · have h1 := ih (by omega)
      by_cases q : f k = -1
      · rw [cF_s0 q]; omega
      · rw [cF_s1 q]; omega
/-- the places: free, or one of the first n that holds one of the n -/
def SP3 (f : Nat → Int32) (n : Nat) : Prop := ∀ q, q < 3 → f q = -1 ∨ (q < n ∧ 0 ≤ (f q).toInt ∧ (f q).toInt < (n : Int))
theorem SP3_0 {f : Nat → Int32} {n : Nat} (h : ∀ q, q < 3 → f q = -1) : SP3 f n ∧ cF f 3 = 0 := ⟨fun q hq => Or.inl (h q hq), cF_0 3 (fun q _ hq => h q hq)⟩
theorem SP3_u {f f2 : Nat → Int32} {n i : Nat} {v : Int32} (h : SP3 f n) (h2 : f2 = upd f i v) (hi : i < n) (v0 : 0 ≤ v.toInt) (v1 : v.toInt < (n : Int)) : SP3 f2 n := by
  intro q hq
  by_cases e9 : q = i
  · subst e9; rw [h2, upd_at]; exact Or.inr ⟨hi, v0, v1⟩
  · rw [h2, upd_ne e9]; exact h q hq
theorem SP3_full {f : Nat → Int32} {n : Nat} (hn : n ≤ 3) (h : SP3 f n) (hc : cF f 3 = n) : SPF f n := by
  have h1 : ∀ k, n ≤ k → k ≤ 3 → cF f k = cF f n := by
    intro k
    induction k with
    | zero => intro q _; have h0 : n = 0 := by omega
              subst h0; rfl
    | succ k ih =>
      intro q1 q2
      by_cases e9 : n = k + 1
      · rw [e9]
      · have h2 := ih (by omega) (by omega)
        rcases h k (by omega) with q | q
        · rw [cF_s0 q]; exact h2
        · omega
  have h3 := h1 3 hn (Nat.le_refl 3)
  intro q hq
  have h4 := cF_all n (h3.symm.trans hc) q hq
  rcases h q (by omega) with q5 | q5
  · exact absurd q5 h4
  · exact q5.2
/-- the place that an arg asks for -/
def atF (gm : Nat → Nat → Int32) (q : Nat) (j : Nat) : Int32 := gm 23 (gm 57 (128 * q + j)).toNatClampNeg
theorem ne_m1 {v : Int32} (h : ¬ v.toInt = -1) : ¬ v = -1 := fun q => h (by rw [q]; decide)
theorem eq_m1 {v : Int32} (h : v.toInt = -1) : v = -1 := Int32.toInt_inj.mp (by rw [h]; decide)
/-- the place for an arg that asks for none: free, and one of the first n -/
theorem free_pl {f g : Nat → Int32} {n i p9 : Nat} (hn : n ≤ 3) (hi : i < n) (hg : g i = -1) (hc : cF f 3 = cF g n + (i - cF g i)) (hp : ∀ q, q < p9 → ¬ f q = -1) (hp3 : p9 < 3) (h2 : p9 = 2 ∨ f p9 = -1) : f p9 = -1 ∧ p9 < n := by
  have h1 := cF_d (f := g) (i + 1) n (by omega)
  rw [cF_s0 hg] at h1
  have h0 := cF_le g i
  have hlt : cF f 3 < n := by omega
  have hge := cF_ge (f := f) (p9 := p9) (fun q _ hq => hp q hq) 3 (by omega)
  refine ⟨?_, by omega⟩
  rcases h2 with q | q
  · by_cases e9 : f p9 = -1
    · exact e9
    · exfalso
      have := cF_ge (f := f) (p9 := 3) (fun q2 _ hq2 => by
        by_cases e8 : q2 = p9
        · rw [e8]; exact e9
        · exact hp q2 (by omega)) 3 (Nat.le_refl _)
      omega
  · exact q
end
section
/-- an element that an arg or a set holds: what it is, and that its bean has no id -/
def BOK (sg : Nat → Int32) (gm : Nat → Nat → Int32) (lg : Nat → Nat → Int64) (o : Nat) : Prop := 0 ≤ (gm 27 o).toInt → (gm 27 o).toInt < (sg 12).toInt ∧ lg 4 (gm 27 o).toNatClampNeg = 0
def CTO (sg : Nat → Int32) (gm : Nat → Nat → Int32) (lg : Nat → Nat → Int64) (o : Int32) : Prop := 0 ≤ o.toInt ∧ o.toInt < (sg 4).toInt ∧ ((gm 25 o.toNatClampNeg).toInt = 2 ∨ (6 ≤ (gm 25 o.toNatClampNeg).toInt ∧ (gm 25 o.toNatClampNeg).toInt ≤ 9)) ∧ ((gm 25 o.toNatClampNeg).toInt = 6 → (gm 14 o.toNatClampNeg).toInt = 6) ∧ BOK sg gm lg o.toNatClampNeg
theorem BOK_in {sg : Nat → Int32} {gm : Nat → Nat → Int32} {lg : Nat → Nat → Int64} {o : Nat} (h : STL sg gm lg o) (hs : SOK gm lg o) (hn : ¬ ISI gm o 0) : BOK sg gm lg o := fun h0 => by
  obtain ⟨-, -, -, -, h5⟩ := h
  rcases h5 with q | ⟨q1, q2, q3⟩
  · omega
  · exact ⟨q2, q3.resolve_right (hs.2.2.2 q1 hn)⟩
theorem isi_no {gm : Nat → Nat → Int32} {o : Nat} {w : Int} (hw : 0 ≤ (gm 15 o).toInt → (gm 14 (gm 15 o).toNatClampNeg).toInt = w) (h0 : ¬ w = 0) : ¬ ISI gm o 0 := fun q => by
  have h1 := hw q.1
  rw [q.2] at h1
  exact h0 (by rw [← h1]; decide)
/-- what an arg or a set holds is such an element -/
theorem CTO_h {sg : Nat → Int32} {gm : Nat → Nat → Int32} {lg : Nat → Nat → Int64} {h : Int32} (hI : CI sg gm) (hW : WRD sg gm lg) (h0 : 0 ≤ h.toInt) (h4 : h.toInt < (sg 4).toInt) (hw : (gm 14 h.toNatClampNeg).toInt = 3 ∨ (gm 14 h.toNatClampNeg).toInt = 4) : CTO sg gm lg (gm 26 h.toNatClampNeg) := by
  obtain ⟨hLK, hST, -, -⟩ := hW
  have i4 := (show iv 0 80 (sg 4) from CI_s hI 4)
  have i4a := i4.1
  have i4b := i4.2
  have k1 := cl_0 h0
  have k4 : (sg 4).toNatClampNeg = (sg 4).toInt.toNat := rfl
  obtain ⟨hs, -⟩ := hST h.toNatClampNeg (by omega)
  obtain ⟨s1, s2, s3, s4, s5⟩ := hs
  rcases s3 hw with ⟨q1, q2⟩ | ⟨q1, q2⟩
  · obtain ⟨l1, l2, l3, l4, l5⟩ := hLK h.toNatClampNeg (by omega)
    rw [q2]
    have kc := cl_0 q1
    have hout := l4 q1
    obtain ⟨t1, t2⟩ := hST (gm 16 h.toNatClampNeg).toNatClampNeg (by omega)
    have hw2 : (gm 14 (gm 15 (gm 16 h.toNatClampNeg).toNatClampNeg).toNatClampNeg) = gm 14 h.toNatClampNeg := by
      rw [show (gm 15 (gm 16 h.toNatClampNeg).toNatClampNeg).toNatClampNeg = h.toNatClampNeg from by
        have : (gm 15 (gm 16 h.toNatClampNeg).toNatClampNeg).toNatClampNeg = (gm 15 (gm 16 h.toNatClampNeg).toNatClampNeg).toInt.toNat := rfl
        omega]
    have hh := t2.2.1 (by omega) (by rw [hw2]; exact hw)
    have hk := t1.2.1 (by omega) (by omega)
    refine ⟨q1, l2, by rw [hk]; exact hh, fun q => by rw [hk] at q; exact q, BOK_in t1 t2 ?_⟩
    rcases hw with q | q
    · exact isi_no (w := 3) (fun _ => by rw [hw2]; exact q) (by decide)
    · exact isi_no (w := 4) (fun _ => by rw [hw2]; exact q) (by decide)
  · have e1 : gm 26 h.toNatClampNeg = h := Int32.toInt_inj.mp (by omega)
    rw [e1]
    refine ⟨h0, h4, by omega, fun q => by omega, fun q => ?_⟩
    rcases s5 with q5 | ⟨q5, -⟩
    · omega
    · omega
theorem CTO_k {sg sg2 : Nat → Int32} {gm gm2 : Nat → Nat → Int32} {lg lg2 : Nat → Nat → Int64} {o : Int32} (h : CTO sg gm lg o) (h4 : sg2 4 = sg 4) (h12 : sg2 12 = sg 12) (h14 : gm2 14 = gm 14) (h25 : gm2 25 = gm 25) (h27 : gm2 27 = gm 27) (hl : lg2 4 = lg 4) : CTO sg2 gm2 lg2 o := by
  unfold CTO BOK at *; rw [h4, h12, h14, h25, h27, hl]; exact h
/-- the items of a list -/
theorem BOK_it {sg : Nat → Int32} {gm : Nat → Nat → Int32} {lg : Nat → Nat → Int64} {o it : Int32} (hI : CI sg gm) (hW : WRD sg gm lg) (ho : 0 ≤ o.toInt) (h6 : (gm 14 o.toNatClampNeg).toInt = 6) (h0 : 0 ≤ it.toInt) (h4 : it.toInt < (sg 4).toInt) (hout : (gm 15 it.toNatClampNeg).toInt = o.toInt) : BOK sg gm lg it.toNatClampNeg := by
  obtain ⟨hLK, hST, -, -⟩ := hW
  have k1 := cl_0 h0
  have k4 : (sg 4).toNatClampNeg = (sg 4).toInt.toNat := rfl
  obtain ⟨t1, t2⟩ := hST it.toNatClampNeg (by omega)
  refine BOK_in t1 t2 (isi_no (w := 6) (fun _ => ?_) (by decide))
  rw [show gm 15 it.toNatClampNeg = o from Int32.toInt_inj.mp hout]
  exact h6
/-- the args' worth is worked out -/
def WKD (gm : Nat → Nat → Int32) (q d n : Nat) : Prop := ∀ j, j < n → j < (gm 41 q).toNatClampNeg → (gm 25 (gm 26 (gm 57 (128 * q + j)).toNatClampNeg).toNatClampNeg).toInt = 6 ∨ (gm 25 (gm 26 (gm 57 (128 * q + j)).toNatClampNeg).toNatClampNeg).toInt = 7 ∨ (gm 25 (gm 26 (gm 57 (128 * q + j)).toNatClampNeg).toNatClampNeg).toInt = 9 ∨ iv 0 59 (gm 52 (24 * d + 6 * j))
theorem WKD_e {gm gm2 : Nat → Nat → Int32} {q d n : Nat} (h : WKD gm q d n) (h25 : gm2 25 = gm 25) (h26 : gm2 26 = gm 26) (h41 : gm2 41 = gm 41) (h52 : gm2 52 = gm 52) (h57 : gm2 57 = gm 57) : WKD gm2 q d n := by
  unfold WKD at *; rw [h25, h26, h41, h52, h57]; exact h
theorem WRD_e {sg sg2 : Nat → Int32} {gm gm2 : Nat → Nat → Int32} {lg lg2 : Nat → Nat → Int64} (h : WRD sg gm lg) (h4 : sg2 4 = sg 4) (h12 : sg2 12 = sg 12) (h14 : gm2 14 = gm 14) (h15 : gm2 15 = gm 15) (h16 : gm2 16 = gm 16) (h17 : gm2 17 = gm 17) (h19 : gm2 19 = gm 19) (h20 : gm2 20 = gm 20) (h22 : gm2 22 = gm 22) (h25 : gm2 25 = gm 25) (h26 : gm2 26 = gm 26) (h27 : gm2 27 = gm 27) (h29 : gm2 29 = gm 29) (h41 : gm2 41 = gm 41) (h44 : gm2 44 = gm 44) (h45 : gm2 45 = gm 45) (h46 : gm2 46 = gm 46) (h57 : gm2 57 = gm 57) (hl0 : lg2 0 = lg 0) (hl4 : lg2 4 = lg 4) : WRD sg2 gm2 lg2 :=
  ⟨LK_e2 h.1 h4 h15 h16 h17, fun j hj => by rw [h4] at hj; exact ⟨STL_e (h.2.1 j hj).1 h12 h14 h16 h19 h20 h22 h25 h26 h27 hl0 hl4, SOK_e (h.2.1 j hj).2 h14 h15 h19 h20 h44 h45 h46 hl0⟩, BEE_e h.2.2.1 h4 h12 h29, fun c hc => by rw [h12] at hc; exact BLI_e (h.2.2.2 c hc) h4 h14 h22 h41 h57⟩
/-- the jth arg of a bean holds such an element -/
theorem arg_in {sg : Nat → Int32} {gm : Nat → Nat → Int32} {lg : Nat → Nat → Int64} {lx : List Nat} {b j : Nat} {w : Int} {k : Nat} (hI : CI sg gm) (hW : WRD sg gm lg) (hLD : LDI lx gm) (hk : (k = 0 ∧ w = 3) ∨ (k = 1 ∧ w = 4)) (hb : b < (sg 12).toNatClampNeg) (hj : j < (gm 41 (3 * b + k)).toNatClampNeg) : CTO sg gm lg (gm 26 (gm 57 (128 * (3 * b + k) + j)).toNatClampNeg) ∧ (gm 14 (gm 57 (128 * (3 * b + k) + j)).toNatClampNeg).toInt = w ∧ 0 ≤ (gm 57 (128 * (3 * b + k) + j)).toInt ∧ (gm 57 (128 * (3 * b + k) + j)).toInt < (sg 4).toInt := by
  have hbl := hW.2.2.2 b hb
  have i12 := (show iv 0 80 (sg 12) from CI_s hI 12)
  have k12 : (sg 12).toNatClampNeg = (sg 12).toInt.toNat := rfl
  have i12b := i12.2
  have h0 := (hLD (3 * b + k) (by omega)).2.2 j hj
  rcases hk with ⟨rfl, rfl⟩ | ⟨rfl, rfl⟩
  · obtain ⟨h1, h2⟩ := hbl.1 j hj
    exact ⟨CTO_h hI hW h0 h2 (Or.inl h1), h1, h0, h2⟩
  · obtain ⟨h1, h2⟩ := hbl.2.1 j hj
    exact ⟨CTO_h hI hW h0 h2 (Or.inr h1), h1, h0, h2⟩
end
section
/-- a bean with an id, one of a kind, that is made has its object -/
def MOK (sg : Nat → Int32) (gm : Nat → Nat → Int32) (lg : Nat → Nat → Int64) : Prop := ∀ c, c < (sg 12).toNatClampNeg → ¬ gm 38 c = 0 → ¬ lg 4 c = 0 → gm 35 c = 0 → 0 ≤ (gm 39 c).toInt
/-- beans that are being made stay so, with their objects -/
def BMK (gm gm2 : Nat → Nat → Int32) : Prop := ∀ c, ¬ gm 37 c = 0 → gm2 37 c = gm 37 c ∧ gm2 39 c = gm 39 c
def BMb (b : Nat) (gm gm2 : Nat → Nat → Int32) : Prop := ∀ c, c ≠ b → ¬ gm 37 c = 0 → gm2 37 c = gm 37 c ∧ gm2 39 c = gm 39 c
def WFR (d : Nat) (gm gm2 : Nat → Nat → Int32) : Prop := ∀ k, k < d → gm2 52 k = gm 52 k
theorem MOK_e {sg sg2 : Nat → Int32} {gm gm2 : Nat → Nat → Int32} {lg lg2 : Nat → Nat → Int64} (h : MOK sg gm lg) (h12 : sg2 12 = sg 12) (h35 : gm2 35 = gm 35) (h38 : gm2 38 = gm 38) (h39 : gm2 39 = gm 39) (hl : lg2 4 = lg 4) : MOK sg2 gm2 lg2 := by
  unfold MOK at *; rw [h12, h35, h38, h39, hl]; exact h
theorem MOK_u {sg sg2 : Nat → Int32} {gm gm2 : Nat → Nat → Int32} {lg lg2 : Nat → Nat → Int64} {b : Nat} {v : Int32} (h : MOK sg gm lg) (h12 : sg2 12 = sg 12) (h35 : gm2 35 = gm 35) (h38 : gm2 38 = gm 38) (h39 : gm2 39 = upd (gm 39) b v) (hl : lg2 4 = lg 4) (hb : 0 ≤ v.toInt ∨ (¬ lg 4 b = 0 → gm 35 b = 0 → gm 38 b = 0)) : MOK sg2 gm2 lg2 := fun c hc q1 q2 q3 => by
  rw [h12] at hc; rw [h38] at q1; rw [hl] at q2; rw [h35] at q3
  rw [h39]
  by_cases e9 : c = b
  · subst e9
    rw [upd_at]
    rcases hb with q | q
    · exact q
    · exact absurd (q q2 q3) q1
  · rw [upd_ne e9]; exact h c hc q1 q2 q3
theorem MOK_f {sg sg2 : Nat → Int32} {gm gm2 : Nat → Nat → Int32} {lg lg2 : Nat → Nat → Int64} {b : Nat} {v : Int32} (h : MOK sg gm lg) (h12 : sg2 12 = sg 12) (h35 : gm2 35 = gm 35) (h38 : gm2 38 = upd (gm 38) b v) (h39 : gm2 39 = gm 39) (hl : lg2 4 = lg 4) (hb : 0 ≤ (gm 39 b).toInt) : MOK sg2 gm2 lg2 := fun c hc q1 q2 q3 => by
  rw [h12] at hc; rw [hl] at q2; rw [h35] at q3
  rw [h39]
  by_cases e9 : c = b
  · rw [e9]; exact hb
  · rw [h38, upd_ne e9] at q1; exact h c hc q1 q2 q3
theorem BMK_rf {gm : Nat → Nat → Int32} : BMK gm gm := fun _ _ => ⟨rfl, rfl⟩
theorem BMK_e {gm gm2 : Nat → Nat → Int32} (h37 : gm2 37 = gm 37) (h39 : gm2 39 = gm 39) : BMK gm gm2 := fun c _ => ⟨by rw [h37], by rw [h39]⟩
theorem BMK_t {gm gm1 gm2 : Nat → Nat → Int32} (h : BMK gm gm1) (h2 : BMK gm1 gm2) : BMK gm gm2 := fun c hc => by
  obtain ⟨a1, a2⟩ := h c hc
  obtain ⟨b1, b2⟩ := h2 c (by rw [a1]; exact hc)
  exact ⟨b1.trans a1, b2.trans a2⟩
theorem BMb_t {b : Nat} {gm gm1 gm2 : Nat → Nat → Int32} (h : BMb b gm gm1) (h2 : BMK gm1 gm2) : BMb b gm gm2 := fun c hne hc => by
  obtain ⟨a1, a2⟩ := h c hne hc
  obtain ⟨b1, b2⟩ := h2 c (by rw [a1]; exact hc)
  exact ⟨b1.trans a1, b2.trans a2⟩
theorem BMb_u {b : Nat} {gm gm1 gm2 : Nat → Nat → Int32} {v w : Int32} (h : BMb b gm gm1) (h37 : gm2 37 = gm1 37 ∨ gm2 37 = upd (gm1 37) b v) (h39 : gm2 39 = gm1 39 ∨ gm2 39 = upd (gm1 39) b w) : BMb b gm gm2 := fun c hne hc => by
  obtain ⟨a1, a2⟩ := h c hne hc
  refine ⟨?_, ?_⟩
  · rcases h37 with q | q
    · rw [q]; exact a1
    · rw [q, upd_ne hne]; exact a1
  · rcases h39 with q | q
    · rw [q]; exact a2
    · rw [q, upd_ne hne]; exact a2
theorem BMb_rf {b : Nat} {gm : Nat → Nat → Int32} : BMb b gm gm := fun _ _ _ => ⟨rfl, rfl⟩
theorem BMb_K {b : Nat} {gm gm2 : Nat → Nat → Int32} (h : BMb b gm gm2) (hb : gm 37 b = 0) : BMK gm gm2 := fun c hc => h c (fun q => hc (by rw [q]; exact hb)) hc
theorem WFR_rf {d : Nat} {gm : Nat → Nat → Int32} : WFR d gm gm := fun _ _ => rfl
theorem WFR_e {d : Nat} {gm gm2 : Nat → Nat → Int32} (h : gm2 52 = gm 52) : WFR d gm gm2 := fun k _ => by rw [h]
theorem WFR_t {d d2 : Nat} {gm gm1 gm2 : Nat → Nat → Int32} (h : WFR d gm gm1) (h2 : WFR d2 gm1 gm2) (hd : d ≤ d2) : WFR d gm gm2 := fun k hk => (h2 k (by omega)).trans (h k hk)
theorem WFR_u {d i : Nat} {v : Int32} {gm gm1 gm2 : Nat → Nat → Int32} (h : WFR d gm gm1) (h2 : gm2 52 = upd (gm1 52) i v) (hd : d ≤ i) : WFR d gm gm2 := fun k hk => by
  rw [h2, upd_ne (by omega)]; exact h k hk
theorem WKD_s {gm1 gm2 : Nat → Nat → Int32} {q d i : Nat} (h : WKD gm1 q d i) (hf : WFR (24 * d + 6 * i) gm1 gm2) (h25 : gm2 25 = gm1 25) (h26 : gm2 26 = gm1 26) (h41 : gm2 41 = gm1 41) (h57 : gm2 57 = gm1 57) (hn : (gm1 25 (gm1 26 (gm1 57 (128 * q + i)).toNatClampNeg).toNatClampNeg).toInt = 6 ∨ (gm1 25 (gm1 26 (gm1 57 (128 * q + i)).toNatClampNeg).toNatClampNeg).toInt = 7 ∨ (gm1 25 (gm1 26 (gm1 57 (128 * q + i)).toNatClampNeg).toNatClampNeg).toInt = 9 ∨ iv 0 59 (gm2 52 (24 * d + 6 * i))) : WKD gm2 q d (i + 1) := fun j hj hj2 => by
  rw [h41] at hj2
  rw [h25, h26, h57]
  by_cases e9 : j = i
  · rw [e9]; exact hn
  · rw [hf (24 * d + 6 * j) (by omega)]; exact h j (by omega) hj2
theorem WKD_le {gm : Nat → Nat → Int32} {q d n m : Nat} (h : WKD gm q d n) (hm : m ≤ n ∨ (gm 41 q).toNatClampNeg ≤ n) : WKD gm q d m := fun j hj hj2 => h j (by omega) hj2
theorem bm_n {gm gm2 : Nat → Nat → Int32} {b : Nat} (h : ¬ gm 37 b = 0) (hb : BMK gm gm2) : ¬ gm2 37 b = 0 := by rw [(hb b h).1]; exact h
theorem bm_9 {gm gm2 : Nat → Nat → Int32} {b : Nat} (h : ¬ gm 37 b = 0) (hb : BMK gm gm2) (h9 : 0 ≤ (gm 39 b).toInt) : 0 ≤ (gm2 39 b).toInt := by rw [(hb b h).2]; exact h9
/-- a set's letter is there -/
theorem set_let {sg : Nat → Int32} {gm : Nat → Nat → Int32} {lg : Nat → Nat → Int64} {e : Int32} (hW : WRD sg gm lg) (h0 : 0 ≤ e.toInt) (h4 : e.toInt < (sg 4).toInt) (hw : (gm 14 e.toNatClampNeg).toInt = 4) : 0 ≤ (gm 22 e.toNatClampNeg).toInt := by
  have k1 := cl_0 h0
  have k4 : (sg 4).toNatClampNeg = (sg 4).toInt.toNat := rfl
  exact (hW.2.1 e.toNatClampNeg (by omega)).1.2.2.2.1 hw
end
section
theorem BOK_e {sg sg2 : Nat → Int32} {gm gm2 : Nat → Nat → Int32} {lg lg2 : Nat → Nat → Int64} {o : Nat} (h : BOK sg gm lg o) (h12 : sg2 12 = sg 12) (h27 : gm2 27 = gm 27) (hl : lg2 4 = lg 4) : BOK sg2 gm2 lg2 o := by
  unfold BOK at *; rw [h12, h27, hl]; exact h
end
section

theorem MOK_0 {sg : Nat → Int32} {gm : Nat → Nat → Int32} {lg : Nat → Nat → Int64} (h : ∀ c, c < (sg 12).toNatClampNeg → gm 38 c = 0) : MOK sg gm lg := fun c hc q => absurd (h c hc) q
theorem FND9_0 {sg : Nat → Int32} {gm : Nat → Nat → Int32} (h : (sg 15).toInt = 0) : FND9 sg gm := fun i hi => by
  have k : (sg 15).toNatClampNeg = (sg 15).toInt.toNat := rfl
  omega
end
section
theorem BN_e2 {sg sg2 : Nat → Int32} {gm gm2 : Nat → Nat → Int32} (h : BN sg gm) (h4 : sg2 4 = sg 4) (h27 : gm2 27 = gm 27) : BN sg2 gm2 := by
  unfold BN at *; rw [h4, h27]; exact h
def RDK (sg : Nat → Int32) (gm : Nat → Nat → Int32) : Prop := FA sg gm ∧ VS sg gm ∧ LK sg gm ∧ BN sg gm
theorem RDK_e {sg sg2 : Nat → Int32} {gm gm2 : Nat → Nat → Int32} (h : RDK sg gm) (h4 : sg2 4 = sg 4) (h5 : sg2 5 = sg 5) (h6 : sg2 6 = sg 6) (h15 : gm2 15 = gm 15) (h16 : gm2 16 = gm 16) (h17 : gm2 17 = gm 17) (h19 : gm2 19 = gm 19) (h20 : gm2 20 = gm 20) (h27 : gm2 27 = gm 27) (h44 : gm2 44 = gm 44) (h45 : gm2 45 = gm 45) : RDK sg2 gm2 :=
  ⟨FA_e h.1 h4 h5 h19 h20, VS_e h.2.1 h5 h6 h44 h45, LK_e2 h.2.2.1 h4 h15 h16 h17, BN_e2 h.2.2.2 h4 h27⟩
def WRM (sg : Nat → Int32) (gm : Nat → Nat → Int32) (lg : Nat → Nat → Int64) : Prop := WRD sg gm lg ∧ ∀ c9, c9 < (sg 12).toNatClampNeg → gm 37 c9 = 0 ∧ gm 38 c9 = 0
theorem WRM_e {sg sg2 : Nat → Int32} {gm : Nat → Nat → Int32} {lg : Nat → Nat → Int64} (h : WRM sg gm lg) (h4 : sg2 4 = sg 4) (h12 : sg2 12 = sg 12) : WRM sg2 gm lg :=
  ⟨WRD_e h.1 h4 h12 rfl rfl rfl rfl rfl rfl rfl rfl rfl rfl rfl rfl rfl rfl rfl rfl rfl rfl, by rw [h12]; exact h.2⟩
end
section
theorem PR_u {gm gm2 : Nat → Nat → Int32} {a b : Int32} (h : PR gm) (h0 : 0 ≤ a.toInt) (e : gm2 6 = upd (gm 6) a.toNatClampNeg b) (hb : b.toInt < a.toInt) : PR gm2 := fun k hk => by
  rw [e]
  by_cases e9 : k = a.toNatClampNeg
  · rw [e9, upd_at]; have k1 : a.toNatClampNeg = a.toInt.toNat := rfl; omega
  · rw [upd_ne e9]; exact h k hk
theorem PR_k {gm gm2 : Nat → Nat → Int32} (h : PR gm) (e : gm2 6 = gm 6) : PR gm2 := by unfold PR at *; rw [e]; exact h
theorem zCls_f {a : Int32} (h : zCls a = 0) : a.toInt < 0 ∨ 7 < a.toInt := by
  by_cases h1 : a.toInt < 0
  · exact Or.inl h1
  by_cases h2 : 7 < a.toInt
  · exact Or.inr h2
  exfalso
  have key : ∀ n : Fin 8, zCls (nI n.val) = 1 := by decide +kernel
  have e1 : a = nI a.toInt.toNat := Int32.toInt_inj.mp (by rw [nI_toInt (by omega)]; omega)
  have := key ⟨a.toInt.toNat, by omega⟩
  rw [← e1] at this
  rw [this] at h
  exact absurd h (by decide)

/-- what the reference's state bears between two calls -/
def RI (sg : Nat → Int32) (gm : Nat → Nat → Int32) (lg : Nat → Nat → Int64) : Prop := MI sg gm ∧ PR gm ∧ GI0 sg gm lg ∧ MO sg gm ∧ ((sg 40).toInt = 0 ∨ DOC sg gm lg)
/-- a call that leaves the document and what is made of it -/
theorem RI_of {sg sg2 : Nat → Int32} {gm gm2 : Nat → Nat → Int32} {lg lg2 : Nat → Nat → Int64} {Ls Lg Ll : List Nat} (h : RI sg gm lg) (hI : MI sg2 gm2) (hPR : PR gm2) (h1 : KS Ls sg sg2) (h2 : KS Lg gm gm2) (h3 : KS Ll lg lg2) (q1 : (Ls.contains 24 || Ls.contains 41) = false) (q1b : Ls.contains 40 = false) (q2 : ([26, 28, 29, 30, 36, 37, 38, 42, 43].all fun k => !Lg.contains k) = true) (q3 : Ll.contains 35 = false) (q4 : (Lg.contains 44 || Lg.contains 45) = false) (q5 : ([60, 61, 62, 70, 71, 72, 73].all fun k => !Lg.contains k) = true) (q6 : Ls.contains 50 = false) (q7 : Ll.contains 1 = false) (q8 : (Ls.contains 50 || Ls.contains 41) = false) (q9 : Lg.contains 59 = false) : RI sg2 gm2 lg2 := by
  obtain ⟨-, -, a3, a4, a5⟩ := h
  refine ⟨hI, hPR, GI0_of a3 h1 h2 h3 q1 q2 q3 q5 q6 q7, MO_of a4 h1 h2 q8 q9, ?_⟩
  rcases a5 with q | q
  · exact Or.inl (by rw [h1 40 q1b]; exact q)
  · exact Or.inr (DOC_of q h1 h2 h3 q1 q2 q3 q4)
/-- a call that makes -/
theorem RI_mk {sg sg2 : Nat → Int32} {gm gm2 : Nat → Nat → Int32} {lg lg2 : Nat → Nat → Int64} {Ls Lg Ll : List Nat} (h : RI sg gm lg) (hI : MI sg2 gm2) (hg : GI0 sg2 gm2 lg2) (hm : MO sg2 gm2) (h1 : KS Ls sg sg2) (h2 : KS Lg gm gm2) (h3 : KS Ll lg lg2) (q1 : (Ls.contains 24 || Ls.contains 41) = false) (q1b : Ls.contains 40 = false) (q2 : ([26, 28, 29, 30, 36, 37, 38, 42, 43].all fun k => !Lg.contains k) = true) (q3 : Ll.contains 35 = false) (q4 : (Lg.contains 44 || Lg.contains 45) = false) (q5 : Lg.contains 6 = false) : RI sg2 gm2 lg2 := by
  obtain ⟨-, a2, -, -, a5⟩ := h
  refine ⟨hI, PR_k a2 (h2 6 q5), hg, hm, ?_⟩
  rcases a5 with q | q
  · exact Or.inl (by rw [h1 40 q1b]; exact q)
  · exact Or.inr (DOC_of q h1 h2 h3 q1 q2 q3 q4)
theorem RI_rd {sg sg2 : Nat → Int32} {gm gm2 : Nat → Nat → Int32} {lg lg2 : Nat → Nat → Int64} {Lg : List Nat} (h : RI sg gm lg) (hI : MI sg2 gm2) (h2 : KS Lg gm gm2) (hd : (sg2 40).toInt = 0 ∨ DOC sg2 gm2 lg2) (hc : CLR sg2 gm2) (q5 : Lg.contains 6 = false) (q70 : Lg.contains 70 = false) (q71 : Lg.contains 71 = false) (q72 : Lg.contains 72 = false) (q73 : Lg.contains 73 = false) : RI sg2 gm2 lg2 :=
  ⟨hI, PR_k h.2.1 (h2 6 q5), GI0_clr (VAL_k (h2 70 q70) (h2 71 q71) (h2 72 q72) (h2 73 q73) h.2.2.1.1) hc, MO_0 hc.1, hd⟩
end
section
section CT2
variable {p : Program} {l : Launch} {e : Env} {R : Room} {s : State} {m : MethodId} {args : Array Value} {below : List Frame} {meth : Method} {c : Code} {H : Heap} {locs : List Loc} {cells slots : Nat} {Q : State → Prop} {pc : Nat} {ls : Array Slot} {rest : List Value}
theorem mc_goHit {own name E : String} {ce : Cell} {q : Addr} {S : State} (hpl : e.platform.magicAccessors = ({} : Platform).magicAccessors) (hW : s.WarmedH S.vm) (hown : s.vm.findClass own = some m.cls) (x : ExceptionTableEntry) (suf : List ExceptionTableEntry) (hx : covers x pc = true) (h0 : x.catchType ≠ 0) (hlink : (Cond.classLink own x.catchType name).before args s = true) (hcast : (Cond.castable E name).before args s = true) (hcT2 : S.heap[q]? = some ce) (hv : ce.vm = .none) (hcl : s.vm.findClass E = some ce.cls) :
    ∃ cT : ClassId, s.WarmedH (S.vm.noted m.cls x.catchType (.cls cT)) ∧ ∀ (Q : Handler → Pre) (E : CtlPost) (d : Bool) (acts : List Action), wp (findHandler.go (F0 m pc ls rest) q (x :: suf)) Q E e d acts S ↔ Q (.found x.handlerPc) d acts (S.setVm (S.vm.noted m.cls x.catchType (.cls cT))) := by
  obtain ⟨c3, cT, hc3, hcT, hasg⟩ := Cond.castable_spec hcast
  cases Option.some.inj (hc3.symm.trans hcl)
  obtain ⟨c5, hc5, hln⟩ := Cond.classLink_spec hown hlink e.platform hpl
  cases Option.some.inj (hcT.symm.trans hc5)
  obtain ⟨dk, _, _, kt, hd, _, _, _, _, hkt, _, hopen⟩ := hln.here
  have hlT := hW.classLinks hln
  have hal := hW.alike
  obtain ⟨k9, h9, -⟩ := Vm.findClass_spec hcl
  obtain ⟨kc, hkc, -⟩ := hal.2.2 _ _ h9
  obtain ⟨kt2, hkt2, -⟩ := hal.2.2 _ _ hkt
  have hfit : S.vm.assignable ce.cls cT = true := by rw [hal.assignable]; exact hasg
  have hst : ∀ k, ce.vm ≠ .statics k := VmData.ne_statics_of (by rw [hv]; rfl)
  have hal2 : S.vm.Alike (S.vm.noted m.cls x.catchType (.cls cT)) := (Vm.Alike.refl S.vm).noted _ _ _
  obtain ⟨kc3, hkc3, -⟩ := hal2.2.2 _ _ hkc
  obtain ⟨kt3, hkt3, -⟩ := hal2.2.2 _ _ hkt2
  have hfit3 : (S.vm.noted m.cls x.catchType (.cls cT)).assignable ce.cls cT = true := by rw [hal2.assignable]; exact hfit
  obtain ⟨ha, ht⟩ := (resolveClass_links e.toSetting hlT).op (op := VmOp.resolveClass m.cls x.catchType) rfl
  refine ⟨cT, hW.noted hd hopen (State.rightAt_cls hln), fun Q E d acts => ?_⟩
  simp only [covers] at hx
  simp [findHandler.go, F0, hx, h0, ha, ht, hcT2, hst, hkc3, hkt3, hfit3, VmOp.dirties, VmOp.acts]
theorem mc_goPass {own name E : String} {ce : Cell} {q : Addr} {S : State} (hpl : e.platform.magicAccessors = ({} : Platform).magicAccessors) (hW : s.WarmedH S.vm) (hown : s.vm.findClass own = some m.cls) (x : ExceptionTableEntry) (suf : List ExceptionTableEntry) (hx : covers x pc = true) (h0 : x.catchType ≠ 0) (hlink : (Cond.classLink own x.catchType name).before args s = true) (hcast : va_Nc E name s) (hcT2 : S.heap[q]? = some ce) (hv : ce.vm = .none) (hcl : s.vm.findClass E = some ce.cls) :
    ∃ cT : ClassId, s.WarmedH (S.vm.noted m.cls x.catchType (.cls cT)) ∧ ∀ (Q : Handler → Pre) (E : CtlPost) (d : Bool) (acts : List Action), wp (findHandler.go (F0 m pc ls rest) q (x :: suf)) Q E e d acts S ↔ wp (findHandler.go (F0 m pc ls rest) q suf) Q E e d acts (S.setVm (S.vm.noted m.cls x.catchType (.cls cT))) := by
  obtain ⟨c3, cT, hc3, hcT, hasg⟩ := hcast
  cases Option.some.inj (hc3.symm.trans hcl)
  obtain ⟨c5, hc5, hln⟩ := Cond.classLink_spec hown hlink e.platform hpl
  cases Option.some.inj (hcT.symm.trans hc5)
  obtain ⟨dk, _, _, kt, hd, _, _, _, _, hkt, _, hopen⟩ := hln.here
  have hlT := hW.classLinks hln
  have hal := hW.alike
  obtain ⟨k9, h9, -⟩ := Vm.findClass_spec hcl
  obtain ⟨kc, hkc, -⟩ := hal.2.2 _ _ h9
  obtain ⟨kt2, hkt2, -⟩ := hal.2.2 _ _ hkt
  have hfit : S.vm.assignable ce.cls cT = false := by rw [hal.assignable]; exact hasg
  have hst : ∀ k, ce.vm ≠ .statics k := VmData.ne_statics_of (by rw [hv]; rfl)
  have hal2 : S.vm.Alike (S.vm.noted m.cls x.catchType (.cls cT)) := (Vm.Alike.refl S.vm).noted _ _ _
  obtain ⟨kc3, hkc3, -⟩ := hal2.2.2 _ _ hkc
  obtain ⟨kt3, hkt3, -⟩ := hal2.2.2 _ _ hkt2
  have hfit3 : (S.vm.noted m.cls x.catchType (.cls cT)).assignable ce.cls cT = false := by rw [hal2.assignable]; exact hfit
  obtain ⟨ha, ht⟩ := (resolveClass_links e.toSetting hlT).op (op := VmOp.resolveClass m.cls x.catchType) rfl
  refine ⟨cT, hW.noted hd hopen (State.rightAt_cls hln), fun Q E d acts => ?_⟩
  simp only [covers] at hx
  simp [findHandler.go, F0, hx, h0, ha, ht, hcT2, hst, hkc3, hkt3, hfit3, VmOp.dirties, VmOp.acts]
theorem mc_found {q : Addr} {hp : Nat}
    (hf : ∀ T : State, T.heap = H → Stand p l e R s m args below meth c T locs cells slots → ∀ S : State, S.vm = T.vm → S.heap = T.heap → ∃ vm2 : Vm, s.WarmedH vm2 ∧ ∀ (Q : Handler → Pre) (E : CtlPost) (d : Bool) (acts : List Action), wp (findHandler.go (F0 m pc ls rest) q c.exceptionTable.toList) Q E e d acts S ↔ Q (.found hp) d acts (S.setVm vm2))
    (kk : W p l e R s m args below meth c H locs cells slots Q (F0 m hp ls [.ref q])) : vx_W p l e R s m args below meth c H locs cells slots Q (F0 m pc ls rest) q := by
  intro T hT X
  obtain ⟨S, hSe⟩ : ∃ z, z = (T.setTop (F0 m pc ls rest)).pushFrame (.throwing q) := ⟨_, rfl⟩
  have hSv : S.vm = T.vm := by rw [hSe]; exact Stand.throwing_vm T _ q
  have hSh : S.heap = T.heap := by rw [hSe]; exact Stand.throwing_heap T _ q
  obtain ⟨vm2, hWn, hfind0⟩ := hf T hT X S hSv hSh
  have hm9 : T.vm.method? m = some meth := X.method'
  have hfind : ∀ (Q : Handler → Pre) (E : CtlPost) (d : Bool) (acts : List Action), wp (findHandler (F0 m pc ls rest) q) Q E e d acts S ↔ Q (.found hp) d acts (S.setVm vm2) := by
    intro Q E d acts
    rw [W.findHandler_eq (meth := meth) (code := c) (by rw [hSv]; exact hm9) X.code]
    exact hfind0 Q E d acts
  obtain ⟨t, a1, b1⟩ := kk (T.setVm vm2) hT (X.noted hWn)
  refine ⟨t, ?_, b1⟩
  obtain ⟨hgo, hw⟩ := X.here.throwing (g := F0 m pc ls rest) q
  refine Steps.head hgo hw ?_
  obtain ⟨g0, hg0⟩ := Option.isSome_iff_exists.mp X.here.top
  obtain ⟨r, hr⟩ := State.topJava?_eq_some.mp hg0
  have hstep : (stepThrowing e S q (.java (F0 m pc ls rest) :: r)).1 = (S.setVm vm2).setFrames (.java { (F0 m pc ls rest) with pc := hp, stack := [.ref q] } :: r) := by
    simp only [stepThrowing, searchFrame, vmDo]
    generalize hres : Sem.go _ e false [] S = res
    obtain ⟨as, rfl, ha9⟩ := Sem.eq_ok_of hres (a := Handler.found hp) (s' := S.setVm vm2) (acts' := []) (by simp [hfind _ _ _ _])
    rfl
  rw [stepThread_throwing (frames_entered X.here.top _), hr, List.tail_cons, ← hSe, hstep, hSe]
  have hr2 : (T.setVm vm2).frames = .java g0 :: r := hr
  rw [State.setTop_of_frames _ hr2] at a1
  have hfr : ∀ (u : State) (v : Vm) (F G : List Frame), ((u.setFrames F).setVm v).setFrames G = (u.setVm v).setFrames G := fun u v F G => by
    have h1 : (u.setFrames F).setVm v = (u.setVm v).setFrames F := rfl
    rw [h1, State.setFrames_setFrames]
  rw [State.pushFrame, hfr, State.setTop_of_frames _ hr, hfr]
  exact a1
/-- caught by the second row -/
theorem mc_catch2 {own n1 name E : String} {ce : Cell} {q : Addr} (hown : s.vm.findClass own = some m.cls) (y x : ExceptionTableEntry) (suf : List ExceptionTableEntry) (hsplit : c.exceptionTable.toList = y :: x :: suf) (hy : covers y pc = true) (hx : covers x pc = true) (y0 : y.catchType ≠ 0) (h0 : x.catchType ≠ 0) (hl1 : (Cond.classLink own y.catchType n1).before args s = true) (hlink : (Cond.classLink own x.catchType name).before args s = true) (hn1 : va_Nc E n1 s) (hcast : (Cond.castable E name).before args s = true) (hcell : H[q]? = some ce) (hv : ce.vm = .none) (hcl : s.vm.findClass E = some ce.cls)
    (kk : W p l e R s m args below meth c H locs cells slots Q (F0 m x.handlerPc ls [.ref q])) : vx_W p l e R s m args below meth c H locs cells slots Q (F0 m pc ls rest) q := by
  refine mc_found (hp := x.handlerPc) (fun T hT X S hSv hSh => ?_) kk
  have hpl : e.platform.magicAccessors = ({} : Platform).magicAccessors := by rw [X.admits.platform]
  have hc2 : S.heap[q]? = some ce := by rw [hSh, hT]; exact hcell
  obtain ⟨c1, hW1, f1⟩ := mc_goPass (pc := pc) (ls := ls) (rest := rest) (S := S) hpl (by rw [hSv]; exact X.warmed) hown y (x :: suf) hy y0 hl1 hn1 hc2 hv hcl
  obtain ⟨c2, hW2, f2⟩ := mc_goHit (pc := pc) (ls := ls) (rest := rest) (S := S.setVm (S.vm.noted m.cls y.catchType (.cls c1))) hpl hW1 hown x suf hx h0 hlink hcast hc2 hv hcl
  refine ⟨_, hW2, fun Q E d acts => ?_⟩
  rw [hsplit]
  exact (f1 Q E d acts).trans (f2 Q E d acts)
/-- caught by the third row -/
theorem mc_catch3 {own n1 n2 name E : String} {ce : Cell} {q : Addr} (hown : s.vm.findClass own = some m.cls) (y z x : ExceptionTableEntry) (suf : List ExceptionTableEntry) (hsplit : c.exceptionTable.toList = y :: z :: x :: suf) (hy : covers y pc = true) (hz : covers z pc = true) (hx : covers x pc = true) (y0 : y.catchType ≠ 0) (z0 : z.catchType ≠ 0) (h0 : x.catchType ≠ 0) (hl1 : (Cond.classLink own y.catchType n1).before args s = true) (hl2 : (Cond.classLink own z.catchType n2).before args s = true) (hlink : (Cond.classLink own x.catchType name).before args s = true) (hn1 : va_Nc E n1 s) (hn2 : va_Nc E n2 s) (hcast : (Cond.castable E name).before args s = true) (hcell : H[q]? = some ce) (hv : ce.vm = .none) (hcl : s.vm.findClass E = some ce.cls)
    (kk : W p l e R s m args below meth c H locs cells slots Q (F0 m x.handlerPc ls [.ref q])) : vx_W p l e R s m args below meth c H locs cells slots Q (F0 m pc ls rest) q := by
  refine mc_found (hp := x.handlerPc) (fun T hT X S hSv hSh => ?_) kk
  have hpl : e.platform.magicAccessors = ({} : Platform).magicAccessors := by rw [X.admits.platform]
  have hc2 : S.heap[q]? = some ce := by rw [hSh, hT]; exact hcell
  obtain ⟨c1, hW1, f1⟩ := mc_goPass (pc := pc) (ls := ls) (rest := rest) (S := S) hpl (by rw [hSv]; exact X.warmed) hown y (z :: x :: suf) hy y0 hl1 hn1 hc2 hv hcl
  obtain ⟨c3, hW3, f3⟩ := mc_goPass (pc := pc) (ls := ls) (rest := rest) (S := S.setVm (S.vm.noted m.cls y.catchType (.cls c1))) hpl hW1 hown z (x :: suf) hz z0 hl2 hn2 hc2 hv hcl
  obtain ⟨c2, hW2, f2⟩ := mc_goHit (pc := pc) (ls := ls) (rest := rest) (S := (S.setVm (S.vm.noted m.cls y.catchType (.cls c1))).setVm ((S.setVm (S.vm.noted m.cls y.catchType (.cls c1))).vm.noted m.cls z.catchType (.cls c3))) hpl hW3 hown x suf hx h0 hlink hcast hc2 hv hcl
  refine ⟨_, hW2, fun Q E d acts => ?_⟩
  rw [hsplit]
  exact ((f1 Q E d acts).trans (f3 Q E d acts)).trans (f2 Q E d acts)
end CT2
end
section
theorem vaK_l {dC : Nat → ClassId} {dI : Nat → Nat → Nat} {cl : List vw_C} {t1 t2 : List (ClassId × FieldType)} {U : State} (h : va_K (dC, dI) cl (t1 ++ t2) U) : va_K (dC, dI) cl t1 U :=
  ⟨h.1, fun k q hk => h.2 k q (by rw [List.getElem?_append_left (List.getElem?_eq_some_iff.mp hk).1]; exact hk)⟩
theorem vaK_r {dC : Nat → ClassId} {dI : Nat → Nat → Nat} {cl : List vw_C} {t1 t2 : List (ClassId × FieldType)} {U : State} (h : va_K (dC, dI) cl (t1 ++ t2) U) : va_K (dC, dI) cl t2 U :=
  ⟨h.1, fun k q hk => h.2 (t1.length + k) q (by rw [List.getElem?_append_right (Nat.le_add_right _ _), Nat.add_sub_cancel_left]; exact hk)⟩
theorem vaK_j {dC : Nat → ClassId} {dI : Nat → Nat → Nat} {cl : List vw_C} {t1 t2 : List (ClassId × FieldType)} {U : State} (h1 : va_K (dC, dI) cl t1 U) (h2 : va_K (dC, dI) cl t2 U) : va_K (dC, dI) cl (t1 ++ t2) U :=
  ⟨h1.1, fun k q hk => by
    by_cases h : k < t1.length
    · rw [List.getElem?_append_left h] at hk; exact h1.2 k q hk
    · rw [List.getElem?_append_right (by omega)] at hk; exact h2.2 _ q hk⟩
theorem vaP_j {D : va_G} {cl : List vw_C} {w r : va_W} {H : Heap} (h1 : va_P D cl w H) (h2 : va_P D cl r H) : va_P D cl (w ++ r) H := fun k q hk => by
  by_cases h : k < w.length
  · rw [List.getElem?_append_left h] at hk; exact h1 k q hk
  · rw [List.getElem?_append_right (by omega)] at hk; exact h2 _ q hk
theorem vaP_p {D : va_G} {cl : List vw_C} {w w2 : va_W} {H : Heap} (hp : w.Perm w2) (h : va_P D cl w H) : va_P D cl w2 H := fun k q hk => by
  obtain ⟨i, hi⟩ := List.getElem?_of_mem (hp.mem_iff.mpr (List.mem_of_getElem? hk))
  exact h i q hi
theorem vaD_p {A : Nat → Prop} {w w2 : va_W} (hp : w.Perm w2) (h : va_D A w) : va_D A w2 :=
  ⟨vd_pw.mpr ((List.Perm.pairwise_iff (fun {a b} h9 => Ne.symm h9) hp).mp (vd_pw.mp h.1)), fun k q hk => by
    obtain ⟨i, hi⟩ := List.getElem?_of_mem (hp.mem_iff.mpr (List.mem_of_getElem? hk))
    exact h.2 i q hi⟩
/-- a call on a part of the world leaves the rest -/
theorem lw_join {A : Nat → Prop} {D : va_G} {cl : List vw_C} {w r w1 : va_W} {H H1 : Heap} (hP : va_P D cl (w ++ r) H) (hD : va_D A (w ++ r)) (hk : ∀ q : Nat, q < H.size → ¬ va_A w H.size q → H1[q]? = H[q]?) (hF : ∀ q, va_A w H.size q → A q) (hP1 : va_P D cl w1 H1) (hD1 : va_D (va_A w H.size) w1) : va_P D cl (w1 ++ r) H1 ∧ va_D A (w1 ++ r) := by
  have hr : va_P D cl r H := va_Psl hP (List.sublist_append_right _ _)
  have hDr : va_D A r := va_Dsl hD (List.sublist_append_right _ _)
  have apart : ∀ (k : Nat) (x : Nat × va_E), r[k]? = some x → x.1 < H.size ∧ ¬ va_A w H.size x.1 := fun k x hx => by
    have hlt := (hr k x hx).lt
    refine ⟨hlt, fun q => ?_⟩
    rcases q with ⟨i, e9, hi⟩ | q
    · have h1 : (w ++ r)[i]? = some (x.1, e9) := by rw [List.getElem?_append_left (List.getElem?_eq_some_iff.mp hi).1]; exact hi
      have h2 : (w ++ r)[w.length + k]? = some x := by rw [List.getElem?_append_right (Nat.le_add_right _ _), Nat.add_sub_cancel_left]; exact hx
      have h3 := hD.1 _ _ _ _ h1 h2 rfl
      have h4 := (List.getElem?_eq_some_iff.mp hi).1
      omega
    · omega
  refine ⟨vaP_j hP1 (hr.kept (fun k x hx => hk x.1 (apart k x hx).1 (apart k x hx).2)), vd_pw.mpr (List.pairwise_append.mpr ⟨vd_pw.mp hD1.1, vd_pw.mp hDr.1, fun a ha b hb e9 => ?_⟩), fun k q hq => ?_⟩
  · obtain ⟨i, hi⟩ := List.getElem?_of_mem ha
    obtain ⟨j, hj⟩ := List.getElem?_of_mem hb
    exact (apart j b hj).2 (by rw [← e9]; exact hD1.2 i a hi)
  · by_cases h : k < w1.length
    · rw [List.getElem?_append_left h] at hq; exact hF _ (hD1.2 k q hq)
    · rw [List.getElem?_append_right (by omega)] at hq; exact hDr.2 _ q hq
section LW1
variable {p : Program} {l : Launch} {e : Env} {R : Room} {s : State} {m : MethodId} {args : Array Value} {below : List Frame} {meth : Method} {c : Code} {H : Heap} {locs : List Loc} {Q : State → Prop} {cc : ByteArray} {pc : Nat} {ls : Array Slot} {rest : List Value} {A : Nat → Prop}
variable {dC : Nat → ClassId} {dI : Nat → Nat → Nat} {ad : Nat → Nat → Nat} {cid : Nat → ClassId} {a2 : Nat → Nat} {lx : List Nat} {sg : Nat → Int32} {gm : Nat → Nat → Int32} {lg : Nat → Nat → Int64} {Ts : List Cond} {own : String} {index : Nat}
variable {y : MethodName} {ws : List Cond} {rm : Room} {bytes : ByteArray} {maxL n nL : Nat} {ret : Option FieldType} {as : List Value} {st0 : List Value} {cells slots k mc ms : Nat} {r : va_W} {tr : List (ClassId × FieldType)}
/-- a call of the class that may throw and may make the heap grow, in a world that holds more -/
theorem lw_callG {post : Option Value → CSg → Prop} {xpost : String → CSg → Prop} {x : Int32} (S : CallFix p m c cc nL s args Ts own) (hM : CMg dC dI ad cid l y ws rm (eV (ad 0) x :: as) a2 lx sg gm lg k mc ms post xpost) (cw : CallW R s args own RX12 index y bytes maxL ret ws rm mc ms n) (hx : iv 0 0 x) (hn : as.length = n) (hsize : ls.size = nL) (hst : st0 = as.reverse ++ eV (ad 0) x :: rest) (hW : (rest.map fun v => v.category).sum ≤ 8) (hdg : decode cc pc = .ok (.invokevirtual index, 3)) (hf : cells + mc ≤ R.cells ∧ slots + ms ≤ R.slots)
    (hK : va_K (dC, dI) vwCl (cT cid ++ tr) s) (hP : va_P (dC, dI) vwCl (cW ad cid a2 lx sg gm lg ++ r) H) (hD : va_D A (cW ad cid a2 lx sg gm lg ++ r)) (hS : va_S A s.heap H locs) (hA : ∀ q, s.heap.size ≤ q → A q) (hG : CE ad A s)
    (kx : ∀ (E : String) (ce : Cell) (q9 : Addr) (u : CSg) (H1 : Heap) (locs1 : List Loc), xpost E u → PHs gm ≤ PHs u.2.2.2.1 → va_P (dC, dI) vwCl (CSg.w ad cid u ++ r) H1 → va_D A (CSg.w ad cid u ++ r) → va_S A s.heap H1 locs1 → H1[q9]? = some ce → ce.vm = .none → s.vm.findClass E = some ce.cls → vx_W p l e R s m args below meth c H1 locs1 (cells + gc gm u.2.2.2.1 (k + 1)) (slots + gs gm u.2.2.2.1 (k + 1)) Q (F0 m pc ls rest) q9)
    (kk : ∀ (v : Option Value) (u : CSg) (H1 : Heap) (locs1 : List Loc), post v u → PHs gm ≤ PHs u.2.2.2.1 → va_P (dC, dI) vwCl (CSg.w ad cid u ++ r) H1 → va_D A (CSg.w ad cid u ++ r) → va_S A s.heap H1 locs1 → W p l e R s m args below meth c H1 locs1 (cells + gc gm u.2.2.2.1 k) (slots + gs gm u.2.2.2.1 k) Q (F0 m (pc + 3) ls (v.toList ++ rest))) : W p l e R s m args below meth c H locs cells slots Q (F0 m pc ls st0) := by
  subst hst
  have hPc : va_P (dC, dI) vwCl (cW ad cid a2 lx sg gm lg) H := va_Psl hP (List.sublist_append_left _ _)
  have hDc : va_D A (cW ad cid a2 lx sg gm lg) := va_Dsl hD (List.sublist_append_left _ _)
  have hKc := vaK_l hK
  have hFc := cfree hDc hS hA
  have hM9 := hM H.size
  rw [eV_ref hx.1] at hM9 ⊢
  have hr := vx_runV (e := e) (below := below) (meth := meth) (locs := locs) (cells := cells) (slots := slots) (As := as) (rest := rest) S hM9 cw ⟨CPre_blind, cm_recv (t := 0) (C := RX12) (T := TX12) (N := 12) hKc hPc hx (by decide) (by decide) rfl, fun U hU hW => ⟨rfl, by rw [hU], by rw [hU]; exact hPc, va_K.moved hW.alike hKc, hDc.weaken (fun _ _ _ _ => trivial), hG.go hS hFc hU hW⟩⟩ (g := F0 m pc ls (as.reverse ++ .ref (ad 0 x.toNatClampNeg) :: rest)) rfl hn hsize rfl (lv_room hW) hdg hf
  refine W.nb (fun hN => ?_)
  intro T hT X
  rcases hr T hT X with ⟨v, st₀, t, T', L, h0, X', hL, e1, e2, ⟨⟨v2, u, hv, hp, hb, hm, hN1⟩, hF⟩, st⟩ | ⟨q, st₀, t, T', L, E, ce, h0, X', hL, e1, e2, ⟨⟨u, hp, hb, hm, hN1⟩, hF⟩, hce, hcv, hcl, st⟩
  · cases hv
    obtain ⟨k1, k2, k3⟩ := vx_keep h0 e1 hS (fun q _ h => hFc q h) hFc hL hF
    obtain ⟨b1, b2, b3⟩ := hb
    rw [h0, ← e1] at hN1
    obtain ⟨j1, j2⟩ := lw_join hP hD k2 hFc (by rw [e1]; exact b1) b3
    obtain ⟨t2, a1, c1⟩ := W.narrow (NBw_tr hN hN1) (kk v u T'.heap (locs ++ L) hp hm j1 j2 k3) T' rfl X'
    exact ⟨t2, st t2 a1, c1⟩
  · obtain ⟨k1, k2, k3⟩ := vx_keep h0 e1 hS (fun q _ h => hFc q h) hFc hL hF
    obtain ⟨b1, b2, b3⟩ := hb
    rw [h0, ← e1] at hN1
    obtain ⟨j1, j2⟩ := lw_join hP hD k2 hFc (by rw [e1]; exact b1) b3
    obtain ⟨t2, a1, c1⟩ := vx_narrow (NBw_tr hN hN1) (kx E ce q u T'.heap (locs ++ L) hp hm j1 j2 k3 (by rw [e1]; exact hce) hcv hcl) T' rfl X'
    exact ⟨t2, st.trans a1, c1⟩
/-- a call of the class that returns and makes nothing -/
theorem lw_callT {post : Option Value → CSt → Prop} {xpost : String → CSt → Prop} {x : Int32} (S : CallFix p m c cc nL s args Ts own) (hM : CMt dC dI ad cid a2 lx l y ws rm (eV (ad 0) x :: as) sg gm lg post xpost) (cw : CallW R s args own RX12 index y bytes maxL ret ws rm 1 6 n) (hx : iv 0 0 x) (hn : as.length = n) (hsize : ls.size = nL) (hst : st0 = as.reverse ++ eV (ad 0) x :: rest) (hW : (rest.map fun v => v.category).sum ≤ 8) (hdg : decode cc pc = .ok (.invokevirtual index, 3)) (hf : cells + 1 ≤ R.cells ∧ slots + 6 ≤ R.slots)
    (hK : va_K (dC, dI) vwCl (cT cid ++ tr) s) (hP : va_P (dC, dI) vwCl (cW ad cid a2 lx sg gm lg ++ r) H) (hD : va_D A (cW ad cid a2 lx sg gm lg ++ r)) (hS : va_S A s.heap H locs) (hA : ∀ q, s.heap.size ≤ q → A q) (hG : CE ad A s) (hno : ∀ E u, ¬ xpost E u)
    (kk : ∀ (v : Option Value) (u : CSt) (H1 : Heap) (locs1 : List Loc), post v u → va_P (dC, dI) vwCl (cW ad cid a2 lx u.1 u.2.1 u.2.2 ++ r) H1 → va_D A (cW ad cid a2 lx u.1 u.2.1 u.2.2 ++ r) → va_S A s.heap H1 locs1 → W p l e R s m args below meth c H1 locs1 cells slots Q (F0 m (pc + 3) ls (v.toList ++ rest))) : W p l e R s m args below meth c H locs cells slots Q (F0 m pc ls st0) := by
  subst hst
  have hPc : va_P (dC, dI) vwCl (cW ad cid a2 lx sg gm lg) H := va_Psl hP (List.sublist_append_left _ _)
  have hDc : va_D A (cW ad cid a2 lx sg gm lg) := va_Dsl hD (List.sublist_append_left _ _)
  have hKc := vaK_l hK
  have hFc := cfree hDc hS hA
  have hM9 := hM H.size
  rw [eV_ref hx.1] at hM9 ⊢
  have hr := vx_runV (e := e) (below := below) (meth := meth) (locs := locs) (cells := cells) (slots := slots) (As := as) (rest := rest) S hM9 cw ⟨CPre_blind, cm_recv (t := 0) (C := RX12) (T := TX12) (N := 12) hKc hPc hx (by decide) (by decide) rfl, fun U hU hW => ⟨rfl, by rw [hU], by rw [hU]; exact hPc, va_K.moved hW.alike hKc, hDc.weaken (fun _ _ _ _ => trivial), hG.go hS hFc hU hW⟩⟩ (g := F0 m pc ls (as.reverse ++ .ref (ad 0 x.toNatClampNeg) :: rest)) rfl hn hsize rfl (lv_room hW) hdg hf
  refine W.nb (fun hN => ?_)
  intro T hT X
  rcases hr T hT X with ⟨v, st₀, t, T', L, h0, X', hL, e1, e2, ⟨⟨v2, u, hv, hp, hb⟩, hF, hN1⟩, st⟩ | ⟨q, st₀, t, T', L, E, ce, h0, X', hL, e1, e2, ⟨⟨u, hp, hb⟩, hF⟩, hce, hcv, hcl, st⟩
  · cases hv
    obtain ⟨k1, k2, k3⟩ := vx_keep h0 e1 hS (fun q _ h => hFc q h) hFc hL hF
    obtain ⟨b1, b2, b3⟩ := hb
    rw [h0, ← e1] at hN1
    obtain ⟨j1, j2⟩ := lw_join hP hD k2 hFc (by rw [e1]; exact b1) b3
    obtain ⟨t2, a1, c1⟩ := W.narrow (NBw_tr hN hN1) (kk v u T'.heap (locs ++ L) hp j1 j2 k3) T' rfl X'
    exact ⟨t2, st t2 a1, c1⟩
  · exact absurd hp (hno _ _)
end LW1
/-- what the class's state bears between two calls -/
def KI (it : Nat) (lx : List Nat) (sg : Nat → Int32) (gm : Nat → Nat → Int32) (lg : Nat → Nat → Int64) : Prop := CI sg gm ∧ LDI lx gm ∧ FND9 sg gm ∧ BEL9 sg gm ∧ UB 12 (1203 * it) gm ∧ UB 18 (1203 * it) gm ∧ ((sg 1).toInt = 0 ∨ (WRD sg gm lg ∧ MOK sg gm lg))
theorem UB_w {k K K2 : Nat} {gm gm2 : Nat → Nat → Int32} (h : UB k K gm) (e : gm2 k = gm k) (hK : K ≤ K2) : UB k K2 gm2 := fun j hj => by
  have := h j hj
  rw [e]; omega
/-- a call that leaves the document and what is made -/
theorem KI_of {it : Nat} {lx : List Nat} {sg sg2 : Nat → Int32} {gm gm2 : Nat → Nat → Int32} {lg lg2 : Nat → Nat → Int64} {Ls Lg Ll : List Nat} (h : KI it lx sg gm lg) (hI : CI sg2 gm2) (h1 : KS Ls sg sg2) (h2 : KS Lg gm gm2) (h3 : KS Ll lg lg2) (q1 : ([1, 4, 12, 15].all fun k => !Ls.contains k) = true) (q2 : ([12, 14, 15, 16, 17, 18, 19, 20, 22, 25, 26, 27, 29, 35, 38, 39, 41, 42, 44, 45, 46, 51, 57].all fun k => !Lg.contains k) = true) (q3 : ([0, 4].all fun k => !Ll.contains k) = true) : KI (it + 1) lx sg2 gm2 lg2 := by
  have f1 : ∀ k ∈ [1, 4, 12, 15], sg2 k = sg k := fun k hk => h1 k (by have := List.all_eq_true.mp q1 k hk; simpa using this)
  have f2 : ∀ k ∈ [12, 14, 15, 16, 17, 18, 19, 20, 22, 25, 26, 27, 29, 35, 38, 39, 41, 42, 44, 45, 46, 51, 57], gm2 k = gm k := fun k hk => h2 k (by have := List.all_eq_true.mp q2 k hk; simpa using this)
  have f3 : ∀ k ∈ [0, 4], lg2 k = lg k := fun k hk => h3 k (by have := List.all_eq_true.mp q3 k hk; simpa using this)
  obtain ⟨-, b1, b2, b3, b4, b5, b6⟩ := h
  refine ⟨hI, LDI_e b1 (f2 41 (by decide)) (f2 42 (by decide)) (f2 57 (by decide)), FND9_e b2 (f1 15 (by decide)) (f2 51 (by decide)), ?_, UB_w b4 (f2 12 (by decide)) (by omega), UB_w b5 (f2 18 (by decide)) (by omega), ?_⟩
  · unfold BEL9 at *; rw [f1 12 (by decide), f2 29 (by decide)]; exact b3
  · rcases b6 with q | ⟨q, q9⟩
    · exact Or.inl (by rw [f1 1 (by decide)]; exact q)
    · exact Or.inr ⟨WRD_e q (f1 4 (by decide)) (f1 12 (by decide)) (f2 14 (by decide)) (f2 15 (by decide)) (f2 16 (by decide)) (f2 17 (by decide)) (f2 19 (by decide)) (f2 20 (by decide)) (f2 22 (by decide)) (f2 25 (by decide)) (f2 26 (by decide)) (f2 27 (by decide)) (f2 29 (by decide)) (f2 41 (by decide)) (f2 44 (by decide)) (f2 45 (by decide)) (f2 46 (by decide)) (f2 57 (by decide)) (f3 0 (by decide)) (f3 4 (by decide)), MOK_e q9 (f1 12 (by decide)) (f2 35 (by decide)) (f2 38 (by decide)) (f2 39 (by decide)) (f3 4 (by decide))⟩
/-- a call that makes, or forgets what is made -/
theorem KI_mk {it : Nat} {lx : List Nat} {sg sg2 : Nat → Int32} {gm gm2 : Nat → Nat → Int32} {lg lg2 : Nat → Nat → Int64} {Ls Lg Ll : List Nat} (h : KI it lx sg gm lg) (hI : CI sg2 gm2) (h1 : KS Ls sg sg2) (h2 : KS Lg gm gm2) (h3 : KS Ll lg lg2) (hm : (sg 1).toInt = 0 ∨ MOK sg2 gm2 lg2) (hf : FND9 sg2 gm2) (q1 : ([1, 4, 12].all fun k => !Ls.contains k) = true) (q2 : ([12, 14, 15, 16, 17, 18, 19, 20, 22, 25, 26, 27, 29, 41, 42, 44, 45, 46, 57].all fun k => !Lg.contains k) = true) (q3 : ([0, 4].all fun k => !Ll.contains k) = true) : KI (it + 1) lx sg2 gm2 lg2 := by
  have f1 : ∀ k ∈ [1, 4, 12], sg2 k = sg k := fun k hk => h1 k (by have := List.all_eq_true.mp q1 k hk; simpa using this)
  have f2 : ∀ k ∈ [12, 14, 15, 16, 17, 18, 19, 20, 22, 25, 26, 27, 29, 41, 42, 44, 45, 46, 57], gm2 k = gm k := fun k hk => h2 k (by have := List.all_eq_true.mp q2 k hk; simpa using this)
  have f3 : ∀ k ∈ [0, 4], lg2 k = lg k := fun k hk => h3 k (by have := List.all_eq_true.mp q3 k hk; simpa using this)
  obtain ⟨-, b1, b2, b3, b4, b5, b6⟩ := h
  refine ⟨hI, LDI_e b1 (f2 41 (by decide)) (f2 42 (by decide)) (f2 57 (by decide)), hf, ?_, UB_w b4 (f2 12 (by decide)) (by omega), UB_w b5 (f2 18 (by decide)) (by omega), ?_⟩
  · unfold BEL9 at *; rw [f1 12 (by decide), f2 29 (by decide)]; exact b3
  · rw [f1 1 (by decide)]
    rcases b6 with q | ⟨q, -⟩
    · exact Or.inl q
    · rcases hm with q9 | q9
      · exact Or.inl q9
      · exact Or.inr ⟨WRD_e q (f1 4 (by decide)) (f1 12 (by decide)) (f2 14 (by decide)) (f2 15 (by decide)) (f2 16 (by decide)) (f2 17 (by decide)) (f2 19 (by decide)) (f2 20 (by decide)) (f2 22 (by decide)) (f2 25 (by decide)) (f2 26 (by decide)) (f2 27 (by decide)) (f2 29 (by decide)) (f2 41 (by decide)) (f2 44 (by decide)) (f2 45 (by decide)) (f2 46 (by decide)) (f2 57 (by decide)) (f3 0 (by decide)) (f3 4 (by decide)), q9⟩
theorem KI_cl {it : Nat} {lx : List Nat} {sg sg2 : Nat → Int32} {gm gm2 : Nat → Nat → Int32} {lg lg2 : Nat → Nat → Int64} {Ls Lg Ll : List Nat} (h : KI it lx sg gm lg) (hI : CI sg2 gm2) (h1 : KS Ls sg sg2) (h2 : KS Lg gm gm2) (h3 : KS Ll lg lg2) (hm : ∀ j9, j9 < (sg 12).toNatClampNeg → gm2 38 j9 = 0) (hf : (sg2 15).toInt = 0) (q1 : ([1, 4, 12].all fun k => !Ls.contains k) = true) (q2 : ([12, 14, 15, 16, 17, 18, 19, 20, 22, 25, 26, 27, 29, 41, 42, 44, 45, 46, 57].all fun k => !Lg.contains k) = true) (q3 : ([0, 4].all fun k => !Ll.contains k) = true) : KI (it + 1) lx sg2 gm2 lg2 :=
  KI_mk h hI h1 h2 h3 (Or.inr (MOK_0 (fun c hc => hm c (by rw [← h1 12 (by have := List.all_eq_true.mp q1 12 (by decide); simpa using this)]; exact hc)))) (FND9_0 hf) q1 q2 q3
theorem KI_rd {it : Nat} {lx2 : List Nat} {sg2 : Nat → Int32} {gm2 : Nat → Nat → Int32} {lg2 : Nat → Nat → Int64} (hI : CI sg2 gm2) (u12 : UB 12 (1203 * it + 1203) gm2) (u18 : UB 18 (1203 * it + 1203) gm2) (hl : LDI lx2 gm2) (h15 : (sg2 15).toInt = 0) (hw : WRM sg2 gm2 lg2) : KI (it + 1) lx2 sg2 gm2 lg2 :=
  ⟨hI, hl, FND9_0 h15, fun b hb => (hw.1.2.2.1 b hb).1, UB_w u12 rfl (by omega), UB_w u18 rfl (by omega), Or.inr ⟨hw.1, MOK_0 (fun c hc => (hw.2 c hc).2)⟩⟩
theorem KI_rx {it : Nat} {lx2 : List Nat} {sg2 : Nat → Int32} {gm2 : Nat → Nat → Int32} {lg2 : Nat → Nat → Int64} (hI : CI sg2 gm2) (u12 : UB 12 (1203 * it + 1203) gm2) (u18 : UB 18 (1203 * it + 1203) gm2) (hl : LDI lx2 gm2) (h15 : (sg2 15).toInt = 0) (h12 : (sg2 12).toInt = 0) (h1 : (sg2 1).toInt = 0) : KI (it + 1) lx2 sg2 gm2 lg2 :=
  ⟨hI, hl, FND9_0 h15, fun b hb => by have k : (sg2 12).toNatClampNeg = (sg2 12).toInt.toNat := rfl; omega, UB_w u12 rfl (by omega), UB_w u18 rfl (by omega), Or.inl h1⟩
end
section
/-- a number that begins anew, or an answer no -/
def DEC9 (P : Prop) (r : Int32) (c : Nat) (g g2 : Nat → Int32) : Prop := (r.toInt = 1 ∧ P ∧ g2 = upd g c 0) ∨ (r.toInt = 0 ∧ ¬ P ∧ g2 = g)
set_option maxHeartbeats 4000000 in
set_option maxRecDepth 100000 in
theorem d_isLetter2 (l : Launch) (dC : Nat → ClassId) (dI : Nat → Nat → Nat) (ad : Nat → Nat → Nat) (cid : Nat → ClassId) (a2 : Nat → Nat) (lx : List Nat) (sg : Nat → Int32) (gm : Nat → Nat → Int32) (lg : Nat → Nat → Int64) (a : Int32) (hI : CI sg gm) : CMt dC dI ad cid a2 lx l yX12_isLetter wm_X12_isLetter ({ frames := 0, cells := 1, slots := 6, locals := 0 }) [.int a] sg gm lg (fun v u => ∃ r : Int32, v = some (.int r) ∧ u = (sg, gm, lg) ∧ (iv 0 1 r) ∧ (r.toInt = 1 ∧ (0 ≤ a.toInt ∧ a.toInt ≤ 25) ∨ r.toInt = 0 ∧ ¬ (0 ≤ a.toInt ∧ a.toInt ≤ 25))) (fun _ _ => False) := by
  intro sz
  refine vx_ofW (cc := cX12_isLetter) (maxL := 1) (ret := (some .boolean)) (by decide) rfl ?_
  intro p e s m args below meth c s₁ B hml hxt hv
  obtain ⟨rfl, hsz, hP, hK, hD0, hG⟩ := hv
  have hx := B.exec
  have hb := B.bytes
  have hr := B.returns
  have hts := atoms_spec (ws := wm_X12_isLetter) B.pre
  have htb := fun (w : Cond) (h : w ∈ tb) => hts w (List.mem_cons_of_mem _ h)
  have hown : s.vm.findClass RX12 = some m.cls := findClass_of_methodNamed B.named
  have hlocks := B.notSynchronized
  subst hsz
  have hD := hD0.self (sz := s.heap.size)
  generalize hAe : va_A (cW ad cid a2 lx sg gm lg) s.heap.size = A at hD hG ⊢
  have hA : ∀ q : Nat, s.heap.size ≤ q → A q := fun q h => by rw [← hAe]; exact Or.inr h
  have hS : va_S A s.heap s.heap [] := va_S.rf
  have hl := lv_entry ([.int a]) (n := 1) (Nat.le_of_ble_eq_true rfl)
  rw [lg_entry_eq]
  generalize (lg_sl ([.int a]) ++ List.replicate (1 - (lg_sl ([.int a])).length) Slot.unset).toArray = ls at hl ⊢
  have hl : lv_has ls 1 [(0, .int a)] := hl
  have hj15 : ∀ (y0_15 : Int32) (_ : iv 0 1 y0_15) (_ : y0_15.toInt = 1 ∧ (0 ≤ a.toInt ∧ a.toInt ≤ 25) ∨ y0_15.toInt = 0 ∧ ¬ (0 ≤ a.toInt ∧ a.toInt ≤ 25)) (H : Heap) (locs : List Loc) (ls : Array Slot), va_P (dC, dI) vwCl (cW ad cid a2 lx sg gm lg) H → va_D A (cW ad cid a2 lx sg gm lg) → va_S A s.heap H locs → lv_has ls 1 [(0, .int a)] → W p l e (headSpec wm_X12_isLetter ({ frames := 0, cells := 1, slots := 6, locals := 0 })).room s m ([.int a] : List Value).toArray below meth c H locs 0 0 (vx_MQ below (cQx dC dI ad cid a2 lx (fun v u => ∃ r : Int32, v = some (.int r) ∧ u = (sg, gm, lg) ∧ (iv 0 1 r) ∧ (r.toInt = 1 ∧ (0 ≤ a.toInt ∧ a.toInt ≤ 25) ∨ r.toInt = 0 ∧ ¬ (0 ≤ a.toInt ∧ a.toInt ≤ 25))) A) (cX dC dI ad cid a2 lx (fun _ _ => False) A) ([.int a] : List Value).toArray s 1 6 A) (F0 m 15 ls [.int y0_15]) := by
    intro y0_15 hy0_15 hc H locs ls hP hD hS hl
    exact W.nb (fun hN => W.widen (k := 1) (n := 6) (by decide) (by decide) (vx_ret (W.zret (v := y0_15) hx hb hr (iv_nb hy0_15) (fun t ht hW => ⟨⟨some (.int y0_15), (sg, gm, lg), rfl, ⟨y0_15, rfl, rfl, hy0_15, (hc)⟩, by rw [ht]; exact hP, va_K.moved hW.alike hK, hD⟩, hS.F ht, by rw [ht]; exact hN⟩) hS.2.2 dX12_isLetter_15)))
  have hj14 : ∀ (_ : ¬ (0 ≤ a.toInt ∧ a.toInt ≤ 25)) (H : Heap) (locs : List Loc) (ls : Array Slot), va_P (dC, dI) vwCl (cW ad cid a2 lx sg gm lg) H → va_D A (cW ad cid a2 lx sg gm lg) → va_S A s.heap H locs → lv_has ls 1 [(0, .int a)] → W p l e (headSpec wm_X12_isLetter ({ frames := 0, cells := 1, slots := 6, locals := 0 })).room s m ([.int a] : List Value).toArray below meth c H locs 0 0 (vx_MQ below (cQx dC dI ad cid a2 lx (fun v u => ∃ r : Int32, v = some (.int r) ∧ u = (sg, gm, lg) ∧ (iv 0 1 r) ∧ (r.toInt = 1 ∧ (0 ≤ a.toInt ∧ a.toInt ≤ 25) ∨ r.toInt = 0 ∧ ¬ (0 ≤ a.toInt ∧ a.toInt ≤ 25))) A) (cX dC dI ad cid a2 lx (fun _ _ => False) A) ([.int a] : List Value).toArray s 1 6 A) (F0 m 14 ls []) := by
    intro  hnn H locs ls hP hD hS hl
    refine lv_iconst (v := 0) hx hb dX12_isLetter_14 (by decide) ?_
    exact hj15 0 (iv_w (iv_k (by decide) : iv 0 0 0) (by decide)) (Or.inr ⟨rfl, hnn⟩) _ _ _ hP hD hS (lv_sub hl [0] rfl)
  refine lv_iload_n hx hb dX12_isLetter_0 rfl (lv_at hl 0 rfl) ?_
  refine lv_if_lt (tgt := 14) hx hb dX12_isLetter_1 (by decide) (fun c_1 => ?_) (fun c_1 => ?_)
  · have h_2 : iv (-2147483648) (-1) a := iv_ltL c_1 (iv_all a) (iv_k (by decide) : iv 0 0 0) (by decide)
    exact hj14 (fun q9 => by { have := i32_0; have := i32_1; have := i32_2; have := i32_m1; have := (h_2).1; have := (h_2).2; omega }) _ _ _ hP hD hS (lv_sub hl [0] rfl)
  · have h_3 : iv 0 2147483647 a := iv_leR (i32_ge c_1) (iv_k (by decide) : iv 0 0 0) (iv_all a) (by decide)
    refine lv_iload_n hx hb dX12_isLetter_4 rfl (lv_at hl 0 rfl) ?_
    refine lv_bipush (v := 26) hx hb dX12_isLetter_5 (by decide) ?_
    refine lv_icmp_ge (tgt := 14) hx hb dX12_isLetter_7 (by decide) (fun c_4 => ?_) (fun c_4 => ?_)
    · have h_5 : iv 26 2147483647 a := iv_leR c_4 (iv_k (by decide) : iv 26 26 26) h_3 (by decide)
      exact hj14 (fun q9 => by { have := i32_0; have := i32_1; have := i32_2; have := i32_m1; have := (h_5).1; have := (h_5).2; omega }) _ _ _ hP hD hS (lv_sub hl [0] rfl)
    · have h_6 : iv 0 25 a := iv_ltL (i32_lt c_4) h_3 (iv_k (by decide) : iv 26 26 26) (by decide)
      refine lv_iconst (v := 1) hx hb dX12_isLetter_10 (by decide) ?_
      refine lv_goto (tgt := 15) hx hb dX12_isLetter_11 (by decide) ?_
      exact hj15 1 (iv_w (iv_k (by decide) : iv 1 1 1) (by decide)) (Or.inl ⟨rfl, by have := i32_0; have := i32_1; have := i32_2; have := i32_m1; have := (h_6).1; have := (h_6).2; omega⟩) _ _ _ hP hD hS (lv_sub hl [0] rfl)

set_option maxHeartbeats 4000000 in
set_option maxRecDepth 100000 in
theorem d_isType2 (l : Launch) (dC : Nat → ClassId) (dI : Nat → Nat → Nat) (ad : Nat → Nat → Nat) (cid : Nat → ClassId) (a2 : Nat → Nat) (lx : List Nat) (sg : Nat → Int32) (gm : Nat → Nat → Int32) (lg : Nat → Nat → Int64) (a : Int32) (hI : CI sg gm) : CMt dC dI ad cid a2 lx l yX12_isType wm_X12_isType ({ frames := 0, cells := 1, slots := 6, locals := 0 }) [.int a] sg gm lg (fun v u => ∃ r : Int32, v = some (.int r) ∧ u = (sg, gm, lg) ∧ (iv 0 1 r) ∧ (r.toInt = 1 ∧ ((0 ≤ a.toInt ∧ a.toInt ≤ 4 ∨ 8 ≤ a.toInt ∧ a.toInt ≤ 15)) ∨ r.toInt = 0 ∧ ¬ ((0 ≤ a.toInt ∧ a.toInt ≤ 4 ∨ 8 ≤ a.toInt ∧ a.toInt ≤ 15)))) (fun _ _ => False) := by
  intro sz
  refine vx_ofW (cc := cX12_isType) (maxL := 1) (ret := (some .boolean)) (by decide) rfl ?_
  intro p e s m args below meth c s₁ B hml hxt hv
  obtain ⟨rfl, hsz, hP, hK, hD0, hG⟩ := hv
  have hx := B.exec
  have hb := B.bytes
  have hr := B.returns
  have hts := atoms_spec (ws := wm_X12_isType) B.pre
  have htb := fun (w : Cond) (h : w ∈ tb) => hts w (List.mem_cons_of_mem _ h)
  have hown : s.vm.findClass RX12 = some m.cls := findClass_of_methodNamed B.named
  have hlocks := B.notSynchronized
  subst hsz
  have hD := hD0.self (sz := s.heap.size)
  generalize hAe : va_A (cW ad cid a2 lx sg gm lg) s.heap.size = A at hD hG ⊢
  have hA : ∀ q : Nat, s.heap.size ≤ q → A q := fun q h => by rw [← hAe]; exact Or.inr h
  have hS : va_S A s.heap s.heap [] := va_S.rf
  have hl := lv_entry ([.int a]) (n := 1) (Nat.le_of_ble_eq_true rfl)
  rw [lg_entry_eq]
  generalize (lg_sl ([.int a]) ++ List.replicate (1 - (lg_sl ([.int a])).length) Slot.unset).toArray = ls at hl ⊢
  have hl : lv_has ls 1 [(0, .int a)] := hl
  have hj26 : ∀ (y0_26 : Int32) (_ : iv 0 1 y0_26) (_ : y0_26.toInt = 1 ∧ ((0 ≤ a.toInt ∧ a.toInt ≤ 4 ∨ 8 ≤ a.toInt ∧ a.toInt ≤ 15)) ∨ y0_26.toInt = 0 ∧ ¬ ((0 ≤ a.toInt ∧ a.toInt ≤ 4 ∨ 8 ≤ a.toInt ∧ a.toInt ≤ 15))) (H : Heap) (locs : List Loc) (ls : Array Slot), va_P (dC, dI) vwCl (cW ad cid a2 lx sg gm lg) H → va_D A (cW ad cid a2 lx sg gm lg) → va_S A s.heap H locs → lv_has ls 1 [(0, .int a)] → W p l e (headSpec wm_X12_isType ({ frames := 0, cells := 1, slots := 6, locals := 0 })).room s m ([.int a] : List Value).toArray below meth c H locs 0 0 (vx_MQ below (cQx dC dI ad cid a2 lx (fun v u => ∃ r : Int32, v = some (.int r) ∧ u = (sg, gm, lg) ∧ (iv 0 1 r) ∧ (r.toInt = 1 ∧ ((0 ≤ a.toInt ∧ a.toInt ≤ 4 ∨ 8 ≤ a.toInt ∧ a.toInt ≤ 15)) ∨ r.toInt = 0 ∧ ¬ ((0 ≤ a.toInt ∧ a.toInt ≤ 4 ∨ 8 ≤ a.toInt ∧ a.toInt ≤ 15)))) A) (cX dC dI ad cid a2 lx (fun _ _ => False) A) ([.int a] : List Value).toArray s 1 6 A) (F0 m 26 ls [.int y0_26]) := by
    intro y0_26 hy0_26 hc H locs ls hP hD hS hl
    exact W.nb (fun hN => W.widen (k := 1) (n := 6) (by decide) (by decide) (vx_ret (W.zret (v := y0_26) hx hb hr (iv_nb hy0_26) (fun t ht hW => ⟨⟨some (.int y0_26), (sg, gm, lg), rfl, ⟨y0_26, rfl, rfl, hy0_26, (hc)⟩, by rw [ht]; exact hP, va_K.moved hW.alike hK, hD⟩, hS.F ht, by rw [ht]; exact hN⟩) hS.2.2 dX12_isType_26)))
  have hj25 : ∀ (_ : ¬ ((0 ≤ a.toInt ∧ a.toInt ≤ 4 ∨ 8 ≤ a.toInt ∧ a.toInt ≤ 15))) (H : Heap) (locs : List Loc) (ls : Array Slot), va_P (dC, dI) vwCl (cW ad cid a2 lx sg gm lg) H → va_D A (cW ad cid a2 lx sg gm lg) → va_S A s.heap H locs → lv_has ls 1 [(0, .int a)] → W p l e (headSpec wm_X12_isType ({ frames := 0, cells := 1, slots := 6, locals := 0 })).room s m ([.int a] : List Value).toArray below meth c H locs 0 0 (vx_MQ below (cQx dC dI ad cid a2 lx (fun v u => ∃ r : Int32, v = some (.int r) ∧ u = (sg, gm, lg) ∧ (iv 0 1 r) ∧ (r.toInt = 1 ∧ ((0 ≤ a.toInt ∧ a.toInt ≤ 4 ∨ 8 ≤ a.toInt ∧ a.toInt ≤ 15)) ∨ r.toInt = 0 ∧ ¬ ((0 ≤ a.toInt ∧ a.toInt ≤ 4 ∨ 8 ≤ a.toInt ∧ a.toInt ≤ 15)))) A) (cX dC dI ad cid a2 lx (fun _ _ => False) A) ([.int a] : List Value).toArray s 1 6 A) (F0 m 25 ls []) := by
    intro  hnn H locs ls hP hD hS hl
    refine lv_iconst (v := 0) hx hb dX12_isType_25 (by decide) ?_
    exact hj26 0 (iv_w (iv_k (by decide) : iv 0 0 0) (by decide)) (Or.inr ⟨rfl, hnn⟩) _ _ _ hP hD hS (lv_sub hl [0] rfl)
  have hj21 : ∀ (_ : iv 0 15 a) (_ : (0 ≤ a.toInt ∧ a.toInt ≤ 4 ∨ 8 ≤ a.toInt ∧ a.toInt ≤ 15)) (H : Heap) (locs : List Loc) (ls : Array Slot), va_P (dC, dI) vwCl (cW ad cid a2 lx sg gm lg) H → va_D A (cW ad cid a2 lx sg gm lg) → va_S A s.heap H locs → lv_has ls 1 [(0, .int a)] → W p l e (headSpec wm_X12_isType ({ frames := 0, cells := 1, slots := 6, locals := 0 })).room s m ([.int a] : List Value).toArray below meth c H locs 0 0 (vx_MQ below (cQx dC dI ad cid a2 lx (fun v u => ∃ r : Int32, v = some (.int r) ∧ u = (sg, gm, lg) ∧ (iv 0 1 r) ∧ (r.toInt = 1 ∧ ((0 ≤ a.toInt ∧ a.toInt ≤ 4 ∨ 8 ≤ a.toInt ∧ a.toInt ≤ 15)) ∨ r.toInt = 0 ∧ ¬ ((0 ≤ a.toInt ∧ a.toInt ≤ 4 ∨ 8 ≤ a.toInt ∧ a.toInt ≤ 15)))) A) (cX dC dI ad cid a2 lx (fun _ _ => False) A) ([.int a] : List Value).toArray s 1 6 A) (F0 m 21 ls []) := by
    intro  hsx0_21 hy H locs ls hP hD hS hl
    refine lv_iconst (v := 1) hx hb dX12_isType_21 (by decide) ?_
    refine lv_goto (tgt := 26) hx hb dX12_isType_22 (by decide) ?_
    exact hj26 1 (iv_w (iv_k (by decide) : iv 1 1 1) (by decide)) (Or.inl ⟨rfl, hy⟩) _ _ _ hP hD hS (lv_sub hl [0] rfl)
  have hj9 : ∀ (_ : a.toInt < 0 ∨ 4 < a.toInt) (H : Heap) (locs : List Loc) (ls : Array Slot), va_P (dC, dI) vwCl (cW ad cid a2 lx sg gm lg) H → va_D A (cW ad cid a2 lx sg gm lg) → va_S A s.heap H locs → lv_has ls 1 [(0, .int a)] → W p l e (headSpec wm_X12_isType ({ frames := 0, cells := 1, slots := 6, locals := 0 })).room s m ([.int a] : List Value).toArray below meth c H locs 0 0 (vx_MQ below (cQx dC dI ad cid a2 lx (fun v u => ∃ r : Int32, v = some (.int r) ∧ u = (sg, gm, lg) ∧ (iv 0 1 r) ∧ (r.toInt = 1 ∧ ((0 ≤ a.toInt ∧ a.toInt ≤ 4 ∨ 8 ≤ a.toInt ∧ a.toInt ≤ 15)) ∨ r.toInt = 0 ∧ ¬ ((0 ≤ a.toInt ∧ a.toInt ≤ 4 ∨ 8 ≤ a.toInt ∧ a.toInt ≤ 15)))) A) (cX dC dI ad cid a2 lx (fun _ _ => False) A) ([.int a] : List Value).toArray s 1 6 A) (F0 m 9 ls []) := by
    intro  h9 H locs ls hP hD hS hl
    refine lv_iload_n hx hb dX12_isType_9 rfl (lv_at hl 0 rfl) ?_
    refine lv_bipush (v := 8) hx hb dX12_isType_10 (by decide) ?_
    refine lv_icmp_lt (tgt := 25) hx hb dX12_isType_12 (by decide) (fun c_1 => ?_) (fun c_1 => ?_)
    · have h_2 : iv (-2147483648) 7 a := iv_ltL c_1 (iv_all a) (iv_k (by decide) : iv 8 8 8) (by decide)
      exact hj25 (fun q9 => by { have := i32_0; have := i32_1; have := i32_2; have := i32_m1; have := (h_2).1; have := (h_2).2; omega }) _ _ _ hP hD hS (lv_sub hl [0] rfl)
    · have h_3 : iv 8 2147483647 a := iv_leR (i32_ge c_1) (iv_k (by decide) : iv 8 8 8) (iv_all a) (by decide)
      refine lv_iload_n hx hb dX12_isType_15 rfl (lv_at hl 0 rfl) ?_
      refine lv_bipush (v := 16) hx hb dX12_isType_16 (by decide) ?_
      refine lv_icmp_ge (tgt := 25) hx hb dX12_isType_18 (by decide) (fun c_4 => ?_) (fun c_4 => ?_)
      · have h_5 : iv 16 2147483647 a := iv_leR c_4 (iv_k (by decide) : iv 16 16 16) h_3 (by decide)
        exact hj25 (fun q9 => by { have := i32_0; have := i32_1; have := i32_2; have := i32_m1; have := (h_5).1; have := (h_5).2; omega }) _ _ _ hP hD hS (lv_sub hl [0] rfl)
      · have h_6 : iv 8 15 a := iv_ltL (i32_lt c_4) h_3 (iv_k (by decide) : iv 16 16 16) (by decide)
        exact hj21 (iv_w h_6 (by decide)) (by have := i32_0; have := i32_1; have := i32_2; have := i32_m1; have := (h_6).1; have := (h_6).2; omega) _ _ _ hP hD hS (lv_sub hl [0] rfl)
  refine lv_iload_n hx hb dX12_isType_0 rfl (lv_at hl 0 rfl) ?_
  refine lv_if_lt (tgt := 9) hx hb dX12_isType_1 (by decide) (fun c_7 => ?_) (fun c_7 => ?_)
  · have h_8 : iv (-2147483648) (-1) a := iv_ltL c_7 (iv_all a) (iv_k (by decide) : iv 0 0 0) (by decide)
    exact hj9 (by have := i32_0; have := i32_1; have := i32_2; have := i32_m1; have := (h_8).1; have := (h_8).2; omega) _ _ _ hP hD hS (lv_sub hl [0] rfl)
  · have h_9 : iv 0 2147483647 a := iv_leR (i32_ge c_7) (iv_k (by decide) : iv 0 0 0) (iv_all a) (by decide)
    refine lv_iload_n hx hb dX12_isType_4 rfl (lv_at hl 0 rfl) ?_
    refine lv_iconst (v := 4) hx hb dX12_isType_5 (by decide) ?_
    refine lv_icmp_le (tgt := 21) hx hb dX12_isType_6 (by decide) (fun c_10 => ?_) (fun c_10 => ?_)
    · have h_11 : iv 0 4 a := iv_leL c_10 h_9 (iv_k (by decide) : iv 4 4 4) (by decide)
      exact hj21 (iv_w h_11 (by decide)) (by have := i32_0; have := i32_1; have := i32_2; have := i32_m1; have := (h_11).1; have := (h_11).2; omega) _ _ _ hP hD hS (lv_sub hl [0] rfl)
    · have h_12 : iv 5 2147483647 a := iv_ltR (i32_lt c_10) (iv_k (by decide) : iv 4 4 4) h_9 (by decide)
      exact hj9 (by have := i32_0; have := i32_1; have := i32_2; have := i32_m1; have := (h_12).1; have := (h_12).2; omega) _ _ _ hP hD hS (lv_sub hl [0] rfl)

set_option maxHeartbeats 4000000 in
set_option maxRecDepth 100000 in
theorem d_areTypes2 (l : Launch) (dC : Nat → ClassId) (dI : Nat → Nat → Nat) (ad : Nat → Nat → Nat) (cid : Nat → ClassId) (a2 : Nat → Nat) (lx : List Nat) (sg : Nat → Int32) (gm : Nat → Nat → Int32) (lg : Nat → Nat → Int64) (a : Int32) (b : Int32) (f : Int32) (g : Int32) (hI : CI sg gm) : CMt dC dI ad cid a2 lx l yX12_areTypes wm_X12_areTypes ({ frames := 1, cells := 1, slots := 6, locals := 20 }) [.int a, .int b, .int f, .int g] sg gm lg (fun v u => ∃ r : Int32, v = some (.int r) ∧ u = (sg, gm, lg) ∧ (iv 0 1 r) ∧ (r.toInt = 1 ∧ (0 ≤ a.toInt ∧ a.toInt ≤ 3 ∧ (1 ≤ a.toInt → (0 ≤ b.toInt ∧ b.toInt ≤ 4 ∨ 8 ≤ b.toInt ∧ b.toInt ≤ 15)) ∧ (2 ≤ a.toInt → (0 ≤ f.toInt ∧ f.toInt ≤ 4 ∨ 8 ≤ f.toInt ∧ f.toInt ≤ 15)) ∧ (3 ≤ a.toInt → (0 ≤ g.toInt ∧ g.toInt ≤ 4 ∨ 8 ≤ g.toInt ∧ g.toInt ≤ 15))) ∨ r.toInt = 0 ∧ ¬ (0 ≤ a.toInt ∧ a.toInt ≤ 3 ∧ (1 ≤ a.toInt → (0 ≤ b.toInt ∧ b.toInt ≤ 4 ∨ 8 ≤ b.toInt ∧ b.toInt ≤ 15)) ∧ (2 ≤ a.toInt → (0 ≤ f.toInt ∧ f.toInt ≤ 4 ∨ 8 ≤ f.toInt ∧ f.toInt ≤ 15)) ∧ (3 ≤ a.toInt → (0 ≤ g.toInt ∧ g.toInt ≤ 4 ∨ 8 ≤ g.toInt ∧ g.toInt ≤ 15))))) (fun _ _ => False) := by
  intro sz
  refine vx_ofW (cc := cX12_areTypes) (maxL := 4) (ret := (some .boolean)) (by decide) rfl ?_
  intro p e s m args below meth c s₁ B hml hxt hv
  obtain ⟨rfl, hsz, hP, hK, hD0, hG⟩ := hv
  have hx := B.exec
  have hb := B.bytes
  have hr := B.returns
  have hts := atoms_spec (ws := wm_X12_areTypes) B.pre
  have htb := fun (w : Cond) (h : w ∈ tb) => hts w (List.mem_cons_of_mem _ h)
  have hown : s.vm.findClass RX12 = some m.cls := findClass_of_methodNamed B.named
  have hlocks := B.notSynchronized
  subst hsz
  have hD := hD0.self (sz := s.heap.size)
  generalize hAe : va_A (cW ad cid a2 lx sg gm lg) s.heap.size = A at hD hG ⊢
  have hA : ∀ q : Nat, s.heap.size ≤ q → A q := fun q h => by rw [← hAe]; exact Or.inr h
  have hS : va_S A s.heap s.heap [] := va_S.rf
  have hl := lv_entry ([.int a, .int b, .int f, .int g]) (n := 4) (Nat.le_of_ble_eq_true rfl)
  rw [lg_entry_eq]
  generalize (lg_sl ([.int a, .int b, .int f, .int g]) ++ List.replicate (4 - (lg_sl ([.int a, .int b, .int f, .int g])).length) Slot.unset).toArray = ls at hl ⊢
  have hl : lv_has ls 4 [(0, .int a), (1, .int b), (2, .int f), (3, .int g)] := hl
  have hj50 : ∀ (y0_50 : Int32) (_ : iv 0 1 y0_50) (_ : y0_50.toInt = 1 ∧ (0 ≤ a.toInt ∧ a.toInt ≤ 3 ∧ (1 ≤ a.toInt → (0 ≤ b.toInt ∧ b.toInt ≤ 4 ∨ 8 ≤ b.toInt ∧ b.toInt ≤ 15)) ∧ (2 ≤ a.toInt → (0 ≤ f.toInt ∧ f.toInt ≤ 4 ∨ 8 ≤ f.toInt ∧ f.toInt ≤ 15)) ∧ (3 ≤ a.toInt → (0 ≤ g.toInt ∧ g.toInt ≤ 4 ∨ 8 ≤ g.toInt ∧ g.toInt ≤ 15))) ∨ y0_50.toInt = 0 ∧ ¬ (0 ≤ a.toInt ∧ a.toInt ≤ 3 ∧ (1 ≤ a.toInt → (0 ≤ b.toInt ∧ b.toInt ≤ 4 ∨ 8 ≤ b.toInt ∧ b.toInt ≤ 15)) ∧ (2 ≤ a.toInt → (0 ≤ f.toInt ∧ f.toInt ≤ 4 ∨ 8 ≤ f.toInt ∧ f.toInt ≤ 15)) ∧ (3 ≤ a.toInt → (0 ≤ g.toInt ∧ g.toInt ≤ 4 ∨ 8 ≤ g.toInt ∧ g.toInt ≤ 15)))) (H : Heap) (locs : List Loc) (ls : Array Slot), va_P (dC, dI) vwCl (cW ad cid a2 lx sg gm lg) H → va_D A (cW ad cid a2 lx sg gm lg) → va_S A s.heap H locs → lv_has ls 4 [(0, .int a), (1, .int b), (2, .int f), (3, .int g)] → W p l e (headSpec wm_X12_areTypes ({ frames := 1, cells := 1, slots := 6, locals := 20 })).room s m ([.int a, .int b, .int f, .int g] : List Value).toArray below meth c H locs 0 0 (vx_MQ below (cQx dC dI ad cid a2 lx (fun v u => ∃ r : Int32, v = some (.int r) ∧ u = (sg, gm, lg) ∧ (iv 0 1 r) ∧ (r.toInt = 1 ∧ (0 ≤ a.toInt ∧ a.toInt ≤ 3 ∧ (1 ≤ a.toInt → (0 ≤ b.toInt ∧ b.toInt ≤ 4 ∨ 8 ≤ b.toInt ∧ b.toInt ≤ 15)) ∧ (2 ≤ a.toInt → (0 ≤ f.toInt ∧ f.toInt ≤ 4 ∨ 8 ≤ f.toInt ∧ f.toInt ≤ 15)) ∧ (3 ≤ a.toInt → (0 ≤ g.toInt ∧ g.toInt ≤ 4 ∨ 8 ≤ g.toInt ∧ g.toInt ≤ 15))) ∨ r.toInt = 0 ∧ ¬ (0 ≤ a.toInt ∧ a.toInt ≤ 3 ∧ (1 ≤ a.toInt → (0 ≤ b.toInt ∧ b.toInt ≤ 4 ∨ 8 ≤ b.toInt ∧ b.toInt ≤ 15)) ∧ (2 ≤ a.toInt → (0 ≤ f.toInt ∧ f.toInt ≤ 4 ∨ 8 ≤ f.toInt ∧ f.toInt ≤ 15)) ∧ (3 ≤ a.toInt → (0 ≤ g.toInt ∧ g.toInt ≤ 4 ∨ 8 ≤ g.toInt ∧ g.toInt ≤ 15))))) A) (cX dC dI ad cid a2 lx (fun _ _ => False) A) ([.int a, .int b, .int f, .int g] : List Value).toArray s 1 6 A) (F0 m 50 ls [.int y0_50]) := by
    intro y0_50 hy0_50 hc H locs ls hP hD hS hl
    exact W.nb (fun hN => W.widen (k := 1) (n := 6) (by decide) (by decide) (vx_ret (W.zret (v := y0_50) hx hb hr (iv_nb hy0_50) (fun t ht hW => ⟨⟨some (.int y0_50), (sg, gm, lg), rfl, ⟨y0_50, rfl, rfl, hy0_50, (hc)⟩, by rw [ht]; exact hP, va_K.moved hW.alike hK, hD⟩, hS.F ht, by rw [ht]; exact hN⟩) hS.2.2 dX12_areTypes_50)))
  have hj49 : ∀ (_ : ¬ (0 ≤ a.toInt ∧ a.toInt ≤ 3 ∧ (1 ≤ a.toInt → (0 ≤ b.toInt ∧ b.toInt ≤ 4 ∨ 8 ≤ b.toInt ∧ b.toInt ≤ 15)) ∧ (2 ≤ a.toInt → (0 ≤ f.toInt ∧ f.toInt ≤ 4 ∨ 8 ≤ f.toInt ∧ f.toInt ≤ 15)) ∧ (3 ≤ a.toInt → (0 ≤ g.toInt ∧ g.toInt ≤ 4 ∨ 8 ≤ g.toInt ∧ g.toInt ≤ 15)))) (H : Heap) (locs : List Loc) (ls : Array Slot), va_P (dC, dI) vwCl (cW ad cid a2 lx sg gm lg) H → va_D A (cW ad cid a2 lx sg gm lg) → va_S A s.heap H locs → lv_has ls 4 [(0, .int a), (1, .int b), (2, .int f), (3, .int g)] → W p l e (headSpec wm_X12_areTypes ({ frames := 1, cells := 1, slots := 6, locals := 20 })).room s m ([.int a, .int b, .int f, .int g] : List Value).toArray below meth c H locs 0 0 (vx_MQ below (cQx dC dI ad cid a2 lx (fun v u => ∃ r : Int32, v = some (.int r) ∧ u = (sg, gm, lg) ∧ (iv 0 1 r) ∧ (r.toInt = 1 ∧ (0 ≤ a.toInt ∧ a.toInt ≤ 3 ∧ (1 ≤ a.toInt → (0 ≤ b.toInt ∧ b.toInt ≤ 4 ∨ 8 ≤ b.toInt ∧ b.toInt ≤ 15)) ∧ (2 ≤ a.toInt → (0 ≤ f.toInt ∧ f.toInt ≤ 4 ∨ 8 ≤ f.toInt ∧ f.toInt ≤ 15)) ∧ (3 ≤ a.toInt → (0 ≤ g.toInt ∧ g.toInt ≤ 4 ∨ 8 ≤ g.toInt ∧ g.toInt ≤ 15))) ∨ r.toInt = 0 ∧ ¬ (0 ≤ a.toInt ∧ a.toInt ≤ 3 ∧ (1 ≤ a.toInt → (0 ≤ b.toInt ∧ b.toInt ≤ 4 ∨ 8 ≤ b.toInt ∧ b.toInt ≤ 15)) ∧ (2 ≤ a.toInt → (0 ≤ f.toInt ∧ f.toInt ≤ 4 ∨ 8 ≤ f.toInt ∧ f.toInt ≤ 15)) ∧ (3 ≤ a.toInt → (0 ≤ g.toInt ∧ g.toInt ≤ 4 ∨ 8 ≤ g.toInt ∧ g.toInt ≤ 15))))) A) (cX dC dI ad cid a2 lx (fun _ _ => False) A) ([.int a, .int b, .int f, .int g] : List Value).toArray s 1 6 A) (F0 m 49 ls []) := by
    intro  hnn H locs ls hP hD hS hl
    refine lv_iconst (v := 0) hx hb dX12_areTypes_49 (by decide) ?_
    exact hj50 0 (iv_w (iv_k (by decide) : iv 0 0 0) (by decide)) (Or.inr ⟨rfl, hnn⟩) _ _ _ hP hD hS (lv_sub hl [0, 1, 2, 3] rfl)
  have hj45 : ∀ (_ : iv 0 3 a) (_ : 0 ≤ a.toInt ∧ a.toInt ≤ 3 ∧ (1 ≤ a.toInt → (0 ≤ b.toInt ∧ b.toInt ≤ 4 ∨ 8 ≤ b.toInt ∧ b.toInt ≤ 15)) ∧ (2 ≤ a.toInt → (0 ≤ f.toInt ∧ f.toInt ≤ 4 ∨ 8 ≤ f.toInt ∧ f.toInt ≤ 15)) ∧ (3 ≤ a.toInt → (0 ≤ g.toInt ∧ g.toInt ≤ 4 ∨ 8 ≤ g.toInt ∧ g.toInt ≤ 15))) (H : Heap) (locs : List Loc) (ls : Array Slot), va_P (dC, dI) vwCl (cW ad cid a2 lx sg gm lg) H → va_D A (cW ad cid a2 lx sg gm lg) → va_S A s.heap H locs → lv_has ls 4 [(0, .int a), (1, .int b), (2, .int f), (3, .int g)] → W p l e (headSpec wm_X12_areTypes ({ frames := 1, cells := 1, slots := 6, locals := 20 })).room s m ([.int a, .int b, .int f, .int g] : List Value).toArray below meth c H locs 0 0 (vx_MQ below (cQx dC dI ad cid a2 lx (fun v u => ∃ r : Int32, v = some (.int r) ∧ u = (sg, gm, lg) ∧ (iv 0 1 r) ∧ (r.toInt = 1 ∧ (0 ≤ a.toInt ∧ a.toInt ≤ 3 ∧ (1 ≤ a.toInt → (0 ≤ b.toInt ∧ b.toInt ≤ 4 ∨ 8 ≤ b.toInt ∧ b.toInt ≤ 15)) ∧ (2 ≤ a.toInt → (0 ≤ f.toInt ∧ f.toInt ≤ 4 ∨ 8 ≤ f.toInt ∧ f.toInt ≤ 15)) ∧ (3 ≤ a.toInt → (0 ≤ g.toInt ∧ g.toInt ≤ 4 ∨ 8 ≤ g.toInt ∧ g.toInt ≤ 15))) ∨ r.toInt = 0 ∧ ¬ (0 ≤ a.toInt ∧ a.toInt ≤ 3 ∧ (1 ≤ a.toInt → (0 ≤ b.toInt ∧ b.toInt ≤ 4 ∨ 8 ≤ b.toInt ∧ b.toInt ≤ 15)) ∧ (2 ≤ a.toInt → (0 ≤ f.toInt ∧ f.toInt ≤ 4 ∨ 8 ≤ f.toInt ∧ f.toInt ≤ 15)) ∧ (3 ≤ a.toInt → (0 ≤ g.toInt ∧ g.toInt ≤ 4 ∨ 8 ≤ g.toInt ∧ g.toInt ≤ 15))))) A) (cX dC dI ad cid a2 lx (fun _ _ => False) A) ([.int a, .int b, .int f, .int g] : List Value).toArray s 1 6 A) (F0 m 45 ls []) := by
    intro  hsx0_45 h3 H locs ls hP hD hS hl
    refine lv_iconst (v := 1) hx hb dX12_areTypes_45 (by decide) ?_
    refine lv_goto (tgt := 50) hx hb dX12_areTypes_46 (by decide) ?_
    exact hj50 1 (iv_w (iv_k (by decide) : iv 1 1 1) (by decide)) (Or.inl ⟨rfl, h3⟩) _ _ _ hP hD hS (lv_sub hl [0, 1, 2, 3] rfl)
  have hj33 : ∀ (_ : iv 0 3 a) (_ : 0 ≤ a.toInt ∧ a.toInt ≤ 3 ∧ (1 ≤ a.toInt → (0 ≤ b.toInt ∧ b.toInt ≤ 4 ∨ 8 ≤ b.toInt ∧ b.toInt ≤ 15)) ∧ (2 ≤ a.toInt → (0 ≤ f.toInt ∧ f.toInt ≤ 4 ∨ 8 ≤ f.toInt ∧ f.toInt ≤ 15))) (H : Heap) (locs : List Loc) (ls : Array Slot), va_P (dC, dI) vwCl (cW ad cid a2 lx sg gm lg) H → va_D A (cW ad cid a2 lx sg gm lg) → va_S A s.heap H locs → lv_has ls 4 [(0, .int a), (1, .int b), (2, .int f), (3, .int g)] → W p l e (headSpec wm_X12_areTypes ({ frames := 1, cells := 1, slots := 6, locals := 20 })).room s m ([.int a, .int b, .int f, .int g] : List Value).toArray below meth c H locs 0 0 (vx_MQ below (cQx dC dI ad cid a2 lx (fun v u => ∃ r : Int32, v = some (.int r) ∧ u = (sg, gm, lg) ∧ (iv 0 1 r) ∧ (r.toInt = 1 ∧ (0 ≤ a.toInt ∧ a.toInt ≤ 3 ∧ (1 ≤ a.toInt → (0 ≤ b.toInt ∧ b.toInt ≤ 4 ∨ 8 ≤ b.toInt ∧ b.toInt ≤ 15)) ∧ (2 ≤ a.toInt → (0 ≤ f.toInt ∧ f.toInt ≤ 4 ∨ 8 ≤ f.toInt ∧ f.toInt ≤ 15)) ∧ (3 ≤ a.toInt → (0 ≤ g.toInt ∧ g.toInt ≤ 4 ∨ 8 ≤ g.toInt ∧ g.toInt ≤ 15))) ∨ r.toInt = 0 ∧ ¬ (0 ≤ a.toInt ∧ a.toInt ≤ 3 ∧ (1 ≤ a.toInt → (0 ≤ b.toInt ∧ b.toInt ≤ 4 ∨ 8 ≤ b.toInt ∧ b.toInt ≤ 15)) ∧ (2 ≤ a.toInt → (0 ≤ f.toInt ∧ f.toInt ≤ 4 ∨ 8 ≤ f.toInt ∧ f.toInt ≤ 15)) ∧ (3 ≤ a.toInt → (0 ≤ g.toInt ∧ g.toInt ≤ 4 ∨ 8 ≤ g.toInt ∧ g.toInt ≤ 15))))) A) (cX dC dI ad cid a2 lx (fun _ _ => False) A) ([.int a, .int b, .int f, .int g] : List Value).toArray s 1 6 A) (F0 m 33 ls []) := by
    intro  hsx0_33 h2 H locs ls hP hD hS hl
    refine lv_iload_n hx hb dX12_areTypes_33 rfl (lv_at hl 0 rfl) ?_
    refine lv_iconst (v := 3) hx hb dX12_areTypes_34 (by decide) ?_
    refine lv_icmp_lt (tgt := 45) hx hb dX12_areTypes_35 (by decide) (fun c_1 => ?_) (fun c_1 => ?_)
    · have h_2 : iv 0 2 a := iv_ltL c_1 hsx0_33 (iv_k (by decide) : iv 3 3 3) (by decide)
      exact hj45 (iv_w h_2 (by decide)) (by have := i32_0; have := i32_1; have := i32_2; have := i32_m1; have := (h_2).1; have := (h_2).2; omega) _ _ _ hP hD hS (lv_sub hl [0, 1, 2, 3] rfl)
    · have h_3 : iv 3 3 a := iv_leR (i32_ge c_1) (iv_k (by decide) : iv 3 3 3) hsx0_33 (by decide)
      refine lv_iload_n hx hb dX12_areTypes_38 rfl (lv_at hl 3 rfl) ?_
      refine cm_callS (rest := []) (as := [.int g]) ⟨hx, hb, hml, hown, htb⟩ (d_isType2 l dC dI ad cid a2 lx sg gm lg g hI) (va_cwS 1 htb (gd_S kw_247 kw_248 kw_2 kw_1391) rfl rfl rfl (by decide +kernel) ⟨Nat.le_of_ble_eq_true rfl, Nat.le_of_ble_eq_true rfl⟩)  rfl hl.1 rfl (Nat.le_trans cs_n (by decide)) dX12_areTypes_39 ⟨Nat.le_of_ble_eq_true rfl, Nat.le_of_ble_eq_true rfl⟩ hK hP hD hS hA hG (fun E ce q9 u_5 H locs hw hP hD hS hce hcv hcl => ?_) (fun v9 u_5 H locs hw hP hD hS => ?_)
      · exact hw.elim
      obtain ⟨r_4, rfl, rfl, hr_4, fl_r_4⟩ := hw
      have hP : va_P (dC, dI) vwCl (cW ad cid a2 lx sg gm lg) H := hP
      have hD : va_D A (cW ad cid a2 lx sg gm lg) := hD
      refine W.eq (g2 := F0 m 42 ls [.int r_4]) rfl ?_
      refine lv_if_eq (tgt := 49) hx hb dX12_areTypes_42 (by decide) (fun c_7 => ?_) (fun c_7 => ?_)
      · have h_8 : iv 0 0 r_4 := iv_eq c_7 hr_4 (iv_k (by decide) : iv 0 0 0) (by decide)
        exact hj49 (fun q9 => by { have := i32_0; have := i32_1; have := i32_2; have := i32_m1; have := (h_3).1; have := (h_3).2; have := (h_8).1; have := (h_8).2; omega }) _ _ _ hP hD hS (lv_sub hl [0, 1, 2, 3] rfl)
      · have h_9 : iv 1 1 r_4 := iv_neL c_7 hr_4 (by decide)
        exact hj45 (iv_w h_3 (by decide)) (by have := i32_0; have := i32_1; have := i32_2; have := i32_m1; have := (h_3).1; have := (h_3).2; have := (h_9).1; have := (h_9).2; omega) _ _ _ hP hD hS (lv_sub hl [0, 1, 2, 3] rfl)
  have hj21 : ∀ (_ : iv 0 3 a) (_ : 0 ≤ a.toInt ∧ a.toInt ≤ 3 ∧ (1 ≤ a.toInt → (0 ≤ b.toInt ∧ b.toInt ≤ 4 ∨ 8 ≤ b.toInt ∧ b.toInt ≤ 15))) (H : Heap) (locs : List Loc) (ls : Array Slot), va_P (dC, dI) vwCl (cW ad cid a2 lx sg gm lg) H → va_D A (cW ad cid a2 lx sg gm lg) → va_S A s.heap H locs → lv_has ls 4 [(0, .int a), (1, .int b), (2, .int f), (3, .int g)] → W p l e (headSpec wm_X12_areTypes ({ frames := 1, cells := 1, slots := 6, locals := 20 })).room s m ([.int a, .int b, .int f, .int g] : List Value).toArray below meth c H locs 0 0 (vx_MQ below (cQx dC dI ad cid a2 lx (fun v u => ∃ r : Int32, v = some (.int r) ∧ u = (sg, gm, lg) ∧ (iv 0 1 r) ∧ (r.toInt = 1 ∧ (0 ≤ a.toInt ∧ a.toInt ≤ 3 ∧ (1 ≤ a.toInt → (0 ≤ b.toInt ∧ b.toInt ≤ 4 ∨ 8 ≤ b.toInt ∧ b.toInt ≤ 15)) ∧ (2 ≤ a.toInt → (0 ≤ f.toInt ∧ f.toInt ≤ 4 ∨ 8 ≤ f.toInt ∧ f.toInt ≤ 15)) ∧ (3 ≤ a.toInt → (0 ≤ g.toInt ∧ g.toInt ≤ 4 ∨ 8 ≤ g.toInt ∧ g.toInt ≤ 15))) ∨ r.toInt = 0 ∧ ¬ (0 ≤ a.toInt ∧ a.toInt ≤ 3 ∧ (1 ≤ a.toInt → (0 ≤ b.toInt ∧ b.toInt ≤ 4 ∨ 8 ≤ b.toInt ∧ b.toInt ≤ 15)) ∧ (2 ≤ a.toInt → (0 ≤ f.toInt ∧ f.toInt ≤ 4 ∨ 8 ≤ f.toInt ∧ f.toInt ≤ 15)) ∧ (3 ≤ a.toInt → (0 ≤ g.toInt ∧ g.toInt ≤ 4 ∨ 8 ≤ g.toInt ∧ g.toInt ≤ 15))))) A) (cX dC dI ad cid a2 lx (fun _ _ => False) A) ([.int a, .int b, .int f, .int g] : List Value).toArray s 1 6 A) (F0 m 21 ls []) := by
    intro  hsx0_21 h1 H locs ls hP hD hS hl
    refine lv_iload_n hx hb dX12_areTypes_21 rfl (lv_at hl 0 rfl) ?_
    refine lv_iconst (v := 2) hx hb dX12_areTypes_22 (by decide) ?_
    refine lv_icmp_lt (tgt := 33) hx hb dX12_areTypes_23 (by decide) (fun c_10 => ?_) (fun c_10 => ?_)
    · have h_11 : iv 0 1 a := iv_ltL c_10 hsx0_21 (iv_k (by decide) : iv 2 2 2) (by decide)
      exact hj33 (iv_w h_11 (by decide)) (by have := i32_0; have := i32_1; have := i32_2; have := i32_m1; have := (h_11).1; have := (h_11).2; omega) _ _ _ hP hD hS (lv_sub hl [0, 1, 2, 3] rfl)
    · have h_12 : iv 2 3 a := iv_leR (i32_ge c_10) (iv_k (by decide) : iv 2 2 2) hsx0_21 (by decide)
      refine lv_iload_n hx hb dX12_areTypes_26 rfl (lv_at hl 2 rfl) ?_
      refine cm_callS (rest := []) (as := [.int f]) ⟨hx, hb, hml, hown, htb⟩ (d_isType2 l dC dI ad cid a2 lx sg gm lg f hI) (va_cwS 1 htb (gd_S kw_247 kw_248 kw_2 kw_1391) rfl rfl rfl (by decide +kernel) ⟨Nat.le_of_ble_eq_true rfl, Nat.le_of_ble_eq_true rfl⟩)  rfl hl.1 rfl (Nat.le_trans cs_n (by decide)) dX12_areTypes_27 ⟨Nat.le_of_ble_eq_true rfl, Nat.le_of_ble_eq_true rfl⟩ hK hP hD hS hA hG (fun E ce q9 u_14 H locs hw hP hD hS hce hcv hcl => ?_) (fun v9 u_14 H locs hw hP hD hS => ?_)
      · exact hw.elim
      obtain ⟨r_13, rfl, rfl, hr_13, fl_r_13⟩ := hw
      have hP : va_P (dC, dI) vwCl (cW ad cid a2 lx sg gm lg) H := hP
      have hD : va_D A (cW ad cid a2 lx sg gm lg) := hD
      refine W.eq (g2 := F0 m 30 ls [.int r_13]) rfl ?_
      refine lv_if_eq (tgt := 49) hx hb dX12_areTypes_30 (by decide) (fun c_16 => ?_) (fun c_16 => ?_)
      · have h_17 : iv 0 0 r_13 := iv_eq c_16 hr_13 (iv_k (by decide) : iv 0 0 0) (by decide)
        exact hj49 (fun q9 => by { have := i32_0; have := i32_1; have := i32_2; have := i32_m1; have := (h_12).1; have := (h_12).2; have := (h_17).1; have := (h_17).2; omega }) _ _ _ hP hD hS (lv_sub hl [0, 1, 2, 3] rfl)
      · have h_18 : iv 1 1 r_13 := iv_neL c_16 hr_13 (by decide)
        exact hj33 (iv_w h_12 (by decide)) (by have := i32_0; have := i32_1; have := i32_2; have := i32_m1; have := (h_12).1; have := (h_12).2; have := (h_18).1; have := (h_18).2; omega) _ _ _ hP hD hS (lv_sub hl [0, 1, 2, 3] rfl)
  refine lv_iload_n hx hb dX12_areTypes_0 rfl (lv_at hl 0 rfl) ?_
  refine lv_if_lt (tgt := 49) hx hb dX12_areTypes_1 (by decide) (fun c_19 => ?_) (fun c_19 => ?_)
  · have h_20 : iv (-2147483648) (-1) a := iv_ltL c_19 (iv_all a) (iv_k (by decide) : iv 0 0 0) (by decide)
    exact hj49 (fun q9 => by { have := i32_0; have := i32_1; have := i32_2; have := i32_m1; have := (h_20).1; have := (h_20).2; omega }) _ _ _ hP hD hS (lv_sub hl [0, 1, 2, 3] rfl)
  · have h_21 : iv 0 2147483647 a := iv_leR (i32_ge c_19) (iv_k (by decide) : iv 0 0 0) (iv_all a) (by decide)
    refine lv_iload_n hx hb dX12_areTypes_4 rfl (lv_at hl 0 rfl) ?_
    refine lv_iconst (v := 3) hx hb dX12_areTypes_5 (by decide) ?_
    refine lv_icmp_gt (tgt := 49) hx hb dX12_areTypes_6 (by decide) (fun c_22 => ?_) (fun c_22 => ?_)
    · have h_23 : iv 4 2147483647 a := iv_ltR c_22 (iv_k (by decide) : iv 3 3 3) h_21 (by decide)
      exact hj49 (fun q9 => by { have := i32_0; have := i32_1; have := i32_2; have := i32_m1; have := (h_23).1; have := (h_23).2; omega }) _ _ _ hP hD hS (lv_sub hl [0, 1, 2, 3] rfl)
    · have h_24 : iv 0 3 a := iv_leL (i32_ge c_22) h_21 (iv_k (by decide) : iv 3 3 3) (by decide)
      refine lv_iload_n hx hb dX12_areTypes_9 rfl (lv_at hl 0 rfl) ?_
      refine lv_iconst (v := 1) hx hb dX12_areTypes_10 (by decide) ?_
      refine lv_icmp_lt (tgt := 21) hx hb dX12_areTypes_11 (by decide) (fun c_25 => ?_) (fun c_25 => ?_)
      · have h_26 : iv 0 0 a := iv_ltL c_25 h_24 (iv_k (by decide) : iv 1 1 1) (by decide)
        exact hj21 (iv_w h_26 (by decide)) (by have := i32_0; have := i32_1; have := i32_2; have := i32_m1; have := (h_26).1; have := (h_26).2; omega) _ _ _ hP hD hS (lv_sub hl [0, 1, 2, 3] rfl)
      · have h_27 : iv 1 3 a := iv_leR (i32_ge c_25) (iv_k (by decide) : iv 1 1 1) h_24 (by decide)
        refine lv_iload_n hx hb dX12_areTypes_14 rfl (lv_at hl 1 rfl) ?_
        refine cm_callS (rest := []) (as := [.int b]) ⟨hx, hb, hml, hown, htb⟩ (d_isType2 l dC dI ad cid a2 lx sg gm lg b hI) (va_cwS 1 htb (gd_S kw_247 kw_248 kw_2 kw_1391) rfl rfl rfl (by decide +kernel) ⟨Nat.le_of_ble_eq_true rfl, Nat.le_of_ble_eq_true rfl⟩)  rfl hl.1 rfl (Nat.le_trans cs_n (by decide)) dX12_areTypes_15 ⟨Nat.le_of_ble_eq_true rfl, Nat.le_of_ble_eq_true rfl⟩ hK hP hD hS hA hG (fun E ce q9 u_29 H locs hw hP hD hS hce hcv hcl => ?_) (fun v9 u_29 H locs hw hP hD hS => ?_)
        · exact hw.elim
        obtain ⟨r_28, rfl, rfl, hr_28, fl_r_28⟩ := hw
        have hP : va_P (dC, dI) vwCl (cW ad cid a2 lx sg gm lg) H := hP
        have hD : va_D A (cW ad cid a2 lx sg gm lg) := hD
        refine W.eq (g2 := F0 m 18 ls [.int r_28]) rfl ?_
        refine lv_if_eq (tgt := 49) hx hb dX12_areTypes_18 (by decide) (fun c_31 => ?_) (fun c_31 => ?_)
        · have h_32 : iv 0 0 r_28 := iv_eq c_31 hr_28 (iv_k (by decide) : iv 0 0 0) (by decide)
          exact hj49 (fun q9 => by { have := i32_0; have := i32_1; have := i32_2; have := i32_m1; have := (h_27).1; have := (h_27).2; have := (h_32).1; have := (h_32).2; omega }) _ _ _ hP hD hS (lv_sub hl [0, 1, 2, 3] rfl)
        · have h_33 : iv 1 1 r_28 := iv_neL c_31 hr_28 (by decide)
          exact hj21 (iv_w h_27 (by decide)) (by have := i32_0; have := i32_1; have := i32_2; have := i32_m1; have := (h_27).1; have := (h_27).2; have := (h_33).1; have := (h_33).2; omega) _ _ _ hP hD hS (lv_sub hl [0, 1, 2, 3] rfl)
end
section
theorem zLet_f {a : Int32} : (zLet a = 1 ∧ 0 ≤ a.toInt ∧ a.toInt ≤ 25) ∨ (zLet a = 0 ∧ ¬ (0 ≤ a.toInt ∧ a.toInt ≤ 25)) := by
  have z0 : (0 : Int32).toInt = 0 := by decide
  have z26 : (26 : Int32).toInt = 26 := by decide
  unfold zLet
  split
  · rename_i h; have := Int32.lt_iff_toInt_lt.mp h; exact Or.inr ⟨rfl, by omega⟩
  · rename_i h; have h : ¬ a.toInt < (0 : Int32).toInt := fun q => h (Int32.lt_iff_toInt_lt.mpr q)
    split
    · rename_i h2; have := Int32.le_iff_toInt_le.mp h2; exact Or.inr ⟨rfl, by omega⟩
    · rename_i h2; have h2 : ¬ (26 : Int32).toInt ≤ a.toInt := fun q => h2 (Int32.le_iff_toInt_le.mpr q); exact Or.inl ⟨rfl, by omega, by omega⟩
theorem zCls_g {a : Int32} : (zCls a = 1 ∧ 0 ≤ a.toInt ∧ a.toInt ≤ 7) ∨ (zCls a = 0 ∧ ¬ (0 ≤ a.toInt ∧ a.toInt ≤ 7)) := by
  have z0 : (0 : Int32).toInt = 0 := by decide
  have z8 : (8 : Int32).toInt = 8 := by decide
  unfold zCls
  split
  · rename_i h; have := Int32.lt_iff_toInt_lt.mp h; exact Or.inr ⟨rfl, by omega⟩
  · rename_i h; have h : ¬ a.toInt < (0 : Int32).toInt := fun q => h (Int32.lt_iff_toInt_lt.mpr q)
    split
    · rename_i h2; have := Int32.le_iff_toInt_le.mp h2; exact Or.inr ⟨rfl, by omega⟩
    · rename_i h2; have h2 : ¬ (8 : Int32).toInt ≤ a.toInt := fun q => h2 (Int32.le_iff_toInt_le.mpr q); exact Or.inl ⟨rfl, by omega, by omega⟩
theorem zTyp_f {a : Int32} : (zTyp a = 1 ∧ (0 ≤ a.toInt ∧ a.toInt ≤ 4 ∨ 8 ≤ a.toInt ∧ a.toInt ≤ 15)) ∨ (zTyp a = 0 ∧ ¬ (0 ≤ a.toInt ∧ a.toInt ≤ 4 ∨ 8 ≤ a.toInt ∧ a.toInt ≤ 15)) := by
  have z0 : (0 : Int32).toInt = 0 := by decide
  have z4 : (4 : Int32).toInt = 4 := by decide
  have z8 : (8 : Int32).toInt = 8 := by decide
  have z16 : (16 : Int32).toInt = 16 := by decide
  unfold zTyp
  (repeat' split) <;> first | (refine Or.inr ⟨rfl, ?_⟩; (simp only [Int32.lt_iff_toInt_lt, Int32.le_iff_toInt_le] at *) <;> omega) | (refine Or.inl ⟨rfl, ?_⟩; (simp only [Int32.lt_iff_toInt_lt, Int32.le_iff_toInt_le] at *) <;> omega)
theorem zTys_f {n a b c : Int32} : (zTys n a b c = 1 ∧ 0 ≤ n.toInt ∧ n.toInt ≤ 3 ∧ (1 ≤ n.toInt → (0 ≤ a.toInt ∧ a.toInt ≤ 4 ∨ 8 ≤ a.toInt ∧ a.toInt ≤ 15)) ∧ (2 ≤ n.toInt → (0 ≤ b.toInt ∧ b.toInt ≤ 4 ∨ 8 ≤ b.toInt ∧ b.toInt ≤ 15)) ∧ (3 ≤ n.toInt → (0 ≤ c.toInt ∧ c.toInt ≤ 4 ∨ 8 ≤ c.toInt ∧ c.toInt ≤ 15))) ∨ (zTys n a b c = 0 ∧ ¬ (0 ≤ n.toInt ∧ n.toInt ≤ 3 ∧ (1 ≤ n.toInt → (0 ≤ a.toInt ∧ a.toInt ≤ 4 ∨ 8 ≤ a.toInt ∧ a.toInt ≤ 15)) ∧ (2 ≤ n.toInt → (0 ≤ b.toInt ∧ b.toInt ≤ 4 ∨ 8 ≤ b.toInt ∧ b.toInt ≤ 15)) ∧ (3 ≤ n.toInt → (0 ≤ c.toInt ∧ c.toInt ≤ 4 ∨ 8 ≤ c.toInt ∧ c.toInt ≤ 15)))) := by
  have z0 : (0 : Int32).toInt = 0 := by decide
  have z1 : (1 : Int32).toInt = 1 := by decide
  have z2 : (2 : Int32).toInt = 2 := by decide
  have z3 : (3 : Int32).toInt = 3 := by decide
  have n1 : ¬ (1 : Int32) = 0 := by decide
  rcases zTyp_f (a := a) with ⟨ea, ha⟩ | ⟨ea, ha⟩ <;> rcases zTyp_f (a := b) with ⟨eb, hb⟩ | ⟨eb, hb⟩ <;> rcases zTyp_f (a := c) with ⟨ec, hc⟩ | ⟨ec, hc⟩ <;> unfold zTys zTys2 zTys3 <;> rw [ea, eb, ec] <;> (repeat' split) <;> first | (refine Or.inr ⟨rfl, ?_⟩; (simp only [Int32.lt_iff_toInt_lt, Int32.le_iff_toInt_le] at *) <;> omega) | (refine Or.inl ⟨rfl, ?_⟩; (simp only [Int32.lt_iff_toInt_lt, Int32.le_iff_toInt_le] at *) <;> omega) | contradiction
end
section
def TYK (p1 p2 p3 p4 p5 : Int32) (n : Nat) : Prop := ∀ j, j < n → ((tyS p1 p2 p3 p4 p5 (nI j)).toInt = 0 ∨ (tyS p1 p2 p3 p4 p5 (nI j)).toInt = 10 ∨ 32 ≤ (tyS p1 p2 p3 p4 p5 (nI j)).toInt ∧ (tyS p1 p2 p3 p4 p5 (nI j)).toInt ≤ 126)
theorem ty_k {p1 p2 p3 p4 p5 i x : Int32} (hi : iv 0 19 i) (h : TYK p1 p2 p3 p4 p5 i.toNatClampNeg) (hs : x = tyS p1 p2 p3 p4 p5 i) (hx : (x.toInt = 0 ∨ x.toInt = 10 ∨ 32 ≤ x.toInt ∧ x.toInt ≤ 126)) : TYK p1 p2 p3 p4 p5 (i.toNatClampNeg + 1) := by
  intro j hj
  by_cases e9 : j = i.toNatClampNeg
  · subst e9; rw [iv_nI hi (by decide), ← hs]; exact hx
  · exact h j (by omega)
theorem ty_bad {p1 p2 p3 p4 p5 i x : Int32} (hi : iv 0 19 i) (hs : x = tyS p1 p2 p3 p4 p5 i) (hx : ¬ (x.toInt = 0 ∨ x.toInt = 10 ∨ 32 ≤ x.toInt ∧ x.toInt ≤ 126)) : ¬ TYK p1 p2 p3 p4 p5 20 := fun h => by
  have k1 := iv_cl hi (by decide)
  have k2 := hi.2
  have k3 := h i.toNatClampNeg (by omega)
  rw [iv_nI hi (by decide), ← hs] at k3
  exact hx k3
/-- type's answer and the length behind it -/
def TYR (p1 p2 p3 p4 p5 r s0 s2 : Int32) : Prop := (r.toInt = -1 ∧ (¬ TYK p1 p2 p3 p4 p5 20 ∨ 1200 < s0.toInt + (tyN p1 p2 p3 p4 p5 20 : Int)) ∧ s2 = s0) ∨ (r.toInt = s0.toInt + (tyN p1 p2 p3 p4 p5 20 : Int) ∧ TYK p1 p2 p3 p4 p5 20 ∧ s0.toInt + (tyN p1 p2 p3 p4 p5 20 : Int) ≤ 1200 ∧ s2 = r)
theorem TYR_e {p1 p2 p3 p4 p5 r r' s0 s2 s0' s2' : Int32} (e : s0 = s0') (a : TYR p1 p2 p3 p4 p5 r s0 s2) (b : TYR p1 p2 p3 p4 p5 r' s0' s2') : r = r' ∧ s2 = s2' := by
  subst e
  rcases a with ⟨a1, a2, a3⟩ | ⟨a1, a2, a3, a4⟩ <;> rcases b with ⟨b1, b2, b3⟩ | ⟨b1, b2, b3, b4⟩
  · exact ⟨Int32.toInt_inj.mp (by rw [a1, b1]), by rw [a3, b3]⟩
  · rcases a2 with q | q
    · exact absurd b2 q
    · omega
  · rcases b2 with q | q
    · exact absurd a2 q
    · omega
  · have h : r = r' := Int32.toInt_inj.mp (by rw [a1, b1])
    exact ⟨h, by rw [a4, b4, h]⟩
end
section
theorem m255 (i : Nat) (hi : i < 32) : (255#32).getLsbD i = decide (i < 8) := by
  have key : ∀ i, i < 32 → (255#32).getLsbD i = decide (i < 8) := by decide
  exact key i hi
theorem bvs (p : BitVec 32) (k : Nat) (hk : k ≤ 24) : (p.sshiftRight k) &&& 255#32 = (p >>> k) &&& 255#32 := by
  apply BitVec.eq_of_getLsbD_eq
  intro i hi
  rw [BitVec.getLsbD_and, BitVec.getLsbD_and, m255 i hi, BitVec.getLsbD_sshiftRight, BitVec.getLsbD_ushiftRight]
  by_cases h : i < 8
  · have h1 : k + i < 32 := by omega
    simp [h1, hi, h]
  · simp [h]
/-- a byte of a word, as the class takes it -/
def byC (fo sh : Int32) : Int32 := ((fo.toUInt32 >>> (sh.toUInt32 &&& Int32.toUInt32 31)).toInt32) &&& 255
theorem shb24 (p : Int32) : (p >>> (24 : Int32)) &&& 255 = byC p 24 := by
  apply Int32.toBitVec_inj.mp
  exact bvs p.toBitVec 24 (by decide)
theorem shb16 (p : Int32) : (p >>> (16 : Int32)) &&& 255 = byC p 16 := by
  apply Int32.toBitVec_inj.mp
  exact bvs p.toBitVec 16 (by decide)
theorem shb8 (p : Int32) : (p >>> (8 : Int32)) &&& 255 = byC p 8 := by
  apply Int32.toBitVec_inj.mp
  exact bvs p.toBitVec 8 (by decide)
theorem shb0 (p : Int32) : (p >>> (0 : Int32)) &&& 255 = byC p 0 := by
  apply Int32.toBitVec_inj.mp
  exact bvs p.toBitVec 0 (by decide)
def bS (fo : Int32) (k : Nat) : Int32 := byC fo (nI (24 - 8 * k))
def bN (fo : Int32) : Nat → Nat
  | 0 => 0
  | k + 1 => bN fo k + (if bS fo k = 0 then 0 else 1)
def BK (fo : Int32) (n : Nat) : Prop := ∀ j, j < n → ((bS fo j).toInt = 0 ∨ (bS fo j).toInt = 10 ∨ 32 ≤ (bS fo j).toInt ∧ (bS fo j).toInt ≤ 126)
theorem bN_mono (fo : Int32) (j : Nat) : ∀ k, j ≤ k → bN fo j ≤ bN fo k := by
  intro k
  induction k with
  | zero => intro h; have h0 : j = 0 := by omega
            subst h0; exact Nat.le_refl _
  | succ k ih =>
    intro h
    by_cases hj : j = k + 1
    · subst hj; exact Nat.le_refl _
    · have := ih (by omega)
      show _ ≤ bN fo k + _
      omega
theorem by_i {fo x : Int32} (h : iv 0 24 x) (hd : x.toInt % 8 = 0) : byC fo x = bS fo ((24 - x.toInt) / 8).toNat := by
  have h1 := h.1
  have h2 := h.2
  have e : x = nI (24 - 8 * ((24 - x.toInt) / 8).toNat) := Int32.toInt_inj.mp (by rw [nI_toInt (by omega)]; omega)
  unfold bS
  rw [← e]
theorem by_s {fo x : Int32} (h : iv 0 24 x) (hd : x.toInt % 8 = 0) : ((24 - x.toInt) / 8).toNat < 4 ∧ bN fo (((24 - x.toInt) / 8).toNat + 1) = bN fo ((24 - x.toInt) / 8).toNat + (if byC fo x = 0 then 0 else 1) := by
  have h1 := h.1
  have h2 := h.2
  refine ⟨by omega, ?_⟩
  rw [by_i h hd]
  rfl
theorem by_k {fo x : Int32} (h : iv 0 24 x) (hd : x.toInt % 8 = 0) (hk : BK fo ((24 - x.toInt) / 8).toNat) (hx : ((byC fo x).toInt = 0 ∨ (byC fo x).toInt = 10 ∨ 32 ≤ (byC fo x).toInt ∧ (byC fo x).toInt ≤ 126)) : BK fo (((24 - x.toInt) / 8).toNat + 1) := by
  intro j hj
  by_cases e9 : j = ((24 - x.toInt) / 8).toNat
  · rw [e9, ← by_i h hd]; exact hx
  · exact hk j (by omega)
theorem by_bad {fo x : Int32} (h : iv 0 24 x) (hd : x.toInt % 8 = 0) (hx : ¬ ((byC fo x).toInt = 0 ∨ (byC fo x).toInt = 10 ∨ 32 ≤ (byC fo x).toInt ∧ (byC fo x).toInt ≤ 126)) : ¬ BK fo 4 := fun q => by
  have := q _ (by_s (fo := fo) h hd).1
  rw [← by_i h hd] at this
  exact hx this
/-- what typedBehind answers -/
def TBH (st fo r : Int32) : Prop := (st.toInt = -1 ∧ r.toInt = -1) ∨ (0 ≤ st.toInt ∧ ((r.toInt = -1 ∧ (¬ BK fo 4 ∨ 1200 < st.toInt + (bN fo 4 : Int))) ∨ (r.toInt = st.toInt + (bN fo 4 : Int) ∧ BK fo 4 ∧ st.toInt + (bN fo 4 : Int) ≤ 1200)))
theorem tyS_0 (p1 p2 p3 p4 p5 : Int32) : tyS p1 p2 p3 p4 p5 (nI 0) = bS p1 0 := (show tyS p1 p2 p3 p4 p5 (nI 0) = (p1 >>> (24 : Int32)) &&& 255 from rfl).trans (shb24 p1)
theorem tyS_1 (p1 p2 p3 p4 p5 : Int32) : tyS p1 p2 p3 p4 p5 (nI 1) = bS p1 1 := (show tyS p1 p2 p3 p4 p5 (nI 1) = (p1 >>> (16 : Int32)) &&& 255 from rfl).trans (shb16 p1)
theorem tyS_2 (p1 p2 p3 p4 p5 : Int32) : tyS p1 p2 p3 p4 p5 (nI 2) = bS p1 2 := (show tyS p1 p2 p3 p4 p5 (nI 2) = (p1 >>> (8 : Int32)) &&& 255 from rfl).trans (shb8 p1)
theorem tyS_3 (p1 p2 p3 p4 p5 : Int32) : tyS p1 p2 p3 p4 p5 (nI 3) = bS p1 3 := (show tyS p1 p2 p3 p4 p5 (nI 3) = (p1 >>> (0 : Int32)) &&& 255 from rfl).trans (shb0 p1)
theorem tyS_4 (p1 p2 p3 p4 p5 : Int32) : tyS p1 p2 p3 p4 p5 (nI 4) = bS p2 0 := (show tyS p1 p2 p3 p4 p5 (nI 4) = (p2 >>> (24 : Int32)) &&& 255 from rfl).trans (shb24 p2)
theorem tyS_5 (p1 p2 p3 p4 p5 : Int32) : tyS p1 p2 p3 p4 p5 (nI 5) = bS p2 1 := (show tyS p1 p2 p3 p4 p5 (nI 5) = (p2 >>> (16 : Int32)) &&& 255 from rfl).trans (shb16 p2)
theorem tyS_6 (p1 p2 p3 p4 p5 : Int32) : tyS p1 p2 p3 p4 p5 (nI 6) = bS p2 2 := (show tyS p1 p2 p3 p4 p5 (nI 6) = (p2 >>> (8 : Int32)) &&& 255 from rfl).trans (shb8 p2)
theorem tyS_7 (p1 p2 p3 p4 p5 : Int32) : tyS p1 p2 p3 p4 p5 (nI 7) = bS p2 3 := (show tyS p1 p2 p3 p4 p5 (nI 7) = (p2 >>> (0 : Int32)) &&& 255 from rfl).trans (shb0 p2)
theorem tyS_8 (p1 p2 p3 p4 p5 : Int32) : tyS p1 p2 p3 p4 p5 (nI 8) = bS p3 0 := (show tyS p1 p2 p3 p4 p5 (nI 8) = (p3 >>> (24 : Int32)) &&& 255 from rfl).trans (shb24 p3)
theorem tyS_9 (p1 p2 p3 p4 p5 : Int32) : tyS p1 p2 p3 p4 p5 (nI 9) = bS p3 1 := (show tyS p1 p2 p3 p4 p5 (nI 9) = (p3 >>> (16 : Int32)) &&& 255 from rfl).trans (shb16 p3)
theorem tyS_10 (p1 p2 p3 p4 p5 : Int32) : tyS p1 p2 p3 p4 p5 (nI 10) = bS p3 2 := (show tyS p1 p2 p3 p4 p5 (nI 10) = (p3 >>> (8 : Int32)) &&& 255 from rfl).trans (shb8 p3)
theorem tyS_11 (p1 p2 p3 p4 p5 : Int32) : tyS p1 p2 p3 p4 p5 (nI 11) = bS p3 3 := (show tyS p1 p2 p3 p4 p5 (nI 11) = (p3 >>> (0 : Int32)) &&& 255 from rfl).trans (shb0 p3)
theorem tyS_12 (p1 p2 p3 p4 p5 : Int32) : tyS p1 p2 p3 p4 p5 (nI 12) = bS p4 0 := (show tyS p1 p2 p3 p4 p5 (nI 12) = (p4 >>> (24 : Int32)) &&& 255 from rfl).trans (shb24 p4)
theorem tyS_13 (p1 p2 p3 p4 p5 : Int32) : tyS p1 p2 p3 p4 p5 (nI 13) = bS p4 1 := (show tyS p1 p2 p3 p4 p5 (nI 13) = (p4 >>> (16 : Int32)) &&& 255 from rfl).trans (shb16 p4)
theorem tyS_14 (p1 p2 p3 p4 p5 : Int32) : tyS p1 p2 p3 p4 p5 (nI 14) = bS p4 2 := (show tyS p1 p2 p3 p4 p5 (nI 14) = (p4 >>> (8 : Int32)) &&& 255 from rfl).trans (shb8 p4)
theorem tyS_15 (p1 p2 p3 p4 p5 : Int32) : tyS p1 p2 p3 p4 p5 (nI 15) = bS p4 3 := (show tyS p1 p2 p3 p4 p5 (nI 15) = (p4 >>> (0 : Int32)) &&& 255 from rfl).trans (shb0 p4)
theorem tyS_16 (p1 p2 p3 p4 p5 : Int32) : tyS p1 p2 p3 p4 p5 (nI 16) = bS p5 0 := (show tyS p1 p2 p3 p4 p5 (nI 16) = (p5 >>> (24 : Int32)) &&& 255 from rfl).trans (shb24 p5)
theorem tyS_17 (p1 p2 p3 p4 p5 : Int32) : tyS p1 p2 p3 p4 p5 (nI 17) = bS p5 1 := (show tyS p1 p2 p3 p4 p5 (nI 17) = (p5 >>> (16 : Int32)) &&& 255 from rfl).trans (shb16 p5)
theorem tyS_18 (p1 p2 p3 p4 p5 : Int32) : tyS p1 p2 p3 p4 p5 (nI 18) = bS p5 2 := (show tyS p1 p2 p3 p4 p5 (nI 18) = (p5 >>> (8 : Int32)) &&& 255 from rfl).trans (shb8 p5)
theorem tyS_19 (p1 p2 p3 p4 p5 : Int32) : tyS p1 p2 p3 p4 p5 (nI 19) = bS p5 3 := (show tyS p1 p2 p3 p4 p5 (nI 19) = (p5 >>> (0 : Int32)) &&& 255 from rfl).trans (shb0 p5)
theorem tyN_b (p1 p2 p3 p4 p5 : Int32) : tyN p1 p2 p3 p4 p5 20 = bN p1 4 + bN p2 4 + bN p3 4 + bN p4 4 + bN p5 4 := by
  simp only [tyN, bN, tyS_0, tyS_1, tyS_2, tyS_3, tyS_4, tyS_5, tyS_6, tyS_7, tyS_8, tyS_9, tyS_10, tyS_11, tyS_12, tyS_13, tyS_14, tyS_15, tyS_16, tyS_17, tyS_18, tyS_19]
  omega
theorem tyK_b {p1 p2 p3 p4 p5 : Int32} : TYK p1 p2 p3 p4 p5 20 ↔ (BK p1 4 ∧ BK p2 4 ∧ BK p3 4 ∧ BK p4 4 ∧ BK p5 4) := by
  constructor
  · intro h
    refine ⟨fun j hj => ?_, fun j hj => ?_, fun j hj => ?_, fun j hj => ?_, fun j hj => ?_⟩
    · rcases (show j = 0 ∨ j = 1 ∨ j = 2 ∨ j = 3 by omega) with rfl | rfl | rfl | rfl
      · have q := h 0 (by decide); rw [tyS_0] at q; exact q
      · have q := h 1 (by decide); rw [tyS_1] at q; exact q
      · have q := h 2 (by decide); rw [tyS_2] at q; exact q
      · have q := h 3 (by decide); rw [tyS_3] at q; exact q
    · rcases (show j = 0 ∨ j = 1 ∨ j = 2 ∨ j = 3 by omega) with rfl | rfl | rfl | rfl
      · have q := h 4 (by decide); rw [tyS_4] at q; exact q
      · have q := h 5 (by decide); rw [tyS_5] at q; exact q
      · have q := h 6 (by decide); rw [tyS_6] at q; exact q
      · have q := h 7 (by decide); rw [tyS_7] at q; exact q
    · rcases (show j = 0 ∨ j = 1 ∨ j = 2 ∨ j = 3 by omega) with rfl | rfl | rfl | rfl
      · have q := h 8 (by decide); rw [tyS_8] at q; exact q
      · have q := h 9 (by decide); rw [tyS_9] at q; exact q
      · have q := h 10 (by decide); rw [tyS_10] at q; exact q
      · have q := h 11 (by decide); rw [tyS_11] at q; exact q
    · rcases (show j = 0 ∨ j = 1 ∨ j = 2 ∨ j = 3 by omega) with rfl | rfl | rfl | rfl
      · have q := h 12 (by decide); rw [tyS_12] at q; exact q
      · have q := h 13 (by decide); rw [tyS_13] at q; exact q
      · have q := h 14 (by decide); rw [tyS_14] at q; exact q
      · have q := h 15 (by decide); rw [tyS_15] at q; exact q
    · rcases (show j = 0 ∨ j = 1 ∨ j = 2 ∨ j = 3 by omega) with rfl | rfl | rfl | rfl
      · have q := h 16 (by decide); rw [tyS_16] at q; exact q
      · have q := h 17 (by decide); rw [tyS_17] at q; exact q
      · have q := h 18 (by decide); rw [tyS_18] at q; exact q
      · have q := h 19 (by decide); rw [tyS_19] at q; exact q
  · rintro ⟨h1, h2, h3, h4, h5⟩ j hj
    rcases (show j = 0 ∨ j = 1 ∨ j = 2 ∨ j = 3 ∨ j = 4 ∨ j = 5 ∨ j = 6 ∨ j = 7 ∨ j = 8 ∨ j = 9 ∨ j = 10 ∨ j = 11 ∨ j = 12 ∨ j = 13 ∨ j = 14 ∨ j = 15 ∨ j = 16 ∨ j = 17 ∨ j = 18 ∨ j = 19 by omega) with rfl | rfl | rfl | rfl | rfl | rfl | rfl | rfl | rfl | rfl | rfl | rfl | rfl | rfl | rfl | rfl | rfl | rfl | rfl | rfl
    · rw [tyS_0]; exact h1 0 (by decide)
    · rw [tyS_1]; exact h1 1 (by decide)
    · rw [tyS_2]; exact h1 2 (by decide)
    · rw [tyS_3]; exact h1 3 (by decide)
    · rw [tyS_4]; exact h2 0 (by decide)
    · rw [tyS_5]; exact h2 1 (by decide)
    · rw [tyS_6]; exact h2 2 (by decide)
    · rw [tyS_7]; exact h2 3 (by decide)
    · rw [tyS_8]; exact h3 0 (by decide)
    · rw [tyS_9]; exact h3 1 (by decide)
    · rw [tyS_10]; exact h3 2 (by decide)
    · rw [tyS_11]; exact h3 3 (by decide)
    · rw [tyS_12]; exact h4 0 (by decide)
    · rw [tyS_13]; exact h4 1 (by decide)
    · rw [tyS_14]; exact h4 2 (by decide)
    · rw [tyS_15]; exact h4 3 (by decide)
    · rw [tyS_16]; exact h5 0 (by decide)
    · rw [tyS_17]; exact h5 1 (by decide)
    · rw [tyS_18]; exact h5 2 (by decide)
    · rw [tyS_19]; exact h5 3 (by decide)
theorem TBH_5 {p1 p2 p3 p4 p5 s0 r1 r2 r3 r4 r5 : Int32} (h0 : 0 ≤ s0.toInt) (t1 : TBH s0 p1 r1) (t2 : TBH r1 p2 r2) (t3 : TBH r2 p3 r3) (t4 : TBH r3 p4 r4) (t5 : TBH r4 p5 r5) : (r5.toInt = -1 ∧ (¬ TYK p1 p2 p3 p4 p5 20 ∨ 1200 < s0.toInt + (tyN p1 p2 p3 p4 p5 20 : Int))) ∨ (r5.toInt = s0.toInt + (tyN p1 p2 p3 p4 p5 20 : Int) ∧ TYK p1 p2 p3 p4 p5 20 ∧ s0.toInt + (tyN p1 p2 p3 p4 p5 20 : Int) ≤ 1200) := by
  rw [tyN_b, tyK_b]
  unfold TBH at *
  by_cases k1 : BK p1 4 <;> by_cases k2 : BK p2 4 <;> by_cases k3 : BK p3 4 <;> by_cases k4 : BK p4 4 <;> by_cases k5 : BK p5 4 <;> simp only [k1, k2, k3, k4, k5, not_true_eq_false, not_false_eq_true, true_and, false_and, and_true, and_false, and_self, false_or, true_or, or_false, or_true] at * <;> omega

theorem TYR_of {p1 p2 p3 p4 p5 s0 r1 r2 r3 r4 r5 s2 : Int32} (h0 : 0 ≤ s0.toInt) (t1 : TBH s0 p1 r1) (t2 : TBH r1 p2 r2) (t3 : TBH r2 p3 r3) (t4 : TBH r3 p4 r4) (t5 : TBH r4 p5 r5) (hs : (r5.toInt = -1 ∧ s2 = s0) ∨ (¬ r5.toInt = -1 ∧ s2 = r5)) : TYR p1 p2 p3 p4 p5 r5 s0 s2 := by
  rcases TBH_5 h0 t1 t2 t3 t4 t5 with ⟨a1, a2⟩ | ⟨a1, a2, a3⟩
  · rcases hs with ⟨b1, b2⟩ | ⟨b1, b2⟩
    · exact Or.inl ⟨a1, a2, b2⟩
    · exact absurd a1 b1
  · rcases hs with ⟨b1, b2⟩ | ⟨b1, b2⟩
    · omega
    · exact Or.inr ⟨a1, a2, a3, b2⟩
end
