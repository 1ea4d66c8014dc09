section
theorem cat_i (a : Int32) : (Value.int a).category = 1 := rfl
theorem cat_l (a : Int64) : (Value.long a).category = 2 := rfl
theorem vin_lt {y : Int32} {n : Nat} (h : vp_in y n) : y.toNatClampNeg < n := by
  have := vp_in_iff.mp h
  have := iv_cl (a := 0) (b := y.toInt) (x := y) ⟨this.1, Int.le_refl _⟩ (by decide)
  omega
theorem vin_w {y x : Int32} {n N : Nat} {h : Int} (hy : vp_in y n) (hx : iv 0 h x) (hq : (n : Int) * (h + 1) ≤ (N : Int)) : n * x.toNatClampNeg + y.toNatClampNeg < N := by
  have h1 := vin_lt hy
  have h2 := iv_cl hx (by decide)
  have h3 := hx.2
  have h4 : n * x.toNatClampNeg + n ≤ N := by
    have : (n : Int) * ((x.toNatClampNeg : Int) + 1) ≤ (n : Int) * (h + 1) := Int.mul_le_mul_of_nonneg_left (by omega) (by omega)
    have e : (n : Int) * ((x.toNatClampNeg : Int) + 1) = ((n * x.toNatClampNeg + n : Nat) : Int) := by
      rw [Int.mul_add, Int.mul_one]; simp
    omega
  omega
theorem iv_ch {n : Nat} (h : n < 65536) : iv 0 65535 (nI n) := ⟨by rw [nI_toInt (by omega)]; omega, by rw [nI_toInt (by omega)]; omega⟩
theorem iv_i2c (x : Int32) : iv 0 65535 ((x : Int32).toUInt32 % 65536).toInt32 := by rw [pk_char]; exact iv_ch (Nat.mod_lt _ (by decide))
theorem iv_nIx {a b : Int} {x : Int32} (h : iv a b x) (ha : 0 ≤ a) : nI x.toNatClampNeg = x := Int32.toInt_inj.mp (by
  have h1 := iv_cl h ha
  have h2 := h.2
  rw [nI_toInt (by have := x.toInt_lt; omega), h1])
theorem iv_ncr {v : Int32} (h : iv 0 65535 v) : narrow .char (.int v) = .int v := by
  have h1 := iv_cl h (by decide)
  have h2 := h.2
  rw [← iv_nIx h (by decide)]; exact (pk_charN (by omega)).1
theorem vnc {v : Int32} (h : iv 0 65535 v) : vp_nar .char v = v := by
  unfold vp_nar; rw [iv_ncr h]
theorem sw_all : wSw.all (fun v => decide (0 ≤ v.toInt) && decide (v.toInt ≤ 29)) = true := by decide
theorem sw_iv (y : Int32) : iv 0 29 (wSw.getD y.toNatClampNeg 0) := by
  rw [List.getD_eq_getElem?_getD]
  cases h : wSw[y.toNatClampNeg]? with
  | none => exact ⟨by decide, by decide⟩
  | some v =>
    have := List.all_eq_true.mp sw_all v (List.mem_of_getElem? h)
    simp at this
    exact ⟨this.1, this.2⟩
theorem we_inj {ad : Nat → Nat → Nat} {A : Nat → Prop} {s : State} (hG : CE ad A s) {i j : Nat} (hi : i < 34) (hj : j < 34) (h : ad 33 i = ad 33 j) : i = j := by
  obtain ⟨c1, k1, i1, f1, x1, a1, -, a3, -, a5, -⟩ := (hG.2.2.1.1 i hi).2.2.1
  obtain ⟨c2, k2, i2, f2, x2, b1, -, b3, -, b5, -⟩ := (hG.2.2.1.1 j hj).2.2.1
  rw [a1] at b1
  rw [h, b3] at a3
  cases b1; cases a3
  rw [b5] at a5
  have q := Value.int.inj (Option.some.inj a5)
  have q2 := congrArg Int32.toInt q
  rw [nI_toInt (by omega), nI_toInt (by omega)] at q2
  omega
theorem er_wd {ad : Nat → Nat → Nat} {A : Nat → Prop} {s : State} (hG : CE ad A s) {x y : Int32} (hx : iv (-1) 33 x) (hy : iv (-1) 33 y) (h : er (ad 33) x = er (ad 33) y) : x.toInt = y.toInt := by
  have x1 := hx.1; have x2 := hx.2; have y1 := hy.1; have y2 := hy.2
  by_cases a : x.toInt < 0
  · rw [er_none a] at h
    by_cases b : y.toInt < 0
    · omega
    · rw [er_some (by omega)] at h; cases h
  · rw [er_some (by omega)] at h
    by_cases b : y.toInt < 0
    · rw [er_none b] at h; cases h
    · rw [er_some (by omega)] at h
      have q1 := cl_0 (x := x) (by omega)
      have q2 := cl_0 (x := y) (by omega)
      have q := we_inj hG (i := x.toNatClampNeg) (j := y.toNatClampNeg) (by omega) (by omega) (Option.some.inj h)
      omega
theorem sw10a : ∀ n, n < 34 → 6 ≤ (wSw.getD n 0).toInt → (wSw.getD n 0).toInt ≤ 15 → (n : Int) = (wSw.getD n 0).toInt - 6 := by decide
theorem sw10 {y z : Int32} (hy : iv 0 33 y) (e : z = wSw.getD y.toNatClampNeg 0) (h6 : 6 ≤ z.toInt) (h15 : z.toInt ≤ 15) : y.toInt = z.toInt - 6 := by
  have q1 := iv_cl hy (by decide); have q2 := hy.2
  subst e
  have := sw10a y.toNatClampNeg (by omega) h6 h15
  omega
theorem swx {y z : Int32} (n : Nat) (v : Int) (hn : (wSw.getD n 0).toInt = v) (hy : iv 0 33 y) (e : z = wSw.getD y.toNatClampNeg 0) (h : ¬ z.toInt = v) : ¬ y.toInt = (n : Int) := fun q => by
  have q1 := iv_cl hy (by decide)
  rw [show y.toNatClampNeg = n by omega] at e
  rw [e] at h
  exact h hn
/-- an element stands in one with this word -/
def ISI (gm : Nat → Nat → Int32) (j : Nat) (a : Int32) : Prop := 0 ≤ (gm 15 j).toInt ∧ gm 14 (gm 15 j).toNatClampNeg = a
/-- an element bears an attribute with this key -/
def HSK (gm : Nat → Nat → Int32) (lg : Nat → Nat → Int64) (j : Nat) (k : Int64) : Prop := ∃ i, i < (gm 20 j).toNatClampNeg ∧ lg 0 ((gm 19 j).toNatClampNeg + i) = k
end
section
theorem dJx29ce0_ordinal_8abf5_0 : decode cJx29ce0_ordinal_8abf5 0 = .ok (.aload_n 0, 1) := by decide +kernel
theorem dJx29ce0_ordinal_8abf5_1 : decode cJx29ce0_ordinal_8abf5 1 = .ok (.getfield 7, 3) := by decide +kernel
theorem dJx29ce0_ordinal_8abf5_4 : decode cJx29ce0_ordinal_8abf5 4 = .ok (.ireturn, 1) := by decide +kernel
set_option maxHeartbeats 4000000 in
set_option maxRecDepth 100000 in
/-- a word's number -/
theorem k_ordinal (l : Launch) (q : Nat) (z : Int32) (B : Nat → Prop) (sz : Nat) : Met l yJx29ce0_ordinal_8abf5 wm_Jx29ce0_ordinal_8abf5 ({ frames := 0, cells := 0, slots := 0, locals := 0 }) (va_Pc [.ref q] (fun U => U.heap.size = sz ∧ va_OF "java/lang/Enum" "ordinal" "I" (.int z) q B U U.heap)) (va_Qi (fun (r : Int32) (_ : Unit) => r = z) (fun _ _ => True) (fun x => sz ≤ x)) 0 0 (fun x => sz ≤ x) := by
  refine Met.ofW (cc := cJx29ce0_ordinal_8abf5) (maxL := 1) (ret := (some .int)) (by decide) rfl ?_
  intro p e s m args below meth c s₁ B9 hml hv
  obtain ⟨rfl, hsz, hO⟩ := hv
  have hx := B9.exec
  have hb := B9.bytes
  have hr := B9.returns
  have hts := atoms_spec (ws := wm_Jx29ce0_ordinal_8abf5) B9.pre
  have htb := fun (w : Cond) (h : w ∈ tb) => hts w (List.mem_cons_of_mem _ h)
  have hown : s.vm.findClass RJx29ce0 = some m.cls := findClass_of_methodNamed B9.named
  have hlocks := B9.notSynchronized
  subst hsz
  have hS : va_S (fun x => s.heap.size ≤ x) s.heap s.heap [] := va_S.rf
  have hS2 : va_S B s.heap s.heap [] := va_S.rf
  have hl := lv_entry ([.ref q]) (n := 1) (Nat.le_of_ble_eq_true rfl)
  rw [lg_entry_eq]
  generalize (lg_sl ([.ref q]) ++ List.replicate (1 - (lg_sl ([.ref q])).length) Slot.unset).toArray = ls at hl ⊢
  have hl : lv_has ls 1 [(0, .ref q)] := hl
  refine lv_aload_n hx hb dJx29ce0_ordinal_8abf5_0 rfl (lv_at hl 0 rfl) ?_
  refine vk_getf hx hb hO hS2 hown (htb _ kw_525) (fun _ h9 => h9) dJx29ce0_ordinal_8abf5_1 ?_
  exact W.iret (v := z) hx hb hr (fun t ht hW => ⟨⟨z, (), rfl, rfl, trivial⟩, hS.F ht⟩) hS.2.2 dJx29ce0_ordinal_8abf5_4
theorem gd_U {own C owner : String} {idx : Nat} {x y : MethodName} {w : Cond} (h1 : Cond.methodLink own idx x ∈ tb) (h2 : Cond.sameMethod x.cls owner x.name x.desc ∈ tb) (h3 : Cond.selects C x y ∈ tb) (h4 : Cond.instanceMethod y ∈ tb) (h5 : Cond.initialized y.cls ∈ tb) (h6 : w ∈ tb) : GoodIn tb (va_wsU own idx C owner x y (w :: tb)) := by
  intro v hv
  unfold va_wsU at hv
  rcases List.mem_append.mp hv with h | h
  · simp only [List.mem_cons, List.not_mem_nil, or_false] at h
    rcases h with rfl | rfl | rfl | rfl | rfl
    · exact tb_good _ h1
    · exact tb_good _ h2
    · exact tb_good _ h3
    · exact tb_good _ h4
    · exact tb_good _ h5
  · exact gd_c h6 v h
section ORD
variable {p : Program} {l : Launch} {e : Env} {R : Room} {s : State} {m : MethodId} {args : Array Value} {below : List Frame} {meth : Method} {c : Code} {H : Heap} {locs : List Loc} {Q : State → Prop} {cc : ByteArray} {pc : Nat} {ls : Array Slot} {rest : List Value} {A : Nat → Prop}
variable {dC : Nat → ClassId} {dI : Nat → Nat → Nat} {ad : Nat → Nat → Nat} {cid : Nat → ClassId} {a2 : Nat → Nat} {lx : List Nat} {sg : Nat → Int32} {gm : Nat → Nat → Int32} {lg : Nat → Nat → Int64} {own : String} {index nL : Nat} {cells slots : Nat}
theorem cw_ord {x : Int32} (S : CallFix p m c cc nL s args tb own) (hlk : Cond.methodLink own index ⟨"WiredBeans$Word", "ordinal", "()I"⟩ ∈ tb) (hx : iv 0 33 x) (hsize : ls.size = nL) (hW : (rest.map fun v => v.category).sum ≤ 8) (hdg : decode cc pc = .ok (.invokevirtual index, 3)) (hf : cells ≤ R.cells ∧ slots ≤ R.slots) (hR : 1 ≤ R.frames ∧ 20 ≤ R.locals) (hP : va_P (dC, dI) vwCl (cW ad cid a2 lx sg gm lg) H) (hD : va_D A (cW ad cid a2 lx sg gm lg)) (hS : va_S A s.heap H locs) (hA : ∀ q, s.heap.size ≤ q → A q) (hG : CE ad A s)
    (kk : ∀ (H1 : Heap) (locs1 : List Loc), va_P (dC, dI) vwCl (cW ad cid a2 lx sg gm lg) H1 → va_S A s.heap H1 locs1 → W p l e R s m args below meth c H1 locs1 cells slots Q (F0 m (pc + 3) ls (.int x :: rest))) : W p l e R s m args below meth c H locs cells slots Q (F0 m pc ls (eV (ad 33) x :: rest)) := by
  have h34 : x.toNatClampNeg < 34 := by have := iv_cl hx (by decide); have := hx.2; omega
  have hw9 := hG.2.2.1.1 x.toNatClampNeg h34
  rw [iv_nI hx (by decide)] at hw9
  rw [eV_ref hx.1]
  have hFc : ∀ q, H.size ≤ q → A q := fun q h => hA q (Nat.le_trans hS.1 h)
  obtain ⟨cell, g1, g2, g3, g4⟩ := hw9.2.1.kept hS.2.1
  refine va_calli (va_runU (cells := cells) (slots := slots) (As := []) (rest := rest) (x := ⟨"WiredBeans$Word", "ordinal", "()I"⟩) (C := "WiredBeans$Word") (owner := "java/lang/Enum") S (k_ordinal l (ad 33 x.toNatClampNeg) x A H.size) (va_cwU 0 S.2.2.2.2 (gd_U hlk kw_521 kw_522 kw_523 kw_524 kw_1461) rfl rfl rfl rfl (by decide +kernel) ⟨hR.1, hR.2⟩) ⟨fun a U g mk q => by obtain ⟨q0, q1, qO⟩ := q; exact ⟨q0, q1, va_OF.moved (u := U) (U := U.calling g mk a) (Vm.Alike.refl U.vm) qO⟩, ⟨cell, g1, g2, g3⟩, fun U hU hW9 => ⟨rfl, by rw [hU], by rw [hU]; exact va_OF.moved hW9.alike (hw9.2.2.1.kept hS.2.1)⟩⟩ rfl rfl hsize rfl (lv_room hW) hdg ⟨by omega, by omega⟩) hS (fun q _ h => hFc q h) hFc (fun r u t H1 locs1 ht hvm hw hB hz1 hk1 hS1 => ?_)
  subst hw
  exact kk H1 locs1 (hP.kept (fun k q hq => hk1 _ (vx_lt hP hq) (Nat.not_le.mpr (vx_lt hP hq)))) hS1
end ORD
end
section
theorem dJ0_coder_7d493_0 : decode cJ0_coder_7d493 0 = .ok (.getstatic 38, 3) := by decide +kernel
theorem dJ0_coder_7d493_3 : decode cJ0_coder_7d493 3 = .ok (.ifCond .eq 10, 3) := by decide +kernel
theorem dJ0_coder_7d493_6 : decode cJ0_coder_7d493 6 = .ok (.aload_n 0, 1) := by decide +kernel
theorem dJ0_coder_7d493_7 : decode cJ0_coder_7d493 7 = .ok (.getfield 15, 3) := by decide +kernel
theorem dJ0_coder_7d493_10 : decode cJ0_coder_7d493 10 = .ok (.goto 4, 3) := by decide +kernel
theorem dJ0_coder_7d493_14 : decode cJ0_coder_7d493 14 = .ok (.ireturn, 1) := by decide +kernel
theorem dJ0_isLatin1_aae02_0 : decode cJ0_isLatin1_aae02 0 = .ok (.getstatic 38, 3) := by decide +kernel
theorem dJ0_isLatin1_aae02_3 : decode cJ0_isLatin1_aae02 3 = .ok (.ifCond .eq 14, 3) := by decide +kernel
theorem dJ0_isLatin1_aae02_6 : decode cJ0_isLatin1_aae02 6 = .ok (.aload_n 0, 1) := by decide +kernel
theorem dJ0_isLatin1_aae02_7 : decode cJ0_isLatin1_aae02 7 = .ok (.getfield 15, 3) := by decide +kernel
theorem dJ0_isLatin1_aae02_10 : decode cJ0_isLatin1_aae02 10 = .ok (.ifCond .ne 7, 3) := by decide +kernel
theorem dJ0_isLatin1_aae02_13 : decode cJ0_isLatin1_aae02 13 = .ok (.iconst 1, 1) := by decide +kernel
theorem dJ0_isLatin1_aae02_14 : decode cJ0_isLatin1_aae02 14 = .ok (.goto 4, 3) := by decide +kernel
theorem dJ0_isLatin1_aae02_18 : decode cJ0_isLatin1_aae02 18 = .ok (.ireturn, 1) := by decide +kernel
theorem dJ0_length_8abf5_0 : decode cJ0_length_8abf5 0 = .ok (.aload_n 0, 1) := by decide +kernel
theorem dJ0_length_8abf5_1 : decode cJ0_length_8abf5 1 = .ok (.getfield 9, 3) := by decide +kernel
theorem dJ0_length_8abf5_4 : decode cJ0_length_8abf5 4 = .ok (.arraylength, 1) := by decide +kernel
theorem dJ0_length_8abf5_5 : decode cJ0_length_8abf5 5 = .ok (.aload_n 0, 1) := by decide +kernel
theorem dJ0_length_8abf5_6 : decode cJ0_length_8abf5 6 = .ok (.invokevirtual 335, 3) := by decide +kernel
theorem dJ0_length_8abf5_9 : decode cJ0_length_8abf5 9 = .ok (.ishr, 1) := by decide +kernel
theorem dJ0_length_8abf5_10 : decode cJ0_length_8abf5 10 = .ok (.ireturn, 1) := by decide +kernel
theorem dJ3_checkIndex_8e157_0 : decode cJ3_checkIndex_8e157 0 = .ok (.iload_n 0, 1) := by decide +kernel
theorem dJ3_checkIndex_8e157_1 : decode cJ3_checkIndex_8e157 1 = .ok (.ifCond .lt 8, 3) := by decide +kernel
theorem dJ3_checkIndex_8e157_4 : decode cJ3_checkIndex_8e157 4 = .ok (.iload_n 0, 1) := by decide +kernel
theorem dJ3_checkIndex_8e157_5 : decode cJ3_checkIndex_8e157 5 = .ok (.iload_n 1, 1) := by decide +kernel
theorem dJ3_checkIndex_8e157_6 : decode cJ3_checkIndex_8e157 6 = .ok (.if_icmp .lt 10, 3) := by decide +kernel
theorem dJ3_checkIndex_8e157_16 : decode cJ3_checkIndex_8e157 16 = .ok (.iload_n 0, 1) := by decide +kernel
theorem dJ3_checkIndex_8e157_17 : decode cJ3_checkIndex_8e157 17 = .ok (.ireturn, 1) := by decide +kernel
theorem dJ0_checkIndex_df160_0 : decode cJ0_checkIndex_df160 0 = .ok (.iload_n 0, 1) := by decide +kernel
theorem dJ0_checkIndex_df160_1 : decode cJ0_checkIndex_df160 1 = .ok (.iload_n 1, 1) := by decide +kernel
theorem dJ0_checkIndex_df160_2 : decode cJ0_checkIndex_df160 2 = .ok (.getstatic 1053, 3) := by decide +kernel
theorem dJ0_checkIndex_df160_5 : decode cJ0_checkIndex_df160 5 = .ok (.invokestatic 1059, 3) := by decide +kernel
theorem dJ0_checkIndex_df160_8 : decode cJ0_checkIndex_df160 8 = .ok (.pop, 1) := by decide +kernel
theorem dJ0_checkIndex_df160_9 : decode cJ0_checkIndex_df160 9 = .ok (.return_, 1) := by decide +kernel
theorem dJ1_charAt_3b067_0 : decode cJ1_charAt_3b067 0 = .ok (.iload_n 1, 1) := by decide +kernel
theorem dJ1_charAt_3b067_1 : decode cJ1_charAt_3b067 1 = .ok (.aload_n 0, 1) := by decide +kernel
theorem dJ1_charAt_3b067_2 : decode cJ1_charAt_3b067 2 = .ok (.arraylength, 1) := by decide +kernel
theorem dJ1_charAt_3b067_3 : decode cJ1_charAt_3b067 3 = .ok (.invokestatic 9, 3) := by decide +kernel
theorem dJ1_charAt_3b067_6 : decode cJ1_charAt_3b067 6 = .ok (.aload_n 0, 1) := by decide +kernel
theorem dJ1_charAt_3b067_7 : decode cJ1_charAt_3b067 7 = .ok (.iload_n 1, 1) := by decide +kernel
theorem dJ1_charAt_3b067_8 : decode cJ1_charAt_3b067 8 = .ok (.baload, 1) := by decide +kernel
theorem dJ1_charAt_3b067_9 : decode cJ1_charAt_3b067 9 = .ok (.sipush 255, 3) := by decide +kernel
theorem dJ1_charAt_3b067_12 : decode cJ1_charAt_3b067 12 = .ok (.iand, 1) := by decide +kernel
theorem dJ1_charAt_3b067_13 : decode cJ1_charAt_3b067 13 = .ok (.i2c, 1) := by decide +kernel
theorem dJ1_charAt_3b067_14 : decode cJ1_charAt_3b067 14 = .ok (.ireturn, 1) := by decide +kernel
theorem dJ0_charAt_5068e_0 : decode cJ0_charAt_5068e 0 = .ok (.aload_n 0, 1) := by decide +kernel
theorem dJ0_charAt_5068e_1 : decode cJ0_charAt_5068e 1 = .ok (.invokevirtual 492, 3) := by decide +kernel
theorem dJ0_charAt_5068e_4 : decode cJ0_charAt_5068e 4 = .ok (.ifCond .eq 12, 3) := by decide +kernel
theorem dJ0_charAt_5068e_7 : decode cJ0_charAt_5068e 7 = .ok (.aload_n 0, 1) := by decide +kernel
theorem dJ0_charAt_5068e_8 : decode cJ0_charAt_5068e 8 = .ok (.getfield 9, 3) := by decide +kernel
theorem dJ0_charAt_5068e_11 : decode cJ0_charAt_5068e 11 = .ok (.iload_n 1, 1) := by decide +kernel
theorem dJ0_charAt_5068e_12 : decode cJ0_charAt_5068e 12 = .ok (.invokestatic 495, 3) := by decide +kernel
theorem dJ0_charAt_5068e_15 : decode cJ0_charAt_5068e 15 = .ok (.ireturn, 1) := by decide +kernel
theorem SQ.call {q v n : Nat} {f : Nat → Int32} {A : Nat → Prop} {U : State} (g : JFrame) (mk : MethodId) (a : Array Value) (h : SQ q v n f A U U.heap) : SQ q v n f A (U.calling g mk a) (U.calling g mk a).heap := SQ.moved (u := U) (U := U.calling g mk a) (Vm.Alike.refl U.vm) h
/-- what a method on a text meets -/
def SP (q v n : Nat) (f : Nat → Int32) (B : Nat → Prop) (sz : Nat) (U : State) : Prop := U.heap.size = sz ∧ SQ q v n f B U U.heap ∧ ∀ x, sz ≤ x → B x
theorem SP_blind {as : List Value} {q v n : Nat} {f : Nat → Int32} {B : Nat → Prop} {sz : Nat} : FrameBlind (va_Pc as (SP q v n f B sz)) := fun a U g mk z => ⟨z.1, z.2.1, SQ.call g mk a z.2.2.1, z.2.2.2⟩
theorem S_B {B : Nat → Prop} {H0 H : Heap} {locs : List Loc} (hS : va_S (fun x => H0.size ≤ x) H0 H locs) (hB : ∀ x, H0.size ≤ x → B x) : va_S B H0 H locs := ⟨hS.1, fun q h1 h2 => hS.2.1 q h1 (fun z => h2 (hB q z)), fun z hz => hB _ (hS.2.2 z hz)⟩
theorem S_z {B : Nat → Prop} {H0 H : Heap} {locs : List Loc} (hS : va_S (fun x => H0.size ≤ x) H0 H locs) (hB : ∀ x, H0.size ≤ x → B x) : ∀ x, H.size ≤ x → B x := fun x h => hB x (Nat.le_trans hS.1 h)
theorem va_Orc {E : String} {q : Nat} {A : Nat → Prop} {s : State} {H : Heap} {locs : List Loc} (h : va_O E q A s s.heap) (hS : va_S A s.heap H locs) : ∃ cell : Cell, H[q]? = some cell ∧ cell.vm.isStatics = false ∧ s.vm.findClass E = some cell.cls := by
  obtain ⟨cell, h1, h2, h3, _⟩ := h.kept hS.2.1
  exact ⟨cell, h1, h2, h3⟩

set_option maxHeartbeats 4000000 in
set_option maxRecDepth 100000 in
theorem k_coder (l : Launch) (q v n : Nat) (f : Nat → Int32) (B : Nat → Prop) (sz : Nat) : Met l yJ0_coder_7d493 wm_J0_coder_7d493 ({ frames := 0, cells := 0, slots := 0, locals := 0 }) (va_Pc [.ref q] (SP q v n f B sz)) (va_Qi (fun (r : Int32) (_ : Unit) => r = 0) (fun _ _ => True) (fun x => sz ≤ x)) 0 0 (fun x => sz ≤ x) := by
  refine Met.ofW (cc := cJ0_coder_7d493) (maxL := 1) (ret := (some .byte)) (by decide) rfl ?_
  intro p e s m args below meth c s₁ B9 hml hv
  obtain ⟨rfl, hsz, hQ, hB⟩ := hv
  have hx := B9.exec
  have hb := B9.bytes
  have hr := B9.returns
  have hts := atoms_spec (ws := wm_J0_coder_7d493) B9.pre
  have htb := fun (w : Cond) (h : w ∈ tb) => hts w (List.mem_cons_of_mem _ h)
  have hown : s.vm.findClass RJ0 = some m.cls := findClass_of_methodNamed B9.named
  have hlocks := B9.notSynchronized
  subst hsz
  have hS : va_S (fun x => s.heap.size ≤ x) s.heap s.heap [] := va_S.rf
  have hl := lv_entry ([.ref q]) (n := 1) (Nat.le_of_ble_eq_true rfl)
  rw [lg_entry_eq]
  generalize (lg_sl ([.ref q]) ++ List.replicate (1 - (lg_sl ([.ref q])).length) Slot.unset).toArray = ls at hl ⊢
  have hl : lv_has ls 1 [(0, .ref q)] := hl
  refine va_gets hx hb hQ.2.2.2.2.1 (S_B hS hB) hown (htb _ kw_439) (fun _ h9 => h9) dJ0_coder_7d493_0 ?_
  refine lv_if_eq (tgt := 13) hx hb dJ0_coder_7d493_3 (by decide) (fun c1 => absurd c1 (by decide)) (fun _ => ?_)
  refine lv_aload_n hx hb dJ0_coder_7d493_6 rfl (lv_at hl 0 rfl) ?_
  refine vk_getf hx hb hQ.2.1 (S_B hS hB) hown (htb _ kw_440) (fun _ h9 => h9) dJ0_coder_7d493_7 ?_
  refine lv_goto (tgt := 14) hx hb dJ0_coder_7d493_10 (by decide) ?_
  exact W.zret (v := 0) hx hb hr rfl (fun t ht hW => ⟨⟨0, (), rfl, rfl, trivial⟩, hS.F ht⟩) hS.2.2 dJ0_coder_7d493_14

set_option maxHeartbeats 4000000 in
set_option maxRecDepth 100000 in
theorem k_isLatin1 (l : Launch) (q v n : Nat) (f : Nat → Int32) (B : Nat → Prop) (sz : Nat) : Met l yJ0_isLatin1_aae02 wm_J0_isLatin1_aae02 ({ frames := 0, cells := 0, slots := 0, locals := 0 }) (va_Pc [.ref q] (SP q v n f B sz)) (va_Qi (fun (r : Int32) (_ : Unit) => r = 1) (fun _ _ => True) (fun x => sz ≤ x)) 0 0 (fun x => sz ≤ x) := by
  refine Met.ofW (cc := cJ0_isLatin1_aae02) (maxL := 1) (ret := (some .boolean)) (by decide) rfl ?_
  intro p e s m args below meth c s₁ B9 hml hv
  obtain ⟨rfl, hsz, hQ, hB⟩ := hv
  have hx := B9.exec
  have hb := B9.bytes
  have hr := B9.returns
  have hts := atoms_spec (ws := wm_J0_isLatin1_aae02) B9.pre
  have htb := fun (w : Cond) (h : w ∈ tb) => hts w (List.mem_cons_of_mem _ h)
  have hown : s.vm.findClass RJ0 = some m.cls := findClass_of_methodNamed B9.named
  have hlocks := B9.notSynchronized
  subst hsz
  have hS : va_S (fun x => s.heap.size ≤ x) s.heap s.heap [] := va_S.rf
  have hl := lv_entry ([.ref q]) (n := 1) (Nat.le_of_ble_eq_true rfl)
  rw [lg_entry_eq]
  generalize (lg_sl ([.ref q]) ++ List.replicate (1 - (lg_sl ([.ref q])).length) Slot.unset).toArray = ls at hl ⊢
  have hl : lv_has ls 1 [(0, .ref q)] := hl
  refine va_gets hx hb hQ.2.2.2.2.1 (S_B hS hB) hown (htb _ kw_439) (fun _ h9 => h9) dJ0_isLatin1_aae02_0 ?_
  refine lv_if_eq (tgt := 17) hx hb dJ0_isLatin1_aae02_3 (by decide) (fun c1 => absurd c1 (by decide)) (fun _ => ?_)
  refine lv_aload_n hx hb dJ0_isLatin1_aae02_6 rfl (lv_at hl 0 rfl) ?_
  refine vk_getf hx hb hQ.2.1 (S_B hS hB) hown (htb _ kw_440) (fun _ h9 => h9) dJ0_isLatin1_aae02_7 ?_
  refine lv_if_ne (tgt := 17) hx hb dJ0_isLatin1_aae02_10 (by decide) (fun c1 => absurd rfl c1) (fun _ => ?_)
  refine lv_iconst (v := 1) hx hb dJ0_isLatin1_aae02_13 (by decide) ?_
  refine lv_goto (tgt := 18) hx hb dJ0_isLatin1_aae02_14 (by decide) ?_
  exact W.zret (v := 1) hx hb hr rfl (fun t ht hW => ⟨⟨1, (), rfl, rfl, trivial⟩, hS.F ht⟩) hS.2.2 dJ0_isLatin1_aae02_18

set_option maxHeartbeats 4000000 in
set_option maxRecDepth 100000 in
theorem k_slen (l : Launch) (q v n : Nat) (f : Nat → Int32) (B : Nat → Prop) (sz : Nat) : Met l yJ0_length_8abf5 wm_J0_length_8abf5 ({ frames := 1, cells := 0, slots := 0, locals := 20 }) (va_Pc [.ref q] (SP q v n f B sz)) (va_Qi (fun (r : Int32) (_ : Unit) => r = nI n >>> ((0 : Int32) &&& 31)) (fun _ _ => True) (fun x => sz ≤ x)) 0 0 (fun x => sz ≤ x) := by
  refine Met.ofW (cc := cJ0_length_8abf5) (maxL := 1) (ret := (some .int)) (by decide) rfl ?_
  intro p e s m args below meth c s₁ B9 hml hv
  obtain ⟨rfl, hsz, hQ, hB⟩ := hv
  have hx := B9.exec
  have hb := B9.bytes
  have hr := B9.returns
  have hts := atoms_spec (ws := wm_J0_length_8abf5) B9.pre
  have htb := fun (w : Cond) (h : w ∈ tb) => hts w (List.mem_cons_of_mem _ h)
  have hown : s.vm.findClass RJ0 = some m.cls := findClass_of_methodNamed B9.named
  have hlocks := B9.notSynchronized
  subst hsz
  have hS : va_S (fun x => s.heap.size ≤ x) s.heap s.heap [] := va_S.rf
  have hl := lv_entry ([.ref q]) (n := 1) (Nat.le_of_ble_eq_true rfl)
  rw [lg_entry_eq]
  generalize (lg_sl ([.ref q]) ++ List.replicate (1 - (lg_sl ([.ref q])).length) Slot.unset).toArray = ls at hl ⊢
  have hl : lv_has ls 1 [(0, .ref q)] := hl
  refine lv_aload_n hx hb dJ0_length_8abf5_0 rfl (lv_at hl 0 rfl) ?_
  refine vk_getf hx hb hQ.2.2.1 (S_B hS hB) hown (htb _ kw_435) (fun _ h9 => h9) dJ0_length_8abf5_1 ?_
  refine va_tlen hx hb hQ.2.2.2.1 (S_B hS hB) rfl dJ0_length_8abf5_4 ?_
  refine lv_aload_n hx hb dJ0_length_8abf5_5 rfl (lv_at hl 0 rfl) ?_
  refine va_calli (va_runV (As := []) (rest := [.int (Int32.ofNat n)]) ⟨hx, hb, hml, hown, htb⟩ (k_coder l q v n f B s.heap.size) (cwV 0 htb (gd_V kw_436 kw_437 kw_438 kw_434 kw_1438) rfl rfl rfl (by decide +kernel) ⟨Nat.le_of_ble_eq_true rfl, Nat.le_of_ble_eq_true rfl⟩) ⟨SP_blind, va_Orc hQ.1 (S_B hS hB), fun U hU hW => ⟨rfl, by rw [hU], by rw [hU]; exact SQ.moved hW.alike (hQ.kept (S_B hS hB).2.1), S_z hS hB⟩⟩ rfl rfl hl.1 rfl (lv_room (Nat.le_of_ble_eq_true rfl)) dJ0_length_8abf5_6 ⟨Nat.zero_le _, Nat.zero_le _⟩) hS (fun q9 h1 h => Nat.le_trans hS.1 h) (fun q9 h => Nat.le_trans hS.1 h) (fun r u t H1 locs1 ht hvm hw hB9 hz1 hk1 hS => ?_)
  subst hw
  refine lv_ishr hx hb dJ0_length_8abf5_9 ?_
  exact W.iret (v := Int32.ofNat n >>> ((0 : Int32) &&& 31)) hx hb hr (fun t ht hW => ⟨⟨_, (), rfl, rfl, trivial⟩, hS.F ht⟩) hS.2.2 dJ0_length_8abf5_10

set_option maxHeartbeats 4000000 in
set_option maxRecDepth 100000 in
theorem k_pchk (l : Launch) (q v n : Nat) (f : Nat → Int32) (B : Nat → Prop) (sz : Nat) (i j : Int32) (fv : Value) (hf9 : fv = .null ∨ ∃ a, fv = .ref a) (hi : 0 ≤ i.toInt) (hj : i.toInt < j.toInt) : Met l yJ3_checkIndex_8e157 wm_J3_checkIndex_8e157 ({ frames := 0, cells := 0, slots := 0, locals := 0 }) (va_Pc [.int i, .int j, fv] (SP q v n f B sz)) (va_Qi (fun (r : Int32) (_ : Unit) => r = i) (fun _ _ => True) (fun x => sz ≤ x)) 0 0 (fun x => sz ≤ x) := by
  refine Met.ofW (cc := cJ3_checkIndex_8e157) (maxL := 3) (ret := (some .int)) (by decide) rfl ?_
  intro p e s m args below meth c s₁ B9 hml hv
  obtain ⟨rfl, hsz, hQ, hB⟩ := hv
  have hx := B9.exec
  have hb := B9.bytes
  have hr := B9.returns
  have hts := atoms_spec (ws := wm_J3_checkIndex_8e157) B9.pre
  have htb := fun (w : Cond) (h : w ∈ tb) => hts w (List.mem_cons_of_mem _ h)
  have hown : s.vm.findClass RJ3 = some m.cls := findClass_of_methodNamed B9.named
  have hlocks := B9.notSynchronized
  subst hsz
  have hS : va_S (fun x => s.heap.size ≤ x) s.heap s.heap [] := va_S.rf
  have hcat : fv.category = 1 := by rcases hf9 with h | ⟨a, h⟩ <;> rw [h] <;> rfl
  have hl := lv_entry ([.int i, .int j, fv]) (n := 3) (by simp [lg_sl, hcat, cat_i])
  rw [lg_entry_eq]
  generalize (lg_sl ([.int i, .int j, fv]) ++ List.replicate (3 - (lg_sl ([.int i, .int j, fv])).length) Slot.unset).toArray = ls at hl ⊢
  have hl : lv_has ls 3 [(0, .int i), (1, .int j), (2, fv)] := by simp [lv_args, hcat, cat_i] at hl; exact hl
  have hi0 : ¬ i < 0 := fun c1 => by have := Int32.lt_iff_toInt_lt.mp c1; have := i32_0; omega
  have hij : i < j := Int32.lt_iff_toInt_lt.mpr hj
  refine lv_iload_n hx hb dJ3_checkIndex_8e157_0 rfl (lv_at hl 0 rfl) ?_
  refine lv_if_lt (tgt := 9) hx hb dJ3_checkIndex_8e157_1 (by decide) (fun c1 => absurd c1 hi0) (fun _ => ?_)
  refine lv_iload_n hx hb dJ3_checkIndex_8e157_4 rfl (lv_at hl 0 rfl) ?_
  refine lv_iload_n hx hb dJ3_checkIndex_8e157_5 rfl (lv_at hl 1 rfl) ?_
  refine lv_icmp_lt (tgt := 16) hx hb dJ3_checkIndex_8e157_6 (by decide) (fun _ => ?_) (fun c1 => absurd hij c1)
  refine lv_iload_n hx hb dJ3_checkIndex_8e157_16 rfl (lv_at hl 0 rfl) ?_
  exact W.iret (v := i) hx hb hr (fun t ht hW => ⟨⟨_, (), rfl, rfl, trivial⟩, hS.F ht⟩) hS.2.2 dJ3_checkIndex_8e157_17

theorem va_Zq.val {C n d : String} {A : Nat → Prop} {U : State} {H : Heap} (h : va_Zq C n d A U H) : ∃ v : Value, va_Z C n d v A U H ∧ (v = .null ∨ ∃ a, v = .ref a) := by
  rcases h with h | ⟨t, h⟩
  · exact ⟨_, h, Or.inl rfl⟩
  · exact ⟨_, h, Or.inr ⟨t, rfl⟩⟩

set_option maxHeartbeats 4000000 in
set_option maxRecDepth 100000 in
theorem k_schk (l : Launch) (q v n : Nat) (f : Nat → Int32) (B : Nat → Prop) (sz : Nat) (i j : Int32) (hi : 0 ≤ i.toInt) (hj : i.toInt < j.toInt) : Met l yJ0_checkIndex_df160 wm_J0_checkIndex_df160 ({ frames := 1, cells := 0, slots := 0, locals := 22 }) (va_Pc [.int i, .int j] (SP q v n f B sz)) (va_Qv (fun _ : Unit => True) (fun _ _ => True) (fun x => sz ≤ x)) 0 0 (fun x => sz ≤ x) := by
  refine Met.ofW (cc := cJ0_checkIndex_df160) (maxL := 2) (ret := none) (by decide) rfl ?_
  intro p e s m args below meth c s₁ B9 hml hv
  obtain ⟨rfl, hsz, hQ, hB⟩ := hv
  have hx := B9.exec
  have hb := B9.bytes
  have hr := B9.returns
  have hts := atoms_spec (ws := wm_J0_checkIndex_df160) B9.pre
  have htb := fun (w : Cond) (h : w ∈ tb) => hts w (List.mem_cons_of_mem _ h)
  have hown : s.vm.findClass RJ0 = some m.cls := findClass_of_methodNamed B9.named
  have hlocks := B9.notSynchronized
  subst hsz
  have hS : va_S (fun x => s.heap.size ≤ x) s.heap s.heap [] := va_S.rf
  have hl := lv_entry ([.int i, .int j]) (n := 2) (Nat.le_of_ble_eq_true rfl)
  rw [lg_entry_eq]
  generalize (lg_sl ([.int i, .int j]) ++ List.replicate (2 - (lg_sl ([.int i, .int j])).length) Slot.unset).toArray = ls at hl ⊢
  have hl : lv_has ls 2 [(0, .int i), (1, .int j)] := hl
  obtain ⟨fv, hZ, hf9⟩ := hQ.2.2.2.2.2.val
  refine lv_iload_n hx hb dJ0_checkIndex_df160_0 rfl (lv_at hl 0 rfl) ?_
  refine lv_iload_n hx hb dJ0_checkIndex_df160_1 rfl (lv_at hl 1 rfl) ?_
  refine va_gets hx hb hZ (S_B hS hB) hown (htb _ kw_452) (fun _ h9 => h9) dJ0_checkIndex_df160_2 ?_
  refine va_calli (va_runS (As := [.int i, .int j, fv]) (rest := []) ⟨hx, hb, hml, hown, htb⟩ (k_pchk l q v n f B s.heap.size i j fv hf9 hi hj) (va_cwS 3 htb (gd_S kw_453 kw_454 kw_455 kw_1443) rfl rfl rfl (by decide +kernel) ⟨Nat.le_of_ble_eq_true rfl, Nat.le_of_ble_eq_true rfl⟩) ⟨SP_blind, fun U hU hW => ⟨rfl, by rw [hU], by rw [hU]; exact SQ.moved hW.alike (hQ.kept (S_B hS hB).2.1), S_z hS hB⟩⟩ rfl rfl hl.1 rfl (lv_room (Nat.le_of_ble_eq_true rfl)) dJ0_checkIndex_df160_5 ⟨Nat.zero_le _, Nat.zero_le _⟩) hS (fun q9 h1 h => Nat.le_trans hS.1 h) (fun q9 h => Nat.le_trans hS.1 h) (fun r u t H1 locs1 ht hvm hw hB9 hz1 hk1 hS => ?_)
  refine lv_pop hx hb dJ0_checkIndex_df160_8 rfl ?_
  exact W.vret hx hb hr (fun t ht hW => ⟨⟨(), rfl, trivial, trivial⟩, hS.F ht⟩) hS.2.2 dJ0_checkIndex_df160_9

theorem sb_len : ∀ k, k < 7 → 2 ≤ (sByt.getD k []).length ∧ (sByt.getD k []).length ≤ 5 := by decide
section STRR
variable {p : Program} {l : Launch} {e : Env} {R : Room} {s : State} {m : MethodId} {args : Array Value} {below : List Frame} {meth : Method} {c : Code} {H : Heap} {locs : List Loc} {Q : State → Prop} {cc : ByteArray} {pc : Nat} {ls : Array Slot} {rest : List Value} {A : Nat → Prop}
variable {dC : Nat → ClassId} {dI : Nat → Nat → Nat} {ad : Nat → Nat → Nat} {cid : Nat → ClassId} {a2 : Nat → Nat} {lx : List Nat} {sg : Nat → Int32} {gm : Nat → Nat → Int32} {lg : Nat → Nat → Int64} {own : String} {index nL : Nat} {cells slots : Nat}
theorem c7 {x : Int32} (hx : iv 0 6 x) : x.toNatClampNeg < 7 := by have := iv_cl hx (by decide); have := hx.2; omega
/-- a text as a constant -/
theorem cw_str {k : Nat} {kx : Int32} (hexec : p.tables.exec = Jvm.exec) (hb : c.code = cc) (hG : CE ad A s) (hk : k < 7) (hkx : kx.toNatClampNeg = k ∧ 0 ≤ kx.toInt) (hown : s.vm.findClass (sOwn.getD k "") = some m.cls) (hdg : decode cc pc = .ok (.ldc (sEnt.getD k 0), 2))
    (kk : W p l e R s m args below meth c H locs cells slots Q (F0 m (pc + 2) ls (eV (ad 37) kx :: rest))) : W p l e R s m args below meth c H locs cells slots Q (F0 m pc ls rest) := by
  rw [eV_ref hkx.2, hkx.1] at kk
  exact va_ldcS hexec hb hown (hG.2.2.2.2 k hk) hdg kk
theorem cw_slen {x : Int32} (S : CallFix p m c cc nL s args tb own) (hlk : Cond.methodLink own index yJ0_length_8abf5 ∈ tb) (hx : iv 0 6 x) (hsize : ls.size = nL) (hW : (rest.map fun v => v.category).sum ≤ 8) (hdg : decode cc pc = .ok (.invokevirtual index, 3)) (hf : cells ≤ R.cells ∧ slots ≤ R.slots) (hR : 2 ≤ R.frames ∧ 40 ≤ R.locals) (hP : va_P (dC, dI) vwCl (cW ad cid a2 lx sg gm lg) H) (hS : va_S A s.heap H locs) (hA : ∀ q, s.heap.size ≤ q → A q) (hG : CE ad A s)
    (kk : ∀ (H1 : Heap) (locs1 : List Loc), va_P (dC, dI) vwCl (cW ad cid a2 lx sg gm lg) H1 → va_S A s.heap H1 locs1 → W p l e R s m args below meth c H1 locs1 cells slots Q (F0 m (pc + 3) ls (.int (nI ((sByt.getD x.toNatClampNeg []).length) >>> ((0 : Int32) &&& 31)) :: rest))) : W p l e R s m args below meth c H locs cells slots Q (F0 m pc ls (eV (ad 37) x :: rest)) := by
  have hq9 := hG.2.2.2.1 x.toNatClampNeg (c7 hx)
  rw [eV_ref hx.1]
  have hFc : ∀ q, H.size ≤ q → A q := fun q h => hA q (Nat.le_trans hS.1 h)
  refine va_calli (va_runV (cells := cells) (slots := slots) (As := []) (rest := rest) S (k_slen l (ad 37 x.toNatClampNeg) (ad 38 x.toNatClampNeg) _ _ A H.size) (cwV 0 S.2.2.2.2 (gd_V hlk kw_432 kw_433 kw_434 kw_1437) rfl rfl rfl (by decide +kernel) ⟨hR.1, hR.2⟩) ⟨SP_blind, va_Orc hq9.1 hS, fun U hU hW9 => ⟨rfl, by rw [hU], by rw [hU]; exact SQ.moved hW9.alike (hq9.kept hS.2.1), hFc⟩⟩ rfl rfl hsize rfl (lv_room hW) hdg ⟨by omega, by omega⟩) hS (fun q _ h => hFc q h) hFc (fun r u t H1 locs1 ht hvm hw hB hz1 hk1 hS1 => ?_)
  subst hw
  exact kk H1 locs1 (hP.kept (fun k q hq => hk1 _ (vx_lt hP hq) (Nat.not_le.mpr (vx_lt hP hq)))) hS1
theorem slen_iv {x r : Int32} (hx : iv 0 6 x) (h : r = nI ((sByt.getD x.toNatClampNeg []).length) >>> ((0 : Int32) &&& 31)) : r.toInt = ((sByt.getD x.toNatClampNeg []).length : Int) ∧ iv 2 5 r := by
  have hb := sb_len _ (c7 hx)
  rw [sc_shr0 (by omega)] at h
  have e1 : r.toInt = ((sByt.getD x.toNatClampNeg []).length : Int) := by rw [h, nI_toInt (by omega)]
  exact ⟨e1, by omega, by omega⟩
end STRR
end
section
/-- every place of a row is at most K -/
def UB (k : Nat) (K : Nat) (gm : Nat → Nat → Int32) : Prop := ∀ j, j < 80 → (gm k j).toInt ≤ (K : Int)
theorem UB_k {k K K2 : Nat} {gm gm2 : Nat → Nat → Int32} (h : UB k K gm) (e : gm2 k = gm k) (hK : K ≤ K2) : UB k K2 gm2 := fun j hj => by rw [e]; have := h j hj; omega
theorem UB_u {k K K2 i : Nat} {v : Int32} {gm gm2 : Nat → Nat → Int32} (h : UB k K gm) (e : gm2 k = upd (gm k) i v) (hK : K ≤ K2) (hv : v.toInt ≤ (K2 : Int)) : UB k K2 gm2 := fun j hj => by
  rw [e]
  by_cases q : j = i
  · rw [q, upd_at]; exact hv
  · rw [upd_ne q]; have := h j hj; omega
/-- the attributes of an element lie within those that are there -/
def FA (sg : Nat → Int32) (gm : Nat → Nat → Int32) : Prop := ∀ j, j < (sg 4).toNatClampNeg → (gm 19 j).toInt + (gm 20 j).toInt ≤ (sg 5).toInt
/-- the characters of a value lie within those that are there -/
def VS (sg : Nat → Int32) (gm : Nat → Nat → Int32) : Prop := ∀ j, j < (sg 5).toNatClampNeg → (gm 44 j).toInt + (gm 45 j).toInt ≤ (sg 6).toInt
/-- what an element leads to is one of the document's -/
def LK (sg : Nat → Int32) (gm : Nat → Nat → Int32) : Prop := ∀ j, j < (sg 4).toNatClampNeg → (gm 15 j).toInt < (sg 4).toInt ∧ (gm 16 j).toInt < (sg 4).toInt ∧ (gm 17 j).toInt < (sg 4).toInt ∧ (0 ≤ (gm 16 j).toInt → (gm 15 (gm 16 j).toNatClampNeg).toInt = (j : Int)) ∧ (0 ≤ (gm 17 j).toInt → gm 15 (gm 17 j).toNatClampNeg = gm 15 j)
/-- the first attribute with this key -/
def FND (gm : Nat → Nat → Int32) (lg : Nat → Nat → Int64) (j : Nat) (k : Int64) (r : Int32) : Prop := (r.toInt = -1 ∧ ∀ i, 0 ≤ i → i < (gm 20 j).toNatClampNeg → ¬ lg 0 ((gm 19 j).toNatClampNeg + i) = k) ∨ (∃ i, i < (gm 20 j).toNatClampNeg ∧ r.toNatClampNeg = (gm 19 j).toNatClampNeg + i ∧ 0 ≤ r.toInt ∧ (∀ i', 0 ≤ i' → i' < i → ¬ lg 0 ((gm 19 j).toNatClampNeg + i') = k) ∧ lg 0 ((gm 19 j).toNatClampNeg + i) = k)
end
section
theorem upd_or2 {f g : Nat → Int32} {i : Nat} {v : Int32} (h : f = upd g i v) (j : Nat) : f j = g j ∨ (f j = v ∧ j = i) := by
  rw [h]
  by_cases q : j = i
  · right; exact ⟨by rw [q, upd_at], q⟩
  · left; exact upd_ne q
/-- no element of the document has its bean yet -/
def BN (sg : Nat → Int32) (gm : Nat → Nat → Int32) : Prop := ∀ j, j < (sg 4).toNatClampNeg → gm 27 j = -1
theorem BN_new {sg sg2 : Nat → Int32} {gm gm2 : Nat → Nat → Int32} (h : BN sg gm) (h4 : (sg2 4).toInt = (sg 4).toInt + 1) (h0 : 0 ≤ (sg 4).toInt) (h27 : gm2 27 = upd (gm 27) (sg 4).toNatClampNeg (-1)) : BN sg2 gm2 := by
  have k1 := cl_0 h0
  have k2 := cl_0 (x := sg2 4) (by omega)
  intro j hj
  rw [h27]
  by_cases q : j = (sg 4).toNatClampNeg
  · rw [q, upd_at]
  · rw [upd_ne q]; exact h j (by omega)
theorem BN_e {sg sg2 : Nat → Int32} {gm gm2 : Nat → Nat → Int32} (h : BN sg gm) (h4 : sg2 4 = sg 4) (h27 : gm2 27 = gm 27) : BN sg2 gm2 := by
  unfold BN at *; rw [h4, h27]; exact h
theorem FA_new {sg sg2 : Nat → Int32} {gm gm2 : Nat → Nat → Int32} {fa : Int32} (h : FA sg gm) (h4 : (sg2 4).toInt = (sg 4).toInt + 1) (h0 : 0 ≤ (sg 4).toInt) (h5 : sg2 5 = sg 5) (h19 : gm2 19 = upd (gm 19) (sg 4).toNatClampNeg fa) (h20 : gm2 20 = upd (gm 20) (sg 4).toNatClampNeg 0) (hf : fa = sg 5) : FA sg2 gm2 := by
  have k1 := cl_0 h0
  have k2 := cl_0 (x := sg2 4) (by omega)
  intro j hj
  rw [h19, h20, h5]
  by_cases q : j = (sg 4).toNatClampNeg
  · rw [q, upd_at, upd_at, hf]; show _ + (0 : Int) ≤ _; omega
  · rw [upd_ne q, upd_ne q]; exact h j (by omega)
theorem LK_new {sg sg2 : Nat → Int32} {gm gm1 gm2 : Nat → Nat → Int32} {ar : Int32} (h : LK sg gm) (h4 : (sg2 4).toInt = (sg 4).toInt + 1) (h0 : 0 ≤ (sg 4).toInt) (ha : ar.toInt < (sg 4).toInt) (h15 : gm2 15 = upd (gm 15) (sg 4).toNatClampNeg ar) (h16 : gm1 16 = upd (gm 16) (sg 4).toNatClampNeg (-1)) (h17 : gm1 17 = upd (gm 17) (sg 4).toNatClampNeg (-1)) (g16 : ∀ j, gm2 16 j = gm1 16 j ∨ (gm2 16 j = sg 4 ∧ (j : Int) = ar.toInt)) (g17 : ∀ j, gm2 17 j = gm1 17 j ∨ (gm2 17 j = sg 4 ∧ gm2 15 j = ar)) : LK sg2 gm2 := by
  have k1 := cl_0 h0
  have k2 := cl_0 (x := sg2 4) (by omega)
  have i16 : ∀ j, j < (sg2 4).toNatClampNeg → (gm2 16 j).toInt < (sg2 4).toInt := fun j hj => by
    rcases g16 j with q | q
    · rw [q, h16]
      by_cases e9 : j = (sg 4).toNatClampNeg
      · rw [e9, upd_at]; show (-1 : Int) < _; omega
      · rw [upd_ne e9]; have := (h j (by omega)).2.1; omega
    · rw [q.1]; omega
  have i17 : ∀ j, j < (sg2 4).toNatClampNeg → (gm2 17 j).toInt < (sg2 4).toInt := fun j hj => by
    rcases g17 j with q | q
    · rw [q, h17]
      by_cases e9 : j = (sg 4).toNatClampNeg
      · rw [e9, upd_at]; show (-1 : Int) < _; omega
      · rw [upd_ne e9]; have := (h j (by omega)).2.2.1; omega
    · rw [q.1]; omega
  have i15 : ∀ j, j < (sg2 4).toNatClampNeg → 0 ≤ (gm2 16 j).toInt → (gm2 15 (gm2 16 j).toNatClampNeg).toInt = (j : Int) := fun j hj hp => by
    rcases g16 j with q | q
    · rw [q] at hp ⊢
      by_cases e9 : j = (sg 4).toNatClampNeg
      · rw [h16, e9, upd_at] at hp; exact absurd hp (by decide)
      · have q1 : gm1 16 j = gm 16 j := by rw [h16, upd_ne e9]
        rw [q1] at hp ⊢
        have q2 := h j (by omega)
        have q3 := cl_0 hp
        rw [h15, upd_ne (by have := q2.2.1; omega)]
        exact q2.2.2.2.1 hp
    · rw [q.1, h15, upd_at]; exact q.2.symm
  have j15 : ∀ j, j < (sg2 4).toNatClampNeg → 0 ≤ (gm2 17 j).toInt → gm2 15 (gm2 17 j).toNatClampNeg = gm2 15 j := fun j hj hp => by
    rcases g17 j with q | q
    · rw [q] at hp ⊢
      by_cases e9 : j = (sg 4).toNatClampNeg
      · rw [h17, e9, upd_at] at hp; exact absurd hp (by decide)
      · have q1 : gm1 17 j = gm 17 j := by rw [h17, upd_ne e9]
        rw [q1] at hp ⊢
        have q2 := h j (by omega)
        have q3 := cl_0 hp
        rw [h15, upd_ne (by have := q2.2.2.1; omega), upd_ne e9]
        exact q2.2.2.2.2 hp
    · rw [q.2, q.1, h15, upd_at]
  intro j hj
  refine ⟨?_, i16 j hj, i17 j hj, i15 j hj, j15 j hj⟩
  rw [h15]
  by_cases q : j = (sg 4).toNatClampNeg
  · rw [q, upd_at]; omega
  · rw [upd_ne q]; have := (h j (by omega)).1; omega
theorem FA_add {sg sg2 : Nat → Int32} {gm gm2 : Nat → Nat → Int32} {o v w : Int32} (h : FA sg gm) (ho : 0 ≤ o.toInt) (hl : o.toInt < (sg 4).toInt) (h4 : sg2 4 = sg 4) (h5 : (sg2 5).toInt = (sg 5).toInt + 1) (h19 : gm2 19 = gm 19) (h20 : gm2 20 = upd (gm 20) o.toNatClampNeg v) (hw : w = gm 20 o.toNatClampNeg) (hv : v.toInt = w.toInt + 1) : FA sg2 gm2 := by
  have k1 := cl_0 ho
  have k2 := cl_0 (x := sg 4) (by omega)
  intro j hj
  rw [h4] at hj
  rw [h19, h20]
  have := h j hj
  by_cases q : j = o.toNatClampNeg
  · rw [q, upd_at]; rw [q] at this; rw [hw] at hv; omega
  · rw [upd_ne q]; omega
theorem VS_add {sg sg2 : Nat → Int32} {gm gm2 : Nat → Nat → Int32} {v : Int32} (h : VS sg gm) (h0 : 0 ≤ (sg 5).toInt) (h5 : (sg2 5).toInt = (sg 5).toInt + 1) (h6 : sg2 6 = sg 6) (h44 : gm2 44 = upd (gm 44) (sg 5).toNatClampNeg v) (h45 : gm2 45 = upd (gm 45) (sg 5).toNatClampNeg 0) (hv : v = sg 6) : VS sg2 gm2 := by
  have k1 := cl_0 h0
  have k2 := cl_0 (x := sg2 5) (by omega)
  intro j hj
  rw [h44, h45, h6]
  by_cases q : j = (sg 5).toNatClampNeg
  · rw [q, upd_at, upd_at, hv]; show _ + (0 : Int) ≤ _; omega
  · rw [upd_ne q, upd_ne q]; exact h j (by omega)
theorem VS_take {sg sg2 : Nat → Int32} {gm gm2 : Nat → Nat → Int32} {a v w : Int32} (h : VS sg gm) (ha : 0 ≤ a.toInt) (hl : a.toInt < (sg 5).toInt) (h5 : sg2 5 = sg 5) (h6 : (sg2 6).toInt = (sg 6).toInt + 1) (h44 : gm2 44 = gm 44) (h45 : gm2 45 = upd (gm 45) a.toNatClampNeg v) (hw : w = gm 45 a.toNatClampNeg) (hv : v.toInt = w.toInt + 1) : VS sg2 gm2 := by
  have k1 := cl_0 ha
  have k2 := cl_0 (x := sg 5) (by omega)
  intro j hj
  rw [h5] at hj
  rw [h44, h45]
  have := h j hj
  by_cases q : j = a.toNatClampNeg
  · rw [q, upd_at]; rw [q] at this; rw [hw] at hv; omega
  · rw [upd_ne q]; omega
theorem VS_e {sg sg2 : Nat → Int32} {gm gm2 : Nat → Nat → Int32} (h : VS sg gm) (h5 : sg2 5 = sg 5) (h6 : sg2 6 = sg 6) (h44 : gm2 44 = gm 44) (h45 : gm2 45 = gm 45) : VS sg2 gm2 := by
  unfold VS at *; rw [h5, h6, h44, h45]; exact h
theorem FA_e {sg sg2 : Nat → Int32} {gm gm2 : Nat → Nat → Int32} (h : FA sg gm) (h4 : sg2 4 = sg 4) (h5 : sg2 5 = sg 5) (h19 : gm2 19 = gm 19) (h20 : gm2 20 = gm 20) : FA sg2 gm2 := by
  unfold FA at *; rw [h4, h5, h19, h20]; exact h
theorem LK_e {sg sg2 : Nat → Int32} {gm gm2 : Nat → Nat → Int32} (h : LK sg gm) (h4 : sg2 4 = sg 4) (h15 : gm2 15 = gm 15) (h16 : gm2 16 = gm 16) (h17 : gm2 17 = gm 17) : LK sg2 gm2 := by
  unfold LK at *; rw [h4, h15, h16, h17]; exact h
/-- the element has one small letter as the value of this attribute -/
def LVP (gm : Nat → Nat → Int32) (lg : Nat → Nat → Int64) (j : Nat) (k : Int64) : Prop := ∃ a, FND gm lg j k a ∧ 0 ≤ a.toInt ∧ (gm 45 a.toNatClampNeg).toInt = 1 ∧ 97 ≤ (gm 46 (gm 44 a.toNatClampNeg).toNatClampNeg).toInt ∧ (gm 46 (gm 44 a.toNatClampNeg).toNatClampNeg).toInt ≤ 122

set_option maxHeartbeats 4000000 in
set_option maxRecDepth 100000 in
theorem d_clearPa (l : Launch) (dC : Nat → ClassId) (dI : Nat → Nat → Nat) (ad : Nat → Nat → Nat) (cid : Nat → ClassId) (a2 : Nat → Nat) (lx : List Nat) (sg : Nat → Int32) (gm : Nat → Nat → Int32) (lg : Nat → Nat → Int64) (x : Int32) (hI : CI sg gm) (hvx : iv 0 0 x) : CMt dC dI ad cid a2 lx l yX6_clear wm_X6_clear ({ frames := 0, cells := 1, slots := 6, locals := 0 }) [eV (ad 1) x] sg gm lg (fun v u => v = none ∧ ∃ (sg2 : Nat → Int32) (gm2 : Nat → Nat → Int32) (lg2 : Nat → Nat → Int64), u = (sg2, gm2, lg2) ∧ CI sg2 gm2 ∧ KS [4, 5, 6] sg sg2 ∧ KS [] gm gm2 ∧ KS [] lg lg2 ∧ ((sg2 4).toInt = 0 ∧ (sg2 5).toInt = 0 ∧ (sg2 6).toInt = 0)) (fun _ _ => False) := by
  intro sz
  refine vx_ofW (cc := cX6_clear) (maxL := 1) (ret := none) (by decide) rfl ?_
  intro p e s m args below meth c s₁ B hml hxt hv
  obtain ⟨rfl, hsz, hP, hK, hD0, hG⟩ := hv
  have hx := B.exec
  have hb := B.bytes
  have hr := B.returns
  have hts := atoms_spec (ws := wm_X6_clear) B.pre
  have htb := fun (w : Cond) (h : w ∈ tb) => hts w (List.mem_cons_of_mem _ h)
  have hown : s.vm.findClass RX6 = some m.cls := findClass_of_methodNamed B.named
  have hlocks := B.notSynchronized
  subst hsz
  have hD := hD0.self (sz := s.heap.size)
  generalize hAe : va_A (cW ad cid a2 lx sg gm lg) s.heap.size = A at hD hG ⊢
  have hA : ∀ q : Nat, s.heap.size ≤ q → A q := fun q h => by rw [← hAe]; exact Or.inr h
  have hS : va_S A s.heap s.heap [] := va_S.rf
  have hl := lv_entry ([eV (ad 1) x]) (n := 1) (by rw [show (lg_sl ([eV (ad 1) x])).length = 1 from by simp [lg_sl, eV_cat, cat_i, cat_l]]; exact Nat.le_of_ble_eq_true rfl)
  rw [lg_entry_eq]
  generalize (lg_sl ([eV (ad 1) x]) ++ List.replicate (1 - (lg_sl ([eV (ad 1) x])).length) Slot.unset).toArray = ls at hl ⊢
  have hl : lv_has ls 1 [(0, eV (ad 1) x)] := by simp [lv_args, eV_cat, cat_i, cat_l] at hl; exact hl
  refine ec_aload_n hx hb dX6_clear_0 rfl (lv_at hl 0 rfl) ?_
  refine lv_iconst (v := 0) hx hb dX6_clear_1 (by decide) ?_
  refine cr_puts (t := 1) (j := 5) (C := RX6) (T := TX6) (N := 8) (ty0 := tyX6) (k := 4) (y := 0) hx hb htb inX6 tyX6_ok nmX6 hown hK hP hD hS hvx (by decide) (by decide) (by decide) (by decide) rfl rfl rfl (by decide) (htb _ kw_345) rfl (by show Value.int 0 = Value.int (va_up sg 4 0 4); rw [va_up_self]) rfl rfl dX6_clear_2 (fun sg_1 H locs esg_1 hP hD hS => ?_)
  have hI_sg_1 := CI_put hI esg_1 (iv_k (by decide) : iv 0 0 0) (by decide)
  refine ec_aload_n hx hb dX6_clear_5 rfl (lv_at hl 0 rfl) ?_
  refine lv_iconst (v := 0) hx hb dX6_clear_6 (by decide) ?_
  refine cr_puts (t := 1) (j := 6) (C := RX6) (T := TX6) (N := 8) (ty0 := tyX6) (k := 5) (y := 0) hx hb htb inX6 tyX6_ok nmX6 hown hK hP hD hS hvx (by decide) (by decide) (by decide) (by decide) rfl rfl rfl (by decide) (htb _ kw_346) rfl (by show Value.int 0 = Value.int (va_up sg_1 5 0 5); rw [va_up_self]) rfl rfl dX6_clear_7 (fun sg_2 H locs esg_2 hP hD hS => ?_)
  have hI_sg_2 := CI_put hI_sg_1 esg_2 (iv_k (by decide) : iv 0 0 0) (by decide)
  refine ec_aload_n hx hb dX6_clear_10 rfl (lv_at hl 0 rfl) ?_
  refine lv_iconst (v := 0) hx hb dX6_clear_11 (by decide) ?_
  refine cr_puts (t := 1) (j := 7) (C := RX6) (T := TX6) (N := 8) (ty0 := tyX6) (k := 6) (y := 0) hx hb htb inX6 tyX6_ok nmX6 hown hK hP hD hS hvx (by decide) (by decide) (by decide) (by decide) rfl rfl rfl (by decide) (htb _ kw_347) rfl (by show Value.int 0 = Value.int (va_up sg_2 6 0 6); rw [va_up_self]) rfl rfl dX6_clear_12 (fun sg_3 H locs esg_3 hP hD hS => ?_)
  have hI_sg_3 := CI_put hI_sg_2 esg_3 (iv_k (by decide) : iv 0 0 0) (by decide)
  exact W.nb (fun hN => W.widen (k := 1) (n := 6) (by decide) (by decide) (vx_ret (W.vret hx hb hr (fun t ht hW => ⟨⟨none, (sg_3, gm, lg), rfl, ⟨rfl, sg_3, gm, lg, rfl, hI_sg_3, (KS_up (KS_up (KS_up KS_rf esg_1 (by decide)) esg_2 (by decide)) esg_3 (by decide)), KS_rf, KS_rf, (⟨by have := i32_0; have := i32_1; have := i32_2; have := i32_m1; have := congrArg Int32.toInt (show sg_3 4 = sg_2 4 from up_ne esg_3 (by decide)); have := congrArg Int32.toInt (show sg_2 4 = sg_1 4 from up_ne esg_2 (by decide)); have : (sg_1 4).toInt = 0 := (by rw [up_at esg_1]; rfl); have := (hvx).1; have := (hvx).2; omega, by have := i32_0; have := i32_1; have := i32_2; have := i32_m1; have := congrArg Int32.toInt (show sg_3 5 = sg_2 5 from up_ne esg_3 (by decide)); have : (sg_2 5).toInt = 0 := (by rw [up_at esg_2]; rfl); have := (hvx).1; have := (hvx).2; omega, by have := i32_0; have := i32_1; have := i32_2; have := i32_m1; have : (sg_3 6).toInt = 0 := (by rw [up_at esg_3]; rfl); have := (hvx).1; have := (hvx).2; omega⟩)⟩, by rw [ht]; exact hP, va_K.moved hW.alike hK, hD⟩, hS.F ht, by rw [ht]; exact hN⟩) hS.2.2 dX6_clear_15)))

set_option maxHeartbeats 4000000 in
set_option maxRecDepth 100000 in
theorem d_countPa (l : Launch) (dC : Nat → ClassId) (dI : Nat → Nat → Nat) (ad : Nat → Nat → Nat) (cid : Nat → ClassId) (a2 : Nat → Nat) (lx : List Nat) (sg : Nat → Int32) (gm : Nat → Nat → Int32) (lg : Nat → Nat → Int64) (x : Int32) (hI : CI sg gm) (hvx : iv 0 0 x) : CMt dC dI ad cid a2 lx l yX6_count wm_X6_count ({ frames := 0, cells := 1, slots := 6, locals := 0 }) [eV (ad 1) x] sg gm lg (fun v u => ∃ r : Int32, v = some (.int r) ∧ u = (sg, gm, lg) ∧ (iv 0 80 r) ∧ (r = sg 4)) (fun _ _ => False) := by
  intro sz
  refine vx_ofW (cc := cX6_count) (maxL := 1) (ret := (some .int)) (by decide) rfl ?_
  intro p e s m args below meth c s₁ B hml hxt hv
  obtain ⟨rfl, hsz, hP, hK, hD0, hG⟩ := hv
  have hx := B.exec
  have hb := B.bytes
  have hr := B.returns
  have hts := atoms_spec (ws := wm_X6_count) B.pre
  have htb := fun (w : Cond) (h : w ∈ tb) => hts w (List.mem_cons_of_mem _ h)
  have hown : s.vm.findClass RX6 = some m.cls := findClass_of_methodNamed B.named
  have hlocks := B.notSynchronized
  subst hsz
  have hD := hD0.self (sz := s.heap.size)
  generalize hAe : va_A (cW ad cid a2 lx sg gm lg) s.heap.size = A at hD hG ⊢
  have hA : ∀ q : Nat, s.heap.size ≤ q → A q := fun q h => by rw [← hAe]; exact Or.inr h
  have hS : va_S A s.heap s.heap [] := va_S.rf
  have hl := lv_entry ([eV (ad 1) x]) (n := 1) (by rw [show (lg_sl ([eV (ad 1) x])).length = 1 from by simp [lg_sl, eV_cat, cat_i, cat_l]]; exact Nat.le_of_ble_eq_true rfl)
  rw [lg_entry_eq]
  generalize (lg_sl ([eV (ad 1) x]) ++ List.replicate (1 - (lg_sl ([eV (ad 1) x])).length) Slot.unset).toArray = ls at hl ⊢
  have hl : lv_has ls 1 [(0, eV (ad 1) x)] := by simp [lv_args, eV_cat, cat_i, cat_l] at hl; exact hl
  refine ec_aload_n hx hb dX6_count_0 rfl (lv_at hl 0 rfl) ?_
  refine cr_get (t := 1) (j := 5) (C := RX6) (T := TX6) (N := 8) (v := .int (sg 4)) hx hb htb inX6 hown hK hP hvx (by decide) (by decide) (by decide) rfl (by decide) (htb _ kw_345) rfl dX6_count_1 ?_
  exact W.nb (fun hN => W.widen (k := 1) (n := 6) (by decide) (by decide) (vx_ret (W.iret (v := (sg 4)) hx hb hr (fun t ht hW => ⟨⟨some (.int (sg 4)), (sg, gm, lg), rfl, ⟨(sg 4), rfl, rfl, (show iv 0 80 (sg 4) from CI_s hI 4), (rfl)⟩, by rw [ht]; exact hP, va_K.moved hW.alike hK, hD⟩, hS.F ht, by rw [ht]; exact hN⟩) hS.2.2 dX6_count_4)))

set_option maxHeartbeats 4000000 in
set_option maxRecDepth 100000 in
theorem d_element (l : Launch) (dC : Nat → ClassId) (dI : Nat → Nat → Nat) (ad : Nat → Nat → Nat) (cid : Nat → ClassId) (a2 : Nat → Nat) (lx : List Nat) (sg : Nat → Int32) (gm : Nat → Nat → Int32) (lg : Nat → Nat → Int64) (x : Int32) (i : Int32) (hI : CI sg gm) (hvx : iv 0 0 x) (hvi : iv 0 79 i) : CMt dC dI ad cid a2 lx l yX6_element wm_X6_element ({ frames := 0, cells := 1, slots := 6, locals := 0 }) [eV (ad 1) x, .int i] sg gm lg (fun v u => ∃ r : Int32, v = some (eV (ad 9) r) ∧ u = (sg, gm, lg) ∧ (iv 0 79 r) ∧ (r = i)) (fun _ _ => False) := by
  intro sz
  refine vx_ofW (cc := cX6_element) (maxL := 2) (ret := (some (.object "WiredBeans$Element"))) (by decide) rfl ?_
  intro p e s m args below meth c s₁ B hml hxt hv
  obtain ⟨rfl, hsz, hP, hK, hD0, hG⟩ := hv
  have hx := B.exec
  have hb := B.bytes
  have hr := B.returns
  have hts := atoms_spec (ws := wm_X6_element) B.pre
  have htb := fun (w : Cond) (h : w ∈ tb) => hts w (List.mem_cons_of_mem _ h)
  have hown : s.vm.findClass RX6 = some m.cls := findClass_of_methodNamed B.named
  have hlocks := B.notSynchronized
  subst hsz
  have hD := hD0.self (sz := s.heap.size)
  generalize hAe : va_A (cW ad cid a2 lx sg gm lg) s.heap.size = A at hD hG ⊢
  have hA : ∀ q : Nat, s.heap.size ≤ q → A q := fun q h => by rw [← hAe]; exact Or.inr h
  have hS : va_S A s.heap s.heap [] := va_S.rf
  have hl := lv_entry ([eV (ad 1) x, .int i]) (n := 2) (by rw [show (lg_sl ([eV (ad 1) x, .int i])).length = 2 from by simp [lg_sl, eV_cat, cat_i, cat_l]]; exact Nat.le_of_ble_eq_true rfl)
  rw [lg_entry_eq]
  generalize (lg_sl ([eV (ad 1) x, .int i]) ++ List.replicate (2 - (lg_sl ([eV (ad 1) x, .int i])).length) Slot.unset).toArray = ls at hl ⊢
  have hl : lv_has ls 2 [(0, eV (ad 1) x), (1, .int i)] := by simp [lv_args, eV_cat, cat_i, cat_l] at hl; exact hl
  refine ec_aload_n hx hb dX6_element_0 rfl (lv_at hl 0 rfl) ?_
  refine cr_get (t := 1) (j := 0) (C := RX6) (T := TX6) (N := 8) (v := eV (ad 14) 0) hx hb htb inX6 hown hK hP hvx (by decide) (by decide) (by decide) rfl (by decide) (htb _ kw_64) (cV_c rfl (by decide) (by rw [show cMu 1 0 = 0 from rfl, Nat.zero_mul]; rfl)) dX6_element_1 ?_
  refine lv_iload_n hx hb dX6_element_4 rfl (lv_at hl 1 rfl) ?_
  refine cr_aald (t := 14) (C := RX3) (v := eV (ad 9) i) hx hb hK hP (iv_k (by decide) : iv 0 0 0) (by decide) (by decide) (by decide) (by decide) (by decide) rfl (show vp_in i (cLen 14) from (show vp_in i 80 from (iv_in hvi (by decide)))) (cAr_c (by decide) (hvi).1 (by rw [show cAm 14 = 0 from rfl, Nat.zero_mul, show cAo 14 = 0 from rfl]; omega)) dX6_element_5 ?_
  exact W.nb (fun hN => W.widen (k := 1) (n := 6) (by decide) (by decide) (vx_ret (W.aret (v := eV (ad 9) i) hx hb hr (Or.inl ⟨_, rfl⟩) (eV_is _ _) (fun t ht hW => ⟨⟨some (eV (ad 9) i), (sg, gm, lg), rfl, ⟨i, rfl, rfl, hvi, (rfl)⟩, by rw [ht]; exact hP, va_K.moved hW.alike hK, hD⟩, hS.F ht, by rw [ht]; exact hN⟩) hS.2.2 dX6_element_6)))

set_option maxHeartbeats 4000000 in
set_option maxRecDepth 100000 in
theorem d_find (l : Launch) (dC : Nat → ClassId) (dI : Nat → Nat → Nat) (ad : Nat → Nat → Nat) (cid : Nat → ClassId) (a2 : Nat → Nat) (lx : List Nat) (sg : Nat → Int32) (gm : Nat → Nat → Int32) (lg : Nat → Nat → Int64) (x : Int32) (o : Int32) (w : Int32) (hI : CI sg gm) (hvx : iv 0 0 x) (hvo : iv 0 79 o) (hvw : iv 0 33 w) (hFA : FA sg gm) (how : o.toInt < (sg 4).toInt) : CMt dC dI ad cid a2 lx l yX6_find wm_X6_find ({ frames := 0, cells := 1, slots := 6, locals := 0 }) [eV (ad 1) x, eV (ad 9) o, eV (ad 33) w] sg gm lg (fun v u => ∃ r : Int32, v = some (.int r) ∧ u = (sg, gm, lg) ∧ (iv (-1) 239 r) ∧ (FND gm lg o.toNatClampNeg (wKy.getD w.toNatClampNeg 0) r) ∧ (r.toInt < (sg 5).toInt)) (fun _ _ => False) := by
  intro sz
  refine vx_ofW (cc := cX6_find) (maxL := 4) (ret := (some .int)) (by decide) rfl ?_
  intro p e s m args below meth c s₁ B hml hxt hv
  obtain ⟨rfl, hsz, hP, hK, hD0, hG⟩ := hv
  have hx := B.exec
  have hb := B.bytes
  have hr := B.returns
  have hts := atoms_spec (ws := wm_X6_find) B.pre
  have htb := fun (w : Cond) (h : w ∈ tb) => hts w (List.mem_cons_of_mem _ h)
  have hown : s.vm.findClass RX6 = some m.cls := findClass_of_methodNamed B.named
  have hlocks := B.notSynchronized
  subst hsz
  have hD := hD0.self (sz := s.heap.size)
  generalize hAe : va_A (cW ad cid a2 lx sg gm lg) s.heap.size = A at hD hG ⊢
  have hA : ∀ q : Nat, s.heap.size ≤ q → A q := fun q h => by rw [← hAe]; exact Or.inr h
  have hS : va_S A s.heap s.heap [] := va_S.rf
  have hl := lv_entry ([eV (ad 1) x, eV (ad 9) o, eV (ad 33) w]) (n := 4) (by rw [show (lg_sl ([eV (ad 1) x, eV (ad 9) o, eV (ad 33) w])).length = 3 from by simp [lg_sl, eV_cat, cat_i, cat_l]]; exact Nat.le_of_ble_eq_true rfl)
  rw [lg_entry_eq]
  generalize (lg_sl ([eV (ad 1) x, eV (ad 9) o, eV (ad 33) w]) ++ List.replicate (4 - (lg_sl ([eV (ad 1) x, eV (ad 9) o, eV (ad 33) w])).length) Slot.unset).toArray = ls at hl ⊢
  have hl : lv_has ls 4 [(0, eV (ad 1) x), (1, eV (ad 9) o), (2, eV (ad 33) w)] := by simp [lv_args, eV_cat, cat_i, cat_l] at hl; exact hl
  have hj2 : ∀ (n : Nat) (x3_2 : Int32) (_ : (12 - x3_2.toInt).toNat = n) (_ : iv 0 12 x3_2) (_ : iv 0 0 x) (_ : iv 0 79 o) (_ : iv 0 33 w) (_ : ∀ i9, 0 ≤ i9 → i9 < x3_2.toNatClampNeg → ¬ lg 0 ((gm 19 o.toNatClampNeg).toNatClampNeg + i9) = (wKy.getD w.toNatClampNeg 0)) (H : Heap) (locs : List Loc) (ls : Array Slot), va_P (dC, dI) vwCl (cW ad cid a2 lx sg gm lg) H → va_D A (cW ad cid a2 lx sg gm lg) → va_S A s.heap H locs → lv_has ls 4 [(3, .int x3_2), (0, eV (ad 1) x), (1, eV (ad 9) o), (2, eV (ad 33) w)] → W p l e (headSpec wm_X6_find ({ frames := 0, cells := 1, slots := 6, locals := 0 })).room s m ([eV (ad 1) x, eV (ad 9) o, eV (ad 33) w] : List Value).toArray below meth c H locs 0 0 (vx_MQ below (cQx dC dI ad cid a2 lx (fun v u => ∃ r : Int32, v = some (.int r) ∧ u = (sg, gm, lg) ∧ (iv (-1) 239 r) ∧ (FND gm lg o.toNatClampNeg (wKy.getD w.toNatClampNeg 0) r) ∧ (r.toInt < (sg 5).toInt)) A) (cX dC dI ad cid a2 lx (fun _ _ => False) A) ([eV (ad 1) x, eV (ad 9) o, eV (ad 33) w] : List Value).toArray s 1 6 A) (F0 m 2 ls []) := by
    intro n
    induction n using Nat.strongRecOn with
    | ind n ih2 =>
      intro x3_2 hn2 hx3_2 hsx0_2 hsx1_2 hsx2_2 hnb H locs ls hP hD hS hl
      refine lv_iload_n hx hb dX6_find_2 rfl (lv_at hl 0 rfl) ?_
      refine ec_aload_n hx hb dX6_find_3 rfl (lv_at hl 2 rfl) ?_
      refine cr_get (t := 9) (j := 10) (C := RX3) (T := TX3) (N := 21) (v := .int (gm 20 o.toNatClampNeg)) hx hb htb inX3 hown hK hP hsx1_2 (by decide) (by decide) (by decide) rfl (by decide) (htb _ kw_420) rfl dX6_find_4 ?_
      obtain ⟨z_1, ez_1⟩ : ∃ z : Int32, z = (gm 20 o.toNatClampNeg) := ⟨_, rfl⟩
      refine W.eq (g2 := F0 m 7 ls [.int z_1, .int x3_2]) (by rw [ez_1]) ?_
      have hz_1 : iv 0 12 z_1 := iv_of ez_1 (CI_a hI 20 hsx1_2 (by decide))
      refine lv_icmp_ge (tgt := 42) hx hb dX6_find_7 (by decide) (fun c_2 => ?_) (fun c_2 => ?_)
      · have d_3 : (z_1 : Int32).toInt ≤ (x3_2 : Int32).toInt := Int32.le_iff_toInt_le.mp c_2
        refine lv_iconst (v := (-1)) hx hb dX6_find_42 (by decide) ?_
        exact W.nb (fun hN => W.widen (k := 1) (n := 6) (by decide) (by decide) (vx_ret (W.iret (v := (-1)) hx hb hr (fun t ht hW => ⟨⟨some (.int (-1)), (sg, gm, lg), rfl, ⟨(-1), rfl, rfl, (iv_w (iv_k (by decide) : iv (-1) (-1) (-1)) (by decide)), (Or.inl ⟨rfl, fun i9 q1 q2 => hnb i9 q1 (by rw [← ez_1] at q2; have := iv_cl hz_1 (by decide); have := iv_cl hx3_2 (by decide); have := i32_0; have := i32_1; have := i32_2; have := i32_m1; have := (hsx0_2).1; have := (hsx0_2).2; have := (hsx1_2).1; have := (hsx1_2).2; have := (hsx2_2).1; have := (hsx2_2).2; have := (hx3_2).1; have := (hx3_2).2; have := (hz_1).1; have := (hz_1).2; omega)⟩), (by have := i32_0; have := i32_1; have := i32_2; have := i32_m1; have := (show iv 0 240 (sg 5) from CI_s hI 5).1; have := (show iv 0 240 (sg 5) from CI_s hI 5).2; have := (hsx0_2).1; have := (hsx0_2).2; have := (hsx1_2).1; have := (hsx1_2).2; have := (hsx2_2).1; have := (hsx2_2).2; have := (hx3_2).1; have := (hx3_2).2; have := (hz_1).1; have := (hz_1).2; omega)⟩, by rw [ht]; exact hP, va_K.moved hW.alike hK, hD⟩, hS.F ht, by rw [ht]; exact hN⟩) hS.2.2 dX6_find_43)))
      · have d_4 : (x3_2 : Int32).toInt < (z_1 : Int32).toInt := Int32.lt_iff_toInt_lt.mp (i32_lt c_2)
        have h_5 : iv 0 11 x3_2 := iv_ltL (i32_lt c_2) hx3_2 hz_1 (by decide)
        have h_6 : iv 1 12 z_1 := iv_ltR (i32_lt c_2) hx3_2 hz_1 (by decide)
        refine ec_aload_n hx hb dX6_find_10 rfl (lv_at hl 1 rfl) ?_
        refine cr_get (t := 1) (j := 1) (C := RX6) (T := TX6) (N := 8) (v := eV (ad 15) 0) hx hb htb inX6 hown hK hP hsx0_2 (by decide) (by decide) (by decide) rfl (by decide) (htb _ kw_67) (cV_c rfl (by decide) (by rw [show cMu 1 1 = 0 from rfl, Nat.zero_mul]; rfl)) dX6_find_11 ?_
        refine ec_aload_n hx hb dX6_find_14 rfl (lv_at hl 2 rfl) ?_
        refine cr_get (t := 9) (j := 9) (C := RX3) (T := TX3) (N := 21) (v := .int (gm 19 o.toNatClampNeg)) hx hb htb inX3 hown hK hP hsx1_2 (by decide) (by decide) (by decide) rfl (by decide) (htb _ kw_421) rfl dX6_find_15 ?_
        obtain ⟨z_7, ez_7⟩ : ∃ z : Int32, z = (gm 19 o.toNatClampNeg) := ⟨_, rfl⟩
        refine W.eq (g2 := F0 m 18 ls [.int z_7, eV (ad 15) 0]) (by rw [ez_7]) ?_
        have hz_7 : iv 0 240 z_7 := iv_of ez_7 (CI_a hI 19 hsx1_2 (by decide))
        refine lv_iload_n hx hb dX6_find_18 rfl (lv_at hl 0 rfl) ?_
        have hfa9 : (z_7 : Int32).toInt + (z_1 : Int32).toInt ≤ (sg 5).toInt := by rw [ez_7, ez_1]; exact hFA _ (lt_cl hvo (show iv 0 80 (sg 4) from CI_s hI 4) (by decide) (by decide) how)
        refine lv_iadd hx hb dX6_find_19 ?_
        refine lv_topi (fun z_8 ez_8 => ?_)
        have hz_8 : iv 0 251 z_8 := iv_of ez_8 (iv_add hz_7 h_5 (by decide))
        have tz_8 : z_8.toInt = (z_7 : Int32).toInt + (x3_2 : Int32).toInt := by rw [ez_8]; exact iv_addE hz_7 h_5 (by decide)
        refine cr_lald hx hb hK hP (iv_k (by decide) : iv 0 0 0) (show vp_in z_8 240 from (vp_in_iff.mpr ⟨by have := i32_0; have := i32_1; have := i32_2; have := i32_m1; have := (show iv 0 240 (sg 5) from CI_s hI 5).1; have := (show iv 0 240 (sg 5) from CI_s hI 5).2; have := (hsx0_2).1; have := (hsx0_2).2; have := (hsx1_2).1; have := (hsx1_2).2; have := (hsx2_2).1; have := (hsx2_2).2; have := (h_5).1; have := (h_5).2; have := (h_6).1; have := (h_6).2; have := (hz_7).1; have := (hz_7).2; have := (hz_8).1; have := (hz_8).2; omega, by have := i32_0; have := i32_1; have := i32_2; have := i32_m1; have := (show iv 0 240 (sg 5) from CI_s hI 5).1; have := (show iv 0 240 (sg 5) from CI_s hI 5).2; have := (hsx0_2).1; have := (hsx0_2).2; have := (hsx1_2).1; have := (hsx1_2).2; have := (hsx2_2).1; have := (hsx2_2).2; have := (h_5).1; have := (h_5).2; have := (h_6).1; have := (h_6).2; have := (hz_7).1; have := (hz_7).2; have := (hz_8).1; have := (hz_8).2; omega⟩)) dX6_find_20 ?_
        refine lv_topl (fun z_9 ez_9 => ?_)
        refine ec_aload_n hx hb dX6_find_21 rfl (lv_at hl 3 rfl) ?_
        refine cw_key hx hb hG hS hsx2_2 hown (htb _ kw_548) dX6_find_22 ?_
        refine lv_topl (fun z_10 ez_10 => ?_)
        refine W.lcmp hx hb dX6_find_25 ?_
        refine lv_topi (fun z_11 ez_11 => ?_)
        have hz_11 : iv (-1) 1 z_11 := iv_of ez_11 (iv_cmp _ _)
        refine lv_if_ne (tgt := 36) hx hb dX6_find_26 (by decide) (fun c_12 => ?_) (fun c_12 => ?_)
        · have d_13 : ¬ (z_11 : Int32).toInt = 0 := lv_neT c_12 rfl
          obtain ⟨z_14, ez_14⟩ : ∃ z : Int32, z = x3_2 + 1 := ⟨_, rfl⟩
          have hz_14 : iv 1 12 z_14 := iv_of ez_14 (iv_add h_5 (iv_k (by decide) : iv 1 1 1) (by decide))
          have tz_14 : z_14.toInt = x3_2.toInt + 1 := by rw [ez_14]; exact iv_addE h_5 (iv_k (by decide) : iv 1 1 1) (by decide)
          refine lv_iinc (v := z_14) (lv' := [(3, .int z_14), (0, eV (ad 1) x), (1, eV (ad 9) o), (2, eV (ad 33) w)]) hx hb dX6_find_36 hl (k := 0) rfl ez_14.symm (by decide) (by simp [List.filter, eV_cat, cat_i, cat_l]) (fun ls hl => ?_)
          refine lv_goto (tgt := 2) hx hb dX6_find_39 (by decide) ?_
          exact ih2 _ (by rw [← hn2]; exact (iv_meas tz_14 h_5 (by decide))) z_14 rfl (iv_w hz_14 (by decide)) hsx0_2 hsx1_2 hsx2_2 (all_s h_5 (by decide) tz_14 hnb (fun q9 => c_12 (by rw [ez_11, ez_9, ez_10, cl_add hz_7 h_5 (by decide) (by decide) tz_8, ez_7]; exact (lg_cmp_eq _ _).mpr q9))) _ _ _ hP hD hS (lv_sub hl [0, 1, 2, 3] rfl)
        · have h_15 : iv 0 0 z_11 := iv_eq c_12 hz_11 (iv_k (by decide) : iv 0 0 0) (by decide)
          refine ec_aload_n hx hb dX6_find_29 rfl (lv_at hl 2 rfl) ?_
          refine cr_get (t := 9) (j := 9) (C := RX3) (T := TX3) (N := 21) (v := .int (gm 19 o.toNatClampNeg)) hx hb htb inX3 hown hK hP hsx1_2 (by decide) (by decide) (by decide) rfl (by decide) (htb _ kw_421) rfl dX6_find_30 ?_
          refine W.eq (g2 := F0 m 33 ls [.int z_7]) (by rw [show (gm 19 o.toNatClampNeg) = z_7 from ez_7.symm]) ?_
          refine lv_iload_n hx hb dX6_find_33 rfl (lv_at hl 0 rfl) ?_
          refine lv_iadd hx hb dX6_find_34 ?_
          refine lv_topi (fun z_16 ez_16 => ?_)
          obtain rfl : z_8 = z_16 := ez_8.trans ez_16.symm
          have h35 : iv 0 239 z_8 := ⟨by have := i32_0; have := i32_1; have := i32_2; have := i32_m1; have := (show iv 0 240 (sg 5) from CI_s hI 5).1; have := (show iv 0 240 (sg 5) from CI_s hI 5).2; have := (hsx0_2).1; have := (hsx0_2).2; have := (hsx1_2).1; have := (hsx1_2).2; have := (hsx2_2).1; have := (hsx2_2).2; have := (h_5).1; have := (h_5).2; have := (h_6).1; have := (h_6).2; have := (hz_7).1; have := (hz_7).2; have := (hz_8).1; have := (hz_8).2; have := (h_15).1; have := (h_15).2; omega, by have := i32_0; have := i32_1; have := i32_2; have := i32_m1; have := (show iv 0 240 (sg 5) from CI_s hI 5).1; have := (show iv 0 240 (sg 5) from CI_s hI 5).2; have := (hsx0_2).1; have := (hsx0_2).2; have := (hsx1_2).1; have := (hsx1_2).2; have := (hsx2_2).1; have := (hsx2_2).2; have := (h_5).1; have := (h_5).2; have := (h_6).1; have := (h_6).2; have := (hz_7).1; have := (hz_7).2; have := (hz_8).1; have := (hz_8).2; have := (h_15).1; have := (h_15).2; omega⟩
          exact W.nb (fun hN => W.widen (k := 1) (n := 6) (by decide) (by decide) (vx_ret (W.iret (v := z_8) hx hb hr (fun t ht hW => ⟨⟨some (.int z_8), (sg, gm, lg), rfl, ⟨z_8, rfl, rfl, (iv_w h35 (by decide)), (Or.inr ⟨x3_2.toNatClampNeg, lt_cl h_5 (show iv 0 12 (gm 20 o.toNatClampNeg) from CI_a hI 20 hvo (by decide)) (by decide) (by decide) (by have := congrArg Int32.toInt ez_1; have := i32_0; have := i32_1; have := i32_2; have := i32_m1; have := (hsx0_2).1; have := (hsx0_2).2; have := (hsx1_2).1; have := (hsx1_2).2; have := (hsx2_2).1; have := (hsx2_2).2; have := (h_5).1; have := (h_5).2; have := (h_6).1; have := (h_6).2; have := (hz_7).1; have := (hz_7).2; have := (h35).1; have := (h35).2; have := (h_15).1; have := (h_15).2; omega), by rw [cl_add hz_7 h_5 (by decide) (by decide) tz_8, ez_7], by have := i32_0; have := i32_1; have := i32_2; have := i32_m1; have := (hsx0_2).1; have := (hsx0_2).2; have := (hsx1_2).1; have := (hsx1_2).2; have := (hsx2_2).1; have := (hsx2_2).2; have := (h_5).1; have := (h_5).2; have := (h_6).1; have := (h_6).2; have := (hz_7).1; have := (hz_7).2; have := (h35).1; have := (h35).2; have := (h_15).1; have := (h_15).2; omega, hnb, by have q9 := c_12; rw [ez_11, ez_9, ez_10, cl_add hz_7 h_5 (by decide) (by decide) tz_8, ez_7] at q9; exact (lg_cmp_eq _ _).mp q9⟩), (by have := i32_0; have := i32_1; have := i32_2; have := i32_m1; have := (show iv 0 240 (sg 5) from CI_s hI 5).1; have := (show iv 0 240 (sg 5) from CI_s hI 5).2; have := (hsx0_2).1; have := (hsx0_2).2; have := (hsx1_2).1; have := (hsx1_2).2; have := (hsx2_2).1; have := (hsx2_2).2; have := (h_5).1; have := (h_5).2; have := (h_6).1; have := (h_6).2; have := (hz_7).1; have := (hz_7).2; have := (h35).1; have := (h35).2; have := (h_15).1; have := (h_15).2; omega)⟩, by rw [ht]; exact hP, va_K.moved hW.alike hK, hD⟩, hS.F ht, by rw [ht]; exact hN⟩) hS.2.2 dX6_find_35)))
  refine lv_iconst (v := 0) hx hb dX6_find_0 (by decide) ?_
  refine lv_istore_n (i := 3) (lv' := [(3, .int 0), (0, eV (ad 1) x), (1, eV (ad 9) o), (2, eV (ad 33) w)]) hx hb dX6_find_1 rfl hl (by decide) (by simp [List.filter, eV_cat, cat_i, cat_l]) (fun ls hl => ?_)
  exact hj2 _ 0 rfl (iv_w (iv_k (by decide) : iv 0 0 0) (by decide)) hvx hvo hvw (fun i9 _ h9 => absurd h9 (Nat.not_lt_zero _)) _ _ _ hP hD hS (lv_sub hl [0, 1, 2, 3] rfl)
end
section
set_option maxHeartbeats 4000000 in
set_option maxRecDepth 100000 in
theorem d_valueLength (l : Launch) (dC : Nat → ClassId) (dI : Nat → Nat → Nat) (ad : Nat → Nat → Nat) (cid : Nat → ClassId) (a2 : Nat → Nat) (lx : List Nat) (sg : Nat → Int32) (gm : Nat → Nat → Int32) (lg : Nat → Nat → Int64) (x : Int32) (a : Int32) (hI : CI sg gm) (hvx : iv 0 0 x) (hva : iv (-1) 239 a) : CMt dC dI ad cid a2 lx l yX6_valueLength wm_X6_valueLength ({ frames := 0, cells := 1, slots := 6, locals := 0 }) [eV (ad 1) x, .int a] sg gm lg (fun v u => ∃ r : Int32, v = some (.int r) ∧ u = (sg, gm, lg) ∧ (iv 0 24 r) ∧ ((a.toInt = -1 ∧ r.toInt = 0) ∨ (0 ≤ a.toInt ∧ r = gm 45 a.toNatClampNeg))) (fun _ _ => False) := by
  intro sz
  refine vx_ofW (cc := cX6_valueLength) (maxL := 2) (ret := (some .int)) (by decide) rfl ?_
  intro p e s m args below meth c s₁ B hml hxt hv
  obtain ⟨rfl, hsz, hP, hK, hD0, hG⟩ := hv
  have hx := B.exec
  have hb := B.bytes
  have hr := B.returns
  have hts := atoms_spec (ws := wm_X6_valueLength) B.pre
  have htb := fun (w : Cond) (h : w ∈ tb) => hts w (List.mem_cons_of_mem _ h)
  have hown : s.vm.findClass RX6 = some m.cls := findClass_of_methodNamed B.named
  have hlocks := B.notSynchronized
  subst hsz
  have hD := hD0.self (sz := s.heap.size)
  generalize hAe : va_A (cW ad cid a2 lx sg gm lg) s.heap.size = A at hD hG ⊢
  have hA : ∀ q : Nat, s.heap.size ≤ q → A q := fun q h => by rw [← hAe]; exact Or.inr h
  have hS : va_S A s.heap s.heap [] := va_S.rf
  have hl := lv_entry ([eV (ad 1) x, .int a]) (n := 2) (by rw [show (lg_sl ([eV (ad 1) x, .int a])).length = 2 from by simp [lg_sl, eV_cat, cat_i, cat_l]]; exact Nat.le_of_ble_eq_true rfl)
  rw [lg_entry_eq]
  generalize (lg_sl ([eV (ad 1) x, .int a]) ++ List.replicate (2 - (lg_sl ([eV (ad 1) x, .int a])).length) Slot.unset).toArray = ls at hl ⊢
  have hl : lv_has ls 2 [(0, eV (ad 1) x), (1, .int a)] := by simp [lv_args, eV_cat, cat_i, cat_l] at hl; exact hl
  have hj15 : ∀ (y0_15 : Int32) (_ : iv 0 0 x) (_ : iv (-1) 239 a) (_ : iv 0 24 y0_15) (_ : (a.toInt = -1 ∧ y0_15.toInt = 0) ∨ (0 ≤ a.toInt ∧ y0_15 = gm 45 a.toNatClampNeg)) (H : Heap) (locs : List Loc) (ls : Array Slot), va_P (dC, dI) vwCl (cW ad cid a2 lx sg gm lg) H → va_D A (cW ad cid a2 lx sg gm lg) → va_S A s.heap H locs → lv_has ls 2 [(0, eV (ad 1) x), (1, .int a)] → W p l e (headSpec wm_X6_valueLength ({ frames := 0, cells := 1, slots := 6, locals := 0 })).room s m ([eV (ad 1) x, .int a] : List Value).toArray below meth c H locs 0 0 (vx_MQ below (cQx dC dI ad cid a2 lx (fun v u => ∃ r : Int32, v = some (.int r) ∧ u = (sg, gm, lg) ∧ (iv 0 24 r) ∧ ((a.toInt = -1 ∧ r.toInt = 0) ∨ (0 ≤ a.toInt ∧ r = gm 45 a.toNatClampNeg))) A) (cX dC dI ad cid a2 lx (fun _ _ => False) A) ([eV (ad 1) x, .int a] : List Value).toArray s 1 6 A) (F0 m 15 ls [.int y0_15]) := by
    intro y0_15 hsx0_15 hsx1_15 hy0_15 hV H locs ls hP hD hS hl
    exact W.nb (fun hN => W.widen (k := 1) (n := 6) (by decide) (by decide) (vx_ret (W.iret (v := y0_15) hx hb hr (fun t ht hW => ⟨⟨some (.int y0_15), (sg, gm, lg), rfl, ⟨y0_15, rfl, rfl, hy0_15, (hV)⟩, by rw [ht]; exact hP, va_K.moved hW.alike hK, hD⟩, hS.F ht, by rw [ht]; exact hN⟩) hS.2.2 dX6_valueLength_15)))
  refine lv_iload_n hx hb dX6_valueLength_0 rfl (lv_at hl 1 rfl) ?_
  refine lv_iconst (v := (-1)) hx hb dX6_valueLength_1 (by decide) ?_
  refine lv_icmp_ne (tgt := 9) hx hb dX6_valueLength_2 (by decide) (fun c_1 => ?_) (fun c_1 => ?_)
  · have h_2 : iv 0 239 a := iv_neL c_1 hva (by decide)
    refine ec_aload_n hx hb dX6_valueLength_9 rfl (lv_at hl 0 rfl) ?_
    refine cr_get (t := 1) (j := 3) (C := RX6) (T := TX6) (N := 8) (v := eV (ad 17) 0) hx hb htb inX6 hown hK hP hvx (by decide) (by decide) (by decide) rfl (by decide) (htb _ kw_69) (cV_c rfl (by decide) (by rw [show cMu 1 3 = 0 from rfl, Nat.zero_mul]; rfl)) dX6_valueLength_10 ?_
    refine lv_iload_n hx hb dX6_valueLength_13 rfl (lv_at hl 1 rfl) ?_
    refine cr_iald (t := 17) (z := (gm 45 (a : Int32).toNatClampNeg)) hx hb hK hP (iv_k (by decide) : iv 0 0 0) (by decide) (by decide) (by decide) rfl rfl (show vp_in a (cLen 17) from (show vp_in a 240 from (iv_in h_2 (by decide)))) rfl dX6_valueLength_14 ?_
    obtain ⟨z_3, ez_3⟩ : ∃ z : Int32, z = (gm 45 (a : Int32).toNatClampNeg) := ⟨_, rfl⟩
    refine W.eq (g2 := F0 m 15 ls [.int z_3]) (by rw [ez_3]) ?_
    have hz_3 : iv 0 24 z_3 := iv_of ez_3 (CI_a hI 45 h_2 (by decide))
    exact hj15 z_3 hvx (iv_w h_2 (by decide)) hz_3 (Or.inr ⟨by have := i32_0; have := i32_1; have := i32_2; have := i32_m1; have := (hvx).1; have := (hvx).2; have := (h_2).1; have := (h_2).2; have := (hz_3).1; have := (hz_3).2; omega, ez_3⟩) _ _ _ hP hD hS (lv_sub hl [0, 1] rfl)
  · have h_4 : iv (-1) (-1) a := iv_eq c_1 hva (iv_k (by decide) : iv (-1) (-1) (-1)) (by decide)
    refine lv_iconst (v := 0) hx hb dX6_valueLength_5 (by decide) ?_
    refine lv_goto (tgt := 15) hx hb dX6_valueLength_6 (by decide) ?_
    exact hj15 0 hvx (iv_w h_4 (by decide)) (iv_w (iv_k (by decide) : iv 0 0 0) (by decide)) (Or.inl ⟨by have := i32_0; have := i32_1; have := i32_2; have := i32_m1; have := (hvx).1; have := (hvx).2; have := (h_4).1; have := (h_4).2; omega, rfl⟩) _ _ _ hP hD hS (lv_sub hl [0, 1] rfl)

set_option maxHeartbeats 4000000 in
set_option maxRecDepth 100000 in
theorem d_valueChar (l : Launch) (dC : Nat → ClassId) (dI : Nat → Nat → Nat) (ad : Nat → Nat → Nat) (cid : Nat → ClassId) (a2 : Nat → Nat) (lx : List Nat) (sg : Nat → Int32) (gm : Nat → Nat → Int32) (lg : Nat → Nat → Int64) (x : Int32) (a : Int32) (i : Int32) (hI : CI sg gm) (hvx : iv 0 0 x) (hva : iv 0 239 a) (hvi : iv 0 23 i) (hVS : VS sg gm) (hal : a.toInt < (sg 5).toInt) (hil : i.toInt < (gm 45 a.toNatClampNeg).toInt) : CMt dC dI ad cid a2 lx l yX6_valueChar wm_X6_valueChar ({ frames := 0, cells := 1, slots := 6, locals := 0 }) [eV (ad 1) x, .int a, .int i] sg gm lg (fun v u => ∃ r : Int32, v = some (.int r) ∧ u = (sg, gm, lg) ∧ (iv 0 65535 r) ∧ (r = gm 46 ((gm 44 a.toNatClampNeg).toNatClampNeg + i.toNatClampNeg))) (fun _ _ => False) := by
  intro sz
  refine vx_ofW (cc := cX6_valueChar) (maxL := 3) (ret := (some .char)) (by decide) rfl ?_
  intro p e s m args below meth c s₁ B hml hxt hv
  obtain ⟨rfl, hsz, hP, hK, hD0, hG⟩ := hv
  have hx := B.exec
  have hb := B.bytes
  have hr := B.returns
  have hts := atoms_spec (ws := wm_X6_valueChar) B.pre
  have htb := fun (w : Cond) (h : w ∈ tb) => hts w (List.mem_cons_of_mem _ h)
  have hown : s.vm.findClass RX6 = some m.cls := findClass_of_methodNamed B.named
  have hlocks := B.notSynchronized
  subst hsz
  have hD := hD0.self (sz := s.heap.size)
  generalize hAe : va_A (cW ad cid a2 lx sg gm lg) s.heap.size = A at hD hG ⊢
  have hA : ∀ q : Nat, s.heap.size ≤ q → A q := fun q h => by rw [← hAe]; exact Or.inr h
  have hS : va_S A s.heap s.heap [] := va_S.rf
  have hl := lv_entry ([eV (ad 1) x, .int a, .int i]) (n := 3) (by rw [show (lg_sl ([eV (ad 1) x, .int a, .int i])).length = 3 from by simp [lg_sl, eV_cat, cat_i, cat_l]]; exact Nat.le_of_ble_eq_true rfl)
  rw [lg_entry_eq]
  generalize (lg_sl ([eV (ad 1) x, .int a, .int i]) ++ List.replicate (3 - (lg_sl ([eV (ad 1) x, .int a, .int i])).length) Slot.unset).toArray = ls at hl ⊢
  have hl : lv_has ls 3 [(0, eV (ad 1) x), (1, .int a), (2, .int i)] := by simp [lv_args, eV_cat, cat_i, cat_l] at hl; exact hl
  refine ec_aload_n hx hb dX6_valueChar_0 rfl (lv_at hl 0 rfl) ?_
  refine cr_get (t := 1) (j := 4) (C := RX6) (T := TX6) (N := 8) (v := eV (ad 18) 0) hx hb htb inX6 hown hK hP hvx (by decide) (by decide) (by decide) rfl (by decide) (htb _ kw_70) (cV_c rfl (by decide) (by rw [show cMu 1 4 = 0 from rfl, Nat.zero_mul]; rfl)) dX6_valueChar_1 ?_
  refine ec_aload_n hx hb dX6_valueChar_4 rfl (lv_at hl 0 rfl) ?_
  refine cr_get (t := 1) (j := 2) (C := RX6) (T := TX6) (N := 8) (v := eV (ad 16) 0) hx hb htb inX6 hown hK hP hvx (by decide) (by decide) (by decide) rfl (by decide) (htb _ kw_68) (cV_c rfl (by decide) (by rw [show cMu 1 2 = 0 from rfl, Nat.zero_mul]; rfl)) dX6_valueChar_5 ?_
  refine lv_iload_n hx hb dX6_valueChar_8 rfl (lv_at hl 1 rfl) ?_
  refine cr_iald (t := 16) (z := (gm 44 (a : Int32).toNatClampNeg)) hx hb hK hP (iv_k (by decide) : iv 0 0 0) (by decide) (by decide) (by decide) rfl rfl (show vp_in a (cLen 16) from (show vp_in a 240 from (iv_in hva (by decide)))) rfl dX6_valueChar_9 ?_
  obtain ⟨z_1, ez_1⟩ : ∃ z : Int32, z = (gm 44 (a : Int32).toNatClampNeg) := ⟨_, rfl⟩
  refine W.eq (g2 := F0 m 10 ls [.int z_1, eV (ad 18) 0]) (by rw [ez_1]) ?_
  have hz_1 : iv 0 1200 z_1 := iv_of ez_1 (CI_a hI 44 hva (by decide))
  refine lv_iload_n hx hb dX6_valueChar_10 rfl (lv_at hl 2 rfl) ?_
  have hvs9 : (z_1 : Int32).toInt + (gm 45 a.toNatClampNeg).toInt ≤ (sg 6).toInt := by rw [ez_1]; exact hVS _ (lt_cl hva (show iv 0 240 (sg 5) from CI_s hI 5) (by decide) (by decide) hal)
  have h69 := (show iv 0 1200 (sg 6) from CI_s hI 6).2
  refine lv_iadd hx hb dX6_valueChar_11 ?_
  refine lv_topi (fun z_2 ez_2 => ?_)
  have hz_2 : iv 0 1223 z_2 := iv_of ez_2 (iv_add hz_1 hvi (by decide))
  have tz_2 : z_2.toInt = (z_1 : Int32).toInt + (i : Int32).toInt := by rw [ez_2]; exact iv_addE hz_1 hvi (by decide)
  refine cr_cald (t := 18) (z := (gm 46 (z_2 : Int32).toNatClampNeg)) hx hb hK hP (iv_k (by decide) : iv 0 0 0) (by decide) (by decide) (by decide) rfl rfl (show vp_in z_2 (cLen 18) from (show vp_in z_2 1200 from (vp_in_iff.mpr ⟨by have := i32_0; have := i32_1; have := i32_2; have := i32_m1; have := (show iv 0 240 (sg 5) from CI_s hI 5).1; have := (show iv 0 240 (sg 5) from CI_s hI 5).2; have := (hvx).1; have := (hvx).2; have := (hva).1; have := (hva).2; have := (hvi).1; have := (hvi).2; have := (hz_1).1; have := (hz_1).2; have := (hz_2).1; have := (hz_2).2; omega, by have := i32_0; have := i32_1; have := i32_2; have := i32_m1; have := (show iv 0 240 (sg 5) from CI_s hI 5).1; have := (show iv 0 240 (sg 5) from CI_s hI 5).2; have := (hvx).1; have := (hvx).2; have := (hva).1; have := (hva).2; have := (hvi).1; have := (hvi).2; have := (hz_1).1; have := (hz_1).2; have := (hz_2).1; have := (hz_2).2; omega⟩))) rfl dX6_valueChar_12 ?_
  obtain ⟨z_3, ez_3⟩ : ∃ z : Int32, z = (gm 46 (z_2 : Int32).toNatClampNeg) := ⟨_, rfl⟩
  refine W.eq (g2 := F0 m 13 ls [.int z_3]) (by rw [ez_3]) ?_
  have hz_3 : iv 0 65535 z_3 := iv_of ez_3 (CI_n hI 46 (show _ < crLen 46 from vin_lt (show vp_in z_2 1200 from (vp_in_iff.mpr ⟨by have := i32_0; have := i32_1; have := i32_2; have := i32_m1; have := (show iv 0 240 (sg 5) from CI_s hI 5).1; have := (show iv 0 240 (sg 5) from CI_s hI 5).2; have := (hvx).1; have := (hvx).2; have := (hva).1; have := (hva).2; have := (hvi).1; have := (hvi).2; have := (hz_1).1; have := (hz_1).2; have := (hz_2).1; have := (hz_2).2; omega, by have := i32_0; have := i32_1; have := i32_2; have := i32_m1; have := (show iv 0 240 (sg 5) from CI_s hI 5).1; have := (show iv 0 240 (sg 5) from CI_s hI 5).2; have := (hvx).1; have := (hvx).2; have := (hva).1; have := (hva).2; have := (hvi).1; have := (hvi).2; have := (hz_1).1; have := (hz_1).2; have := (hz_2).1; have := (hz_2).2; omega⟩))))
  exact W.nb (fun hN => W.widen (k := 1) (n := 6) (by decide) (by decide) (vx_ret (W.zret (v := z_3) hx hb hr (iv_ncr hz_3) (fun t ht hW => ⟨⟨some (.int z_3), (sg, gm, lg), rfl, ⟨z_3, rfl, rfl, hz_3, (by rw [ez_3, cl_add hz_1 hvi (by decide) (by decide) tz_2, ez_1])⟩, by rw [ht]; exact hP, va_K.moved hW.alike hK, hD⟩, hS.F ht, by rw [ht]; exact hN⟩) hS.2.2 dX6_valueChar_13)))
end
section
def chA (sg : Nat → Int32) (gm : Nat → Nat → Int32) (k : Int32) : Int32 := if 0 ≤ k.toInt ∧ k.toInt < (sg 8).toInt then gm 43 k.toNatClampNeg else 0
set_option maxHeartbeats 4000000 in
set_option maxRecDepth 100000 in
theorem d_charAt (l : Launch) (dC : Nat → ClassId) (dI : Nat → Nat → Nat) (ad : Nat → Nat → Nat) (cid : Nat → ClassId) (a2 : Nat → Nat) (lx : List Nat) (sg : Nat → Int32) (gm : Nat → Nat → Int32) (lg : Nat → Nat → Int64) (x : Int32) (k : Int32) (hI : CI sg gm) (hvx : iv 0 0 x) (hT : 0 ≤ (sg 7).toInt) : CMt dC dI ad cid a2 lx l yX7_charAt wm_X7_charAt ({ frames := 0, cells := 1, slots := 6, locals := 0 }) [eV (ad 2) x, .int k] sg gm lg (fun v u => ∃ r : Int32, v = some (.int r) ∧ u = (sg, gm, lg) ∧ (iv 0 65535 r) ∧ (r.toInt = 0 ∨ (0 ≤ k.toInt ∧ k.toInt < (sg 8).toInt)) ∧ (r = chA sg gm k)) (fun _ _ => False) := by
  intro sz
  refine vx_ofW (cc := cX7_charAt) (maxL := 2) (ret := (some .char)) (by decide) rfl ?_
  intro p e s m args below meth c s₁ B hml hxt hv
  obtain ⟨rfl, hsz, hP, hK, hD0, hG⟩ := hv
  have hx := B.exec
  have hb := B.bytes
  have hr := B.returns
  have hts := atoms_spec (ws := wm_X7_charAt) B.pre
  have htb := fun (w : Cond) (h : w ∈ tb) => hts w (List.mem_cons_of_mem _ h)
  have hown : s.vm.findClass RX7 = some m.cls := findClass_of_methodNamed B.named
  have hlocks := B.notSynchronized
  subst hsz
  have hD := hD0.self (sz := s.heap.size)
  generalize hAe : va_A (cW ad cid a2 lx sg gm lg) s.heap.size = A at hD hG ⊢
  have hA : ∀ q : Nat, s.heap.size ≤ q → A q := fun q h => by rw [← hAe]; exact Or.inr h
  have hS : va_S A s.heap s.heap [] := va_S.rf
  have hl := lv_entry ([eV (ad 2) x, .int k]) (n := 2) (by rw [show (lg_sl ([eV (ad 2) x, .int k])).length = 2 from by simp [lg_sl, eV_cat, cat_i, cat_l]]; exact Nat.le_of_ble_eq_true rfl)
  rw [lg_entry_eq]
  generalize (lg_sl ([eV (ad 2) x, .int k]) ++ List.replicate (2 - (lg_sl ([eV (ad 2) x, .int k])).length) Slot.unset).toArray = ls at hl ⊢
  have hl : lv_has ls 2 [(0, eV (ad 2) x), (1, .int k)] := by simp [lv_args, eV_cat, cat_i, cat_l] at hl; exact hl
  have h7 : iv 0 0 (sg 7) := ⟨hT, (show iv (-1) 0 (sg 7) from CI_s hI 7).2⟩
  have hj22 : ∀ (y0_22 : Int32) (_ : iv 0 0 x) (_ : iv 0 65535 y0_22) (_ : y0_22.toInt = 0 ∨ (0 ≤ k.toInt ∧ k.toInt < (sg 8).toInt)) (_ : y0_22 = chA sg gm k) (H : Heap) (locs : List Loc) (ls : Array Slot), va_P (dC, dI) vwCl (cW ad cid a2 lx sg gm lg) H → va_D A (cW ad cid a2 lx sg gm lg) → va_S A s.heap H locs → lv_has ls 2 [(0, eV (ad 2) x), (1, .int k)] → W p l e (headSpec wm_X7_charAt ({ frames := 0, cells := 1, slots := 6, locals := 0 })).room s m ([eV (ad 2) x, .int k] : List Value).toArray below meth c H locs 0 0 (vx_MQ below (cQx dC dI ad cid a2 lx (fun v u => ∃ r : Int32, v = some (.int r) ∧ u = (sg, gm, lg) ∧ (iv 0 65535 r) ∧ (r.toInt = 0 ∨ (0 ≤ k.toInt ∧ k.toInt < (sg 8).toInt)) ∧ (r = chA sg gm k)) A) (cX dC dI ad cid a2 lx (fun _ _ => False) A) ([eV (ad 2) x, .int k] : List Value).toArray s 1 6 A) (F0 m 22 ls [.int y0_22]) := by
    intro y0_22 hsx0_22 hy0_22 hc hd H locs ls hP hD hS hl
    exact W.nb (fun hN => W.widen (k := 1) (n := 6) (by decide) (by decide) (vx_ret (W.zret (v := y0_22) hx hb hr (iv_ncr hy0_22) (fun t ht hW => ⟨⟨some (.int y0_22), (sg, gm, lg), rfl, ⟨y0_22, rfl, rfl, hy0_22, (hc), (hd)⟩, by rw [ht]; exact hP, va_K.moved hW.alike hK, hD⟩, hS.F ht, by rw [ht]; exact hN⟩) hS.2.2 dX7_charAt_22)))
  have hj21 : ∀ (_ : iv 0 0 x) (_ : ¬ (0 ≤ k.toInt ∧ k.toInt < (sg 8).toInt)) (H : Heap) (locs : List Loc) (ls : Array Slot), va_P (dC, dI) vwCl (cW ad cid a2 lx sg gm lg) H → va_D A (cW ad cid a2 lx sg gm lg) → va_S A s.heap H locs → lv_has ls 2 [(0, eV (ad 2) x), (1, .int k)] → W p l e (headSpec wm_X7_charAt ({ frames := 0, cells := 1, slots := 6, locals := 0 })).room s m ([eV (ad 2) x, .int k] : List Value).toArray below meth c H locs 0 0 (vx_MQ below (cQx dC dI ad cid a2 lx (fun v u => ∃ r : Int32, v = some (.int r) ∧ u = (sg, gm, lg) ∧ (iv 0 65535 r) ∧ (r.toInt = 0 ∨ (0 ≤ k.toInt ∧ k.toInt < (sg 8).toInt)) ∧ (r = chA sg gm k)) A) (cX dC dI ad cid a2 lx (fun _ _ => False) A) ([eV (ad 2) x, .int k] : List Value).toArray s 1 6 A) (F0 m 21 ls []) := by
    intro  hsx0_21 hn21 H locs ls hP hD hS hl
    refine lv_iconst (v := 0) hx hb dX7_charAt_21 (by decide) ?_
    exact hj22 0 hsx0_21 (iv_w (iv_k (by decide) : iv 0 0 0) (by decide)) (Or.inl rfl) (by unfold chA; rw [if_neg hn21]) _ _ _ hP hD hS (lv_sub hl [0, 1] rfl)
  refine lv_iload_n hx hb dX7_charAt_0 rfl (lv_at hl 1 rfl) ?_
  refine lv_if_lt (tgt := 21) hx hb dX7_charAt_1 (by decide) (fun c_1 => ?_) (fun c_1 => ?_)
  · have h_2 : iv (-2147483648) (-1) k := iv_ltL c_1 (iv_all k) (iv_k (by decide) : iv 0 0 0) (by decide)
    exact hj21 hvx (by have := i32_0; have := i32_1; have := i32_2; have := i32_m1; have := (show iv 0 1200 (sg 8) from CI_s hI 8).1; have := (show iv 0 1200 (sg 8) from CI_s hI 8).2; have := (hvx).1; have := (hvx).2; have := (h7).1; have := (h7).2; have := (h_2).1; have := (h_2).2; omega) _ _ _ hP hD hS (lv_sub hl [0, 1] rfl)
  · have h_3 : iv 0 2147483647 k := iv_leR (i32_ge c_1) (iv_k (by decide) : iv 0 0 0) (iv_all k) (by decide)
    refine lv_iload_n hx hb dX7_charAt_4 rfl (lv_at hl 1 rfl) ?_
    refine ec_aload_n hx hb dX7_charAt_5 rfl (lv_at hl 0 rfl) ?_
    refine cr_get (t := 2) (j := 2) (C := RX7) (T := TX7) (N := 6) (v := .int (sg 8)) hx hb htb inX7 hown hK hP hvx (by decide) (by decide) (by decide) rfl (by decide) (htb _ kw_338) rfl dX7_charAt_6 ?_
    refine lv_icmp_ge (tgt := 21) hx hb dX7_charAt_9 (by decide) (fun c_4 => ?_) (fun c_4 => ?_)
    · have d_5 : ((sg 8) : Int32).toInt ≤ (k : Int32).toInt := Int32.le_iff_toInt_le.mp c_4
      exact hj21 hvx (by have := i32_0; have := i32_1; have := i32_2; have := i32_m1; have := (show iv 0 1200 (sg 8) from CI_s hI 8).1; have := (show iv 0 1200 (sg 8) from CI_s hI 8).2; have := (hvx).1; have := (hvx).2; have := (h7).1; have := (h7).2; have := (h_3).1; have := (h_3).2; have := ((show iv 0 1200 (sg 8) from CI_s hI 8)).1; have := ((show iv 0 1200 (sg 8) from CI_s hI 8)).2; omega) _ _ _ hP hD hS (lv_sub hl [0, 1] rfl)
    · have d_6 : (k : Int32).toInt < ((sg 8) : Int32).toInt := Int32.lt_iff_toInt_lt.mp (i32_lt c_4)
      have h_7 : iv 0 1199 k := iv_ltL (i32_lt c_4) h_3 (show iv 0 1200 (sg 8) from CI_s hI 8) (by decide)
      have h_8 : iv 1 1200 (sg 8) := iv_ltR (i32_lt c_4) h_3 (show iv 0 1200 (sg 8) from CI_s hI 8) (by decide)
      refine ec_aload_n hx hb dX7_charAt_12 rfl (lv_at hl 0 rfl) ?_
      refine cr_get (t := 2) (j := 1) (C := RX7) (T := TX7) (N := 6) (v := eV (ad 13) (sg 7)) hx hb htb inX7 hown hK hP hvx (by decide) (by decide) (by decide) rfl (by decide) (htb _ kw_337) rfl dX7_charAt_13 ?_
      refine lv_iload_n hx hb dX7_charAt_16 rfl (lv_at hl 1 rfl) ?_
      refine cr_cald (t := 13) (z := (gm 43 (k : Int32).toNatClampNeg)) hx hb hK hP h7 (by decide) (by decide) (by decide) rfl rfl (show vp_in k (cLen 13) from (show vp_in k 1200 from (iv_in h_7 (by decide)))) rfl dX7_charAt_17 ?_
      obtain ⟨z_9, ez_9⟩ : ∃ z : Int32, z = (gm 43 (k : Int32).toNatClampNeg) := ⟨_, rfl⟩
      refine W.eq (g2 := F0 m 18 ls [.int z_9]) (by rw [ez_9]) ?_
      have hz_9 : iv 0 65535 z_9 := iv_of ez_9 (CI_a hI 43 h_7 (by decide))
      refine lv_goto (tgt := 22) hx hb dX7_charAt_18 (by decide) ?_
      exact hj22 z_9 hvx hz_9 (Or.inr ⟨by have := i32_0; have := i32_1; have := i32_2; have := i32_m1; have := (show iv 0 1200 (sg 8) from CI_s hI 8).1; have := (show iv 0 1200 (sg 8) from CI_s hI 8).2; have := (hvx).1; have := (hvx).2; have := (h7).1; have := (h7).2; have := (h_7).1; have := (h_7).2; have := (h_8).1; have := (h_8).2; have := (hz_9).1; have := (hz_9).2; omega, by have := i32_0; have := i32_1; have := i32_2; have := i32_m1; have := (show iv 0 1200 (sg 8) from CI_s hI 8).1; have := (show iv 0 1200 (sg 8) from CI_s hI 8).2; have := (hvx).1; have := (hvx).2; have := (h7).1; have := (h7).2; have := (h_7).1; have := (h_7).2; have := (h_8).1; have := (h_8).2; have := (hz_9).1; have := (hz_9).2; omega⟩) (by unfold chA; rw [if_pos ⟨by have := i32_0; have := i32_1; have := i32_2; have := i32_m1; have := (show iv 0 1200 (sg 8) from CI_s hI 8).1; have := (show iv 0 1200 (sg 8) from CI_s hI 8).2; have := (hvx).1; have := (hvx).2; have := (h7).1; have := (h7).2; have := (h_7).1; have := (h_7).2; have := (h_8).1; have := (h_8).2; have := (hz_9).1; have := (hz_9).2; omega, by have := i32_0; have := i32_1; have := i32_2; have := i32_m1; have := (show iv 0 1200 (sg 8) from CI_s hI 8).1; have := (show iv 0 1200 (sg 8) from CI_s hI 8).2; have := (hvx).1; have := (hvx).2; have := (h7).1; have := (h7).2; have := (h_7).1; have := (h_7).2; have := (h_8).1; have := (h_8).2; have := (hz_9).1; have := (hz_9).2; omega⟩]; exact ez_9) _ _ _ hP hD hS (lv_sub hl [0, 1] rfl)

set_option maxHeartbeats 4000000 in
set_option maxRecDepth 100000 in
theorem d_isNameLetter (l : Launch) (dC : Nat → ClassId) (dI : Nat → Nat → Nat) (ad : Nat → Nat → Nat) (cid : Nat → ClassId) (a2 : Nat → Nat) (lx : List Nat) (sg : Nat → Int32) (gm : Nat → Nat → Int32) (lg : Nat → Nat → Int64) (cc : Int32) (hI : CI sg gm) (hvcc : iv 0 65535 cc) : CMt dC dI ad cid a2 lx l yX7_isNameLetter wm_X7_isNameLetter ({ frames := 0, cells := 1, slots := 6, locals := 0 }) [.int cc] sg gm lg (fun v u => ∃ r : Int32, v = some (.int r) ∧ u = (sg, gm, lg) ∧ (iv 0 1 r) ∧ (r.toInt = 0 ∧ (cc.toInt < 97 ∨ 122 < cc.toInt) ∨ r.toInt = 1 ∧ 97 ≤ cc.toInt ∧ cc.toInt ≤ 122)) (fun _ _ => False) := by
  intro sz
  refine vx_ofW (cc := cX7_isNameLetter) (maxL := 1) (ret := (some .boolean)) (by decide) rfl ?_
  intro p e s m args below meth c s₁ B hml hxt hv
  obtain ⟨rfl, hsz, hP, hK, hD0, hG⟩ := hv
  have hx := B.exec
  have hb := B.bytes
  have hr := B.returns
  have hts := atoms_spec (ws := wm_X7_isNameLetter) B.pre
  have htb := fun (w : Cond) (h : w ∈ tb) => hts w (List.mem_cons_of_mem _ h)
  have hown : s.vm.findClass RX7 = some m.cls := findClass_of_methodNamed B.named
  have hlocks := B.notSynchronized
  subst hsz
  have hD := hD0.self (sz := s.heap.size)
  generalize hAe : va_A (cW ad cid a2 lx sg gm lg) s.heap.size = A at hD hG ⊢
  have hA : ∀ q : Nat, s.heap.size ≤ q → A q := fun q h => by rw [← hAe]; exact Or.inr h
  have hS : va_S A s.heap s.heap [] := va_S.rf
  have hl := lv_entry ([.int cc]) (n := 1) (Nat.le_of_ble_eq_true rfl)
  rw [lg_entry_eq]
  generalize (lg_sl ([.int cc]) ++ List.replicate (1 - (lg_sl ([.int cc])).length) Slot.unset).toArray = ls at hl ⊢
  have hl : lv_has ls 1 [(0, .int cc)] := hl
  have hj17 : ∀ (y0_17 : Int32) (_ : iv 0 65535 cc) (_ : iv 0 1 y0_17) (_ : y0_17.toInt = 0 ∧ (cc.toInt < 97 ∨ 122 < cc.toInt) ∨ y0_17.toInt = 1 ∧ 97 ≤ cc.toInt ∧ cc.toInt ≤ 122) (H : Heap) (locs : List Loc) (ls : Array Slot), va_P (dC, dI) vwCl (cW ad cid a2 lx sg gm lg) H → va_D A (cW ad cid a2 lx sg gm lg) → va_S A s.heap H locs → lv_has ls 1 [(0, .int cc)] → W p l e (headSpec wm_X7_isNameLetter ({ frames := 0, cells := 1, slots := 6, locals := 0 })).room s m ([.int cc] : List Value).toArray below meth c H locs 0 0 (vx_MQ below (cQx dC dI ad cid a2 lx (fun v u => ∃ r : Int32, v = some (.int r) ∧ u = (sg, gm, lg) ∧ (iv 0 1 r) ∧ (r.toInt = 0 ∧ (cc.toInt < 97 ∨ 122 < cc.toInt) ∨ r.toInt = 1 ∧ 97 ≤ cc.toInt ∧ cc.toInt ≤ 122)) A) (cX dC dI ad cid a2 lx (fun _ _ => False) A) ([.int cc] : List Value).toArray s 1 6 A) (F0 m 17 ls [.int y0_17]) := by
    intro y0_17 hsx0_17 hy0_17 hc H locs ls hP hD hS hl
    exact W.nb (fun hN => W.widen (k := 1) (n := 6) (by decide) (by decide) (vx_ret (W.zret (v := y0_17) hx hb hr (iv_nb hy0_17) (fun t ht hW => ⟨⟨some (.int y0_17), (sg, gm, lg), rfl, ⟨y0_17, rfl, rfl, hy0_17, (hc)⟩, by rw [ht]; exact hP, va_K.moved hW.alike hK, hD⟩, hS.F ht, by rw [ht]; exact hN⟩) hS.2.2 dX7_isNameLetter_17)))
  have hj16 : ∀ (_ : iv 0 65535 cc) (_ : cc.toInt < 97 ∨ 122 < cc.toInt) (H : Heap) (locs : List Loc) (ls : Array Slot), va_P (dC, dI) vwCl (cW ad cid a2 lx sg gm lg) H → va_D A (cW ad cid a2 lx sg gm lg) → va_S A s.heap H locs → lv_has ls 1 [(0, .int cc)] → W p l e (headSpec wm_X7_isNameLetter ({ frames := 0, cells := 1, slots := 6, locals := 0 })).room s m ([.int cc] : List Value).toArray below meth c H locs 0 0 (vx_MQ below (cQx dC dI ad cid a2 lx (fun v u => ∃ r : Int32, v = some (.int r) ∧ u = (sg, gm, lg) ∧ (iv 0 1 r) ∧ (r.toInt = 0 ∧ (cc.toInt < 97 ∨ 122 < cc.toInt) ∨ r.toInt = 1 ∧ 97 ≤ cc.toInt ∧ cc.toInt ≤ 122)) A) (cX dC dI ad cid a2 lx (fun _ _ => False) A) ([.int cc] : List Value).toArray s 1 6 A) (F0 m 16 ls []) := by
    intro  hsx0_16 hnn H locs ls hP hD hS hl
    refine lv_iconst (v := 0) hx hb dX7_isNameLetter_16 (by decide) ?_
    exact hj17 0 hsx0_16 (iv_w (iv_k (by decide) : iv 0 0 0) (by decide)) (Or.inl ⟨rfl, hnn⟩) _ _ _ hP hD hS (lv_sub hl [0] rfl)
  refine lv_iload_n hx hb dX7_isNameLetter_0 rfl (lv_at hl 0 rfl) ?_
  refine lv_bipush (v := 97) hx hb dX7_isNameLetter_1 (by decide) ?_
  refine lv_icmp_lt (tgt := 16) hx hb dX7_isNameLetter_3 (by decide) (fun c_1 => ?_) (fun c_1 => ?_)
  · have h_2 : iv 0 96 cc := iv_ltL c_1 hvcc (iv_k (by decide) : iv 97 97 97) (by decide)
    exact hj16 (iv_w h_2 (by decide)) (by have := i32_0; have := i32_1; have := i32_2; have := i32_m1; have := (h_2).1; have := (h_2).2; omega) _ _ _ hP hD hS (lv_sub hl [0] rfl)
  · have h_3 : iv 97 65535 cc := iv_leR (i32_ge c_1) (iv_k (by decide) : iv 97 97 97) hvcc (by decide)
    refine lv_iload_n hx hb dX7_isNameLetter_6 rfl (lv_at hl 0 rfl) ?_
    refine lv_bipush (v := 122) hx hb dX7_isNameLetter_7 (by decide) ?_
    refine lv_icmp_gt (tgt := 16) hx hb dX7_isNameLetter_9 (by decide) (fun c_4 => ?_) (fun c_4 => ?_)
    · have h_5 : iv 123 65535 cc := iv_ltR c_4 (iv_k (by decide) : iv 122 122 122) h_3 (by decide)
      exact hj16 (iv_w h_5 (by decide)) (by have := i32_0; have := i32_1; have := i32_2; have := i32_m1; have := (h_5).1; have := (h_5).2; omega) _ _ _ hP hD hS (lv_sub hl [0] rfl)
    · have h_6 : iv 97 122 cc := iv_leL (i32_ge c_4) h_3 (iv_k (by decide) : iv 122 122 122) (by decide)
      refine lv_iconst (v := 1) hx hb dX7_isNameLetter_12 (by decide) ?_
      refine lv_goto (tgt := 17) hx hb dX7_isNameLetter_13 (by decide) ?_
      exact hj17 1 (iv_w h_6 (by decide)) (iv_w (iv_k (by decide) : iv 1 1 1) (by decide)) (Or.inr ⟨rfl, by have := i32_0; have := i32_1; have := i32_2; have := i32_m1; have := (h_6).1; have := (h_6).2; omega, by have := i32_0; have := i32_1; have := i32_2; have := i32_m1; have := (h_6).1; have := (h_6).2; omega⟩) _ _ _ hP hD hS (lv_sub hl [0] rfl)
end
section
def RDI (sg : Nat → Int32) (gm : Nat → Nat → Int32) : Prop := FA sg gm ∧ VS sg gm ∧ LK sg gm ∧ (sg 11).toInt < (sg 4).toInt ∧ BN sg gm
theorem RDI_k {L M : List Nat} {sg sg2 : Nat → Int32} {gm gm2 : Nat → Nat → Int32} (h : RDI sg gm) (hs : KS L sg sg2) (hg : KS M gm gm2) (d : (L.contains 4 = false ∧ L.contains 5 = false ∧ L.contains 6 = false ∧ L.contains 11 = false) ∧ M.contains 15 = false ∧ M.contains 16 = false ∧ M.contains 17 = false ∧ M.contains 19 = false ∧ M.contains 20 = false ∧ M.contains 44 = false ∧ M.contains 45 = false ∧ M.contains 27 = false) : RDI sg2 gm2 := by
  obtain ⟨⟨s4, s5, s6, s11⟩, g15, g16, g17, g19, g20, g44, g45, g27⟩ := d
  obtain ⟨h1, h2, h3, h4, h5⟩ := h
  exact ⟨FA_e h1 (hs 4 s4) (hs 5 s5) (hg 19 g19) (hg 20 g20), VS_e h2 (hs 5 s5) (hs 6 s6) (hg 44 g44) (hg 45 g45), LK_e h3 (hs 4 s4) (hg 15 g15) (hg 16 g16) (hg 17 g17), (by rw [hs 4 s4, hs 11 s11]; exact h4), BN_e h5 (hs 4 s4) (hg 27 g27)⟩
theorem RDI_a {L M : List Nat} {sg sg2 : Nat → Int32} {gm gm2 : Nat → Nat → Int32} (h : RDI sg gm) (hs : KS L sg sg2) (hg : KS M gm gm2) (hF : FA sg2 gm2) (hV : VS sg2 gm2) (d : (L.contains 4 = false ∧ L.contains 11 = false) ∧ M.contains 15 = false ∧ M.contains 16 = false ∧ M.contains 17 = false ∧ M.contains 27 = false) : RDI sg2 gm2 := by
  obtain ⟨⟨s4, s11⟩, g15, g16, g17, g27⟩ := d
  obtain ⟨h1, h2, h3, h4, h5⟩ := h
  exact ⟨hF, hV, LK_e h3 (hs 4 s4) (hg 15 g15) (hg 16 g16) (hg 17 g17), (by rw [hs 4 s4, hs 11 s11]; exact h4), BN_e h5 (hs 4 s4) (hg 27 g27)⟩
theorem RDI_t {L M : List Nat} {sg sg2 : Nat → Int32} {gm gm2 : Nat → Nat → Int32} (h : RDI sg gm) (hs : KS L sg sg2) (hg : KS M gm gm2) (hV : VS sg2 gm2) (d : (L.contains 4 = false ∧ L.contains 5 = false ∧ L.contains 11 = false) ∧ M.contains 15 = false ∧ M.contains 16 = false ∧ M.contains 17 = false ∧ M.contains 19 = false ∧ M.contains 20 = false ∧ M.contains 27 = false) : RDI sg2 gm2 := by
  obtain ⟨⟨s4, s5, s11⟩, g15, g16, g17, g19, g20, g27⟩ := d
  exact RDI_a h hs hg (FA_e h.1 (hs 4 s4) (hs 5 s5) (hg 19 g19) (hg 20 g20)) hV ⟨⟨s4, s11⟩, g15, g16, g17, g27⟩
theorem RDI_n {L M L1 M1 : List Nat} {sg sg1 sg2 : Nat → Int32} {gm gm1 gm2 : Nat → Nat → Int32} (h : RDI sg gm) (hF : FA sg1 gm1) (hL : LK sg1 gm1) (hB : BN sg1 gm1) (hs : KS L sg sg2) (hg : KS M gm gm2) (hs1 : KS L1 sg1 sg2) (hg1 : KS M1 gm1 gm2) (hlt : (sg2 11).toInt < (sg2 4).toInt) (d : (L.contains 5 = false ∧ L.contains 6 = false) ∧ (M.contains 44 = false ∧ M.contains 45 = false) ∧ (L1.contains 4 = false ∧ L1.contains 5 = false) ∧ M1.contains 15 = false ∧ M1.contains 16 = false ∧ M1.contains 17 = false ∧ M1.contains 19 = false ∧ M1.contains 20 = false ∧ M1.contains 27 = false) : RDI sg2 gm2 := by
  obtain ⟨⟨s5, s6⟩, ⟨g44, g45⟩, ⟨t4, t5⟩, g15, g16, g17, g19, g20, g27⟩ := d
  exact ⟨FA_e hF (hs1 4 t4) (hs1 5 t5) (hg1 19 g19) (hg1 20 g20), VS_e h.2.1 (hs 5 s5) (hs 6 s6) (hg 44 g44) (hg 45 g45), LK_e hL (hs1 4 t4) (hg1 15 g15) (hg1 16 g16) (hg1 17 g17), hlt, BN_e hB (hs1 4 t4) (hg1 27 g27)⟩
theorem RDI_l {sg sg2 : Nat → Int32} {gm : Nat → Nat → Int32} (h : RDI sg gm) (h0 : 0 ≤ (sg 11).toInt) (hs : KS [10, 11] sg sg2) (e11 : sg2 11 = gm 15 (sg 11).toNatClampNeg) : RDI sg2 gm := by
  obtain ⟨h1, h2, h3, h4, h5⟩ := h
  have q := (h3 (sg 11).toNatClampNeg (by
    have q1 : (sg 11).toNatClampNeg = (sg 11).toInt.toNat := rfl
    have q2 : (sg 4).toNatClampNeg = (sg 4).toInt.toNat := rfl
    omega)).1
  exact ⟨FA_e h1 (hs 4 rfl) (hs 5 rfl) rfl rfl, VS_e h2 (hs 5 rfl) (hs 6 rfl) rfl rfl, LK_e h3 (hs 4 rfl) rfl rfl rfl, (by rw [hs 4 rfl, e11]; exact q), BN_e h5 (hs 4 rfl) rfl⟩
theorem RDI_0 {sg : Nat → Int32} {gm : Nat → Nat → Int32} (h4 : (sg 4).toInt = 0) (h5 : (sg 5).toInt = 0) (h11 : (sg 11).toInt = -1) : RDI sg gm := by
  have q4 : (sg 4).toNatClampNeg = 0 := by
    have q2 : (sg 4).toNatClampNeg = (sg 4).toInt.toNat := rfl
    omega
  have q5 : (sg 5).toNatClampNeg = 0 := by
    have q2 : (sg 5).toNatClampNeg = (sg 5).toInt.toNat := rfl
    omega
  refine ⟨fun j hj => ?_, fun j hj => ?_, fun j hj => ?_, by omega, fun j hj => ?_⟩
  · rw [q4] at hj; exact absurd hj (Nat.not_lt_zero _)
  · rw [q5] at hj; exact absurd hj (Nat.not_lt_zero _)
  · rw [q4] at hj; exact absurd hj (Nat.not_lt_zero _)
  · rw [q4] at hj; exact absurd hj (Nat.not_lt_zero _)
end
section
/-- an element that stands in an arg or a set is a thing to be held -/
def HOK (gm : Nat → Nat → Int32) (j : Nat) : Prop := 0 ≤ (gm 15 j).toInt → ((gm 14 (gm 15 j).toNatClampNeg).toInt = 3 ∨ (gm 14 (gm 15 j).toNatClampNeg).toInt = 4) → (gm 14 j).toInt = 2 ∨ (6 ≤ (gm 14 j).toInt ∧ (gm 14 j).toInt ≤ 9)
/-- an element is right by itself -/
def SOK (gm : Nat → Nat → Int32) (lg : Nat → Nat → Int64) (j : Nat) : Prop := 0 ≤ (gm 14 j).toInt ∧ HOK gm j ∧ ((gm 14 j).toInt = 4 → LVP gm lg j (wKy.getD 21 0)) ∧ ((gm 14 j).toInt = 2 → ¬ ISI gm j 0 → ¬ HSK gm lg j (wKy.getD 10 0))
end
section
def FND9 (sg : Nat → Int32) (gm : Nat → Nat → Int32) : Prop := ∀ i, i < (sg 15).toNatClampNeg → 0 ≤ (gm 51 i).toInt
theorem FND9_add {sg sg2 : Nat → Int32} {gm gm2 : Nat → Nat → Int32} {b : Int32} (h : FND9 sg gm) (h0 : 0 ≤ (sg 15).toInt) (hb : 0 ≤ b.toInt) (h15 : (sg2 15).toInt = (sg 15).toInt + 1) (h51 : gm2 51 = upd (gm 51) (sg 15).toNatClampNeg b) : FND9 sg2 gm2 := by
  have k1 := cl_0 h0
  have k2 := cl_0 (x := sg2 15) (by omega)
  intro i hi
  rw [h51]
  by_cases q : i = (sg 15).toNatClampNeg
  · rw [q, upd_at]; exact hb
  · rw [upd_ne q]; exact h i (by omega)
theorem FND9_e {sg sg2 : Nat → Int32} {gm gm2 : Nat → Nat → Int32} (h : FND9 sg gm) (h15 : sg2 15 = sg 15) (h51 : gm2 51 = gm 51) : FND9 sg2 gm2 := by
  unfold FND9 at *; rw [h15, h51]; exact h

set_option maxHeartbeats 4000000 in
set_option maxRecDepth 100000 in
theorem d_countWi (l : Launch) (dC : Nat → ClassId) (dI : Nat → Nat → Nat) (ad : Nat → Nat → Nat) (cid : Nat → ClassId) (a2 : Nat → Nat) (lx : List Nat) (sg : Nat → Int32) (gm : Nat → Nat → Int32) (lg : Nat → Nat → Int64) (x : Int32) (hI : CI sg gm) (hvx : iv 0 0 x) : CMt dC dI ad cid a2 lx l yX10_count wm_X10_count ({ frames := 0, cells := 1, slots := 6, locals := 0 }) [eV (ad 4) x] sg gm lg (fun v u => ∃ r : Int32, v = some (.int r) ∧ u = (sg, gm, lg) ∧ (iv 0 80 r) ∧ (r = sg 12)) (fun _ _ => False) := by
  intro sz
  refine vx_ofW (cc := cX10_count) (maxL := 1) (ret := (some .int)) (by decide) rfl ?_
  intro p e s m args below meth c s₁ B hml hxt hv
  obtain ⟨rfl, hsz, hP, hK, hD0, hG⟩ := hv
  have hx := B.exec
  have hb := B.bytes
  have hr := B.returns
  have hts := atoms_spec (ws := wm_X10_count) B.pre
  have htb := fun (w : Cond) (h : w ∈ tb) => hts w (List.mem_cons_of_mem _ h)
  have hown : s.vm.findClass RX10 = some m.cls := findClass_of_methodNamed B.named
  have hlocks := B.notSynchronized
  subst hsz
  have hD := hD0.self (sz := s.heap.size)
  generalize hAe : va_A (cW ad cid a2 lx sg gm lg) s.heap.size = A at hD hG ⊢
  have hA : ∀ q : Nat, s.heap.size ≤ q → A q := fun q h => by rw [← hAe]; exact Or.inr h
  have hS : va_S A s.heap s.heap [] := va_S.rf
  have hl := lv_entry ([eV (ad 4) x]) (n := 1) (by rw [show (lg_sl ([eV (ad 4) x])).length = 1 from by simp [lg_sl, eV_cat, cat_i, cat_l]]; exact Nat.le_of_ble_eq_true rfl)
  rw [lg_entry_eq]
  generalize (lg_sl ([eV (ad 4) x]) ++ List.replicate (1 - (lg_sl ([eV (ad 4) x])).length) Slot.unset).toArray = ls at hl ⊢
  have hl : lv_has ls 1 [(0, eV (ad 4) x)] := by simp [lv_args, eV_cat, cat_i, cat_l] at hl; exact hl
  refine ec_aload_n hx hb dX10_count_0 rfl (lv_at hl 0 rfl) ?_
  refine cr_get (t := 4) (j := 3) (C := RX10) (T := TX10) (N := 4) (v := .int (sg 12)) hx hb htb inX10 hown hK hP hvx (by decide) (by decide) (by decide) rfl (by decide) (htb _ kw_325) rfl dX10_count_1 ?_
  exact W.nb (fun hN => W.widen (k := 1) (n := 6) (by decide) (by decide) (vx_ret (W.iret (v := (sg 12)) hx hb hr (fun t ht hW => ⟨⟨some (.int (sg 12)), (sg, gm, lg), rfl, ⟨(sg 12), rfl, rfl, (show iv 0 80 (sg 12) from CI_s hI 12), (rfl)⟩, by rw [ht]; exact hP, va_K.moved hW.alike hK, hD⟩, hS.F ht, by rw [ht]; exact hN⟩) hS.2.2 dX10_count_4)))

set_option maxHeartbeats 4000000 in
set_option maxRecDepth 100000 in
theorem d_numbered (l : Launch) (dC : Nat → ClassId) (dI : Nat → Nat → Nat) (ad : Nat → Nat → Nat) (cid : Nat → ClassId) (a2 : Nat → Nat) (lx : List Nat) (sg : Nat → Int32) (gm : Nat → Nat → Int32) (lg : Nat → Nat → Int64) (x : Int32) (k : Int32) (hI : CI sg gm) (hvx : iv 0 0 x) (hvk : iv 0 79 k) : CMt dC dI ad cid a2 lx l yX10_numbered wm_X10_numbered ({ frames := 0, cells := 1, slots := 6, locals := 0 }) [eV (ad 4) x, .int k] sg gm lg (fun v u => ∃ r : Int32, v = some (eV (ad 10) r) ∧ u = (sg, gm, lg) ∧ (iv 0 79 r) ∧ (r = k)) (fun _ _ => False) := by
  intro sz
  refine vx_ofW (cc := cX10_numbered) (maxL := 2) (ret := (some (.object "WiredBeans$Bean"))) (by decide) rfl ?_
  intro p e s m args below meth c s₁ B hml hxt hv
  obtain ⟨rfl, hsz, hP, hK, hD0, hG⟩ := hv
  have hx := B.exec
  have hb := B.bytes
  have hr := B.returns
  have hts := atoms_spec (ws := wm_X10_numbered) B.pre
  have htb := fun (w : Cond) (h : w ∈ tb) => hts w (List.mem_cons_of_mem _ h)
  have hown : s.vm.findClass RX10 = some m.cls := findClass_of_methodNamed B.named
  have hlocks := B.notSynchronized
  subst hsz
  have hD := hD0.self (sz := s.heap.size)
  generalize hAe : va_A (cW ad cid a2 lx sg gm lg) s.heap.size = A at hD hG ⊢
  have hA : ∀ q : Nat, s.heap.size ≤ q → A q := fun q h => by rw [← hAe]; exact Or.inr h
  have hS : va_S A s.heap s.heap [] := va_S.rf
  have hl := lv_entry ([eV (ad 4) x, .int k]) (n := 2) (by rw [show (lg_sl ([eV (ad 4) x, .int k])).length = 2 from by simp [lg_sl, eV_cat, cat_i, cat_l]]; exact Nat.le_of_ble_eq_true rfl)
  rw [lg_entry_eq]
  generalize (lg_sl ([eV (ad 4) x, .int k]) ++ List.replicate (2 - (lg_sl ([eV (ad 4) x, .int k])).length) Slot.unset).toArray = ls at hl ⊢
  have hl : lv_has ls 2 [(0, eV (ad 4) x), (1, .int k)] := by simp [lv_args, eV_cat, cat_i, cat_l] at hl; exact hl
  refine ec_aload_n hx hb dX10_numbered_0 rfl (lv_at hl 0 rfl) ?_
  refine cr_get (t := 4) (j := 1) (C := RX10) (T := TX10) (N := 4) (v := eV (ad 19) 0) hx hb htb inX10 hown hK hP hvx (by decide) (by decide) (by decide) rfl (by decide) (htb _ kw_88) (cV_c rfl (by decide) (by rw [show cMu 4 1 = 0 from rfl, Nat.zero_mul]; rfl)) dX10_numbered_1 ?_
  refine lv_iload_n hx hb dX10_numbered_4 rfl (lv_at hl 1 rfl) ?_
  refine cr_aald (t := 19) (C := RX1) (v := eV (ad 10) k) hx hb hK hP (iv_k (by decide) : iv 0 0 0) (by decide) (by decide) (by decide) (by decide) (by decide) rfl (show vp_in k (cLen 19) from (show vp_in k 80 from (iv_in hvk (by decide)))) (cAr_c (by decide) (hvk).1 (by rw [show cAm 19 = 0 from rfl, Nat.zero_mul, show cAo 19 = 0 from rfl]; omega)) dX10_numbered_5 ?_
  exact W.nb (fun hN => W.widen (k := 1) (n := 6) (by decide) (by decide) (vx_ret (W.aret (v := eV (ad 10) k) hx hb hr (Or.inl ⟨_, rfl⟩) (eV_is _ _) (fun t ht hW => ⟨⟨some (eV (ad 10) k), (sg, gm, lg), rfl, ⟨k, rfl, rfl, hvk, (rfl)⟩, by rw [ht]; exact hP, va_K.moved hW.alike hK, hD⟩, hS.F ht, by rw [ht]; exact hN⟩) hS.2.2 dX10_numbered_6)))

set_option maxHeartbeats 4000000 in
set_option maxRecDepth 100000 in
theorem d_forgetBeans (l : Launch) (dC : Nat → ClassId) (dI : Nat → Nat → Nat) (ad : Nat → Nat → Nat) (cid : Nat → ClassId) (a2 : Nat → Nat) (lx : List Nat) (sg : Nat → Int32) (gm : Nat → Nat → Int32) (lg : Nat → Nat → Int64) (x : Int32) (hI : CI sg gm) (hvx : iv 0 0 x) : CMt dC dI ad cid a2 lx l yX10_forgetBeans wm_X10_forgetBeans ({ frames := 0, cells := 1, slots := 6, locals := 0 }) [eV (ad 4) x] sg gm lg (fun v u => v = none ∧ ∃ (sg2 : Nat → Int32) (gm2 : Nat → Nat → Int32) (lg2 : Nat → Nat → Int64), u = (sg2, gm2, lg2) ∧ CI sg2 gm2 ∧ KS [12] sg sg2 ∧ KS [] gm gm2 ∧ KS [] lg lg2 ∧ ((sg2 12).toInt = 0)) (fun _ _ => False) := by
  intro sz
  refine vx_ofW (cc := cX10_forgetBeans) (maxL := 1) (ret := none) (by decide) rfl ?_
  intro p e s m args below meth c s₁ B hml hxt hv
  obtain ⟨rfl, hsz, hP, hK, hD0, hG⟩ := hv
  have hx := B.exec
  have hb := B.bytes
  have hr := B.returns
  have hts := atoms_spec (ws := wm_X10_forgetBeans) B.pre
  have htb := fun (w : Cond) (h : w ∈ tb) => hts w (List.mem_cons_of_mem _ h)
  have hown : s.vm.findClass RX10 = some m.cls := findClass_of_methodNamed B.named
  have hlocks := B.notSynchronized
  subst hsz
  have hD := hD0.self (sz := s.heap.size)
  generalize hAe : va_A (cW ad cid a2 lx sg gm lg) s.heap.size = A at hD hG ⊢
  have hA : ∀ q : Nat, s.heap.size ≤ q → A q := fun q h => by rw [← hAe]; exact Or.inr h
  have hS : va_S A s.heap s.heap [] := va_S.rf
  have hl := lv_entry ([eV (ad 4) x]) (n := 1) (by rw [show (lg_sl ([eV (ad 4) x])).length = 1 from by simp [lg_sl, eV_cat, cat_i, cat_l]]; exact Nat.le_of_ble_eq_true rfl)
  rw [lg_entry_eq]
  generalize (lg_sl ([eV (ad 4) x]) ++ List.replicate (1 - (lg_sl ([eV (ad 4) x])).length) Slot.unset).toArray = ls at hl ⊢
  have hl : lv_has ls 1 [(0, eV (ad 4) x)] := by simp [lv_args, eV_cat, cat_i, cat_l] at hl; exact hl
  refine ec_aload_n hx hb dX10_forgetBeans_0 rfl (lv_at hl 0 rfl) ?_
  refine lv_iconst (v := 0) hx hb dX10_forgetBeans_1 (by decide) ?_
  refine cr_puts (t := 4) (j := 3) (C := RX10) (T := TX10) (N := 4) (ty0 := tyX10) (k := 12) (y := 0) hx hb htb inX10 tyX10_ok nmX10 hown hK hP hD hS hvx (by decide) (by decide) (by decide) (by decide) rfl rfl rfl (by decide) (htb _ kw_325) rfl (by show Value.int 0 = Value.int (va_up sg 12 0 12); rw [va_up_self]) rfl rfl dX10_forgetBeans_2 (fun sg_1 H locs esg_1 hP hD hS => ?_)
  have hI_sg_1 := CI_put hI esg_1 (iv_k (by decide) : iv 0 0 0) (by decide)
  exact W.nb (fun hN => W.widen (k := 1) (n := 6) (by decide) (by decide) (vx_ret (W.vret hx hb hr (fun t ht hW => ⟨⟨none, (sg_1, gm, lg), rfl, ⟨rfl, sg_1, gm, lg, rfl, hI_sg_1, (KS_up KS_rf esg_1 (by decide)), KS_rf, KS_rf, (by have := i32_0; have := i32_1; have := i32_2; have := i32_m1; have : (sg_1 12).toInt = 0 := (by rw [up_at esg_1]; rfl); have := (hvx).1; have := (hvx).2; omega)⟩, by rw [ht]; exact hP, va_K.moved hW.alike hK, hD⟩, hS.F ht, by rw [ht]; exact hN⟩) hS.2.2 dX10_forgetBeans_5)))
end
section
set_option maxHeartbeats 4000000 in
set_option maxRecDepth 100000 in
theorem d_forgetMade (l : Launch) (dC : Nat → ClassId) (dI : Nat → Nat → Nat) (ad : Nat → Nat → Nat) (cid : Nat → ClassId) (a2 : Nat → Nat) (lx : List Nat) (sg : Nat → Int32) (gm : Nat → Nat → Int32) (lg : Nat → Nat → Int64) (x : Int32) (hI : CI sg gm) (hvx : iv 0 0 x) : CMt dC dI ad cid a2 lx l yX5_forgetMade wm_X5_forgetMade ({ frames := 1, cells := 1, slots := 6, locals := 21 }) [eV (ad 6) x] sg gm lg (fun v u => v = none ∧ ∃ (sg2 : Nat → Int32) (gm2 : Nat → Nat → Int32) (lg2 : Nat → Nat → Int64), u = (sg2, gm2, lg2) ∧ CI sg2 gm2 ∧ KS [15] sg sg2 ∧ KS [38] gm gm2 ∧ KS [] lg lg2 ∧ (∀ j9, j9 < (sg 12).toNatClampNeg → gm2 38 j9 = 0) ∧ ((sg2 15).toInt = 0)) (fun _ _ => False) := by
  intro sz
  refine vx_ofW (cc := cX5_forgetMade) (maxL := 2) (ret := none) (by decide) rfl ?_
  intro p e s m args below meth c s₁ B hml hxt hv
  obtain ⟨rfl, hsz, hP, hK, hD0, hG⟩ := hv
  have hx := B.exec
  have hb := B.bytes
  have hr := B.returns
  have hts := atoms_spec (ws := wm_X5_forgetMade) B.pre
  have htb := fun (w : Cond) (h : w ∈ tb) => hts w (List.mem_cons_of_mem _ h)
  have hown : s.vm.findClass RX5 = some m.cls := findClass_of_methodNamed B.named
  have hlocks := B.notSynchronized
  subst hsz
  have hD := hD0.self (sz := s.heap.size)
  generalize hAe : va_A (cW ad cid a2 lx sg gm lg) s.heap.size = A at hD hG ⊢
  have hA : ∀ q : Nat, s.heap.size ≤ q → A q := fun q h => by rw [← hAe]; exact Or.inr h
  have hS : va_S A s.heap s.heap [] := va_S.rf
  have hl := lv_entry ([eV (ad 6) x]) (n := 2) (by rw [show (lg_sl ([eV (ad 6) x])).length = 1 from by simp [lg_sl, eV_cat, cat_i, cat_l]]; exact Nat.le_of_ble_eq_true rfl)
  rw [lg_entry_eq]
  generalize (lg_sl ([eV (ad 6) x]) ++ List.replicate (2 - (lg_sl ([eV (ad 6) x])).length) Slot.unset).toArray = ls at hl ⊢
  have hl : lv_has ls 2 [(0, eV (ad 6) x)] := by simp [lv_args, eV_cat, cat_i, cat_l] at hl; exact hl
  have hj2 : ∀ (n : Nat) (gm_j2 : Nat → Nat → Int32) (x1_2 : Int32) (_ : (80 - x1_2.toInt).toNat = n) (_ : iv 0 80 x1_2) (_ : iv 0 0 x) (_ : KS [38] gm gm_j2) (_ : CI sg gm_j2) (_ : ∀ j9, j9 < x1_2.toNatClampNeg → gm_j2 38 j9 = 0) (H : Heap) (locs : List Loc) (ls : Array Slot), va_P (dC, dI) vwCl (cW ad cid a2 lx sg gm_j2 lg) H → va_D A (cW ad cid a2 lx sg gm_j2 lg) → va_S A s.heap H locs → lv_has ls 2 [(1, .int x1_2), (0, eV (ad 6) x)] → W p l e (headSpec wm_X5_forgetMade ({ frames := 1, cells := 1, slots := 6, locals := 21 })).room s m ([eV (ad 6) x] : List Value).toArray below meth c H locs 0 0 (vx_MQ below (cQx dC dI ad cid a2 lx (fun v u => v = none ∧ ∃ (sg2 : Nat → Int32) (gm2 : Nat → Nat → Int32) (lg2 : Nat → Nat → Int64), u = (sg2, gm2, lg2) ∧ CI sg2 gm2 ∧ KS [15] sg sg2 ∧ KS [38] gm gm2 ∧ KS [] lg lg2 ∧ (∀ j9, j9 < (sg 12).toNatClampNeg → gm2 38 j9 = 0) ∧ ((sg2 15).toInt = 0)) A) (cX dC dI ad cid a2 lx (fun _ _ => False) A) ([eV (ad 6) x] : List Value).toArray s 1 6 A) (F0 m 2 ls []) := by
    intro n
    induction n using Nat.strongRecOn with
    | ind n ih2 =>
      intro gm_j2 x1_2 hn2 hx1_2 hsx0_2 hkg_j2 hI_j2 hall H locs ls hP hD hS hl
      refine lv_iload_n hx hb dX5_forgetMade_2 rfl (lv_at hl 0 rfl) ?_
      refine ec_aload_n hx hb dX5_forgetMade_3 rfl (lv_at hl 1 rfl) ?_
      refine cr_get (t := 6) (j := 0) (C := RX5) (T := TX5) (N := 13) (v := eV (ad 4) 0) hx hb htb inX5 hown hK hP hsx0_2 (by decide) (by decide) (by decide) rfl (by decide) (htb _ kw_121) (cV_c rfl (by decide) (by rw [show cMu 6 0 = 0 from rfl, Nat.zero_mul]; rfl)) dX5_forgetMade_4 ?_
      refine cm_callV (t := 4) (C := RX10) (T := TX10) (N := 4) (rest := [.int x1_2]) (as := []) ⟨hx, hb, hml, hown, htb⟩ (d_countWi l dC dI ad cid a2 lx sg gm_j2 lg 0 hI_j2 (iv_k (by decide) : iv 0 0 0)) (cwV 0 htb (gd_V kw_322 kw_323 kw_324 kw_32 kw_1413) rfl rfl rfl (by decide +kernel) ⟨Nat.le_of_ble_eq_true rfl, Nat.le_of_ble_eq_true rfl⟩) (iv_k (by decide) : iv 0 0 0) (by decide) (by decide) rfl rfl hl.1 rfl (Nat.le_trans (cs_c (cat_i _) cs_n) (by decide)) dX5_forgetMade_7 ⟨Nat.le_of_ble_eq_true rfl, Nat.le_of_ble_eq_true rfl⟩ hK hP hD hS hA hG (fun E ce q9 u_2 H locs hw hP hD hS hce hcv hcl => ?_) (fun v9 u_2 H locs hw hP hD hS => ?_)
      · exact hw.elim
      obtain ⟨r_1, rfl, rfl, hr_1, fr_r_1⟩ := hw
      have hP : va_P (dC, dI) vwCl (cW ad cid a2 lx sg gm_j2 lg) H := hP
      have hD : va_D A (cW ad cid a2 lx sg gm_j2 lg) := hD
      refine W.eq (g2 := F0 m 10 ls [.int r_1, .int x1_2]) rfl ?_
      refine lv_icmp_ge (tgt := 31) hx hb dX5_forgetMade_10 (by decide) (fun c_4 => ?_) (fun c_4 => ?_)
      · have d_5 : (r_1 : Int32).toInt ≤ (x1_2 : Int32).toInt := Int32.le_iff_toInt_le.mp c_4
        refine ec_aload_n hx hb dX5_forgetMade_31 rfl (lv_at hl 1 rfl) ?_
        refine lv_iconst (v := 0) hx hb dX5_forgetMade_32 (by decide) ?_
        refine cr_puts (t := 6) (j := 7) (C := RX5) (T := TX5) (N := 13) (ty0 := tyX5) (k := 15) (y := 0) hx hb htb inX5 tyX5_ok nmX5 hown hK hP hD hS hsx0_2 (by decide) (by decide) (by decide) (by decide) rfl rfl rfl (by decide) (htb _ kw_321) rfl (by show Value.int 0 = Value.int (va_up sg 15 0 15); rw [va_up_self]) rfl rfl dX5_forgetMade_33 (fun sg_6 H locs esg_6 hP hD hS => ?_)
        have hI_sg_6 := CI_put hI_j2 esg_6 (iv_k (by decide) : iv 0 0 0) (by decide)
        exact W.nb (fun hN => W.widen (k := 1) (n := 6) (by decide) (by decide) (vx_ret (W.vret hx hb hr (fun t ht hW => ⟨⟨none, (sg_6, gm_j2, lg), rfl, ⟨rfl, sg_6, gm_j2, lg, rfl, hI_sg_6, (KS_up KS_rf esg_6 (by decide)), (KS_tr (L := [38]) KS_rf hkg_j2 (by decide)), KS_rf, (fun j9 q9 => by { rw [show gm_j2 38 = gm_j2 38 from rfl]; exact hall j9 (by have q1 : (sg 12).toNatClampNeg = (sg 12).toInt.toNat := rfl; have q2 : x1_2.toNatClampNeg = x1_2.toInt.toNat := rfl; have q3 := congrArg Int32.toInt fr_r_1; have := i32_0; have := i32_1; have := i32_2; have := i32_m1; have := congrArg Int32.toInt (show sg_6 12 = sg 12 from up_ne esg_6 (by decide)); have := (show iv 0 80 (sg 12) from CI_s hI 12).1; have := (show iv 0 80 (sg 12) from CI_s hI 12).2; have := (hsx0_2).1; have := (hsx0_2).2; have := (hx1_2).1; have := (hx1_2).2; have := (hr_1).1; have := (hr_1).2; omega) }), (by have := i32_0; have := i32_1; have := i32_2; have := i32_m1; have : (sg_6 15).toInt = 0 := (by rw [up_at esg_6]; rfl); have := (hsx0_2).1; have := (hsx0_2).2; have := (hx1_2).1; have := (hx1_2).2; have := (hr_1).1; have := (hr_1).2; omega)⟩, by rw [ht]; exact hP, va_K.moved hW.alike hK, hD⟩, hS.F ht, by rw [ht]; exact hN⟩) hS.2.2 dX5_forgetMade_36)))
      · have d_7 : (x1_2 : Int32).toInt < (r_1 : Int32).toInt := Int32.lt_iff_toInt_lt.mp (i32_lt c_4)
        have h_8 : iv 0 79 x1_2 := iv_ltL (i32_lt c_4) hx1_2 hr_1 (by decide)
        have h_9 : iv 1 80 r_1 := iv_ltR (i32_lt c_4) hx1_2 hr_1 (by decide)
        refine ec_aload_n hx hb dX5_forgetMade_13 rfl (lv_at hl 1 rfl) ?_
        refine cr_get (t := 6) (j := 0) (C := RX5) (T := TX5) (N := 13) (v := eV (ad 4) 0) hx hb htb inX5 hown hK hP hsx0_2 (by decide) (by decide) (by decide) rfl (by decide) (htb _ kw_121) (cV_c rfl (by decide) (by rw [show cMu 6 0 = 0 from rfl, Nat.zero_mul]; rfl)) dX5_forgetMade_14 ?_
        refine lv_iload_n hx hb dX5_forgetMade_17 rfl (lv_at hl 0 rfl) ?_
        refine cm_callV (t := 4) (C := RX10) (T := TX10) (N := 4) (rest := []) (as := [.int x1_2]) ⟨hx, hb, hml, hown, htb⟩ (d_numbered l dC dI ad cid a2 lx sg gm_j2 lg 0 x1_2 hI_j2 (iv_k (by decide) : iv 0 0 0) h_8) (cwV 1 htb (gd_V kw_326 kw_327 kw_328 kw_32 kw_1414) rfl rfl rfl (by decide +kernel) ⟨Nat.le_of_ble_eq_true rfl, Nat.le_of_ble_eq_true rfl⟩) (iv_k (by decide) : iv 0 0 0) (by decide) (by decide) rfl rfl hl.1 rfl (Nat.le_trans cs_n (by decide)) dX5_forgetMade_18 ⟨Nat.le_of_ble_eq_true rfl, Nat.le_of_ble_eq_true rfl⟩ hK hP hD hS hA hG (fun E ce q9 u_11 H locs hw hP hD hS hce hcv hcl => ?_) (fun v9 u_11 H locs hw hP hD hS => ?_)
        · exact hw.elim
        obtain ⟨r_10, rfl, rfl, hr_10, fr_r_10⟩ := hw
        have hP : va_P (dC, dI) vwCl (cW ad cid a2 lx sg gm_j2 lg) H := hP
        have hD : va_D A (cW ad cid a2 lx sg gm_j2 lg) := hD
        refine W.eq (g2 := F0 m 21 ls [eV (ad 10) r_10]) rfl ?_
        refine lv_iconst (v := 0) hx hb dX5_forgetMade_21 (by decide) ?_
        refine cr_putg (t := 10) (j := 17) (C := RX1) (T := TX1) (N := 19) (ty0 := tyX1) (k := 38) (y := 0) hx hb htb inX1 tyX1_ok nmX1 hown hK hP hD hS hr_10 (by decide) (by decide) (by decide) (by decide) rfl rfl (by decide) (htb _ kw_320) rfl (by show Value.int 0 = Value.int (va_up gm_j2 38 (upd (gm_j2 38) r_10.toNatClampNeg 0) 38 r_10.toNatClampNeg); rw [va_up_self, upd_at]) (iv_nb (iv_w (iv_k (by decide) : iv 0 0 0) (by decide))) (iv_fb (iv_w (iv_k (by decide) : iv 0 0 0) (by decide))) dX5_forgetMade_22 (fun gm_13 H locs egm_13 hP hD hS => ?_)
        have hI_gm_13 := CI_st hI_j2 egm_13 (iv_k (by decide) : iv 0 0 0) (by decide)
        obtain ⟨z_14, ez_14⟩ : ∃ z : Int32, z = x1_2 + 1 := ⟨_, rfl⟩
        have hz_14 : iv 1 80 z_14 := iv_of ez_14 (iv_add h_8 (iv_k (by decide) : iv 1 1 1) (by decide))
        have tz_14 : z_14.toInt = x1_2.toInt + 1 := by rw [ez_14]; exact iv_addE h_8 (iv_k (by decide) : iv 1 1 1) (by decide)
        refine lv_iinc (v := z_14) (lv' := [(1, .int z_14), (0, eV (ad 6) x)]) hx hb dX5_forgetMade_25 hl (k := 0) rfl ez_14.symm (by decide) (by simp [List.filter, eV_cat, cat_i, cat_l]) (fun ls hl => ?_)
        refine lv_goto (tgt := 2) hx hb dX5_forgetMade_28 (by decide) ?_
        exact ih2 _ (by rw [← hn2]; exact (iv_meas tz_14 h_8 (by decide))) gm_13 z_14 rfl (iv_w hz_14 (by decide)) hsx0_2 (KS_up (KS_tr (L := [38]) KS_rf hkg_j2 (by decide)) egm_13 (by decide)) hI_gm_13 (fun j9 q9 => by { rw [show gm_13 38 = _ from up_at egm_13]; by_cases q8 : j9 = r_10.toNatClampNeg; { rw [q8, upd_at] }; { rw [upd_ne q8]; exact hall j9 (by have q1 : z_14.toNatClampNeg = z_14.toInt.toNat := rfl; have q2 : x1_2.toNatClampNeg = x1_2.toInt.toNat := rfl; rw [fr_r_10] at q8; have := i32_0; have := i32_1; have := i32_2; have := i32_m1; have := (hsx0_2).1; have := (hsx0_2).2; have := (h_8).1; have := (h_8).2; have := (h_9).1; have := (h_9).2; have := (hr_10).1; have := (hr_10).2; have := (hz_14).1; have := (hz_14).2; omega) } }) _ _ _ hP hD hS (lv_sub hl [0, 1] rfl)
  refine lv_iconst (v := 0) hx hb dX5_forgetMade_0 (by decide) ?_
  refine lv_istore_n (i := 1) (lv' := [(1, .int 0), (0, eV (ad 6) x)]) hx hb dX5_forgetMade_1 rfl hl (by decide) (by simp [List.filter, eV_cat, cat_i, cat_l]) (fun ls hl => ?_)
  exact hj2 _ gm 0 rfl (iv_w (iv_k (by decide) : iv 0 0 0) (by decide)) hvx KS_rf hI (fun _ q9 => absurd q9 (Nat.not_lt_zero _)) _ _ _ hP hD hS (lv_sub hl [0, 1] rfl)

set_option maxHeartbeats 4000000 in
set_option maxRecDepth 100000 in
theorem d_forgetFailure (l : Launch) (dC : Nat → ClassId) (dI : Nat → Nat → Nat) (ad : Nat → Nat → Nat) (cid : Nat → ClassId) (a2 : Nat → Nat) (lx : List Nat) (sg : Nat → Int32) (gm : Nat → Nat → Int32) (lg : Nat → Nat → Int64) (x : Int32) (hI : CI sg gm) (hvx : iv 0 0 x) : CMt dC dI ad cid a2 lx l yX5_forgetFailure wm_X5_forgetFailure ({ frames := 0, cells := 1, slots := 6, locals := 0 }) [eV (ad 6) x] sg gm lg (fun v u => v = none ∧ ∃ (sg2 : Nat → Int32) (gm2 : Nat → Nat → Int32) (lg2 : Nat → Nat → Int64), u = (sg2, gm2, lg2) ∧ CI sg2 gm2 ∧ KS [17, 18] sg sg2 ∧ KS [] gm gm2 ∧ KS [] lg lg2) (fun _ _ => False) := by
  intro sz
  refine vx_ofW (cc := cX5_forgetFailure) (maxL := 1) (ret := none) (by decide) rfl ?_
  intro p e s m args below meth c s₁ B hml hxt hv
  obtain ⟨rfl, hsz, hP, hK, hD0, hG⟩ := hv
  have hx := B.exec
  have hb := B.bytes
  have hr := B.returns
  have hts := atoms_spec (ws := wm_X5_forgetFailure) B.pre
  have htb := fun (w : Cond) (h : w ∈ tb) => hts w (List.mem_cons_of_mem _ h)
  have hown : s.vm.findClass RX5 = some m.cls := findClass_of_methodNamed B.named
  have hlocks := B.notSynchronized
  subst hsz
  have hD := hD0.self (sz := s.heap.size)
  generalize hAe : va_A (cW ad cid a2 lx sg gm lg) s.heap.size = A at hD hG ⊢
  have hA : ∀ q : Nat, s.heap.size ≤ q → A q := fun q h => by rw [← hAe]; exact Or.inr h
  have hS : va_S A s.heap s.heap [] := va_S.rf
  have hl := lv_entry ([eV (ad 6) x]) (n := 1) (by rw [show (lg_sl ([eV (ad 6) x])).length = 1 from by simp [lg_sl, eV_cat, cat_i, cat_l]]; exact Nat.le_of_ble_eq_true rfl)
  rw [lg_entry_eq]
  generalize (lg_sl ([eV (ad 6) x]) ++ List.replicate (1 - (lg_sl ([eV (ad 6) x])).length) Slot.unset).toArray = ls at hl ⊢
  have hl : lv_has ls 1 [(0, eV (ad 6) x)] := by simp [lv_args, eV_cat, cat_i, cat_l] at hl; exact hl
  refine ec_aload_n hx hb dX5_forgetFailure_0 rfl (lv_at hl 0 rfl) ?_
  refine lv_iconst (v := 0) hx hb dX5_forgetFailure_1 (by decide) ?_
  refine cr_puts (t := 6) (j := 11) (C := RX5) (T := TX5) (N := 13) (ty0 := tyX5) (k := 17) (y := 0) hx hb htb inX5 tyX5_ok nmX5 hown hK hP hD hS hvx (by decide) (by decide) (by decide) (by decide) rfl rfl rfl (by decide) (htb _ kw_973) rfl (by show Value.int 0 = Value.int (va_up sg 17 0 17); rw [va_up_self]) rfl rfl dX5_forgetFailure_2 (fun sg_1 H locs esg_1 hP hD hS => ?_)
  have hI_sg_1 := CI_put hI esg_1 (iv_k (by decide) : iv 0 0 0) (by decide)
  refine ec_aload_n hx hb dX5_forgetFailure_5 rfl (lv_at hl 0 rfl) ?_
  refine lv_iconst (v := (-1)) hx hb dX5_forgetFailure_6 (by decide) ?_
  refine cr_puts (t := 6) (j := 12) (C := RX5) (T := TX5) (N := 13) (ty0 := tyX5) (k := 18) (y := (-1)) hx hb htb inX5 tyX5_ok nmX5 hown hK hP hD hS hvx (by decide) (by decide) (by decide) (by decide) rfl rfl rfl (by decide) (htb _ kw_130) rfl (by show Value.int (-1) = Value.int (va_up sg_1 18 (-1) 18); rw [va_up_self]) rfl rfl dX5_forgetFailure_7 (fun sg_2 H locs esg_2 hP hD hS => ?_)
  have hI_sg_2 := CI_put hI_sg_1 esg_2 (iv_k (by decide) : iv (-1) (-1) (-1)) (by decide)
  exact W.nb (fun hN => W.widen (k := 1) (n := 6) (by decide) (by decide) (vx_ret (W.vret hx hb hr (fun t ht hW => ⟨⟨none, (sg_2, gm, lg), rfl, ⟨rfl, sg_2, gm, lg, rfl, hI_sg_2, (KS_up (KS_up KS_rf esg_1 (by decide)) esg_2 (by decide)), KS_rf, KS_rf⟩, by rw [ht]; exact hP, va_K.moved hW.alike hK, hD⟩, hS.F ht, by rw [ht]; exact hN⟩) hS.2.2 dX5_forgetFailure_10)))

set_option maxHeartbeats 4000000 in
set_option maxRecDepth 100000 in
theorem d_failure (l : Launch) (dC : Nat → ClassId) (dI : Nat → Nat → Nat) (ad : Nat → Nat → Nat) (cid : Nat → ClassId) (a2 : Nat → Nat) (lx : List Nat) (sg : Nat → Int32) (gm : Nat → Nat → Int32) (lg : Nat → Nat → Int64) (x : Int32) (hI : CI sg gm) (hvx : iv 0 0 x) : CMt dC dI ad cid a2 lx l yX5_failure wm_X5_failure ({ frames := 0, cells := 1, slots := 6, locals := 0 }) [eV (ad 6) x] sg gm lg (fun v u => ∃ r : Int32, v = some (.int r) ∧ u = (sg, gm, lg) ∧ (iv 0 8 r)) (fun _ _ => False) := by
  intro sz
  refine vx_ofW (cc := cX5_failure) (maxL := 1) (ret := (some .int)) (by decide) rfl ?_
  intro p e s m args below meth c s₁ B hml hxt hv
  obtain ⟨rfl, hsz, hP, hK, hD0, hG⟩ := hv
  have hx := B.exec
  have hb := B.bytes
  have hr := B.returns
  have hts := atoms_spec (ws := wm_X5_failure) B.pre
  have htb := fun (w : Cond) (h : w ∈ tb) => hts w (List.mem_cons_of_mem _ h)
  have hown : s.vm.findClass RX5 = some m.cls := findClass_of_methodNamed B.named
  have hlocks := B.notSynchronized
  subst hsz
  have hD := hD0.self (sz := s.heap.size)
  generalize hAe : va_A (cW ad cid a2 lx sg gm lg) s.heap.size = A at hD hG ⊢
  have hA : ∀ q : Nat, s.heap.size ≤ q → A q := fun q h => by rw [← hAe]; exact Or.inr h
  have hS : va_S A s.heap s.heap [] := va_S.rf
  have hl := lv_entry ([eV (ad 6) x]) (n := 1) (by rw [show (lg_sl ([eV (ad 6) x])).length = 1 from by simp [lg_sl, eV_cat, cat_i, cat_l]]; exact Nat.le_of_ble_eq_true rfl)
  rw [lg_entry_eq]
  generalize (lg_sl ([eV (ad 6) x]) ++ List.replicate (1 - (lg_sl ([eV (ad 6) x])).length) Slot.unset).toArray = ls at hl ⊢
  have hl : lv_has ls 1 [(0, eV (ad 6) x)] := by simp [lv_args, eV_cat, cat_i, cat_l] at hl; exact hl
  refine ec_aload_n hx hb dX5_failure_0 rfl (lv_at hl 0 rfl) ?_
  refine cr_get (t := 6) (j := 11) (C := RX5) (T := TX5) (N := 13) (v := .int (sg 17)) hx hb htb inX5 hown hK hP hvx (by decide) (by decide) (by decide) rfl (by decide) (htb _ kw_973) rfl dX5_failure_1 ?_
  exact W.nb (fun hN => W.widen (k := 1) (n := 6) (by decide) (by decide) (vx_ret (W.iret (v := (sg 17)) hx hb hr (fun t ht hW => ⟨⟨some (.int (sg 17)), (sg, gm, lg), rfl, ⟨(sg 17), rfl, rfl, (show iv 0 8 (sg 17) from CI_s hI 17)⟩, by rw [ht]; exact hP, va_K.moved hW.alike hK, hD⟩, hS.F ht, by rw [ht]; exact hN⟩) hS.2.2 dX5_failure_4)))

set_option maxHeartbeats 4000000 in
set_option maxRecDepth 100000 in
theorem d_failureBean (l : Launch) (dC : Nat → ClassId) (dI : Nat → Nat → Nat) (ad : Nat → Nat → Nat) (cid : Nat → ClassId) (a2 : Nat → Nat) (lx : List Nat) (sg : Nat → Int32) (gm : Nat → Nat → Int32) (lg : Nat → Nat → Int64) (x : Int32) (hI : CI sg gm) (hvx : iv 0 0 x) : CMt dC dI ad cid a2 lx l yX5_failureBean wm_X5_failureBean ({ frames := 0, cells := 1, slots := 6, locals := 0 }) [eV (ad 6) x] sg gm lg (fun v u => ∃ r : Int32, v = some (.int r) ∧ u = (sg, gm, lg) ∧ (iv (-1) 79 r)) (fun _ _ => False) := by
  intro sz
  refine vx_ofW (cc := cX5_failureBean) (maxL := 1) (ret := (some .int)) (by decide) rfl ?_
  intro p e s m args below meth c s₁ B hml hxt hv
  obtain ⟨rfl, hsz, hP, hK, hD0, hG⟩ := hv
  have hx := B.exec
  have hb := B.bytes
  have hr := B.returns
  have hts := atoms_spec (ws := wm_X5_failureBean) B.pre
  have htb := fun (w : Cond) (h : w ∈ tb) => hts w (List.mem_cons_of_mem _ h)
  have hown : s.vm.findClass RX5 = some m.cls := findClass_of_methodNamed B.named
  have hlocks := B.notSynchronized
  subst hsz
  have hD := hD0.self (sz := s.heap.size)
  generalize hAe : va_A (cW ad cid a2 lx sg gm lg) s.heap.size = A at hD hG ⊢
  have hA : ∀ q : Nat, s.heap.size ≤ q → A q := fun q h => by rw [← hAe]; exact Or.inr h
  have hS : va_S A s.heap s.heap [] := va_S.rf
  have hl := lv_entry ([eV (ad 6) x]) (n := 1) (by rw [show (lg_sl ([eV (ad 6) x])).length = 1 from by simp [lg_sl, eV_cat, cat_i, cat_l]]; exact Nat.le_of_ble_eq_true rfl)
  rw [lg_entry_eq]
  generalize (lg_sl ([eV (ad 6) x]) ++ List.replicate (1 - (lg_sl ([eV (ad 6) x])).length) Slot.unset).toArray = ls at hl ⊢
  have hl : lv_has ls 1 [(0, eV (ad 6) x)] := by simp [lv_args, eV_cat, cat_i, cat_l] at hl; exact hl
  refine ec_aload_n hx hb dX5_failureBean_0 rfl (lv_at hl 0 rfl) ?_
  refine cr_get (t := 6) (j := 12) (C := RX5) (T := TX5) (N := 13) (v := .int (sg 18)) hx hb htb inX5 hown hK hP hvx (by decide) (by decide) (by decide) rfl (by decide) (htb _ kw_130) rfl dX5_failureBean_1 ?_
  exact W.nb (fun hN => W.widen (k := 1) (n := 6) (by decide) (by decide) (vx_ret (W.iret (v := (sg 18)) hx hb hr (fun t ht hW => ⟨⟨some (.int (sg 18)), (sg, gm, lg), rfl, ⟨(sg 18), rfl, rfl, (show iv (-1) 79 (sg 18) from CI_s hI 18)⟩, by rw [ht]; exact hP, va_K.moved hW.alike hK, hD⟩, hS.F ht, by rw [ht]; exact hN⟩) hS.2.2 dX5_failureBean_4)))

set_option maxHeartbeats 4000000 in
set_option maxRecDepth 100000 in
theorem d_slot (l : Launch) (dC : Nat → ClassId) (dI : Nat → Nat → Nat) (ad : Nat → Nat → Nat) (cid : Nat → ClassId) (a2 : Nat → Nat) (lx : List Nat) (sg : Nat → Int32) (gm : Nat → Nat → Int32) (lg : Nat → Nat → Int64) (dp : Int32) (a : Int32) (hI : CI sg gm) (hvdp : iv 0 39 dp) (hva : iv 0 3 a) : CMt dC dI ad cid a2 lx l yX5_slot wm_X5_slot ({ frames := 0, cells := 1, slots := 6, locals := 0 }) [.int dp, .int a] sg gm lg (fun v u => ∃ r : Int32, v = some (.int r) ∧ u = (sg, gm, lg) ∧ (iv 0 954 r) ∧ (r.toInt = 24 * dp.toInt + 6 * a.toInt)) (fun _ _ => False) := by
  intro sz
  refine vx_ofW (cc := cX5_slot) (maxL := 2) (ret := (some .int)) (by decide) rfl ?_
  intro p e s m args below meth c s₁ B hml hxt hv
  obtain ⟨rfl, hsz, hP, hK, hD0, hG⟩ := hv
  have hx := B.exec
  have hb := B.bytes
  have hr := B.returns
  have hts := atoms_spec (ws := wm_X5_slot) B.pre
  have htb := fun (w : Cond) (h : w ∈ tb) => hts w (List.mem_cons_of_mem _ h)
  have hown : s.vm.findClass RX5 = some m.cls := findClass_of_methodNamed B.named
  have hlocks := B.notSynchronized
  subst hsz
  have hD := hD0.self (sz := s.heap.size)
  generalize hAe : va_A (cW ad cid a2 lx sg gm lg) s.heap.size = A at hD hG ⊢
  have hA : ∀ q : Nat, s.heap.size ≤ q → A q := fun q h => by rw [← hAe]; exact Or.inr h
  have hS : va_S A s.heap s.heap [] := va_S.rf
  have hl := lv_entry ([.int dp, .int a]) (n := 2) (Nat.le_of_ble_eq_true rfl)
  rw [lg_entry_eq]
  generalize (lg_sl ([.int dp, .int a]) ++ List.replicate (2 - (lg_sl ([.int dp, .int a])).length) Slot.unset).toArray = ls at hl ⊢
  have hl : lv_has ls 2 [(0, .int dp), (1, .int a)] := hl
  refine lv_iload_n hx hb dX5_slot_0 rfl (lv_at hl 0 rfl) ?_
  refine lv_bipush (v := 24) hx hb dX5_slot_1 (by decide) ?_
  refine lv_imul hx hb dX5_slot_3 ?_
  refine lv_topi (fun z_1 ez_1 => ?_)
  have hz_1 : iv 0 936 z_1 := iv_of ez_1 (iv_mul hvdp (iv_k (by decide) : iv 24 24 24) (by decide))
  have tz_1 : z_1.toInt = (dp : Int32).toInt * 24 := by rw [ez_1]; exact iv_mulE hvdp (iv_k (by decide) : iv 24 24 24) (by decide)
  refine lv_iload_n hx hb dX5_slot_4 rfl (lv_at hl 1 rfl) ?_
  refine lv_bipush (v := 6) hx hb dX5_slot_5 (by decide) ?_
  refine lv_imul hx hb dX5_slot_7 ?_
  refine lv_topi (fun z_2 ez_2 => ?_)
  have hz_2 : iv 0 18 z_2 := iv_of ez_2 (iv_mul hva (iv_k (by decide) : iv 6 6 6) (by decide))
  have tz_2 : z_2.toInt = (a : Int32).toInt * 6 := by rw [ez_2]; exact iv_mulE hva (iv_k (by decide) : iv 6 6 6) (by decide)
  refine lv_iadd hx hb dX5_slot_8 ?_
  refine lv_topi (fun z_3 ez_3 => ?_)
  have hz_3 : iv 0 954 z_3 := iv_of ez_3 (iv_add hz_1 hz_2 (by decide))
  have tz_3 : z_3.toInt = (z_1 : Int32).toInt + (z_2 : Int32).toInt := by rw [ez_3]; exact iv_addE hz_1 hz_2 (by decide)
  exact W.nb (fun hN => W.widen (k := 1) (n := 6) (by decide) (by decide) (vx_ret (W.iret (v := z_3) hx hb hr (fun t ht hW => ⟨⟨some (.int z_3), (sg, gm, lg), rfl, ⟨z_3, rfl, rfl, hz_3, (by have := i32_0; have := i32_1; have := i32_2; have := i32_m1; have := (hvdp).1; have := (hvdp).2; have := (hva).1; have := (hva).2; have := (hz_1).1; have := (hz_1).2; have := (hz_2).1; have := (hz_2).2; have := (hz_3).1; have := (hz_3).2; omega)⟩, by rw [ht]; exact hP, va_K.moved hW.alike hK, hD⟩, hS.F ht, by rw [ht]; exact hN⟩) hS.2.2 dX5_slot_9)))

set_option maxHeartbeats 4000000 in
set_option maxRecDepth 100000 in
theorem d_failWith (l : Launch) (dC : Nat → ClassId) (dI : Nat → Nat → Nat) (ad : Nat → Nat → Nat) (cid : Nat → ClassId) (a2 : Nat → Nat) (lx : List Nat) (sg : Nat → Int32) (gm : Nat → Nat → Int32) (lg : Nat → Nat → Int64) (hl9 : l.stackTraces = false) (x : Int32) (n : Int32) (hI : CI sg gm) (hvx : iv 0 0 x) (hvn : iv 0 8 n) : CMt dC dI ad cid a2 lx l yX5_failWith wm_X5_failWith ({ frames := 6, cells := 1, slots := 6, locals := 120 }) [eV (ad 6) x, .int n] sg gm lg (fun v u => ∃ r : Int32, v = some (.int r) ∧ ∃ (sg2 : Nat → Int32) (gm2 : Nat → Nat → Int32) (lg2 : Nat → Nat → Int64), u = (sg2, gm2, lg2) ∧ CI sg2 gm2 ∧ KS [17, 18] sg sg2 ∧ KS [] gm gm2 ∧ KS [] lg lg2 ∧ (False)) (fun E u => (E = "java/lang/UnsupportedOperationException") ∧ ∃ (sg2 : Nat → Int32) (gm2 : Nat → Nat → Int32) (lg2 : Nat → Nat → Int64), u = (sg2, gm2, lg2) ∧ CI sg2 gm2 ∧ KS [17, 18] sg sg2 ∧ KS [] gm gm2 ∧ KS [] lg lg2) := by
  intro sz
  refine vx_ofW (cc := cX5_failWith) (maxL := 2) (ret := (some .int)) (by decide) rfl ?_
  intro p e s m args below meth c s₁ B hml hxt hv
  obtain ⟨rfl, hsz, hP, hK, hD0, hG⟩ := hv
  have hx := B.exec
  have hb := B.bytes
  have hr := B.returns
  have hts := atoms_spec (ws := wm_X5_failWith) B.pre
  have htb := fun (w : Cond) (h : w ∈ tb) => hts w (List.mem_cons_of_mem _ h)
  have hown : s.vm.findClass RX5 = some m.cls := findClass_of_methodNamed B.named
  have hlocks := B.notSynchronized
  subst hsz
  have hD := hD0.self (sz := s.heap.size)
  generalize hAe : va_A (cW ad cid a2 lx sg gm lg) s.heap.size = A at hD hG ⊢
  have hA : ∀ q : Nat, s.heap.size ≤ q → A q := fun q h => by rw [← hAe]; exact Or.inr h
  have hS : va_S A s.heap s.heap [] := va_S.rf
  have hl := lv_entry ([eV (ad 6) x, .int n]) (n := 2) (by rw [show (lg_sl ([eV (ad 6) x, .int n])).length = 2 from by simp [lg_sl, eV_cat, cat_i, cat_l]]; exact Nat.le_of_ble_eq_true rfl)
  rw [lg_entry_eq]
  generalize (lg_sl ([eV (ad 6) x, .int n]) ++ List.replicate (2 - (lg_sl ([eV (ad 6) x, .int n])).length) Slot.unset).toArray = ls at hl ⊢
  have hl : lv_has ls 2 [(0, eV (ad 6) x), (1, .int n)] := by simp [lv_args, eV_cat, cat_i, cat_l] at hl; exact hl
  have hj24 : ∀ (sg_j24 : Nat → Int32) (y0_24 : Int32) (_ : iv 0 0 x) (_ : iv 0 8 n) (_ : iv (-1) 79 y0_24) (_ : iv 0 0 x) (_ : KS [17] sg sg_j24) (_ : CI sg_j24 gm) (H : Heap) (locs : List Loc) (ls : Array Slot), va_P (dC, dI) vwCl (cW ad cid a2 lx sg_j24 gm lg) H → va_D A (cW ad cid a2 lx sg_j24 gm lg) → va_S A s.heap H locs → lv_has ls 2 [(0, eV (ad 6) x), (1, .int n)] → W p l e (headSpec wm_X5_failWith ({ frames := 6, cells := 1, slots := 6, locals := 120 })).room s m ([eV (ad 6) x, .int n] : List Value).toArray below meth c H locs 0 0 (vx_MQ below (cQx dC dI ad cid a2 lx (fun v u => ∃ r : Int32, v = some (.int r) ∧ ∃ (sg2 : Nat → Int32) (gm2 : Nat → Nat → Int32) (lg2 : Nat → Nat → Int64), u = (sg2, gm2, lg2) ∧ CI sg2 gm2 ∧ KS [17, 18] sg sg2 ∧ KS [] gm gm2 ∧ KS [] lg lg2 ∧ (False)) A) (cX dC dI ad cid a2 lx (fun E u => (E = "java/lang/UnsupportedOperationException") ∧ ∃ (sg2 : Nat → Int32) (gm2 : Nat → Nat → Int32) (lg2 : Nat → Nat → Int64), u = (sg2, gm2, lg2) ∧ CI sg2 gm2 ∧ KS [17, 18] sg sg2 ∧ KS [] gm gm2 ∧ KS [] lg lg2) A) ([eV (ad 6) x, .int n] : List Value).toArray s 1 6 A) (F0 m 24 ls [.int y0_24, eV (ad 6) x]) := by
    intro sg_j24 y0_24 hsx0_24 hsx1_24 hy0_24 hsy1_24 hks_j24 hI_j24 H locs ls hP hD hS hl
    refine cr_puts (t := 6) (j := 12) (C := RX5) (T := TX5) (N := 13) (ty0 := tyX5) (k := 18) (y := y0_24) hx hb htb inX5 tyX5_ok nmX5 hown hK hP hD hS hsy1_24 (by decide) (by decide) (by decide) (by decide) rfl rfl rfl (by decide) (htb _ kw_130) rfl (by show Value.int y0_24 = Value.int (va_up sg_j24 18 y0_24 18); rw [va_up_self]) rfl rfl dX5_failWith_24 (fun sg_1 H locs esg_1 hP hD hS => ?_)
    have hI_sg_1 := CI_put hI_j24 esg_1 hy0_24 (by decide)
    refine vx_throw0 (own := RX5) (cls := "java/lang/UnsupportedOperationException") (names := ["java/lang/RuntimeException", "java/lang/Exception"]) (ik := 103) (ic := 131) (A := A) hx hb hl9 hown (by decide +kernel) (by decide +kernel) (htb _ kw_998) (htb _ kw_991) (vx_hat (fun w h => htb w (inT_4 w h)) inU_4 (vx_c (va_Nw.use rfl hG.2.1.1) (vx_c (va_Nw.use rfl hG.1.2.1.2.2.1) (vx_c (va_Nw.use rfl hG.1.2.1.2.2.2.1) (vx_c (va_Nw.use rfl hG.1.2.1.2.2.2.2) vx_n))))) (fun w hw => ?_) hG.1.2.2.2.1 hG.1.2.2.2.2 hS (by rw [hml]; exact hl.1) dX5_failWith_27 dX5_failWith_30 dX5_failWith_31 dX5_failWith_34 (fun x hx9 => (hxt x hx9).elim) (Nat.le_of_ble_eq_true rfl) (Nat.le_trans (Nat.add_le_add_right (show _ ≤ 8 from (Nat.le_trans cs_n (by decide))) _) (Nat.le_of_ble_eq_true rfl)) (Nat.le_of_ble_eq_true rfl) (Nat.le_of_ble_eq_true rfl) hlocks (fun t ht1 hz2 hk2 => ⟨⟨(sg_1, gm, lg), ⟨rfl, sg_1, gm, lg, rfl, hI_sg_1, (KS_up (KS_tr (L := [17, 18]) KS_rf hks_j24 (by decide)) esg_1 (by decide)), KS_rf, KS_rf⟩, hP.kept (fun k q hq => hk2 _ (vx_lt hP hq)), va_K.moved ht1 hK, hD⟩, ⟨Nat.le_trans hS.1 hz2, fun q h1 h2 => (hk2 q (Nat.lt_of_lt_of_le h1 hS.1)).trans (hS.2.1 q h1 h2)⟩⟩) hS.2.2 (Nat.le_of_ble_eq_true rfl) (Nat.le_of_ble_eq_true rfl)
    rcases List.mem_cons.mp hw with rfl | hw
    · rfl
    rcases List.mem_cons.mp hw with rfl | hw
    · rfl
    exact inV_4 w hw
  refine ec_aload_n hx hb dX5_failWith_0 rfl (lv_at hl 0 rfl) ?_
  refine lv_iload_n hx hb dX5_failWith_1 rfl (lv_at hl 1 rfl) ?_
  refine cr_puts (t := 6) (j := 11) (C := RX5) (T := TX5) (N := 13) (ty0 := tyX5) (k := 17) (y := n) hx hb htb inX5 tyX5_ok nmX5 hown hK hP hD hS hvx (by decide) (by decide) (by decide) (by decide) rfl rfl rfl (by decide) (htb _ kw_973) rfl (by show Value.int n = Value.int (va_up sg 17 n 17); rw [va_up_self]) rfl rfl dX5_failWith_2 (fun sg_2 H locs esg_2 hP hD hS => ?_)
  have hI_sg_2 := CI_put hI esg_2 hvn (by decide)
  refine ec_aload_n hx hb dX5_failWith_5 rfl (lv_at hl 0 rfl) ?_
  refine ec_aload_n hx hb dX5_failWith_6 rfl (lv_at hl 0 rfl) ?_
  refine cr_get (t := 6) (j := 10) (C := RX5) (T := TX5) (N := 13) (v := eV (ad 10) (sg_2 16)) hx hb htb inX5 hown hK hP hvx (by decide) (by decide) (by decide) rfl (by decide) (htb _ kw_1018) rfl dX5_failWith_7 ?_
  refine W.eq (g2 := F0 m 10 ls [eV (ad 10) (sg 16), eV (ad 6) x]) (by rw [show sg_2 16 = sg 16 from (up_ne esg_2 (by decide))]) ?_
  refine ec_ifnonnull (tgt := 17) hx hb dX5_failWith_10 (by decide) (fun c_3 => ?_) (fun c_3 => ?_)
  · have h_4 : iv 0 79 (sg 16) := ⟨c_3, ((show iv (-1) 79 (sg 16) from CI_s hI 16)).2⟩
    refine ec_aload_n hx hb dX5_failWith_17 rfl (lv_at hl 0 rfl) ?_
    refine cr_get (t := 6) (j := 10) (C := RX5) (T := TX5) (N := 13) (v := eV (ad 10) (sg_2 16)) hx hb htb inX5 hown hK hP hvx (by decide) (by decide) (by decide) rfl (by decide) (htb _ kw_1018) rfl dX5_failWith_18 ?_
    refine W.eq (g2 := F0 m 21 ls [eV (ad 10) (sg 16), eV (ad 6) x]) (by rw [show sg_2 16 = sg 16 from (up_ne esg_2 (by decide))]) ?_
    refine cr_get (t := 10) (j := 0) (C := RX1) (T := TX1) (N := 19) (v := .int (gm 28 (sg 16).toNatClampNeg)) hx hb htb inX1 hown hK hP h_4 (by decide) (by decide) (by decide) rfl (by decide) (htb _ kw_1019) rfl dX5_failWith_21 ?_
    obtain ⟨z_5, ez_5⟩ : ∃ z : Int32, z = (gm 28 (sg 16).toNatClampNeg) := ⟨_, rfl⟩
    refine W.eq (g2 := F0 m 24 ls [.int z_5, eV (ad 6) x]) (by rw [ez_5]) ?_
    have hz_5 : iv 0 79 z_5 := iv_of ez_5 (CI_a hI_sg_2 28 h_4 (by decide))
    exact hj24 sg_2 z_5 hvx hvn (iv_w hz_5 (by decide)) hvx (KS_up KS_rf esg_2 (by decide)) hI_sg_2 _ _ _ hP hD hS (lv_sub hl [0, 1] rfl)
  · have h_6 : iv (-1) (-1) (sg 16) := ⟨((show iv (-1) 79 (sg 16) from CI_s hI 16)).1, by omega⟩
    refine lv_iconst (v := (-1)) hx hb dX5_failWith_13 (by decide) ?_
    refine lv_goto (tgt := 24) hx hb dX5_failWith_14 (by decide) ?_
    exact hj24 sg_2 (-1) hvx hvn (iv_w (iv_k (by decide) : iv (-1) (-1) (-1)) (by decide)) hvx (KS_up KS_rf esg_2 (by decide)) hI_sg_2 _ _ _ hP hD hS (lv_sub hl [0, 1] rfl)
end
section
theorem NBw_w {H0 H : Heap} {k n k2 n2 : Nat} (h : NBw H0 H k n) (h1 : k ≤ k2) (h2 : n ≤ n2) : NBw H0 H k2 n2 := ⟨Nat.le_trans h.1 (Nat.add_le_add_left h1 _), Nat.le_trans h.2 (Nat.add_le_add_left h2 _)⟩
/-- the lists' room, all together -/
def PHs (gm : Nat → Nat → Int32) : Nat := ((List.range 240).map (fun q => (gm 42 q).toNatClampNeg)).sum
def PH (gm gm2 : Nat → Nat → Int32) : Nat := PHs gm2 - PHs gm
def gc (gm gm2 : Nat → Nat → Int32) (k : Nat) : Nat := PH gm gm2 + k
def gs (gm gm2 : Nat → Nat → Int32) (k : Nat) : Nat := 4 * PH gm gm2 + 6 * k
theorem PHs_e {gm gm2 : Nat → Nat → Int32} (h : gm2 42 = gm 42) : PHs gm2 = PHs gm := by unfold PHs; rw [h]
theorem PH_tr {gm gm1 gm2 : Nat → Nat → Int32} (h1 : PHs gm ≤ PHs gm1) (h2 : PHs gm1 ≤ PHs gm2) : PH gm gm1 + PH gm1 gm2 = PH gm gm2 := by unfold PH; omega
theorem sum_le {f : Nat → Nat} {b : Nat} : ∀ L : List Nat, (∀ q ∈ L, f q ≤ b) → (L.map f).sum ≤ b * L.length
  | [], _ => Nat.zero_le _
  | q :: L, h => by
    have h1 := h q List.mem_cons_self
    have h2 := sum_le L (fun x hx => h x (List.mem_cons_of_mem _ hx))
    rw [List.map_cons, List.sum_cons, List.length_cons, Nat.mul_add]
    omega
theorem PHs_le {sg : Nat → Int32} {gm : Nat → Nat → Int32} (hI : CI sg gm) : PHs gm ≤ 30480 := by
  unfold PHs
  refine Nat.le_trans (sum_le (b := 127) _ (fun q hq => ?_)) (by rw [List.length_range]; omega)
  have h1 := (show iv 0 127 (gm 42 q) from CI_n hI 42 (show q < crLen 42 from List.mem_range.mp hq))
  have h2 := iv_cl h1 (by decide)
  have h3 := h1.2
  omega
theorem PH_le {sg : Nat → Int32} {gm gm2 : Nat → Nat → Int32} (hI : CI sg gm2) : PH gm gm2 ≤ 30480 := Nat.le_trans (Nat.sub_le _ _) (PHs_le hI)
theorem gc_le {sg : Nat → Int32} {gm gm2 : Nat → Nat → Int32} {k j : Nat} (hI : CI sg gm2) : gc gm gm2 k + j ≤ 30480 + k + j := by have := PH_le (gm := gm) hI; unfold gc; omega
theorem gs_le {sg : Nat → Int32} {gm gm2 : Nat → Nat → Int32} {k j : Nat} (hI : CI sg gm2) : gs gm gm2 k + j ≤ 121920 + 6 * k + j := by have := PH_le (gm := gm) hI; unfold gs; omega
theorem gc_e {gm gm1 gm2 : Nat → Nat → Int32} {k k2 : Nat} (h : gm2 42 = gm1 42) (hk : k ≤ k2) : gc gm gm1 k ≤ gc gm gm2 k2 := by unfold gc PH; rw [PHs_e h]; omega
theorem gs_e {gm gm1 gm2 : Nat → Nat → Int32} {k k2 : Nat} (h : gm2 42 = gm1 42) (hk : k ≤ k2) : gs gm gm1 k ≤ gs gm gm2 k2 := by unfold gs PH; rw [PHs_e h]; omega
theorem gc_t {gm gm1 gm2 : Nat → Nat → Int32} {k k2 : Nat} (h1 : PHs gm ≤ PHs gm1) (h2 : PHs gm1 ≤ PHs gm2) : gc gm gm1 k + gc gm1 gm2 k2 = gc gm gm2 (k + k2) := by have := PH_tr h1 h2; unfold gc; omega
theorem gs_t {gm gm1 gm2 : Nat → Nat → Int32} {k k2 : Nat} (h1 : PHs gm ≤ PHs gm1) (h2 : PHs gm1 ≤ PHs gm2) : gs gm gm1 k + gs gm1 gm2 k2 = gs gm gm2 (k + k2) := by have := PH_tr h1 h2; unfold gs; omega
theorem vx_narrow {p : Program} {l : Launch} {e : Env} {R : Room} {s : State} {m : MethodId} {args : Array Value} {below : List Frame} {meth : Method} {c : Code} {H : Heap} {locs : List Loc} {cells slots : Nat} {Q : State → Prop} {g : JFrame} {q : Addr} {k n : Nat} (hb : NBw s.heap H k n) (kk : vx_W p l e R s m args below meth c H locs k n Q g q) : vx_W p l e R s m args below meth c H locs cells slots Q g q := by
  intro T hT X
  have e1 : (T.setVm s.vm).heap = H := hT
  exact kk T hT { X with same := NBw_same X.same (by rw [e1]; exact hb) }
abbrev CSg : Type := (Nat → Nat) × List Nat × (Nat → Int32) × (Nat → Nat → Int32) × (Nat → Nat → Int64)
abbrev CSg.w (ad : Nat → Nat → Nat) (cid : Nat → ClassId) (u : CSg) : va_W := cW ad cid u.1 u.2.1 u.2.2.1 u.2.2.2.1 u.2.2.2.2
section CMG
variable (dC : Nat → ClassId) (dI : Nat → Nat → Nat) (ad : Nat → Nat → Nat) (cid : Nat → ClassId)
def CBg (A : Nat → Prop) (u : CSg) (t : State) : Prop := va_P (dC, dI) vwCl (CSg.w ad cid u) t.heap ∧ va_K (dC, dI) vwCl (cT cid) t ∧ va_D A (CSg.w ad cid u)
def cQg (post : Option Value → CSg → Prop) (k : Nat) (gm : Nat → Nat → Int32) (A : Nat → Prop) : Array Value → State → Outcome → State → Prop := fun _ st oc t => (∃ (v : Option Value) (u : CSg), oc = .returned v ∧ post v u ∧ CBg dC dI ad cid A u t ∧ PHs gm ≤ PHs u.2.2.2.1 ∧ NBw st.heap t.heap (gc gm u.2.2.2.1 k) (gs gm u.2.2.2.1 k)) ∧ va_F A st t
def cXg (xpost : String → CSg → Prop) (k : Nat) (gm : Nat → Nat → Int32) (A : Nat → Prop) : String → State → State → Prop := fun E st t => (∃ u : CSg, xpost E u ∧ CBg dC dI ad cid A u t ∧ PHs gm ≤ PHs u.2.2.2.1 ∧ NBw st.heap t.heap (gc gm u.2.2.2.1 (k + 1)) (gs gm u.2.2.2.1 (k + 1))) ∧ va_F A st t
/-- a method of the class that may make the heap grow: by the room of its lists and k exceptions -/
def CMg (l : Launch) (y : MethodName) (ws : List Cond) (rm : Room) (as : List Value) (a2 : Nat → Nat) (lx : List Nat) (sg : Nat → Int32) (gm : Nat → Nat → Int32) (lg : Nat → Nat → Int64) (k mc ms : Nat) (post : Option Value → CSg → Prop) (xpost : String → CSg → Prop) : Prop :=
  ∀ sz, vx_Met l y ws rm (va_Pc as (CPre dC dI ad cid a2 lx sg gm lg sz)) (cQg dC dI ad cid post k gm (va_A (cW ad cid a2 lx sg gm lg) sz)) (cXg dC dI ad cid xpost k gm (va_A (cW ad cid a2 lx sg gm lg) sz)) mc ms (va_A (cW ad cid a2 lx sg gm lg) sz)
end CMG
section CMD
variable {p : Program} {l : Launch} {e : Env} {R : Room} {s : State} {m : MethodId} {args : Array Value} {below : List Frame} {meth : Method} {c : Code} {H : Heap} {locs : List Loc} {Q : State → Prop} {cc : ByteArray} {pc : Nat} {ls : Array Slot} {rest : List Value} {A : Nat → Prop}
variable {dC : Nat → ClassId} {dI : Nat → Nat → Nat} {ad : Nat → Nat → Nat} {cid : Nat → ClassId} {a2 : Nat → Nat} {lx : List Nat} {sg : Nat → Int32} {gm : Nat → Nat → Int32} {lg : Nat → Nat → Int64} {Ts : List Cond} {own : String} {index : Nat}
variable {y : MethodName} {ws : List Cond} {rm : Room} {bytes : ByteArray} {maxL n nL : Nat} {ret : Option FieldType} {as : List Value} {st0 : List Value} {cells slots k mc ms : Nat}
theorem cm_goT {post : Option Value → CSt → Prop} {xpost : String → CSt → Prop} {a : Array Value} (hr : vx_Run p l e R s m args below meth c H locs cells slots 1 6 (F0 m pc ls st0) rest (cQx dC dI ad cid a2 lx post (va_A (cW ad cid a2 lx sg gm lg) H.size) a) (cX dC dI ad cid a2 lx xpost (va_A (cW ad cid a2 lx sg gm lg) H.size)) (va_A (cW ad cid a2 lx sg gm lg) H.size)) (hD : va_D A (cW ad cid a2 lx sg gm lg)) (hS : va_S A s.heap H locs) (hA : ∀ q, s.heap.size ≤ q → A q)
    (kx : ∀ (E : String) (ce : Cell) (q9 : Addr) (u : CSt) (H1 : Heap) (locs1 : List Loc), xpost E u → va_P (dC, dI) vwCl (cW ad cid a2 lx u.1 u.2.1 u.2.2) H1 → va_D A (cW ad cid a2 lx u.1 u.2.1 u.2.2) → va_S A s.heap H1 locs1 → H1[q9]? = some ce → ce.vm = .none → s.vm.findClass E = some ce.cls → vx_W p l e R s m args below meth c H1 locs1 (cells + 1) (slots + 6) Q (F0 m pc ls rest) q9)
    (kk : ∀ (v : Option Value) (u : CSt) (H1 : Heap) (locs1 : List Loc), post v u → va_P (dC, dI) vwCl (cW ad cid a2 lx u.1 u.2.1 u.2.2) H1 → va_D A (cW ad cid a2 lx u.1 u.2.1 u.2.2) → va_S A s.heap H1 locs1 → W p l e R s m args below meth c H1 locs1 cells slots Q (F0 m (pc + 3) ls (v.toList ++ rest))) : W p l e R s m args below meth c H locs cells slots Q (F0 m pc ls st0) := by
  have hFc := cfree hD hS hA
  refine W.nb (fun hN => ?_)
  intro T hT X
  rcases hr T hT X with ⟨v, st₀, t, T', L, h0, X', hL, e1, e2, ⟨⟨v2, u, hv, hp, hb⟩, hF, hN1⟩, st⟩ | ⟨q, st₀, t, T', L, E, ce, h0, X', hL, e1, e2, ⟨⟨u, hp, hb⟩, hF⟩, hce, hcv, hcl, st⟩
  · cases hv
    obtain ⟨k1, k2, k3⟩ := vx_keep h0 e1 hS (fun q _ h => hFc q h) hFc hL hF
    obtain ⟨b1, b2, b3⟩ := hb
    rw [h0, ← e1] at hN1
    obtain ⟨t2, a1, c1⟩ := W.narrow (NBw_tr hN hN1) (kk v u T'.heap (locs ++ L) hp (by rw [e1]; exact b1) (b3.weaken (fun _ _ _ h => hFc _ h)) k3) T' rfl X'
    exact ⟨t2, st t2 a1, c1⟩
  · obtain ⟨k1, k2, k3⟩ := vx_keep h0 e1 hS (fun q _ h => hFc q h) hFc hL hF
    obtain ⟨b1, b2, b3⟩ := hb
    obtain ⟨t2, a1, c1⟩ := kx E ce q u T'.heap (locs ++ L) hp (by rw [e1]; exact b1) (b3.weaken (fun _ _ _ h => hFc _ h)) k3 (by rw [e1]; exact hce) hcv hcl T' rfl X'
    exact ⟨t2, st.trans a1, c1⟩
theorem cm_goG {post : Option Value → CSg → Prop} {xpost : String → CSg → Prop} {a : Array Value} (hr : vx_Run p l e R s m args below meth c H locs cells slots mc ms (F0 m pc ls st0) rest (cQg dC dI ad cid post k gm (va_A (cW ad cid a2 lx sg gm lg) H.size) a) (cXg dC dI ad cid xpost k gm (va_A (cW ad cid a2 lx sg gm lg) H.size)) (va_A (cW ad cid a2 lx sg gm lg) H.size)) (hD : va_D A (cW ad cid a2 lx sg gm lg)) (hS : va_S A s.heap H locs) (hA : ∀ q, s.heap.size ≤ q → A q)
    (kx : ∀ (E : String) (ce : Cell) (q9 : Addr) (u : CSg) (H1 : Heap) (locs1 : List Loc), xpost E u → PHs gm ≤ PHs u.2.2.2.1 → va_P (dC, dI) vwCl (CSg.w ad cid u) H1 → va_D A (CSg.w ad cid u) → va_S A s.heap H1 locs1 → H1[q9]? = some ce → ce.vm = .none → s.vm.findClass E = some ce.cls → vx_W p l e R s m args below meth c H1 locs1 (cells + gc gm u.2.2.2.1 (k + 1)) (slots + gs gm u.2.2.2.1 (k + 1)) Q (F0 m pc ls rest) q9)
    (kk : ∀ (v : Option Value) (u : CSg) (H1 : Heap) (locs1 : List Loc), post v u → PHs gm ≤ PHs u.2.2.2.1 → va_P (dC, dI) vwCl (CSg.w ad cid u) H1 → va_D A (CSg.w ad cid u) → va_S A s.heap H1 locs1 → W p l e R s m args below meth c H1 locs1 (cells + gc gm u.2.2.2.1 k) (slots + gs gm u.2.2.2.1 k) Q (F0 m (pc + 3) ls (v.toList ++ rest))) : W p l e R s m args below meth c H locs cells slots Q (F0 m pc ls st0) := by
  have hFc := cfree hD hS hA
  refine W.nb (fun hN => ?_)
  intro T hT X
  rcases hr T hT X with ⟨v, st₀, t, T', L, h0, X', hL, e1, e2, ⟨⟨v2, u, hv, hp, hb, hm, hN1⟩, hF⟩, st⟩ | ⟨q, st₀, t, T', L, E, ce, h0, X', hL, e1, e2, ⟨⟨u, hp, hb, hm, hN1⟩, hF⟩, hce, hcv, hcl, st⟩
  · cases hv
    obtain ⟨k1, k2, k3⟩ := vx_keep h0 e1 hS (fun q _ h => hFc q h) hFc hL hF
    obtain ⟨b1, b2, b3⟩ := hb
    rw [h0, ← e1] at hN1
    obtain ⟨t2, a1, c1⟩ := W.narrow (NBw_tr hN hN1) (kk v u T'.heap (locs ++ L) hp hm (by rw [e1]; exact b1) (b3.weaken (fun _ _ _ h => hFc _ h)) k3) T' rfl X'
    exact ⟨t2, st t2 a1, c1⟩
  · obtain ⟨k1, k2, k3⟩ := vx_keep h0 e1 hS (fun q _ h => hFc q h) hFc hL hF
    obtain ⟨b1, b2, b3⟩ := hb
    rw [h0, ← e1] at hN1
    obtain ⟨t2, a1, c1⟩ := vx_narrow (NBw_tr hN hN1) (kx E ce q u T'.heap (locs ++ L) hp hm (by rw [e1]; exact b1) (b3.weaken (fun _ _ _ h => hFc _ h)) k3 (by rw [e1]; exact hce) hcv hcl) T' rfl X'
    exact ⟨t2, st.trans a1, c1⟩
theorem cm_callTV {post : Option Value → CSt → Prop} {xpost : String → CSt → Prop} {t : Nat} {h : Int} {x : Int32} {C : String} {T : u_T} {N : Nat} (S : CallFix p m c cc nL s args Ts own) (hM : CMt dC dI ad cid a2 lx l y ws rm (eV (ad t) x :: as) sg gm lg post xpost) (cw : CallW R s args own C index y bytes maxL ret ws rm 1 6 n) (hx : iv 0 h x) (hnt : h < (cNum t : Int)) (ht : t < 12) (hc : vwCl[cIx t]? = some (C, T, N)) (hn : as.length = n) (hsize : ls.size = nL) (hst : st0 = as.reverse ++ eV (ad t) x :: rest) (hW : (rest.map fun v => v.category).sum ≤ 8) (hdg : decode cc pc = .ok (.invokevirtual index, 3)) (hf : cells + 1 ≤ R.cells ∧ slots + 6 ≤ R.slots)
    (hK : va_K (dC, dI) vwCl (cT cid) s) (hP : va_P (dC, dI) vwCl (cW ad cid a2 lx sg gm lg) H) (hD : va_D A (cW ad cid a2 lx sg gm lg)) (hS : va_S A s.heap H locs) (hA : ∀ q, s.heap.size ≤ q → A q) (hG : CE ad A s)
    (kx : ∀ (E : String) (ce : Cell) (q9 : Addr) (u : CSt) (H1 : Heap) (locs1 : List Loc), xpost E u → va_P (dC, dI) vwCl (cW ad cid a2 lx u.1 u.2.1 u.2.2) H1 → va_D A (cW ad cid a2 lx u.1 u.2.1 u.2.2) → va_S A s.heap H1 locs1 → H1[q9]? = some ce → ce.vm = .none → s.vm.findClass E = some ce.cls → vx_W p l e R s m args below meth c H1 locs1 (cells + 1) (slots + 6) Q (F0 m pc ls rest) q9)
    (kk : ∀ (v : Option Value) (u : CSt) (H1 : Heap) (locs1 : List Loc), post v u → va_P (dC, dI) vwCl (cW ad cid a2 lx u.1 u.2.1 u.2.2) H1 → va_D A (cW ad cid a2 lx u.1 u.2.1 u.2.2) → va_S A s.heap H1 locs1 → W p l e R s m args below meth c H1 locs1 cells slots Q (F0 m (pc + 3) ls (v.toList ++ rest))) : W p l e R s m args below meth c H locs cells slots Q (F0 m pc ls st0) := by
  subst hst
  have hFc := cfree hD hS hA
  have hM9 := hM H.size
  rw [eV_ref hx.1] at hM9 ⊢
  exact cm_goT (vx_runV (cells := cells) (slots := slots) (As := as) (rest := rest) S hM9 cw ⟨CPre_blind, cm_recv hK hP hx hnt ht hc, fun U hU hW => ⟨rfl, by rw [hU], by rw [hU]; exact hP, va_K.moved hW.alike hK, hD.weaken (fun _ _ _ _ => trivial), hG.go hS hFc hU hW⟩⟩ rfl hn hsize rfl (lv_room hW) hdg hf) hD hS hA kx kk
theorem cm_callTS {post : Option Value → CSt → Prop} {xpost : String → CSt → Prop} (S : CallFix p m c cc nL s args Ts own) (hM : CMt dC dI ad cid a2 lx l y ws rm as sg gm lg post xpost) (cw : CallB R s args own index y bytes maxL ret ws rm 1 6 n ∧ (Cond.static y).before args s = true) (hn : as.length = n) (hsize : ls.size = nL) (hst : st0 = as.reverse ++ rest) (hW : (rest.map fun v => v.category).sum ≤ 8) (hdg : decode cc pc = .ok (.invokestatic index, 3)) (hf : cells + 1 ≤ R.cells ∧ slots + 6 ≤ R.slots)
    (hK : va_K (dC, dI) vwCl (cT cid) s) (hP : va_P (dC, dI) vwCl (cW ad cid a2 lx sg gm lg) H) (hD : va_D A (cW ad cid a2 lx sg gm lg)) (hS : va_S A s.heap H locs) (hA : ∀ q, s.heap.size ≤ q → A q) (hG : CE ad A s)
    (kx : ∀ (E : String) (ce : Cell) (q9 : Addr) (u : CSt) (H1 : Heap) (locs1 : List Loc), xpost E u → va_P (dC, dI) vwCl (cW ad cid a2 lx u.1 u.2.1 u.2.2) H1 → va_D A (cW ad cid a2 lx u.1 u.2.1 u.2.2) → va_S A s.heap H1 locs1 → H1[q9]? = some ce → ce.vm = .none → s.vm.findClass E = some ce.cls → vx_W p l e R s m args below meth c H1 locs1 (cells + 1) (slots + 6) Q (F0 m pc ls rest) q9)
    (kk : ∀ (v : Option Value) (u : CSt) (H1 : Heap) (locs1 : List Loc), post v u → va_P (dC, dI) vwCl (cW ad cid a2 lx u.1 u.2.1 u.2.2) H1 → va_D A (cW ad cid a2 lx u.1 u.2.1 u.2.2) → va_S A s.heap H1 locs1 → W p l e R s m args below meth c H1 locs1 cells slots Q (F0 m (pc + 3) ls (v.toList ++ rest))) : W p l e R s m args below meth c H locs cells slots Q (F0 m pc ls st0) := by
  subst hst
  have hFc := cfree hD hS hA
  exact cm_goT (vx_runS (cells := cells) (slots := slots) (As := as) (rest := rest) S (hM H.size) cw ⟨CPre_blind, fun U hU hW => ⟨rfl, by rw [hU], by rw [hU]; exact hP, va_K.moved hW.alike hK, hD.weaken (fun _ _ _ _ => trivial), hG.go hS hFc hU hW⟩⟩ rfl hn hsize rfl (lv_room hW) hdg hf) hD hS hA kx kk
theorem cm_callGV {post : Option Value → CSg → Prop} {xpost : String → CSg → Prop} {t : Nat} {h : Int} {x : Int32} {C : String} {T : u_T} {N : Nat} (S : CallFix p m c cc nL s args Ts own) (hM : CMg dC dI ad cid l y ws rm (eV (ad t) x :: as) a2 lx sg gm lg k mc ms post xpost) (cw : CallW R s args own C index y bytes maxL ret ws rm mc ms n) (hx : iv 0 h x) (hnt : h < (cNum t : Int)) (ht : t < 12) (hc : vwCl[cIx t]? = some (C, T, N)) (hn : as.length = n) (hsize : ls.size = nL) (hst : st0 = as.reverse ++ eV (ad t) x :: rest) (hW : (rest.map fun v => v.category).sum ≤ 8) (hdg : decode cc pc = .ok (.invokevirtual index, 3)) (hf : cells + mc ≤ R.cells ∧ slots + ms ≤ R.slots)
    (hK : va_K (dC, dI) vwCl (cT cid) s) (hP : va_P (dC, dI) vwCl (cW ad cid a2 lx sg gm lg) H) (hD : va_D A (cW ad cid a2 lx sg gm lg)) (hS : va_S A s.heap H locs) (hA : ∀ q, s.heap.size ≤ q → A q) (hG : CE ad A s)
    (kx : ∀ (E : String) (ce : Cell) (q9 : Addr) (u : CSg) (H1 : Heap) (locs1 : List Loc), xpost E u → PHs gm ≤ PHs u.2.2.2.1 → va_P (dC, dI) vwCl (CSg.w ad cid u) H1 → va_D A (CSg.w ad cid u) → va_S A s.heap H1 locs1 → H1[q9]? = some ce → ce.vm = .none → s.vm.findClass E = some ce.cls → vx_W p l e R s m args below meth c H1 locs1 (cells + gc gm u.2.2.2.1 (k + 1)) (slots + gs gm u.2.2.2.1 (k + 1)) Q (F0 m pc ls rest) q9)
    (kk : ∀ (v : Option Value) (u : CSg) (H1 : Heap) (locs1 : List Loc), post v u → PHs gm ≤ PHs u.2.2.2.1 → va_P (dC, dI) vwCl (CSg.w ad cid u) H1 → va_D A (CSg.w ad cid u) → va_S A s.heap H1 locs1 → W p l e R s m args below meth c H1 locs1 (cells + gc gm u.2.2.2.1 k) (slots + gs gm u.2.2.2.1 k) Q (F0 m (pc + 3) ls (v.toList ++ rest))) : W p l e R s m args below meth c H locs cells slots Q (F0 m pc ls st0) := by
  subst hst
  have hFc := cfree hD hS hA
  have hM9 := hM H.size
  rw [eV_ref hx.1] at hM9 ⊢
  exact cm_goG (vx_runV (cells := cells) (slots := slots) (As := as) (rest := rest) S hM9 cw ⟨CPre_blind, cm_recv hK hP hx hnt ht hc, fun U hU hW => ⟨rfl, by rw [hU], by rw [hU]; exact hP, va_K.moved hW.alike hK, hD.weaken (fun _ _ _ _ => trivial), hG.go hS hFc hU hW⟩⟩ rfl hn hsize rfl (lv_room hW) hdg hf) hD hS hA kx kk
theorem cm_callGVX {post : Option Value → CSg → Prop} {xpost : String → CSg → Prop} {t : Nat} {h : Int} {x : Int32} {C : String} {T : u_T} {N : Nat} {hh : List (Nat × Nat × Nat × Nat)} (S : CallFix p m c cc nL s args Ts own) (hM : CMg dC dI ad cid l y ws rm (eV (ad t) x :: as) a2 lx sg gm lg k mc ms post xpost) (cw : vx_CVW R s args own C index y bytes maxL ret hh ws rm mc ms n) (hx : iv 0 h x) (hnt : h < (cNum t : Int)) (ht : t < 12) (hc : vwCl[cIx t]? = some (C, T, N)) (hn : as.length = n) (hsize : ls.size = nL) (hst : st0 = as.reverse ++ eV (ad t) x :: rest) (hW : (rest.map fun v => v.category).sum ≤ 8) (hdg : decode cc pc = .ok (.invokevirtual index, 3)) (hf : cells + mc ≤ R.cells ∧ slots + ms ≤ R.slots)
    (hK : va_K (dC, dI) vwCl (cT cid) s) (hP : va_P (dC, dI) vwCl (cW ad cid a2 lx sg gm lg) H) (hD : va_D A (cW ad cid a2 lx sg gm lg)) (hS : va_S A s.heap H locs) (hA : ∀ q, s.heap.size ≤ q → A q) (hG : CE ad A s)
    (kx : ∀ (E : String) (ce : Cell) (q9 : Addr) (u : CSg) (H1 : Heap) (locs1 : List Loc), xpost E u → PHs gm ≤ PHs u.2.2.2.1 → va_P (dC, dI) vwCl (CSg.w ad cid u) H1 → va_D A (CSg.w ad cid u) → va_S A s.heap H1 locs1 → H1[q9]? = some ce → ce.vm = .none → s.vm.findClass E = some ce.cls → vx_W p l e R s m args below meth c H1 locs1 (cells + gc gm u.2.2.2.1 (k + 1)) (slots + gs gm u.2.2.2.1 (k + 1)) Q (F0 m pc ls rest) q9)
    (kk : ∀ (v : Option Value) (u : CSg) (H1 : Heap) (locs1 : List Loc), post v u → PHs gm ≤ PHs u.2.2.2.1 → va_P (dC, dI) vwCl (CSg.w ad cid u) H1 → va_D A (CSg.w ad cid u) → va_S A s.heap H1 locs1 → W p l e R s m args below meth c H1 locs1 (cells + gc gm u.2.2.2.1 k) (slots + gs gm u.2.2.2.1 k) Q (F0 m (pc + 3) ls (v.toList ++ rest))) : W p l e R s m args below meth c H locs cells slots Q (F0 m pc ls st0) := by
  subst hst
  have hFc := cfree hD hS hA
  have hM9 := hM H.size
  rw [eV_ref hx.1] at hM9 ⊢
  exact cm_goG (vx_runVX (cells := cells) (slots := slots) (As := as) (rest := rest) S hM9 cw ⟨CPre_blind, cm_recv hK hP hx hnt ht hc, fun U hU hW => ⟨rfl, by rw [hU], by rw [hU]; exact hP, va_K.moved hW.alike hK, hD.weaken (fun _ _ _ _ => trivial), hG.go hS hFc hU hW⟩⟩ rfl hn hsize rfl (lv_room hW) hdg hf) hD hS hA kx kk
theorem cm_callGS {post : Option Value → CSg → Prop} {xpost : String → CSg → Prop} (S : CallFix p m c cc nL s args Ts own) (hM : CMg dC dI ad cid l y ws rm as a2 lx sg gm lg k mc ms post xpost) (cw : CallB R s args own index y bytes maxL ret ws rm mc ms n ∧ (Cond.static y).before args s = true) (hn : as.length = n) (hsize : ls.size = nL) (hst : st0 = as.reverse ++ rest) (hW : (rest.map fun v => v.category).sum ≤ 8) (hdg : decode cc pc = .ok (.invokestatic index, 3)) (hf : cells + mc ≤ R.cells ∧ slots + ms ≤ R.slots)
    (hK : va_K (dC, dI) vwCl (cT cid) s) (hP : va_P (dC, dI) vwCl (cW ad cid a2 lx sg gm lg) H) (hD : va_D A (cW ad cid a2 lx sg gm lg)) (hS : va_S A s.heap H locs) (hA : ∀ q, s.heap.size ≤ q → A q) (hG : CE ad A s)
    (kx : ∀ (E : String) (ce : Cell) (q9 : Addr) (u : CSg) (H1 : Heap) (locs1 : List Loc), xpost E u → PHs gm ≤ PHs u.2.2.2.1 → va_P (dC, dI) vwCl (CSg.w ad cid u) H1 → va_D A (CSg.w ad cid u) → va_S A s.heap H1 locs1 → H1[q9]? = some ce → ce.vm = .none → s.vm.findClass E = some ce.cls → vx_W p l e R s m args below meth c H1 locs1 (cells + gc gm u.2.2.2.1 (k + 1)) (slots + gs gm u.2.2.2.1 (k + 1)) Q (F0 m pc ls rest) q9)
    (kk : ∀ (v : Option Value) (u : CSg) (H1 : Heap) (locs1 : List Loc), post v u → PHs gm ≤ PHs u.2.2.2.1 → va_P (dC, dI) vwCl (CSg.w ad cid u) H1 → va_D A (CSg.w ad cid u) → va_S A s.heap H1 locs1 → W p l e R s m args below meth c H1 locs1 (cells + gc gm u.2.2.2.1 k) (slots + gs gm u.2.2.2.1 k) Q (F0 m (pc + 3) ls (v.toList ++ rest))) : W p l e R s m args below meth c H locs cells slots Q (F0 m pc ls st0) := by
  subst hst
  have hFc := cfree hD hS hA
  exact cm_goG (vx_runS (cells := cells) (slots := slots) (As := as) (rest := rest) S (hM H.size) cw ⟨CPre_blind, fun U hU hW => ⟨rfl, by rw [hU], by rw [hU]; exact hP, va_K.moved hW.alike hK, hD.weaken (fun _ _ _ _ => trivial), hG.go hS hFc hU hW⟩⟩ rfl hn hsize rfl (lv_room hW) hdg hf) hD hS hA kx kk
end CMD
end
