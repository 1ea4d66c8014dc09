section
theorem cat_i (a : Int32) : (Value.int a).category = 1 := rfl
theorem cat_l (a : Int64) : (Value.long a).category = 2 := rfl
theorem vin_lt {y : Int32} {n : Nat} (h : vp_in y n) : y.toNatClampNeg < n := by
  have := vp_in_iff.mp h
  have := iv_cl (a := 0) (b := y.toInt) (x := y) ⟨this.1, Int.le_refl _⟩ (by decide)
  omega
theorem vin_w {y x : Int32} {n N : Nat} {h : Int} (hy : vp_in y n) (hx : iv 0 h x) (hq : (n : Int) * (h + 1) ≤ (N : Int)) : n * x.toNatClampNeg + y.toNatClampNeg < N := by
  have h1 := vin_lt hy
  have h2 := iv_cl hx (by decide)
  have h3 := hx.2
  have h4 : n * x.toNatClampNeg + n ≤ N := by
    have : (n : Int) * ((x.toNatClampNeg : Int) + 1) ≤ (n : Int) * (h + 1) := Int.mul_le_mul_of_nonneg_left (by omega) (by omega)
    have e : (n : Int) * ((x.toNatClampNeg : Int) + 1) = ((n * x.toNatClampNeg + n : Nat) : Int) := by
      rw [Int.mul_add, Int.mul_one]; simp
    omega
  omega
theorem iv_ch {n : Nat} (h : n < 65536) : iv 0 65535 (nI n) := ⟨by rw [nI_toInt (by omega)]; omega, by rw [nI_toInt (by omega)]; omega⟩
theorem iv_i2c (x : Int32) : iv 0 65535 ((x : Int32).toUInt32 % 65536).toInt32 := by rw [pk_char]; exact iv_ch (Nat.mod_lt _ (by decide))
theorem iv_nIx {a b : Int} {x : Int32} (h : iv a b x) (ha : 0 ≤ a) : nI x.toNatClampNeg = x := Int32.toInt_inj.mp (by
  have h1 := iv_cl h ha
  have h2 := h.2
  rw [nI_toInt (by have := x.toInt_lt; omega), h1])
theorem iv_ncr {v : Int32} (h : iv 0 65535 v) : narrow .char (.int v) = .int v := by
  have h1 := iv_cl h (by decide)
  have h2 := h.2
  rw [← iv_nIx h (by decide)]; exact (pk_charN (by omega)).1
theorem vnc {v : Int32} (h : iv 0 65535 v) : vp_nar .char v = v := by
  unfold vp_nar; rw [iv_ncr h]
theorem sw_all : wSw.all (fun v => decide (0 ≤ v.toInt) && decide (v.toInt ≤ 29)) = true := by decide
theorem sw_iv (y : Int32) : iv 0 29 (wSw.getD y.toNatClampNeg 0) := by
  rw [List.getD_eq_getElem?_getD]
  cases h : wSw[y.toNatClampNeg]? with
  | none => exact ⟨by decide, by decide⟩
  | some v =>
    have := List.all_eq_true.mp sw_all v (List.mem_of_getElem? h)
    simp at this
    exact ⟨this.1, this.2⟩
theorem we_inj {ad : Nat → Nat → Nat} {A : Nat → Prop} {s : State} (hG : CE ad A s) {i j : Nat} (hi : i < 34) (hj : j < 34) (h : ad 33 i = ad 33 j) : i = j := by
  obtain ⟨c1, k1, i1, f1, x1, a1, -, a3, -, a5, -⟩ := (hG.2.2.1.1 i hi).2.2.1
  obtain ⟨c2, k2, i2, f2, x2, b1, -, b3, -, b5, -⟩ := (hG.2.2.1.1 j hj).2.2.1
  rw [a1] at b1
  rw [h, b3] at a3
  cases b1; cases a3
  rw [b5] at a5
  have q := Value.int.inj (Option.some.inj a5)
  have q2 := congrArg Int32.toInt q
  rw [nI_toInt (by omega), nI_toInt (by omega)] at q2
  omega
theorem er_wd {ad : Nat → Nat → Nat} {A : Nat → Prop} {s : State} (hG : CE ad A s) {x y : Int32} (hx : iv (-1) 33 x) (hy : iv (-1) 33 y) (h : er (ad 33) x = er (ad 33) y) : x.toInt = y.toInt := by
  have x1 := hx.1; have x2 := hx.2; have y1 := hy.1; have y2 := hy.2
  by_cases a : x.toInt < 0
  · rw [er_none a] at h
    by_cases b : y.toInt < 0
    · omega
    · rw [er_some (by omega)] at h; cases h
  · rw [er_some (by omega)] at h
    by_cases b : y.toInt < 0
    · rw [er_none b] at h; cases h
    · rw [er_some (by omega)] at h
      have q1 := cl_0 (x := x) (by omega)
      have q2 := cl_0 (x := y) (by omega)
      have q := we_inj hG (i := x.toNatClampNeg) (j := y.toNatClampNeg) (by omega) (by omega) (Option.some.inj h)
      omega
theorem sw10a : ∀ n, n < 34 → 6 ≤ (wSw.getD n 0).toInt → (wSw.getD n 0).toInt ≤ 15 → (n : Int) = (wSw.getD n 0).toInt - 6 := by decide
theorem sw10 {y z : Int32} (hy : iv 0 33 y) (e : z = wSw.getD y.toNatClampNeg 0) (h6 : 6 ≤ z.toInt) (h15 : z.toInt ≤ 15) : y.toInt = z.toInt - 6 := by
  have q1 := iv_cl hy (by decide); have q2 := hy.2
  subst e
  have := sw10a y.toNatClampNeg (by omega) h6 h15
  omega
theorem swx {y z : Int32} (n : Nat) (v : Int) (hn : (wSw.getD n 0).toInt = v) (hy : iv 0 33 y) (e : z = wSw.getD y.toNatClampNeg 0) (h : ¬ z.toInt = v) : ¬ y.toInt = (n : Int) := fun q => by
  have q1 := iv_cl hy (by decide)
  rw [show y.toNatClampNeg = n by omega] at e
  rw [e] at h
  exact h hn
/-- an element stands in one with this word -/
def ISI (gm : Nat → Nat → Int32) (j : Nat) (a : Int32) : Prop := 0 ≤ (gm 15 j).toInt ∧ gm 14 (gm 15 j).toNatClampNeg = a
/-- an element bears an attribute with this key -/
def HSK (gm : Nat → Nat → Int32) (lg : Nat → Nat → Int64) (j : Nat) (k : Int64) : Prop := ∃ i, i < (gm 20 j).toNatClampNeg ∧ lg 0 ((gm 19 j).toNatClampNeg + i) = k
end
section
theorem dJx29ce0_ordinal_8abf5_0g : decode cJx29ce0_ordinal_8abf5 0 = .ok (.aload_n 0, 1) ∧ decode cJx29ce0_ordinal_8abf5 1 = .ok (.getfield 7, 3) ∧ decode cJx29ce0_ordinal_8abf5 4 = .ok (.ireturn, 1) := by decide +kernel
theorem dJx29ce0_ordinal_8abf5_0 : decode cJx29ce0_ordinal_8abf5 0 = .ok (.aload_n 0, 1) := dJx29ce0_ordinal_8abf5_0g.1
theorem dJx29ce0_ordinal_8abf5_1 : decode cJx29ce0_ordinal_8abf5 1 = .ok (.getfield 7, 3) := dJx29ce0_ordinal_8abf5_0g.2.1
theorem dJx29ce0_ordinal_8abf5_4 : decode cJx29ce0_ordinal_8abf5 4 = .ok (.ireturn, 1) := dJx29ce0_ordinal_8abf5_0g.2.2
set_option maxHeartbeats 4000000 in
set_option maxRecDepth 100000 in
/-- a word's number -/
theorem k_ordinal (l : Launch) (q : Nat) (z : Int32) (B : Nat → Prop) (sz : Nat) : Met l yJx29ce0_ordinal_8abf5 wm_Jx29ce0_ordinal_8abf5 ({ frames := 0, cells := 0, slots := 0, locals := 0 }) (va_Pc [.ref q] (fun U => U.heap.size = sz ∧ va_OF "java/lang/Enum" "ordinal" "I" (.int z) q B U U.heap)) (va_Qi (fun (r : Int32) (_ : Unit) => r = z) (fun _ _ => True) (fun x => sz ≤ x)) 0 0 (fun x => sz ≤ x) := by
  refine Met.ofW (cc := cJx29ce0_ordinal_8abf5) (maxL := 1) (ret := (some .int)) (by decide) rfl ?_
  intro p e s m args below meth c s₁ B9 hml hv
  obtain ⟨rfl, hsz, hO⟩ := hv
  have hx := B9.exec
  have hb := B9.bytes
  have hr := B9.returns
  have hts := atoms_spec (ws := wm_Jx29ce0_ordinal_8abf5) B9.pre
  have htb := fun (w : Cond) (h : w ∈ tb) => hts w (List.mem_cons_of_mem _ h)
  have hown : s.vm.findClass RJx29ce0 = some m.cls := findClass_of_methodNamed B9.named
  have hlocks := B9.notSynchronized
  subst hsz
  have hS : va_S (fun x => s.heap.size ≤ x) s.heap s.heap [] := va_S.rf
  have hS2 : va_S B s.heap s.heap [] := va_S.rf
  have hl := lv_entry ([.ref q]) (n := 1) (Nat.le_of_ble_eq_true rfl)
  rw [lg_entry_eq]
  generalize (lg_sl ([.ref q]) ++ List.replicate (1 - (lg_sl ([.ref q])).length) Slot.unset).toArray = ls at hl ⊢
  have hl : lv_has ls 1 [(0, .ref q)] := hl
  refine lv_aload_n hx hb dJx29ce0_ordinal_8abf5_0 rfl (lv_at hl 0 rfl) ?_
  refine vk_getf hx hb hO hS2 hown (htb _ kw_1346) (fun _ h9 => h9) dJx29ce0_ordinal_8abf5_1 ?_
  exact W.iret (v := z) hx hb hr (fun t ht hW => ⟨⟨z, (), rfl, rfl, trivial⟩, hS.F ht⟩) hS.2.2 dJx29ce0_ordinal_8abf5_4
theorem gd_U {own C owner : String} {idx : Nat} {x y : MethodName} {w : Cond} (h1 : Cond.methodLink own idx x ∈ tb) (h2 : Cond.sameMethod x.cls owner x.name x.desc ∈ tb) (h3 : Cond.selects C x y ∈ tb) (h4 : Cond.instanceMethod y ∈ tb) (h5 : Cond.initialized y.cls ∈ tb) (h6 : w ∈ tb) : GoodIn tb (va_wsU own idx C owner x y (w :: tb)) := by
  intro v hv
  unfold va_wsU at hv
  rcases List.mem_append.mp hv with h | h
  · simp only [List.mem_cons, List.not_mem_nil, or_false] at h
    rcases h with rfl | rfl | rfl | rfl | rfl
    · exact tb_good _ h1
    · exact tb_good _ h2
    · exact tb_good _ h3
    · exact tb_good _ h4
    · exact tb_good _ h5
  · exact gd_c h6 v h
section ORD
variable {p : Program} {l : Launch} {e : Env} {R : Room} {s : State} {m : MethodId} {args : Array Value} {below : List Frame} {meth : Method} {c : Code} {H : Heap} {locs : List Loc} {Q : State → Prop} {cc : ByteArray} {pc : Nat} {ls : Array Slot} {rest : List Value} {A : Nat → Prop}
variable {dC : Nat → ClassId} {dI : Nat → Nat → Nat} {ad : Nat → Nat → Nat} {cid : Nat → ClassId} {a2 : Nat → Nat} {lx : List Nat} {sg : Nat → Int32} {gm : Nat → Nat → Int32} {lg : Nat → Nat → Int64} {own : String} {index nL : Nat} {cells slots : Nat}
theorem cw_ord {x : Int32} (S : CallFix p m c cc nL s args tb own) (hlk : Cond.methodLink own index ⟨"WiredBeans$Word", "ordinal", "()I"⟩ ∈ tb) (hx : iv 0 33 x) (hsize : ls.size = nL) (hW : (rest.map fun v => v.category).sum ≤ 8) (hdg : decode cc pc = .ok (.invokevirtual index, 3)) (hf : cells ≤ R.cells ∧ slots ≤ R.slots) (hR : 1 ≤ R.frames ∧ 20 ≤ R.locals) (hP : va_P (dC, dI) vwCl (cW ad cid a2 lx sg gm lg) H) (hD : va_D A (cW ad cid a2 lx sg gm lg)) (hS : va_S A s.heap H locs) (hA : ∀ q, s.heap.size ≤ q → A q) (hG : CE ad A s)
    (kk : ∀ (H1 : Heap) (locs1 : List Loc), va_P (dC, dI) vwCl (cW ad cid a2 lx sg gm lg) H1 → va_S A s.heap H1 locs1 → W p l e R s m args below meth c H1 locs1 cells slots Q (F0 m (pc + 3) ls (.int x :: rest))) : W p l e R s m args below meth c H locs cells slots Q (F0 m pc ls (eV (ad 33) x :: rest)) := by
  have h34 : x.toNatClampNeg < 34 := by have := iv_cl hx (by decide); have := hx.2; omega
  have hw9 := hG.2.2.1.1 x.toNatClampNeg h34
  rw [iv_nI hx (by decide)] at hw9
  rw [eV_ref hx.1]
  have hFc : ∀ q, H.size ≤ q → A q := fun q h => hA q (Nat.le_trans hS.1 h)
  obtain ⟨cell, g1, g2, g3, g4⟩ := hw9.2.1.kept hS.2.1
  refine va_calli (va_runU (cells := cells) (slots := slots) (As := []) (rest := rest) (x := ⟨"WiredBeans$Word", "ordinal", "()I"⟩) (C := "WiredBeans$Word") (owner := "java/lang/Enum") S (k_ordinal l (ad 33 x.toNatClampNeg) x A H.size) (va_cwU 0 S.2.2.2.2 (gd_U hlk kw_662 kw_663 kw_664 kw_162 kw_1468) rfl rfl rfl rfl (by decide +kernel) ⟨hR.1, hR.2⟩) ⟨fun a U g mk q => by obtain ⟨q0, q1, qO⟩ := q; exact ⟨q0, q1, va_OF.moved (u := U) (U := U.calling g mk a) (Vm.Alike.refl U.vm) qO⟩, ⟨cell, g1, g2, g3⟩, fun U hU hW9 => ⟨rfl, by rw [hU], by rw [hU]; exact va_OF.moved hW9.alike (hw9.2.2.1.kept hS.2.1)⟩⟩ rfl rfl hsize rfl (lv_room hW) hdg ⟨by omega, by omega⟩) hS (fun q _ h => hFc q h) hFc (fun r u t H1 locs1 ht hvm hw hB hz1 hk1 hS1 => ?_)
  subst hw
  exact kk H1 locs1 (hP.kept (fun k q hq => hk1 _ (vx_lt hP hq) (Nat.not_le.mpr (vx_lt hP hq)))) hS1
end ORD
end
section
theorem dJ0_coder_7d493_0g : decode cJ0_coder_7d493 0 = .ok (.getstatic 38, 3) ∧ decode cJ0_coder_7d493 3 = .ok (.ifCond .eq 10, 3) ∧ decode cJ0_coder_7d493 6 = .ok (.aload_n 0, 1) ∧ decode cJ0_coder_7d493 7 = .ok (.getfield 15, 3) ∧ decode cJ0_coder_7d493 10 = .ok (.goto 4, 3) ∧ decode cJ0_coder_7d493 14 = .ok (.ireturn, 1) := by decide +kernel
theorem dJ0_coder_7d493_0 : decode cJ0_coder_7d493 0 = .ok (.getstatic 38, 3) := dJ0_coder_7d493_0g.1
theorem dJ0_coder_7d493_3 : decode cJ0_coder_7d493 3 = .ok (.ifCond .eq 10, 3) := dJ0_coder_7d493_0g.2.1
theorem dJ0_coder_7d493_6 : decode cJ0_coder_7d493 6 = .ok (.aload_n 0, 1) := dJ0_coder_7d493_0g.2.2.1
theorem dJ0_coder_7d493_7 : decode cJ0_coder_7d493 7 = .ok (.getfield 15, 3) := dJ0_coder_7d493_0g.2.2.2.1
theorem dJ0_coder_7d493_10 : decode cJ0_coder_7d493 10 = .ok (.goto 4, 3) := dJ0_coder_7d493_0g.2.2.2.2.1
theorem dJ0_coder_7d493_14 : decode cJ0_coder_7d493 14 = .ok (.ireturn, 1) := dJ0_coder_7d493_0g.2.2.2.2.2
theorem dJ0_isLatin1_aae02_0g : decode cJ0_isLatin1_aae02 0 = .ok (.getstatic 38, 3) ∧ decode cJ0_isLatin1_aae02 3 = .ok (.ifCond .eq 14, 3) ∧ decode cJ0_isLatin1_aae02 6 = .ok (.aload_n 0, 1) ∧ decode cJ0_isLatin1_aae02 7 = .ok (.getfield 15, 3) ∧ decode cJ0_isLatin1_aae02 10 = .ok (.ifCond .ne 7, 3) ∧ decode cJ0_isLatin1_aae02 13 = .ok (.iconst 1, 1) ∧ decode cJ0_isLatin1_aae02 14 = .ok (.goto 4, 3) ∧ decode cJ0_isLatin1_aae02 18 = .ok (.ireturn, 1) := by decide +kernel
theorem dJ0_isLatin1_aae02_0 : decode cJ0_isLatin1_aae02 0 = .ok (.getstatic 38, 3) := dJ0_isLatin1_aae02_0g.1
theorem dJ0_isLatin1_aae02_3 : decode cJ0_isLatin1_aae02 3 = .ok (.ifCond .eq 14, 3) := dJ0_isLatin1_aae02_0g.2.1
theorem dJ0_isLatin1_aae02_6 : decode cJ0_isLatin1_aae02 6 = .ok (.aload_n 0, 1) := dJ0_isLatin1_aae02_0g.2.2.1
theorem dJ0_isLatin1_aae02_7 : decode cJ0_isLatin1_aae02 7 = .ok (.getfield 15, 3) := dJ0_isLatin1_aae02_0g.2.2.2.1
theorem dJ0_isLatin1_aae02_10 : decode cJ0_isLatin1_aae02 10 = .ok (.ifCond .ne 7, 3) := dJ0_isLatin1_aae02_0g.2.2.2.2.1
theorem dJ0_isLatin1_aae02_13 : decode cJ0_isLatin1_aae02 13 = .ok (.iconst 1, 1) := dJ0_isLatin1_aae02_0g.2.2.2.2.2.1
theorem dJ0_isLatin1_aae02_14 : decode cJ0_isLatin1_aae02 14 = .ok (.goto 4, 3) := dJ0_isLatin1_aae02_0g.2.2.2.2.2.2.1
theorem dJ0_isLatin1_aae02_18 : decode cJ0_isLatin1_aae02 18 = .ok (.ireturn, 1) := dJ0_isLatin1_aae02_0g.2.2.2.2.2.2.2
theorem dJ0_length_8abf5_0g : decode cJ0_length_8abf5 0 = .ok (.aload_n 0, 1) ∧ decode cJ0_length_8abf5 1 = .ok (.getfield 9, 3) ∧ decode cJ0_length_8abf5 4 = .ok (.arraylength, 1) ∧ decode cJ0_length_8abf5 5 = .ok (.aload_n 0, 1) ∧ decode cJ0_length_8abf5 6 = .ok (.invokevirtual 335, 3) ∧ decode cJ0_length_8abf5 9 = .ok (.ishr, 1) ∧ decode cJ0_length_8abf5 10 = .ok (.ireturn, 1) := by decide +kernel
theorem dJ0_length_8abf5_0 : decode cJ0_length_8abf5 0 = .ok (.aload_n 0, 1) := dJ0_length_8abf5_0g.1
theorem dJ0_length_8abf5_1 : decode cJ0_length_8abf5 1 = .ok (.getfield 9, 3) := dJ0_length_8abf5_0g.2.1
theorem dJ0_length_8abf5_4 : decode cJ0_length_8abf5 4 = .ok (.arraylength, 1) := dJ0_length_8abf5_0g.2.2.1
theorem dJ0_length_8abf5_5 : decode cJ0_length_8abf5 5 = .ok (.aload_n 0, 1) := dJ0_length_8abf5_0g.2.2.2.1
theorem dJ0_length_8abf5_6 : decode cJ0_length_8abf5 6 = .ok (.invokevirtual 335, 3) := dJ0_length_8abf5_0g.2.2.2.2.1
theorem dJ0_length_8abf5_9 : decode cJ0_length_8abf5 9 = .ok (.ishr, 1) := dJ0_length_8abf5_0g.2.2.2.2.2.1
theorem dJ0_length_8abf5_10 : decode cJ0_length_8abf5 10 = .ok (.ireturn, 1) := dJ0_length_8abf5_0g.2.2.2.2.2.2
theorem dJ3_checkIndex_8e157_0g : decode cJ3_checkIndex_8e157 0 = .ok (.iload_n 0, 1) ∧ decode cJ3_checkIndex_8e157 1 = .ok (.ifCond .lt 8, 3) ∧ decode cJ3_checkIndex_8e157 4 = .ok (.iload_n 0, 1) ∧ decode cJ3_checkIndex_8e157 5 = .ok (.iload_n 1, 1) ∧ decode cJ3_checkIndex_8e157 6 = .ok (.if_icmp .lt 10, 3) ∧ decode cJ3_checkIndex_8e157 16 = .ok (.iload_n 0, 1) ∧ decode cJ3_checkIndex_8e157 17 = .ok (.ireturn, 1) := by decide +kernel
theorem dJ3_checkIndex_8e157_0 : decode cJ3_checkIndex_8e157 0 = .ok (.iload_n 0, 1) := dJ3_checkIndex_8e157_0g.1
theorem dJ3_checkIndex_8e157_1 : decode cJ3_checkIndex_8e157 1 = .ok (.ifCond .lt 8, 3) := dJ3_checkIndex_8e157_0g.2.1
theorem dJ3_checkIndex_8e157_4 : decode cJ3_checkIndex_8e157 4 = .ok (.iload_n 0, 1) := dJ3_checkIndex_8e157_0g.2.2.1
theorem dJ3_checkIndex_8e157_5 : decode cJ3_checkIndex_8e157 5 = .ok (.iload_n 1, 1) := dJ3_checkIndex_8e157_0g.2.2.2.1
theorem dJ3_checkIndex_8e157_6 : decode cJ3_checkIndex_8e157 6 = .ok (.if_icmp .lt 10, 3) := dJ3_checkIndex_8e157_0g.2.2.2.2.1
theorem dJ3_checkIndex_8e157_16 : decode cJ3_checkIndex_8e157 16 = .ok (.iload_n 0, 1) := dJ3_checkIndex_8e157_0g.2.2.2.2.2.1
theorem dJ3_checkIndex_8e157_17 : decode cJ3_checkIndex_8e157 17 = .ok (.ireturn, 1) := dJ3_checkIndex_8e157_0g.2.2.2.2.2.2
theorem dJ0_checkIndex_df160_0g : decode cJ0_checkIndex_df160 0 = .ok (.iload_n 0, 1) ∧ decode cJ0_checkIndex_df160 1 = .ok (.iload_n 1, 1) ∧ decode cJ0_checkIndex_df160 2 = .ok (.getstatic 1053, 3) ∧ decode cJ0_checkIndex_df160 5 = .ok (.invokestatic 1059, 3) ∧ decode cJ0_checkIndex_df160 8 = .ok (.pop, 1) ∧ decode cJ0_checkIndex_df160 9 = .ok (.return_, 1) := by decide +kernel
theorem dJ0_checkIndex_df160_0 : decode cJ0_checkIndex_df160 0 = .ok (.iload_n 0, 1) := dJ0_checkIndex_df160_0g.1
theorem dJ0_checkIndex_df160_1 : decode cJ0_checkIndex_df160 1 = .ok (.iload_n 1, 1) := dJ0_checkIndex_df160_0g.2.1
theorem dJ0_checkIndex_df160_2 : decode cJ0_checkIndex_df160 2 = .ok (.getstatic 1053, 3) := dJ0_checkIndex_df160_0g.2.2.1
theorem dJ0_checkIndex_df160_5 : decode cJ0_checkIndex_df160 5 = .ok (.invokestatic 1059, 3) := dJ0_checkIndex_df160_0g.2.2.2.1
theorem dJ0_checkIndex_df160_8 : decode cJ0_checkIndex_df160 8 = .ok (.pop, 1) := dJ0_checkIndex_df160_0g.2.2.2.2.1
theorem dJ0_checkIndex_df160_9 : decode cJ0_checkIndex_df160 9 = .ok (.return_, 1) := dJ0_checkIndex_df160_0g.2.2.2.2.2
theorem dJ1_charAt_3b067_0g : decode cJ1_charAt_3b067 0 = .ok (.iload_n 1, 1) ∧ decode cJ1_charAt_3b067 1 = .ok (.aload_n 0, 1) ∧ decode cJ1_charAt_3b067 2 = .ok (.arraylength, 1) ∧ decode cJ1_charAt_3b067 3 = .ok (.invokestatic 9, 3) ∧ decode cJ1_charAt_3b067 6 = .ok (.aload_n 0, 1) ∧ decode cJ1_charAt_3b067 7 = .ok (.iload_n 1, 1) ∧ decode cJ1_charAt_3b067 8 = .ok (.baload, 1) ∧ decode cJ1_charAt_3b067 9 = .ok (.sipush 255, 3) ∧ decode cJ1_charAt_3b067 12 = .ok (.iand, 1) ∧ decode cJ1_charAt_3b067 13 = .ok (.i2c, 1) ∧ decode cJ1_charAt_3b067 14 = .ok (.ireturn, 1) := by decide +kernel
theorem dJ1_charAt_3b067_0 : decode cJ1_charAt_3b067 0 = .ok (.iload_n 1, 1) := dJ1_charAt_3b067_0g.1
theorem dJ1_charAt_3b067_1 : decode cJ1_charAt_3b067 1 = .ok (.aload_n 0, 1) := dJ1_charAt_3b067_0g.2.1
theorem dJ1_charAt_3b067_2 : decode cJ1_charAt_3b067 2 = .ok (.arraylength, 1) := dJ1_charAt_3b067_0g.2.2.1
theorem dJ1_charAt_3b067_3 : decode cJ1_charAt_3b067 3 = .ok (.invokestatic 9, 3) := dJ1_charAt_3b067_0g.2.2.2.1
theorem dJ1_charAt_3b067_6 : decode cJ1_charAt_3b067 6 = .ok (.aload_n 0, 1) := dJ1_charAt_3b067_0g.2.2.2.2.1
theorem dJ1_charAt_3b067_7 : decode cJ1_charAt_3b067 7 = .ok (.iload_n 1, 1) := dJ1_charAt_3b067_0g.2.2.2.2.2.1
theorem dJ1_charAt_3b067_8 : decode cJ1_charAt_3b067 8 = .ok (.baload, 1) := dJ1_charAt_3b067_0g.2.2.2.2.2.2.1
theorem dJ1_charAt_3b067_9 : decode cJ1_charAt_3b067 9 = .ok (.sipush 255, 3) := dJ1_charAt_3b067_0g.2.2.2.2.2.2.2.1
theorem dJ1_charAt_3b067_12 : decode cJ1_charAt_3b067 12 = .ok (.iand, 1) := dJ1_charAt_3b067_0g.2.2.2.2.2.2.2.2.1
theorem dJ1_charAt_3b067_13 : decode cJ1_charAt_3b067 13 = .ok (.i2c, 1) := dJ1_charAt_3b067_0g.2.2.2.2.2.2.2.2.2.1
theorem dJ1_charAt_3b067_14 : decode cJ1_charAt_3b067 14 = .ok (.ireturn, 1) := dJ1_charAt_3b067_0g.2.2.2.2.2.2.2.2.2.2
theorem dJ0_charAt_5068e_0g : decode cJ0_charAt_5068e 0 = .ok (.aload_n 0, 1) ∧ decode cJ0_charAt_5068e 1 = .ok (.invokevirtual 492, 3) ∧ decode cJ0_charAt_5068e 4 = .ok (.ifCond .eq 12, 3) ∧ decode cJ0_charAt_5068e 7 = .ok (.aload_n 0, 1) ∧ decode cJ0_charAt_5068e 8 = .ok (.getfield 9, 3) ∧ decode cJ0_charAt_5068e 11 = .ok (.iload_n 1, 1) ∧ decode cJ0_charAt_5068e 12 = .ok (.invokestatic 495, 3) ∧ decode cJ0_charAt_5068e 15 = .ok (.ireturn, 1) := by decide +kernel
theorem dJ0_charAt_5068e_0 : decode cJ0_charAt_5068e 0 = .ok (.aload_n 0, 1) := dJ0_charAt_5068e_0g.1
theorem dJ0_charAt_5068e_1 : decode cJ0_charAt_5068e 1 = .ok (.invokevirtual 492, 3) := dJ0_charAt_5068e_0g.2.1
theorem dJ0_charAt_5068e_4 : decode cJ0_charAt_5068e 4 = .ok (.ifCond .eq 12, 3) := dJ0_charAt_5068e_0g.2.2.1
theorem dJ0_charAt_5068e_7 : decode cJ0_charAt_5068e 7 = .ok (.aload_n 0, 1) := dJ0_charAt_5068e_0g.2.2.2.1
theorem dJ0_charAt_5068e_8 : decode cJ0_charAt_5068e 8 = .ok (.getfield 9, 3) := dJ0_charAt_5068e_0g.2.2.2.2.1
theorem dJ0_charAt_5068e_11 : decode cJ0_charAt_5068e 11 = .ok (.iload_n 1, 1) := dJ0_charAt_5068e_0g.2.2.2.2.2.1
theorem dJ0_charAt_5068e_12 : decode cJ0_charAt_5068e 12 = .ok (.invokestatic 495, 3) := dJ0_charAt_5068e_0g.2.2.2.2.2.2.1
theorem dJ0_charAt_5068e_15 : decode cJ0_charAt_5068e 15 = .ok (.ireturn, 1) := dJ0_charAt_5068e_0g.2.2.2.2.2.2.2
theorem SQ.call {q v n : Nat} {f : Nat → Int32} {A : Nat → Prop} {U : State} (g : JFrame) (mk : MethodId) (a : Array Value) (h : SQ q v n f A U U.heap) : SQ q v n f A (U.calling g mk a) (U.calling g mk a).heap := SQ.moved (u := U) (U := U.calling g mk a) (Vm.Alike.refl U.vm) h
/-- what a method on a text meets -/
def SP (q v n : Nat) (f : Nat → Int32) (B : Nat → Prop) (sz : Nat) (U : State) : Prop := U.heap.size = sz ∧ SQ q v n f B U U.heap ∧ ∀ x, sz ≤ x → B x
theorem SP_blind {as : List Value} {q v n : Nat} {f : Nat → Int32} {B : Nat → Prop} {sz : Nat} : FrameBlind (va_Pc as (SP q v n f B sz)) := fun a U g mk z => ⟨z.1, z.2.1, SQ.call g mk a z.2.2.1, z.2.2.2⟩
theorem S_B {B : Nat → Prop} {H0 H : Heap} {locs : List Loc} (hS : va_S (fun x => H0.size ≤ x) H0 H locs) (hB : ∀ x, H0.size ≤ x → B x) : va_S B H0 H locs := ⟨hS.1, fun q h1 h2 => hS.2.1 q h1 (fun z => h2 (hB q z)), fun z hz => hB _ (hS.2.2 z hz)⟩
theorem S_z {B : Nat → Prop} {H0 H : Heap} {locs : List Loc} (hS : va_S (fun x => H0.size ≤ x) H0 H locs) (hB : ∀ x, H0.size ≤ x → B x) : ∀ x, H.size ≤ x → B x := fun x h => hB x (Nat.le_trans hS.1 h)
theorem va_Orc {E : String} {q : Nat} {A : Nat → Prop} {s : State} {H : Heap} {locs : List Loc} (h : va_O E q A s s.heap) (hS : va_S A s.heap H locs) : ∃ cell : Cell, H[q]? = some cell ∧ cell.vm.isStatics = false ∧ s.vm.findClass E = some cell.cls := by
  obtain ⟨cell, h1, h2, h3, _⟩ := h.kept hS.2.1
  exact ⟨cell, h1, h2, h3⟩

set_option maxHeartbeats 4000000 in
set_option maxRecDepth 100000 in
theorem k_coder (l : Launch) (q v n : Nat) (f : Nat → Int32) (B : Nat → Prop) (sz : Nat) : Met l yJ0_coder_7d493 wm_J0_coder_7d493 ({ frames := 0, cells := 0, slots := 0, locals := 0 }) (va_Pc [.ref q] (SP q v n f B sz)) (va_Qi (fun (r : Int32) (_ : Unit) => r = 0) (fun _ _ => True) (fun x => sz ≤ x)) 0 0 (fun x => sz ≤ x) := by
  refine Met.ofW (cc := cJ0_coder_7d493) (maxL := 1) (ret := (some .byte)) (by decide) rfl ?_
  intro p e s m args below meth c s₁ B9 hml hv
  obtain ⟨rfl, hsz, hQ, hB⟩ := hv
  have hx := B9.exec
  have hb := B9.bytes
  have hr := B9.returns
  have hts := atoms_spec (ws := wm_J0_coder_7d493) B9.pre
  have htb := fun (w : Cond) (h : w ∈ tb) => hts w (List.mem_cons_of_mem _ h)
  have hown : s.vm.findClass RJ0 = some m.cls := findClass_of_methodNamed B9.named
  have hlocks := B9.notSynchronized
  subst hsz
  have hS : va_S (fun x => s.heap.size ≤ x) s.heap s.heap [] := va_S.rf
  have hl := lv_entry ([.ref q]) (n := 1) (Nat.le_of_ble_eq_true rfl)
  rw [lg_entry_eq]
  generalize (lg_sl ([.ref q]) ++ List.replicate (1 - (lg_sl ([.ref q])).length) Slot.unset).toArray = ls at hl ⊢
  have hl : lv_has ls 1 [(0, .ref q)] := hl
  refine va_gets hx hb hQ.2.2.2.2.1 (S_B hS hB) hown (htb _ kw_603) (fun _ h9 => h9) dJ0_coder_7d493_0 ?_
  refine lv_if_eq (tgt := 13) hx hb dJ0_coder_7d493_3 (by decide) (fun c1 => absurd c1 (by decide)) (fun _ => ?_)
  refine lv_aload_n hx hb dJ0_coder_7d493_6 rfl (lv_at hl 0 rfl) ?_
  refine vk_getf hx hb hQ.2.1 (S_B hS hB) hown (htb _ kw_1345) (fun _ h9 => h9) dJ0_coder_7d493_7 ?_
  refine lv_goto (tgt := 14) hx hb dJ0_coder_7d493_10 (by decide) ?_
  exact W.zret (v := 0) hx hb hr rfl (fun t ht hW => ⟨⟨0, (), rfl, rfl, trivial⟩, hS.F ht⟩) hS.2.2 dJ0_coder_7d493_14

set_option maxHeartbeats 4000000 in
set_option maxRecDepth 100000 in
theorem k_isLatin1 (l : Launch) (q v n : Nat) (f : Nat → Int32) (B : Nat → Prop) (sz : Nat) : Met l yJ0_isLatin1_aae02 wm_J0_isLatin1_aae02 ({ frames := 0, cells := 0, slots := 0, locals := 0 }) (va_Pc [.ref q] (SP q v n f B sz)) (va_Qi (fun (r : Int32) (_ : Unit) => r = 1) (fun _ _ => True) (fun x => sz ≤ x)) 0 0 (fun x => sz ≤ x) := by
  refine Met.ofW (cc := cJ0_isLatin1_aae02) (maxL := 1) (ret := (some .boolean)) (by decide) rfl ?_
  intro p e s m args below meth c s₁ B9 hml hv
  obtain ⟨rfl, hsz, hQ, hB⟩ := hv
  have hx := B9.exec
  have hb := B9.bytes
  have hr := B9.returns
  have hts := atoms_spec (ws := wm_J0_isLatin1_aae02) B9.pre
  have htb := fun (w : Cond) (h : w ∈ tb) => hts w (List.mem_cons_of_mem _ h)
  have hown : s.vm.findClass RJ0 = some m.cls := findClass_of_methodNamed B9.named
  have hlocks := B9.notSynchronized
  subst hsz
  have hS : va_S (fun x => s.heap.size ≤ x) s.heap s.heap [] := va_S.rf
  have hl := lv_entry ([.ref q]) (n := 1) (Nat.le_of_ble_eq_true rfl)
  rw [lg_entry_eq]
  generalize (lg_sl ([.ref q]) ++ List.replicate (1 - (lg_sl ([.ref q])).length) Slot.unset).toArray = ls at hl ⊢
  have hl : lv_has ls 1 [(0, .ref q)] := hl
  refine va_gets hx hb hQ.2.2.2.2.1 (S_B hS hB) hown (htb _ kw_603) (fun _ h9 => h9) dJ0_isLatin1_aae02_0 ?_
  refine lv_if_eq (tgt := 17) hx hb dJ0_isLatin1_aae02_3 (by decide) (fun c1 => absurd c1 (by decide)) (fun _ => ?_)
  refine lv_aload_n hx hb dJ0_isLatin1_aae02_6 rfl (lv_at hl 0 rfl) ?_
  refine vk_getf hx hb hQ.2.1 (S_B hS hB) hown (htb _ kw_1345) (fun _ h9 => h9) dJ0_isLatin1_aae02_7 ?_
  refine lv_if_ne (tgt := 17) hx hb dJ0_isLatin1_aae02_10 (by decide) (fun c1 => absurd rfl c1) (fun _ => ?_)
  refine lv_iconst (v := 1) hx hb dJ0_isLatin1_aae02_13 (by decide) ?_
  refine lv_goto (tgt := 18) hx hb dJ0_isLatin1_aae02_14 (by decide) ?_
  exact W.zret (v := 1) hx hb hr rfl (fun t ht hW => ⟨⟨1, (), rfl, rfl, trivial⟩, hS.F ht⟩) hS.2.2 dJ0_isLatin1_aae02_18

set_option maxHeartbeats 4000000 in
set_option maxRecDepth 100000 in
theorem k_slen (l : Launch) (q v n : Nat) (f : Nat → Int32) (B : Nat → Prop) (sz : Nat) : Met l yJ0_length_8abf5 wm_J0_length_8abf5 ({ frames := 1, cells := 0, slots := 0, locals := 20 }) (va_Pc [.ref q] (SP q v n f B sz)) (va_Qi (fun (r : Int32) (_ : Unit) => r = nI n >>> ((0 : Int32) &&& 31)) (fun _ _ => True) (fun x => sz ≤ x)) 0 0 (fun x => sz ≤ x) := by
  refine Met.ofW (cc := cJ0_length_8abf5) (maxL := 1) (ret := (some .int)) (by decide) rfl ?_
  intro p e s m args below meth c s₁ B9 hml hv
  obtain ⟨rfl, hsz, hQ, hB⟩ := hv
  have hx := B9.exec
  have hb := B9.bytes
  have hr := B9.returns
  have hts := atoms_spec (ws := wm_J0_length_8abf5) B9.pre
  have htb := fun (w : Cond) (h : w ∈ tb) => hts w (List.mem_cons_of_mem _ h)
  have hown : s.vm.findClass RJ0 = some m.cls := findClass_of_methodNamed B9.named
  have hlocks := B9.notSynchronized
  subst hsz
  have hS : va_S (fun x => s.heap.size ≤ x) s.heap s.heap [] := va_S.rf
  have hl := lv_entry ([.ref q]) (n := 1) (Nat.le_of_ble_eq_true rfl)
  rw [lg_entry_eq]
  generalize (lg_sl ([.ref q]) ++ List.replicate (1 - (lg_sl ([.ref q])).length) Slot.unset).toArray = ls at hl ⊢
  have hl : lv_has ls 1 [(0, .ref q)] := hl
  refine lv_aload_n hx hb dJ0_length_8abf5_0 rfl (lv_at hl 0 rfl) ?_
  refine vk_getf hx hb hQ.2.2.1 (S_B hS hB) hown (htb _ kw_1344) (fun _ h9 => h9) dJ0_length_8abf5_1 ?_
  refine va_tlen hx hb hQ.2.2.2.1 (S_B hS hB) rfl dJ0_length_8abf5_4 ?_
  refine lv_aload_n hx hb dJ0_length_8abf5_5 rfl (lv_at hl 0 rfl) ?_
  refine va_calli (va_runV (As := []) (rest := [.int (Int32.ofNat n)]) ⟨hx, hb, hml, hown, htb⟩ (k_coder l q v n f B s.heap.size) (cwV 0 htb (gd_V kw_600 kw_601 kw_602 kw_164 kw_1445) rfl rfl rfl (by decide +kernel) ⟨Nat.le_of_ble_eq_true rfl, Nat.le_of_ble_eq_true rfl⟩) ⟨SP_blind, va_Orc hQ.1 (S_B hS hB), fun U hU hW => ⟨rfl, by rw [hU], by rw [hU]; exact SQ.moved hW.alike (hQ.kept (S_B hS hB).2.1), S_z hS hB⟩⟩ rfl rfl hl.1 rfl (lv_room (Nat.le_of_ble_eq_true rfl)) dJ0_length_8abf5_6 ⟨Nat.zero_le _, Nat.zero_le _⟩) hS (fun q9 h1 h => Nat.le_trans hS.1 h) (fun q9 h => Nat.le_trans hS.1 h) (fun r u t H1 locs1 ht hvm hw hB9 hz1 hk1 hS => ?_)
  subst hw
  refine lv_ishr hx hb dJ0_length_8abf5_9 ?_
  exact W.iret (v := Int32.ofNat n >>> ((0 : Int32) &&& 31)) hx hb hr (fun t ht hW => ⟨⟨_, (), rfl, rfl, trivial⟩, hS.F ht⟩) hS.2.2 dJ0_length_8abf5_10

set_option maxHeartbeats 4000000 in
set_option maxRecDepth 100000 in
theorem k_pchk (l : Launch) (q v n : Nat) (f : Nat → Int32) (B : Nat → Prop) (sz : Nat) (i j : Int32) (fv : Value) (hf9 : fv = .null ∨ ∃ a, fv = .ref a) (hi : 0 ≤ i.toInt) (hj : i.toInt < j.toInt) : Met l yJ3_checkIndex_8e157 wm_J3_checkIndex_8e157 ({ frames := 0, cells := 0, slots := 0, locals := 0 }) (va_Pc [.int i, .int j, fv] (SP q v n f B sz)) (va_Qi (fun (r : Int32) (_ : Unit) => r = i) (fun _ _ => True) (fun x => sz ≤ x)) 0 0 (fun x => sz ≤ x) := by
  refine Met.ofW (cc := cJ3_checkIndex_8e157) (maxL := 3) (ret := (some .int)) (by decide) rfl ?_
  intro p e s m args below meth c s₁ B9 hml hv
  obtain ⟨rfl, hsz, hQ, hB⟩ := hv
  have hx := B9.exec
  have hb := B9.bytes
  have hr := B9.returns
  have hts := atoms_spec (ws := wm_J3_checkIndex_8e157) B9.pre
  have htb := fun (w : Cond) (h : w ∈ tb) => hts w (List.mem_cons_of_mem _ h)
  have hown : s.vm.findClass RJ3 = some m.cls := findClass_of_methodNamed B9.named
  have hlocks := B9.notSynchronized
  subst hsz
  have hS : va_S (fun x => s.heap.size ≤ x) s.heap s.heap [] := va_S.rf
  have hcat : fv.category = 1 := by rcases hf9 with h | ⟨a, h⟩ <;> rw [h] <;> rfl
  have hl := lv_entry ([.int i, .int j, fv]) (n := 3) (by simp [lg_sl, hcat, cat_i])
  rw [lg_entry_eq]
  generalize (lg_sl ([.int i, .int j, fv]) ++ List.replicate (3 - (lg_sl ([.int i, .int j, fv])).length) Slot.unset).toArray = ls at hl ⊢
  have hl : lv_has ls 3 [(0, .int i), (1, .int j), (2, fv)] := by simp [lv_args, hcat, cat_i] at hl; exact hl
  have hi0 : ¬ i < 0 := fun c1 => by have := Int32.lt_iff_toInt_lt.mp c1; have := i32_0; omega
  have hij : i < j := Int32.lt_iff_toInt_lt.mpr hj
  refine lv_iload_n hx hb dJ3_checkIndex_8e157_0 rfl (lv_at hl 0 rfl) ?_
  refine lv_if_lt (tgt := 9) hx hb dJ3_checkIndex_8e157_1 (by decide) (fun c1 => absurd c1 hi0) (fun _ => ?_)
  refine lv_iload_n hx hb dJ3_checkIndex_8e157_4 rfl (lv_at hl 0 rfl) ?_
  refine lv_iload_n hx hb dJ3_checkIndex_8e157_5 rfl (lv_at hl 1 rfl) ?_
  refine lv_icmp_lt (tgt := 16) hx hb dJ3_checkIndex_8e157_6 (by decide) (fun _ => ?_) (fun c1 => absurd hij c1)
  refine lv_iload_n hx hb dJ3_checkIndex_8e157_16 rfl (lv_at hl 0 rfl) ?_
  exact W.iret (v := i) hx hb hr (fun t ht hW => ⟨⟨_, (), rfl, rfl, trivial⟩, hS.F ht⟩) hS.2.2 dJ3_checkIndex_8e157_17

theorem va_Zq.val {C n d : String} {A : Nat → Prop} {U : State} {H : Heap} (h : va_Zq C n d A U H) : ∃ v : Value, va_Z C n d v A U H ∧ (v = .null ∨ ∃ a, v = .ref a) := by
  rcases h with h | ⟨t, h⟩
  · exact ⟨_, h, Or.inl rfl⟩
  · exact ⟨_, h, Or.inr ⟨t, rfl⟩⟩

set_option maxHeartbeats 4000000 in
set_option maxRecDepth 100000 in
theorem k_schk (l : Launch) (q v n : Nat) (f : Nat → Int32) (B : Nat → Prop) (sz : Nat) (i j : Int32) (hi : 0 ≤ i.toInt) (hj : i.toInt < j.toInt) : Met l yJ0_checkIndex_df160 wm_J0_checkIndex_df160 ({ frames := 1, cells := 0, slots := 0, locals := 22 }) (va_Pc [.int i, .int j] (SP q v n f B sz)) (va_Qv (fun _ : Unit => True) (fun _ _ => True) (fun x => sz ≤ x)) 0 0 (fun x => sz ≤ x) := by
  refine Met.ofW (cc := cJ0_checkIndex_df160) (maxL := 2) (ret := none) (by decide) rfl ?_
  intro p e s m args below meth c s₁ B9 hml hv
  obtain ⟨rfl, hsz, hQ, hB⟩ := hv
  have hx := B9.exec
  have hb := B9.bytes
  have hr := B9.returns
  have hts := atoms_spec (ws := wm_J0_checkIndex_df160) B9.pre
  have htb := fun (w : Cond) (h : w ∈ tb) => hts w (List.mem_cons_of_mem _ h)
  have hown : s.vm.findClass RJ0 = some m.cls := findClass_of_methodNamed B9.named
  have hlocks := B9.notSynchronized
  subst hsz
  have hS : va_S (fun x => s.heap.size ≤ x) s.heap s.heap [] := va_S.rf
  have hl := lv_entry ([.int i, .int j]) (n := 2) (Nat.le_of_ble_eq_true rfl)
  rw [lg_entry_eq]
  generalize (lg_sl ([.int i, .int j]) ++ List.replicate (2 - (lg_sl ([.int i, .int j])).length) Slot.unset).toArray = ls at hl ⊢
  have hl : lv_has ls 2 [(0, .int i), (1, .int j)] := hl
  obtain ⟨fv, hZ, hf9⟩ := hQ.2.2.2.2.2.val
  refine lv_iload_n hx hb dJ0_checkIndex_df160_0 rfl (lv_at hl 0 rfl) ?_
  refine lv_iload_n hx hb dJ0_checkIndex_df160_1 rfl (lv_at hl 1 rfl) ?_
  refine va_gets hx hb hZ (S_B hS hB) hown (htb _ kw_614) (fun _ h9 => h9) dJ0_checkIndex_df160_2 ?_
  refine va_calli (va_runS (As := [.int i, .int j, fv]) (rest := []) ⟨hx, hb, hml, hown, htb⟩ (k_pchk l q v n f B s.heap.size i j fv hf9 hi hj) (va_cwS 3 htb (gd_S kw_615 kw_616 kw_166 kw_1450) rfl rfl rfl (by decide +kernel) ⟨Nat.le_of_ble_eq_true rfl, Nat.le_of_ble_eq_true rfl⟩) ⟨SP_blind, fun U hU hW => ⟨rfl, by rw [hU], by rw [hU]; exact SQ.moved hW.alike (hQ.kept (S_B hS hB).2.1), S_z hS hB⟩⟩ rfl rfl hl.1 rfl (lv_room (Nat.le_of_ble_eq_true rfl)) dJ0_checkIndex_df160_5 ⟨Nat.zero_le _, Nat.zero_le _⟩) hS (fun q9 h1 h => Nat.le_trans hS.1 h) (fun q9 h => Nat.le_trans hS.1 h) (fun r u t H1 locs1 ht hvm hw hB9 hz1 hk1 hS => ?_)
  refine lv_pop hx hb dJ0_checkIndex_df160_8 rfl ?_
  exact W.vret hx hb hr (fun t ht hW => ⟨⟨(), rfl, trivial, trivial⟩, hS.F ht⟩) hS.2.2 dJ0_checkIndex_df160_9

theorem sb_len : ∀ k, k < 7 → 2 ≤ (sByt.getD k []).length ∧ (sByt.getD k []).length ≤ 5 := by decide
section STRR
variable {p : Program} {l : Launch} {e : Env} {R : Room} {s : State} {m : MethodId} {args : Array Value} {below : List Frame} {meth : Method} {c : Code} {H : Heap} {locs : List Loc} {Q : State → Prop} {cc : ByteArray} {pc : Nat} {ls : Array Slot} {rest : List Value} {A : Nat → Prop}
variable {dC : Nat → ClassId} {dI : Nat → Nat → Nat} {ad : Nat → Nat → Nat} {cid : Nat → ClassId} {a2 : Nat → Nat} {lx : List Nat} {sg : Nat → Int32} {gm : Nat → Nat → Int32} {lg : Nat → Nat → Int64} {own : String} {index nL : Nat} {cells slots : Nat}
theorem c7 {x : Int32} (hx : iv 0 6 x) : x.toNatClampNeg < 7 := by have := iv_cl hx (by decide); have := hx.2; omega
/-- a text as a constant -/
theorem cw_str {k : Nat} {kx : Int32} (hexec : p.tables.exec = Jvm.exec) (hb : c.code = cc) (hG : CE ad A s) (hk : k < 7) (hkx : kx.toNatClampNeg = k ∧ 0 ≤ kx.toInt) (hown : s.vm.findClass (sOwn.getD k "") = some m.cls) (hdg : decode cc pc = .ok (.ldc (sEnt.getD k 0), 2))
    (kk : W p l e R s m args below meth c H locs cells slots Q (F0 m (pc + 2) ls (eV (ad 37) kx :: rest))) : W p l e R s m args below meth c H locs cells slots Q (F0 m pc ls rest) := by
  rw [eV_ref hkx.2, hkx.1] at kk
  exact va_ldcS hexec hb hown (hG.2.2.2.2 k hk) hdg kk
theorem cw_slen {x : Int32} (S : CallFix p m c cc nL s args tb own) (hlk : Cond.methodLink own index yJ0_length_8abf5 ∈ tb) (hx : iv 0 6 x) (hsize : ls.size = nL) (hW : (rest.map fun v => v.category).sum ≤ 8) (hdg : decode cc pc = .ok (.invokevirtual index, 3)) (hf : cells ≤ R.cells ∧ slots ≤ R.slots) (hR : 2 ≤ R.frames ∧ 40 ≤ R.locals) (hP : va_P (dC, dI) vwCl (cW ad cid a2 lx sg gm lg) H) (hS : va_S A s.heap H locs) (hA : ∀ q, s.heap.size ≤ q → A q) (hG : CE ad A s)
    (kk : ∀ (H1 : Heap) (locs1 : List Loc), va_P (dC, dI) vwCl (cW ad cid a2 lx sg gm lg) H1 → va_S A s.heap H1 locs1 → W p l e R s m args below meth c H1 locs1 cells slots Q (F0 m (pc + 3) ls (.int (nI ((sByt.getD x.toNatClampNeg []).length) >>> ((0 : Int32) &&& 31)) :: rest))) : W p l e R s m args below meth c H locs cells slots Q (F0 m pc ls (eV (ad 37) x :: rest)) := by
  have hq9 := hG.2.2.2.1 x.toNatClampNeg (c7 hx)
  rw [eV_ref hx.1]
  have hFc : ∀ q, H.size ≤ q → A q := fun q h => hA q (Nat.le_trans hS.1 h)
  refine va_calli (va_runV (cells := cells) (slots := slots) (As := []) (rest := rest) S (k_slen l (ad 37 x.toNatClampNeg) (ad 38 x.toNatClampNeg) _ _ A H.size) (cwV 0 S.2.2.2.2 (gd_V hlk kw_598 kw_599 kw_164 kw_1444) rfl rfl rfl (by decide +kernel) ⟨hR.1, hR.2⟩) ⟨SP_blind, va_Orc hq9.1 hS, fun U hU hW9 => ⟨rfl, by rw [hU], by rw [hU]; exact SQ.moved hW9.alike (hq9.kept hS.2.1), hFc⟩⟩ rfl rfl hsize rfl (lv_room hW) hdg ⟨by omega, by omega⟩) hS (fun q _ h => hFc q h) hFc (fun r u t H1 locs1 ht hvm hw hB hz1 hk1 hS1 => ?_)
  subst hw
  exact kk H1 locs1 (hP.kept (fun k q hq => hk1 _ (vx_lt hP hq) (Nat.not_le.mpr (vx_lt hP hq)))) hS1
theorem slen_iv {x r : Int32} (hx : iv 0 6 x) (h : r = nI ((sByt.getD x.toNatClampNeg []).length) >>> ((0 : Int32) &&& 31)) : r.toInt = ((sByt.getD x.toNatClampNeg []).length : Int) ∧ iv 2 5 r := by
  have hb := sb_len _ (c7 hx)
  rw [sc_shr0 (by omega)] at h
  have e1 : r.toInt = ((sByt.getD x.toNatClampNeg []).length : Int) := by rw [h, nI_toInt (by omega)]
  exact ⟨e1, by omega, by omega⟩
end STRR
end
section
/-- every place of a row is at most K -/
def UB (k : Nat) (K : Nat) (gm : Nat → Nat → Int32) : Prop := ∀ j, j < 80 → (gm k j).toInt ≤ (K : Int)
theorem UB_k {k K K2 : Nat} {gm gm2 : Nat → Nat → Int32} (h : UB k K gm) (e : gm2 k = gm k) (hK : K ≤ K2) : UB k K2 gm2 := fun j hj => by rw [e]; have := h j hj; omega
theorem UB_u {k K K2 i : Nat} {v : Int32} {gm gm2 : Nat → Nat → Int32} (h : UB k K gm) (e : gm2 k = upd (gm k) i v) (hK : K ≤ K2) (hv : v.toInt ≤ (K2 : Int)) : UB k K2 gm2 := fun j hj => by
  rw [e]
  by_cases q : j = i
  · rw [q, upd_at]; exact hv
  · rw [upd_ne q]; have := h j hj; omega
/-- the attributes of an element lie within those that are there -/
def FA (sg : Nat → Int32) (gm : Nat → Nat → Int32) : Prop := ∀ j, j < (sg 4).toNatClampNeg → (gm 19 j).toInt + (gm 20 j).toInt ≤ (sg 5).toInt
/-- the characters of a value lie within those that are there -/
def VS (sg : Nat → Int32) (gm : Nat → Nat → Int32) : Prop := ∀ j, j < (sg 5).toNatClampNeg → (gm 44 j).toInt + (gm 45 j).toInt ≤ (sg 6).toInt
/-- what an element leads to is one of the document's -/
def LK (sg : Nat → Int32) (gm : Nat → Nat → Int32) : Prop := ∀ j, j < (sg 4).toNatClampNeg → (gm 15 j).toInt < (sg 4).toInt ∧ (gm 16 j).toInt < (sg 4).toInt ∧ (gm 17 j).toInt < (sg 4).toInt ∧ (0 ≤ (gm 16 j).toInt → (gm 15 (gm 16 j).toNatClampNeg).toInt = (j : Int)) ∧ (0 ≤ (gm 17 j).toInt → gm 15 (gm 17 j).toNatClampNeg = gm 15 j)
/-- the first attribute with this key -/
def FND (gm : Nat → Nat → Int32) (lg : Nat → Nat → Int64) (j : Nat) (k : Int64) (r : Int32) : Prop := (r.toInt = -1 ∧ ∀ i, 0 ≤ i → i < (gm 20 j).toNatClampNeg → ¬ lg 0 ((gm 19 j).toNatClampNeg + i) = k) ∨ (∃ i, i < (gm 20 j).toNatClampNeg ∧ r.toNatClampNeg = (gm 19 j).toNatClampNeg + i ∧ 0 ≤ r.toInt ∧ (∀ i', 0 ≤ i' → i' < i → ¬ lg 0 ((gm 19 j).toNatClampNeg + i') = k) ∧ lg 0 ((gm 19 j).toNatClampNeg + i) = k)
end
section
theorem upd_or2 {f g : Nat → Int32} {i : Nat} {v : Int32} (h : f = upd g i v) (j : Nat) : f j = g j ∨ (f j = v ∧ j = i) := by
  rw [h]
  by_cases q : j = i
  · right; exact ⟨by rw [q, upd_at], q⟩
  · left; exact upd_ne q
/-- no element of the document has its bean yet -/
def BN (sg : Nat → Int32) (gm : Nat → Nat → Int32) : Prop := ∀ j, j < (sg 4).toNatClampNeg → gm 27 j = -1
theorem BN_new {sg sg2 : Nat → Int32} {gm gm2 : Nat → Nat → Int32} (h : BN sg gm) (h4 : (sg2 4).toInt = (sg 4).toInt + 1) (h0 : 0 ≤ (sg 4).toInt) (h27 : gm2 27 = upd (gm 27) (sg 4).toNatClampNeg (-1)) : BN sg2 gm2 := by
  have k1 := cl_0 h0
  have k2 := cl_0 (x := sg2 4) (by omega)
  intro j hj
  rw [h27]
  by_cases q : j = (sg 4).toNatClampNeg
  · rw [q, upd_at]
  · rw [upd_ne q]; exact h j (by omega)
theorem BN_e {sg sg2 : Nat → Int32} {gm gm2 : Nat → Nat → Int32} (h : BN sg gm) (h4 : sg2 4 = sg 4) (h27 : gm2 27 = gm 27) : BN sg2 gm2 := by
  unfold BN at *; rw [h4, h27]; exact h
theorem FA_new {sg sg2 : Nat → Int32} {gm gm2 : Nat → Nat → Int32} {fa : Int32} (h : FA sg gm) (h4 : (sg2 4).toInt = (sg 4).toInt + 1) (h0 : 0 ≤ (sg 4).toInt) (h5 : sg2 5 = sg 5) (h19 : gm2 19 = upd (gm 19) (sg 4).toNatClampNeg fa) (h20 : gm2 20 = upd (gm 20) (sg 4).toNatClampNeg 0) (hf : fa = sg 5) : FA sg2 gm2 := by
  have k1 := cl_0 h0
  have k2 := cl_0 (x := sg2 4) (by omega)
  intro j hj
  rw [h19, h20, h5]
  by_cases q : j = (sg 4).toNatClampNeg
  · rw [q, upd_at, upd_at, hf]; show _ + (0 : Int) ≤ _; omega
  · rw [upd_ne q, upd_ne q]; exact h j (by omega)
theorem LK_new {sg sg2 : Nat → Int32} {gm gm1 gm2 : Nat → Nat → Int32} {ar : Int32} (h : LK sg gm) (h4 : (sg2 4).toInt = (sg 4).toInt + 1) (h0 : 0 ≤ (sg 4).toInt) (ha : ar.toInt < (sg 4).toInt) (h15 : gm2 15 = upd (gm 15) (sg 4).toNatClampNeg ar) (h16 : gm1 16 = upd (gm 16) (sg 4).toNatClampNeg (-1)) (h17 : gm1 17 = upd (gm 17) (sg 4).toNatClampNeg (-1)) (g16 : ∀ j, gm2 16 j = gm1 16 j ∨ (gm2 16 j = sg 4 ∧ (j : Int) = ar.toInt)) (g17 : ∀ j, gm2 17 j = gm1 17 j ∨ (gm2 17 j = sg 4 ∧ gm2 15 j = ar)) : LK sg2 gm2 := by
  have k1 := cl_0 h0
  have k2 := cl_0 (x := sg2 4) (by omega)
  have i16 : ∀ j, j < (sg2 4).toNatClampNeg → (gm2 16 j).toInt < (sg2 4).toInt := fun j hj => by
    rcases g16 j with q | q
    · rw [q, h16]
      by_cases e9 : j = (sg 4).toNatClampNeg
      · rw [e9, upd_at]; show (-1 : Int) < _; omega
      · rw [upd_ne e9]; have := (h j (by omega)).2.1; omega
    · rw [q.1]; omega
  have i17 : ∀ j, j < (sg2 4).toNatClampNeg → (gm2 17 j).toInt < (sg2 4).toInt := fun j hj => by
    rcases g17 j with q | q
    · rw [q, h17]
      by_cases e9 : j = (sg 4).toNatClampNeg
      · rw [e9, upd_at]; show (-1 : Int) < _; omega
      · rw [upd_ne e9]; have := (h j (by omega)).2.2.1; omega
    · rw [q.1]; omega
  have i15 : ∀ j, j < (sg2 4).toNatClampNeg → 0 ≤ (gm2 16 j).toInt → (gm2 15 (gm2 16 j).toNatClampNeg).toInt = (j : Int) := fun j hj hp => by
    rcases g16 j with q | q
    · rw [q] at hp ⊢
      by_cases e9 : j = (sg 4).toNatClampNeg
      · rw [h16, e9, upd_at] at hp; exact absurd hp (by decide)
      · have q1 : gm1 16 j = gm 16 j := by rw [h16, upd_ne e9]
        rw [q1] at hp ⊢
        have q2 := h j (by omega)
        have q3 := cl_0 hp
        rw [h15, upd_ne (by have := q2.2.1; omega)]
        exact q2.2.2.2.1 hp
    · rw [q.1, h15, upd_at]; exact q.2.symm
  have j15 : ∀ j, j < (sg2 4).toNatClampNeg → 0 ≤ (gm2 17 j).toInt → gm2 15 (gm2 17 j).toNatClampNeg = gm2 15 j := fun j hj hp => by
    rcases g17 j with q | q
    · rw [q] at hp ⊢
      by_cases e9 : j = (sg 4).toNatClampNeg
      · rw [h17, e9, upd_at] at hp; exact absurd hp (by decide)
      · have q1 : gm1 17 j = gm 17 j := by rw [h17, upd_ne e9]
        rw [q1] at hp ⊢
        have q2 := h j (by omega)
        have q3 := cl_0 hp
        rw [h15, upd_ne (by have := q2.2.2.1; omega), upd_ne e9]
        exact q2.2.2.2.2 hp
    · rw [q.2, q.1, h15, upd_at]
  intro j hj
  refine ⟨?_, i16 j hj, i17 j hj, i15 j hj, j15 j hj⟩
  rw [h15]
  by_cases q : j = (sg 4).toNatClampNeg
  · rw [q, upd_at]; omega
  · rw [upd_ne q]; have := (h j (by omega)).1; omega
theorem FA_add {sg sg2 : Nat → Int32} {gm gm2 : Nat → Nat → Int32} {o v w : Int32} (h : FA sg gm) (ho : 0 ≤ o.toInt) (hl : o.toInt < (sg 4).toInt) (h4 : sg2 4 = sg 4) (h5 : (sg2 5).toInt = (sg 5).toInt + 1) (h19 : gm2 19 = gm 19) (h20 : gm2 20 = upd (gm 20) o.toNatClampNeg v) (hw : w = gm 20 o.toNatClampNeg) (hv : v.toInt = w.toInt + 1) : FA sg2 gm2 := by
  have k1 := cl_0 ho
  have k2 := cl_0 (x := sg 4) (by omega)
  intro j hj
  rw [h4] at hj
  rw [h19, h20]
  have := h j hj
  by_cases q : j = o.toNatClampNeg
  · rw [q, upd_at]; rw [q] at this; rw [hw] at hv; omega
  · rw [upd_ne q]; omega
theorem VS_add {sg sg2 : Nat → Int32} {gm gm2 : Nat → Nat → Int32} {v : Int32} (h : VS sg gm) (h0 : 0 ≤ (sg 5).toInt) (h5 : (sg2 5).toInt = (sg 5).toInt + 1) (h6 : sg2 6 = sg 6) (h44 : gm2 44 = upd (gm 44) (sg 5).toNatClampNeg v) (h45 : gm2 45 = upd (gm 45) (sg 5).toNatClampNeg 0) (hv : v = sg 6) : VS sg2 gm2 := by
  have k1 := cl_0 h0
  have k2 := cl_0 (x := sg2 5) (by omega)
  intro j hj
  rw [h44, h45, h6]
  by_cases q : j = (sg 5).toNatClampNeg
  · rw [q, upd_at, upd_at, hv]; show _ + (0 : Int) ≤ _; omega
  · rw [upd_ne q, upd_ne q]; exact h j (by omega)
theorem VS_take {sg sg2 : Nat → Int32} {gm gm2 : Nat → Nat → Int32} {a v w : Int32} (h : VS sg gm) (ha : 0 ≤ a.toInt) (hl : a.toInt < (sg 5).toInt) (h5 : sg2 5 = sg 5) (h6 : (sg2 6).toInt = (sg 6).toInt + 1) (h44 : gm2 44 = gm 44) (h45 : gm2 45 = upd (gm 45) a.toNatClampNeg v) (hw : w = gm 45 a.toNatClampNeg) (hv : v.toInt = w.toInt + 1) : VS sg2 gm2 := by
  have k1 := cl_0 ha
  have k2 := cl_0 (x := sg 5) (by omega)
  intro j hj
  rw [h5] at hj
  rw [h44, h45]
  have := h j hj
  by_cases q : j = a.toNatClampNeg
  · rw [q, upd_at]; rw [q] at this; rw [hw] at hv; omega
  · rw [upd_ne q]; omega
theorem VS_e {sg sg2 : Nat → Int32} {gm gm2 : Nat → Nat → Int32} (h : VS sg gm) (h5 : sg2 5 = sg 5) (h6 : sg2 6 = sg 6) (h44 : gm2 44 = gm 44) (h45 : gm2 45 = gm 45) : VS sg2 gm2 := by
  unfold VS at *; rw [h5, h6, h44, h45]; exact h
theorem FA_e {sg sg2 : Nat → Int32} {gm gm2 : Nat → Nat → Int32} (h : FA sg gm) (h4 : sg2 4 = sg 4) (h5 : sg2 5 = sg 5) (h19 : gm2 19 = gm 19) (h20 : gm2 20 = gm 20) : FA sg2 gm2 := by
  unfold FA at *; rw [h4, h5, h19, h20]; exact h
theorem LK_e {sg sg2 : Nat → Int32} {gm gm2 : Nat → Nat → Int32} (h : LK sg gm) (h4 : sg2 4 = sg 4) (h15 : gm2 15 = gm 15) (h16 : gm2 16 = gm 16) (h17 : gm2 17 = gm 17) : LK sg2 gm2 := by
  unfold LK at *; rw [h4, h15, h16, h17]; exact h
/-- the element has one small letter as the value of this attribute -/
def LVP (gm : Nat → Nat → Int32) (lg : Nat → Nat → Int64) (j : Nat) (k : Int64) : Prop := ∃ a, FND gm lg j k a ∧ 0 ≤ a.toInt ∧ (gm 45 a.toNatClampNeg).toInt = 1 ∧ 97 ≤ (gm 46 (gm 44 a.toNatClampNeg).toNatClampNeg).toInt ∧ (gm 46 (gm 44 a.toNatClampNeg).toNatClampNeg).toInt ≤ 122

set_option maxHeartbeats 4000000 in
set_option maxRecDepth 100000 in
theorem d_clearPa (l : Launch) (dC : Nat → ClassId) (dI : Nat → Nat → Nat) (ad : Nat → Nat → Nat) (cid : Nat → ClassId) (a2 : Nat → Nat) (lx : List Nat) (sg : Nat → Int32) (gm : Nat → Nat → Int32) (lg : Nat → Nat → Int64) (x : Int32) (hI : CI sg gm) (hvx : iv 0 0 x) : CMt dC dI ad cid a2 lx l yX6_clear wm_X6_clear ({ frames := 0, cells := 1, slots := 6, locals := 0 }) [eV (ad 1) x] sg gm lg (fun v u => v = none ∧ ∃ (sg2 : Nat → Int32) (gm2 : Nat → Nat → Int32) (lg2 : Nat → Nat → Int64), u = (sg2, gm2, lg2) ∧ CI sg2 gm2 ∧ KS [4, 5, 6] sg sg2 ∧ KS [] gm gm2 ∧ KS [] lg lg2 ∧ ((sg2 4).toInt = 0 ∧ (sg2 5).toInt = 0 ∧ (sg2 6).toInt = 0)) (fun _ _ => False) := by
  intro sz
  refine vx_ofW (cc := cX6_clear) (maxL := 1) (ret := none) (by decide) rfl ?_
  intro p e s m args below meth c s₁ B hml hxt hv
  obtain ⟨rfl, hsz, hP, hK, hD0, hG⟩ := hv
  have hx := B.exec
  have hb := B.bytes
  have hr := B.returns
  have hts := atoms_spec (ws := wm_X6_clear) B.pre
  have htb := fun (w : Cond) (h : w ∈ tb) => hts w (List.mem_cons_of_mem _ h)
  have hown : s.vm.findClass RX6 = some m.cls := findClass_of_methodNamed B.named
  have hlocks := B.notSynchronized
  subst hsz
  have hD := hD0.self (sz := s.heap.size)
  generalize hAe : va_A (cW ad cid a2 lx sg gm lg) s.heap.size = A at hD hG ⊢
  have hA : ∀ q : Nat, s.heap.size ≤ q → A q := fun q h => by rw [← hAe]; exact Or.inr h
  have hS : va_S A s.heap s.heap [] := va_S.rf
  have hl := lv_entry ([eV (ad 1) x]) (n := 1) (by rw [show (lg_sl ([eV (ad 1) x])).length = 1 from by simp [lg_sl, eV_cat, cat_i, cat_l]]; exact Nat.le_of_ble_eq_true rfl)
  rw [lg_entry_eq]
  generalize (lg_sl ([eV (ad 1) x]) ++ List.replicate (1 - (lg_sl ([eV (ad 1) x])).length) Slot.unset).toArray = ls at hl ⊢
  have hl : lv_has ls 1 [(0, eV (ad 1) x)] := by simp [lv_args, eV_cat, cat_i, cat_l] at hl; exact hl
  refine ec_aload_n hx hb dX6_clear_0 rfl (lv_at hl 0 rfl) ?_
  refine lv_iconst (v := 0) hx hb dX6_clear_1 (by decide) ?_
  refine cr_puts (t := 1) (j := 5) (C := RX6) (T := TX6) (N := 8) (ty0 := tyX6) (k := 4) (y := 0) hx hb htb inX6 tyX6_ok nmX6 hown hK hP hD hS hvx (by decide) (by decide) (by decide) (by decide) rfl rfl rfl (by decide) (htb _ kw_303) rfl (by show Value.int 0 = Value.int (va_up sg 4 0 4); rw [va_up_self]) rfl rfl dX6_clear_2 (fun sg_1 H locs esg_1 hP hD hS => ?_)
  have hI_sg_1 := CI_put hI esg_1 (iv_k (by decide) : iv 0 0 0) (by decide)
  refine ec_aload_n hx hb dX6_clear_5 rfl (lv_at hl 0 rfl) ?_
  refine lv_iconst (v := 0) hx hb dX6_clear_6 (by decide) ?_
  refine cr_puts (t := 1) (j := 6) (C := RX6) (T := TX6) (N := 8) (ty0 := tyX6) (k := 5) (y := 0) hx hb htb inX6 tyX6_ok nmX6 hown hK hP hD hS hvx (by decide) (by decide) (by decide) (by decide) rfl rfl rfl (by decide) (htb _ kw_304) rfl (by show Value.int 0 = Value.int (va_up sg_1 5 0 5); rw [va_up_self]) rfl rfl dX6_clear_7 (fun sg_2 H locs esg_2 hP hD hS => ?_)
  have hI_sg_2 := CI_put hI_sg_1 esg_2 (iv_k (by decide) : iv 0 0 0) (by decide)
  refine ec_aload_n hx hb dX6_clear_10 rfl (lv_at hl 0 rfl) ?_
  refine lv_iconst (v := 0) hx hb dX6_clear_11 (by decide) ?_
  refine cr_puts (t := 1) (j := 7) (C := RX6) (T := TX6) (N := 8) (ty0 := tyX6) (k := 6) (y := 0) hx hb htb inX6 tyX6_ok nmX6 hown hK hP hD hS hvx (by decide) (by decide) (by decide) (by decide) rfl rfl rfl (by decide) (htb _ kw_305) rfl (by show Value.int 0 = Value.int (va_up sg_2 6 0 6); rw [va_up_self]) rfl rfl dX6_clear_12 (fun sg_3 H locs esg_3 hP hD hS => ?_)
  have hI_sg_3 := CI_put hI_sg_2 esg_3 (iv_k (by decide) : iv 0 0 0) (by decide)
  exact W.nb (fun hN => W.widen (k := 1) (n := 6) (by decide) (by decide) (vx_ret (W.vret hx hb hr (fun t ht hW => ⟨⟨none, (sg_3, gm, lg), rfl, ⟨rfl, sg_3, gm, lg, rfl, hI_sg_3, (KS_up (KS_up (KS_up KS_rf esg_1 (by decide)) esg_2 (by decide)) esg_3 (by decide)), KS_rf, KS_rf, (⟨by have := i32_0; have := i32_1; have := i32_2; have := i32_m1; have := congrArg Int32.toInt (show sg_3 4 = sg_2 4 from up_ne esg_3 (by decide)); have := congrArg Int32.toInt (show sg_2 4 = sg_1 4 from up_ne esg_2 (by decide)); have : (sg_1 4).toInt = 0 := (by rw [up_at esg_1]; rfl); have := (hvx).1; have := (hvx).2; omega, by have := i32_0; have := i32_1; have := i32_2; have := i32_m1; have := congrArg Int32.toInt (show sg_3 5 = sg_2 5 from up_ne esg_3 (by decide)); have : (sg_2 5).toInt = 0 := (by rw [up_at esg_2]; rfl); have := (hvx).1; have := (hvx).2; omega, by have := i32_0; have := i32_1; have := i32_2; have := i32_m1; have : (sg_3 6).toInt = 0 := (by rw [up_at esg_3]; rfl); have := (hvx).1; have := (hvx).2; omega⟩)⟩, by rw [ht]; exact hP, va_K.moved hW.alike hK, hD⟩, hS.F ht, by rw [ht]; exact hN⟩) hS.2.2 dX6_clear_15)))

set_option maxHeartbeats 4000000 in
set_option maxRecDepth 100000 in
theorem d_countPa (l : Launch) (dC : Nat → ClassId) (dI : Nat → Nat → Nat) (ad : Nat → Nat → Nat) (cid : Nat → ClassId) (a2 : Nat → Nat) (lx : List Nat) (sg : Nat → Int32) (gm : Nat → Nat → Int32) (lg : Nat → Nat → Int64) (x : Int32) (hI : CI sg gm) (hvx : iv 0 0 x) : CMt dC dI ad cid a2 lx l yX6_count wm_X6_count ({ frames := 0, cells := 1, slots := 6, locals := 0 }) [eV (ad 1) x] sg gm lg (fun v u => ∃ r : Int32, v = some (.int r) ∧ u = (sg, gm, lg) ∧ (iv 0 80 r) ∧ (r = sg 4)) (fun _ _ => False) := by
  intro sz
  refine vx_ofW (cc := cX6_count) (maxL := 1) (ret := (some .int)) (by decide) rfl ?_
  intro p e s m args below meth c s₁ B hml hxt hv
  obtain ⟨rfl, hsz, hP, hK, hD0, hG⟩ := hv
  have hx := B.exec
  have hb := B.bytes
  have hr := B.returns
  have hts := atoms_spec (ws := wm_X6_count) B.pre
  have htb := fun (w : Cond) (h : w ∈ tb) => hts w (List.mem_cons_of_mem _ h)
  have hown : s.vm.findClass RX6 = some m.cls := findClass_of_methodNamed B.named
  have hlocks := B.notSynchronized
  subst hsz
  have hD := hD0.self (sz := s.heap.size)
  generalize hAe : va_A (cW ad cid a2 lx sg gm lg) s.heap.size = A at hD hG ⊢
  have hA : ∀ q : Nat, s.heap.size ≤ q → A q := fun q h => by rw [← hAe]; exact Or.inr h
  have hS : va_S A s.heap s.heap [] := va_S.rf
  have hl := lv_entry ([eV (ad 1) x]) (n := 1) (by rw [show (lg_sl ([eV (ad 1) x])).length = 1 from by simp [lg_sl, eV_cat, cat_i, cat_l]]; exact Nat.le_of_ble_eq_true rfl)
  rw [lg_entry_eq]
  generalize (lg_sl ([eV (ad 1) x]) ++ List.replicate (1 - (lg_sl ([eV (ad 1) x])).length) Slot.unset).toArray = ls at hl ⊢
  have hl : lv_has ls 1 [(0, eV (ad 1) x)] := by simp [lv_args, eV_cat, cat_i, cat_l] at hl; exact hl
  refine ec_aload_n hx hb dX6_count_0 rfl (lv_at hl 0 rfl) ?_
  refine cr_get (t := 1) (j := 5) (C := RX6) (T := TX6) (N := 8) (v := .int (sg 4)) hx hb htb inX6 hown hK hP hvx (by decide) (by decide) (by decide) rfl (by decide) (htb _ kw_303) rfl dX6_count_1 ?_
  exact W.nb (fun hN => W.widen (k := 1) (n := 6) (by decide) (by decide) (vx_ret (W.iret (v := (sg 4)) hx hb hr (fun t ht hW => ⟨⟨some (.int (sg 4)), (sg, gm, lg), rfl, ⟨(sg 4), rfl, rfl, (show iv 0 80 (sg 4) from CI_s hI 4), (rfl)⟩, by rw [ht]; exact hP, va_K.moved hW.alike hK, hD⟩, hS.F ht, by rw [ht]; exact hN⟩) hS.2.2 dX6_count_4)))

set_option maxHeartbeats 4000000 in
set_option maxRecDepth 100000 in
theorem d_element (l : Launch) (dC : Nat → ClassId) (dI : Nat → Nat → Nat) (ad : Nat → Nat → Nat) (cid : Nat → ClassId) (a2 : Nat → Nat) (lx : List Nat) (sg : Nat → Int32) (gm : Nat → Nat → Int32) (lg : Nat → Nat → Int64) (x : Int32) (i : Int32) (hI : CI sg gm) (hvx : iv 0 0 x) (hvi : iv 0 79 i) : CMt dC dI ad cid a2 lx l yX6_element wm_X6_element ({ frames := 0, cells := 1, slots := 6, locals := 0 }) [eV (ad 1) x, .int i] sg gm lg (fun v u => ∃ r : Int32, v = some (eV (ad 9) r) ∧ u = (sg, gm, lg) ∧ (iv 0 79 r) ∧ (r = i)) (fun _ _ => False) := by
  intro sz
  refine vx_ofW (cc := cX6_element) (maxL := 2) (ret := (some (.object "WiredBeans$Element"))) (by decide) rfl ?_
  intro p e s m args below meth c s₁ B hml hxt hv
  obtain ⟨rfl, hsz, hP, hK, hD0, hG⟩ := hv
  have hx := B.exec
  have hb := B.bytes
  have hr := B.returns
  have hts := atoms_spec (ws := wm_X6_element) B.pre
  have htb := fun (w : Cond) (h : w ∈ tb) => hts w (List.mem_cons_of_mem _ h)
  have hown : s.vm.findClass RX6 = some m.cls := findClass_of_methodNamed B.named
  have hlocks := B.notSynchronized
  subst hsz
  have hD := hD0.self (sz := s.heap.size)
  generalize hAe : va_A (cW ad cid a2 lx sg gm lg) s.heap.size = A at hD hG ⊢
  have hA : ∀ q : Nat, s.heap.size ≤ q → A q := fun q h => by rw [← hAe]; exact Or.inr h
  have hS : va_S A s.heap s.heap [] := va_S.rf
  have hl := lv_entry ([eV (ad 1) x, .int i]) (n := 2) (by rw [show (lg_sl ([eV (ad 1) x, .int i])).length = 2 from by simp [lg_sl, eV_cat, cat_i, cat_l]]; exact Nat.le_of_ble_eq_true rfl)
  rw [lg_entry_eq]
  generalize (lg_sl ([eV (ad 1) x, .int i]) ++ List.replicate (2 - (lg_sl ([eV (ad 1) x, .int i])).length) Slot.unset).toArray = ls at hl ⊢
  have hl : lv_has ls 2 [(0, eV (ad 1) x), (1, .int i)] := by simp [lv_args, eV_cat, cat_i, cat_l] at hl; exact hl
  refine ec_aload_n hx hb dX6_element_0 rfl (lv_at hl 0 rfl) ?_
  refine cr_get (t := 1) (j := 0) (C := RX6) (T := TX6) (N := 8) (v := eV (ad 14) 0) hx hb htb inX6 hown hK hP hvx (by decide) (by decide) (by decide) rfl (by decide) (htb _ kw_298) (cV_c rfl (by decide) (by rw [show cMu 1 0 = 0 from rfl, Nat.zero_mul]; rfl)) dX6_element_1 ?_
  refine lv_iload_n hx hb dX6_element_4 rfl (lv_at hl 1 rfl) ?_
  refine cr_aald (t := 14) (C := RX3) (v := eV (ad 9) i) hx hb hK hP (iv_k (by decide) : iv 0 0 0) (by decide) (by decide) (by decide) (by decide) (by decide) rfl (show vp_in i (cLen 14) from (show vp_in i 80 from (iv_in hvi (by decide)))) (cAr_c (by decide) (hvi).1 (by rw [show cAm 14 = 0 from rfl, Nat.zero_mul, show cAo 14 = 0 from rfl]; omega)) dX6_element_5 ?_
  exact W.nb (fun hN => W.widen (k := 1) (n := 6) (by decide) (by decide) (vx_ret (W.aret (v := eV (ad 9) i) hx hb hr (Or.inl ⟨_, rfl⟩) (eV_is _ _) (fun t ht hW => ⟨⟨some (eV (ad 9) i), (sg, gm, lg), rfl, ⟨i, rfl, rfl, hvi, (rfl)⟩, by rw [ht]; exact hP, va_K.moved hW.alike hK, hD⟩, hS.F ht, by rw [ht]; exact hN⟩) hS.2.2 dX6_element_6)))

set_option maxHeartbeats 4000000 in
set_option maxRecDepth 100000 in
theorem d_find (l : Launch) (dC : Nat → ClassId) (dI : Nat → Nat → Nat) (ad : Nat → Nat → Nat) (cid : Nat → ClassId) (a2 : Nat → Nat) (lx : List Nat) (sg : Nat → Int32) (gm : Nat → Nat → Int32) (lg : Nat → Nat → Int64) (x : Int32) (o : Int32) (w : Int32) (hI : CI sg gm) (hvx : iv 0 0 x) (hvo : iv 0 79 o) (hvw : iv 0 33 w) (hFA : FA sg gm) (how : o.toInt < (sg 4).toInt) : CMt dC dI ad cid a2 lx l yX6_find wm_X6_find ({ frames := 0, cells := 1, slots := 6, locals := 0 }) [eV (ad 1) x, eV (ad 9) o, eV (ad 33) w] sg gm lg (fun v u => ∃ r : Int32, v = some (.int r) ∧ u = (sg, gm, lg) ∧ (iv (-1) 239 r) ∧ (FND gm lg o.toNatClampNeg (wKy.getD w.toNatClampNeg 0) r) ∧ (r.toInt < (sg 5).toInt)) (fun _ _ => False) := by
  intro sz
  refine vx_ofW (cc := cX6_find) (maxL := 4) (ret := (some .int)) (by decide) rfl ?_
  intro p e s m args below meth c s₁ B hml hxt hv
  obtain ⟨rfl, hsz, hP, hK, hD0, hG⟩ := hv
  have hx := B.exec
  have hb := B.bytes
  have hr := B.returns
  have hts := atoms_spec (ws := wm_X6_find) B.pre
  have htb := fun (w : Cond) (h : w ∈ tb) => hts w (List.mem_cons_of_mem _ h)
  have hown : s.vm.findClass RX6 = some m.cls := findClass_of_methodNamed B.named
  have hlocks := B.notSynchronized
  subst hsz
  have hD := hD0.self (sz := s.heap.size)
  generalize hAe : va_A (cW ad cid a2 lx sg gm lg) s.heap.size = A at hD hG ⊢
  have hA : ∀ q : Nat, s.heap.size ≤ q → A q := fun q h => by rw [← hAe]; exact Or.inr h
  have hS : va_S A s.heap s.heap [] := va_S.rf
  have hl := lv_entry ([eV (ad 1) x, eV (ad 9) o, eV (ad 33) w]) (n := 4) (by rw [show (lg_sl ([eV (ad 1) x, eV (ad 9) o, eV (ad 33) w])).length = 3 from by simp [lg_sl, eV_cat, cat_i, cat_l]]; exact Nat.le_of_ble_eq_true rfl)
  rw [lg_entry_eq]
  generalize (lg_sl ([eV (ad 1) x, eV (ad 9) o, eV (ad 33) w]) ++ List.replicate (4 - (lg_sl ([eV (ad 1) x, eV (ad 9) o, eV (ad 33) w])).length) Slot.unset).toArray = ls at hl ⊢
  have hl : lv_has ls 4 [(0, eV (ad 1) x), (1, eV (ad 9) o), (2, eV (ad 33) w)] := by simp [lv_args, eV_cat, cat_i, cat_l] at hl; exact hl
  have hj2 : ∀ (n : Nat) (x3_2 : Int32) (_ : (12 - x3_2.toInt).toNat = n) (_ : iv 0 12 x3_2) (_ : iv 0 0 x) (_ : iv 0 79 o) (_ : iv 0 33 w) (_ : ∀ i9, 0 ≤ i9 → i9 < x3_2.toNatClampNeg → ¬ lg 0 ((gm 19 o.toNatClampNeg).toNatClampNeg + i9) = (wKy.getD w.toNatClampNeg 0)) (H : Heap) (locs : List Loc) (ls : Array Slot), va_P (dC, dI) vwCl (cW ad cid a2 lx sg gm lg) H → va_D A (cW ad cid a2 lx sg gm lg) → va_S A s.heap H locs → lv_has ls 4 [(3, .int x3_2), (0, eV (ad 1) x), (1, eV (ad 9) o), (2, eV (ad 33) w)] → W p l e (headSpec wm_X6_find ({ frames := 0, cells := 1, slots := 6, locals := 0 })).room s m ([eV (ad 1) x, eV (ad 9) o, eV (ad 33) w] : List Value).toArray below meth c H locs 0 0 (vx_MQ below (cQx dC dI ad cid a2 lx (fun v u => ∃ r : Int32, v = some (.int r) ∧ u = (sg, gm, lg) ∧ (iv (-1) 239 r) ∧ (FND gm lg o.toNatClampNeg (wKy.getD w.toNatClampNeg 0) r) ∧ (r.toInt < (sg 5).toInt)) A) (cX dC dI ad cid a2 lx (fun _ _ => False) A) ([eV (ad 1) x, eV (ad 9) o, eV (ad 33) w] : List Value).toArray s 1 6 A) (F0 m 2 ls []) := by
    intro n
    induction n using Nat.strongRecOn with
    | ind n ih2 =>
      intro x3_2 hn2 hx3_2 hsx0_2 hsx1_2 hsx2_2 hnb H locs ls hP hD hS hl
      refine lv_iload_n hx hb dX6_find_2 rfl (lv_at hl 0 rfl) ?_
      refine ec_aload_n hx hb dX6_find_3 rfl (lv_at hl 2 rfl) ?_
      refine cr_get (t := 9) (j := 10) (C := RX3) (T := TX3) (N := 21) (v := .int (gm 20 o.toNatClampNeg)) hx hb htb inX3 hown hK hP hsx1_2 (by decide) (by decide) (by decide) rfl (by decide) (htb _ kw_265) rfl dX6_find_4 ?_
      obtain ⟨z_1, ez_1⟩ : ∃ z : Int32, z = (gm 20 o.toNatClampNeg) := ⟨_, rfl⟩
      refine W.eq (g2 := F0 m 7 ls [.int z_1, .int x3_2]) (by rw [ez_1]) ?_
      have hz_1 : iv 0 12 z_1 := iv_of ez_1 (CI_a hI 20 hsx1_2 (by decide))
      refine lv_icmp_ge (tgt := 42) hx hb dX6_find_7 (by decide) (fun c_2 => ?_) (fun c_2 => ?_)
      · have d_3 : (z_1 : Int32).toInt ≤ (x3_2 : Int32).toInt := Int32.le_iff_toInt_le.mp c_2
        refine lv_iconst (v := (-1)) hx hb dX6_find_42 (by decide) ?_
        exact W.nb (fun hN => W.widen (k := 1) (n := 6) (by decide) (by decide) (vx_ret (W.iret (v := (-1)) hx hb hr (fun t ht hW => ⟨⟨some (.int (-1)), (sg, gm, lg), rfl, ⟨(-1), rfl, rfl, (iv_w (iv_k (by decide) : iv (-1) (-1) (-1)) (by decide)), (Or.inl ⟨rfl, fun i9 q1 q2 => hnb i9 q1 (by rw [← ez_1] at q2; have := iv_cl hz_1 (by decide); have := iv_cl hx3_2 (by decide); have := i32_0; have := i32_1; have := i32_2; have := i32_m1; have := (hsx0_2).1; have := (hsx0_2).2; have := (hsx1_2).1; have := (hsx1_2).2; have := (hsx2_2).1; have := (hsx2_2).2; have := (hx3_2).1; have := (hx3_2).2; have := (hz_1).1; have := (hz_1).2; omega)⟩), (by have := i32_0; have := i32_1; have := i32_2; have := i32_m1; have := (show iv 0 240 (sg 5) from CI_s hI 5).1; have := (show iv 0 240 (sg 5) from CI_s hI 5).2; have := (hsx0_2).1; have := (hsx0_2).2; have := (hsx1_2).1; have := (hsx1_2).2; have := (hsx2_2).1; have := (hsx2_2).2; have := (hx3_2).1; have := (hx3_2).2; have := (hz_1).1; have := (hz_1).2; omega)⟩, by rw [ht]; exact hP, va_K.moved hW.alike hK, hD⟩, hS.F ht, by rw [ht]; exact hN⟩) hS.2.2 dX6_find_43)))
      · have d_4 : (x3_2 : Int32).toInt < (z_1 : Int32).toInt := Int32.lt_iff_toInt_lt.mp (i32_lt c_2)
        have h_5 : iv 0 11 x3_2 := iv_ltL (i32_lt c_2) hx3_2 hz_1 (by decide)
        have h_6 : iv 1 12 z_1 := iv_ltR (i32_lt c_2) hx3_2 hz_1 (by decide)
        refine ec_aload_n hx hb dX6_find_10 rfl (lv_at hl 1 rfl) ?_
        refine cr_get (t := 1) (j := 1) (C := RX6) (T := TX6) (N := 8) (v := eV (ad 15) 0) hx hb htb inX6 hown hK hP hsx0_2 (by decide) (by decide) (by decide) rfl (by decide) (htb _ kw_299) (cV_c rfl (by decide) (by rw [show cMu 1 1 = 0 from rfl, Nat.zero_mul]; rfl)) dX6_find_11 ?_
        refine ec_aload_n hx hb dX6_find_14 rfl (lv_at hl 2 rfl) ?_
        refine cr_get (t := 9) (j := 9) (C := RX3) (T := TX3) (N := 21) (v := .int (gm 19 o.toNatClampNeg)) hx hb htb inX3 hown hK hP hsx1_2 (by decide) (by decide) (by decide) rfl (by decide) (htb _ kw_263) rfl dX6_find_15 ?_
        obtain ⟨z_7, ez_7⟩ : ∃ z : Int32, z = (gm 19 o.toNatClampNeg) := ⟨_, rfl⟩
        refine W.eq (g2 := F0 m 18 ls [.int z_7, eV (ad 15) 0]) (by rw [ez_7]) ?_
        have hz_7 : iv 0 240 z_7 := iv_of ez_7 (CI_a hI 19 hsx1_2 (by decide))
        refine lv_iload_n hx hb dX6_find_18 rfl (lv_at hl 0 rfl) ?_
        have hfa9 : (z_7 : Int32).toInt + (z_1 : Int32).toInt ≤ (sg 5).toInt := by rw [ez_7, ez_1]; exact hFA _ (lt_cl hvo (show iv 0 80 (sg 4) from CI_s hI 4) (by decide) (by decide) how)
        refine lv_iadd hx hb dX6_find_19 ?_
        refine lv_topi (fun z_8 ez_8 => ?_)
        have hz_8 : iv 0 251 z_8 := iv_of ez_8 (iv_add hz_7 h_5 (by decide))
        have tz_8 : z_8.toInt = (z_7 : Int32).toInt + (x3_2 : Int32).toInt := by rw [ez_8]; exact iv_addE hz_7 h_5 (by decide)
        refine cr_lald hx hb hK hP (iv_k (by decide) : iv 0 0 0) (show vp_in z_8 240 from (vp_in_iff.mpr ⟨by have := i32_0; have := i32_1; have := i32_2; have := i32_m1; have := (show iv 0 240 (sg 5) from CI_s hI 5).1; have := (show iv 0 240 (sg 5) from CI_s hI 5).2; have := (hsx0_2).1; have := (hsx0_2).2; have := (hsx1_2).1; have := (hsx1_2).2; have := (hsx2_2).1; have := (hsx2_2).2; have := (h_5).1; have := (h_5).2; have := (h_6).1; have := (h_6).2; have := (hz_7).1; have := (hz_7).2; have := (hz_8).1; have := (hz_8).2; omega, by have := i32_0; have := i32_1; have := i32_2; have := i32_m1; have := (show iv 0 240 (sg 5) from CI_s hI 5).1; have := (show iv 0 240 (sg 5) from CI_s hI 5).2; have := (hsx0_2).1; have := (hsx0_2).2; have := (hsx1_2).1; have := (hsx1_2).2; have := (hsx2_2).1; have := (hsx2_2).2; have := (h_5).1; have := (h_5).2; have := (h_6).1; have := (h_6).2; have := (hz_7).1; have := (hz_7).2; have := (hz_8).1; have := (hz_8).2; omega⟩)) dX6_find_20 ?_
        refine lv_topl (fun z_9 ez_9 => ?_)
        refine ec_aload_n hx hb dX6_find_21 rfl (lv_at hl 3 rfl) ?_
        refine cw_key hx hb hG hS hsx2_2 hown (htb _ kw_1347) dX6_find_22 ?_
        refine lv_topl (fun z_10 ez_10 => ?_)
        refine W.lcmp hx hb dX6_find_25 ?_
        refine lv_topi (fun z_11 ez_11 => ?_)
        have hz_11 : iv (-1) 1 z_11 := iv_of ez_11 (iv_cmp _ _)
        refine lv_if_ne (tgt := 36) hx hb dX6_find_26 (by decide) (fun c_12 => ?_) (fun c_12 => ?_)
        · have d_13 : ¬ (z_11 : Int32).toInt = 0 := lv_neT c_12 rfl
          obtain ⟨z_14, ez_14⟩ : ∃ z : Int32, z = x3_2 + 1 := ⟨_, rfl⟩
          have hz_14 : iv 1 12 z_14 := iv_of ez_14 (iv_add h_5 (iv_k (by decide) : iv 1 1 1) (by decide))
          have tz_14 : z_14.toInt = x3_2.toInt + 1 := by rw [ez_14]; exact iv_addE h_5 (iv_k (by decide) : iv 1 1 1) (by decide)
          refine lv_iinc (v := z_14) (lv' := [(3, .int z_14), (0, eV (ad 1) x), (1, eV (ad 9) o), (2, eV (ad 33) w)]) hx hb dX6_find_36 hl (k := 0) rfl ez_14.symm (by decide) (by simp [List.filter, eV_cat, cat_i, cat_l]) (fun ls hl => ?_)
          refine lv_goto (tgt := 2) hx hb dX6_find_39 (by decide) ?_
          exact ih2 _ (by rw [← hn2]; exact (iv_meas tz_14 h_5 (by decide))) z_14 rfl (iv_w hz_14 (by decide)) hsx0_2 hsx1_2 hsx2_2 (all_s h_5 (by decide) tz_14 hnb (fun q9 => c_12 (by rw [ez_11, ez_9, ez_10, cl_add hz_7 h_5 (by decide) (by decide) tz_8, ez_7]; exact (lg_cmp_eq _ _).mpr q9))) _ _ _ hP hD hS (lv_sub hl [0, 1, 2, 3] rfl)
        · have h_15 : iv 0 0 z_11 := iv_eq c_12 hz_11 (iv_k (by decide) : iv 0 0 0) (by decide)
          refine ec_aload_n hx hb dX6_find_29 rfl (lv_at hl 2 rfl) ?_
          refine cr_get (t := 9) (j := 9) (C := RX3) (T := TX3) (N := 21) (v := .int (gm 19 o.toNatClampNeg)) hx hb htb inX3 hown hK hP hsx1_2 (by decide) (by decide) (by decide) rfl (by decide) (htb _ kw_263) rfl dX6_find_30 ?_
          refine W.eq (g2 := F0 m 33 ls [.int z_7]) (by rw [show (gm 19 o.toNatClampNeg) = z_7 from ez_7.symm]) ?_
          refine lv_iload_n hx hb dX6_find_33 rfl (lv_at hl 0 rfl) ?_
          refine lv_iadd hx hb dX6_find_34 ?_
          refine lv_topi (fun z_16 ez_16 => ?_)
          obtain rfl : z_8 = z_16 := ez_8.trans ez_16.symm
          have h35 : iv 0 239 z_8 := ⟨by have := i32_0; have := i32_1; have := i32_2; have := i32_m1; have := (show iv 0 240 (sg 5) from CI_s hI 5).1; have := (show iv 0 240 (sg 5) from CI_s hI 5).2; have := (hsx0_2).1; have := (hsx0_2).2; have := (hsx1_2).1; have := (hsx1_2).2; have := (hsx2_2).1; have := (hsx2_2).2; have := (h_5).1; have := (h_5).2; have := (h_6).1; have := (h_6).2; have := (hz_7).1; have := (hz_7).2; have := (hz_8).1; have := (hz_8).2; have := (h_15).1; have := (h_15).2; omega, by have := i32_0; have := i32_1; have := i32_2; have := i32_m1; have := (show iv 0 240 (sg 5) from CI_s hI 5).1; have := (show iv 0 240 (sg 5) from CI_s hI 5).2; have := (hsx0_2).1; have := (hsx0_2).2; have := (hsx1_2).1; have := (hsx1_2).2; have := (hsx2_2).1; have := (hsx2_2).2; have := (h_5).1; have := (h_5).2; have := (h_6).1; have := (h_6).2; have := (hz_7).1; have := (hz_7).2; have := (hz_8).1; have := (hz_8).2; have := (h_15).1; have := (h_15).2; omega⟩
          exact W.nb (fun hN => W.widen (k := 1) (n := 6) (by decide) (by decide) (vx_ret (W.iret (v := z_8) hx hb hr (fun t ht hW => ⟨⟨some (.int z_8), (sg, gm, lg), rfl, ⟨z_8, rfl, rfl, (iv_w h35 (by decide)), (Or.inr ⟨x3_2.toNatClampNeg, lt_cl h_5 (show iv 0 12 (gm 20 o.toNatClampNeg) from CI_a hI 20 hvo (by decide)) (by decide) (by decide) (by have := congrArg Int32.toInt ez_1; have := i32_0; have := i32_1; have := i32_2; have := i32_m1; have := (hsx0_2).1; have := (hsx0_2).2; have := (hsx1_2).1; have := (hsx1_2).2; have := (hsx2_2).1; have := (hsx2_2).2; have := (h_5).1; have := (h_5).2; have := (h_6).1; have := (h_6).2; have := (hz_7).1; have := (hz_7).2; have := (h35).1; have := (h35).2; have := (h_15).1; have := (h_15).2; omega), by rw [cl_add hz_7 h_5 (by decide) (by decide) tz_8, ez_7], by have := i32_0; have := i32_1; have := i32_2; have := i32_m1; have := (hsx0_2).1; have := (hsx0_2).2; have := (hsx1_2).1; have := (hsx1_2).2; have := (hsx2_2).1; have := (hsx2_2).2; have := (h_5).1; have := (h_5).2; have := (h_6).1; have := (h_6).2; have := (hz_7).1; have := (hz_7).2; have := (h35).1; have := (h35).2; have := (h_15).1; have := (h_15).2; omega, hnb, by have q9 := c_12; rw [ez_11, ez_9, ez_10, cl_add hz_7 h_5 (by decide) (by decide) tz_8, ez_7] at q9; exact (lg_cmp_eq _ _).mp q9⟩), (by have := i32_0; have := i32_1; have := i32_2; have := i32_m1; have := (show iv 0 240 (sg 5) from CI_s hI 5).1; have := (show iv 0 240 (sg 5) from CI_s hI 5).2; have := (hsx0_2).1; have := (hsx0_2).2; have := (hsx1_2).1; have := (hsx1_2).2; have := (hsx2_2).1; have := (hsx2_2).2; have := (h_5).1; have := (h_5).2; have := (h_6).1; have := (h_6).2; have := (hz_7).1; have := (hz_7).2; have := (h35).1; have := (h35).2; have := (h_15).1; have := (h_15).2; omega)⟩, by rw [ht]; exact hP, va_K.moved hW.alike hK, hD⟩, hS.F ht, by rw [ht]; exact hN⟩) hS.2.2 dX6_find_35)))
  refine lv_iconst (v := 0) hx hb dX6_find_0 (by decide) ?_
  refine lv_istore_n (i := 3) (lv' := [(3, .int 0), (0, eV (ad 1) x), (1, eV (ad 9) o), (2, eV (ad 33) w)]) hx hb dX6_find_1 rfl hl (by decide) (by simp [List.filter, eV_cat, cat_i, cat_l]) (fun ls hl => ?_)
  exact hj2 _ 0 rfl (iv_w (iv_k (by decide) : iv 0 0 0) (by decide)) hvx hvo hvw (fun i9 _ h9 => absurd h9 (Nat.not_lt_zero _)) _ _ _ hP hD hS (lv_sub hl [0, 1, 2, 3] rfl)
end
section
set_option maxHeartbeats 4000000 in
set_option maxRecDepth 100000 in
theorem d_valueLength (l : Launch) (dC : Nat → ClassId) (dI : Nat → Nat → Nat) (ad : Nat → Nat → Nat) (cid : Nat → ClassId) (a2 : Nat → Nat) (lx : List Nat) (sg : Nat → Int32) (gm : Nat → Nat → Int32) (lg : Nat → Nat → Int64) (x : Int32) (a : Int32) (hI : CI sg gm) (hvx : iv 0 0 x) (hva : iv (-1) 239 a) : CMt dC dI ad cid a2 lx l yX6_valueLength wm_X6_valueLength ({ frames := 0, cells := 1, slots := 6, locals := 0 }) [eV (ad 1) x, .int a] sg gm lg (fun v u => ∃ r : Int32, v = some (.int r) ∧ u = (sg, gm, lg) ∧ (iv 0 24 r) ∧ ((a.toInt = -1 ∧ r.toInt = 0) ∨ (0 ≤ a.toInt ∧ r = gm 45 a.toNatClampNeg))) (fun _ _ => False) := by
  intro sz
  refine vx_ofW (cc := cX6_valueLength) (maxL := 2) (ret := (some .int)) (by decide) rfl ?_
  intro p e s m args below meth c s₁ B hml hxt hv
  obtain ⟨rfl, hsz, hP, hK, hD0, hG⟩ := hv
  have hx := B.exec
  have hb := B.bytes
  have hr := B.returns
  have hts := atoms_spec (ws := wm_X6_valueLength) B.pre
  have htb := fun (w : Cond) (h : w ∈ tb) => hts w (List.mem_cons_of_mem _ h)
  have hown : s.vm.findClass RX6 = some m.cls := findClass_of_methodNamed B.named
  have hlocks := B.notSynchronized
  subst hsz
  have hD := hD0.self (sz := s.heap.size)
  generalize hAe : va_A (cW ad cid a2 lx sg gm lg) s.heap.size = A at hD hG ⊢
  have hA : ∀ q : Nat, s.heap.size ≤ q → A q := fun q h => by rw [← hAe]; exact Or.inr h
  have hS : va_S A s.heap s.heap [] := va_S.rf
  have hl := lv_entry ([eV (ad 1) x, .int a]) (n := 2) (by rw [show (lg_sl ([eV (ad 1) x, .int a])).length = 2 from by simp [lg_sl, eV_cat, cat_i, cat_l]]; exact Nat.le_of_ble_eq_true rfl)
  rw [lg_entry_eq]
  generalize (lg_sl ([eV (ad 1) x, .int a]) ++ List.replicate (2 - (lg_sl ([eV (ad 1) x, .int a])).length) Slot.unset).toArray = ls at hl ⊢
  have hl : lv_has ls 2 [(0, eV (ad 1) x), (1, .int a)] := by simp [lv_args, eV_cat, cat_i, cat_l] at hl; exact hl
  have hj15 : ∀ (y0_15 : Int32) (_ : iv 0 0 x) (_ : iv (-1) 239 a) (_ : iv 0 24 y0_15) (_ : (a.toInt = -1 ∧ y0_15.toInt = 0) ∨ (0 ≤ a.toInt ∧ y0_15 = gm 45 a.toNatClampNeg)) (H : Heap) (locs : List Loc) (ls : Array Slot), va_P (dC, dI) vwCl (cW ad cid a2 lx sg gm lg) H → va_D A (cW ad cid a2 lx sg gm lg) → va_S A s.heap H locs → lv_has ls 2 [(0, eV (ad 1) x), (1, .int a)] → W p l e (headSpec wm_X6_valueLength ({ frames := 0, cells := 1, slots := 6, locals := 0 })).room s m ([eV (ad 1) x, .int a] : List Value).toArray below meth c H locs 0 0 (vx_MQ below (cQx dC dI ad cid a2 lx (fun v u => ∃ r : Int32, v = some (.int r) ∧ u = (sg, gm, lg) ∧ (iv 0 24 r) ∧ ((a.toInt = -1 ∧ r.toInt = 0) ∨ (0 ≤ a.toInt ∧ r = gm 45 a.toNatClampNeg))) A) (cX dC dI ad cid a2 lx (fun _ _ => False) A) ([eV (ad 1) x, .int a] : List Value).toArray s 1 6 A) (F0 m 15 ls [.int y0_15]) := by
    intro y0_15 hsx0_15 hsx1_15 hy0_15 hV H locs ls hP hD hS hl
    exact W.nb (fun hN => W.widen (k := 1) (n := 6) (by decide) (by decide) (vx_ret (W.iret (v := y0_15) hx hb hr (fun t ht hW => ⟨⟨some (.int y0_15), (sg, gm, lg), rfl, ⟨y0_15, rfl, rfl, hy0_15, (hV)⟩, by rw [ht]; exact hP, va_K.moved hW.alike hK, hD⟩, hS.F ht, by rw [ht]; exact hN⟩) hS.2.2 dX6_valueLength_15)))
  refine lv_iload_n hx hb dX6_valueLength_0 rfl (lv_at hl 1 rfl) ?_
  refine lv_iconst (v := (-1)) hx hb dX6_valueLength_1 (by decide) ?_
  refine lv_icmp_ne (tgt := 9) hx hb dX6_valueLength_2 (by decide) (fun c_1 => ?_) (fun c_1 => ?_)
  · have h_2 : iv 0 239 a := iv_neL c_1 hva (by decide)
    refine ec_aload_n hx hb dX6_valueLength_9 rfl (lv_at hl 0 rfl) ?_
    refine cr_get (t := 1) (j := 3) (C := RX6) (T := TX6) (N := 8) (v := eV (ad 17) 0) hx hb htb inX6 hown hK hP hvx (by decide) (by decide) (by decide) rfl (by decide) (htb _ kw_301) (cV_c rfl (by decide) (by rw [show cMu 1 3 = 0 from rfl, Nat.zero_mul]; rfl)) dX6_valueLength_10 ?_
    refine lv_iload_n hx hb dX6_valueLength_13 rfl (lv_at hl 1 rfl) ?_
    refine cr_iald (t := 17) (z := (gm 45 (a : Int32).toNatClampNeg)) hx hb hK hP (iv_k (by decide) : iv 0 0 0) (by decide) (by decide) (by decide) rfl rfl (show vp_in a (cLen 17) from (show vp_in a 240 from (iv_in h_2 (by decide)))) rfl dX6_valueLength_14 ?_
    obtain ⟨z_3, ez_3⟩ : ∃ z : Int32, z = (gm 45 (a : Int32).toNatClampNeg) := ⟨_, rfl⟩
    refine W.eq (g2 := F0 m 15 ls [.int z_3]) (by rw [ez_3]) ?_
    have hz_3 : iv 0 24 z_3 := iv_of ez_3 (CI_a hI 45 h_2 (by decide))
    exact hj15 z_3 hvx (iv_w h_2 (by decide)) hz_3 (Or.inr ⟨by have := i32_0; have := i32_1; have := i32_2; have := i32_m1; have := (hvx).1; have := (hvx).2; have := (h_2).1; have := (h_2).2; have := (hz_3).1; have := (hz_3).2; omega, ez_3⟩) _ _ _ hP hD hS (lv_sub hl [0, 1] rfl)
  · have h_4 : iv (-1) (-1) a := iv_eq c_1 hva (iv_k (by decide) : iv (-1) (-1) (-1)) (by decide)
    refine lv_iconst (v := 0) hx hb dX6_valueLength_5 (by decide) ?_
    refine lv_goto (tgt := 15) hx hb dX6_valueLength_6 (by decide) ?_
    exact hj15 0 hvx (iv_w h_4 (by decide)) (iv_w (iv_k (by decide) : iv 0 0 0) (by decide)) (Or.inl ⟨by have := i32_0; have := i32_1; have := i32_2; have := i32_m1; have := (hvx).1; have := (hvx).2; have := (h_4).1; have := (h_4).2; omega, rfl⟩) _ _ _ hP hD hS (lv_sub hl [0, 1] rfl)

set_option maxHeartbeats 4000000 in
set_option maxRecDepth 100000 in
theorem d_valueChar (l : Launch) (dC : Nat → ClassId) (dI : Nat → Nat → Nat) (ad : Nat → Nat → Nat) (cid : Nat → ClassId) (a2 : Nat → Nat) (lx : List Nat) (sg : Nat → Int32) (gm : Nat → Nat → Int32) (lg : Nat → Nat → Int64) (x : Int32) (a : Int32) (i : Int32) (hI : CI sg gm) (hvx : iv 0 0 x) (hva : iv 0 239 a) (hvi : iv 0 23 i) (hVS : VS sg gm) (hal : a.toInt < (sg 5).toInt) (hil : i.toInt < (gm 45 a.toNatClampNeg).toInt) : CMt dC dI ad cid a2 lx l yX6_valueChar wm_X6_valueChar ({ frames := 0, cells := 1, slots := 6, locals := 0 }) [eV (ad 1) x, .int a, .int i] sg gm lg (fun v u => ∃ r : Int32, v = some (.int r) ∧ u = (sg, gm, lg) ∧ (iv 0 65535 r) ∧ (r = gm 46 ((gm 44 a.toNatClampNeg).toNatClampNeg + i.toNatClampNeg))) (fun _ _ => False) := by
  intro sz
  refine vx_ofW (cc := cX6_valueChar) (maxL := 3) (ret := (some .char)) (by decide) rfl ?_
  intro p e s m args below meth c s₁ B hml hxt hv
  obtain ⟨rfl, hsz, hP, hK, hD0, hG⟩ := hv
  have hx := B.exec
  have hb := B.bytes
  have hr := B.returns
  have hts := atoms_spec (ws := wm_X6_valueChar) B.pre
  have htb := fun (w : Cond) (h : w ∈ tb) => hts w (List.mem_cons_of_mem _ h)
  have hown : s.vm.findClass RX6 = some m.cls := findClass_of_methodNamed B.named
  have hlocks := B.notSynchronized
  subst hsz
  have hD := hD0.self (sz := s.heap.size)
  generalize hAe : va_A (cW ad cid a2 lx sg gm lg) s.heap.size = A at hD hG ⊢
  have hA : ∀ q : Nat, s.heap.size ≤ q → A q := fun q h => by rw [← hAe]; exact Or.inr h
  have hS : va_S A s.heap s.heap [] := va_S.rf
  have hl := lv_entry ([eV (ad 1) x, .int a, .int i]) (n := 3) (by rw [show (lg_sl ([eV (ad 1) x, .int a, .int i])).length = 3 from by simp [lg_sl, eV_cat, cat_i, cat_l]]; exact Nat.le_of_ble_eq_true rfl)
  rw [lg_entry_eq]
  generalize (lg_sl ([eV (ad 1) x, .int a, .int i]) ++ List.replicate (3 - (lg_sl ([eV (ad 1) x, .int a, .int i])).length) Slot.unset).toArray = ls at hl ⊢
  have hl : lv_has ls 3 [(0, eV (ad 1) x), (1, .int a), (2, .int i)] := by simp [lv_args, eV_cat, cat_i, cat_l] at hl; exact hl
  refine ec_aload_n hx hb dX6_valueChar_0 rfl (lv_at hl 0 rfl) ?_
  refine cr_get (t := 1) (j := 4) (C := RX6) (T := TX6) (N := 8) (v := eV (ad 18) 0) hx hb htb inX6 hown hK hP hvx (by decide) (by decide) (by decide) rfl (by decide) (htb _ kw_302) (cV_c rfl (by decide) (by rw [show cMu 1 4 = 0 from rfl, Nat.zero_mul]; rfl)) dX6_valueChar_1 ?_
  refine ec_aload_n hx hb dX6_valueChar_4 rfl (lv_at hl 0 rfl) ?_
  refine cr_get (t := 1) (j := 2) (C := RX6) (T := TX6) (N := 8) (v := eV (ad 16) 0) hx hb htb inX6 hown hK hP hvx (by decide) (by decide) (by decide) rfl (by decide) (htb _ kw_300) (cV_c rfl (by decide) (by rw [show cMu 1 2 = 0 from rfl, Nat.zero_mul]; rfl)) dX6_valueChar_5 ?_
  refine lv_iload_n hx hb dX6_valueChar_8 rfl (lv_at hl 1 rfl) ?_
  refine cr_iald (t := 16) (z := (gm 44 (a : Int32).toNatClampNeg)) hx hb hK hP (iv_k (by decide) : iv 0 0 0) (by decide) (by decide) (by decide) rfl rfl (show vp_in a (cLen 16) from (show vp_in a 240 from (iv_in hva (by decide)))) rfl dX6_valueChar_9 ?_
  obtain ⟨z_1, ez_1⟩ : ∃ z : Int32, z = (gm 44 (a : Int32).toNatClampNeg) := ⟨_, rfl⟩
  refine W.eq (g2 := F0 m 10 ls [.int z_1, eV (ad 18) 0]) (by rw [ez_1]) ?_
  have hz_1 : iv 0 1200 z_1 := iv_of ez_1 (CI_a hI 44 hva (by decide))
  refine lv_iload_n hx hb dX6_valueChar_10 rfl (lv_at hl 2 rfl) ?_
  have hvs9 : (z_1 : Int32).toInt + (gm 45 a.toNatClampNeg).toInt ≤ (sg 6).toInt := by rw [ez_1]; exact hVS _ (lt_cl hva (show iv 0 240 (sg 5) from CI_s hI 5) (by decide) (by decide) hal)
  have h69 := (show iv 0 1200 (sg 6) from CI_s hI 6).2
  refine lv_iadd hx hb dX6_valueChar_11 ?_
  refine lv_topi (fun z_2 ez_2 => ?_)
  have hz_2 : iv 0 1223 z_2 := iv_of ez_2 (iv_add hz_1 hvi (by decide))
  have tz_2 : z_2.toInt = (z_1 : Int32).toInt + (i : Int32).toInt := by rw [ez_2]; exact iv_addE hz_1 hvi (by decide)
  refine cr_cald (t := 18) (z := (gm 46 (z_2 : Int32).toNatClampNeg)) hx hb hK hP (iv_k (by decide) : iv 0 0 0) (by decide) (by decide) (by decide) rfl rfl (show vp_in z_2 (cLen 18) from (show vp_in z_2 1200 from (vp_in_iff.mpr ⟨by have := i32_0; have := i32_1; have := i32_2; have := i32_m1; have := (show iv 0 240 (sg 5) from CI_s hI 5).1; have := (show iv 0 240 (sg 5) from CI_s hI 5).2; have := (hvx).1; have := (hvx).2; have := (hva).1; have := (hva).2; have := (hvi).1; have := (hvi).2; have := (hz_1).1; have := (hz_1).2; have := (hz_2).1; have := (hz_2).2; omega, by have := i32_0; have := i32_1; have := i32_2; have := i32_m1; have := (show iv 0 240 (sg 5) from CI_s hI 5).1; have := (show iv 0 240 (sg 5) from CI_s hI 5).2; have := (hvx).1; have := (hvx).2; have := (hva).1; have := (hva).2; have := (hvi).1; have := (hvi).2; have := (hz_1).1; have := (hz_1).2; have := (hz_2).1; have := (hz_2).2; omega⟩))) rfl dX6_valueChar_12 ?_
  obtain ⟨z_3, ez_3⟩ : ∃ z : Int32, z = (gm 46 (z_2 : Int32).toNatClampNeg) := ⟨_, rfl⟩
  refine W.eq (g2 := F0 m 13 ls [.int z_3]) (by rw [ez_3]) ?_
  have hz_3 : iv 0 65535 z_3 := iv_of ez_3 (CI_n hI 46 (show _ < crLen 46 from vin_lt (show vp_in z_2 1200 from (vp_in_iff.mpr ⟨by have := i32_0; have := i32_1; have := i32_2; have := i32_m1; have := (show iv 0 240 (sg 5) from CI_s hI 5).1; have := (show iv 0 240 (sg 5) from CI_s hI 5).2; have := (hvx).1; have := (hvx).2; have := (hva).1; have := (hva).2; have := (hvi).1; have := (hvi).2; have := (hz_1).1; have := (hz_1).2; have := (hz_2).1; have := (hz_2).2; omega, by have := i32_0; have := i32_1; have := i32_2; have := i32_m1; have := (show iv 0 240 (sg 5) from CI_s hI 5).1; have := (show iv 0 240 (sg 5) from CI_s hI 5).2; have := (hvx).1; have := (hvx).2; have := (hva).1; have := (hva).2; have := (hvi).1; have := (hvi).2; have := (hz_1).1; have := (hz_1).2; have := (hz_2).1; have := (hz_2).2; omega⟩))))
  exact W.nb (fun hN => W.widen (k := 1) (n := 6) (by decide) (by decide) (vx_ret (W.zret (v := z_3) hx hb hr (iv_ncr hz_3) (fun t ht hW => ⟨⟨some (.int z_3), (sg, gm, lg), rfl, ⟨z_3, rfl, rfl, hz_3, (by rw [ez_3, cl_add hz_1 hvi (by decide) (by decide) tz_2, ez_1])⟩, by rw [ht]; exact hP, va_K.moved hW.alike hK, hD⟩, hS.F ht, by rw [ht]; exact hN⟩) hS.2.2 dX6_valueChar_13)))
end
section
def chA (sg : Nat → Int32) (gm : Nat → Nat → Int32) (k : Int32) : Int32 := if 0 ≤ k.toInt ∧ k.toInt < (sg 8).toInt then gm 43 k.toNatClampNeg else 0
set_option maxHeartbeats 4000000 in
set_option maxRecDepth 100000 in
theorem d_charAt (l : Launch) (dC : Nat → ClassId) (dI : Nat → Nat → Nat) (ad : Nat → Nat → Nat) (cid : Nat → ClassId) (a2 : Nat → Nat) (lx : List Nat) (sg : Nat → Int32) (gm : Nat → Nat → Int32) (lg : Nat → Nat → Int64) (x : Int32) (k : Int32) (hI : CI sg gm) (hvx : iv 0 0 x) (hT : 0 ≤ (sg 7).toInt) : CMt dC dI ad cid a2 lx l yX7_charAt wm_X7_charAt ({ frames := 0, cells := 1, slots := 6, locals := 0 }) [eV (ad 2) x, .int k] sg gm lg (fun v u => ∃ r : Int32, v = some (.int r) ∧ u = (sg, gm, lg) ∧ (iv 0 65535 r) ∧ (r.toInt = 0 ∨ (0 ≤ k.toInt ∧ k.toInt < (sg 8).toInt)) ∧ (r = chA sg gm k)) (fun _ _ => False) := by
  intro sz
  refine vx_ofW (cc := cX7_charAt) (maxL := 2) (ret := (some .char)) (by decide) rfl ?_
  intro p e s m args below meth c s₁ B hml hxt hv
  obtain ⟨rfl, hsz, hP, hK, hD0, hG⟩ := hv
  have hx := B.exec
  have hb := B.bytes
  have hr := B.returns
  have hts := atoms_spec (ws := wm_X7_charAt) B.pre
  have htb := fun (w : Cond) (h : w ∈ tb) => hts w (List.mem_cons_of_mem _ h)
  have hown : s.vm.findClass RX7 = some m.cls := findClass_of_methodNamed B.named
  have hlocks := B.notSynchronized
  subst hsz
  have hD := hD0.self (sz := s.heap.size)
  generalize hAe : va_A (cW ad cid a2 lx sg gm lg) s.heap.size = A at hD hG ⊢
  have hA : ∀ q : Nat, s.heap.size ≤ q → A q := fun q h => by rw [← hAe]; exact Or.inr h
  have hS : va_S A s.heap s.heap [] := va_S.rf
  have hl := lv_entry ([eV (ad 2) x, .int k]) (n := 2) (by rw [show (lg_sl ([eV (ad 2) x, .int k])).length = 2 from by simp [lg_sl, eV_cat, cat_i, cat_l]]; exact Nat.le_of_ble_eq_true rfl)
  rw [lg_entry_eq]
  generalize (lg_sl ([eV (ad 2) x, .int k]) ++ List.replicate (2 - (lg_sl ([eV (ad 2) x, .int k])).length) Slot.unset).toArray = ls at hl ⊢
  have hl : lv_has ls 2 [(0, eV (ad 2) x), (1, .int k)] := by simp [lv_args, eV_cat, cat_i, cat_l] at hl; exact hl
  have h7 : iv 0 0 (sg 7) := ⟨hT, (show iv (-1) 0 (sg 7) from CI_s hI 7).2⟩
  have hj22 : ∀ (y0_22 : Int32) (_ : iv 0 0 x) (_ : iv 0 65535 y0_22) (_ : y0_22.toInt = 0 ∨ (0 ≤ k.toInt ∧ k.toInt < (sg 8).toInt)) (_ : y0_22 = chA sg gm k) (H : Heap) (locs : List Loc) (ls : Array Slot), va_P (dC, dI) vwCl (cW ad cid a2 lx sg gm lg) H → va_D A (cW ad cid a2 lx sg gm lg) → va_S A s.heap H locs → lv_has ls 2 [(0, eV (ad 2) x), (1, .int k)] → W p l e (headSpec wm_X7_charAt ({ frames := 0, cells := 1, slots := 6, locals := 0 })).room s m ([eV (ad 2) x, .int k] : List Value).toArray below meth c H locs 0 0 (vx_MQ below (cQx dC dI ad cid a2 lx (fun v u => ∃ r : Int32, v = some (.int r) ∧ u = (sg, gm, lg) ∧ (iv 0 65535 r) ∧ (r.toInt = 0 ∨ (0 ≤ k.toInt ∧ k.toInt < (sg 8).toInt)) ∧ (r = chA sg gm k)) A) (cX dC dI ad cid a2 lx (fun _ _ => False) A) ([eV (ad 2) x, .int k] : List Value).toArray s 1 6 A) (F0 m 22 ls [.int y0_22]) := by
    intro y0_22 hsx0_22 hy0_22 hc hd H locs ls hP hD hS hl
    exact W.nb (fun hN => W.widen (k := 1) (n := 6) (by decide) (by decide) (vx_ret (W.zret (v := y0_22) hx hb hr (iv_ncr hy0_22) (fun t ht hW => ⟨⟨some (.int y0_22), (sg, gm, lg), rfl, ⟨y0_22, rfl, rfl, hy0_22, (hc), (hd)⟩, by rw [ht]; exact hP, va_K.moved hW.alike hK, hD⟩, hS.F ht, by rw [ht]; exact hN⟩) hS.2.2 dX7_charAt_22)))
  have hj21 : ∀ (_ : iv 0 0 x) (_ : ¬ (0 ≤ k.toInt ∧ k.toInt < (sg 8).toInt)) (H : Heap) (locs : List Loc) (ls : Array Slot), va_P (dC, dI) vwCl (cW ad cid a2 lx sg gm lg) H → va_D A (cW ad cid a2 lx sg gm lg) → va_S A s.heap H locs → lv_has ls 2 [(0, eV (ad 2) x), (1, .int k)] → W p l e (headSpec wm_X7_charAt ({ frames := 0, cells := 1, slots := 6, locals := 0 })).room s m ([eV (ad 2) x, .int k] : List Value).toArray below meth c H locs 0 0 (vx_MQ below (cQx dC dI ad cid a2 lx (fun v u => ∃ r : Int32, v = some (.int r) ∧ u = (sg, gm, lg) ∧ (iv 0 65535 r) ∧ (r.toInt = 0 ∨ (0 ≤ k.toInt ∧ k.toInt < (sg 8).toInt)) ∧ (r = chA sg gm k)) A) (cX dC dI ad cid a2 lx (fun _ _ => False) A) ([eV (ad 2) x, .int k] : List Value).toArray s 1 6 A) (F0 m 21 ls []) := by
    intro  hsx0_21 hn21 H locs ls hP hD hS hl
    refine lv_iconst (v := 0) hx hb dX7_charAt_21 (by decide) ?_
    exact hj22 0 hsx0_21 (iv_w (iv_k (by decide) : iv 0 0 0) (by decide)) (Or.inl rfl) (by unfold chA; rw [if_neg hn21]) _ _ _ hP hD hS (lv_sub hl [0, 1] rfl)
  refine lv_iload_n hx hb dX7_charAt_0 rfl (lv_at hl 1 rfl) ?_
  refine lv_if_lt (tgt := 21) hx hb dX7_charAt_1 (by decide) (fun c_1 => ?_) (fun c_1 => ?_)
  · have h_2 : iv (-2147483648) (-1) k := iv_ltL c_1 (iv_all k) (iv_k (by decide) : iv 0 0 0) (by decide)
    exact hj21 hvx (by have := i32_0; have := i32_1; have := i32_2; have := i32_m1; have := (show iv 0 1200 (sg 8) from CI_s hI 8).1; have := (show iv 0 1200 (sg 8) from CI_s hI 8).2; have := (hvx).1; have := (hvx).2; have := (h7).1; have := (h7).2; have := (h_2).1; have := (h_2).2; omega) _ _ _ hP hD hS (lv_sub hl [0, 1] rfl)
  · have h_3 : iv 0 2147483647 k := iv_leR (i32_ge c_1) (iv_k (by decide) : iv 0 0 0) (iv_all k) (by decide)
    refine lv_iload_n hx hb dX7_charAt_4 rfl (lv_at hl 1 rfl) ?_
    refine ec_aload_n hx hb dX7_charAt_5 rfl (lv_at hl 0 rfl) ?_
    refine cr_get (t := 2) (j := 2) (C := RX7) (T := TX7) (N := 6) (v := .int (sg 8)) hx hb htb inX7 hown hK hP hvx (by decide) (by decide) (by decide) rfl (by decide) (htb _ kw_314) rfl dX7_charAt_6 ?_
    refine lv_icmp_ge (tgt := 21) hx hb dX7_charAt_9 (by decide) (fun c_4 => ?_) (fun c_4 => ?_)
    · have d_5 : ((sg 8) : Int32).toInt ≤ (k : Int32).toInt := Int32.le_iff_toInt_le.mp c_4
      exact hj21 hvx (by have := i32_0; have := i32_1; have := i32_2; have := i32_m1; have := (show iv 0 1200 (sg 8) from CI_s hI 8).1; have := (show iv 0 1200 (sg 8) from CI_s hI 8).2; have := (hvx).1; have := (hvx).2; have := (h7).1; have := (h7).2; have := (h_3).1; have := (h_3).2; have := ((show iv 0 1200 (sg 8) from CI_s hI 8)).1; have := ((show iv 0 1200 (sg 8) from CI_s hI 8)).2; omega) _ _ _ hP hD hS (lv_sub hl [0, 1] rfl)
    · have d_6 : (k : Int32).toInt < ((sg 8) : Int32).toInt := Int32.lt_iff_toInt_lt.mp (i32_lt c_4)
      have h_7 : iv 0 1199 k := iv_ltL (i32_lt c_4) h_3 (show iv 0 1200 (sg 8) from CI_s hI 8) (by decide)
      have h_8 : iv 1 1200 (sg 8) := iv_ltR (i32_lt c_4) h_3 (show iv 0 1200 (sg 8) from CI_s hI 8) (by decide)
      refine ec_aload_n hx hb dX7_charAt_12 rfl (lv_at hl 0 rfl) ?_
      refine cr_get (t := 2) (j := 1) (C := RX7) (T := TX7) (N := 6) (v := eV (ad 13) (sg 7)) hx hb htb inX7 hown hK hP hvx (by decide) (by decide) (by decide) rfl (by decide) (htb _ kw_313) rfl dX7_charAt_13 ?_
      refine lv_iload_n hx hb dX7_charAt_16 rfl (lv_at hl 1 rfl) ?_
      refine cr_cald (t := 13) (z := (gm 43 (k : Int32).toNatClampNeg)) hx hb hK hP h7 (by decide) (by decide) (by decide) rfl rfl (show vp_in k (cLen 13) from (show vp_in k 1200 from (iv_in h_7 (by decide)))) rfl dX7_charAt_17 ?_
      obtain ⟨z_9, ez_9⟩ : ∃ z : Int32, z = (gm 43 (k : Int32).toNatClampNeg) := ⟨_, rfl⟩
      refine W.eq (g2 := F0 m 18 ls [.int z_9]) (by rw [ez_9]) ?_
      have hz_9 : iv 0 65535 z_9 := iv_of ez_9 (CI_a hI 43 h_7 (by decide))
      refine lv_goto (tgt := 22) hx hb dX7_charAt_18 (by decide) ?_
      exact hj22 z_9 hvx hz_9 (Or.inr ⟨by have := i32_0; have := i32_1; have := i32_2; have := i32_m1; have := (show iv 0 1200 (sg 8) from CI_s hI 8).1; have := (show iv 0 1200 (sg 8) from CI_s hI 8).2; have := (hvx).1; have := (hvx).2; have := (h7).1; have := (h7).2; have := (h_7).1; have := (h_7).2; have := (h_8).1; have := (h_8).2; have := (hz_9).1; have := (hz_9).2; omega, by have := i32_0; have := i32_1; have := i32_2; have := i32_m1; have := (show iv 0 1200 (sg 8) from CI_s hI 8).1; have := (show iv 0 1200 (sg 8) from CI_s hI 8).2; have := (hvx).1; have := (hvx).2; have := (h7).1; have := (h7).2; have := (h_7).1; have := (h_7).2; have := (h_8).1; have := (h_8).2; have := (hz_9).1; have := (hz_9).2; omega⟩) (by unfold chA; rw [if_pos ⟨by have := i32_0; have := i32_1; have := i32_2; have := i32_m1; have := (show iv 0 1200 (sg 8) from CI_s hI 8).1; have := (show iv 0 1200 (sg 8) from CI_s hI 8).2; have := (hvx).1; have := (hvx).2; have := (h7).1; have := (h7).2; have := (h_7).1; have := (h_7).2; have := (h_8).1; have := (h_8).2; have := (hz_9).1; have := (hz_9).2; omega, by have := i32_0; have := i32_1; have := i32_2; have := i32_m1; have := (show iv 0 1200 (sg 8) from CI_s hI 8).1; have := (show iv 0 1200 (sg 8) from CI_s hI 8).2; have := (hvx).1; have := (hvx).2; have := (h7).1; have := (h7).2; have := (h_7).1; have := (h_7).2; have := (h_8).1; have := (h_8).2; have := (hz_9).1; have := (hz_9).2; omega⟩]; exact ez_9) _ _ _ hP hD hS (lv_sub hl [0, 1] rfl)

set_option maxHeartbeats 4000000 in
set_option maxRecDepth 100000 in
theorem d_isNameLetter (l : Launch) (dC : Nat → ClassId) (dI : Nat → Nat → Nat) (ad : Nat → Nat → Nat) (cid : Nat → ClassId) (a2 : Nat → Nat) (lx : List Nat) (sg : Nat → Int32) (gm : Nat → Nat → Int32) (lg : Nat → Nat → Int64) (cc : Int32) (hI : CI sg gm) (hvcc : iv 0 65535 cc) : CMt dC dI ad cid a2 lx l yX7_isNameLetter wm_X7_isNameLetter ({ frames := 0, cells := 1, slots := 6, locals := 0 }) [.int cc] sg gm lg (fun v u => ∃ r : Int32, v = some (.int r) ∧ u = (sg, gm, lg) ∧ (iv 0 1 r) ∧ (r.toInt = 0 ∧ (cc.toInt < 97 ∨ 122 < cc.toInt) ∨ r.toInt = 1 ∧ 97 ≤ cc.toInt ∧ cc.toInt ≤ 122)) (fun _ _ => False) := by
  intro sz
  refine vx_ofW (cc := cX7_isNameLetter) (maxL := 1) (ret := (some .boolean)) (by decide) rfl ?_
  intro p e s m args below meth c s₁ B hml hxt hv
  obtain ⟨rfl, hsz, hP, hK, hD0, hG⟩ := hv
  have hx := B.exec
  have hb := B.bytes
  have hr := B.returns
  have hts := atoms_spec (ws := wm_X7_isNameLetter) B.pre
  have htb := fun (w : Cond) (h : w ∈ tb) => hts w (List.mem_cons_of_mem _ h)
  have hown : s.vm.findClass RX7 = some m.cls := findClass_of_methodNamed B.named
  have hlocks := B.notSynchronized
  subst hsz
  have hD := hD0.self (sz := s.heap.size)
  generalize hAe : va_A (cW ad cid a2 lx sg gm lg) s.heap.size = A at hD hG ⊢
  have hA : ∀ q : Nat, s.heap.size ≤ q → A q := fun q h => by rw [← hAe]; exact Or.inr h
  have hS : va_S A s.heap s.heap [] := va_S.rf
  have hl := lv_entry ([.int cc]) (n := 1) (Nat.le_of_ble_eq_true rfl)
  rw [lg_entry_eq]
  generalize (lg_sl ([.int cc]) ++ List.replicate (1 - (lg_sl ([.int cc])).length) Slot.unset).toArray = ls at hl ⊢
  have hl : lv_has ls 1 [(0, .int cc)] := hl
  have hj17 : ∀ (y0_17 : Int32) (_ : iv 0 65535 cc) (_ : iv 0 1 y0_17) (_ : y0_17.toInt = 0 ∧ (cc.toInt < 97 ∨ 122 < cc.toInt) ∨ y0_17.toInt = 1 ∧ 97 ≤ cc.toInt ∧ cc.toInt ≤ 122) (H : Heap) (locs : List Loc) (ls : Array Slot), va_P (dC, dI) vwCl (cW ad cid a2 lx sg gm lg) H → va_D A (cW ad cid a2 lx sg gm lg) → va_S A s.heap H locs → lv_has ls 1 [(0, .int cc)] → W p l e (headSpec wm_X7_isNameLetter ({ frames := 0, cells := 1, slots := 6, locals := 0 })).room s m ([.int cc] : List Value).toArray below meth c H locs 0 0 (vx_MQ below (cQx dC dI ad cid a2 lx (fun v u => ∃ r : Int32, v = some (.int r) ∧ u = (sg, gm, lg) ∧ (iv 0 1 r) ∧ (r.toInt = 0 ∧ (cc.toInt < 97 ∨ 122 < cc.toInt) ∨ r.toInt = 1 ∧ 97 ≤ cc.toInt ∧ cc.toInt ≤ 122)) A) (cX dC dI ad cid a2 lx (fun _ _ => False) A) ([.int cc] : List Value).toArray s 1 6 A) (F0 m 17 ls [.int y0_17]) := by
    intro y0_17 hsx0_17 hy0_17 hc H locs ls hP hD hS hl
    exact W.nb (fun hN => W.widen (k := 1) (n := 6) (by decide) (by decide) (vx_ret (W.zret (v := y0_17) hx hb hr (iv_nb hy0_17) (fun t ht hW => ⟨⟨some (.int y0_17), (sg, gm, lg), rfl, ⟨y0_17, rfl, rfl, hy0_17, (hc)⟩, by rw [ht]; exact hP, va_K.moved hW.alike hK, hD⟩, hS.F ht, by rw [ht]; exact hN⟩) hS.2.2 dX7_isNameLetter_17)))
  have hj16 : ∀ (_ : iv 0 65535 cc) (_ : cc.toInt < 97 ∨ 122 < cc.toInt) (H : Heap) (locs : List Loc) (ls : Array Slot), va_P (dC, dI) vwCl (cW ad cid a2 lx sg gm lg) H → va_D A (cW ad cid a2 lx sg gm lg) → va_S A s.heap H locs → lv_has ls 1 [(0, .int cc)] → W p l e (headSpec wm_X7_isNameLetter ({ frames := 0, cells := 1, slots := 6, locals := 0 })).room s m ([.int cc] : List Value).toArray below meth c H locs 0 0 (vx_MQ below (cQx dC dI ad cid a2 lx (fun v u => ∃ r : Int32, v = some (.int r) ∧ u = (sg, gm, lg) ∧ (iv 0 1 r) ∧ (r.toInt = 0 ∧ (cc.toInt < 97 ∨ 122 < cc.toInt) ∨ r.toInt = 1 ∧ 97 ≤ cc.toInt ∧ cc.toInt ≤ 122)) A) (cX dC dI ad cid a2 lx (fun _ _ => False) A) ([.int cc] : List Value).toArray s 1 6 A) (F0 m 16 ls []) := by
    intro  hsx0_16 hnn H locs ls hP hD hS hl
    refine lv_iconst (v := 0) hx hb dX7_isNameLetter_16 (by decide) ?_
    exact hj17 0 hsx0_16 (iv_w (iv_k (by decide) : iv 0 0 0) (by decide)) (Or.inl ⟨rfl, hnn⟩) _ _ _ hP hD hS (lv_sub hl [0] rfl)
  refine lv_iload_n hx hb dX7_isNameLetter_0 rfl (lv_at hl 0 rfl) ?_
  refine lv_bipush (v := 97) hx hb dX7_isNameLetter_1 (by decide) ?_
  refine lv_icmp_lt (tgt := 16) hx hb dX7_isNameLetter_3 (by decide) (fun c_1 => ?_) (fun c_1 => ?_)
  · have h_2 : iv 0 96 cc := iv_ltL c_1 hvcc (iv_k (by decide) : iv 97 97 97) (by decide)
    exact hj16 (iv_w h_2 (by decide)) (by have := i32_0; have := i32_1; have := i32_2; have := i32_m1; have := (h_2).1; have := (h_2).2; omega) _ _ _ hP hD hS (lv_sub hl [0] rfl)
  · have h_3 : iv 97 65535 cc := iv_leR (i32_ge c_1) (iv_k (by decide) : iv 97 97 97) hvcc (by decide)
    refine lv_iload_n hx hb dX7_isNameLetter_6 rfl (lv_at hl 0 rfl) ?_
    refine lv_bipush (v := 122) hx hb dX7_isNameLetter_7 (by decide) ?_
    refine lv_icmp_gt (tgt := 16) hx hb dX7_isNameLetter_9 (by decide) (fun c_4 => ?_) (fun c_4 => ?_)
    · have h_5 : iv 123 65535 cc := iv_ltR c_4 (iv_k (by decide) : iv 122 122 122) h_3 (by decide)
      exact hj16 (iv_w h_5 (by decide)) (by have := i32_0; have := i32_1; have := i32_2; have := i32_m1; have := (h_5).1; have := (h_5).2; omega) _ _ _ hP hD hS (lv_sub hl [0] rfl)
    · have h_6 : iv 97 122 cc := iv_leL (i32_ge c_4) h_3 (iv_k (by decide) : iv 122 122 122) (by decide)
      refine lv_iconst (v := 1) hx hb dX7_isNameLetter_12 (by decide) ?_
      refine lv_goto (tgt := 17) hx hb dX7_isNameLetter_13 (by decide) ?_
      exact hj17 1 (iv_w h_6 (by decide)) (iv_w (iv_k (by decide) : iv 1 1 1) (by decide)) (Or.inr ⟨rfl, by have := i32_0; have := i32_1; have := i32_2; have := i32_m1; have := (h_6).1; have := (h_6).2; omega, by have := i32_0; have := i32_1; have := i32_2; have := i32_m1; have := (h_6).1; have := (h_6).2; omega⟩) _ _ _ hP hD hS (lv_sub hl [0] rfl)
end
section
def RDI (sg : Nat → Int32) (gm : Nat → Nat → Int32) : Prop := FA sg gm ∧ VS sg gm ∧ LK sg gm ∧ (sg 11).toInt < (sg 4).toInt ∧ BN sg gm
theorem RDI_k {L M : List Nat} {sg sg2 : Nat → Int32} {gm gm2 : Nat → Nat → Int32} (h : RDI sg gm) (hs : KS L sg sg2) (hg : KS M gm gm2) (d : (L.contains 4 = false ∧ L.contains 5 = false ∧ L.contains 6 = false ∧ L.contains 11 = false) ∧ M.contains 15 = false ∧ M.contains 16 = false ∧ M.contains 17 = false ∧ M.contains 19 = false ∧ M.contains 20 = false ∧ M.contains 44 = false ∧ M.contains 45 = false ∧ M.contains 27 = false) : RDI sg2 gm2 := by
  obtain ⟨⟨s4, s5, s6, s11⟩, g15, g16, g17, g19, g20, g44, g45, g27⟩ := d
  obtain ⟨h1, h2, h3, h4, h5⟩ := h
  exact ⟨FA_e h1 (hs 4 s4) (hs 5 s5) (hg 19 g19) (hg 20 g20), VS_e h2 (hs 5 s5) (hs 6 s6) (hg 44 g44) (hg 45 g45), LK_e h3 (hs 4 s4) (hg 15 g15) (hg 16 g16) (hg 17 g17), (by rw [hs 4 s4, hs 11 s11]; exact h4), BN_e h5 (hs 4 s4) (hg 27 g27)⟩
theorem RDI_a {L M : List Nat} {sg sg2 : Nat → Int32} {gm gm2 : Nat → Nat → Int32} (h : RDI sg gm) (hs : KS L sg sg2) (hg : KS M gm gm2) (hF : FA sg2 gm2) (hV : VS sg2 gm2) (d : (L.contains 4 = false ∧ L.contains 11 = false) ∧ M.contains 15 = false ∧ M.contains 16 = false ∧ M.contains 17 = false ∧ M.contains 27 = false) : RDI sg2 gm2 := by
  obtain ⟨⟨s4, s11⟩, g15, g16, g17, g27⟩ := d
  obtain ⟨h1, h2, h3, h4, h5⟩ := h
  exact ⟨hF, hV, LK_e h3 (hs 4 s4) (hg 15 g15) (hg 16 g16) (hg 17 g17), (by rw [hs 4 s4, hs 11 s11]; exact h4), BN_e h5 (hs 4 s4) (hg 27 g27)⟩
theorem RDI_t {L M : List Nat} {sg sg2 : Nat → Int32} {gm gm2 : Nat → Nat → Int32} (h : RDI sg gm) (hs : KS L sg sg2) (hg : KS M gm gm2) (hV : VS sg2 gm2) (d : (L.contains 4 = false ∧ L.contains 5 = false ∧ L.contains 11 = false) ∧ M.contains 15 = false ∧ M.contains 16 = false ∧ M.contains 17 = false ∧ M.contains 19 = false ∧ M.contains 20 = false ∧ M.contains 27 = false) : RDI sg2 gm2 := by
  obtain ⟨⟨s4, s5, s11⟩, g15, g16, g17, g19, g20, g27⟩ := d
  exact RDI_a h hs hg (FA_e h.1 (hs 4 s4) (hs 5 s5) (hg 19 g19) (hg 20 g20)) hV ⟨⟨s4, s11⟩, g15, g16, g17, g27⟩
theorem RDI_n {L M L1 M1 : List Nat} {sg sg1 sg2 : Nat → Int32} {gm gm1 gm2 : Nat → Nat → Int32} (h : RDI sg gm) (hF : FA sg1 gm1) (hL : LK sg1 gm1) (hB : BN sg1 gm1) (hs : KS L sg sg2) (hg : KS M gm gm2) (hs1 : KS L1 sg1 sg2) (hg1 : KS M1 gm1 gm2) (hlt : (sg2 11).toInt < (sg2 4).toInt) (d : (L.contains 5 = false ∧ L.contains 6 = false) ∧ (M.contains 44 = false ∧ M.contains 45 = false) ∧ (L1.contains 4 = false ∧ L1.contains 5 = false) ∧ M1.contains 15 = false ∧ M1.contains 16 = false ∧ M1.contains 17 = false ∧ M1.contains 19 = false ∧ M1.contains 20 = false ∧ M1.contains 27 = false) : RDI sg2 gm2 := by
  obtain ⟨⟨s5, s6⟩, ⟨g44, g45⟩, ⟨t4, t5⟩, g15, g16, g17, g19, g20, g27⟩ := d
  exact ⟨FA_e hF (hs1 4 t4) (hs1 5 t5) (hg1 19 g19) (hg1 20 g20), VS_e h.2.1 (hs 5 s5) (hs 6 s6) (hg 44 g44) (hg 45 g45), LK_e hL (hs1 4 t4) (hg1 15 g15) (hg1 16 g16) (hg1 17 g17), hlt, BN_e hB (hs1 4 t4) (hg1 27 g27)⟩
theorem RDI_l {sg sg2 : Nat → Int32} {gm : Nat → Nat → Int32} (h : RDI sg gm) (h0 : 0 ≤ (sg 11).toInt) (hs : KS [10, 11] sg sg2) (e11 : sg2 11 = gm 15 (sg 11).toNatClampNeg) : RDI sg2 gm := by
  obtain ⟨h1, h2, h3, h4, h5⟩ := h
  have q := (h3 (sg 11).toNatClampNeg (by
    have q1 : (sg 11).toNatClampNeg = (sg 11).toInt.toNat := rfl
    have q2 : (sg 4).toNatClampNeg = (sg 4).toInt.toNat := rfl
    omega)).1
  exact ⟨FA_e h1 (hs 4 rfl) (hs 5 rfl) rfl rfl, VS_e h2 (hs 5 rfl) (hs 6 rfl) rfl rfl, LK_e h3 (hs 4 rfl) rfl rfl rfl, (by rw [hs 4 rfl, e11]; exact q), BN_e h5 (hs 4 rfl) rfl⟩
theorem RDI_0 {sg : Nat → Int32} {gm : Nat → Nat → Int32} (h4 : (sg 4).toInt = 0) (h5 : (sg 5).toInt = 0) (h11 : (sg 11).toInt = -1) : RDI sg gm := by
  have q4 : (sg 4).toNatClampNeg = 0 := by
    have q2 : (sg 4).toNatClampNeg = (sg 4).toInt.toNat := rfl
    omega
  have q5 : (sg 5).toNatClampNeg = 0 := by
    have q2 : (sg 5).toNatClampNeg = (sg 5).toInt.toNat := rfl
    omega
  refine ⟨fun j hj => ?_, fun j hj => ?_, fun j hj => ?_, by omega, fun j hj => ?_⟩
  · rw [q4] at hj; exact absurd hj (Nat.not_lt_zero _)
  · rw [q5] at hj; exact absurd hj (Nat.not_lt_zero _)
  · rw [q4] at hj; exact absurd hj (Nat.not_lt_zero _)
  · rw [q4] at hj; exact absurd hj (Nat.not_lt_zero _)
end
section
/-- an element that stands in an arg or a set is a thing to be held -/
def HOK (gm : Nat → Nat → Int32) (j : Nat) : Prop := 0 ≤ (gm 15 j).toInt → ((gm 14 (gm 15 j).toNatClampNeg).toInt = 3 ∨ (gm 14 (gm 15 j).toNatClampNeg).toInt = 4) → (gm 14 j).toInt = 2 ∨ (6 ≤ (gm 14 j).toInt ∧ (gm 14 j).toInt ≤ 9)
/-- an element is right by itself -/
def SOK (gm : Nat → Nat → Int32) (lg : Nat → Nat → Int64) (j : Nat) : Prop := 0 ≤ (gm 14 j).toInt ∧ HOK gm j ∧ ((gm 14 j).toInt = 4 → LVP gm lg j (wKy.getD 21 0)) ∧ ((gm 14 j).toInt = 2 → ¬ ISI gm j 0 → ¬ HSK gm lg j (wKy.getD 10 0))
end
section
def FND9 (sg : Nat → Int32) (gm : Nat → Nat → Int32) : Prop := ∀ i, i < (sg 15).toNatClampNeg → 0 ≤ (gm 51 i).toInt
theorem FND9_add {sg sg2 : Nat → Int32} {gm gm2 : Nat → Nat → Int32} {b : Int32} (h : FND9 sg gm) (h0 : 0 ≤ (sg 15).toInt) (hb : 0 ≤ b.toInt) (h15 : (sg2 15).toInt = (sg 15).toInt + 1) (h51 : gm2 51 = upd (gm 51) (sg 15).toNatClampNeg b) : FND9 sg2 gm2 := by
  have k1 := cl_0 h0
  have k2 := cl_0 (x := sg2 15) (by omega)
  intro i hi
  rw [h51]
  by_cases q : i = (sg 15).toNatClampNeg
  · rw [q, upd_at]; exact hb
  · rw [upd_ne q]; exact h i (by omega)
theorem FND9_e {sg sg2 : Nat → Int32} {gm gm2 : Nat → Nat → Int32} (h : FND9 sg gm) (h15 : sg2 15 = sg 15) (h51 : gm2 51 = gm 51) : FND9 sg2 gm2 := by
  unfold FND9 at *; rw [h15, h51]; exact h

set_option maxHeartbeats 4000000 in
set_option maxRecDepth 100000 in
theorem d_countWi (l : Launch) (dC : Nat → ClassId) (dI : Nat → Nat → Nat) (ad : Nat → Nat → Nat) (cid : Nat → ClassId) (a2 : Nat → Nat) (lx : List Nat) (sg : Nat → Int32) (gm : Nat → Nat → Int32) (lg : Nat → Nat → Int64) (x : Int32) (hI : CI sg gm) (hvx : iv 0 0 x) : CMt dC dI ad cid a2 lx l yX10_count wm_X10_count ({ frames := 0, cells := 1, slots := 6, locals := 0 }) [eV (ad 4) x] sg gm lg (fun v u => ∃ r : Int32, v = some (.int r) ∧ u = (sg, gm, lg) ∧ (iv 0 80 r) ∧ (r = sg 12)) (fun _ _ => False) := by
  intro sz
  refine vx_ofW (cc := cX10_count) (maxL := 1) (ret := (some .int)) (by decide) rfl ?_
  intro p e s m args below meth c s₁ B hml hxt hv
  obtain ⟨rfl, hsz, hP, hK, hD0, hG⟩ := hv
  have hx := B.exec
  have hb := B.bytes
  have hr := B.returns
  have hts := atoms_spec (ws := wm_X10_count) B.pre
  have htb := fun (w : Cond) (h : w ∈ tb) => hts w (List.mem_cons_of_mem _ h)
  have hown : s.vm.findClass RX10 = some m.cls := findClass_of_methodNamed B.named
  have hlocks := B.notSynchronized
  subst hsz
  have hD := hD0.self (sz := s.heap.size)
  generalize hAe : va_A (cW ad cid a2 lx sg gm lg) s.heap.size = A at hD hG ⊢
  have hA : ∀ q : Nat, s.heap.size ≤ q → A q := fun q h => by rw [← hAe]; exact Or.inr h
  have hS : va_S A s.heap s.heap [] := va_S.rf
  have hl := lv_entry ([eV (ad 4) x]) (n := 1) (by rw [show (lg_sl ([eV (ad 4) x])).length = 1 from by simp [lg_sl, eV_cat, cat_i, cat_l]]; exact Nat.le_of_ble_eq_true rfl)
  rw [lg_entry_eq]
  generalize (lg_sl ([eV (ad 4) x]) ++ List.replicate (1 - (lg_sl ([eV (ad 4) x])).length) Slot.unset).toArray = ls at hl ⊢
  have hl : lv_has ls 1 [(0, eV (ad 4) x)] := by simp [lv_args, eV_cat, cat_i, cat_l] at hl; exact hl
  refine ec_aload_n hx hb dX10_count_0 rfl (lv_at hl 0 rfl) ?_
  refine cr_get (t := 4) (j := 3) (C := RX10) (T := TX10) (N := 4) (v := .int (sg 12)) hx hb htb inX10 hown hK hP hvx (by decide) (by decide) (by decide) rfl (by decide) (htb _ kw_390) rfl dX10_count_1 ?_
  exact W.nb (fun hN => W.widen (k := 1) (n := 6) (by decide) (by decide) (vx_ret (W.iret (v := (sg 12)) hx hb hr (fun t ht hW => ⟨⟨some (.int (sg 12)), (sg, gm, lg), rfl, ⟨(sg 12), rfl, rfl, (show iv 0 80 (sg 12) from CI_s hI 12), (rfl)⟩, by rw [ht]; exact hP, va_K.moved hW.alike hK, hD⟩, hS.F ht, by rw [ht]; exact hN⟩) hS.2.2 dX10_count_4)))

set_option maxHeartbeats 4000000 in
set_option maxRecDepth 100000 in
theorem d_numbered (l : Launch) (dC : Nat → ClassId) (dI : Nat → Nat → Nat) (ad : Nat → Nat → Nat) (cid : Nat → ClassId) (a2 : Nat → Nat) (lx : List Nat) (sg : Nat → Int32) (gm : Nat → Nat → Int32) (lg : Nat → Nat → Int64) (x : Int32) (k : Int32) (hI : CI sg gm) (hvx : iv 0 0 x) (hvk : iv 0 79 k) : CMt dC dI ad cid a2 lx l yX10_numbered wm_X10_numbered ({ frames := 0, cells := 1, slots := 6, locals := 0 }) [eV (ad 4) x, .int k] sg gm lg (fun v u => ∃ r : Int32, v = some (eV (ad 10) r) ∧ u = (sg, gm, lg) ∧ (iv 0 79 r) ∧ (r = k)) (fun _ _ => False) := by
  intro sz
  refine vx_ofW (cc := cX10_numbered) (maxL := 2) (ret := (some (.object "WiredBeans$Bean"))) (by decide) rfl ?_
  intro p e s m args below meth c s₁ B hml hxt hv
  obtain ⟨rfl, hsz, hP, hK, hD0, hG⟩ := hv
  have hx := B.exec
  have hb := B.bytes
  have hr := B.returns
  have hts := atoms_spec (ws := wm_X10_numbered) B.pre
  have htb := fun (w : Cond) (h : w ∈ tb) => hts w (List.mem_cons_of_mem _ h)
  have hown : s.vm.findClass RX10 = some m.cls := findClass_of_methodNamed B.named
  have hlocks := B.notSynchronized
  subst hsz
  have hD := hD0.self (sz := s.heap.size)
  generalize hAe : va_A (cW ad cid a2 lx sg gm lg) s.heap.size = A at hD hG ⊢
  have hA : ∀ q : Nat, s.heap.size ≤ q → A q := fun q h => by rw [← hAe]; exact Or.inr h
  have hS : va_S A s.heap s.heap [] := va_S.rf
  have hl := lv_entry ([eV (ad 4) x, .int k]) (n := 2) (by rw [show (lg_sl ([eV (ad 4) x, .int k])).length = 2 from by simp [lg_sl, eV_cat, cat_i, cat_l]]; exact Nat.le_of_ble_eq_true rfl)
  rw [lg_entry_eq]
  generalize (lg_sl ([eV (ad 4) x, .int k]) ++ List.replicate (2 - (lg_sl ([eV (ad 4) x, .int k])).length) Slot.unset).toArray = ls at hl ⊢
  have hl : lv_has ls 2 [(0, eV (ad 4) x), (1, .int k)] := by simp [lv_args, eV_cat, cat_i, cat_l] at hl; exact hl
  refine ec_aload_n hx hb dX10_numbered_0 rfl (lv_at hl 0 rfl) ?_
  refine cr_get (t := 4) (j := 1) (C := RX10) (T := TX10) (N := 4) (v := eV (ad 19) 0) hx hb htb inX10 hown hK hP hvx (by decide) (by decide) (by decide) rfl (by decide) (htb _ kw_388) (cV_c rfl (by decide) (by rw [show cMu 4 1 = 0 from rfl, Nat.zero_mul]; rfl)) dX10_numbered_1 ?_
  refine lv_iload_n hx hb dX10_numbered_4 rfl (lv_at hl 1 rfl) ?_
  refine cr_aald (t := 19) (C := RX1) (v := eV (ad 10) k) hx hb hK hP (iv_k (by decide) : iv 0 0 0) (by decide) (by decide) (by decide) (by decide) (by decide) rfl (show vp_in k (cLen 19) from (show vp_in k 80 from (iv_in hvk (by decide)))) (cAr_c (by decide) (hvk).1 (by rw [show cAm 19 = 0 from rfl, Nat.zero_mul, show cAo 19 = 0 from rfl]; omega)) dX10_numbered_5 ?_
  exact W.nb (fun hN => W.widen (k := 1) (n := 6) (by decide) (by decide) (vx_ret (W.aret (v := eV (ad 10) k) hx hb hr (Or.inl ⟨_, rfl⟩) (eV_is _ _) (fun t ht hW => ⟨⟨some (eV (ad 10) k), (sg, gm, lg), rfl, ⟨k, rfl, rfl, hvk, (rfl)⟩, by rw [ht]; exact hP, va_K.moved hW.alike hK, hD⟩, hS.F ht, by rw [ht]; exact hN⟩) hS.2.2 dX10_numbered_6)))

set_option maxHeartbeats 4000000 in
set_option maxRecDepth 100000 in
theorem d_forgetBeans (l : Launch) (dC : Nat → ClassId) (dI : Nat → Nat → Nat) (ad : Nat → Nat → Nat) (cid : Nat → ClassId) (a2 : Nat → Nat) (lx : List Nat) (sg : Nat → Int32) (gm : Nat → Nat → Int32) (lg : Nat → Nat → Int64) (x : Int32) (hI : CI sg gm) (hvx : iv 0 0 x) : CMt dC dI ad cid a2 lx l yX10_forgetBeans wm_X10_forgetBeans ({ frames := 0, cells := 1, slots := 6, locals := 0 }) [eV (ad 4) x] sg gm lg (fun v u => v = none ∧ ∃ (sg2 : Nat → Int32) (gm2 : Nat → Nat → Int32) (lg2 : Nat → Nat → Int64), u = (sg2, gm2, lg2) ∧ CI sg2 gm2 ∧ KS [12] sg sg2 ∧ KS [] gm gm2 ∧ KS [] lg lg2 ∧ ((sg2 12).toInt = 0)) (fun _ _ => False) := by
  intro sz
  refine vx_ofW (cc := cX10_forgetBeans) (maxL := 1) (ret := none) (by decide) rfl ?_
  intro p e s m args below meth c s₁ B hml hxt hv
  obtain ⟨rfl, hsz, hP, hK, hD0, hG⟩ := hv
  have hx := B.exec
  have hb := B.bytes
  have hr := B.returns
  have hts := atoms_spec (ws := wm_X10_forgetBeans) B.pre
  have htb := fun (w : Cond) (h : w ∈ tb) => hts w (List.mem_cons_of_mem _ h)
  have hown : s.vm.findClass RX10 = some m.cls := findClass_of_methodNamed B.named
  have hlocks := B.notSynchronized
  subst hsz
  have hD := hD0.self (sz := s.heap.size)
  generalize hAe : va_A (cW ad cid a2 lx sg gm lg) s.heap.size = A at hD hG ⊢
  have hA : ∀ q : Nat, s.heap.size ≤ q → A q := fun q h => by rw [← hAe]; exact Or.inr h
  have hS : va_S A s.heap s.heap [] := va_S.rf
  have hl := lv_entry ([eV (ad 4) x]) (n := 1) (by rw [show (lg_sl ([eV (ad 4) x])).length = 1 from by simp [lg_sl, eV_cat, cat_i, cat_l]]; exact Nat.le_of_ble_eq_true rfl)
  rw [lg_entry_eq]
  generalize (lg_sl ([eV (ad 4) x]) ++ List.replicate (1 - (lg_sl ([eV (ad 4) x])).length) Slot.unset).toArray = ls at hl ⊢
  have hl : lv_has ls 1 [(0, eV (ad 4) x)] := by simp [lv_args, eV_cat, cat_i, cat_l] at hl; exact hl
  refine ec_aload_n hx hb dX10_forgetBeans_0 rfl (lv_at hl 0 rfl) ?_
  refine lv_iconst (v := 0) hx hb dX10_forgetBeans_1 (by decide) ?_
  refine cr_puts (t := 4) (j := 3) (C := RX10) (T := TX10) (N := 4) (ty0 := tyX10) (k := 12) (y := 0) hx hb htb inX10 tyX10_ok nmX10 hown hK hP hD hS hvx (by decide) (by decide) (by decide) (by decide) rfl rfl rfl (by decide) (htb _ kw_390) rfl (by show Value.int 0 = Value.int (va_up sg 12 0 12); rw [va_up_self]) rfl rfl dX10_forgetBeans_2 (fun sg_1 H locs esg_1 hP hD hS => ?_)
  have hI_sg_1 := CI_put hI esg_1 (iv_k (by decide) : iv 0 0 0) (by decide)
  exact W.nb (fun hN => W.widen (k := 1) (n := 6) (by decide) (by decide) (vx_ret (W.vret hx hb hr (fun t ht hW => ⟨⟨none, (sg_1, gm, lg), rfl, ⟨rfl, sg_1, gm, lg, rfl, hI_sg_1, (KS_up KS_rf esg_1 (by decide)), KS_rf, KS_rf, (by have := i32_0; have := i32_1; have := i32_2; have := i32_m1; have : (sg_1 12).toInt = 0 := (by rw [up_at esg_1]; rfl); have := (hvx).1; have := (hvx).2; omega)⟩, by rw [ht]; exact hP, va_K.moved hW.alike hK, hD⟩, hS.F ht, by rw [ht]; exact hN⟩) hS.2.2 dX10_forgetBeans_5)))
end
section
set_option maxHeartbeats 4000000 in
set_option maxRecDepth 100000 in
theorem d_forgetMade (l : Launch) (dC : Nat → ClassId) (dI : Nat → Nat → Nat) (ad : Nat → Nat → Nat) (cid : Nat → ClassId) (a2 : Nat → Nat) (lx : List Nat) (sg : Nat → Int32) (gm : Nat → Nat → Int32) (lg : Nat → Nat → Int64) (x : Int32) (hI : CI sg gm) (hvx : iv 0 0 x) : CMt dC dI ad cid a2 lx l yX5_forgetMade wm_X5_forgetMade ({ frames := 1, cells := 1, slots := 6, locals := 21 }) [eV (ad 6) x] sg gm lg (fun v u => v = none ∧ ∃ (sg2 : Nat → Int32) (gm2 : Nat → Nat → Int32) (lg2 : Nat → Nat → Int64), u = (sg2, gm2, lg2) ∧ CI sg2 gm2 ∧ KS [15] sg sg2 ∧ KS [38] gm gm2 ∧ KS [] lg lg2 ∧ (∀ j9, j9 < (sg 12).toNatClampNeg → gm2 38 j9 = 0) ∧ ((sg2 15).toInt = 0)) (fun _ _ => False) := by
  intro sz
  refine vx_ofW (cc := cX5_forgetMade) (maxL := 2) (ret := none) (by decide) rfl ?_
  intro p e s m args below meth c s₁ B hml hxt hv
  obtain ⟨rfl, hsz, hP, hK, hD0, hG⟩ := hv
  have hx := B.exec
  have hb := B.bytes
  have hr := B.returns
  have hts := atoms_spec (ws := wm_X5_forgetMade) B.pre
  have htb := fun (w : Cond) (h : w ∈ tb) => hts w (List.mem_cons_of_mem _ h)
  have hown : s.vm.findClass RX5 = some m.cls := findClass_of_methodNamed B.named
  have hlocks := B.notSynchronized
  subst hsz
  have hD := hD0.self (sz := s.heap.size)
  generalize hAe : va_A (cW ad cid a2 lx sg gm lg) s.heap.size = A at hD hG ⊢
  have hA : ∀ q : Nat, s.heap.size ≤ q → A q := fun q h => by rw [← hAe]; exact Or.inr h
  have hS : va_S A s.heap s.heap [] := va_S.rf
  have hl := lv_entry ([eV (ad 6) x]) (n := 2) (by rw [show (lg_sl ([eV (ad 6) x])).length = 1 from by simp [lg_sl, eV_cat, cat_i, cat_l]]; exact Nat.le_of_ble_eq_true rfl)
  rw [lg_entry_eq]
  generalize (lg_sl ([eV (ad 6) x]) ++ List.replicate (2 - (lg_sl ([eV (ad 6) x])).length) Slot.unset).toArray = ls at hl ⊢
  have hl : lv_has ls 2 [(0, eV (ad 6) x)] := by simp [lv_args, eV_cat, cat_i, cat_l] at hl; exact hl
  have hj2 : ∀ (n : Nat) (gm_j2 : Nat → Nat → Int32) (x1_2 : Int32) (_ : (80 - x1_2.toInt).toNat = n) (_ : iv 0 80 x1_2) (_ : iv 0 0 x) (_ : KS [38] gm gm_j2) (_ : CI sg gm_j2) (_ : ∀ j9, j9 < x1_2.toNatClampNeg → gm_j2 38 j9 = 0) (H : Heap) (locs : List Loc) (ls : Array Slot), va_P (dC, dI) vwCl (cW ad cid a2 lx sg gm_j2 lg) H → va_D A (cW ad cid a2 lx sg gm_j2 lg) → va_S A s.heap H locs → lv_has ls 2 [(1, .int x1_2), (0, eV (ad 6) x)] → W p l e (headSpec wm_X5_forgetMade ({ frames := 1, cells := 1, slots := 6, locals := 21 })).room s m ([eV (ad 6) x] : List Value).toArray below meth c H locs 0 0 (vx_MQ below (cQx dC dI ad cid a2 lx (fun v u => v = none ∧ ∃ (sg2 : Nat → Int32) (gm2 : Nat → Nat → Int32) (lg2 : Nat → Nat → Int64), u = (sg2, gm2, lg2) ∧ CI sg2 gm2 ∧ KS [15] sg sg2 ∧ KS [38] gm gm2 ∧ KS [] lg lg2 ∧ (∀ j9, j9 < (sg 12).toNatClampNeg → gm2 38 j9 = 0) ∧ ((sg2 15).toInt = 0)) A) (cX dC dI ad cid a2 lx (fun _ _ => False) A) ([eV (ad 6) x] : List Value).toArray s 1 6 A) (F0 m 2 ls []) := by
    intro n
    induction n using Nat.strongRecOn with
    | ind n ih2 =>
      intro gm_j2 x1_2 hn2 hx1_2 hsx0_2 hkg_j2 hI_j2 hall H locs ls hP hD hS hl
      refine lv_iload_n hx hb dX5_forgetMade_2 rfl (lv_at hl 0 rfl) ?_
      refine ec_aload_n hx hb dX5_forgetMade_3 rfl (lv_at hl 1 rfl) ?_
      refine cr_get (t := 6) (j := 0) (C := RX5) (T := TX5) (N := 13) (v := eV (ad 4) 0) hx hb htb inX5 hown hK hP hsx0_2 (by decide) (by decide) (by decide) rfl (by decide) (htb _ kw_404) (cV_c rfl (by decide) (by rw [show cMu 6 0 = 0 from rfl, Nat.zero_mul]; rfl)) dX5_forgetMade_4 ?_
      refine cm_callV (t := 4) (C := RX10) (T := TX10) (N := 4) (rest := [.int x1_2]) (as := []) ⟨hx, hb, hml, hown, htb⟩ (d_countWi l dC dI ad cid a2 lx sg gm_j2 lg 0 hI_j2 (iv_k (by decide) : iv 0 0 0)) (cwV 0 htb (gd_V kw_492 kw_493 kw_494 kw_153 kw_1406) rfl rfl rfl (by decide +kernel) ⟨Nat.le_of_ble_eq_true rfl, Nat.le_of_ble_eq_true rfl⟩) (iv_k (by decide) : iv 0 0 0) (by decide) (by decide) rfl rfl hl.1 rfl (Nat.le_trans (cs_c (cat_i _) cs_n) (by decide)) dX5_forgetMade_7 ⟨Nat.le_of_ble_eq_true rfl, Nat.le_of_ble_eq_true rfl⟩ hK hP hD hS hA hG (fun E ce q9 u_2 H locs hw hP hD hS hce hcv hcl => ?_) (fun v9 u_2 H locs hw hP hD hS => ?_)
      · exact hw.elim
      obtain ⟨r_1, rfl, rfl, hr_1, fr_r_1⟩ := hw
      have hP : va_P (dC, dI) vwCl (cW ad cid a2 lx sg gm_j2 lg) H := hP
      have hD : va_D A (cW ad cid a2 lx sg gm_j2 lg) := hD
      refine W.eq (g2 := F0 m 10 ls [.int r_1, .int x1_2]) rfl ?_
      refine lv_icmp_ge (tgt := 31) hx hb dX5_forgetMade_10 (by decide) (fun c_4 => ?_) (fun c_4 => ?_)
      · have d_5 : (r_1 : Int32).toInt ≤ (x1_2 : Int32).toInt := Int32.le_iff_toInt_le.mp c_4
        refine ec_aload_n hx hb dX5_forgetMade_31 rfl (lv_at hl 1 rfl) ?_
        refine lv_iconst (v := 0) hx hb dX5_forgetMade_32 (by decide) ?_
        refine cr_puts (t := 6) (j := 7) (C := RX5) (T := TX5) (N := 13) (ty0 := tyX5) (k := 15) (y := 0) hx hb htb inX5 tyX5_ok nmX5 hown hK hP hD hS hsx0_2 (by decide) (by decide) (by decide) (by decide) rfl rfl rfl (by decide) (htb _ kw_411) rfl (by show Value.int 0 = Value.int (va_up sg 15 0 15); rw [va_up_self]) rfl rfl dX5_forgetMade_33 (fun sg_6 H locs esg_6 hP hD hS => ?_)
        have hI_sg_6 := CI_put hI_j2 esg_6 (iv_k (by decide) : iv 0 0 0) (by decide)
        exact W.nb (fun hN => W.widen (k := 1) (n := 6) (by decide) (by decide) (vx_ret (W.vret hx hb hr (fun t ht hW => ⟨⟨none, (sg_6, gm_j2, lg), rfl, ⟨rfl, sg_6, gm_j2, lg, rfl, hI_sg_6, (KS_up KS_rf esg_6 (by decide)), (KS_tr (L := [38]) KS_rf hkg_j2 (by decide)), KS_rf, (fun j9 q9 => by { rw [show gm_j2 38 = gm_j2 38 from rfl]; exact hall j9 (by have q1 : (sg 12).toNatClampNeg = (sg 12).toInt.toNat := rfl; have q2 : x1_2.toNatClampNeg = x1_2.toInt.toNat := rfl; have q3 := congrArg Int32.toInt fr_r_1; have := i32_0; have := i32_1; have := i32_2; have := i32_m1; have := congrArg Int32.toInt (show sg_6 12 = sg 12 from up_ne esg_6 (by decide)); have := (show iv 0 80 (sg 12) from CI_s hI 12).1; have := (show iv 0 80 (sg 12) from CI_s hI 12).2; have := (hsx0_2).1; have := (hsx0_2).2; have := (hx1_2).1; have := (hx1_2).2; have := (hr_1).1; have := (hr_1).2; omega) }), (by have := i32_0; have := i32_1; have := i32_2; have := i32_m1; have : (sg_6 15).toInt = 0 := (by rw [up_at esg_6]; rfl); have := (hsx0_2).1; have := (hsx0_2).2; have := (hx1_2).1; have := (hx1_2).2; have := (hr_1).1; have := (hr_1).2; omega)⟩, by rw [ht]; exact hP, va_K.moved hW.alike hK, hD⟩, hS.F ht, by rw [ht]; exact hN⟩) hS.2.2 dX5_forgetMade_36)))
      · have d_7 : (x1_2 : Int32).toInt < (r_1 : Int32).toInt := Int32.lt_iff_toInt_lt.mp (i32_lt c_4)
        have h_8 : iv 0 79 x1_2 := iv_ltL (i32_lt c_4) hx1_2 hr_1 (by decide)
        have h_9 : iv 1 80 r_1 := iv_ltR (i32_lt c_4) hx1_2 hr_1 (by decide)
        refine ec_aload_n hx hb dX5_forgetMade_13 rfl (lv_at hl 1 rfl) ?_
        refine cr_get (t := 6) (j := 0) (C := RX5) (T := TX5) (N := 13) (v := eV (ad 4) 0) hx hb htb inX5 hown hK hP hsx0_2 (by decide) (by decide) (by decide) rfl (by decide) (htb _ kw_404) (cV_c rfl (by decide) (by rw [show cMu 6 0 = 0 from rfl, Nat.zero_mul]; rfl)) dX5_forgetMade_14 ?_
        refine lv_iload_n hx hb dX5_forgetMade_17 rfl (lv_at hl 0 rfl) ?_
        refine cm_callV (t := 4) (C := RX10) (T := TX10) (N := 4) (rest := []) (as := [.int x1_2]) ⟨hx, hb, hml, hown, htb⟩ (d_numbered l dC dI ad cid a2 lx sg gm_j2 lg 0 x1_2 hI_j2 (iv_k (by decide) : iv 0 0 0) h_8) (cwV 1 htb (gd_V kw_495 kw_496 kw_497 kw_153 kw_1407) rfl rfl rfl (by decide +kernel) ⟨Nat.le_of_ble_eq_true rfl, Nat.le_of_ble_eq_true rfl⟩) (iv_k (by decide) : iv 0 0 0) (by decide) (by decide) rfl rfl hl.1 rfl (Nat.le_trans cs_n (by decide)) dX5_forgetMade_18 ⟨Nat.le_of_ble_eq_true rfl, Nat.le_of_ble_eq_true rfl⟩ hK hP hD hS hA hG (fun E ce q9 u_11 H locs hw hP hD hS hce hcv hcl => ?_) (fun v9 u_11 H locs hw hP hD hS => ?_)
        · exact hw.elim
        obtain ⟨r_10, rfl, rfl, hr_10, fr_r_10⟩ := hw
        have hP : va_P (dC, dI) vwCl (cW ad cid a2 lx sg gm_j2 lg) H := hP
        have hD : va_D A (cW ad cid a2 lx sg gm_j2 lg) := hD
        refine W.eq (g2 := F0 m 21 ls [eV (ad 10) r_10]) rfl ?_
        refine lv_iconst (v := 0) hx hb dX5_forgetMade_21 (by decide) ?_
        refine cr_putg (t := 10) (j := 17) (C := RX1) (T := TX1) (N := 19) (ty0 := tyX1) (k := 38) (y := 0) hx hb htb inX1 tyX1_ok nmX1 hown hK hP hD hS hr_10 (by decide) (by decide) (by decide) (by decide) rfl rfl (by decide) (htb _ kw_384) rfl (by show Value.int 0 = Value.int (va_up gm_j2 38 (upd (gm_j2 38) r_10.toNatClampNeg 0) 38 r_10.toNatClampNeg); rw [va_up_self, upd_at]) (iv_nb (iv_w (iv_k (by decide) : iv 0 0 0) (by decide))) (iv_fb (iv_w (iv_k (by decide) : iv 0 0 0) (by decide))) dX5_forgetMade_22 (fun gm_13 H locs egm_13 hP hD hS => ?_)
        have hI_gm_13 := CI_st hI_j2 egm_13 (iv_k (by decide) : iv 0 0 0) (by decide)
        obtain ⟨z_14, ez_14⟩ : ∃ z : Int32, z = x1_2 + 1 := ⟨_, rfl⟩
        have hz_14 : iv 1 80 z_14 := iv_of ez_14 (iv_add h_8 (iv_k (by decide) : iv 1 1 1) (by decide))
        have tz_14 : z_14.toInt = x1_2.toInt + 1 := by rw [ez_14]; exact iv_addE h_8 (iv_k (by decide) : iv 1 1 1) (by decide)
        refine lv_iinc (v := z_14) (lv' := [(1, .int z_14), (0, eV (ad 6) x)]) hx hb dX5_forgetMade_25 hl (k := 0) rfl ez_14.symm (by decide) (by simp [List.filter, eV_cat, cat_i, cat_l]) (fun ls hl => ?_)
        refine lv_goto (tgt := 2) hx hb dX5_forgetMade_28 (by decide) ?_
        exact ih2 _ (by rw [← hn2]; exact (iv_meas tz_14 h_8 (by decide))) gm_13 z_14 rfl (iv_w hz_14 (by decide)) hsx0_2 (KS_up (KS_tr (L := [38]) KS_rf hkg_j2 (by decide)) egm_13 (by decide)) hI_gm_13 (fun j9 q9 => by { rw [show gm_13 38 = _ from up_at egm_13]; by_cases q8 : j9 = r_10.toNatClampNeg; { rw [q8, upd_at] }; { rw [upd_ne q8]; exact hall j9 (by have q1 : z_14.toNatClampNeg = z_14.toInt.toNat := rfl; have q2 : x1_2.toNatClampNeg = x1_2.toInt.toNat := rfl; rw [fr_r_10] at q8; have := i32_0; have := i32_1; have := i32_2; have := i32_m1; have := (hsx0_2).1; have := (hsx0_2).2; have := (h_8).1; have := (h_8).2; have := (h_9).1; have := (h_9).2; have := (hr_10).1; have := (hr_10).2; have := (hz_14).1; have := (hz_14).2; omega) } }) _ _ _ hP hD hS (lv_sub hl [0, 1] rfl)
  refine lv_iconst (v := 0) hx hb dX5_forgetMade_0 (by decide) ?_
  refine lv_istore_n (i := 1) (lv' := [(1, .int 0), (0, eV (ad 6) x)]) hx hb dX5_forgetMade_1 rfl hl (by decide) (by simp [List.filter, eV_cat, cat_i, cat_l]) (fun ls hl => ?_)
  exact hj2 _ gm 0 rfl (iv_w (iv_k (by decide) : iv 0 0 0) (by decide)) hvx KS_rf hI (fun _ q9 => absurd q9 (Nat.not_lt_zero _)) _ _ _ hP hD hS (lv_sub hl [0, 1] rfl)

set_option maxHeartbeats 4000000 in
set_option maxRecDepth 100000 in
theorem d_forgetFailure (l : Launch) (dC : Nat → ClassId) (dI : Nat → Nat → Nat) (ad : Nat → Nat → Nat) (cid : Nat → ClassId) (a2 : Nat → Nat) (lx : List Nat) (sg : Nat → Int32) (gm : Nat → Nat → Int32) (lg : Nat → Nat → Int64) (x : Int32) (hI : CI sg gm) (hvx : iv 0 0 x) : CMt dC dI ad cid a2 lx l yX5_forgetFailure wm_X5_forgetFailure ({ frames := 0, cells := 1, slots := 6, locals := 0 }) [eV (ad 6) x] sg gm lg (fun v u => v = none ∧ ∃ (sg2 : Nat → Int32) (gm2 : Nat → Nat → Int32) (lg2 : Nat → Nat → Int64), u = (sg2, gm2, lg2) ∧ CI sg2 gm2 ∧ KS [17, 18] sg sg2 ∧ KS [] gm gm2 ∧ KS [] lg lg2) (fun _ _ => False) := by
  intro sz
  refine vx_ofW (cc := cX5_forgetFailure) (maxL := 1) (ret := none) (by decide) rfl ?_
  intro p e s m args below meth c s₁ B hml hxt hv
  obtain ⟨rfl, hsz, hP, hK, hD0, hG⟩ := hv
  have hx := B.exec
  have hb := B.bytes
  have hr := B.returns
  have hts := atoms_spec (ws := wm_X5_forgetFailure) B.pre
  have htb := fun (w : Cond) (h : w ∈ tb) => hts w (List.mem_cons_of_mem _ h)
  have hown : s.vm.findClass RX5 = some m.cls := findClass_of_methodNamed B.named
  have hlocks := B.notSynchronized
  subst hsz
  have hD := hD0.self (sz := s.heap.size)
  generalize hAe : va_A (cW ad cid a2 lx sg gm lg) s.heap.size = A at hD hG ⊢
  have hA : ∀ q : Nat, s.heap.size ≤ q → A q := fun q h => by rw [← hAe]; exact Or.inr h
  have hS : va_S A s.heap s.heap [] := va_S.rf
  have hl := lv_entry ([eV (ad 6) x]) (n := 1) (by rw [show (lg_sl ([eV (ad 6) x])).length = 1 from by simp [lg_sl, eV_cat, cat_i, cat_l]]; exact Nat.le_of_ble_eq_true rfl)
  rw [lg_entry_eq]
  generalize (lg_sl ([eV (ad 6) x]) ++ List.replicate (1 - (lg_sl ([eV (ad 6) x])).length) Slot.unset).toArray = ls at hl ⊢
  have hl : lv_has ls 1 [(0, eV (ad 6) x)] := by simp [lv_args, eV_cat, cat_i, cat_l] at hl; exact hl
  refine ec_aload_n hx hb dX5_forgetFailure_0 rfl (lv_at hl 0 rfl) ?_
  refine lv_iconst (v := 0) hx hb dX5_forgetFailure_1 (by decide) ?_
  refine cr_puts (t := 6) (j := 11) (C := RX5) (T := TX5) (N := 13) (ty0 := tyX5) (k := 17) (y := 0) hx hb htb inX5 tyX5_ok nmX5 hown hK hP hD hS hvx (by decide) (by decide) (by decide) (by decide) rfl rfl rfl (by decide) (htb _ kw_415) rfl (by show Value.int 0 = Value.int (va_up sg 17 0 17); rw [va_up_self]) rfl rfl dX5_forgetFailure_2 (fun sg_1 H locs esg_1 hP hD hS => ?_)
  have hI_sg_1 := CI_put hI esg_1 (iv_k (by decide) : iv 0 0 0) (by decide)
  refine ec_aload_n hx hb dX5_forgetFailure_5 rfl (lv_at hl 0 rfl) ?_
  refine lv_iconst (v := (-1)) hx hb dX5_forgetFailure_6 (by decide) ?_
  refine cr_puts (t := 6) (j := 12) (C := RX5) (T := TX5) (N := 13) (ty0 := tyX5) (k := 18) (y := (-1)) hx hb htb inX5 tyX5_ok nmX5 hown hK hP hD hS hvx (by decide) (by decide) (by decide) (by decide) rfl rfl rfl (by decide) (htb _ kw_416) rfl (by show Value.int (-1) = Value.int (va_up sg_1 18 (-1) 18); rw [va_up_self]) rfl rfl dX5_forgetFailure_7 (fun sg_2 H locs esg_2 hP hD hS => ?_)
  have hI_sg_2 := CI_put hI_sg_1 esg_2 (iv_k (by decide) : iv (-1) (-1) (-1)) (by decide)
  exact W.nb (fun hN => W.widen (k := 1) (n := 6) (by decide) (by decide) (vx_ret (W.vret hx hb hr (fun t ht hW => ⟨⟨none, (sg_2, gm, lg), rfl, ⟨rfl, sg_2, gm, lg, rfl, hI_sg_2, (KS_up (KS_up KS_rf esg_1 (by decide)) esg_2 (by decide)), KS_rf, KS_rf⟩, by rw [ht]; exact hP, va_K.moved hW.alike hK, hD⟩, hS.F ht, by rw [ht]; exact hN⟩) hS.2.2 dX5_forgetFailure_10)))

set_option maxHeartbeats 4000000 in
set_option maxRecDepth 100000 in
theorem d_failure (l : Launch) (dC : Nat → ClassId) (dI : Nat → Nat → Nat) (ad : Nat → Nat → Nat) (cid : Nat → ClassId) (a2 : Nat → Nat) (lx : List Nat) (sg : Nat → Int32) (gm : Nat → Nat → Int32) (lg : Nat → Nat → Int64) (x : Int32) (hI : CI sg gm) (hvx : iv 0 0 x) : CMt dC dI ad cid a2 lx l yX5_failure wm_X5_failure ({ frames := 0, cells := 1, slots := 6, locals := 0 }) [eV (ad 6) x] sg gm lg (fun v u => ∃ r : Int32, v = some (.int r) ∧ u = (sg, gm, lg) ∧ (iv 0 8 r)) (fun _ _ => False) := by
  intro sz
  refine vx_ofW (cc := cX5_failure) (maxL := 1) (ret := (some .int)) (by decide) rfl ?_
  intro p e s m args below meth c s₁ B hml hxt hv
  obtain ⟨rfl, hsz, hP, hK, hD0, hG⟩ := hv
  have hx := B.exec
  have hb := B.bytes
  have hr := B.returns
  have hts := atoms_spec (ws := wm_X5_failure) B.pre
  have htb := fun (w : Cond) (h : w ∈ tb) => hts w (List.mem_cons_of_mem _ h)
  have hown : s.vm.findClass RX5 = some m.cls := findClass_of_methodNamed B.named
  have hlocks := B.notSynchronized
  subst hsz
  have hD := hD0.self (sz := s.heap.size)
  generalize hAe : va_A (cW ad cid a2 lx sg gm lg) s.heap.size = A at hD hG ⊢
  have hA : ∀ q : Nat, s.heap.size ≤ q → A q := fun q h => by rw [← hAe]; exact Or.inr h
  have hS : va_S A s.heap s.heap [] := va_S.rf
  have hl := lv_entry ([eV (ad 6) x]) (n := 1) (by rw [show (lg_sl ([eV (ad 6) x])).length = 1 from by simp [lg_sl, eV_cat, cat_i, cat_l]]; exact Nat.le_of_ble_eq_true rfl)
  rw [lg_entry_eq]
  generalize (lg_sl ([eV (ad 6) x]) ++ List.replicate (1 - (lg_sl ([eV (ad 6) x])).length) Slot.unset).toArray = ls at hl ⊢
  have hl : lv_has ls 1 [(0, eV (ad 6) x)] := by simp [lv_args, eV_cat, cat_i, cat_l] at hl; exact hl
  refine ec_aload_n hx hb dX5_failure_0 rfl (lv_at hl 0 rfl) ?_
  refine cr_get (t := 6) (j := 11) (C := RX5) (T := TX5) (N := 13) (v := .int (sg 17)) hx hb htb inX5 hown hK hP hvx (by decide) (by decide) (by decide) rfl (by decide) (htb _ kw_415) rfl dX5_failure_1 ?_
  exact W.nb (fun hN => W.widen (k := 1) (n := 6) (by decide) (by decide) (vx_ret (W.iret (v := (sg 17)) hx hb hr (fun t ht hW => ⟨⟨some (.int (sg 17)), (sg, gm, lg), rfl, ⟨(sg 17), rfl, rfl, (show iv 0 8 (sg 17) from CI_s hI 17)⟩, by rw [ht]; exact hP, va_K.moved hW.alike hK, hD⟩, hS.F ht, by rw [ht]; exact hN⟩) hS.2.2 dX5_failure_4)))

set_option maxHeartbeats 4000000 in
set_option maxRecDepth 100000 in
theorem d_failureBean (l : Launch) (dC : Nat → ClassId) (dI : Nat → Nat → Nat) (ad : Nat → Nat → Nat) (cid : Nat → ClassId) (a2 : Nat → Nat) (lx : List Nat) (sg : Nat → Int32) (gm : Nat → Nat → Int32) (lg : Nat → Nat → Int64) (x : Int32) (hI : CI sg gm) (hvx : iv 0 0 x) : CMt dC dI ad cid a2 lx l yX5_failureBean wm_X5_failureBean ({ frames := 0, cells := 1, slots := 6, locals := 0 }) [eV (ad 6) x] sg gm lg (fun v u => ∃ r : Int32, v = some (.int r) ∧ u = (sg, gm, lg) ∧ (iv (-1) 79 r)) (fun _ _ => False) := by
  intro sz
  refine vx_ofW (cc := cX5_failureBean) (maxL := 1) (ret := (some .int)) (by decide) rfl ?_
  intro p e s m args below meth c s₁ B hml hxt hv
  obtain ⟨rfl, hsz, hP, hK, hD0, hG⟩ := hv
  have hx := B.exec
  have hb := B.bytes
  have hr := B.returns
  have hts := atoms_spec (ws := wm_X5_failureBean) B.pre
  have htb := fun (w : Cond) (h : w ∈ tb) => hts w (List.mem_cons_of_mem _ h)
  have hown : s.vm.findClass RX5 = some m.cls := findClass_of_methodNamed B.named
  have hlocks := B.notSynchronized
  subst hsz
  have hD := hD0.self (sz := s.heap.size)
  generalize hAe : va_A (cW ad cid a2 lx sg gm lg) s.heap.size = A at hD hG ⊢
  have hA : ∀ q : Nat, s.heap.size ≤ q → A q := fun q h => by rw [← hAe]; exact Or.inr h
  have hS : va_S A s.heap s.heap [] := va_S.rf
  have hl := lv_entry ([eV (ad 6) x]) (n := 1) (by rw [show (lg_sl ([eV (ad 6) x])).length = 1 from by simp [lg_sl, eV_cat, cat_i, cat_l]]; exact Nat.le_of_ble_eq_true rfl)
  rw [lg_entry_eq]
  generalize (lg_sl ([eV (ad 6) x]) ++ List.replicate (1 - (lg_sl ([eV (ad 6) x])).length) Slot.unset).toArray = ls at hl ⊢
  have hl : lv_has ls 1 [(0, eV (ad 6) x)] := by simp [lv_args, eV_cat, cat_i, cat_l] at hl; exact hl
  refine ec_aload_n hx hb dX5_failureBean_0 rfl (lv_at hl 0 rfl) ?_
  refine cr_get (t := 6) (j := 12) (C := RX5) (T := TX5) (N := 13) (v := .int (sg 18)) hx hb htb inX5 hown hK hP hvx (by decide) (by decide) (by decide) rfl (by decide) (htb _ kw_416) rfl dX5_failureBean_1 ?_
  exact W.nb (fun hN => W.widen (k := 1) (n := 6) (by decide) (by decide) (vx_ret (W.iret (v := (sg 18)) hx hb hr (fun t ht hW => ⟨⟨some (.int (sg 18)), (sg, gm, lg), rfl, ⟨(sg 18), rfl, rfl, (show iv (-1) 79 (sg 18) from CI_s hI 18)⟩, by rw [ht]; exact hP, va_K.moved hW.alike hK, hD⟩, hS.F ht, by rw [ht]; exact hN⟩) hS.2.2 dX5_failureBean_4)))

set_option maxHeartbeats 4000000 in
set_option maxRecDepth 100000 in
theorem d_slot (l : Launch) (dC : Nat → ClassId) (dI : Nat → Nat → Nat) (ad : Nat → Nat → Nat) (cid : Nat → ClassId) (a2 : Nat → Nat) (lx : List Nat) (sg : Nat → Int32) (gm : Nat → Nat → Int32) (lg : Nat → Nat → Int64) (dp : Int32) (a : Int32) (hI : CI sg gm) (hvdp : iv 0 39 dp) (hva : iv 0 3 a) : CMt dC dI ad cid a2 lx l yX5_slot wm_X5_slot ({ frames := 0, cells := 1, slots := 6, locals := 0 }) [.int dp, .int a] sg gm lg (fun v u => ∃ r : Int32, v = some (.int r) ∧ u = (sg, gm, lg) ∧ (iv 0 954 r) ∧ (r.toInt = 24 * dp.toInt + 6 * a.toInt)) (fun _ _ => False) := by
  intro sz
  refine vx_ofW (cc := cX5_slot) (maxL := 2) (ret := (some .int)) (by decide) rfl ?_
  intro p e s m args below meth c s₁ B hml hxt hv
  obtain ⟨rfl, hsz, hP, hK, hD0, hG⟩ := hv
  have hx := B.exec
  have hb := B.bytes
  have hr := B.returns
  have hts := atoms_spec (ws := wm_X5_slot) B.pre
  have htb := fun (w : Cond) (h : w ∈ tb) => hts w (List.mem_cons_of_mem _ h)
  have hown : s.vm.findClass RX5 = some m.cls := findClass_of_methodNamed B.named
  have hlocks := B.notSynchronized
  subst hsz
  have hD := hD0.self (sz := s.heap.size)
  generalize hAe : va_A (cW ad cid a2 lx sg gm lg) s.heap.size = A at hD hG ⊢
  have hA : ∀ q : Nat, s.heap.size ≤ q → A q := fun q h => by rw [← hAe]; exact Or.inr h
  have hS : va_S A s.heap s.heap [] := va_S.rf
  have hl := lv_entry ([.int dp, .int a]) (n := 2) (Nat.le_of_ble_eq_true rfl)
  rw [lg_entry_eq]
  generalize (lg_sl ([.int dp, .int a]) ++ List.replicate (2 - (lg_sl ([.int dp, .int a])).length) Slot.unset).toArray = ls at hl ⊢
  have hl : lv_has ls 2 [(0, .int dp), (1, .int a)] := hl
  refine lv_iload_n hx hb dX5_slot_0 rfl (lv_at hl 0 rfl) ?_
  refine lv_bipush (v := 24) hx hb dX5_slot_1 (by decide) ?_
  refine lv_imul hx hb dX5_slot_3 ?_
  refine lv_topi (fun z_1 ez_1 => ?_)
  have hz_1 : iv 0 936 z_1 := iv_of ez_1 (iv_mul hvdp (iv_k (by decide) : iv 24 24 24) (by decide))
  have tz_1 : z_1.toInt = (dp : Int32).toInt * 24 := by rw [ez_1]; exact iv_mulE hvdp (iv_k (by decide) : iv 24 24 24) (by decide)
  refine lv_iload_n hx hb dX5_slot_4 rfl (lv_at hl 1 rfl) ?_
  refine lv_bipush (v := 6) hx hb dX5_slot_5 (by decide) ?_
  refine lv_imul hx hb dX5_slot_7 ?_
  refine lv_topi (fun z_2 ez_2 => ?_)
  have hz_2 : iv 0 18 z_2 := iv_of ez_2 (iv_mul hva (iv_k (by decide) : iv 6 6 6) (by decide))
  have tz_2 : z_2.toInt = (a : Int32).toInt * 6 := by rw [ez_2]; exact iv_mulE hva (iv_k (by decide) : iv 6 6 6) (by decide)
  refine lv_iadd hx hb dX5_slot_8 ?_
  refine lv_topi (fun z_3 ez_3 => ?_)
  have hz_3 : iv 0 954 z_3 := iv_of ez_3 (iv_add hz_1 hz_2 (by decide))
  have tz_3 : z_3.toInt = (z_1 : Int32).toInt + (z_2 : Int32).toInt := by rw [ez_3]; exact iv_addE hz_1 hz_2 (by decide)
  exact W.nb (fun hN => W.widen (k := 1) (n := 6) (by decide) (by decide) (vx_ret (W.iret (v := z_3) hx hb hr (fun t ht hW => ⟨⟨some (.int z_3), (sg, gm, lg), rfl, ⟨z_3, rfl, rfl, hz_3, (by have := i32_0; have := i32_1; have := i32_2; have := i32_m1; have := (hvdp).1; have := (hvdp).2; have := (hva).1; have := (hva).2; have := (hz_1).1; have := (hz_1).2; have := (hz_2).1; have := (hz_2).2; have := (hz_3).1; have := (hz_3).2; omega)⟩, by rw [ht]; exact hP, va_K.moved hW.alike hK, hD⟩, hS.F ht, by rw [ht]; exact hN⟩) hS.2.2 dX5_slot_9)))

set_option maxHeartbeats 4000000 in
set_option maxRecDepth 100000 in
theorem d_failWith (l : Launch) (dC : Nat → ClassId) (dI : Nat → Nat → Nat) (ad : Nat → Nat → Nat) (cid : Nat → ClassId) (a2 : Nat → Nat) (lx : List Nat) (sg : Nat → Int32) (gm : Nat → Nat → Int32) (lg : Nat → Nat → Int64) (hl9 : l.stackTraces = false) (x : Int32) (n : Int32) (hI : CI sg gm) (hvx : iv 0 0 x) (hvn : iv 0 8 n) : CMt dC dI ad cid a2 lx l yX5_failWith wm_X5_failWith ({ frames := 6, cells := 1, slots := 6, locals := 120 }) [eV (ad 6) x, .int n] sg gm lg (fun v u => ∃ r : Int32, v = some (.int r) ∧ ∃ (sg2 : Nat → Int32) (gm2 : Nat → Nat → Int32) (lg2 : Nat → Nat → Int64), u = (sg2, gm2, lg2) ∧ CI sg2 gm2 ∧ KS [17, 18] sg sg2 ∧ KS [] gm gm2 ∧ KS [] lg lg2 ∧ (False)) (fun E u => (E = "java/lang/UnsupportedOperationException") ∧ ∃ (sg2 : Nat → Int32) (gm2 : Nat → Nat → Int32) (lg2 : Nat → Nat → Int64), u = (sg2, gm2, lg2) ∧ CI sg2 gm2 ∧ KS [17, 18] sg sg2 ∧ KS [] gm gm2 ∧ KS [] lg lg2) := by
  intro sz
  refine vx_ofW (cc := cX5_failWith) (maxL := 2) (ret := (some .int)) (by decide) rfl ?_
  intro p e s m args below meth c s₁ B hml hxt hv
  obtain ⟨rfl, hsz, hP, hK, hD0, hG⟩ := hv
  have hx := B.exec
  have hb := B.bytes
  have hr := B.returns
  have hts := atoms_spec (ws := wm_X5_failWith) B.pre
  have htb := fun (w : Cond) (h : w ∈ tb) => hts w (List.mem_cons_of_mem _ h)
  have hown : s.vm.findClass RX5 = some m.cls := findClass_of_methodNamed B.named
  have hlocks := B.notSynchronized
  subst hsz
  have hD := hD0.self (sz := s.heap.size)
  generalize hAe : va_A (cW ad cid a2 lx sg gm lg) s.heap.size = A at hD hG ⊢
  have hA : ∀ q : Nat, s.heap.size ≤ q → A q := fun q h => by rw [← hAe]; exact Or.inr h
  have hS : va_S A s.heap s.heap [] := va_S.rf
  have hl := lv_entry ([eV (ad 6) x, .int n]) (n := 2) (by rw [show (lg_sl ([eV (ad 6) x, .int n])).length = 2 from by simp [lg_sl, eV_cat, cat_i, cat_l]]; exact Nat.le_of_ble_eq_true rfl)
  rw [lg_entry_eq]
  generalize (lg_sl ([eV (ad 6) x, .int n]) ++ List.replicate (2 - (lg_sl ([eV (ad 6) x, .int n])).length) Slot.unset).toArray = ls at hl ⊢
  have hl : lv_has ls 2 [(0, eV (ad 6) x), (1, .int n)] := by simp [lv_args, eV_cat, cat_i, cat_l] at hl; exact hl
  have hj24 : ∀ (sg_j24 : Nat → Int32) (y0_24 : Int32) (_ : iv 0 0 x) (_ : iv 0 8 n) (_ : iv (-1) 79 y0_24) (_ : iv 0 0 x) (_ : KS [17] sg sg_j24) (_ : CI sg_j24 gm) (H : Heap) (locs : List Loc) (ls : Array Slot), va_P (dC, dI) vwCl (cW ad cid a2 lx sg_j24 gm lg) H → va_D A (cW ad cid a2 lx sg_j24 gm lg) → va_S A s.heap H locs → lv_has ls 2 [(0, eV (ad 6) x), (1, .int n)] → W p l e (headSpec wm_X5_failWith ({ frames := 6, cells := 1, slots := 6, locals := 120 })).room s m ([eV (ad 6) x, .int n] : List Value).toArray below meth c H locs 0 0 (vx_MQ below (cQx dC dI ad cid a2 lx (fun v u => ∃ r : Int32, v = some (.int r) ∧ ∃ (sg2 : Nat → Int32) (gm2 : Nat → Nat → Int32) (lg2 : Nat → Nat → Int64), u = (sg2, gm2, lg2) ∧ CI sg2 gm2 ∧ KS [17, 18] sg sg2 ∧ KS [] gm gm2 ∧ KS [] lg lg2 ∧ (False)) A) (cX dC dI ad cid a2 lx (fun E u => (E = "java/lang/UnsupportedOperationException") ∧ ∃ (sg2 : Nat → Int32) (gm2 : Nat → Nat → Int32) (lg2 : Nat → Nat → Int64), u = (sg2, gm2, lg2) ∧ CI sg2 gm2 ∧ KS [17, 18] sg sg2 ∧ KS [] gm gm2 ∧ KS [] lg lg2) A) ([eV (ad 6) x, .int n] : List Value).toArray s 1 6 A) (F0 m 24 ls [.int y0_24, eV (ad 6) x]) := by
    intro sg_j24 y0_24 hsx0_24 hsx1_24 hy0_24 hsy1_24 hks_j24 hI_j24 H locs ls hP hD hS hl
    refine cr_puts (t := 6) (j := 12) (C := RX5) (T := TX5) (N := 13) (ty0 := tyX5) (k := 18) (y := y0_24) hx hb htb inX5 tyX5_ok nmX5 hown hK hP hD hS hsy1_24 (by decide) (by decide) (by decide) (by decide) rfl rfl rfl (by decide) (htb _ kw_416) rfl (by show Value.int y0_24 = Value.int (va_up sg_j24 18 y0_24 18); rw [va_up_self]) rfl rfl dX5_failWith_24 (fun sg_1 H locs esg_1 hP hD hS => ?_)
    have hI_sg_1 := CI_put hI_j24 esg_1 hy0_24 (by decide)
    refine vx_throw0 (own := RX5) (cls := "java/lang/UnsupportedOperationException") (names := ["java/lang/RuntimeException", "java/lang/Exception"]) (ik := 103) (ic := 131) (A := A) hx hb hl9 hown (by decide +kernel) (by decide +kernel) (htb _ kw_890) (htb _ kw_174) (vx_hat (fun w h => htb w (inT_4 w h)) inU_4 (vx_c (va_Nw.use rfl hG.2.1.1) (vx_c (va_Nw.use rfl hG.1.2.1.2.2.1) (vx_c (va_Nw.use rfl hG.1.2.1.2.2.2.1) (vx_c (va_Nw.use rfl hG.1.2.1.2.2.2.2) vx_n))))) (fun w hw => ?_) hG.1.2.2.2.1 hG.1.2.2.2.2 hS (by rw [hml]; exact hl.1) dX5_failWith_27 dX5_failWith_30 dX5_failWith_31 dX5_failWith_34 (fun x hx9 => (hxt x hx9).elim) (Nat.le_of_ble_eq_true rfl) (Nat.le_trans (Nat.add_le_add_right (show _ ≤ 8 from (Nat.le_trans cs_n (by decide))) _) (Nat.le_of_ble_eq_true rfl)) (Nat.le_of_ble_eq_true rfl) (Nat.le_of_ble_eq_true rfl) hlocks (fun t ht1 hz2 hk2 => ⟨⟨(sg_1, gm, lg), ⟨rfl, sg_1, gm, lg, rfl, hI_sg_1, (KS_up (KS_tr (L := [17, 18]) KS_rf hks_j24 (by decide)) esg_1 (by decide)), KS_rf, KS_rf⟩, hP.kept (fun k q hq => hk2 _ (vx_lt hP hq)), va_K.moved ht1 hK, hD⟩, ⟨Nat.le_trans hS.1 hz2, fun q h1 h2 => (hk2 q (Nat.lt_of_lt_of_le h1 hS.1)).trans (hS.2.1 q h1 h2)⟩⟩) hS.2.2 (Nat.le_of_ble_eq_true rfl) (Nat.le_of_ble_eq_true rfl)
    rcases List.mem_cons.mp hw with rfl | hw
    · rfl
    rcases List.mem_cons.mp hw with rfl | hw
    · rfl
    exact inV_4 w hw
  refine ec_aload_n hx hb dX5_failWith_0 rfl (lv_at hl 0 rfl) ?_
  refine lv_iload_n hx hb dX5_failWith_1 rfl (lv_at hl 1 rfl) ?_
  refine cr_puts (t := 6) (j := 11) (C := RX5) (T := TX5) (N := 13) (ty0 := tyX5) (k := 17) (y := n) hx hb htb inX5 tyX5_ok nmX5 hown hK hP hD hS hvx (by decide) (by decide) (by decide) (by decide) rfl rfl rfl (by decide) (htb _ kw_415) rfl (by show Value.int n = Value.int (va_up sg 17 n 17); rw [va_up_self]) rfl rfl dX5_failWith_2 (fun sg_2 H locs esg_2 hP hD hS => ?_)
  have hI_sg_2 := CI_put hI esg_2 hvn (by decide)
  refine ec_aload_n hx hb dX5_failWith_5 rfl (lv_at hl 0 rfl) ?_
  refine ec_aload_n hx hb dX5_failWith_6 rfl (lv_at hl 0 rfl) ?_
  refine cr_get (t := 6) (j := 10) (C := RX5) (T := TX5) (N := 13) (v := eV (ad 10) (sg_2 16)) hx hb htb inX5 hown hK hP hvx (by decide) (by decide) (by decide) rfl (by decide) (htb _ kw_414) rfl dX5_failWith_7 ?_
  refine W.eq (g2 := F0 m 10 ls [eV (ad 10) (sg 16), eV (ad 6) x]) (by rw [show sg_2 16 = sg 16 from (up_ne esg_2 (by decide))]) ?_
  refine ec_ifnonnull (tgt := 17) hx hb dX5_failWith_10 (by decide) (fun c_3 => ?_) (fun c_3 => ?_)
  · have h_4 : iv 0 79 (sg 16) := ⟨c_3, ((show iv (-1) 79 (sg 16) from CI_s hI 16)).2⟩
    refine ec_aload_n hx hb dX5_failWith_17 rfl (lv_at hl 0 rfl) ?_
    refine cr_get (t := 6) (j := 10) (C := RX5) (T := TX5) (N := 13) (v := eV (ad 10) (sg_2 16)) hx hb htb inX5 hown hK hP hvx (by decide) (by decide) (by decide) rfl (by decide) (htb _ kw_414) rfl dX5_failWith_18 ?_
    refine W.eq (g2 := F0 m 21 ls [eV (ad 10) (sg 16), eV (ad 6) x]) (by rw [show sg_2 16 = sg 16 from (up_ne esg_2 (by decide))]) ?_
    refine cr_get (t := 10) (j := 0) (C := RX1) (T := TX1) (N := 19) (v := .int (gm 28 (sg 16).toNatClampNeg)) hx hb htb inX1 hown hK hP h_4 (by decide) (by decide) (by decide) rfl (by decide) (htb _ kw_350) rfl dX5_failWith_21 ?_
    obtain ⟨z_5, ez_5⟩ : ∃ z : Int32, z = (gm 28 (sg 16).toNatClampNeg) := ⟨_, rfl⟩
    refine W.eq (g2 := F0 m 24 ls [.int z_5, eV (ad 6) x]) (by rw [ez_5]) ?_
    have hz_5 : iv 0 79 z_5 := iv_of ez_5 (CI_a hI_sg_2 28 h_4 (by decide))
    exact hj24 sg_2 z_5 hvx hvn (iv_w hz_5 (by decide)) hvx (KS_up KS_rf esg_2 (by decide)) hI_sg_2 _ _ _ hP hD hS (lv_sub hl [0, 1] rfl)
  · have h_6 : iv (-1) (-1) (sg 16) := ⟨((show iv (-1) 79 (sg 16) from CI_s hI 16)).1, by omega⟩
    refine lv_iconst (v := (-1)) hx hb dX5_failWith_13 (by decide) ?_
    refine lv_goto (tgt := 24) hx hb dX5_failWith_14 (by decide) ?_
    exact hj24 sg_2 (-1) hvx hvn (iv_w (iv_k (by decide) : iv (-1) (-1) (-1)) (by decide)) hvx (KS_up KS_rf esg_2 (by decide)) hI_sg_2 _ _ _ hP hD hS (lv_sub hl [0, 1] rfl)
end
section
theorem NBw_w {H0 H : Heap} {k n k2 n2 : Nat} (h : NBw H0 H k n) (h1 : k ≤ k2) (h2 : n ≤ n2) : NBw H0 H k2 n2 := ⟨Nat.le_trans h.1 (Nat.add_le_add_left h1 _), Nat.le_trans h.2 (Nat.add_le_add_left h2 _)⟩
/-- the lists' room, all together -/
def PHs (gm : Nat → Nat → Int32) : Nat := ((List.range 240).map (fun q => (gm 42 q).toNatClampNeg)).sum
def PH (gm gm2 : Nat → Nat → Int32) : Nat := PHs gm2 - PHs gm
def gc (gm gm2 : Nat → Nat → Int32) (k : Nat) : Nat := PH gm gm2 + k
def gs (gm gm2 : Nat → Nat → Int32) (k : Nat) : Nat := 4 * PH gm gm2 + 6 * k
theorem PHs_e {gm gm2 : Nat → Nat → Int32} (h : gm2 42 = gm 42) : PHs gm2 = PHs gm := by unfold PHs; rw [h]
theorem PH_tr {gm gm1 gm2 : Nat → Nat → Int32} (h1 : PHs gm ≤ PHs gm1) (h2 : PHs gm1 ≤ PHs gm2) : PH gm gm1 + PH gm1 gm2 = PH gm gm2 := by unfold PH; omega
theorem sum_le {f : Nat → Nat} {b : Nat} : ∀ L : List Nat, (∀ q ∈ L, f q ≤ b) → (L.map f).sum ≤ b * L.length
  | [], _ => Nat.zero_le _
  | q :: L, h => by
    have h1 := h q List.mem_cons_self
    have h2 := sum_le L (fun x hx => h x (List.mem_cons_of_mem _ hx))
    rw [List.map_cons, List.sum_cons, List.length_cons, Nat.mul_add]
    omega
theorem PHs_le {sg : Nat → Int32} {gm : Nat → Nat → Int32} (hI : CI sg gm) : PHs gm ≤ 30480 := by
  unfold PHs
  refine Nat.le_trans (sum_le (b := 127) _ (fun q hq => ?_)) (by rw [List.length_range]; omega)
  have h1 := (show iv 0 127 (gm 42 q) from CI_n hI 42 (show q < crLen 42 from List.mem_range.mp hq))
  have h2 := iv_cl h1 (by decide)
  have h3 := h1.2
  omega
theorem PH_le {sg : Nat → Int32} {gm gm2 : Nat → Nat → Int32} (hI : CI sg gm2) : PH gm gm2 ≤ 30480 := Nat.le_trans (Nat.sub_le _ _) (PHs_le hI)
theorem gc_le {sg : Nat → Int32} {gm gm2 : Nat → Nat → Int32} {k j : Nat} (hI : CI sg gm2) : gc gm gm2 k + j ≤ 30480 + k + j := by have := PH_le (gm := gm) hI; unfold gc; omega
theorem gs_le {sg : Nat → Int32} {gm gm2 : Nat → Nat → Int32} {k j : Nat} (hI : CI sg gm2) : gs gm gm2 k + j ≤ 121920 + 6 * k + j := by have := PH_le (gm := gm) hI; unfold gs; omega
theorem gc_e {gm gm1 gm2 : Nat → Nat → Int32} {k k2 : Nat} (h : gm2 42 = gm1 42) (hk : k ≤ k2) : gc gm gm1 k ≤ gc gm gm2 k2 := by unfold gc PH; rw [PHs_e h]; omega
theorem gs_e {gm gm1 gm2 : Nat → Nat → Int32} {k k2 : Nat} (h : gm2 42 = gm1 42) (hk : k ≤ k2) : gs gm gm1 k ≤ gs gm gm2 k2 := by unfold gs PH; rw [PHs_e h]; omega
theorem gc_t {gm gm1 gm2 : Nat → Nat → Int32} {k k2 : Nat} (h1 : PHs gm ≤ PHs gm1) (h2 : PHs gm1 ≤ PHs gm2) : gc gm gm1 k + gc gm1 gm2 k2 = gc gm gm2 (k + k2) := by have := PH_tr h1 h2; unfold gc; omega
theorem gs_t {gm gm1 gm2 : Nat → Nat → Int32} {k k2 : Nat} (h1 : PHs gm ≤ PHs gm1) (h2 : PHs gm1 ≤ PHs gm2) : gs gm gm1 k + gs gm1 gm2 k2 = gs gm gm2 (k + k2) := by have := PH_tr h1 h2; unfold gs; omega
theorem vx_narrow {p : Program} {l : Launch} {e : Env} {R : Room} {s : State} {m : MethodId} {args : Array Value} {below : List Frame} {meth : Method} {c : Code} {H : Heap} {locs : List Loc} {cells slots : Nat} {Q : State → Prop} {g : JFrame} {q : Addr} {k n : Nat} (hb : NBw s.heap H k n) (kk : vx_W p l e R s m args below meth c H locs k n Q g q) : vx_W p l e R s m args below meth c H locs cells slots Q g q := by
  intro T hT X
  have e1 : (T.setVm s.vm).heap = H := hT
  exact kk T hT { X with same := NBw_same X.same (by rw [e1]; exact hb) }
abbrev CSg : Type := (Nat → Nat) × List Nat × (Nat → Int32) × (Nat → Nat → Int32) × (Nat → Nat → Int64)
abbrev CSg.w (ad : Nat → Nat → Nat) (cid : Nat → ClassId) (u : CSg) : va_W := cW ad cid u.1 u.2.1 u.2.2.1 u.2.2.2.1 u.2.2.2.2
section CMG
variable (dC : Nat → ClassId) (dI : Nat → Nat → Nat) (ad : Nat → Nat → Nat) (cid : Nat → ClassId)
def CBg (A : Nat → Prop) (u : CSg) (t : State) : Prop := va_P (dC, dI) vwCl (CSg.w ad cid u) t.heap ∧ va_K (dC, dI) vwCl (cT cid) t ∧ va_D A (CSg.w ad cid u)
def cQg (post : Option Value → CSg → Prop) (k : Nat) (gm : Nat → Nat → Int32) (A : Nat → Prop) : Array Value → State → Outcome → State → Prop := fun _ st oc t => (∃ (v : Option Value) (u : CSg), oc = .returned v ∧ post v u ∧ CBg dC dI ad cid A u t ∧ PHs gm ≤ PHs u.2.2.2.1 ∧ NBw st.heap t.heap (gc gm u.2.2.2.1 k) (gs gm u.2.2.2.1 k)) ∧ va_F A st t
def cXg (xpost : String → CSg → Prop) (k : Nat) (gm : Nat → Nat → Int32) (A : Nat → Prop) : String → State → State → Prop := fun E st t => (∃ u : CSg, xpost E u ∧ CBg dC dI ad cid A u t ∧ PHs gm ≤ PHs u.2.2.2.1 ∧ NBw st.heap t.heap (gc gm u.2.2.2.1 (k + 1)) (gs gm u.2.2.2.1 (k + 1))) ∧ va_F A st t
/-- a method of the class that may make the heap grow: by the room of its lists and k exceptions -/
def CMg (l : Launch) (y : MethodName) (ws : List Cond) (rm : Room) (as : List Value) (a2 : Nat → Nat) (lx : List Nat) (sg : Nat → Int32) (gm : Nat → Nat → Int32) (lg : Nat → Nat → Int64) (k mc ms : Nat) (post : Option Value → CSg → Prop) (xpost : String → CSg → Prop) : Prop :=
  ∀ sz, vx_Met l y ws rm (va_Pc as (CPre dC dI ad cid a2 lx sg gm lg sz)) (cQg dC dI ad cid post k gm (va_A (cW ad cid a2 lx sg gm lg) sz)) (cXg dC dI ad cid xpost k gm (va_A (cW ad cid a2 lx sg gm lg) sz)) mc ms (va_A (cW ad cid a2 lx sg gm lg) sz)
end CMG
section CMD
variable {p : Program} {l : Launch} {e : Env} {R : Room} {s : State} {m : MethodId} {args : Array Value} {below : List Frame} {meth : Method} {c : Code} {H : Heap} {locs : List Loc} {Q : State → Prop} {cc : ByteArray} {pc : Nat} {ls : Array Slot} {rest : List Value} {A : Nat → Prop}
variable {dC : Nat → ClassId} {dI : Nat → Nat → Nat} {ad : Nat → Nat → Nat} {cid : Nat → ClassId} {a2 : Nat → Nat} {lx : List Nat} {sg : Nat → Int32} {gm : Nat → Nat → Int32} {lg : Nat → Nat → Int64} {Ts : List Cond} {own : String} {index : Nat}
variable {y : MethodName} {ws : List Cond} {rm : Room} {bytes : ByteArray} {maxL n nL : Nat} {ret : Option FieldType} {as : List Value} {st0 : List Value} {cells slots k mc ms : Nat}
theorem cm_goT {post : Option Value → CSt → Prop} {xpost : String → CSt → Prop} {a : Array Value} (hr : vx_Run p l e R s m args below meth c H locs cells slots 1 6 (F0 m pc ls st0) rest (cQx dC dI ad cid a2 lx post (va_A (cW ad cid a2 lx sg gm lg) H.size) a) (cX dC dI ad cid a2 lx xpost (va_A (cW ad cid a2 lx sg gm lg) H.size)) (va_A (cW ad cid a2 lx sg gm lg) H.size)) (hD : va_D A (cW ad cid a2 lx sg gm lg)) (hS : va_S A s.heap H locs) (hA : ∀ q, s.heap.size ≤ q → A q)
    (kx : ∀ (E : String) (ce : Cell) (q9 : Addr) (u : CSt) (H1 : Heap) (locs1 : List Loc), xpost E u → va_P (dC, dI) vwCl (cW ad cid a2 lx u.1 u.2.1 u.2.2) H1 → va_D A (cW ad cid a2 lx u.1 u.2.1 u.2.2) → va_S A s.heap H1 locs1 → H1[q9]? = some ce → ce.vm = .none → s.vm.findClass E = some ce.cls → vx_W p l e R s m args below meth c H1 locs1 (cells + 1) (slots + 6) Q (F0 m pc ls rest) q9)
    (kk : ∀ (v : Option Value) (u : CSt) (H1 : Heap) (locs1 : List Loc), post v u → va_P (dC, dI) vwCl (cW ad cid a2 lx u.1 u.2.1 u.2.2) H1 → va_D A (cW ad cid a2 lx u.1 u.2.1 u.2.2) → va_S A s.heap H1 locs1 → W p l e R s m args below meth c H1 locs1 cells slots Q (F0 m (pc + 3) ls (v.toList ++ rest))) : W p l e R s m args below meth c H locs cells slots Q (F0 m pc ls st0) := by
  have hFc := cfree hD hS hA
  refine W.nb (fun hN => ?_)
  intro T hT X
  rcases hr T hT X with ⟨v, st₀, t, T', L, h0, X', hL, e1, e2, ⟨⟨v2, u, hv, hp, hb⟩, hF, hN1⟩, st⟩ | ⟨q, st₀, t, T', L, E, ce, h0, X', hL, e1, e2, ⟨⟨u, hp, hb⟩, hF⟩, hce, hcv, hcl, st⟩
  · cases hv
    obtain ⟨k1, k2, k3⟩ := vx_keep h0 e1 hS (fun q _ h => hFc q h) hFc hL hF
    obtain ⟨b1, b2, b3⟩ := hb
    rw [h0, ← e1] at hN1
    obtain ⟨t2, a1, c1⟩ := W.narrow (NBw_tr hN hN1) (kk v u T'.heap (locs ++ L) hp (by rw [e1]; exact b1) (b3.weaken (fun _ _ _ h => hFc _ h)) k3) T' rfl X'
    exact ⟨t2, st t2 a1, c1⟩
  · obtain ⟨k1, k2, k3⟩ := vx_keep h0 e1 hS (fun q _ h => hFc q h) hFc hL hF
    obtain ⟨b1, b2, b3⟩ := hb
    obtain ⟨t2, a1, c1⟩ := kx E ce q u T'.heap (locs ++ L) hp (by rw [e1]; exact b1) (b3.weaken (fun _ _ _ h => hFc _ h)) k3 (by rw [e1]; exact hce) hcv hcl T' rfl X'
    exact ⟨t2, st.trans a1, c1⟩
theorem cm_goG {post : Option Value → CSg → Prop} {xpost : String → CSg → Prop} {a : Array Value} (hr : vx_Run p l e R s m args below meth c H locs cells slots mc ms (F0 m pc ls st0) rest (cQg dC dI ad cid post k gm (va_A (cW ad cid a2 lx sg gm lg) H.size) a) (cXg dC dI ad cid xpost k gm (va_A (cW ad cid a2 lx sg gm lg) H.size)) (va_A (cW ad cid a2 lx sg gm lg) H.size)) (hD : va_D A (cW ad cid a2 lx sg gm lg)) (hS : va_S A s.heap H locs) (hA : ∀ q, s.heap.size ≤ q → A q)
    (kx : ∀ (E : String) (ce : Cell) (q9 : Addr) (u : CSg) (H1 : Heap) (locs1 : List Loc), xpost E u → PHs gm ≤ PHs u.2.2.2.1 → va_P (dC, dI) vwCl (CSg.w ad cid u) H1 → va_D A (CSg.w ad cid u) → va_S A s.heap H1 locs1 → H1[q9]? = some ce → ce.vm = .none → s.vm.findClass E = some ce.cls → vx_W p l e R s m args below meth c H1 locs1 (cells + gc gm u.2.2.2.1 (k + 1)) (slots + gs gm u.2.2.2.1 (k + 1)) Q (F0 m pc ls rest) q9)
    (kk : ∀ (v : Option Value) (u : CSg) (H1 : Heap) (locs1 : List Loc), post v u → PHs gm ≤ PHs u.2.2.2.1 → va_P (dC, dI) vwCl (CSg.w ad cid u) H1 → va_D A (CSg.w ad cid u) → va_S A s.heap H1 locs1 → W p l e R s m args below meth c H1 locs1 (cells + gc gm u.2.2.2.1 k) (slots + gs gm u.2.2.2.1 k) Q (F0 m (pc + 3) ls (v.toList ++ rest))) : W p l e R s m args below meth c H locs cells slots Q (F0 m pc ls st0) := by
  have hFc := cfree hD hS hA
  refine W.nb (fun hN => ?_)
  intro T hT X
  rcases hr T hT X with ⟨v, st₀, t, T', L, h0, X', hL, e1, e2, ⟨⟨v2, u, hv, hp, hb, hm, hN1⟩, hF⟩, st⟩ | ⟨q, st₀, t, T', L, E, ce, h0, X', hL, e1, e2, ⟨⟨u, hp, hb, hm, hN1⟩, hF⟩, hce, hcv, hcl, st⟩
  · cases hv
    obtain ⟨k1, k2, k3⟩ := vx_keep h0 e1 hS (fun q _ h => hFc q h) hFc hL hF
    obtain ⟨b1, b2, b3⟩ := hb
    rw [h0, ← e1] at hN1
    obtain ⟨t2, a1, c1⟩ := W.narrow (NBw_tr hN hN1) (kk v u T'.heap (locs ++ L) hp hm (by rw [e1]; exact b1) (b3.weaken (fun _ _ _ h => hFc _ h)) k3) T' rfl X'
    exact ⟨t2, st t2 a1, c1⟩
  · obtain ⟨k1, k2, k3⟩ := vx_keep h0 e1 hS (fun q _ h => hFc q h) hFc hL hF
    obtain ⟨b1, b2, b3⟩ := hb
    rw [h0, ← e1] at hN1
    obtain ⟨t2, a1, c1⟩ := vx_narrow (NBw_tr hN hN1) (kx E ce q u T'.heap (locs ++ L) hp hm (by rw [e1]; exact b1) (b3.weaken (fun _ _ _ h => hFc _ h)) k3 (by rw [e1]; exact hce) hcv hcl) T' rfl X'
    exact ⟨t2, st.trans a1, c1⟩
theorem cm_callTV {post : Option Value → CSt → Prop} {xpost : String → CSt → Prop} {t : Nat} {h : Int} {x : Int32} {C : String} {T : u_T} {N : Nat} (S : CallFix p m c cc nL s args Ts own) (hM : CMt dC dI ad cid a2 lx l y ws rm (eV (ad t) x :: as) sg gm lg post xpost) (cw : CallW R s args own C index y bytes maxL ret ws rm 1 6 n) (hx : iv 0 h x) (hnt : h < (cNum t : Int)) (ht : t < 12) (hc : vwCl[cIx t]? = some (C, T, N)) (hn : as.length = n) (hsize : ls.size = nL) (hst : st0 = as.reverse ++ eV (ad t) x :: rest) (hW : (rest.map fun v => v.category).sum ≤ 8) (hdg : decode cc pc = .ok (.invokevirtual index, 3)) (hf : cells + 1 ≤ R.cells ∧ slots + 6 ≤ R.slots)
    (hK : va_K (dC, dI) vwCl (cT cid) s) (hP : va_P (dC, dI) vwCl (cW ad cid a2 lx sg gm lg) H) (hD : va_D A (cW ad cid a2 lx sg gm lg)) (hS : va_S A s.heap H locs) (hA : ∀ q, s.heap.size ≤ q → A q) (hG : CE ad A s)
    (kx : ∀ (E : String) (ce : Cell) (q9 : Addr) (u : CSt) (H1 : Heap) (locs1 : List Loc), xpost E u → va_P (dC, dI) vwCl (cW ad cid a2 lx u.1 u.2.1 u.2.2) H1 → va_D A (cW ad cid a2 lx u.1 u.2.1 u.2.2) → va_S A s.heap H1 locs1 → H1[q9]? = some ce → ce.vm = .none → s.vm.findClass E = some ce.cls → vx_W p l e R s m args below meth c H1 locs1 (cells + 1) (slots + 6) Q (F0 m pc ls rest) q9)
    (kk : ∀ (v : Option Value) (u : CSt) (H1 : Heap) (locs1 : List Loc), post v u → va_P (dC, dI) vwCl (cW ad cid a2 lx u.1 u.2.1 u.2.2) H1 → va_D A (cW ad cid a2 lx u.1 u.2.1 u.2.2) → va_S A s.heap H1 locs1 → W p l e R s m args below meth c H1 locs1 cells slots Q (F0 m (pc + 3) ls (v.toList ++ rest))) : W p l e R s m args below meth c H locs cells slots Q (F0 m pc ls st0) := by
  subst hst
  have hFc := cfree hD hS hA
  have hM9 := hM H.size
  rw [eV_ref hx.1] at hM9 ⊢
  exact cm_goT (vx_runV (cells := cells) (slots := slots) (As := as) (rest := rest) S hM9 cw ⟨CPre_blind, cm_recv hK hP hx hnt ht hc, fun U hU hW => ⟨rfl, by rw [hU], by rw [hU]; exact hP, va_K.moved hW.alike hK, hD.weaken (fun _ _ _ _ => trivial), hG.go hS hFc hU hW⟩⟩ rfl hn hsize rfl (lv_room hW) hdg hf) hD hS hA kx kk
theorem cm_callTS {post : Option Value → CSt → Prop} {xpost : String → CSt → Prop} (S : CallFix p m c cc nL s args Ts own) (hM : CMt dC dI ad cid a2 lx l y ws rm as sg gm lg post xpost) (cw : CallB R s args own index y bytes maxL ret ws rm 1 6 n ∧ (Cond.static y).before args s = true) (hn : as.length = n) (hsize : ls.size = nL) (hst : st0 = as.reverse ++ rest) (hW : (rest.map fun v => v.category).sum ≤ 8) (hdg : decode cc pc = .ok (.invokestatic index, 3)) (hf : cells + 1 ≤ R.cells ∧ slots + 6 ≤ R.slots)
    (hK : va_K (dC, dI) vwCl (cT cid) s) (hP : va_P (dC, dI) vwCl (cW ad cid a2 lx sg gm lg) H) (hD : va_D A (cW ad cid a2 lx sg gm lg)) (hS : va_S A s.heap H locs) (hA : ∀ q, s.heap.size ≤ q → A q) (hG : CE ad A s)
    (kx : ∀ (E : String) (ce : Cell) (q9 : Addr) (u : CSt) (H1 : Heap) (locs1 : List Loc), xpost E u → va_P (dC, dI) vwCl (cW ad cid a2 lx u.1 u.2.1 u.2.2) H1 → va_D A (cW ad cid a2 lx u.1 u.2.1 u.2.2) → va_S A s.heap H1 locs1 → H1[q9]? = some ce → ce.vm = .none → s.vm.findClass E = some ce.cls → vx_W p l e R s m args below meth c H1 locs1 (cells + 1) (slots + 6) Q (F0 m pc ls rest) q9)
    (kk : ∀ (v : Option Value) (u : CSt) (H1 : Heap) (locs1 : List Loc), post v u → va_P (dC, dI) vwCl (cW ad cid a2 lx u.1 u.2.1 u.2.2) H1 → va_D A (cW ad cid a2 lx u.1 u.2.1 u.2.2) → va_S A s.heap H1 locs1 → W p l e R s m args below meth c H1 locs1 cells slots Q (F0 m (pc + 3) ls (v.toList ++ rest))) : W p l e R s m args below meth c H locs cells slots Q (F0 m pc ls st0) := by
  subst hst
  have hFc := cfree hD hS hA
  exact cm_goT (vx_runS (cells := cells) (slots := slots) (As := as) (rest := rest) S (hM H.size) cw ⟨CPre_blind, fun U hU hW => ⟨rfl, by rw [hU], by rw [hU]; exact hP, va_K.moved hW.alike hK, hD.weaken (fun _ _ _ _ => trivial), hG.go hS hFc hU hW⟩⟩ rfl hn hsize rfl (lv_room hW) hdg hf) hD hS hA kx kk
theorem cm_callGV {post : Option Value → CSg → Prop} {xpost : String → CSg → Prop} {t : Nat} {h : Int} {x : Int32} {C : String} {T : u_T} {N : Nat} (S : CallFix p m c cc nL s args Ts own) (hM : CMg dC dI ad cid l y ws rm (eV (ad t) x :: as) a2 lx sg gm lg k mc ms post xpost) (cw : CallW R s args own C index y bytes maxL ret ws rm mc ms n) (hx : iv 0 h x) (hnt : h < (cNum t : Int)) (ht : t < 12) (hc : vwCl[cIx t]? = some (C, T, N)) (hn : as.length = n) (hsize : ls.size = nL) (hst : st0 = as.reverse ++ eV (ad t) x :: rest) (hW : (rest.map fun v => v.category).sum ≤ 8) (hdg : decode cc pc = .ok (.invokevirtual index, 3)) (hf : cells + mc ≤ R.cells ∧ slots + ms ≤ R.slots)
    (hK : va_K (dC, dI) vwCl (cT cid) s) (hP : va_P (dC, dI) vwCl (cW ad cid a2 lx sg gm lg) H) (hD : va_D A (cW ad cid a2 lx sg gm lg)) (hS : va_S A s.heap H locs) (hA : ∀ q, s.heap.size ≤ q → A q) (hG : CE ad A s)
    (kx : ∀ (E : String) (ce : Cell) (q9 : Addr) (u : CSg) (H1 : Heap) (locs1 : List Loc), xpost E u → PHs gm ≤ PHs u.2.2.2.1 → va_P (dC, dI) vwCl (CSg.w ad cid u) H1 → va_D A (CSg.w ad cid u) → va_S A s.heap H1 locs1 → H1[q9]? = some ce → ce.vm = .none → s.vm.findClass E = some ce.cls → vx_W p l e R s m args below meth c H1 locs1 (cells + gc gm u.2.2.2.1 (k + 1)) (slots + gs gm u.2.2.2.1 (k + 1)) Q (F0 m pc ls rest) q9)
    (kk : ∀ (v : Option Value) (u : CSg) (H1 : Heap) (locs1 : List Loc), post v u → PHs gm ≤ PHs u.2.2.2.1 → va_P (dC, dI) vwCl (CSg.w ad cid u) H1 → va_D A (CSg.w ad cid u) → va_S A s.heap H1 locs1 → W p l e R s m args below meth c H1 locs1 (cells + gc gm u.2.2.2.1 k) (slots + gs gm u.2.2.2.1 k) Q (F0 m (pc + 3) ls (v.toList ++ rest))) : W p l e R s m args below meth c H locs cells slots Q (F0 m pc ls st0) := by
  subst hst
  have hFc := cfree hD hS hA
  have hM9 := hM H.size
  rw [eV_ref hx.1] at hM9 ⊢
  exact cm_goG (vx_runV (cells := cells) (slots := slots) (As := as) (rest := rest) S hM9 cw ⟨CPre_blind, cm_recv hK hP hx hnt ht hc, fun U hU hW => ⟨rfl, by rw [hU], by rw [hU]; exact hP, va_K.moved hW.alike hK, hD.weaken (fun _ _ _ _ => trivial), hG.go hS hFc hU hW⟩⟩ rfl hn hsize rfl (lv_room hW) hdg hf) hD hS hA kx kk
theorem cm_callGVX {post : Option Value → CSg → Prop} {xpost : String → CSg → Prop} {t : Nat} {h : Int} {x : Int32} {C : String} {T : u_T} {N : Nat} {hh : List (Nat × Nat × Nat × Nat)} (S : CallFix p m c cc nL s args Ts own) (hM : CMg dC dI ad cid l y ws rm (eV (ad t) x :: as) a2 lx sg gm lg k mc ms post xpost) (cw : vx_CVW R s args own C index y bytes maxL ret hh ws rm mc ms n) (hx : iv 0 h x) (hnt : h < (cNum t : Int)) (ht : t < 12) (hc : vwCl[cIx t]? = some (C, T, N)) (hn : as.length = n) (hsize : ls.size = nL) (hst : st0 = as.reverse ++ eV (ad t) x :: rest) (hW : (rest.map fun v => v.category).sum ≤ 8) (hdg : decode cc pc = .ok (.invokevirtual index, 3)) (hf : cells + mc ≤ R.cells ∧ slots + ms ≤ R.slots)
    (hK : va_K (dC, dI) vwCl (cT cid) s) (hP : va_P (dC, dI) vwCl (cW ad cid a2 lx sg gm lg) H) (hD : va_D A (cW ad cid a2 lx sg gm lg)) (hS : va_S A s.heap H locs) (hA : ∀ q, s.heap.size ≤ q → A q) (hG : CE ad A s)
    (kx : ∀ (E : String) (ce : Cell) (q9 : Addr) (u : CSg) (H1 : Heap) (locs1 : List Loc), xpost E u → PHs gm ≤ PHs u.2.2.2.1 → va_P (dC, dI) vwCl (CSg.w ad cid u) H1 → va_D A (CSg.w ad cid u) → va_S A s.heap H1 locs1 → H1[q9]? = some ce → ce.vm = .none → s.vm.findClass E = some ce.cls → vx_W p l e R s m args below meth c H1 locs1 (cells + gc gm u.2.2.2.1 (k + 1)) (slots + gs gm u.2.2.2.1 (k + 1)) Q (F0 m pc ls rest) q9)
    (kk : ∀ (v : Option Value) (u : CSg) (H1 : Heap) (locs1 : List Loc), post v u → PHs gm ≤ PHs u.2.2.2.1 → va_P (dC, dI) vwCl (CSg.w ad cid u) H1 → va_D A (CSg.w ad cid u) → va_S A s.heap H1 locs1 → W p l e R s m args below meth c H1 locs1 (cells + gc gm u.2.2.2.1 k) (slots + gs gm u.2.2.2.1 k) Q (F0 m (pc + 3) ls (v.toList ++ rest))) : W p l e R s m args below meth c H locs cells slots Q (F0 m pc ls st0) := by
  subst hst
  have hFc := cfree hD hS hA
  have hM9 := hM H.size
  rw [eV_ref hx.1] at hM9 ⊢
  exact cm_goG (vx_runVX (cells := cells) (slots := slots) (As := as) (rest := rest) S hM9 cw ⟨CPre_blind, cm_recv hK hP hx hnt ht hc, fun U hU hW => ⟨rfl, by rw [hU], by rw [hU]; exact hP, va_K.moved hW.alike hK, hD.weaken (fun _ _ _ _ => trivial), hG.go hS hFc hU hW⟩⟩ rfl hn hsize rfl (lv_room hW) hdg hf) hD hS hA kx kk
theorem cm_callGS {post : Option Value → CSg → Prop} {xpost : String → CSg → Prop} (S : CallFix p m c cc nL s args Ts own) (hM : CMg dC dI ad cid l y ws rm as a2 lx sg gm lg k mc ms post xpost) (cw : CallB R s args own index y bytes maxL ret ws rm mc ms n ∧ (Cond.static y).before args s = true) (hn : as.length = n) (hsize : ls.size = nL) (hst : st0 = as.reverse ++ rest) (hW : (rest.map fun v => v.category).sum ≤ 8) (hdg : decode cc pc = .ok (.invokestatic index, 3)) (hf : cells + mc ≤ R.cells ∧ slots + ms ≤ R.slots)
    (hK : va_K (dC, dI) vwCl (cT cid) s) (hP : va_P (dC, dI) vwCl (cW ad cid a2 lx sg gm lg) H) (hD : va_D A (cW ad cid a2 lx sg gm lg)) (hS : va_S A s.heap H locs) (hA : ∀ q, s.heap.size ≤ q → A q) (hG : CE ad A s)
    (kx : ∀ (E : String) (ce : Cell) (q9 : Addr) (u : CSg) (H1 : Heap) (locs1 : List Loc), xpost E u → PHs gm ≤ PHs u.2.2.2.1 → va_P (dC, dI) vwCl (CSg.w ad cid u) H1 → va_D A (CSg.w ad cid u) → va_S A s.heap H1 locs1 → H1[q9]? = some ce → ce.vm = .none → s.vm.findClass E = some ce.cls → vx_W p l e R s m args below meth c H1 locs1 (cells + gc gm u.2.2.2.1 (k + 1)) (slots + gs gm u.2.2.2.1 (k + 1)) Q (F0 m pc ls rest) q9)
    (kk : ∀ (v : Option Value) (u : CSg) (H1 : Heap) (locs1 : List Loc), post v u → PHs gm ≤ PHs u.2.2.2.1 → va_P (dC, dI) vwCl (CSg.w ad cid u) H1 → va_D A (CSg.w ad cid u) → va_S A s.heap H1 locs1 → W p l e R s m args below meth c H1 locs1 (cells + gc gm u.2.2.2.1 k) (slots + gs gm u.2.2.2.1 k) Q (F0 m (pc + 3) ls (v.toList ++ rest))) : W p l e R s m args below meth c H locs cells slots Q (F0 m pc ls st0) := by
  subst hst
  have hFc := cfree hD hS hA
  exact cm_goG (vx_runS (cells := cells) (slots := slots) (As := as) (rest := rest) S (hM H.size) cw ⟨CPre_blind, fun U hU hW => ⟨rfl, by rw [hU], by rw [hU]; exact hP, va_K.moved hW.alike hK, hD.weaken (fun _ _ _ _ => trivial), hG.go hS hFc hU hW⟩⟩ rfl hn hsize rfl (lv_room hW) hdg hf) hD hS hA kx kk
end CMD
end
section
theorem dJx4a65c_size_8abf5_0g : decode cJx4a65c_size_8abf5 0 = .ok (.aload_n 0, 1) ∧ decode cJx4a65c_size_8abf5 1 = .ok (.getfield 48, 3) ∧ decode cJx4a65c_size_8abf5 4 = .ok (.ireturn, 1) := by decide +kernel
theorem dJx4a65c_size_8abf5_0 : decode cJx4a65c_size_8abf5 0 = .ok (.aload_n 0, 1) := dJx4a65c_size_8abf5_0g.1
theorem dJx4a65c_size_8abf5_1 : decode cJx4a65c_size_8abf5 1 = .ok (.getfield 48, 3) := dJx4a65c_size_8abf5_0g.2.1
theorem dJx4a65c_size_8abf5_4 : decode cJx4a65c_size_8abf5 4 = .ok (.ireturn, 1) := dJx4a65c_size_8abf5_0g.2.2

/-- every bean has its element -/
def BEL9 (sg : Nat → Int32) (gm : Nat → Nat → Int32) : Prop := ∀ b, b < (sg 12).toNatClampNeg → 0 ≤ (gm 29 b).toInt

set_option maxHeartbeats 4000000 in
set_option maxRecDepth 100000 in
theorem d_isClass2 (l : Launch) (dC : Nat → ClassId) (dI : Nat → Nat → Nat) (ad : Nat → Nat → Nat) (cid : Nat → ClassId) (a2 : Nat → Nat) (lx : List Nat) (sg : Nat → Int32) (gm : Nat → Nat → Int32) (lg : Nat → Nat → Int64) (a : Int32) (hI : CI sg gm) : CMt dC dI ad cid a2 lx l yX12_isClass wm_X12_isClass ({ frames := 0, cells := 1, slots := 6, locals := 0 }) [.int a] sg gm lg (fun v u => ∃ r : Int32, v = some (.int r) ∧ u = (sg, gm, lg) ∧ (iv 0 1 r) ∧ (r.toInt = 0 ∧ (a.toInt < 0 ∨ 7 < a.toInt) ∨ r.toInt = 1 ∧ 0 ≤ a.toInt ∧ a.toInt ≤ 7)) (fun _ _ => False) := by
  intro sz
  refine vx_ofW (cc := cX12_isClass) (maxL := 1) (ret := (some .boolean)) (by decide) rfl ?_
  intro p e s m args below meth c s₁ B hml hxt hv
  obtain ⟨rfl, hsz, hP, hK, hD0, hG⟩ := hv
  have hx := B.exec
  have hb := B.bytes
  have hr := B.returns
  have hts := atoms_spec (ws := wm_X12_isClass) B.pre
  have htb := fun (w : Cond) (h : w ∈ tb) => hts w (List.mem_cons_of_mem _ h)
  have hown : s.vm.findClass RX12 = some m.cls := findClass_of_methodNamed B.named
  have hlocks := B.notSynchronized
  subst hsz
  have hD := hD0.self (sz := s.heap.size)
  generalize hAe : va_A (cW ad cid a2 lx sg gm lg) s.heap.size = A at hD hG ⊢
  have hA : ∀ q : Nat, s.heap.size ≤ q → A q := fun q h => by rw [← hAe]; exact Or.inr h
  have hS : va_S A s.heap s.heap [] := va_S.rf
  have hl := lv_entry ([.int a]) (n := 1) (Nat.le_of_ble_eq_true rfl)
  rw [lg_entry_eq]
  generalize (lg_sl ([.int a]) ++ List.replicate (1 - (lg_sl ([.int a])).length) Slot.unset).toArray = ls at hl ⊢
  have hl : lv_has ls 1 [(0, .int a)] := hl
  have hj15 : ∀ (y0_15 : Int32) (_ : iv 0 1 y0_15) (_ : y0_15.toInt = 0 ∧ (a.toInt < 0 ∨ 7 < a.toInt) ∨ y0_15.toInt = 1 ∧ 0 ≤ a.toInt ∧ a.toInt ≤ 7) (H : Heap) (locs : List Loc) (ls : Array Slot), va_P (dC, dI) vwCl (cW ad cid a2 lx sg gm lg) H → va_D A (cW ad cid a2 lx sg gm lg) → va_S A s.heap H locs → lv_has ls 1 [(0, .int a)] → W p l e (headSpec wm_X12_isClass ({ frames := 0, cells := 1, slots := 6, locals := 0 })).room s m ([.int a] : List Value).toArray below meth c H locs 0 0 (vx_MQ below (cQx dC dI ad cid a2 lx (fun v u => ∃ r : Int32, v = some (.int r) ∧ u = (sg, gm, lg) ∧ (iv 0 1 r) ∧ (r.toInt = 0 ∧ (a.toInt < 0 ∨ 7 < a.toInt) ∨ r.toInt = 1 ∧ 0 ≤ a.toInt ∧ a.toInt ≤ 7)) A) (cX dC dI ad cid a2 lx (fun _ _ => False) A) ([.int a] : List Value).toArray s 1 6 A) (F0 m 15 ls [.int y0_15]) := by
    intro y0_15 hy0_15 hc H locs ls hP hD hS hl
    exact W.nb (fun hN => W.widen (k := 1) (n := 6) (by decide) (by decide) (vx_ret (W.zret (v := y0_15) hx hb hr (iv_nb hy0_15) (fun t ht hW => ⟨⟨some (.int y0_15), (sg, gm, lg), rfl, ⟨y0_15, rfl, rfl, hy0_15, (hc)⟩, by rw [ht]; exact hP, va_K.moved hW.alike hK, hD⟩, hS.F ht, by rw [ht]; exact hN⟩) hS.2.2 dX12_isClass_15)))
  have hj14 : ∀ (_ : a.toInt < 0 ∨ 7 < a.toInt) (H : Heap) (locs : List Loc) (ls : Array Slot), va_P (dC, dI) vwCl (cW ad cid a2 lx sg gm lg) H → va_D A (cW ad cid a2 lx sg gm lg) → va_S A s.heap H locs → lv_has ls 1 [(0, .int a)] → W p l e (headSpec wm_X12_isClass ({ frames := 0, cells := 1, slots := 6, locals := 0 })).room s m ([.int a] : List Value).toArray below meth c H locs 0 0 (vx_MQ below (cQx dC dI ad cid a2 lx (fun v u => ∃ r : Int32, v = some (.int r) ∧ u = (sg, gm, lg) ∧ (iv 0 1 r) ∧ (r.toInt = 0 ∧ (a.toInt < 0 ∨ 7 < a.toInt) ∨ r.toInt = 1 ∧ 0 ≤ a.toInt ∧ a.toInt ≤ 7)) A) (cX dC dI ad cid a2 lx (fun _ _ => False) A) ([.int a] : List Value).toArray s 1 6 A) (F0 m 14 ls []) := by
    intro  hnn H locs ls hP hD hS hl
    refine lv_iconst (v := 0) hx hb dX12_isClass_14 (by decide) ?_
    exact hj15 0 (iv_w (iv_k (by decide) : iv 0 0 0) (by decide)) (Or.inl ⟨rfl, hnn⟩) _ _ _ hP hD hS (lv_sub hl [0] rfl)
  refine lv_iload_n hx hb dX12_isClass_0 rfl (lv_at hl 0 rfl) ?_
  refine lv_if_lt (tgt := 14) hx hb dX12_isClass_1 (by decide) (fun c_1 => ?_) (fun c_1 => ?_)
  · have h_2 : iv (-2147483648) (-1) a := iv_ltL c_1 (iv_all a) (iv_k (by decide) : iv 0 0 0) (by decide)
    exact hj14 (by have := i32_0; have := i32_1; have := i32_2; have := i32_m1; have := (h_2).1; have := (h_2).2; omega) _ _ _ hP hD hS (lv_sub hl [0] rfl)
  · have h_3 : iv 0 2147483647 a := iv_leR (i32_ge c_1) (iv_k (by decide) : iv 0 0 0) (iv_all a) (by decide)
    refine lv_iload_n hx hb dX12_isClass_4 rfl (lv_at hl 0 rfl) ?_
    refine lv_bipush (v := 8) hx hb dX12_isClass_5 (by decide) ?_
    refine lv_icmp_ge (tgt := 14) hx hb dX12_isClass_7 (by decide) (fun c_4 => ?_) (fun c_4 => ?_)
    · have h_5 : iv 8 2147483647 a := iv_leR c_4 (iv_k (by decide) : iv 8 8 8) h_3 (by decide)
      exact hj14 (by have := i32_0; have := i32_1; have := i32_2; have := i32_m1; have := (h_5).1; have := (h_5).2; omega) _ _ _ hP hD hS (lv_sub hl [0] rfl)
    · have h_6 : iv 0 7 a := iv_ltL (i32_lt c_4) h_3 (iv_k (by decide) : iv 8 8 8) (by decide)
      refine lv_iconst (v := 1) hx hb dX12_isClass_10 (by decide) ?_
      refine lv_goto (tgt := 15) hx hb dX12_isClass_11 (by decide) ?_
      exact hj15 1 (iv_w (iv_k (by decide) : iv 1 1 1) (by decide)) (Or.inr ⟨rfl, by have := i32_0; have := i32_1; have := i32_2; have := i32_m1; have := (h_6).1; have := (h_6).2; omega, by have := i32_0; have := i32_1; have := i32_2; have := i32_m1; have := (h_6).1; have := (h_6).2; omega⟩) _ _ _ hP hD hS (lv_sub hl [0] rfl)

set_option maxHeartbeats 4000000 in
set_option maxRecDepth 100000 in
theorem d_fault (l : Launch) (dC : Nat → ClassId) (dI : Nat → Nat → Nat) (ad : Nat → Nat → Nat) (cid : Nat → ClassId) (a2 : Nat → Nat) (lx : List Nat) (sg : Nat → Int32) (gm : Nat → Nat → Int32) (lg : Nat → Nat → Int64) (x : Int32) (wh : Int32) (hI : CI sg gm) (hvx : iv 0 0 x) : CMt dC dI ad cid a2 lx l yX12_fault wm_X12_fault ({ frames := 1, cells := 1, slots := 6, locals := 20 }) [eV (ad 0) x, .int wh] sg gm lg (fun v u => ∃ r : Int32, v = some (.int r) ∧ u = (sg, gm, lg) ∧ (iv (-1) 1201 r)) (fun _ _ => False) := by
  intro sz
  refine vx_ofW (cc := cX12_fault) (maxL := 2) (ret := (some .int)) (by decide) rfl ?_
  intro p e s m args below meth c s₁ B hml hxt hv
  obtain ⟨rfl, hsz, hP, hK, hD0, hG⟩ := hv
  have hx := B.exec
  have hb := B.bytes
  have hr := B.returns
  have hts := atoms_spec (ws := wm_X12_fault) B.pre
  have htb := fun (w : Cond) (h : w ∈ tb) => hts w (List.mem_cons_of_mem _ h)
  have hown : s.vm.findClass RX12 = some m.cls := findClass_of_methodNamed B.named
  have hlocks := B.notSynchronized
  subst hsz
  have hD := hD0.self (sz := s.heap.size)
  generalize hAe : va_A (cW ad cid a2 lx sg gm lg) s.heap.size = A at hD hG ⊢
  have hA : ∀ q : Nat, s.heap.size ≤ q → A q := fun q h => by rw [← hAe]; exact Or.inr h
  have hS : va_S A s.heap s.heap [] := va_S.rf
  have hl := lv_entry ([eV (ad 0) x, .int wh]) (n := 2) (by rw [show (lg_sl ([eV (ad 0) x, .int wh])).length = 2 from by simp [lg_sl, eV_cat, cat_i, cat_l]]; exact Nat.le_of_ble_eq_true rfl)
  rw [lg_entry_eq]
  generalize (lg_sl ([eV (ad 0) x, .int wh]) ++ List.replicate (2 - (lg_sl ([eV (ad 0) x, .int wh])).length) Slot.unset).toArray = ls at hl ⊢
  have hl : lv_has ls 2 [(0, eV (ad 0) x), (1, .int wh)] := by simp [lv_args, eV_cat, cat_i, cat_l] at hl; exact hl
  refine lv_iload_n hx hb dX12_fault_0 rfl (lv_at hl 1 rfl) ?_
  by_cases c_1 : (wh : Int32).toInt = 0
  · refine lv_tableIn (tgt := 32) hx hb dX12_fault_1 (by rw [c_1]; decide) (by rw [c_1]; decide) (by rw [c_1]; rfl) (by decide) ?_
    have h_2 : iv 0 0 wh := iv_at c_1
    refine ec_aload_n hx hb dX12_fault_32 rfl (lv_at hl 0 rfl) ?_
    refine cr_get (t := 0) (j := 10) (C := RX12) (T := TX12) (N := 12) (v := .int (sg 2)) hx hb htb inX12 hown hK hP hvx (by decide) (by decide) (by decide) rfl (by decide) (htb _ kw_427) rfl dX12_fault_33 ?_
    exact W.nb (fun hN => W.widen (k := 1) (n := 6) (by decide) (by decide) (vx_ret (W.iret (v := (sg 2)) hx hb hr (fun t ht hW => ⟨⟨some (.int (sg 2)), (sg, gm, lg), rfl, ⟨(sg 2), rfl, rfl, (iv_w (show iv 0 3 (sg 2) from CI_s hI 2) (by decide))⟩, by rw [ht]; exact hP, va_K.moved hW.alike hK, hD⟩, hS.F ht, by rw [ht]; exact hN⟩) hS.2.2 dX12_fault_36)))
  by_cases c_3 : (wh : Int32).toInt = 1
  · refine lv_tableIn (tgt := 37) hx hb dX12_fault_1 (by rw [c_3]; decide) (by rw [c_3]; decide) (by rw [c_3]; rfl) (by decide) ?_
    have h_4 : iv 1 1 wh := iv_at c_3
    refine ec_aload_n hx hb dX12_fault_37 rfl (lv_at hl 0 rfl) ?_
    refine cr_get (t := 0) (j := 11) (C := RX12) (T := TX12) (N := 12) (v := .int (sg 3)) hx hb htb inX12 hown hK hP hvx (by decide) (by decide) (by decide) rfl (by decide) (htb _ kw_428) rfl dX12_fault_38 ?_
    exact W.nb (fun hN => W.widen (k := 1) (n := 6) (by decide) (by decide) (vx_ret (W.iret (v := (sg 3)) hx hb hr (fun t ht hW => ⟨⟨some (.int (sg 3)), (sg, gm, lg), rfl, ⟨(sg 3), rfl, rfl, (show iv (-1) 1201 (sg 3) from CI_s hI 3)⟩, by rw [ht]; exact hP, va_K.moved hW.alike hK, hD⟩, hS.F ht, by rw [ht]; exact hN⟩) hS.2.2 dX12_fault_41)))
  by_cases c_5 : (wh : Int32).toInt = 2
  · refine lv_tableIn (tgt := 42) hx hb dX12_fault_1 (by rw [c_5]; decide) (by rw [c_5]; decide) (by rw [c_5]; rfl) (by decide) ?_
    have h_6 : iv 2 2 wh := iv_at c_5
    refine ec_aload_n hx hb dX12_fault_42 rfl (lv_at hl 0 rfl) ?_
    refine cr_get (t := 0) (j := 7) (C := RX12) (T := TX12) (N := 12) (v := eV (ad 6) 0) hx hb htb inX12 hown hK hP hvx (by decide) (by decide) (by decide) rfl (by decide) (htb _ kw_424) (cV_c rfl (by decide) (by rw [show cMu 0 7 = 0 from rfl, Nat.zero_mul]; rfl)) dX12_fault_43 ?_
    refine cm_callV (t := 6) (C := RX5) (T := TX5) (N := 13) (rest := []) (as := []) ⟨hx, hb, hml, hown, htb⟩ (d_failure l dC dI ad cid a2 lx sg gm lg 0 hI (iv_k (by decide) : iv 0 0 0)) (cwV 0 htb (gd_V kw_475 kw_476 kw_477 kw_159 kw_1400) rfl rfl rfl (by decide +kernel) ⟨Nat.le_of_ble_eq_true rfl, Nat.le_of_ble_eq_true rfl⟩) (iv_k (by decide) : iv 0 0 0) (by decide) (by decide) rfl rfl hl.1 rfl (Nat.le_trans cs_n (by decide)) dX12_fault_46 ⟨Nat.le_of_ble_eq_true rfl, Nat.le_of_ble_eq_true rfl⟩ hK hP hD hS hA hG (fun E ce q9 u_8 H locs hw hP hD hS hce hcv hcl => ?_) (fun v9 u_8 H locs hw hP hD hS => ?_)
    · exact hw.elim
    obtain ⟨r_7, rfl, rfl, hr_7⟩ := hw
    have hP : va_P (dC, dI) vwCl (cW ad cid a2 lx sg gm lg) H := hP
    have hD : va_D A (cW ad cid a2 lx sg gm lg) := hD
    refine W.eq (g2 := F0 m 49 ls [.int r_7]) rfl ?_
    exact W.nb (fun hN => W.widen (k := 1) (n := 6) (by decide) (by decide) (vx_ret (W.iret (v := r_7) hx hb hr (fun t ht hW => ⟨⟨some (.int r_7), (sg, gm, lg), rfl, ⟨r_7, rfl, rfl, (iv_w hr_7 (by decide))⟩, by rw [ht]; exact hP, va_K.moved hW.alike hK, hD⟩, hS.F ht, by rw [ht]; exact hN⟩) hS.2.2 dX12_fault_49)))
  by_cases c_10 : (wh : Int32).toInt = 3
  · refine lv_tableIn (tgt := 50) hx hb dX12_fault_1 (by rw [c_10]; decide) (by rw [c_10]; decide) (by rw [c_10]; rfl) (by decide) ?_
    have h_11 : iv 3 3 wh := iv_at c_10
    refine ec_aload_n hx hb dX12_fault_50 rfl (lv_at hl 0 rfl) ?_
    refine cr_get (t := 0) (j := 7) (C := RX12) (T := TX12) (N := 12) (v := eV (ad 6) 0) hx hb htb inX12 hown hK hP hvx (by decide) (by decide) (by decide) rfl (by decide) (htb _ kw_424) (cV_c rfl (by decide) (by rw [show cMu 0 7 = 0 from rfl, Nat.zero_mul]; rfl)) dX12_fault_51 ?_
    refine cm_callV (t := 6) (C := RX5) (T := TX5) (N := 13) (rest := []) (as := []) ⟨hx, hb, hml, hown, htb⟩ (d_failureBean l dC dI ad cid a2 lx sg gm lg 0 hI (iv_k (by decide) : iv 0 0 0)) (cwV 0 htb (gd_V kw_478 kw_479 kw_480 kw_159 kw_1401) rfl rfl rfl (by decide +kernel) ⟨Nat.le_of_ble_eq_true rfl, Nat.le_of_ble_eq_true rfl⟩) (iv_k (by decide) : iv 0 0 0) (by decide) (by decide) rfl rfl hl.1 rfl (Nat.le_trans cs_n (by decide)) dX12_fault_54 ⟨Nat.le_of_ble_eq_true rfl, Nat.le_of_ble_eq_true rfl⟩ hK hP hD hS hA hG (fun E ce q9 u_13 H locs hw hP hD hS hce hcv hcl => ?_) (fun v9 u_13 H locs hw hP hD hS => ?_)
    · exact hw.elim
    obtain ⟨r_12, rfl, rfl, hr_12⟩ := hw
    have hP : va_P (dC, dI) vwCl (cW ad cid a2 lx sg gm lg) H := hP
    have hD : va_D A (cW ad cid a2 lx sg gm lg) := hD
    refine W.eq (g2 := F0 m 57 ls [.int r_12]) rfl ?_
    exact W.nb (fun hN => W.widen (k := 1) (n := 6) (by decide) (by decide) (vx_ret (W.iret (v := r_12) hx hb hr (fun t ht hW => ⟨⟨some (.int r_12), (sg, gm, lg), rfl, ⟨r_12, rfl, rfl, (iv_w hr_12 (by decide))⟩, by rw [ht]; exact hP, va_K.moved hW.alike hK, hD⟩, hS.F ht, by rw [ht]; exact hN⟩) hS.2.2 dX12_fault_57)))
  refine lv_tableOut (tgt := 58) hx hb dX12_fault_1 (by have q1 := ((iv_all wh)).1; have q2 := ((iv_all wh)).2; omega) (by decide) ?_
  refine lv_iconst (v := (-1)) hx hb dX12_fault_58 (by decide) ?_
  exact W.nb (fun hN => W.widen (k := 1) (n := 6) (by decide) (by decide) (vx_ret (W.iret (v := (-1)) hx hb hr (fun t ht hW => ⟨⟨some (.int (-1)), (sg, gm, lg), rfl, ⟨(-1), rfl, rfl, (iv_w (iv_k (by decide) : iv (-1) (-1) (-1)) (by decide))⟩, by rw [ht]; exact hP, va_K.moved hW.alike hK, hD⟩, hS.F ht, by rw [ht]; exact hN⟩) hS.2.2 dX12_fault_59)))

set_option maxHeartbeats 4000000 in
set_option maxRecDepth 100000 in
theorem d_lsize (l : Launch) (dC : Nat → ClassId) (dI : Nat → Nat → Nat) (ad : Nat → Nat → Nat) (cid : Nat → ClassId) (a2 : Nat → Nat) (lx : List Nat) (sg : Nat → Int32) (gm : Nat → Nat → Int32) (lg : Nat → Nat → Int64) (x : Int32) (hI : CI sg gm) (hvx : iv 0 239 x) : CMt dC dI ad cid a2 lx l yJx4a65c_size_8abf5 wm_Jx4a65c_size_8abf5 ({ frames := 0, cells := 1, slots := 6, locals := 0 }) [eV (ad 11) x] sg gm lg (fun v u => ∃ r : Int32, v = some (.int r) ∧ u = (sg, gm, lg) ∧ (iv 0 80 r) ∧ (r = gm 41 x.toNatClampNeg)) (fun _ _ => False) := by
  intro sz
  refine vx_ofW (cc := cJx4a65c_size_8abf5) (maxL := 1) (ret := (some .int)) (by decide) rfl ?_
  intro p e s m args below meth c s₁ B hml hxt hv
  obtain ⟨rfl, hsz, hP, hK, hD0, hG⟩ := hv
  have hx := B.exec
  have hb := B.bytes
  have hr := B.returns
  have hts := atoms_spec (ws := wm_Jx4a65c_size_8abf5) B.pre
  have htb := fun (w : Cond) (h : w ∈ tb) => hts w (List.mem_cons_of_mem _ h)
  have hown : s.vm.findClass RJx4a65c = some m.cls := findClass_of_methodNamed B.named
  have hlocks := B.notSynchronized
  subst hsz
  have hD := hD0.self (sz := s.heap.size)
  generalize hAe : va_A (cW ad cid a2 lx sg gm lg) s.heap.size = A at hD hG ⊢
  have hA : ∀ q : Nat, s.heap.size ≤ q → A q := fun q h => by rw [← hAe]; exact Or.inr h
  have hS : va_S A s.heap s.heap [] := va_S.rf
  have hl := lv_entry ([eV (ad 11) x]) (n := 1) (by rw [show (lg_sl ([eV (ad 11) x])).length = 1 from by simp [lg_sl, eV_cat, cat_i, cat_l]]; exact Nat.le_of_ble_eq_true rfl)
  rw [lg_entry_eq]
  generalize (lg_sl ([eV (ad 11) x]) ++ List.replicate (1 - (lg_sl ([eV (ad 11) x])).length) Slot.unset).toArray = ls at hl ⊢
  have hl : lv_has ls 1 [(0, eV (ad 11) x)] := by simp [lv_args, eV_cat, cat_i, cat_l] at hl; exact hl
  refine ec_aload_n hx hb dJx4a65c_size_8abf5_0 rfl (lv_at hl 0 rfl) ?_
  refine cr_get (t := 11) (j := 2) (C := RJx4a65c) (T := TJx4a65c) (N := 3) (v := .int (gm 41 x.toNatClampNeg)) hx hb htb inJx4a65c hown hK hP hvx (by decide) (by decide) (by decide) rfl (by decide) (htb _ kw_345) rfl dJx4a65c_size_8abf5_1 ?_
  obtain ⟨z_1, ez_1⟩ : ∃ z : Int32, z = (gm 41 x.toNatClampNeg) := ⟨_, rfl⟩
  refine W.eq (g2 := F0 m 4 ls [.int z_1]) (by rw [ez_1]) ?_
  have hz_1 : iv 0 80 z_1 := iv_of ez_1 (CI_a hI 41 hvx (by decide))
  exact W.nb (fun hN => W.widen (k := 1) (n := 6) (by decide) (by decide) (vx_ret (W.iret (v := z_1) hx hb hr (fun t ht hW => ⟨⟨some (.int z_1), (sg, gm, lg), rfl, ⟨z_1, rfl, rfl, hz_1, (ez_1)⟩, by rw [ht]; exact hP, va_K.moved hW.alike hK, hD⟩, hS.F ht, by rw [ht]; exact hN⟩) hS.2.2 dJx4a65c_size_8abf5_4)))

set_option maxHeartbeats 4000000 in
set_option maxRecDepth 100000 in
theorem d_told (l : Launch) (dC : Nat → ClassId) (dI : Nat → Nat → Nat) (ad : Nat → Nat → Nat) (cid : Nat → ClassId) (a2 : Nat → Nat) (lx : List Nat) (sg : Nat → Int32) (gm : Nat → Nat → Int32) (lg : Nat → Nat → Int64) (b : Int32) (wh : Int32) (hI : CI sg gm) (hvb : iv 0 79 b) (hel : 0 ≤ (gm 29 b.toNatClampNeg).toInt) : CMt dC dI ad cid a2 lx l yX1_told wm_X1_told ({ frames := 1, cells := 1, slots := 6, locals := 20 }) [eV (ad 10) b, .int wh] sg gm lg (fun v u => ∃ r : Int32, v = some (.int r) ∧ u = (sg, gm, lg) ∧ (iv (-1) 1201 r)) (fun _ _ => False) := by
  intro sz
  refine vx_ofW (cc := cX1_told) (maxL := 2) (ret := (some .int)) (by decide) rfl ?_
  intro p e s m args below meth c s₁ B hml hxt hv
  obtain ⟨rfl, hsz, hP, hK, hD0, hG⟩ := hv
  have hx := B.exec
  have hb := B.bytes
  have hr := B.returns
  have hts := atoms_spec (ws := wm_X1_told) B.pre
  have htb := fun (w : Cond) (h : w ∈ tb) => hts w (List.mem_cons_of_mem _ h)
  have hown : s.vm.findClass RX1 = some m.cls := findClass_of_methodNamed B.named
  have hlocks := B.notSynchronized
  subst hsz
  have hD := hD0.self (sz := s.heap.size)
  generalize hAe : va_A (cW ad cid a2 lx sg gm lg) s.heap.size = A at hD hG ⊢
  have hA : ∀ q : Nat, s.heap.size ≤ q → A q := fun q h => by rw [← hAe]; exact Or.inr h
  have hS : va_S A s.heap s.heap [] := va_S.rf
  have hl := lv_entry ([eV (ad 10) b, .int wh]) (n := 2) (by rw [show (lg_sl ([eV (ad 10) b, .int wh])).length = 2 from by simp [lg_sl, eV_cat, cat_i, cat_l]]; exact Nat.le_of_ble_eq_true rfl)
  rw [lg_entry_eq]
  generalize (lg_sl ([eV (ad 10) b, .int wh]) ++ List.replicate (2 - (lg_sl ([eV (ad 10) b, .int wh])).length) Slot.unset).toArray = ls at hl ⊢
  have hl : lv_has ls 2 [(0, eV (ad 10) b), (1, .int wh)] := by simp [lv_args, eV_cat, cat_i, cat_l] at hl; exact hl
  have hj120 : ∀ (y0_120 : Int32) (_ : iv 0 79 b) (_ : iv 7 7 wh) (_ : iv 0 1 y0_120) (H : Heap) (locs : List Loc) (ls : Array Slot), va_P (dC, dI) vwCl (cW ad cid a2 lx sg gm lg) H → va_D A (cW ad cid a2 lx sg gm lg) → va_S A s.heap H locs → lv_has ls 2 [(0, eV (ad 10) b), (1, .int wh)] → W p l e (headSpec wm_X1_told ({ frames := 1, cells := 1, slots := 6, locals := 20 })).room s m ([eV (ad 10) b, .int wh] : List Value).toArray below meth c H locs 0 0 (vx_MQ below (cQx dC dI ad cid a2 lx (fun v u => ∃ r : Int32, v = some (.int r) ∧ u = (sg, gm, lg) ∧ (iv (-1) 1201 r)) A) (cX dC dI ad cid a2 lx (fun _ _ => False) A) ([eV (ad 10) b, .int wh] : List Value).toArray s 1 6 A) (F0 m 120 ls [.int y0_120]) := by
    intro y0_120 hsx0_120 hsx1_120 hy0_120 H locs ls hP hD hS hl
    exact W.nb (fun hN => W.widen (k := 1) (n := 6) (by decide) (by decide) (vx_ret (W.iret (v := y0_120) hx hb hr (fun t ht hW => ⟨⟨some (.int y0_120), (sg, gm, lg), rfl, ⟨y0_120, rfl, rfl, (iv_w hy0_120 (by decide))⟩, by rw [ht]; exact hP, va_K.moved hW.alike hK, hD⟩, hS.F ht, by rw [ht]; exact hN⟩) hS.2.2 dX1_told_120)))
  have hj133 : ∀ (y0_133 : Int32) (_ : iv 0 79 b) (_ : iv 8 8 wh) (_ : iv 0 1 y0_133) (H : Heap) (locs : List Loc) (ls : Array Slot), va_P (dC, dI) vwCl (cW ad cid a2 lx sg gm lg) H → va_D A (cW ad cid a2 lx sg gm lg) → va_S A s.heap H locs → lv_has ls 2 [(0, eV (ad 10) b), (1, .int wh)] → W p l e (headSpec wm_X1_told ({ frames := 1, cells := 1, slots := 6, locals := 20 })).room s m ([eV (ad 10) b, .int wh] : List Value).toArray below meth c H locs 0 0 (vx_MQ below (cQx dC dI ad cid a2 lx (fun v u => ∃ r : Int32, v = some (.int r) ∧ u = (sg, gm, lg) ∧ (iv (-1) 1201 r)) A) (cX dC dI ad cid a2 lx (fun _ _ => False) A) ([eV (ad 10) b, .int wh] : List Value).toArray s 1 6 A) (F0 m 133 ls [.int y0_133]) := by
    intro y0_133 hsx0_133 hsx1_133 hy0_133 H locs ls hP hD hS hl
    exact W.nb (fun hN => W.widen (k := 1) (n := 6) (by decide) (by decide) (vx_ret (W.iret (v := y0_133) hx hb hr (fun t ht hW => ⟨⟨some (.int y0_133), (sg, gm, lg), rfl, ⟨y0_133, rfl, rfl, (iv_w hy0_133 (by decide))⟩, by rw [ht]; exact hP, va_K.moved hW.alike hK, hD⟩, hS.F ht, by rw [ht]; exact hN⟩) hS.2.2 dX1_told_133)))
  have hj146 : ∀ (y0_146 : Int32) (_ : iv 0 79 b) (_ : iv 9 9 wh) (_ : iv 0 1 y0_146) (H : Heap) (locs : List Loc) (ls : Array Slot), va_P (dC, dI) vwCl (cW ad cid a2 lx sg gm lg) H → va_D A (cW ad cid a2 lx sg gm lg) → va_S A s.heap H locs → lv_has ls 2 [(0, eV (ad 10) b), (1, .int wh)] → W p l e (headSpec wm_X1_told ({ frames := 1, cells := 1, slots := 6, locals := 20 })).room s m ([eV (ad 10) b, .int wh] : List Value).toArray below meth c H locs 0 0 (vx_MQ below (cQx dC dI ad cid a2 lx (fun v u => ∃ r : Int32, v = some (.int r) ∧ u = (sg, gm, lg) ∧ (iv (-1) 1201 r)) A) (cX dC dI ad cid a2 lx (fun _ _ => False) A) ([eV (ad 10) b, .int wh] : List Value).toArray s 1 6 A) (F0 m 146 ls [.int y0_146]) := by
    intro y0_146 hsx0_146 hsx1_146 hy0_146 H locs ls hP hD hS hl
    exact W.nb (fun hN => W.widen (k := 1) (n := 6) (by decide) (by decide) (vx_ret (W.iret (v := y0_146) hx hb hr (fun t ht hW => ⟨⟨some (.int y0_146), (sg, gm, lg), rfl, ⟨y0_146, rfl, rfl, (iv_w hy0_146 (by decide))⟩, by rw [ht]; exact hP, va_K.moved hW.alike hK, hD⟩, hS.F ht, by rw [ht]; exact hN⟩) hS.2.2 dX1_told_146)))
  have hj159 : ∀ (y0_159 : Int32) (_ : iv 0 79 b) (_ : iv 10 10 wh) (_ : iv 0 1 y0_159) (H : Heap) (locs : List Loc) (ls : Array Slot), va_P (dC, dI) vwCl (cW ad cid a2 lx sg gm lg) H → va_D A (cW ad cid a2 lx sg gm lg) → va_S A s.heap H locs → lv_has ls 2 [(0, eV (ad 10) b), (1, .int wh)] → W p l e (headSpec wm_X1_told ({ frames := 1, cells := 1, slots := 6, locals := 20 })).room s m ([eV (ad 10) b, .int wh] : List Value).toArray below meth c H locs 0 0 (vx_MQ below (cQx dC dI ad cid a2 lx (fun v u => ∃ r : Int32, v = some (.int r) ∧ u = (sg, gm, lg) ∧ (iv (-1) 1201 r)) A) (cX dC dI ad cid a2 lx (fun _ _ => False) A) ([eV (ad 10) b, .int wh] : List Value).toArray s 1 6 A) (F0 m 159 ls [.int y0_159]) := by
    intro y0_159 hsx0_159 hsx1_159 hy0_159 H locs ls hP hD hS hl
    exact W.nb (fun hN => W.widen (k := 1) (n := 6) (by decide) (by decide) (vx_ret (W.iret (v := y0_159) hx hb hr (fun t ht hW => ⟨⟨some (.int y0_159), (sg, gm, lg), rfl, ⟨y0_159, rfl, rfl, (iv_w hy0_159 (by decide))⟩, by rw [ht]; exact hP, va_K.moved hW.alike hK, hD⟩, hS.F ht, by rw [ht]; exact hN⟩) hS.2.2 dX1_told_159)))
  refine lv_iload_n hx hb dX1_told_0 rfl (lv_at hl 1 rfl) ?_
  by_cases c_1 : (wh : Int32).toInt = 0
  · refine lv_tableIn (tgt := 64) hx hb dX1_told_1 (by rw [c_1]; decide) (by rw [c_1]; decide) (by rw [c_1]; rfl) (by decide) ?_
    have h_2 : iv 0 0 wh := iv_at c_1
    refine ec_aload_n hx hb dX1_told_64 rfl (lv_at hl 0 rfl) ?_
    refine cr_get (t := 10) (j := 9) (C := RX1) (T := TX1) (N := 19) (v := .int (gm 30 b.toNatClampNeg)) hx hb htb inX1 hown hK hP hvb (by decide) (by decide) (by decide) rfl (by decide) (htb _ kw_367) rfl dX1_told_65 ?_
    obtain ⟨z_3, ez_3⟩ : ∃ z : Int32, z = (gm 30 b.toNatClampNeg) := ⟨_, rfl⟩
    refine W.eq (g2 := F0 m 68 ls [.int z_3]) (by rw [ez_3]) ?_
    have hz_3 : iv (-1) 7 z_3 := iv_of ez_3 (CI_a hI 30 hvb (by decide))
    exact W.nb (fun hN => W.widen (k := 1) (n := 6) (by decide) (by decide) (vx_ret (W.iret (v := z_3) hx hb hr (fun t ht hW => ⟨⟨some (.int z_3), (sg, gm, lg), rfl, ⟨z_3, rfl, rfl, (iv_w hz_3 (by decide))⟩, by rw [ht]; exact hP, va_K.moved hW.alike hK, hD⟩, hS.F ht, by rw [ht]; exact hN⟩) hS.2.2 dX1_told_68)))
  by_cases c_4 : (wh : Int32).toInt = 1
  · refine lv_tableIn (tgt := 69) hx hb dX1_told_1 (by rw [c_4]; decide) (by rw [c_4]; decide) (by rw [c_4]; rfl) (by decide) ?_
    have h_5 : iv 1 1 wh := iv_at c_4
    refine ec_aload_n hx hb dX1_told_69 rfl (lv_at hl 0 rfl) ?_
    obtain ⟨q_6, hq_6, nq_6, tq_6⟩ := ix_mk (3 * b.toNatClampNeg + 0) 239 (by have q1 := iv_cl hvb (by decide); have q2 := (hvb).2; omega) (by decide)
    refine cr_get (t := 10) (j := 1) (C := RX1) (T := TX1) (N := 19) (v := eV (ad 11) q_6) hx hb htb inX1 hown hK hP hvb (by decide) (by decide) (by decide) rfl (by decide) (htb _ kw_351) (cV_c rfl hq_6.1 nq_6) dX1_told_70 ?_
    refine cm_callV (t := 11) (C := RJx4a65c) (T := TJx4a65c) (N := 3) (rest := []) (as := []) ⟨hx, hb, hml, hown, htb⟩ (d_lsize l dC dI ad cid a2 lx sg gm lg q_6 hI hq_6) (cwV 0 htb (gd_V kw_529 kw_530 kw_531 kw_157 kw_1418) rfl rfl rfl (by decide +kernel) ⟨Nat.le_of_ble_eq_true rfl, Nat.le_of_ble_eq_true rfl⟩) hq_6 (by decide) (by decide) rfl rfl hl.1 rfl (Nat.le_trans cs_n (by decide)) dX1_told_73 ⟨Nat.le_of_ble_eq_true rfl, Nat.le_of_ble_eq_true rfl⟩ hK hP hD hS hA hG (fun E ce q9 u_8 H locs hw hP hD hS hce hcv hcl => ?_) (fun v9 u_8 H locs hw hP hD hS => ?_)
    · exact hw.elim
    obtain ⟨r_7, rfl, rfl, hr_7, fr_r_7⟩ := hw
    have hP : va_P (dC, dI) vwCl (cW ad cid a2 lx sg gm lg) H := hP
    have hD : va_D A (cW ad cid a2 lx sg gm lg) := hD
    refine W.eq (g2 := F0 m 76 ls [.int r_7]) rfl ?_
    exact W.nb (fun hN => W.widen (k := 1) (n := 6) (by decide) (by decide) (vx_ret (W.iret (v := r_7) hx hb hr (fun t ht hW => ⟨⟨some (.int r_7), (sg, gm, lg), rfl, ⟨r_7, rfl, rfl, (iv_w hr_7 (by decide))⟩, by rw [ht]; exact hP, va_K.moved hW.alike hK, hD⟩, hS.F ht, by rw [ht]; exact hN⟩) hS.2.2 dX1_told_76)))
  by_cases c_10 : (wh : Int32).toInt = 2
  · refine lv_tableIn (tgt := 77) hx hb dX1_told_1 (by rw [c_10]; decide) (by rw [c_10]; decide) (by rw [c_10]; rfl) (by decide) ?_
    have h_11 : iv 2 2 wh := iv_at c_10
    refine ec_aload_n hx hb dX1_told_77 rfl (lv_at hl 0 rfl) ?_
    obtain ⟨q_12, hq_12, nq_12, tq_12⟩ := ix_mk (3 * b.toNatClampNeg + 1) 239 (by have q1 := iv_cl hvb (by decide); have q2 := (hvb).2; omega) (by decide)
    refine cr_get (t := 10) (j := 2) (C := RX1) (T := TX1) (N := 19) (v := eV (ad 11) q_12) hx hb htb inX1 hown hK hP hvb (by decide) (by decide) (by decide) rfl (by decide) (htb _ kw_353) (cV_c rfl hq_12.1 nq_12) dX1_told_78 ?_
    refine cm_callV (t := 11) (C := RJx4a65c) (T := TJx4a65c) (N := 3) (rest := []) (as := []) ⟨hx, hb, hml, hown, htb⟩ (d_lsize l dC dI ad cid a2 lx sg gm lg q_12 hI hq_12) (cwV 0 htb (gd_V kw_529 kw_530 kw_531 kw_157 kw_1418) rfl rfl rfl (by decide +kernel) ⟨Nat.le_of_ble_eq_true rfl, Nat.le_of_ble_eq_true rfl⟩) hq_12 (by decide) (by decide) rfl rfl hl.1 rfl (Nat.le_trans cs_n (by decide)) dX1_told_81 ⟨Nat.le_of_ble_eq_true rfl, Nat.le_of_ble_eq_true rfl⟩ hK hP hD hS hA hG (fun E ce q9 u_14 H locs hw hP hD hS hce hcv hcl => ?_) (fun v9 u_14 H locs hw hP hD hS => ?_)
    · exact hw.elim
    obtain ⟨r_13, rfl, rfl, hr_13, fr_r_13⟩ := hw
    have hP : va_P (dC, dI) vwCl (cW ad cid a2 lx sg gm lg) H := hP
    have hD : va_D A (cW ad cid a2 lx sg gm lg) := hD
    refine W.eq (g2 := F0 m 84 ls [.int r_13]) rfl ?_
    exact W.nb (fun hN => W.widen (k := 1) (n := 6) (by decide) (by decide) (vx_ret (W.iret (v := r_13) hx hb hr (fun t ht hW => ⟨⟨some (.int r_13), (sg, gm, lg), rfl, ⟨r_13, rfl, rfl, (iv_w hr_13 (by decide))⟩, by rw [ht]; exact hP, va_K.moved hW.alike hK, hD⟩, hS.F ht, by rw [ht]; exact hN⟩) hS.2.2 dX1_told_84)))
  by_cases c_16 : (wh : Int32).toInt = 3
  · refine lv_tableIn (tgt := 85) hx hb dX1_told_1 (by rw [c_16]; decide) (by rw [c_16]; decide) (by rw [c_16]; rfl) (by decide) ?_
    have h_17 : iv 3 3 wh := iv_at c_16
    refine ec_aload_n hx hb dX1_told_85 rfl (lv_at hl 0 rfl) ?_
    obtain ⟨q_18, hq_18, nq_18, tq_18⟩ := ix_mk (3 * b.toNatClampNeg + 2) 239 (by have q1 := iv_cl hvb (by decide); have q2 := (hvb).2; omega) (by decide)
    refine cr_get (t := 10) (j := 3) (C := RX1) (T := TX1) (N := 19) (v := eV (ad 11) q_18) hx hb htb inX1 hown hK hP hvb (by decide) (by decide) (by decide) rfl (by decide) (htb _ kw_355) (cV_c rfl hq_18.1 nq_18) dX1_told_86 ?_
    refine cm_callV (t := 11) (C := RJx4a65c) (T := TJx4a65c) (N := 3) (rest := []) (as := []) ⟨hx, hb, hml, hown, htb⟩ (d_lsize l dC dI ad cid a2 lx sg gm lg q_18 hI hq_18) (cwV 0 htb (gd_V kw_529 kw_530 kw_531 kw_157 kw_1418) rfl rfl rfl (by decide +kernel) ⟨Nat.le_of_ble_eq_true rfl, Nat.le_of_ble_eq_true rfl⟩) hq_18 (by decide) (by decide) rfl rfl hl.1 rfl (Nat.le_trans cs_n (by decide)) dX1_told_89 ⟨Nat.le_of_ble_eq_true rfl, Nat.le_of_ble_eq_true rfl⟩ hK hP hD hS hA hG (fun E ce q9 u_20 H locs hw hP hD hS hce hcv hcl => ?_) (fun v9 u_20 H locs hw hP hD hS => ?_)
    · exact hw.elim
    obtain ⟨r_19, rfl, rfl, hr_19, fr_r_19⟩ := hw
    have hP : va_P (dC, dI) vwCl (cW ad cid a2 lx sg gm lg) H := hP
    have hD : va_D A (cW ad cid a2 lx sg gm lg) := hD
    refine W.eq (g2 := F0 m 92 ls [.int r_19]) rfl ?_
    exact W.nb (fun hN => W.widen (k := 1) (n := 6) (by decide) (by decide) (vx_ret (W.iret (v := r_19) hx hb hr (fun t ht hW => ⟨⟨some (.int r_19), (sg, gm, lg), rfl, ⟨r_19, rfl, rfl, (iv_w hr_19 (by decide))⟩, by rw [ht]; exact hP, va_K.moved hW.alike hK, hD⟩, hS.F ht, by rw [ht]; exact hN⟩) hS.2.2 dX1_told_92)))
  by_cases c_22 : (wh : Int32).toInt = 4
  · refine lv_tableIn (tgt := 93) hx hb dX1_told_1 (by rw [c_22]; decide) (by rw [c_22]; decide) (by rw [c_22]; rfl) (by decide) ?_
    have h_23 : iv 4 4 wh := iv_at c_22
    refine ec_aload_n hx hb dX1_told_93 rfl (lv_at hl 0 rfl) ?_
    refine cr_get (t := 10) (j := 10) (C := RX1) (T := TX1) (N := 19) (v := .int (gm 31 b.toNatClampNeg)) hx hb htb inX1 hown hK hP hvb (by decide) (by decide) (by decide) rfl (by decide) (htb _ kw_369) rfl dX1_told_94 ?_
    obtain ⟨z_24, ez_24⟩ : ∃ z : Int32, z = (gm 31 b.toNatClampNeg) := ⟨_, rfl⟩
    refine W.eq (g2 := F0 m 97 ls [.int z_24]) (by rw [ez_24]) ?_
    have hz_24 : iv (-1) 25 z_24 := iv_of ez_24 (CI_a hI 31 hvb (by decide))
    exact W.nb (fun hN => W.widen (k := 1) (n := 6) (by decide) (by decide) (vx_ret (W.iret (v := z_24) hx hb hr (fun t ht hW => ⟨⟨some (.int z_24), (sg, gm, lg), rfl, ⟨z_24, rfl, rfl, (iv_w hz_24 (by decide))⟩, by rw [ht]; exact hP, va_K.moved hW.alike hK, hD⟩, hS.F ht, by rw [ht]; exact hN⟩) hS.2.2 dX1_told_97)))
  by_cases c_25 : (wh : Int32).toInt = 5
  · refine lv_tableIn (tgt := 98) hx hb dX1_told_1 (by rw [c_25]; decide) (by rw [c_25]; decide) (by rw [c_25]; rfl) (by decide) ?_
    have h_26 : iv 5 5 wh := iv_at c_25
    refine ec_aload_n hx hb dX1_told_98 rfl (lv_at hl 0 rfl) ?_
    refine cr_get (t := 10) (j := 11) (C := RX1) (T := TX1) (N := 19) (v := .int (gm 32 b.toNatClampNeg)) hx hb htb inX1 hown hK hP hvb (by decide) (by decide) (by decide) rfl (by decide) (htb _ kw_371) rfl dX1_told_99 ?_
    obtain ⟨z_27, ez_27⟩ : ∃ z : Int32, z = (gm 32 b.toNatClampNeg) := ⟨_, rfl⟩
    refine W.eq (g2 := F0 m 102 ls [.int z_27]) (by rw [ez_27]) ?_
    have hz_27 : iv (-1) 25 z_27 := iv_of ez_27 (CI_a hI 32 hvb (by decide))
    exact W.nb (fun hN => W.widen (k := 1) (n := 6) (by decide) (by decide) (vx_ret (W.iret (v := z_27) hx hb hr (fun t ht hW => ⟨⟨some (.int z_27), (sg, gm, lg), rfl, ⟨z_27, rfl, rfl, (iv_w hz_27 (by decide))⟩, by rw [ht]; exact hP, va_K.moved hW.alike hK, hD⟩, hS.F ht, by rw [ht]; exact hN⟩) hS.2.2 dX1_told_102)))
  by_cases c_28 : (wh : Int32).toInt = 6
  · refine lv_tableIn (tgt := 103) hx hb dX1_told_1 (by rw [c_28]; decide) (by rw [c_28]; decide) (by rw [c_28]; rfl) (by decide) ?_
    have h_29 : iv 6 6 wh := iv_at c_28
    refine ec_aload_n hx hb dX1_told_103 rfl (lv_at hl 0 rfl) ?_
    refine cr_get (t := 10) (j := 12) (C := RX1) (T := TX1) (N := 19) (v := .int (gm 33 b.toNatClampNeg)) hx hb htb inX1 hown hK hP hvb (by decide) (by decide) (by decide) rfl (by decide) (htb _ kw_373) rfl dX1_told_104 ?_
    obtain ⟨z_30, ez_30⟩ : ∃ z : Int32, z = (gm 33 b.toNatClampNeg) := ⟨_, rfl⟩
    refine W.eq (g2 := F0 m 107 ls [.int z_30]) (by rw [ez_30]) ?_
    have hz_30 : iv (-1) 25 z_30 := iv_of ez_30 (CI_a hI 33 hvb (by decide))
    exact W.nb (fun hN => W.widen (k := 1) (n := 6) (by decide) (by decide) (vx_ret (W.iret (v := z_30) hx hb hr (fun t ht hW => ⟨⟨some (.int z_30), (sg, gm, lg), rfl, ⟨z_30, rfl, rfl, (iv_w hz_30 (by decide))⟩, by rw [ht]; exact hP, va_K.moved hW.alike hK, hD⟩, hS.F ht, by rw [ht]; exact hN⟩) hS.2.2 dX1_told_107)))
  by_cases c_31 : (wh : Int32).toInt = 7
  · refine lv_tableIn (tgt := 108) hx hb dX1_told_1 (by rw [c_31]; decide) (by rw [c_31]; decide) (by rw [c_31]; rfl) (by decide) ?_
    have h_32 : iv 7 7 wh := iv_at c_31
    refine ec_aload_n hx hb dX1_told_108 rfl (lv_at hl 0 rfl) ?_
    refine cr_get (t := 10) (j := 13) (C := RX1) (T := TX1) (N := 19) (v := .int (gm 34 b.toNatClampNeg)) hx hb htb inX1 hown hK hP hvb (by decide) (by decide) (by decide) rfl (by decide) (htb _ kw_375) rfl dX1_told_109 ?_
    obtain ⟨z_33, ez_33⟩ : ∃ z : Int32, z = (gm 34 b.toNatClampNeg) := ⟨_, rfl⟩
    refine W.eq (g2 := F0 m 112 ls [.int z_33]) (by rw [ez_33]) ?_
    have hz_33 : iv 0 1 z_33 := iv_of ez_33 (CI_a hI 34 hvb (by decide))
    refine lv_if_eq (tgt := 119) hx hb dX1_told_112 (by decide) (fun c_34 => ?_) (fun c_34 => ?_)
    · have h_35 : iv 0 0 z_33 := iv_eq c_34 hz_33 (iv_k (by decide) : iv 0 0 0) (by decide)
      refine lv_iconst (v := 0) hx hb dX1_told_119 (by decide) ?_
      exact hj120 0 hvb h_32 (iv_w (iv_k (by decide) : iv 0 0 0) (by decide)) _ _ _ hP hD hS (lv_sub hl [0, 1] rfl)
    · have h_36 : iv 1 1 z_33 := iv_neL c_34 hz_33 (by decide)
      refine lv_iconst (v := 1) hx hb dX1_told_115 (by decide) ?_
      refine lv_goto (tgt := 120) hx hb dX1_told_116 (by decide) ?_
      exact hj120 1 hvb h_32 (iv_w (iv_k (by decide) : iv 1 1 1) (by decide)) _ _ _ hP hD hS (lv_sub hl [0, 1] rfl)
  by_cases c_37 : (wh : Int32).toInt = 8
  · refine lv_tableIn (tgt := 121) hx hb dX1_told_1 (by rw [c_37]; decide) (by rw [c_37]; decide) (by rw [c_37]; rfl) (by decide) ?_
    have h_38 : iv 8 8 wh := iv_at c_37
    refine ec_aload_n hx hb dX1_told_121 rfl (lv_at hl 0 rfl) ?_
    refine cr_get (t := 10) (j := 14) (C := RX1) (T := TX1) (N := 19) (v := .int (gm 35 b.toNatClampNeg)) hx hb htb inX1 hown hK hP hvb (by decide) (by decide) (by decide) rfl (by decide) (htb _ kw_377) rfl dX1_told_122 ?_
    obtain ⟨z_39, ez_39⟩ : ∃ z : Int32, z = (gm 35 b.toNatClampNeg) := ⟨_, rfl⟩
    refine W.eq (g2 := F0 m 125 ls [.int z_39]) (by rw [ez_39]) ?_
    have hz_39 : iv 0 1 z_39 := iv_of ez_39 (CI_a hI 35 hvb (by decide))
    refine lv_if_eq (tgt := 132) hx hb dX1_told_125 (by decide) (fun c_40 => ?_) (fun c_40 => ?_)
    · have h_41 : iv 0 0 z_39 := iv_eq c_40 hz_39 (iv_k (by decide) : iv 0 0 0) (by decide)
      refine lv_iconst (v := 0) hx hb dX1_told_132 (by decide) ?_
      exact hj133 0 hvb h_38 (iv_w (iv_k (by decide) : iv 0 0 0) (by decide)) _ _ _ hP hD hS (lv_sub hl [0, 1] rfl)
    · have h_42 : iv 1 1 z_39 := iv_neL c_40 hz_39 (by decide)
      refine lv_iconst (v := 1) hx hb dX1_told_128 (by decide) ?_
      refine lv_goto (tgt := 133) hx hb dX1_told_129 (by decide) ?_
      exact hj133 1 hvb h_38 (iv_w (iv_k (by decide) : iv 1 1 1) (by decide)) _ _ _ hP hD hS (lv_sub hl [0, 1] rfl)
  by_cases c_43 : (wh : Int32).toInt = 9
  · refine lv_tableIn (tgt := 134) hx hb dX1_told_1 (by rw [c_43]; decide) (by rw [c_43]; decide) (by rw [c_43]; rfl) (by decide) ?_
    have h_44 : iv 9 9 wh := iv_at c_43
    refine ec_aload_n hx hb dX1_told_134 rfl (lv_at hl 0 rfl) ?_
    refine cr_get (t := 10) (j := 15) (C := RX1) (T := TX1) (N := 19) (v := .int (gm 36 b.toNatClampNeg)) hx hb htb inX1 hown hK hP hvb (by decide) (by decide) (by decide) rfl (by decide) (htb _ kw_379) rfl dX1_told_135 ?_
    obtain ⟨z_45, ez_45⟩ : ∃ z : Int32, z = (gm 36 b.toNatClampNeg) := ⟨_, rfl⟩
    refine W.eq (g2 := F0 m 138 ls [.int z_45]) (by rw [ez_45]) ?_
    have hz_45 : iv 0 1 z_45 := iv_of ez_45 (CI_a hI 36 hvb (by decide))
    refine lv_if_eq (tgt := 145) hx hb dX1_told_138 (by decide) (fun c_46 => ?_) (fun c_46 => ?_)
    · have h_47 : iv 0 0 z_45 := iv_eq c_46 hz_45 (iv_k (by decide) : iv 0 0 0) (by decide)
      refine lv_iconst (v := 0) hx hb dX1_told_145 (by decide) ?_
      exact hj146 0 hvb h_44 (iv_w (iv_k (by decide) : iv 0 0 0) (by decide)) _ _ _ hP hD hS (lv_sub hl [0, 1] rfl)
    · have h_48 : iv 1 1 z_45 := iv_neL c_46 hz_45 (by decide)
      refine lv_iconst (v := 1) hx hb dX1_told_141 (by decide) ?_
      refine lv_goto (tgt := 146) hx hb dX1_told_142 (by decide) ?_
      exact hj146 1 hvb h_44 (iv_w (iv_k (by decide) : iv 1 1 1) (by decide)) _ _ _ hP hD hS (lv_sub hl [0, 1] rfl)
  by_cases c_49 : (wh : Int32).toInt = 10
  · refine lv_tableIn (tgt := 147) hx hb dX1_told_1 (by rw [c_49]; decide) (by rw [c_49]; decide) (by rw [c_49]; rfl) (by decide) ?_
    have h_50 : iv 10 10 wh := iv_at c_49
    refine ec_aload_n hx hb dX1_told_147 rfl (lv_at hl 0 rfl) ?_
    refine cr_get (t := 10) (j := 17) (C := RX1) (T := TX1) (N := 19) (v := .int (gm 38 b.toNatClampNeg)) hx hb htb inX1 hown hK hP hvb (by decide) (by decide) (by decide) rfl (by decide) (htb _ kw_383) rfl dX1_told_148 ?_
    obtain ⟨z_51, ez_51⟩ : ∃ z : Int32, z = (gm 38 b.toNatClampNeg) := ⟨_, rfl⟩
    refine W.eq (g2 := F0 m 151 ls [.int z_51]) (by rw [ez_51]) ?_
    have hz_51 : iv 0 1 z_51 := iv_of ez_51 (CI_a hI 38 hvb (by decide))
    refine lv_if_eq (tgt := 158) hx hb dX1_told_151 (by decide) (fun c_52 => ?_) (fun c_52 => ?_)
    · have h_53 : iv 0 0 z_51 := iv_eq c_52 hz_51 (iv_k (by decide) : iv 0 0 0) (by decide)
      refine lv_iconst (v := 0) hx hb dX1_told_158 (by decide) ?_
      exact hj159 0 hvb h_50 (iv_w (iv_k (by decide) : iv 0 0 0) (by decide)) _ _ _ hP hD hS (lv_sub hl [0, 1] rfl)
    · have h_54 : iv 1 1 z_51 := iv_neL c_52 hz_51 (by decide)
      refine lv_iconst (v := 1) hx hb dX1_told_154 (by decide) ?_
      refine lv_goto (tgt := 159) hx hb dX1_told_155 (by decide) ?_
      exact hj159 1 hvb h_50 (iv_w (iv_k (by decide) : iv 1 1 1) (by decide)) _ _ _ hP hD hS (lv_sub hl [0, 1] rfl)
  by_cases c_55 : (wh : Int32).toInt = 11
  · refine lv_tableIn (tgt := 160) hx hb dX1_told_1 (by rw [c_55]; decide) (by rw [c_55]; decide) (by rw [c_55]; rfl) (by decide) ?_
    have h_56 : iv 11 11 wh := iv_at c_55
    refine ec_aload_n hx hb dX1_told_160 rfl (lv_at hl 0 rfl) ?_
    refine cr_get (t := 10) (j := 4) (C := RX1) (T := TX1) (N := 19) (v := eV (ad 9) (gm 29 b.toNatClampNeg)) hx hb htb inX1 hown hK hP hvb (by decide) (by decide) (by decide) rfl (by decide) (htb _ kw_356) rfl dX1_told_161 ?_
    obtain ⟨z_57, ez_57⟩ : ∃ z : Int32, z = (gm 29 b.toNatClampNeg) := ⟨_, rfl⟩
    refine W.eq (g2 := F0 m 164 ls [eV (ad 9) z_57]) (by rw [ez_57]) ?_
    have hz_57 : iv (-1) 79 z_57 := iv_of ez_57 (CI_a hI 29 hvb (by decide))
    have h_58 : iv 0 79 z_57 := ⟨by rw [ez_57]; exact hel, (hz_57).2⟩
    refine cr_get (t := 9) (j := 3) (C := RX3) (T := TX3) (N := 21) (v := .int (gm 13 z_57.toNatClampNeg)) hx hb htb inX3 hown hK hP h_58 (by decide) (by decide) (by decide) rfl (by decide) (htb _ kw_239) rfl dX1_told_164 ?_
    obtain ⟨z_59, ez_59⟩ : ∃ z : Int32, z = (gm 13 z_57.toNatClampNeg) := ⟨_, rfl⟩
    refine W.eq (g2 := F0 m 167 ls [.int z_59]) (by rw [ez_59]) ?_
    have hz_59 : iv 0 1201 z_59 := iv_of ez_59 (CI_a hI 13 h_58 (by decide))
    exact W.nb (fun hN => W.widen (k := 1) (n := 6) (by decide) (by decide) (vx_ret (W.iret (v := z_59) hx hb hr (fun t ht hW => ⟨⟨some (.int z_59), (sg, gm, lg), rfl, ⟨z_59, rfl, rfl, (iv_w hz_59 (by decide))⟩, by rw [ht]; exact hP, va_K.moved hW.alike hK, hD⟩, hS.F ht, by rw [ht]; exact hN⟩) hS.2.2 dX1_told_167)))
  refine lv_tableOut (tgt := 168) hx hb dX1_told_1 (by have q1 := ((iv_all wh)).1; have q2 := ((iv_all wh)).2; omega) (by decide) ?_
  refine lv_iconst (v := (-1)) hx hb dX1_told_168 (by decide) ?_
  exact W.nb (fun hN => W.widen (k := 1) (n := 6) (by decide) (by decide) (vx_ret (W.iret (v := (-1)) hx hb hr (fun t ht hW => ⟨⟨some (.int (-1)), (sg, gm, lg), rfl, ⟨(-1), rfl, rfl, (iv_w (iv_k (by decide) : iv (-1) (-1) (-1)) (by decide))⟩, by rw [ht]; exact hP, va_K.moved hW.alike hK, hD⟩, hS.F ht, by rw [ht]; exact hN⟩) hS.2.2 dX1_told_169)))

set_option maxHeartbeats 4000000 in
set_option maxRecDepth 100000 in
theorem d_bean (l : Launch) (dC : Nat → ClassId) (dI : Nat → Nat → Nat) (ad : Nat → Nat → Nat) (cid : Nat → ClassId) (a2 : Nat → Nat) (lx : List Nat) (sg : Nat → Int32) (gm : Nat → Nat → Int32) (lg : Nat → Nat → Int64) (x : Int32) (k : Int32) (wh : Int32) (hI : CI sg gm) (hvx : iv 0 0 x) (hBEL9 : BEL9 sg gm) : CMt dC dI ad cid a2 lx l yX12_bean wm_X12_bean ({ frames := 2, cells := 1, slots := 6, locals := 41 }) [eV (ad 0) x, .int k, .int wh] sg gm lg (fun v u => ∃ r : Int32, v = some (.int r) ∧ u = (sg, gm, lg) ∧ (iv (-1) 1201 r)) (fun _ _ => False) := by
  intro sz
  refine vx_ofW (cc := cX12_bean) (maxL := 3) (ret := (some .int)) (by decide) rfl ?_
  intro p e s m args below meth c s₁ B hml hxt hv
  obtain ⟨rfl, hsz, hP, hK, hD0, hG⟩ := hv
  have hx := B.exec
  have hb := B.bytes
  have hr := B.returns
  have hts := atoms_spec (ws := wm_X12_bean) B.pre
  have htb := fun (w : Cond) (h : w ∈ tb) => hts w (List.mem_cons_of_mem _ h)
  have hown : s.vm.findClass RX12 = some m.cls := findClass_of_methodNamed B.named
  have hlocks := B.notSynchronized
  subst hsz
  have hD := hD0.self (sz := s.heap.size)
  generalize hAe : va_A (cW ad cid a2 lx sg gm lg) s.heap.size = A at hD hG ⊢
  have hA : ∀ q : Nat, s.heap.size ≤ q → A q := fun q h => by rw [← hAe]; exact Or.inr h
  have hS : va_S A s.heap s.heap [] := va_S.rf
  have hl := lv_entry ([eV (ad 0) x, .int k, .int wh]) (n := 3) (by rw [show (lg_sl ([eV (ad 0) x, .int k, .int wh])).length = 3 from by simp [lg_sl, eV_cat, cat_i, cat_l]]; exact Nat.le_of_ble_eq_true rfl)
  rw [lg_entry_eq]
  generalize (lg_sl ([eV (ad 0) x, .int k, .int wh]) ++ List.replicate (3 - (lg_sl ([eV (ad 0) x, .int k, .int wh])).length) Slot.unset).toArray = ls at hl ⊢
  have hl : lv_has ls 3 [(0, eV (ad 0) x), (1, .int k), (2, .int wh)] := by simp [lv_args, eV_cat, cat_i, cat_l] at hl; exact hl
  have hj31 : ∀ (y0_31 : Int32) (_ : iv 0 0 x) (_ : iv (-1) 1201 y0_31) (H : Heap) (locs : List Loc) (ls : Array Slot), va_P (dC, dI) vwCl (cW ad cid a2 lx sg gm lg) H → va_D A (cW ad cid a2 lx sg gm lg) → va_S A s.heap H locs → lv_has ls 3 [(0, eV (ad 0) x), (1, .int k), (2, .int wh)] → W p l e (headSpec wm_X12_bean ({ frames := 2, cells := 1, slots := 6, locals := 41 })).room s m ([eV (ad 0) x, .int k, .int wh] : List Value).toArray below meth c H locs 0 0 (vx_MQ below (cQx dC dI ad cid a2 lx (fun v u => ∃ r : Int32, v = some (.int r) ∧ u = (sg, gm, lg) ∧ (iv (-1) 1201 r)) A) (cX dC dI ad cid a2 lx (fun _ _ => False) A) ([eV (ad 0) x, .int k, .int wh] : List Value).toArray s 1 6 A) (F0 m 31 ls [.int y0_31]) := by
    intro y0_31 hsx0_31 hy0_31 H locs ls hP hD hS hl
    exact W.nb (fun hN => W.widen (k := 1) (n := 6) (by decide) (by decide) (vx_ret (W.iret (v := y0_31) hx hb hr (fun t ht hW => ⟨⟨some (.int y0_31), (sg, gm, lg), rfl, ⟨y0_31, rfl, rfl, hy0_31⟩, by rw [ht]; exact hP, va_K.moved hW.alike hK, hD⟩, hS.F ht, by rw [ht]; exact hN⟩) hS.2.2 dX12_bean_31)))
  have hj30 : ∀ (_ : iv 0 0 x) (H : Heap) (locs : List Loc) (ls : Array Slot), va_P (dC, dI) vwCl (cW ad cid a2 lx sg gm lg) H → va_D A (cW ad cid a2 lx sg gm lg) → va_S A s.heap H locs → lv_has ls 3 [(0, eV (ad 0) x), (1, .int k), (2, .int wh)] → W p l e (headSpec wm_X12_bean ({ frames := 2, cells := 1, slots := 6, locals := 41 })).room s m ([eV (ad 0) x, .int k, .int wh] : List Value).toArray below meth c H locs 0 0 (vx_MQ below (cQx dC dI ad cid a2 lx (fun v u => ∃ r : Int32, v = some (.int r) ∧ u = (sg, gm, lg) ∧ (iv (-1) 1201 r)) A) (cX dC dI ad cid a2 lx (fun _ _ => False) A) ([eV (ad 0) x, .int k, .int wh] : List Value).toArray s 1 6 A) (F0 m 30 ls []) := by
    intro  hsx0_30 H locs ls hP hD hS hl
    refine lv_iconst (v := (-1)) hx hb dX12_bean_30 (by decide) ?_
    exact hj31 (-1) hsx0_30 (iv_w (iv_k (by decide) : iv (-1) (-1) (-1)) (by decide)) _ _ _ hP hD hS (lv_sub hl [0, 1, 2] rfl)
  refine lv_iload_n hx hb dX12_bean_0 rfl (lv_at hl 1 rfl) ?_
  refine lv_if_lt (tgt := 30) hx hb dX12_bean_1 (by decide) (fun c_1 => ?_) (fun c_1 => ?_)
  · have h_2 : iv (-2147483648) (-1) k := iv_ltL c_1 (iv_all k) (iv_k (by decide) : iv 0 0 0) (by decide)
    exact hj30 hvx _ _ _ hP hD hS (lv_sub hl [0, 1, 2] rfl)
  · have h_3 : iv 0 2147483647 k := iv_leR (i32_ge c_1) (iv_k (by decide) : iv 0 0 0) (iv_all k) (by decide)
    refine lv_iload_n hx hb dX12_bean_4 rfl (lv_at hl 1 rfl) ?_
    refine ec_aload_n hx hb dX12_bean_5 rfl (lv_at hl 0 rfl) ?_
    refine cr_get (t := 0) (j := 5) (C := RX12) (T := TX12) (N := 12) (v := eV (ad 4) 0) hx hb htb inX12 hown hK hP hvx (by decide) (by decide) (by decide) rfl (by decide) (htb _ kw_422) (cV_c rfl (by decide) (by rw [show cMu 0 5 = 0 from rfl, Nat.zero_mul]; rfl)) dX12_bean_6 ?_
    refine cm_callV (t := 4) (C := RX10) (T := TX10) (N := 4) (rest := [.int k]) (as := []) ⟨hx, hb, hml, hown, htb⟩ (d_countWi l dC dI ad cid a2 lx sg gm lg 0 hI (iv_k (by decide) : iv 0 0 0)) (cwV 0 htb (gd_V kw_524 kw_493 kw_494 kw_153 kw_1406) rfl rfl rfl (by decide +kernel) ⟨Nat.le_of_ble_eq_true rfl, Nat.le_of_ble_eq_true rfl⟩) (iv_k (by decide) : iv 0 0 0) (by decide) (by decide) rfl rfl hl.1 rfl (Nat.le_trans (cs_c (cat_i _) cs_n) (by decide)) dX12_bean_9 ⟨Nat.le_of_ble_eq_true rfl, Nat.le_of_ble_eq_true rfl⟩ hK hP hD hS hA hG (fun E ce q9 u_5 H locs hw hP hD hS hce hcv hcl => ?_) (fun v9 u_5 H locs hw hP hD hS => ?_)
    · exact hw.elim
    obtain ⟨r_4, rfl, rfl, hr_4, fr_r_4⟩ := hw
    have hP : va_P (dC, dI) vwCl (cW ad cid a2 lx sg gm lg) H := hP
    have hD : va_D A (cW ad cid a2 lx sg gm lg) := hD
    refine W.eq (g2 := F0 m 12 ls [.int r_4, .int k]) rfl ?_
    refine lv_icmp_ge (tgt := 30) hx hb dX12_bean_12 (by decide) (fun c_7 => ?_) (fun c_7 => ?_)
    · have d_8 : (r_4 : Int32).toInt ≤ (k : Int32).toInt := Int32.le_iff_toInt_le.mp c_7
      exact hj30 hvx _ _ _ hP hD hS (lv_sub hl [0, 1, 2] rfl)
    · have d_9 : (k : Int32).toInt < (r_4 : Int32).toInt := Int32.lt_iff_toInt_lt.mp (i32_lt c_7)
      have h_10 : iv 0 79 k := iv_ltL (i32_lt c_7) h_3 hr_4 (by decide)
      have h_11 : iv 1 80 r_4 := iv_ltR (i32_lt c_7) h_3 hr_4 (by decide)
      refine ec_aload_n hx hb dX12_bean_15 rfl (lv_at hl 0 rfl) ?_
      refine cr_get (t := 0) (j := 5) (C := RX12) (T := TX12) (N := 12) (v := eV (ad 4) 0) hx hb htb inX12 hown hK hP hvx (by decide) (by decide) (by decide) rfl (by decide) (htb _ kw_422) (cV_c rfl (by decide) (by rw [show cMu 0 5 = 0 from rfl, Nat.zero_mul]; rfl)) dX12_bean_16 ?_
      refine lv_iload_n hx hb dX12_bean_19 rfl (lv_at hl 1 rfl) ?_
      refine cm_callV (t := 4) (C := RX10) (T := TX10) (N := 4) (rest := []) (as := [.int k]) ⟨hx, hb, hml, hown, htb⟩ (d_numbered l dC dI ad cid a2 lx sg gm lg 0 k hI (iv_k (by decide) : iv 0 0 0) h_10) (cwV 1 htb (gd_V kw_525 kw_496 kw_497 kw_153 kw_1407) rfl rfl rfl (by decide +kernel) ⟨Nat.le_of_ble_eq_true rfl, Nat.le_of_ble_eq_true rfl⟩) (iv_k (by decide) : iv 0 0 0) (by decide) (by decide) rfl rfl hl.1 rfl (Nat.le_trans cs_n (by decide)) dX12_bean_20 ⟨Nat.le_of_ble_eq_true rfl, Nat.le_of_ble_eq_true rfl⟩ hK hP hD hS hA hG (fun E ce q9 u_13 H locs hw hP hD hS hce hcv hcl => ?_) (fun v9 u_13 H locs hw hP hD hS => ?_)
      · exact hw.elim
      obtain ⟨r_12, rfl, rfl, hr_12, fr_r_12⟩ := hw
      have hP : va_P (dC, dI) vwCl (cW ad cid a2 lx sg gm lg) H := hP
      have hD : va_D A (cW ad cid a2 lx sg gm lg) := hD
      refine W.eq (g2 := F0 m 23 ls [eV (ad 10) r_12]) rfl ?_
      refine lv_iload_n hx hb dX12_bean_23 rfl (lv_at hl 2 rfl) ?_
      refine cm_callV (t := 10) (C := RX1) (T := TX1) (N := 19) (rest := []) (as := [.int wh]) ⟨hx, hb, hml, hown, htb⟩ (d_told l dC dI ad cid a2 lx sg gm lg r_12 wh hI hr_12 (by rw [fr_r_12]; exact hBEL9 _ (lt_cl h_10 (show iv 0 80 (sg 12) from CI_s hI 12) (by decide) (by decide) (by have q3 := congrArg Int32.toInt fr_r_4; have := i32_0; have := i32_1; have := i32_2; have := i32_m1; have := (show iv 0 80 (sg 12) from CI_s hI 12).1; have := (show iv 0 80 (sg 12) from CI_s hI 12).2; have := (hvx).1; have := (hvx).2; have := (h_10).1; have := (h_10).2; have := (h_11).1; have := (h_11).2; have := (hr_12).1; have := (hr_12).2; omega)))) (cwV 1 htb (gd_V kw_526 kw_527 kw_528 kw_154 kw_1417) rfl rfl rfl (by decide +kernel) ⟨Nat.le_of_ble_eq_true rfl, Nat.le_of_ble_eq_true rfl⟩) hr_12 (by decide) (by decide) rfl rfl hl.1 rfl (Nat.le_trans cs_n (by decide)) dX12_bean_24 ⟨Nat.le_of_ble_eq_true rfl, Nat.le_of_ble_eq_true rfl⟩ hK hP hD hS hA hG (fun E ce q9 u_16 H locs hw hP hD hS hce hcv hcl => ?_) (fun v9 u_16 H locs hw hP hD hS => ?_)
      · exact hw.elim
      obtain ⟨r_15, rfl, rfl, hr_15⟩ := hw
      have hP : va_P (dC, dI) vwCl (cW ad cid a2 lx sg gm lg) H := hP
      have hD : va_D A (cW ad cid a2 lx sg gm lg) := hD
      refine W.eq (g2 := F0 m 27 ls [.int r_15]) rfl ?_
      refine lv_goto (tgt := 31) hx hb dX12_bean_27 (by decide) ?_
      exact hj31 r_15 hvx hr_15 _ _ _ hP hD hS (lv_sub hl [0, 1, 2] rfl)
end
section
/-- the place of a list's cells -/
def dV (ad : Nat → Nat → Nat) (a2 : Nat → Nat) (gm : Nat → Nat → Int32) (q : Nat) : Value := .ref (if (gm 42 q).toInt = 0 then ad 34 0 else a2 q)
theorem dV_cat (ad : Nat → Nat → Nat) (a2 : Nat → Nat) (gm : Nat → Nat → Int32) (q : Nat) : (dV ad a2 gm q).category = 1 := rfl
theorem dV_n {ad : Nat → Nat → Nat} {a2 : Nat → Nat} {gm : Nat → Nat → Int32} {q : Nat} (h : ¬ (gm 42 q).toInt = 0) : dV ad a2 gm q = .ref (a2 q) := by unfold dV; rw [if_neg h]
/-- what the lists bear: as many elements as they say, all there -/
def LDI (lx : List Nat) (gm : Nat → Nat → Int32) : Prop := ∀ q, q < 240 → (gm 41 q).toInt ≤ (gm 42 q).toInt ∧ (¬ (gm 42 q).toInt = 0 → q ∈ lx) ∧ ∀ j, j < (gm 41 q).toNatClampNeg → 0 ≤ (gm 57 (128 * q + j)).toInt
section LST
variable {p : Program} {l : Launch} {e : Env} {R : Room} {s : State} {m : MethodId} {args : Array Value} {below : List Frame} {meth : Method} {c : Code} {H : Heap} {locs : List Loc} {cells slots : Nat} {Q : State → Prop} {cc : ByteArray} {pc : Nat} {ls : Array Slot} {rest : List Value} {A : Nat → Prop} {H0 : Heap}
variable {dC : Nat → ClassId} {dI : Nat → Nat → Nat} {ad : Nat → Nat → Nat} {cid : Nat → ClassId} {a2 : Nat → Nat} {lx : List Nat} {sg : Nat → Int32} {gm : Nat → Nat → Int32} {lg : Nat → Nat → Int64} {own : String} {index : Nat}
theorem cW_ld {q : Nat} (h : q ∈ lx) : ∃ p9 : Nat, (cW ad cid a2 lx sg gm lg)[p9]? = some (a2 q, cD ad cid gm q) := by
  obtain ⟨i, hi⟩ := List.getElem?_of_mem h
  refine ⟨(cFx ad cid a2 sg gm lg).length + i, ?_⟩
  unfold cW
  rw [List.getElem?_append_right (Nat.le_add_right _ _), Nat.add_sub_cancel_left, List.getElem?_map, hi]
  rfl
theorem cl_aald {q : Nat} {y : Int32} (hexec : p.tables.exec = Jvm.exec) (hb : c.code = cc) (hK : va_K (dC, dI) vwCl (cT cid) s) (hP : va_P (dC, dI) vwCl (cW ad cid a2 lx sg gm lg) H) (hl : q ∈ lx) (hc : ¬ (gm 42 q).toInt = 0) (hin : vp_in y (gm 42 q).toNatClampNeg) (h8 : y.toNatClampNeg < 128) (hdg : decode cc pc = .ok (.aaload, 1))
    (kk : W p l e R s m args below meth c H locs cells slots Q (F0 m (pc + 1) ls (eV (ad 9) (gm 57 (128 * q + y.toNatClampNeg)) :: rest))) : W p l e R s m args below meth c H locs cells slots Q (F0 m pc ls (.int y :: dV ad a2 gm q :: rest)) := by
  rw [dV_n hc]
  obtain ⟨p9, hp⟩ := cW_ld (ad := ad) (cid := cid) (a2 := a2) (sg := sg) (gm := gm) (lg := lg) hl
  refine va_aldq (D := (dC, dI)) (C := "java/lang/Object") (f := cDr ad gm q) hexec hb hK hP p9 32 hp (by rw [cT_at (by decide)]; rfl) hin hdg ?_
  rw [show va_rf (cDr ad gm q y.toNatClampNeg) = eV (ad 9) (gm 57 (128 * q + y.toNatClampNeg)) from by unfold cDr; rw [if_pos h8]; rfl]
  exact kk
theorem cl_cast {h : Int} {z : Int32} (hexec : p.tables.exec = Jvm.exec) (hb : c.code = cc) (hG : CE ad A s) (hown : s.vm.findClass own = some m.cls) (hlink : (Cond.classLink own index "WiredBeans$Element").before args s = true) (hK : va_K (dC, dI) vwCl (cT cid) s) (hP : va_P (dC, dI) vwCl (cW ad cid a2 lx sg gm lg) H) (hz : iv 0 h z) (hn : h < (cNum 9 : Int)) (hdg : decode cc pc = .ok (.checkcast index, 3))
    (kk : W p l e R s m args below meth c H locs cells slots Q (F0 m (pc + 3) ls (eV (ad 9) z :: rest))) : W p l e R s m args below meth c H locs cells slots Q (F0 m pc ls (eV (ad 9) z :: rest)) := by
  rw [eV_ref hz.1] at kk ⊢
  exact va_castY hexec hb hown hlink hG.2.1.2.2.1.2 (cm_recv (C := RX3) (T := TX3) (N := 21) hK hP hz hn (by decide) rfl) hdg kk
end LST

theorem dJ15_checkIndex_7cf53_0g : decode cJ15_checkIndex_7cf53 0 = .ok (.iload_n 0, 1) ∧ decode cJ15_checkIndex_7cf53 1 = .ok (.iload_n 1, 1) ∧ decode cJ15_checkIndex_7cf53 2 = .ok (.aconst_null, 1) ∧ decode cJ15_checkIndex_7cf53 3 = .ok (.invokestatic 105, 3) ∧ decode cJ15_checkIndex_7cf53 6 = .ok (.ireturn, 1) := by decide +kernel
theorem dJ15_checkIndex_7cf53_0 : decode cJ15_checkIndex_7cf53 0 = .ok (.iload_n 0, 1) := dJ15_checkIndex_7cf53_0g.1
theorem dJ15_checkIndex_7cf53_1 : decode cJ15_checkIndex_7cf53 1 = .ok (.iload_n 1, 1) := dJ15_checkIndex_7cf53_0g.2.1
theorem dJ15_checkIndex_7cf53_2 : decode cJ15_checkIndex_7cf53 2 = .ok (.aconst_null, 1) := dJ15_checkIndex_7cf53_0g.2.2.1
theorem dJ15_checkIndex_7cf53_3 : decode cJ15_checkIndex_7cf53 3 = .ok (.invokestatic 105, 3) := dJ15_checkIndex_7cf53_0g.2.2.2.1
theorem dJ15_checkIndex_7cf53_6 : decode cJ15_checkIndex_7cf53 6 = .ok (.ireturn, 1) := dJ15_checkIndex_7cf53_0g.2.2.2.2
theorem dJx4a65c_elementData_915e3_0g : decode cJx4a65c_elementData_915e3 0 = .ok (.aload_n 0, 1) ∧ decode cJx4a65c_elementData_915e3 1 = .ok (.getfield 9, 3) ∧ decode cJx4a65c_elementData_915e3 4 = .ok (.iload_n 1, 1) ∧ decode cJx4a65c_elementData_915e3 5 = .ok (.aaload, 1) ∧ decode cJx4a65c_elementData_915e3 6 = .ok (.areturn, 1) := by decide +kernel
theorem dJx4a65c_elementData_915e3_0 : decode cJx4a65c_elementData_915e3 0 = .ok (.aload_n 0, 1) := dJx4a65c_elementData_915e3_0g.1
theorem dJx4a65c_elementData_915e3_1 : decode cJx4a65c_elementData_915e3 1 = .ok (.getfield 9, 3) := dJx4a65c_elementData_915e3_0g.2.1
theorem dJx4a65c_elementData_915e3_4 : decode cJx4a65c_elementData_915e3 4 = .ok (.iload_n 1, 1) := dJx4a65c_elementData_915e3_0g.2.2.1
theorem dJx4a65c_elementData_915e3_5 : decode cJx4a65c_elementData_915e3 5 = .ok (.aaload, 1) := dJx4a65c_elementData_915e3_0g.2.2.2.1
theorem dJx4a65c_elementData_915e3_6 : decode cJx4a65c_elementData_915e3 6 = .ok (.areturn, 1) := dJx4a65c_elementData_915e3_0g.2.2.2.2
theorem dJx4a65c_get_915e3_0g : decode cJx4a65c_get_915e3 0 = .ok (.iload_n 1, 1) ∧ decode cJx4a65c_get_915e3 1 = .ok (.aload_n 0, 1) ∧ decode cJx4a65c_get_915e3 2 = .ok (.getfield 48, 3) ∧ decode cJx4a65c_get_915e3 5 = .ok (.invokestatic 118, 3) ∧ decode cJx4a65c_get_915e3 8 = .ok (.pop, 1) ∧ decode cJx4a65c_get_915e3 9 = .ok (.aload_n 0, 1) ∧ decode cJx4a65c_get_915e3 10 = .ok (.iload_n 1, 1) ∧ decode cJx4a65c_get_915e3 11 = .ok (.invokevirtual 123, 3) ∧ decode cJx4a65c_get_915e3 14 = .ok (.areturn, 1) := by decide +kernel
theorem dJx4a65c_get_915e3_0 : decode cJx4a65c_get_915e3 0 = .ok (.iload_n 1, 1) := dJx4a65c_get_915e3_0g.1
theorem dJx4a65c_get_915e3_1 : decode cJx4a65c_get_915e3 1 = .ok (.aload_n 0, 1) := dJx4a65c_get_915e3_0g.2.1
theorem dJx4a65c_get_915e3_2 : decode cJx4a65c_get_915e3 2 = .ok (.getfield 48, 3) := dJx4a65c_get_915e3_0g.2.2.1
theorem dJx4a65c_get_915e3_5 : decode cJx4a65c_get_915e3 5 = .ok (.invokestatic 118, 3) := dJx4a65c_get_915e3_0g.2.2.2.1
theorem dJx4a65c_get_915e3_8 : decode cJx4a65c_get_915e3 8 = .ok (.pop, 1) := dJx4a65c_get_915e3_0g.2.2.2.2.1
theorem dJx4a65c_get_915e3_9 : decode cJx4a65c_get_915e3 9 = .ok (.aload_n 0, 1) := dJx4a65c_get_915e3_0g.2.2.2.2.2.1
theorem dJx4a65c_get_915e3_10 : decode cJx4a65c_get_915e3 10 = .ok (.iload_n 1, 1) := dJx4a65c_get_915e3_0g.2.2.2.2.2.2.1
theorem dJx4a65c_get_915e3_11 : decode cJx4a65c_get_915e3 11 = .ok (.invokevirtual 123, 3) := dJx4a65c_get_915e3_0g.2.2.2.2.2.2.2.1
theorem dJx4a65c_get_915e3_14 : decode cJx4a65c_get_915e3 14 = .ok (.areturn, 1) := dJx4a65c_get_915e3_0g.2.2.2.2.2.2.2.2

set_option maxHeartbeats 4000000 in
set_option maxRecDepth 100000 in
theorem d_pchk (l : Launch) (dC : Nat → ClassId) (dI : Nat → Nat → Nat) (ad : Nat → Nat → Nat) (cid : Nat → ClassId) (a2 : Nat → Nat) (lx : List Nat) (sg : Nat → Int32) (gm : Nat → Nat → Int32) (lg : Nat → Nat → Int64) (i : Int32) (j : Int32) (fn : Int32) (hI : CI sg gm) (hvfn : iv (-1) (-1) fn) (hi0 : 0 ≤ i.toInt) (hij : i.toInt < j.toInt) : CMt dC dI ad cid a2 lx l yJ3_checkIndex_8e157 wm_J3_checkIndex_8e157 ({ frames := 0, cells := 1, slots := 6, locals := 0 }) [.int i, .int j, eV (ad 36) fn] sg gm lg (fun v u => ∃ r : Int32, v = some (.int r) ∧ u = (sg, gm, lg) ∧ (r = i)) (fun _ _ => False) := by
  intro sz
  refine vx_ofW (cc := cJ3_checkIndex_8e157) (maxL := 3) (ret := (some .int)) (by decide) rfl ?_
  intro p e s m args below meth c s₁ B hml hxt hv
  obtain ⟨rfl, hsz, hP, hK, hD0, hG⟩ := hv
  have hx := B.exec
  have hb := B.bytes
  have hr := B.returns
  have hts := atoms_spec (ws := wm_J3_checkIndex_8e157) B.pre
  have htb := fun (w : Cond) (h : w ∈ tb) => hts w (List.mem_cons_of_mem _ h)
  have hown : s.vm.findClass RJ3 = some m.cls := findClass_of_methodNamed B.named
  have hlocks := B.notSynchronized
  subst hsz
  have hD := hD0.self (sz := s.heap.size)
  generalize hAe : va_A (cW ad cid a2 lx sg gm lg) s.heap.size = A at hD hG ⊢
  have hA : ∀ q : Nat, s.heap.size ≤ q → A q := fun q h => by rw [← hAe]; exact Or.inr h
  have hS : va_S A s.heap s.heap [] := va_S.rf
  have hl := lv_entry ([.int i, .int j, eV (ad 36) fn]) (n := 3) (by rw [show (lg_sl ([.int i, .int j, eV (ad 36) fn])).length = 3 from by simp [lg_sl, eV_cat, cat_i, cat_l]]; exact Nat.le_of_ble_eq_true rfl)
  rw [lg_entry_eq]
  generalize (lg_sl ([.int i, .int j, eV (ad 36) fn]) ++ List.replicate (3 - (lg_sl ([.int i, .int j, eV (ad 36) fn])).length) Slot.unset).toArray = ls at hl ⊢
  have hl : lv_has ls 3 [(0, .int i), (1, .int j), (2, eV (ad 36) fn)] := by simp [lv_args, eV_cat, cat_i, cat_l] at hl; exact hl
  have hj9 : ∀ (_ : iv (-1) (-1) fn) (_ : False) (H : Heap) (locs : List Loc) (ls : Array Slot), va_P (dC, dI) vwCl (cW ad cid a2 lx sg gm lg) H → va_D A (cW ad cid a2 lx sg gm lg) → va_S A s.heap H locs → lv_has ls 3 [(0, .int i), (1, .int j), (2, eV (ad 36) fn)] → W p l e (headSpec wm_J3_checkIndex_8e157 ({ frames := 0, cells := 1, slots := 6, locals := 0 })).room s m ([.int i, .int j, eV (ad 36) fn] : List Value).toArray below meth c H locs 0 0 (vx_MQ below (cQx dC dI ad cid a2 lx (fun v u => ∃ r : Int32, v = some (.int r) ∧ u = (sg, gm, lg) ∧ (r = i)) A) (cX dC dI ad cid a2 lx (fun _ _ => False) A) ([.int i, .int j, eV (ad 36) fn] : List Value).toArray s 1 6 A) (F0 m 9 ls []) := by
    intro  hsx2_9 hbad H locs ls hP hD hS hl
    exact hbad.elim
  refine lv_iload_n hx hb dJ3_checkIndex_8e157_0 rfl (lv_at hl 0 rfl) ?_
  refine lv_if_lt (tgt := 9) hx hb dJ3_checkIndex_8e157_1 (by decide) (fun c_1 => ?_) (fun c_1 => ?_)
  · have h_2 : iv (-2147483648) (-1) i := iv_ltL c_1 (iv_all i) (iv_k (by decide) : iv 0 0 0) (by decide)
    exact hj9 hvfn (by have := i32_0; have := i32_1; have := i32_2; have := i32_m1; have := (hvfn).1; have := (hvfn).2; have := (h_2).1; have := (h_2).2; omega) _ _ _ hP hD hS (lv_sub hl [0, 1, 2] rfl)
  · have h_3 : iv 0 2147483647 i := iv_leR (i32_ge c_1) (iv_k (by decide) : iv 0 0 0) (iv_all i) (by decide)
    refine lv_iload_n hx hb dJ3_checkIndex_8e157_4 rfl (lv_at hl 0 rfl) ?_
    refine lv_iload_n hx hb dJ3_checkIndex_8e157_5 rfl (lv_at hl 1 rfl) ?_
    refine lv_icmp_lt (tgt := 16) hx hb dJ3_checkIndex_8e157_6 (by decide) (fun c_4 => ?_) (fun c_4 => ?_)
    · have d_5 : (i : Int32).toInt < (j : Int32).toInt := Int32.lt_iff_toInt_lt.mp c_4
      have h_6 : iv 0 2147483646 i := iv_ltL c_4 h_3 (iv_all j) (by decide)
      have h_7 : iv 1 2147483647 j := iv_ltR c_4 h_3 (iv_all j) (by decide)
      refine lv_iload_n hx hb dJ3_checkIndex_8e157_16 rfl (lv_at hl 0 rfl) ?_
      exact W.nb (fun hN => W.widen (k := 1) (n := 6) (by decide) (by decide) (vx_ret (W.iret (v := i) hx hb hr (fun t ht hW => ⟨⟨some (.int i), (sg, gm, lg), rfl, ⟨i, rfl, rfl, (rfl)⟩, by rw [ht]; exact hP, va_K.moved hW.alike hK, hD⟩, hS.F ht, by rw [ht]; exact hN⟩) hS.2.2 dJ3_checkIndex_8e157_17)))
    · have d_8 : (j : Int32).toInt ≤ (i : Int32).toInt := Int32.le_iff_toInt_le.mp (i32_ge c_4)
      exact hj9 hvfn (by have := i32_0; have := i32_1; have := i32_2; have := i32_m1; have := (hvfn).1; have := (hvfn).2; have := (h_3).1; have := (h_3).2; omega) _ _ _ hP hD hS (lv_sub hl [0, 1, 2] rfl)

set_option maxHeartbeats 4000000 in
set_option maxRecDepth 100000 in
theorem d_chk (l : Launch) (dC : Nat → ClassId) (dI : Nat → Nat → Nat) (ad : Nat → Nat → Nat) (cid : Nat → ClassId) (a2 : Nat → Nat) (lx : List Nat) (sg : Nat → Int32) (gm : Nat → Nat → Int32) (lg : Nat → Nat → Int64) (i : Int32) (j : Int32) (hI : CI sg gm) (hi0 : 0 ≤ i.toInt) (hij : i.toInt < j.toInt) : CMt dC dI ad cid a2 lx l yJ15_checkIndex_7cf53 wm_J15_checkIndex_7cf53 ({ frames := 1, cells := 1, slots := 6, locals := 22 }) [.int i, .int j] sg gm lg (fun v u => ∃ r : Int32, v = some (.int r) ∧ u = (sg, gm, lg) ∧ (r = i)) (fun _ _ => False) := by
  intro sz
  refine vx_ofW (cc := cJ15_checkIndex_7cf53) (maxL := 2) (ret := (some .int)) (by decide) rfl ?_
  intro p e s m args below meth c s₁ B hml hxt hv
  obtain ⟨rfl, hsz, hP, hK, hD0, hG⟩ := hv
  have hx := B.exec
  have hb := B.bytes
  have hr := B.returns
  have hts := atoms_spec (ws := wm_J15_checkIndex_7cf53) B.pre
  have htb := fun (w : Cond) (h : w ∈ tb) => hts w (List.mem_cons_of_mem _ h)
  have hown : s.vm.findClass RJ15 = some m.cls := findClass_of_methodNamed B.named
  have hlocks := B.notSynchronized
  subst hsz
  have hD := hD0.self (sz := s.heap.size)
  generalize hAe : va_A (cW ad cid a2 lx sg gm lg) s.heap.size = A at hD hG ⊢
  have hA : ∀ q : Nat, s.heap.size ≤ q → A q := fun q h => by rw [← hAe]; exact Or.inr h
  have hS : va_S A s.heap s.heap [] := va_S.rf
  have hl := lv_entry ([.int i, .int j]) (n := 2) (Nat.le_of_ble_eq_true rfl)
  rw [lg_entry_eq]
  generalize (lg_sl ([.int i, .int j]) ++ List.replicate (2 - (lg_sl ([.int i, .int j])).length) Slot.unset).toArray = ls at hl ⊢
  have hl : lv_has ls 2 [(0, .int i), (1, .int j)] := hl
  refine lv_iload_n hx hb dJ15_checkIndex_7cf53_0 rfl (lv_at hl 0 rfl) ?_
  refine lv_iload_n hx hb dJ15_checkIndex_7cf53_1 rfl (lv_at hl 1 rfl) ?_
  refine ec_null (a := ad 36) hx hb dJ15_checkIndex_7cf53_2 ?_
  refine cm_callS (rest := []) (as := [.int i, .int j, eV (ad 36) (-1)]) ⟨hx, hb, hml, hown, htb⟩ (d_pchk l dC dI ad cid a2 lx sg gm lg i j (-1) hI (iv_k (by decide) : iv (-1) (-1) (-1)) hi0 hij) (va_cwS 3 htb (gd_S kw_863 kw_616 kw_166 kw_1450) rfl rfl rfl (by decide +kernel) ⟨Nat.le_of_ble_eq_true rfl, Nat.le_of_ble_eq_true rfl⟩)  rfl hl.1 rfl (Nat.le_trans cs_n (by decide)) dJ15_checkIndex_7cf53_3 ⟨Nat.le_of_ble_eq_true rfl, Nat.le_of_ble_eq_true rfl⟩ hK hP hD hS hA hG (fun E ce q9 u_2 H locs hw hP hD hS hce hcv hcl => ?_) (fun v9 u_2 H locs hw hP hD hS => ?_)
  · exact hw.elim
  obtain ⟨r_1, rfl, rfl, fr_r_1⟩ := hw
  have hP : va_P (dC, dI) vwCl (cW ad cid a2 lx sg gm lg) H := hP
  have hD : va_D A (cW ad cid a2 lx sg gm lg) := hD
  refine W.eq (g2 := F0 m 6 ls [.int r_1]) rfl ?_
  exact W.nb (fun hN => W.widen (k := 1) (n := 6) (by decide) (by decide) (vx_ret (W.iret (v := r_1) hx hb hr (fun t ht hW => ⟨⟨some (.int r_1), (sg, gm, lg), rfl, ⟨r_1, rfl, rfl, (fr_r_1)⟩, by rw [ht]; exact hP, va_K.moved hW.alike hK, hD⟩, hS.F ht, by rw [ht]; exact hN⟩) hS.2.2 dJ15_checkIndex_7cf53_6)))

set_option maxHeartbeats 4000000 in
set_option maxRecDepth 100000 in
theorem d_elementData (l : Launch) (dC : Nat → ClassId) (dI : Nat → Nat → Nat) (ad : Nat → Nat → Nat) (cid : Nat → ClassId) (a2 : Nat → Nat) (lx : List Nat) (sg : Nat → Int32) (gm : Nat → Nat → Int32) (lg : Nat → Nat → Int64) (x : Int32) (i : Int32) (hI : CI sg gm) (hvx : iv 0 239 x) (hLD : LDI lx gm) (hi0 : 0 ≤ i.toInt) (hil : i.toInt < (gm 41 x.toNatClampNeg).toInt) : CMt dC dI ad cid a2 lx l yJx4a65c_elementData_915e3 wm_Jx4a65c_elementData_915e3 ({ frames := 0, cells := 1, slots := 6, locals := 0 }) [eV (ad 11) x, .int i] sg gm lg (fun v u => ∃ r : Int32, v = some (eV (ad 9) r) ∧ u = (sg, gm, lg) ∧ (iv 0 79 r) ∧ (r = gm 57 (128 * x.toNatClampNeg + i.toNatClampNeg))) (fun _ _ => False) := by
  intro sz
  refine vx_ofW (cc := cJx4a65c_elementData_915e3) (maxL := 2) (ret := (some (.object "java/lang/Object"))) (by decide) rfl ?_
  intro p e s m args below meth c s₁ B hml hxt hv
  obtain ⟨rfl, hsz, hP, hK, hD0, hG⟩ := hv
  have hx := B.exec
  have hb := B.bytes
  have hr := B.returns
  have hts := atoms_spec (ws := wm_Jx4a65c_elementData_915e3) B.pre
  have htb := fun (w : Cond) (h : w ∈ tb) => hts w (List.mem_cons_of_mem _ h)
  have hown : s.vm.findClass RJx4a65c = some m.cls := findClass_of_methodNamed B.named
  have hlocks := B.notSynchronized
  subst hsz
  have hD := hD0.self (sz := s.heap.size)
  generalize hAe : va_A (cW ad cid a2 lx sg gm lg) s.heap.size = A at hD hG ⊢
  have hA : ∀ q : Nat, s.heap.size ≤ q → A q := fun q h => by rw [← hAe]; exact Or.inr h
  have hS : va_S A s.heap s.heap [] := va_S.rf
  have hl := lv_entry ([eV (ad 11) x, .int i]) (n := 2) (by rw [show (lg_sl ([eV (ad 11) x, .int i])).length = 2 from by simp [lg_sl, eV_cat, cat_i, cat_l]]; exact Nat.le_of_ble_eq_true rfl)
  rw [lg_entry_eq]
  generalize (lg_sl ([eV (ad 11) x, .int i]) ++ List.replicate (2 - (lg_sl ([eV (ad 11) x, .int i])).length) Slot.unset).toArray = ls at hl ⊢
  have hl : lv_has ls 2 [(0, eV (ad 11) x), (1, .int i)] := by simp [lv_args, eV_cat, cat_i, cat_l] at hl; exact hl
  refine ec_aload_n hx hb dJx4a65c_elementData_915e3_0 rfl (lv_at hl 0 rfl) ?_
  refine cr_get (t := 11) (j := 1) (C := RJx4a65c) (T := TJx4a65c) (N := 3) (v := dV ad a2 gm x.toNatClampNeg) hx hb htb inJx4a65c hown hK hP hvx (by decide) (by decide) (by decide) rfl (by decide) (htb _ kw_344) rfl dJx4a65c_elementData_915e3_1 ?_
  refine lv_iload_n hx hb dJx4a65c_elementData_915e3_4 rfl (lv_at hl 1 rfl) ?_
  have hq := hLD x.toNatClampNeg (by have := iv_cl hvx (by decide); have := hvx.2; omega)
  have h42 := (show iv 0 127 (gm 42 x.toNatClampNeg) from CI_a hI 42 hvx (by decide))
  have h41 := (show iv 0 80 (gm 41 x.toNatClampNeg) from CI_a hI 41 hvx (by decide))
  have hc9 : ¬ (gm 42 x.toNatClampNeg).toInt = 0 := by have := hq.1; omega
  have k1 := cl_0 hi0
  have k2 := iv_cl h42 (by decide)
  have k3 := iv_cl h41 (by decide)
  refine cl_aald hx hb hK hP (hq.2.1 hc9) hc9 (vp_in_iff.mpr ⟨hi0, by have := hq.1; omega⟩) (by have := hq.1; have := h42.2; omega) dJx4a65c_elementData_915e3_5 ?_
  obtain ⟨z_1, ez_1⟩ : ∃ z : Int32, z = gm 57 (128 * x.toNatClampNeg + i.toNatClampNeg) := ⟨_, rfl⟩
  refine W.eq (g2 := F0 m 6 ls [eV (ad 9) z_1]) (by rw [ez_1]) ?_
  have hz_1 : iv 0 79 z_1 := ⟨by rw [ez_1]; exact hq.2.2 _ (by omega), by rw [ez_1]; exact (show iv (-1) 79 _ from CI_n hI 57 (show 128 * x.toNatClampNeg + i.toNatClampNeg < crLen 57 from by have := iv_cl hvx (by decide); have := hvx.2; have := hq.1; have := h42.2; show _ < 30720; omega)).2⟩
  exact W.nb (fun hN => W.widen (k := 1) (n := 6) (by decide) (by decide) (vx_ret (W.aret (v := eV (ad 9) z_1) hx hb hr (Or.inl ⟨_, rfl⟩) (eV_is _ _) (fun t ht hW => ⟨⟨some (eV (ad 9) z_1), (sg, gm, lg), rfl, ⟨z_1, rfl, rfl, hz_1, (ez_1)⟩, by rw [ht]; exact hP, va_K.moved hW.alike hK, hD⟩, hS.F ht, by rw [ht]; exact hN⟩) hS.2.2 dJx4a65c_elementData_915e3_6)))

set_option maxHeartbeats 4000000 in
set_option maxRecDepth 100000 in
theorem d_lget (l : Launch) (dC : Nat → ClassId) (dI : Nat → Nat → Nat) (ad : Nat → Nat → Nat) (cid : Nat → ClassId) (a2 : Nat → Nat) (lx : List Nat) (sg : Nat → Int32) (gm : Nat → Nat → Int32) (lg : Nat → Nat → Int64) (x : Int32) (i : Int32) (hI : CI sg gm) (hvx : iv 0 239 x) (hLD : LDI lx gm) (hi0 : 0 ≤ i.toInt) (hil : i.toInt < (gm 41 x.toNatClampNeg).toInt) : CMt dC dI ad cid a2 lx l yJx4a65c_get_915e3 wm_Jx4a65c_get_915e3 ({ frames := 2, cells := 1, slots := 6, locals := 43 }) [eV (ad 11) x, .int i] sg gm lg (fun v u => ∃ r : Int32, v = some (eV (ad 9) r) ∧ u = (sg, gm, lg) ∧ (iv 0 79 r) ∧ (r = gm 57 (128 * x.toNatClampNeg + i.toNatClampNeg))) (fun _ _ => False) := by
  intro sz
  refine vx_ofW (cc := cJx4a65c_get_915e3) (maxL := 2) (ret := (some (.object "java/lang/Object"))) (by decide) rfl ?_
  intro p e s m args below meth c s₁ B hml hxt hv
  obtain ⟨rfl, hsz, hP, hK, hD0, hG⟩ := hv
  have hx := B.exec
  have hb := B.bytes
  have hr := B.returns
  have hts := atoms_spec (ws := wm_Jx4a65c_get_915e3) B.pre
  have htb := fun (w : Cond) (h : w ∈ tb) => hts w (List.mem_cons_of_mem _ h)
  have hown : s.vm.findClass RJx4a65c = some m.cls := findClass_of_methodNamed B.named
  have hlocks := B.notSynchronized
  subst hsz
  have hD := hD0.self (sz := s.heap.size)
  generalize hAe : va_A (cW ad cid a2 lx sg gm lg) s.heap.size = A at hD hG ⊢
  have hA : ∀ q : Nat, s.heap.size ≤ q → A q := fun q h => by rw [← hAe]; exact Or.inr h
  have hS : va_S A s.heap s.heap [] := va_S.rf
  have hl := lv_entry ([eV (ad 11) x, .int i]) (n := 2) (by rw [show (lg_sl ([eV (ad 11) x, .int i])).length = 2 from by simp [lg_sl, eV_cat, cat_i, cat_l]]; exact Nat.le_of_ble_eq_true rfl)
  rw [lg_entry_eq]
  generalize (lg_sl ([eV (ad 11) x, .int i]) ++ List.replicate (2 - (lg_sl ([eV (ad 11) x, .int i])).length) Slot.unset).toArray = ls at hl ⊢
  have hl : lv_has ls 2 [(0, eV (ad 11) x), (1, .int i)] := by simp [lv_args, eV_cat, cat_i, cat_l] at hl; exact hl
  refine lv_iload_n hx hb dJx4a65c_get_915e3_0 rfl (lv_at hl 1 rfl) ?_
  refine ec_aload_n hx hb dJx4a65c_get_915e3_1 rfl (lv_at hl 0 rfl) ?_
  refine cr_get (t := 11) (j := 2) (C := RJx4a65c) (T := TJx4a65c) (N := 3) (v := .int (gm 41 x.toNatClampNeg)) hx hb htb inJx4a65c hown hK hP hvx (by decide) (by decide) (by decide) rfl (by decide) (htb _ kw_345) rfl dJx4a65c_get_915e3_2 ?_
  obtain ⟨z_1, ez_1⟩ : ∃ z : Int32, z = (gm 41 x.toNatClampNeg) := ⟨_, rfl⟩
  refine W.eq (g2 := F0 m 5 ls [.int z_1, .int i]) (by rw [ez_1]) ?_
  have hz_1 : iv 0 80 z_1 := iv_of ez_1 (CI_a hI 41 hvx (by decide))
  refine cm_callS (rest := []) (as := [.int i, .int z_1]) ⟨hx, hb, hml, hown, htb⟩ (d_chk l dC dI ad cid a2 lx sg gm lg i z_1 hI hi0 (by rw [ez_1]; exact hil)) (va_cwS 2 htb (gd_S kw_861 kw_862 kw_172 kw_1519) rfl rfl rfl (by decide +kernel) ⟨Nat.le_of_ble_eq_true rfl, Nat.le_of_ble_eq_true rfl⟩)  rfl hl.1 rfl (Nat.le_trans cs_n (by decide)) dJx4a65c_get_915e3_5 ⟨Nat.le_of_ble_eq_true rfl, Nat.le_of_ble_eq_true rfl⟩ hK hP hD hS hA hG (fun E ce q9 u_3 H locs hw hP hD hS hce hcv hcl => ?_) (fun v9 u_3 H locs hw hP hD hS => ?_)
  · exact hw.elim
  obtain ⟨r_2, rfl, rfl, fr_r_2⟩ := hw
  have hP : va_P (dC, dI) vwCl (cW ad cid a2 lx sg gm lg) H := hP
  have hD : va_D A (cW ad cid a2 lx sg gm lg) := hD
  refine W.eq (g2 := F0 m 8 ls [.int r_2]) rfl ?_
  refine lv_pop hx hb dJx4a65c_get_915e3_8 rfl ?_
  refine ec_aload_n hx hb dJx4a65c_get_915e3_9 rfl (lv_at hl 0 rfl) ?_
  refine lv_iload_n hx hb dJx4a65c_get_915e3_10 rfl (lv_at hl 1 rfl) ?_
  refine cm_callV (t := 11) (C := RJx4a65c) (T := TJx4a65c) (N := 3) (rest := []) (as := [.int i]) ⟨hx, hb, hml, hown, htb⟩ (d_elementData l dC dI ad cid a2 lx sg gm lg x i hI hvx hLD hi0 hil) (cwV 1 htb (gd_V kw_864 kw_865 kw_866 kw_157 kw_1520) rfl rfl rfl (by decide +kernel) ⟨Nat.le_of_ble_eq_true rfl, Nat.le_of_ble_eq_true rfl⟩) hvx (by decide) (by decide) rfl rfl hl.1 rfl (Nat.le_trans cs_n (by decide)) dJx4a65c_get_915e3_11 ⟨Nat.le_of_ble_eq_true rfl, Nat.le_of_ble_eq_true rfl⟩ hK hP hD hS hA hG (fun E ce q9 u_6 H locs hw hP hD hS hce hcv hcl => ?_) (fun v9 u_6 H locs hw hP hD hS => ?_)
  · exact hw.elim
  obtain ⟨r_5, rfl, rfl, hr_5, fr_r_5⟩ := hw
  have hP : va_P (dC, dI) vwCl (cW ad cid a2 lx sg gm lg) H := hP
  have hD : va_D A (cW ad cid a2 lx sg gm lg) := hD
  refine W.eq (g2 := F0 m 14 ls [eV (ad 9) r_5]) rfl ?_
  exact W.nb (fun hN => W.widen (k := 1) (n := 6) (by decide) (by decide) (vx_ret (W.aret (v := eV (ad 9) r_5) hx hb hr (Or.inl ⟨_, rfl⟩) (eV_is _ _) (fun t ht hW => ⟨⟨some (eV (ad 9) r_5), (sg, gm, lg), rfl, ⟨r_5, rfl, rfl, hr_5, (fr_r_5)⟩, by rw [ht]; exact hP, va_K.moved hW.alike hK, hD⟩, hS.F ht, by rw [ht]; exact hN⟩) hS.2.2 dJx4a65c_get_915e3_14)))
end
section
theorem ky57 : ∀ t, t < 12 → ∀ j, j < cNf t → cKy t j ≠ 57 := by decide
theorem ay57 : ∀ t, t < 32 → cAy t ≠ 57 := by decide
section LSW
variable {p : Program} {l : Launch} {e : Env} {R : Room} {s : State} {m : MethodId} {args : Array Value} {below : List Frame} {meth : Method} {c : Code} {H : Heap} {locs : List Loc} {cells slots : Nat} {Q : State → Prop} {cc : ByteArray} {pc : Nat} {ls : Array Slot} {rest : List Value} {A : Nat → Prop} {H0 : Heap}
variable {dC : Nat → ClassId} {dI : Nat → Nat → Nat} {ad : Nat → Nat → Nat} {cid : Nat → ClassId} {a2 : Nat → Nat} {lx : List Nat} {sg : Nat → Int32} {gm : Nat → Nat → Int32} {lg : Nat → Nat → Int64} {own : String} {index : Nat}
theorem cE_57 {t i : Nat} {g : Nat → Int32} (ht : t < 32) : cE ad cid a2 sg (va_up gm 57 g) lg t i = cE ad cid a2 sg gm lg t i := by
  have hy : ∀ k, k ≠ 57 → va_up gm 57 g k = gm k := fun k hk => va_up_ne gm g hk
  by_cases h12 : t < 12
  · refine cE_eq (fun j hj => ?_) (fun h => absurd h12 (by omega)) (fun h => absurd h12 (by omega)) (fun h => absurd h12 (by omega))
    unfold cV
    rw [hy _ (ky57 t h12 j hj), hy 42 (by decide)]
  · refine cE_eq (fun j hj => ?_) (fun _ _ j => ?_) (fun _ _ => rfl) (fun _ j => ?_)
    · have h0 : cNf t = 0 := by
        have : ∀ t, t < 32 → ¬ t < 12 → cNf t = 0 := by decide
        exact this t ht h12
      omega
    · unfold cAi; rw [hy _ (ay57 t ht)]
    · unfold cAr; rw [hy _ (ay57 t ht)]
theorem cDr_ne {q q2 n : Nat} {z : Int32} (hq : q2 ≠ q) (hn : n < 128) : cD ad cid (va_up gm 57 (upd (gm 57) (128 * q + n) z)) q2 = cD ad cid gm q2 := by
  unfold cD
  rw [va_up_ne gm _ (show (42 : Nat) ≠ 57 by decide)]
  have : cDr ad (va_up gm 57 (upd (gm 57) (128 * q + n) z)) q2 = cDr ad gm q2 := funext fun j => by
    unfold cDr
    by_cases hj : j < 128
    · rw [if_pos hj, if_pos hj, show va_up gm 57 (upd (gm 57) (128 * q + n) z) 57 = upd (gm 57) (128 * q + n) z from up_at rfl, upd_ne (by omega)]
    · rw [if_neg hj, if_neg hj]
  rw [this]
theorem cDr_at {q n : Nat} {z : Int32} (hn : n < 128) : cDr ad (va_up gm 57 (upd (gm 57) (128 * q + n) z)) q = va_up (cDr ad gm q) n (er (ad 9) z) := funext fun j => by
  by_cases e9 : j = n
  · subst e9
    rw [show va_up (cDr ad gm q) j (er (ad 9) z) j = er (ad 9) z from up_at rfl]
    unfold cDr
    rw [if_pos hn, show va_up gm 57 (upd (gm 57) (128 * q + j) z) 57 = upd (gm 57) (128 * q + j) z from up_at rfl, upd_at]
  · rw [va_up_ne _ _ e9]
    unfold cDr
    by_cases hj : j < 128
    · rw [if_pos hj, if_pos hj, show va_up gm 57 (upd (gm 57) (128 * q + n) z) 57 = upd (gm 57) (128 * q + n) z from up_at rfl, upd_ne (by omega)]
    · rw [if_neg hj, if_neg hj]
theorem cW_lat {i q : Nat} (hi : lx[i]? = some q) : (cW ad cid a2 lx sg gm lg)[(cFx ad cid a2 sg gm lg).length + i]? = some (a2 q, cD ad cid gm q) := by
  unfold cW
  rw [List.getElem?_append_right (Nat.le_add_right _ _), Nat.add_sub_cancel_left, List.getElem?_map, hi]
  rfl
theorem cFx_57 {g : Nat → Int32} : cFx ad cid a2 sg (va_up gm 57 g) lg = cFx ad cid a2 sg gm lg := by
  unfold cFx
  generalize hL : cPL = L
  refine List.map_congr_left (fun x hx => ?_)
  obtain ⟨k, hk⟩ := List.getElem?_of_mem hx
  rw [← hL] at hk
  rw [cE_57 (cPL_in hk).1]
theorem cW_dist {i j q : Nat} (hD : va_D A (cW ad cid a2 lx sg gm lg)) (hi : lx[i]? = some q) (hj : lx[j]? = some q) : j = i := by
  have h := hD.1 _ _ _ _ (cW_lat (ad := ad) (cid := cid) (a2 := a2) (sg := sg) (gm := gm) (lg := lg) hj) (cW_lat (ad := ad) (cid := cid) (a2 := a2) (sg := sg) (gm := gm) (lg := lg) hi) rfl
  generalize (cFx ad cid a2 sg gm lg).length = N at h
  omega
theorem cD_at {q n : Nat} {z : Int32} (hn : n < 128) : cD ad cid (va_up gm 57 (upd (gm 57) (128 * q + n) z)) q = .inl (cid 32, (gm 42 q).toNatClampNeg, .inr (.inr (.inr (.inr (va_up (cDr ad gm q) n (er (ad 9) z)))))) := by
  unfold cD
  rw [cDr_at hn, va_up_ne gm _ (show (42 : Nat) ≠ 57 by decide)]
theorem map_set {α β : Type} {f g : α → β} {x : α} : ∀ (L : List α) (i : Nat), L[i]? = some x → (∀ j y, L[j]? = some y → j ≠ i → f y = g y) → (L.map f).set i (g x) = L.map g
  | [], i, h, _ => by cases h
  | y :: L, 0, h, hne => by
    have e1 : y = x := Option.some.inj h
    subst e1
    show g y :: L.map f = g y :: L.map g
    rw [List.map_congr_left (fun b hb => by
      obtain ⟨k, hk⟩ := List.getElem?_of_mem hb
      exact hne (k + 1) b hk (Nat.succ_ne_zero k))]
  | y :: L, i + 1, h, hne => by
    show f y :: (L.map f).set i (g x) = g y :: L.map g
    rw [map_set L i h (fun j b hb hj => hne (j + 1) b hb (fun e9 => hj (Nat.succ.inj e9))), hne 0 y rfl (Ne.symm (Nat.succ_ne_zero i))]
theorem cl_set {F : va_W} {i q n : Nat} {z : Int32} (hd : ∀ j, lx[j]? = some q → j = i) (hi : lx[i]? = some q) (hn : n < 128) :
    (F ++ lx.map (fun q => (a2 q, cD ad cid gm q))).set (F.length + i) (a2 q, .inl (cid 32, (gm 42 q).toNatClampNeg, .inr (.inr (.inr (.inr (va_up (cDr ad gm q) n (er (ad 9) z))))))) = F ++ lx.map (fun q2 => (a2 q2, cD ad cid (va_up gm 57 (upd (gm 57) (128 * q + n) z)) q2)) := by
  rw [List.set_append_right _ _ (Nat.le_add_right _ _), Nat.add_sub_cancel_left, ← cD_at hn]
  rw [map_set (f := fun q => (a2 q, cD ad cid gm q)) (g := fun q2 => (a2 q2, cD ad cid (va_up gm 57 (upd (gm 57) (128 * q + n) z)) q2)) lx i hi (fun j y hy hj => by rw [cDr_ne (fun e9 => hj (hd j (by rw [hy, e9]))) hn])]
theorem cW_d {i q n : Nat} {z : Int32} {r : Option Nat} (hD : va_D A (cW ad cid a2 lx sg gm lg)) (hi : lx[i]? = some q) (hn : n < 128) (hr : r = er (ad 9) z) :
    (cW ad cid a2 lx sg gm lg).set ((cFx ad cid a2 sg gm lg).length + i) (a2 q, .inl (cid 32, (gm 42 q).toNatClampNeg, .inr (.inr (.inr (.inr (va_up (cDr ad gm q) n r)))))) = cW ad cid a2 lx sg (va_up gm 57 (upd (gm 57) (128 * q + n) z)) lg := by
  subst hr
  have hd : ∀ j, lx[j]? = some q → j = i := fun j hj => cW_dist hD hi hj
  unfold cW
  rw [cFx_57]
  exact cl_set hd hi hn
theorem va_astO {D : va_G} {cl : List vw_C} {tys : List (ClassId × FieldType)} {ws : va_W} {a : Nat} (hexec : p.tables.exec = Jvm.exec) (hb : c.code = cc) (hK : va_K D cl tys s) (hP : va_P D cl ws H) (hD : va_D A ws) (hS : va_S A H0 H locs) (q0 t0 : Nat) {cA : ClassId} {C : String} {n v : Nat} {f : Nat → Option Nat} (ha : ws[q0]? = some (a, .inl (cA, n, .inr (.inr (.inr (.inr f)))))) (ht : tys[t0]? = some (cA, .object "java/lang/Object"))
    (hr : ∃ cell : Cell, H[v]? = some cell ∧ cell.vm.isStatics = false ∧ s.vm.findClass C = some cell.cls) (hc : va_Nw (.castable C "java/lang/Object") s) {i : Int32} (hin : vp_in i n) (hdg : decode cc pc = .ok (.aastore, 1))
    (kk : ∀ (H1 : Heap) (locs1 : List Loc), va_P D cl (ws.set q0 (a, .inl (cA, n, .inr (.inr (.inr (.inr (va_up f i.toNatClampNeg (some v)))))))) H1 → va_D A (ws.set q0 (a, .inl (cA, n, .inr (.inr (.inr (.inr (va_up f i.toNatClampNeg (some v)))))))) → va_S A H0 H1 locs1 → W p l e R s m args below meth c H1 locs1 cells slots Q (F0 m (pc + 1) ls rest)) : W p l e R s m args below meth c H locs cells slots Q (F0 m pc ls (.ref v :: .int i :: .ref a :: rest)) := by
  have hlt : i.toNatClampNeg < n := Nat.not_le.mp fun q => hin (Or.inr q)
  have h0 : ¬ i < 0 := fun q => hin (Or.inl q)
  obtain ⟨cellV, g1, g2, g3⟩ := hr
  obtain ⟨c0, t9, f1, f2, f3⟩ := Cond.castable_spec (va_Nw.use (A := args) rfl hc)
  cases g3.symm.trans f1
  obtain ⟨kA, comp, k1, k2, k3, -⟩ := (hK.2 t0 _ ht).2
  cases k3.symm.trans f2
  obtain ⟨kC, hkC, -⟩ := Vm.findClass_spec f2
  obtain ⟨kV, hkV, -⟩ := Vm.findClass_spec f1
  refine W.aast hexec hb (hP q0 _ ha) (fun q h => by cases h) (fun h => by cases h) k1 k2 rfl hkC ⟨h0, by show _ < (arrV _ _ _).slots.size; rw [arrV_size]; exact hlt⟩ g1 (fun q h => by rw [h] at g2; cases g2) hkV f3 rfl rfl hdg fun H1 e z oq => ?_
  refine kk H1 _ (hP.set hD ha ?_ oq) (hD.set ha) (hS.put z oq (hD.2 q0 _ ha))
  show H1[a]? = some (vp_cell _ _)
  rw [e]
  rw [vp_cell_q, vp_cell_q, arrV_store]
  congr 2
  funext q
  by_cases hq : q = i.toNatClampNeg
  · subst hq
    simp [updV, va_up, va_rf]
  · simp [updV, va_up, hq]
/-- an element is written into a list's cells -/
theorem cl_aast {q : Nat} {h : Int} {y z : Int32} (hexec : p.tables.exec = Jvm.exec) (hb : c.code = cc) (hG : CE ad A s) (hK : va_K (dC, dI) vwCl (cT cid) s) (hP : va_P (dC, dI) vwCl (cW ad cid a2 lx sg gm lg) H) (hD : va_D A (cW ad cid a2 lx sg gm lg)) (hS : va_S A H0 H locs) (hl : q ∈ lx) (hc : ¬ (gm 42 q).toInt = 0) (hin : vp_in y (gm 42 q).toNatClampNeg) (h8 : y.toNatClampNeg < 128) (hz : iv 0 h z) (hn : h < (cNum 9 : Int)) (hdg : decode cc pc = .ok (.aastore, 1))
    (kk : ∀ (gm1 : Nat → Nat → Int32) (H1 : Heap) (locs1 : List Loc), gm1 = va_up gm 57 (upd (gm 57) (128 * q + y.toNatClampNeg) z) → va_P (dC, dI) vwCl (cW ad cid a2 lx sg gm1 lg) H1 → va_D A (cW ad cid a2 lx sg gm1 lg) → va_S A H0 H1 locs1 → W p l e R s m args below meth c H1 locs1 cells slots Q (F0 m (pc + 1) ls rest)) : W p l e R s m args below meth c H locs cells slots Q (F0 m pc ls (eV (ad 9) z :: .int y :: dV ad a2 gm q :: rest)) := by
  rw [dV_n hc, eV_ref hz.1]
  obtain ⟨i, hi⟩ := List.getElem?_of_mem hl
  refine va_astO (D := (dC, dI)) (C := RX3) hexec hb hK hP hD hS _ 32 (cW_lat hi) (by rw [cT_at (by decide)]; rfl) (cm_recv (C := RX3) (T := TX3) (N := 21) hK hP hz hn (by decide) rfl) hG.2.1.2.2.1.1 hin hdg (fun H1 locs1 g1 g2 g3 => kk _ H1 locs1 rfl ?_ ?_ g3)
  · rw [cW_d hD hi h8 (er_some hz.1).symm] at g1; exact g1
  · rw [cW_d hD hi h8 (er_some hz.1).symm] at g2; exact g2
/-- a place of a list's cells is emptied -/
theorem cl_aastN {q : Nat} {y : Int32} {a9 : Nat → Nat} (hexec : p.tables.exec = Jvm.exec) (hb : c.code = cc) (hK : va_K (dC, dI) vwCl (cT cid) s) (hP : va_P (dC, dI) vwCl (cW ad cid a2 lx sg gm lg) H) (hD : va_D A (cW ad cid a2 lx sg gm lg)) (hS : va_S A H0 H locs) (hl : q ∈ lx) (hc : ¬ (gm 42 q).toInt = 0) (hin : vp_in y (gm 42 q).toNatClampNeg) (h8 : y.toNatClampNeg < 128) (hdg : decode cc pc = .ok (.aastore, 1))
    (kk : ∀ (gm1 : Nat → Nat → Int32) (H1 : Heap) (locs1 : List Loc), gm1 = va_up gm 57 (upd (gm 57) (128 * q + y.toNatClampNeg) (-1)) → va_P (dC, dI) vwCl (cW ad cid a2 lx sg gm1 lg) H1 → va_D A (cW ad cid a2 lx sg gm1 lg) → va_S A H0 H1 locs1 → W p l e R s m args below meth c H1 locs1 cells slots Q (F0 m (pc + 1) ls rest)) : W p l e R s m args below meth c H locs cells slots Q (F0 m pc ls (eV a9 (-1) :: .int y :: dV ad a2 gm q :: rest)) := by
  rw [dV_n hc, eV_null (by decide)]
  obtain ⟨i, hi⟩ := List.getElem?_of_mem hl
  refine va_astqN (D := (dC, dI)) (C := "java/lang/Object") hexec hb hK hP hD hS _ 32 (cW_lat hi) (by rw [cT_at (by decide)]; rfl) hin hdg (fun H1 locs1 g1 g2 g3 => kk _ H1 locs1 rfl ?_ ?_ g3)
  · rw [cW_d hD hi h8 (er_none (a := ad 9) (x := -1) (by decide)).symm] at g1; exact g1
  · rw [cW_d hD hi h8 (er_none (a := ad 9) (x := -1) (by decide)).symm] at g2; exact g2
end LSW
end
section
theorem LDI_set {lx : List Nat} {gm gm1 : Nat → Nat → Int32} {q n : Nat} {z : Int32} (h : LDI lx gm) (e : gm1 = va_up gm 57 (upd (gm 57) (128 * q + n) z)) (hz : 0 ≤ z.toInt) : LDI lx gm1 := fun q2 h2 => by
  subst e
  rw [va_up_ne gm _ (show (41 : Nat) ≠ 57 by decide), va_up_ne gm _ (show (42 : Nat) ≠ 57 by decide)]
  obtain ⟨a1, a2, a3⟩ := h q2 h2
  refine ⟨a1, a2, fun j hj => ?_⟩
  rw [show va_up gm 57 (upd (gm 57) (128 * q + n) z) 57 = upd (gm 57) (128 * q + n) z from up_at rfl]
  by_cases e9 : 128 * q2 + j = 128 * q + n
  · rw [e9, upd_at]; exact hz
  · rw [upd_ne e9]; exact a3 j hj

theorem dJx4a65c_set_bcc79_0g : decode cJx4a65c_set_bcc79 0 = .ok (.iload_n 1, 1) ∧ decode cJx4a65c_set_bcc79 1 = .ok (.aload_n 0, 1) ∧ decode cJx4a65c_set_bcc79 2 = .ok (.getfield 48, 3) ∧ decode cJx4a65c_set_bcc79 5 = .ok (.invokestatic 118, 3) ∧ decode cJx4a65c_set_bcc79 8 = .ok (.pop, 1) ∧ decode cJx4a65c_set_bcc79 9 = .ok (.aload_n 0, 1) ∧ decode cJx4a65c_set_bcc79 10 = .ok (.iload_n 1, 1) ∧ decode cJx4a65c_set_bcc79 11 = .ok (.invokevirtual 123, 3) ∧ decode cJx4a65c_set_bcc79 14 = .ok (.astore_n 3, 1) ∧ decode cJx4a65c_set_bcc79 15 = .ok (.aload_n 0, 1) ∧ decode cJx4a65c_set_bcc79 16 = .ok (.getfield 9, 3) ∧ decode cJx4a65c_set_bcc79 19 = .ok (.iload_n 1, 1) ∧ decode cJx4a65c_set_bcc79 20 = .ok (.aload_n 2, 1) ∧ decode cJx4a65c_set_bcc79 21 = .ok (.aastore, 1) ∧ decode cJx4a65c_set_bcc79 22 = .ok (.aload_n 3, 1) ∧ decode cJx4a65c_set_bcc79 23 = .ok (.areturn, 1) := by decide +kernel
theorem dJx4a65c_set_bcc79_0 : decode cJx4a65c_set_bcc79 0 = .ok (.iload_n 1, 1) := dJx4a65c_set_bcc79_0g.1
theorem dJx4a65c_set_bcc79_1 : decode cJx4a65c_set_bcc79 1 = .ok (.aload_n 0, 1) := dJx4a65c_set_bcc79_0g.2.1
theorem dJx4a65c_set_bcc79_2 : decode cJx4a65c_set_bcc79 2 = .ok (.getfield 48, 3) := dJx4a65c_set_bcc79_0g.2.2.1
theorem dJx4a65c_set_bcc79_5 : decode cJx4a65c_set_bcc79 5 = .ok (.invokestatic 118, 3) := dJx4a65c_set_bcc79_0g.2.2.2.1
theorem dJx4a65c_set_bcc79_8 : decode cJx4a65c_set_bcc79 8 = .ok (.pop, 1) := dJx4a65c_set_bcc79_0g.2.2.2.2.1
theorem dJx4a65c_set_bcc79_9 : decode cJx4a65c_set_bcc79 9 = .ok (.aload_n 0, 1) := dJx4a65c_set_bcc79_0g.2.2.2.2.2.1
theorem dJx4a65c_set_bcc79_10 : decode cJx4a65c_set_bcc79 10 = .ok (.iload_n 1, 1) := dJx4a65c_set_bcc79_0g.2.2.2.2.2.2.1
theorem dJx4a65c_set_bcc79_11 : decode cJx4a65c_set_bcc79 11 = .ok (.invokevirtual 123, 3) := dJx4a65c_set_bcc79_0g.2.2.2.2.2.2.2.1
theorem dJx4a65c_set_bcc79_14 : decode cJx4a65c_set_bcc79 14 = .ok (.astore_n 3, 1) := dJx4a65c_set_bcc79_0g.2.2.2.2.2.2.2.2.1
theorem dJx4a65c_set_bcc79_15 : decode cJx4a65c_set_bcc79 15 = .ok (.aload_n 0, 1) := dJx4a65c_set_bcc79_0g.2.2.2.2.2.2.2.2.2.1
theorem dJx4a65c_set_bcc79_16 : decode cJx4a65c_set_bcc79 16 = .ok (.getfield 9, 3) := dJx4a65c_set_bcc79_0g.2.2.2.2.2.2.2.2.2.2.1
theorem dJx4a65c_set_bcc79_19 : decode cJx4a65c_set_bcc79 19 = .ok (.iload_n 1, 1) := dJx4a65c_set_bcc79_0g.2.2.2.2.2.2.2.2.2.2.2.1
theorem dJx4a65c_set_bcc79_20 : decode cJx4a65c_set_bcc79 20 = .ok (.aload_n 2, 1) := dJx4a65c_set_bcc79_0g.2.2.2.2.2.2.2.2.2.2.2.2.1
theorem dJx4a65c_set_bcc79_21 : decode cJx4a65c_set_bcc79 21 = .ok (.aastore, 1) := dJx4a65c_set_bcc79_0g.2.2.2.2.2.2.2.2.2.2.2.2.2.1
theorem dJx4a65c_set_bcc79_22 : decode cJx4a65c_set_bcc79 22 = .ok (.aload_n 3, 1) := dJx4a65c_set_bcc79_0g.2.2.2.2.2.2.2.2.2.2.2.2.2.2.1
theorem dJx4a65c_set_bcc79_23 : decode cJx4a65c_set_bcc79 23 = .ok (.areturn, 1) := dJx4a65c_set_bcc79_0g.2.2.2.2.2.2.2.2.2.2.2.2.2.2.2

set_option maxHeartbeats 4000000 in
set_option maxRecDepth 100000 in
theorem d_lset (l : Launch) (dC : Nat → ClassId) (dI : Nat → Nat → Nat) (ad : Nat → Nat → Nat) (cid : Nat → ClassId) (a2 : Nat → Nat) (lx : List Nat) (sg : Nat → Int32) (gm : Nat → Nat → Int32) (lg : Nat → Nat → Int64) (x : Int32) (i : Int32) (el : Int32) (hI : CI sg gm) (hvx : iv 0 239 x) (hvel : iv 0 79 el) (hLD : LDI lx gm) (hi0 : 0 ≤ i.toInt) (hil : i.toInt < (gm 41 x.toNatClampNeg).toInt) : CMt dC dI ad cid a2 lx l yJx4a65c_set_bcc79 wm_Jx4a65c_set_bcc79 ({ frames := 2, cells := 1, slots := 6, locals := 43 }) [eV (ad 11) x, .int i, eV (ad 9) el] sg gm lg (fun v u => ∃ r : Int32, v = some (eV (ad 9) r) ∧ ∃ (sg2 : Nat → Int32) (gm2 : Nat → Nat → Int32) (lg2 : Nat → Nat → Int64), u = (sg2, gm2, lg2) ∧ CI sg2 gm2 ∧ KS [] sg sg2 ∧ KS [57] gm gm2 ∧ KS [] lg lg2 ∧ (iv 0 79 r) ∧ (gm2 57 = upd (gm 57) (128 * x.toNatClampNeg + i.toNatClampNeg) el) ∧ (LDI lx gm2)) (fun _ _ => False) := by
  intro sz
  refine vx_ofW (cc := cJx4a65c_set_bcc79) (maxL := 4) (ret := (some (.object "java/lang/Object"))) (by decide) rfl ?_
  intro p e s m args below meth c s₁ B hml hxt hv
  obtain ⟨rfl, hsz, hP, hK, hD0, hG⟩ := hv
  have hx := B.exec
  have hb := B.bytes
  have hr := B.returns
  have hts := atoms_spec (ws := wm_Jx4a65c_set_bcc79) B.pre
  have htb := fun (w : Cond) (h : w ∈ tb) => hts w (List.mem_cons_of_mem _ h)
  have hown : s.vm.findClass RJx4a65c = some m.cls := findClass_of_methodNamed B.named
  have hlocks := B.notSynchronized
  subst hsz
  have hD := hD0.self (sz := s.heap.size)
  generalize hAe : va_A (cW ad cid a2 lx sg gm lg) s.heap.size = A at hD hG ⊢
  have hA : ∀ q : Nat, s.heap.size ≤ q → A q := fun q h => by rw [← hAe]; exact Or.inr h
  have hS : va_S A s.heap s.heap [] := va_S.rf
  have hl := lv_entry ([eV (ad 11) x, .int i, eV (ad 9) el]) (n := 4) (by rw [show (lg_sl ([eV (ad 11) x, .int i, eV (ad 9) el])).length = 3 from by simp [lg_sl, eV_cat, cat_i, cat_l]]; exact Nat.le_of_ble_eq_true rfl)
  rw [lg_entry_eq]
  generalize (lg_sl ([eV (ad 11) x, .int i, eV (ad 9) el]) ++ List.replicate (4 - (lg_sl ([eV (ad 11) x, .int i, eV (ad 9) el])).length) Slot.unset).toArray = ls at hl ⊢
  have hl : lv_has ls 4 [(0, eV (ad 11) x), (1, .int i), (2, eV (ad 9) el)] := by simp [lv_args, eV_cat, cat_i, cat_l] at hl; exact hl
  refine lv_iload_n hx hb dJx4a65c_set_bcc79_0 rfl (lv_at hl 1 rfl) ?_
  refine ec_aload_n hx hb dJx4a65c_set_bcc79_1 rfl (lv_at hl 0 rfl) ?_
  refine cr_get (t := 11) (j := 2) (C := RJx4a65c) (T := TJx4a65c) (N := 3) (v := .int (gm 41 x.toNatClampNeg)) hx hb htb inJx4a65c hown hK hP hvx (by decide) (by decide) (by decide) rfl (by decide) (htb _ kw_345) rfl dJx4a65c_set_bcc79_2 ?_
  obtain ⟨z_1, ez_1⟩ : ∃ z : Int32, z = (gm 41 x.toNatClampNeg) := ⟨_, rfl⟩
  refine W.eq (g2 := F0 m 5 ls [.int z_1, .int i]) (by rw [ez_1]) ?_
  have hz_1 : iv 0 80 z_1 := iv_of ez_1 (CI_a hI 41 hvx (by decide))
  refine cm_callS (rest := []) (as := [.int i, .int z_1]) ⟨hx, hb, hml, hown, htb⟩ (d_chk l dC dI ad cid a2 lx sg gm lg i z_1 hI hi0 (by rw [ez_1]; exact hil)) (va_cwS 2 htb (gd_S kw_861 kw_862 kw_172 kw_1519) rfl rfl rfl (by decide +kernel) ⟨Nat.le_of_ble_eq_true rfl, Nat.le_of_ble_eq_true rfl⟩)  rfl hl.1 rfl (Nat.le_trans cs_n (by decide)) dJx4a65c_set_bcc79_5 ⟨Nat.le_of_ble_eq_true rfl, Nat.le_of_ble_eq_true rfl⟩ hK hP hD hS hA hG (fun E ce q9 u_3 H locs hw hP hD hS hce hcv hcl => ?_) (fun v9 u_3 H locs hw hP hD hS => ?_)
  · exact hw.elim
  obtain ⟨r_2, rfl, rfl, fr_r_2⟩ := hw
  have hP : va_P (dC, dI) vwCl (cW ad cid a2 lx sg gm lg) H := hP
  have hD : va_D A (cW ad cid a2 lx sg gm lg) := hD
  refine W.eq (g2 := F0 m 8 ls [.int r_2]) rfl ?_
  refine lv_pop hx hb dJx4a65c_set_bcc79_8 rfl ?_
  refine ec_aload_n hx hb dJx4a65c_set_bcc79_9 rfl (lv_at hl 0 rfl) ?_
  refine lv_iload_n hx hb dJx4a65c_set_bcc79_10 rfl (lv_at hl 1 rfl) ?_
  refine cm_callV (t := 11) (C := RJx4a65c) (T := TJx4a65c) (N := 3) (rest := []) (as := [.int i]) ⟨hx, hb, hml, hown, htb⟩ (d_elementData l dC dI ad cid a2 lx sg gm lg x i hI hvx hLD hi0 hil) (cwV 1 htb (gd_V kw_864 kw_865 kw_866 kw_157 kw_1520) rfl rfl rfl (by decide +kernel) ⟨Nat.le_of_ble_eq_true rfl, Nat.le_of_ble_eq_true rfl⟩) hvx (by decide) (by decide) rfl rfl hl.1 rfl (Nat.le_trans cs_n (by decide)) dJx4a65c_set_bcc79_11 ⟨Nat.le_of_ble_eq_true rfl, Nat.le_of_ble_eq_true rfl⟩ hK hP hD hS hA hG (fun E ce q9 u_6 H locs hw hP hD hS hce hcv hcl => ?_) (fun v9 u_6 H locs hw hP hD hS => ?_)
  · exact hw.elim
  obtain ⟨r_5, rfl, rfl, hr_5, fr_r_5⟩ := hw
  have hP : va_P (dC, dI) vwCl (cW ad cid a2 lx sg gm lg) H := hP
  have hD : va_D A (cW ad cid a2 lx sg gm lg) := hD
  refine W.eq (g2 := F0 m 14 ls [eV (ad 9) r_5]) rfl ?_
  refine ec_astore_n (i := 3) (lv' := [(3, eV (ad 9) r_5), (0, eV (ad 11) x), (1, .int i), (2, eV (ad 9) el)]) hx hb dJx4a65c_set_bcc79_14 rfl hl (by decide) (by simp [List.filter, eV_cat, cat_i, cat_l]) (fun ls hl => ?_)
  refine ec_aload_n hx hb dJx4a65c_set_bcc79_15 rfl (lv_at hl 1 rfl) ?_
  refine cr_get (t := 11) (j := 1) (C := RJx4a65c) (T := TJx4a65c) (N := 3) (v := dV ad a2 gm x.toNatClampNeg) hx hb htb inJx4a65c hown hK hP hvx (by decide) (by decide) (by decide) rfl (by decide) (htb _ kw_344) rfl dJx4a65c_set_bcc79_16 ?_
  refine lv_iload_n hx hb dJx4a65c_set_bcc79_19 rfl (lv_at hl 2 rfl) ?_
  refine ec_aload_n hx hb dJx4a65c_set_bcc79_20 rfl (lv_at hl 3 rfl) ?_
  have hq := hLD x.toNatClampNeg (by have := iv_cl hvx (by decide); have := hvx.2; omega)
  have h42 := (show iv 0 127 (gm 42 x.toNatClampNeg) from CI_a hI 42 hvx (by decide))
  have h41 := (show iv 0 80 (gm 41 x.toNatClampNeg) from CI_a hI 41 hvx (by decide))
  have hc9 : ¬ (gm 42 x.toNatClampNeg).toInt = 0 := by have := hq.1; omega
  have k1 := cl_0 hi0
  have k2 := iv_cl h42 (by decide)
  have k3 := iv_cl h41 (by decide)
  refine cl_aast hx hb hG hK hP hD hS (hq.2.1 hc9) hc9 (vp_in_iff.mpr ⟨hi0, by have := hq.1; omega⟩) (by have := hq.1; have := h42.2; omega) hvel (by decide) dJx4a65c_set_bcc79_21 (fun gm_8 H locs egm_8 hP hD hS => ?_)
  have hI_gm_8 := CI_st hI egm_8 hvel (by decide)
  refine ec_aload_n hx hb dJx4a65c_set_bcc79_22 rfl (lv_at hl 0 rfl) ?_
  exact W.nb (fun hN => W.widen (k := 1) (n := 6) (by decide) (by decide) (vx_ret (W.aret (v := eV (ad 9) r_5) hx hb hr (Or.inl ⟨_, rfl⟩) (eV_is _ _) (fun t ht hW => ⟨⟨some (eV (ad 9) r_5), (sg, gm_8, lg), rfl, ⟨r_5, rfl, sg, gm_8, lg, rfl, hI_gm_8, KS_rf, (KS_up KS_rf egm_8 (by decide)), KS_rf, hr_5, (up_at egm_8), (LDI_set hLD egm_8 hvel.1)⟩, by rw [ht]; exact hP, va_K.moved hW.alike hK, hD⟩, hS.F ht, by rw [ht]; exact hN⟩) hS.2.2 dJx4a65c_set_bcc79_23)))
end
section
section LSM
variable {p : Program} {l : Launch} {e : Env} {R : Room} {s : State} {m : MethodId} {args : Array Value} {below : List Frame} {meth : Method} {c : Code} {H : Heap} {locs : List Loc} {cells slots : Nat} {Q : State → Prop} {cc : ByteArray} {pc : Nat} {ls : Array Slot} {rest : List Value} {A : Nat → Prop} {H0 : Heap}
variable {dC : Nat → ClassId} {dI : Nat → Nat → Nat} {ad : Nat → Nat → Nat} {cid : Nat → ClassId} {a2 : Nat → Nat} {lx : List Nat} {sg : Nat → Int32} {gm : Nat → Nat → Int32} {lg : Nat → Nat → Int64} {own : String} {index : Nat}
theorem cl_getM {h : Int} {x : Int32} (hexec : p.tables.exec = Jvm.exec) (hb : c.code = cc) (htb : ∀ w ∈ tb, w.before args s = true) (hown : s.vm.findClass own = some m.cls) (hK : va_K (dC, dI) vwCl (cT cid) s) (hP : va_P (dC, dI) vwCl (cW ad cid a2 lx sg gm lg) H) (hx : iv 0 h x) (hn : h < (cNum 11 : Int)) (hlink : (Cond.fieldLink own index "java/util/ArrayList" "modCount" "I").before args s = true) (hdg : decode cc pc = .ok (.getfield index, 3))
    (kk : W p l e R s m args below meth c H locs cells slots Q (F0 m (pc + 3) ls (.int (gm 40 x.toNatClampNeg) :: rest))) : W p l e R s m args below meth c H locs cells slots Q (F0 m pc ls (eV (ad 11) x :: rest)) := by
  obtain ⟨p9, hp⟩ := cPL_at (t := 11) (by decide) (cnx hx hn)
  rw [eV_ref hx.1]
  exact va_get (D := (dC, dI)) (ci := cIx 11) (C := RJx4a65c) (T := TJx4a65c) (N := 3) (ref := "java/util/ArrayList") hexec hb htb inJx4a65c hown hK hP p9 (by rw [cW_at hp, cE_o (by decide)]) rfl 0 (by decide) hlink (fun x9 h9 => u_same (htb _ kw_348) x9 h9) (by rw [cFs_get (by decide)]; rfl) hdg kk
theorem cl_putM {h : Int} {x y : Int32} (hexec : p.tables.exec = Jvm.exec) (hb : c.code = cc) (htb : ∀ w ∈ tb, w.before args s = true) (hown : s.vm.findClass own = some m.cls) (hK : va_K (dC, dI) vwCl (cT cid) s) (hP : va_P (dC, dI) vwCl (cW ad cid a2 lx sg gm lg) H) (hD : va_D A (cW ad cid a2 lx sg gm lg)) (hS : va_S A H0 H locs) (hx : iv 0 h x) (hn : h < (cNum 11 : Int)) (hlink : (Cond.fieldLink own index "java/util/ArrayList" "modCount" "I").before args s = true) (hdg : decode cc pc = .ok (.putfield index, 3))
    (kk : ∀ (gm1 : Nat → Nat → Int32) (H1 : Heap) (locs1 : List Loc), gm1 = va_up gm 40 (upd (gm 40) x.toNatClampNeg y) → va_P (dC, dI) vwCl (cW ad cid a2 lx sg gm1 lg) H1 → va_D A (cW ad cid a2 lx sg gm1 lg) → va_S A H0 H1 locs1 → W p l e R s m args below meth c H1 locs1 cells slots Q (F0 m (pc + 3) ls rest)) : W p l e R s m args below meth c H locs cells slots Q (F0 m pc ls (.int y :: eV (ad 11) x :: rest)) := by
  obtain ⟨p9, hp⟩ := cPL_at (t := 11) (by decide) (cnx hx hn)
  rw [eV_ref hx.1]
  have hv : Value.int y = cV ad a2 sg (va_up gm (cKy 11 0) (upd (gm (cKy 11 0)) x.toNatClampNeg y)) lg 11 0 x.toNatClampNeg := by
    show _ = Value.int (va_up gm 40 (upd (gm 40) x.toNatClampNeg y) 40 x.toNatClampNeg)
    rw [show va_up gm 40 (upd (gm 40) x.toNatClampNeg y) 40 = upd (gm 40) x.toNatClampNeg y from up_at rfl, upd_at]
  refine va_put (D := (dC, dI)) (ci := cIx 11) (v := .int y) (ty := tyJx4a65c 0) (C := RJx4a65c) (T := TJx4a65c) (N := 3) (ref := "java/util/ArrayList") hexec hb htb inJx4a65c tyJx4a65c tyJx4a65c_ok nmJx4a65c hown hK hP hD hS p9 (by rw [cW_at hp, cE_o (by decide)]) rfl 0 (by decide) hlink (fun x9 h9 => u_same (htb _ kw_348) x9 h9) rfl (tyJx4a65c_ok 0 (by decide)) rfl rfl (by rw [cFs_len]; decide) hdg (fun H1 locs1 g1 g2 g3 => kk _ H1 locs1 rfl ?_ ?_ g3)
  · rw [hv, cW_g hp (by decide) (by decide) (Or.inl rfl)] at g1; exact g1
  · rw [hv, cW_g hp (by decide) (by decide) (Or.inl rfl)] at g2; exact g2
end LSM
theorem iv_fl (x : Int32) : iv (-2147483648) 2147483647 x := ⟨x.le_toInt, by have := x.toInt_lt; omega⟩
theorem LDI_clr {lx : List Nat} {sg : Nat → Int32} {gm gm2 : Nat → Nat → Int32} {q : Nat} (hI : CI sg gm) (h : LDI lx gm) (h41 : gm2 41 = upd (gm 41) q 0) (h42 : gm2 42 = gm 42) (h57 : ∀ q2, q2 ≠ q → ∀ j9, j9 < 128 → gm2 57 (128 * q2 + j9) = gm 57 (128 * q2 + j9)) : LDI lx gm2 := fun q2 hq2 => by
  obtain ⟨b1, b2, b3⟩ := h q2 hq2
  have c42 := (show iv 0 127 (gm 42 q2) from CI_n hI 42 hq2)
  have c41 := (show iv 0 80 (gm 41 q2) from CI_n hI 41 hq2)
  rw [h41, h42]
  by_cases e9 : q2 = q
  · rw [e9, upd_at]
    rw [e9] at b2 c42
    refine ⟨c42.1, b2, fun j hj => absurd hj (Nat.not_lt_zero _)⟩
  · rw [upd_ne e9]
    refine ⟨b1, b2, fun j hj => ?_⟩
    have k := iv_cl c41 (by decide)
    have k2 := c41.2
    rw [h57 q2 e9 j (by omega)]
    exact b3 j hj

theorem dJx4a65c_clear_da8c8_0g : decode cJx4a65c_clear_da8c8 0 = .ok (.aload_n 0, 1) ∧ decode cJx4a65c_clear_da8c8 1 = .ok (.dup, 1) ∧ decode cJx4a65c_clear_da8c8 2 = .ok (.getfield 63, 3) ∧ decode cJx4a65c_clear_da8c8 5 = .ok (.iconst 1, 1) ∧ decode cJx4a65c_clear_da8c8 6 = .ok (.iadd, 1) ∧ decode cJx4a65c_clear_da8c8 7 = .ok (.putfield 63, 3) ∧ decode cJx4a65c_clear_da8c8 10 = .ok (.aload_n 0, 1) ∧ decode cJx4a65c_clear_da8c8 11 = .ok (.getfield 9, 3) ∧ decode cJx4a65c_clear_da8c8 14 = .ok (.astore_n 1, 1) ∧ decode cJx4a65c_clear_da8c8 15 = .ok (.aload_n 0, 1) ∧ decode cJx4a65c_clear_da8c8 16 = .ok (.getfield 48, 3) ∧ decode cJx4a65c_clear_da8c8 19 = .ok (.istore_n 2, 1) ∧ decode cJx4a65c_clear_da8c8 20 = .ok (.aload_n 0, 1) ∧ decode cJx4a65c_clear_da8c8 21 = .ok (.iconst 0, 1) ∧ decode cJx4a65c_clear_da8c8 22 = .ok (.dup_x1, 1) ∧ decode cJx4a65c_clear_da8c8 23 = .ok (.putfield 48, 3) := by decide +kernel
theorem dJx4a65c_clear_da8c8_0 : decode cJx4a65c_clear_da8c8 0 = .ok (.aload_n 0, 1) := dJx4a65c_clear_da8c8_0g.1
theorem dJx4a65c_clear_da8c8_1 : decode cJx4a65c_clear_da8c8 1 = .ok (.dup, 1) := dJx4a65c_clear_da8c8_0g.2.1
theorem dJx4a65c_clear_da8c8_2 : decode cJx4a65c_clear_da8c8 2 = .ok (.getfield 63, 3) := dJx4a65c_clear_da8c8_0g.2.2.1
theorem dJx4a65c_clear_da8c8_5 : decode cJx4a65c_clear_da8c8 5 = .ok (.iconst 1, 1) := dJx4a65c_clear_da8c8_0g.2.2.2.1
theorem dJx4a65c_clear_da8c8_6 : decode cJx4a65c_clear_da8c8 6 = .ok (.iadd, 1) := dJx4a65c_clear_da8c8_0g.2.2.2.2.1
theorem dJx4a65c_clear_da8c8_7 : decode cJx4a65c_clear_da8c8 7 = .ok (.putfield 63, 3) := dJx4a65c_clear_da8c8_0g.2.2.2.2.2.1
theorem dJx4a65c_clear_da8c8_10 : decode cJx4a65c_clear_da8c8 10 = .ok (.aload_n 0, 1) := dJx4a65c_clear_da8c8_0g.2.2.2.2.2.2.1
theorem dJx4a65c_clear_da8c8_11 : decode cJx4a65c_clear_da8c8 11 = .ok (.getfield 9, 3) := dJx4a65c_clear_da8c8_0g.2.2.2.2.2.2.2.1
theorem dJx4a65c_clear_da8c8_14 : decode cJx4a65c_clear_da8c8 14 = .ok (.astore_n 1, 1) := dJx4a65c_clear_da8c8_0g.2.2.2.2.2.2.2.2.1
theorem dJx4a65c_clear_da8c8_15 : decode cJx4a65c_clear_da8c8 15 = .ok (.aload_n 0, 1) := dJx4a65c_clear_da8c8_0g.2.2.2.2.2.2.2.2.2.1
theorem dJx4a65c_clear_da8c8_16 : decode cJx4a65c_clear_da8c8 16 = .ok (.getfield 48, 3) := dJx4a65c_clear_da8c8_0g.2.2.2.2.2.2.2.2.2.2.1
theorem dJx4a65c_clear_da8c8_19 : decode cJx4a65c_clear_da8c8 19 = .ok (.istore_n 2, 1) := dJx4a65c_clear_da8c8_0g.2.2.2.2.2.2.2.2.2.2.2.1
theorem dJx4a65c_clear_da8c8_20 : decode cJx4a65c_clear_da8c8 20 = .ok (.aload_n 0, 1) := dJx4a65c_clear_da8c8_0g.2.2.2.2.2.2.2.2.2.2.2.2.1
theorem dJx4a65c_clear_da8c8_21 : decode cJx4a65c_clear_da8c8 21 = .ok (.iconst 0, 1) := dJx4a65c_clear_da8c8_0g.2.2.2.2.2.2.2.2.2.2.2.2.2.1
theorem dJx4a65c_clear_da8c8_22 : decode cJx4a65c_clear_da8c8 22 = .ok (.dup_x1, 1) := dJx4a65c_clear_da8c8_0g.2.2.2.2.2.2.2.2.2.2.2.2.2.2.1
theorem dJx4a65c_clear_da8c8_23 : decode cJx4a65c_clear_da8c8 23 = .ok (.putfield 48, 3) := dJx4a65c_clear_da8c8_0g.2.2.2.2.2.2.2.2.2.2.2.2.2.2.2
theorem dJx4a65c_clear_da8c8_26g : decode cJx4a65c_clear_da8c8 26 = .ok (.istore_n 3, 1) ∧ decode cJx4a65c_clear_da8c8 27 = .ok (.iload_n 3, 1) ∧ decode cJx4a65c_clear_da8c8 28 = .ok (.iload_n 2, 1) ∧ decode cJx4a65c_clear_da8c8 29 = .ok (.if_icmp .ge 13, 3) ∧ decode cJx4a65c_clear_da8c8 32 = .ok (.aload_n 1, 1) ∧ decode cJx4a65c_clear_da8c8 33 = .ok (.iload_n 3, 1) ∧ decode cJx4a65c_clear_da8c8 34 = .ok (.aconst_null, 1) ∧ decode cJx4a65c_clear_da8c8 35 = .ok (.aastore, 1) ∧ decode cJx4a65c_clear_da8c8 36 = .ok (.iinc 3 1, 3) ∧ decode cJx4a65c_clear_da8c8 39 = .ok (.goto (-12), 3) ∧ decode cJx4a65c_clear_da8c8 42 = .ok (.return_, 1) := by decide +kernel
theorem dJx4a65c_clear_da8c8_26 : decode cJx4a65c_clear_da8c8 26 = .ok (.istore_n 3, 1) := dJx4a65c_clear_da8c8_26g.1
theorem dJx4a65c_clear_da8c8_27 : decode cJx4a65c_clear_da8c8 27 = .ok (.iload_n 3, 1) := dJx4a65c_clear_da8c8_26g.2.1
theorem dJx4a65c_clear_da8c8_28 : decode cJx4a65c_clear_da8c8 28 = .ok (.iload_n 2, 1) := dJx4a65c_clear_da8c8_26g.2.2.1
theorem dJx4a65c_clear_da8c8_29 : decode cJx4a65c_clear_da8c8 29 = .ok (.if_icmp .ge 13, 3) := dJx4a65c_clear_da8c8_26g.2.2.2.1
theorem dJx4a65c_clear_da8c8_32 : decode cJx4a65c_clear_da8c8 32 = .ok (.aload_n 1, 1) := dJx4a65c_clear_da8c8_26g.2.2.2.2.1
theorem dJx4a65c_clear_da8c8_33 : decode cJx4a65c_clear_da8c8 33 = .ok (.iload_n 3, 1) := dJx4a65c_clear_da8c8_26g.2.2.2.2.2.1
theorem dJx4a65c_clear_da8c8_34 : decode cJx4a65c_clear_da8c8 34 = .ok (.aconst_null, 1) := dJx4a65c_clear_da8c8_26g.2.2.2.2.2.2.1
theorem dJx4a65c_clear_da8c8_35 : decode cJx4a65c_clear_da8c8 35 = .ok (.aastore, 1) := dJx4a65c_clear_da8c8_26g.2.2.2.2.2.2.2.1
theorem dJx4a65c_clear_da8c8_36 : decode cJx4a65c_clear_da8c8 36 = .ok (.iinc 3 1, 3) := dJx4a65c_clear_da8c8_26g.2.2.2.2.2.2.2.2.1
theorem dJx4a65c_clear_da8c8_39 : decode cJx4a65c_clear_da8c8 39 = .ok (.goto (-12), 3) := dJx4a65c_clear_da8c8_26g.2.2.2.2.2.2.2.2.2.1
theorem dJx4a65c_clear_da8c8_42 : decode cJx4a65c_clear_da8c8 42 = .ok (.return_, 1) := dJx4a65c_clear_da8c8_26g.2.2.2.2.2.2.2.2.2.2

set_option maxHeartbeats 4000000 in
set_option maxRecDepth 100000 in
theorem d_lclear (l : Launch) (dC : Nat → ClassId) (dI : Nat → Nat → Nat) (ad : Nat → Nat → Nat) (cid : Nat → ClassId) (a2 : Nat → Nat) (lx : List Nat) (sg : Nat → Int32) (gm : Nat → Nat → Int32) (lg : Nat → Nat → Int64) (x : Int32) (hI : CI sg gm) (hvx : iv 0 239 x) (hLD : LDI lx gm) : CMt dC dI ad cid a2 lx l yJx4a65c_clear_da8c8 wm_Jx4a65c_clear_da8c8 ({ frames := 0, cells := 1, slots := 6, locals := 0 }) [eV (ad 11) x] sg gm lg (fun v u => v = none ∧ ∃ (sg2 : Nat → Int32) (gm2 : Nat → Nat → Int32) (lg2 : Nat → Nat → Int64), u = (sg2, gm2, lg2) ∧ CI sg2 gm2 ∧ KS [] sg sg2 ∧ KS [40, 41, 57] gm gm2 ∧ KS [] lg lg2 ∧ (gm2 41 = upd (gm 41) x.toNatClampNeg 0) ∧ (∀ q2, q2 ≠ x.toNatClampNeg → ∀ j9, j9 < 128 → gm2 57 (128 * q2 + j9) = gm 57 (128 * q2 + j9)) ∧ (LDI lx gm2)) (fun _ _ => False) := by
  intro sz
  refine vx_ofW (cc := cJx4a65c_clear_da8c8) (maxL := 4) (ret := none) (by decide) rfl ?_
  intro p e s m args below meth c s₁ B hml hxt hv
  obtain ⟨rfl, hsz, hP, hK, hD0, hG⟩ := hv
  have hx := B.exec
  have hb := B.bytes
  have hr := B.returns
  have hts := atoms_spec (ws := wm_Jx4a65c_clear_da8c8) B.pre
  have htb := fun (w : Cond) (h : w ∈ tb) => hts w (List.mem_cons_of_mem _ h)
  have hown : s.vm.findClass RJx4a65c = some m.cls := findClass_of_methodNamed B.named
  have hlocks := B.notSynchronized
  subst hsz
  have hD := hD0.self (sz := s.heap.size)
  generalize hAe : va_A (cW ad cid a2 lx sg gm lg) s.heap.size = A at hD hG ⊢
  have hA : ∀ q : Nat, s.heap.size ≤ q → A q := fun q h => by rw [← hAe]; exact Or.inr h
  have hS : va_S A s.heap s.heap [] := va_S.rf
  have hl := lv_entry ([eV (ad 11) x]) (n := 4) (by rw [show (lg_sl ([eV (ad 11) x])).length = 1 from by simp [lg_sl, eV_cat, cat_i, cat_l]]; exact Nat.le_of_ble_eq_true rfl)
  rw [lg_entry_eq]
  generalize (lg_sl ([eV (ad 11) x]) ++ List.replicate (4 - (lg_sl ([eV (ad 11) x])).length) Slot.unset).toArray = ls at hl ⊢
  have hl : lv_has ls 4 [(0, eV (ad 11) x)] := by simp [lv_args, eV_cat, cat_i, cat_l] at hl; exact hl
  have hj27 : ∀ (n : Nat) (gm_j27 : Nat → Nat → Int32) (x3_27 : Int32) (x2_27 : Int32) (_ : (80 - x3_27.toInt).toNat = n) (_ : iv 0 80 x3_27) (_ : iv 0 80 x2_27) (_ : iv 0 239 x) (_ : KS [40, 41, 57] gm gm_j27) (_ : CI sg gm_j27) (_ : ∀ q2, q2 ≠ x.toNatClampNeg → ∀ j9, j9 < 128 → gm_j27 57 (128 * q2 + j9) = gm 57 (128 * q2 + j9)) (_ : x2_27 = gm 41 x.toNatClampNeg) (_ : gm_j27 41 = upd (gm 41) x.toNatClampNeg 0) (H : Heap) (locs : List Loc) (ls : Array Slot), va_P (dC, dI) vwCl (cW ad cid a2 lx sg gm_j27 lg) H → va_D A (cW ad cid a2 lx sg gm_j27 lg) → va_S A s.heap H locs → lv_has ls 4 [(3, .int x3_27), (2, .int x2_27), (1, .ref (if (gm 42 x.toNatClampNeg).toInt = 0 then ad 34 0 else a2 x.toNatClampNeg)), (0, eV (ad 11) x)] → W p l e (headSpec wm_Jx4a65c_clear_da8c8 ({ frames := 0, cells := 1, slots := 6, locals := 0 })).room s m ([eV (ad 11) x] : List Value).toArray below meth c H locs 0 0 (vx_MQ below (cQx dC dI ad cid a2 lx (fun v u => v = none ∧ ∃ (sg2 : Nat → Int32) (gm2 : Nat → Nat → Int32) (lg2 : Nat → Nat → Int64), u = (sg2, gm2, lg2) ∧ CI sg2 gm2 ∧ KS [] sg sg2 ∧ KS [40, 41, 57] gm gm2 ∧ KS [] lg lg2 ∧ (gm2 41 = upd (gm 41) x.toNatClampNeg 0) ∧ (∀ q2, q2 ≠ x.toNatClampNeg → ∀ j9, j9 < 128 → gm2 57 (128 * q2 + j9) = gm 57 (128 * q2 + j9)) ∧ (LDI lx gm2)) A) (cX dC dI ad cid a2 lx (fun _ _ => False) A) ([eV (ad 11) x] : List Value).toArray s 1 6 A) (F0 m 27 ls []) := by
    intro n
    induction n using Nat.strongRecOn with
    | ind n ih27 =>
      intro gm_j27 x3_27 x2_27 hn27 hx3_27 hx2_27 hsx0_27 hkg_j27 hI_j27 h57 h2e h41b H locs ls hP hD hS hl
      refine lv_iload_n hx hb dJx4a65c_clear_da8c8_27 rfl (lv_at hl 0 rfl) ?_
      refine lv_iload_n hx hb dJx4a65c_clear_da8c8_28 rfl (lv_at hl 1 rfl) ?_
      refine lv_icmp_ge (tgt := 42) hx hb dJx4a65c_clear_da8c8_29 (by decide) (fun c_1 => ?_) (fun c_1 => ?_)
      · have d_2 : (x2_27 : Int32).toInt ≤ (x3_27 : Int32).toInt := Int32.le_iff_toInt_le.mp c_1
        exact W.nb (fun hN => W.widen (k := 1) (n := 6) (by decide) (by decide) (vx_ret (W.vret hx hb hr (fun t ht hW => ⟨⟨none, (sg, gm_j27, lg), rfl, ⟨rfl, sg, gm_j27, lg, rfl, hI_j27, KS_rf, (KS_tr (L := [40, 41, 57]) KS_rf hkg_j27 (by decide)), KS_rf, (h41b), (h57), (LDI_clr hI hLD h41b (hkg_j27 42 (by decide)) h57)⟩, by rw [ht]; exact hP, va_K.moved hW.alike hK, hD⟩, hS.F ht, by rw [ht]; exact hN⟩) hS.2.2 dJx4a65c_clear_da8c8_42)))
      · have d_3 : (x3_27 : Int32).toInt < (x2_27 : Int32).toInt := Int32.lt_iff_toInt_lt.mp (i32_lt c_1)
        have h_4 : iv 0 79 x3_27 := iv_ltL (i32_lt c_1) hx3_27 hx2_27 (by decide)
        have h_5 : iv 1 80 x2_27 := iv_ltR (i32_lt c_1) hx3_27 hx2_27 (by decide)
        refine lv_aload_n hx hb dJx4a65c_clear_da8c8_32 rfl (lv_at hl 2 rfl) ?_
        refine lv_iload_n hx hb dJx4a65c_clear_da8c8_33 rfl (lv_at hl 0 rfl) ?_
        refine ec_null (a := ad 9) hx hb dJx4a65c_clear_da8c8_34 ?_
        have e42 : gm_j27 42 = gm 42 := (hkg_j27 42 (by decide))
        have hq := hLD x.toNatClampNeg (by have := iv_cl hvx (by decide); have := hvx.2; omega)
        have h42 := (show iv 0 127 (gm 42 x.toNatClampNeg) from CI_a hI 42 hvx (by decide))
        have q41 := congrArg Int32.toInt h2e
        have hc9 : ¬ (gm_j27 42 x.toNatClampNeg).toInt = 0 := by rw [e42]; have := hq.1; have := i32_0; have := i32_1; have := i32_2; have := i32_m1; have := (hsx0_27).1; have := (hsx0_27).2; have := (h_4).1; have := (h_4).2; have := (h_5).1; have := (h_5).2; omega
        have k1 := cl_0 (x := x3_27) (by have := i32_0; have := i32_1; have := i32_2; have := i32_m1; have := (hsx0_27).1; have := (hsx0_27).2; have := (h_4).1; have := (h_4).2; have := (h_5).1; have := (h_5).2; omega)
        have k2 := iv_cl h42 (by decide)
        refine W.eq (g2 := F0 m 35 ls [eV (ad 9) (-1), .int x3_27, dV ad a2 gm_j27 x.toNatClampNeg]) (by unfold dV; rw [e42]) ?_
        refine cl_aastN hx hb hK hP hD hS (hq.2.1 (by rw [← e42]; exact hc9)) hc9 (by rw [e42]; exact vp_in_iff.mpr ⟨by have := i32_0; have := i32_1; have := i32_2; have := i32_m1; have := (hsx0_27).1; have := (hsx0_27).2; have := (h_4).1; have := (h_4).2; have := (h_5).1; have := (h_5).2; omega, by have := hq.1; have := i32_0; have := i32_1; have := i32_2; have := i32_m1; have := (hsx0_27).1; have := (hsx0_27).2; have := (h_4).1; have := (h_4).2; have := (h_5).1; have := (h_5).2; omega⟩) (by have := hq.1; have := h42.2; have := i32_0; have := i32_1; have := i32_2; have := i32_m1; have := (hsx0_27).1; have := (hsx0_27).2; have := (h_4).1; have := (h_4).2; have := (h_5).1; have := (h_5).2; omega) dJx4a65c_clear_da8c8_35 (fun gm_6 H locs egm_6 hP hD hS => ?_)
        have hI_gm_6 := CI_st hI_j27 egm_6 (iv_k (by decide) : iv (-1) (-1) (-1)) (by decide)
        have h57b : ∀ q2, q2 ≠ x.toNatClampNeg → ∀ j9, j9 < 128 → gm_6 57 (128 * q2 + j9) = gm 57 (128 * q2 + j9) := fun q2 a9 j9 b9 => by { rw [show gm_6 57 = _ from up_at egm_6, upd_ne (by have := hq.1; have := h42.2; have := i32_0; have := i32_1; have := i32_2; have := i32_m1; have := (hsx0_27).1; have := (hsx0_27).2; have := (h_4).1; have := (h_4).2; have := (h_5).1; have := (h_5).2; omega)]; exact h57 q2 a9 j9 b9 }
        obtain ⟨z_7, ez_7⟩ : ∃ z : Int32, z = x3_27 + 1 := ⟨_, rfl⟩
        have hz_7 : iv 1 80 z_7 := iv_of ez_7 (iv_add h_4 (iv_k (by decide) : iv 1 1 1) (by decide))
        have tz_7 : z_7.toInt = x3_27.toInt + 1 := by rw [ez_7]; exact iv_addE h_4 (iv_k (by decide) : iv 1 1 1) (by decide)
        refine lv_iinc (v := z_7) (lv' := [(3, .int z_7), (2, .int x2_27), (1, .ref (if (gm 42 x.toNatClampNeg).toInt = 0 then ad 34 0 else a2 x.toNatClampNeg)), (0, eV (ad 11) x)]) hx hb dJx4a65c_clear_da8c8_36 hl (k := 0) rfl ez_7.symm (by decide) rfl (fun ls hl => ?_)
        refine lv_goto (tgt := 27) hx hb dJx4a65c_clear_da8c8_39 (by decide) ?_
        exact ih27 _ (by rw [← hn27]; exact (iv_meas tz_7 h_4 (by decide))) gm_6 z_7 x2_27 rfl (iv_w hz_7 (by decide)) (iv_w h_5 (by decide)) hsx0_27 (KS_up (KS_tr (L := [40, 41, 57]) KS_rf hkg_j27 (by decide)) egm_6 (by decide)) hI_gm_6 (h57b) (h2e) ((by rw [show gm_6 41 = gm_j27 41 from (show KS [57] gm_j27 gm_6 from (KS_up KS_rf egm_6 (by decide))) 41 (by decide)]; exact h41b)) _ _ _ hP hD hS (lv_sub hl [0, 1, 2, 3] rfl)
  refine ec_aload_n hx hb dJx4a65c_clear_da8c8_0 rfl (lv_at hl 0 rfl) ?_
  refine lv_dup hx hb dJx4a65c_clear_da8c8_1 (eV_cat _ _) ?_
  refine cl_getM hx hb htb hown hK hP hvx (by decide) (htb _ kw_347) dJx4a65c_clear_da8c8_2 ?_
  refine lv_topi (fun z_8 ez_8 => ?_)
  refine lv_iconst (v := 1) hx hb dJx4a65c_clear_da8c8_5 (by decide) ?_
  refine lv_iadd hx hb dJx4a65c_clear_da8c8_6 ?_
  refine lv_topi (fun z_9 ez_9 => ?_)
  refine cl_putM (y := z_9) hx hb htb hown hK hP hD hS hvx (by decide) (htb _ kw_347) dJx4a65c_clear_da8c8_7 (fun gm_10 H locs egm_10 hP hD hS => ?_)
  have hI_gm_10 := CI_st hI egm_10 (iv_fl z_9) (by decide)
  refine ec_aload_n hx hb dJx4a65c_clear_da8c8_10 rfl (lv_at hl 0 rfl) ?_
  refine cr_get (t := 11) (j := 1) (C := RJx4a65c) (T := TJx4a65c) (N := 3) (v := .ref (if (gm 42 x.toNatClampNeg).toInt = 0 then ad 34 0 else a2 x.toNatClampNeg)) hx hb htb inJx4a65c hown hK hP hvx (by decide) (by decide) (by decide) rfl (by decide) (htb _ kw_344) (by rw [← show gm_10 42 = gm 42 from (up_ne egm_10 (by decide))]; rfl) dJx4a65c_clear_da8c8_11 ?_
  refine lv_astore_n (i := 1) (lv' := [(1, .ref (if (gm 42 x.toNatClampNeg).toInt = 0 then ad 34 0 else a2 x.toNatClampNeg)), (0, eV (ad 11) x)]) hx hb dJx4a65c_clear_da8c8_14 rfl hl (by decide) (by simp [List.filter, eV_cat, cat_i, cat_l]) (fun ls hl => ?_)
  refine ec_aload_n hx hb dJx4a65c_clear_da8c8_15 rfl (lv_at hl 1 rfl) ?_
  refine cr_get (t := 11) (j := 2) (C := RJx4a65c) (T := TJx4a65c) (N := 3) (v := .int (gm_10 41 x.toNatClampNeg)) hx hb htb inJx4a65c hown hK hP hvx (by decide) (by decide) (by decide) rfl (by decide) (htb _ kw_345) rfl dJx4a65c_clear_da8c8_16 ?_
  obtain ⟨z_11, ez_11⟩ : ∃ z : Int32, z = (gm_10 41 x.toNatClampNeg) := ⟨_, rfl⟩
  refine W.eq (g2 := F0 m 19 ls [.int z_11]) (by rw [ez_11]) ?_
  have hz_11 : iv 0 80 z_11 := iv_of ez_11 (CI_a hI_gm_10 41 hvx (by decide))
  have ez_11 := ez_11.trans (congrFun (up_ne egm_10 (by decide)) _)
  refine lv_istore_n (i := 2) (lv' := [(2, .int z_11), (1, .ref (if (gm 42 x.toNatClampNeg).toInt = 0 then ad 34 0 else a2 x.toNatClampNeg)), (0, eV (ad 11) x)]) hx hb dJx4a65c_clear_da8c8_19 rfl hl (by decide) rfl (fun ls hl => ?_)
  refine ec_aload_n hx hb dJx4a65c_clear_da8c8_20 rfl (lv_at hl 2 rfl) ?_
  refine lv_iconst (v := 0) hx hb dJx4a65c_clear_da8c8_21 (by decide) ?_
  refine lv_dup_x1 hx hb dJx4a65c_clear_da8c8_22 rfl (eV_cat _ _) ?_
  refine cr_putg (t := 11) (j := 2) (C := RJx4a65c) (T := TJx4a65c) (N := 3) (ty0 := tyJx4a65c) (k := 41) (y := 0) hx hb htb inJx4a65c tyJx4a65c_ok nmJx4a65c hown hK hP hD hS hvx (by decide) (by decide) (by decide) (by decide) rfl rfl (by decide) (htb _ kw_345) rfl (by show Value.int 0 = Value.int (va_up gm_10 41 (upd (gm_10 41) x.toNatClampNeg 0) 41 x.toNatClampNeg); rw [va_up_self, upd_at]) rfl rfl dJx4a65c_clear_da8c8_23 (fun gm_12 H locs egm_12 hP hD hS => ?_)
  have hI_gm_12 := CI_st hI_gm_10 egm_12 (iv_k (by decide) : iv 0 0 0) (by decide)
  refine lv_istore_n (i := 3) (lv' := [(3, .int 0), (2, .int z_11), (1, .ref (if (gm 42 x.toNatClampNeg).toInt = 0 then ad 34 0 else a2 x.toNatClampNeg)), (0, eV (ad 11) x)]) hx hb dJx4a65c_clear_da8c8_26 rfl hl (by decide) rfl (fun ls hl => ?_)
  exact hj27 _ gm_12 0 z_11 rfl (iv_w (iv_k (by decide) : iv 0 0 0) (by decide)) hz_11 hvx (KS_up (KS_up KS_rf egm_10 (by decide)) egm_12 (by decide)) hI_gm_12 (fun q2 _ j9 _ => by rw [(Eq.trans (up_ne egm_12 (by decide)) (up_ne egm_10 (by decide)))]) (ez_11) ((show gm_12 41 = upd (gm 41) (x : Int32).toNatClampNeg 0 from ((up_at egm_12).trans (by rw [show gm_10 41 = gm 41 from ((up_ne egm_10 (by decide)).trans rfl)])))) _ _ _ hP hD hS (lv_sub hl [0, 1, 2, 3] rfl)
end
section
theorem HSK_e {gm gm2 : Nat → Nat → Int32} {lg lg2 : Nat → Nat → Int64} {j : Nat} {k : Int64} (h : HSK gm lg j k) (h19 : gm2 19 = gm 19) (h20 : gm2 20 = gm 20) (h0 : lg2 0 = lg 0) : HSK gm2 lg2 j k := by
  unfold HSK at *; rw [h19, h20, h0]; exact h
theorem LDI_e {lx : List Nat} {gm gm2 : Nat → Nat → Int32} (h : LDI lx gm) (h41 : gm2 41 = gm 41) (h42 : gm2 42 = gm 42) (h57 : gm2 57 = gm 57) : LDI lx gm2 := by
  unfold LDI at *; rw [h41, h42, h57]; exact h
end
section
theorem mmax_i {a b z : Int32} (e : z = if a < b then b else a) : (a.toInt < b.toInt ∧ z.toInt = b.toInt) ∨ (b.toInt ≤ a.toInt ∧ z.toInt = a.toInt) := by
  by_cases h : a < b
  · rw [if_pos h] at e; exact Or.inl ⟨Int32.lt_iff_toInt_lt.mp h, by rw [e]⟩
  · rw [if_neg h] at e; exact Or.inr ⟨Int.not_lt.mp (fun q => h (Int32.lt_iff_toInt_lt.mpr q)), by rw [e]⟩

theorem dJ8_newLength_cabcc_0g : decode cJ8_newLength_cabcc 0 = .ok (.iload_n 0, 1) ∧ decode cJ8_newLength_cabcc 1 = .ok (.iload_n 1, 1) ∧ decode cJ8_newLength_cabcc 2 = .ok (.iload_n 2, 1) ∧ decode cJ8_newLength_cabcc 3 = .ok (.invokestatic 194, 3) ∧ decode cJ8_newLength_cabcc 6 = .ok (.iadd, 1) ∧ decode cJ8_newLength_cabcc 7 = .ok (.istore_n 3, 1) ∧ decode cJ8_newLength_cabcc 8 = .ok (.iconst 0, 1) ∧ decode cJ8_newLength_cabcc 9 = .ok (.iload_n 3, 1) ∧ decode cJ8_newLength_cabcc 10 = .ok (.if_icmp .ge 11, 3) ∧ decode cJ8_newLength_cabcc 13 = .ok (.iload_n 3, 1) ∧ decode cJ8_newLength_cabcc 14 = .ok (.ldc 200, 2) ∧ decode cJ8_newLength_cabcc 16 = .ok (.if_icmp .gt 5, 3) ∧ decode cJ8_newLength_cabcc 19 = .ok (.iload_n 3, 1) ∧ decode cJ8_newLength_cabcc 20 = .ok (.ireturn, 1) := by decide +kernel
theorem dJ8_newLength_cabcc_0 : decode cJ8_newLength_cabcc 0 = .ok (.iload_n 0, 1) := dJ8_newLength_cabcc_0g.1
theorem dJ8_newLength_cabcc_1 : decode cJ8_newLength_cabcc 1 = .ok (.iload_n 1, 1) := dJ8_newLength_cabcc_0g.2.1
theorem dJ8_newLength_cabcc_2 : decode cJ8_newLength_cabcc 2 = .ok (.iload_n 2, 1) := dJ8_newLength_cabcc_0g.2.2.1
theorem dJ8_newLength_cabcc_3 : decode cJ8_newLength_cabcc 3 = .ok (.invokestatic 194, 3) := dJ8_newLength_cabcc_0g.2.2.2.1
theorem dJ8_newLength_cabcc_6 : decode cJ8_newLength_cabcc 6 = .ok (.iadd, 1) := dJ8_newLength_cabcc_0g.2.2.2.2.1
theorem dJ8_newLength_cabcc_7 : decode cJ8_newLength_cabcc 7 = .ok (.istore_n 3, 1) := dJ8_newLength_cabcc_0g.2.2.2.2.2.1
theorem dJ8_newLength_cabcc_8 : decode cJ8_newLength_cabcc 8 = .ok (.iconst 0, 1) := dJ8_newLength_cabcc_0g.2.2.2.2.2.2.1
theorem dJ8_newLength_cabcc_9 : decode cJ8_newLength_cabcc 9 = .ok (.iload_n 3, 1) := dJ8_newLength_cabcc_0g.2.2.2.2.2.2.2.1
theorem dJ8_newLength_cabcc_10 : decode cJ8_newLength_cabcc 10 = .ok (.if_icmp .ge 11, 3) := dJ8_newLength_cabcc_0g.2.2.2.2.2.2.2.2.1
theorem dJ8_newLength_cabcc_13 : decode cJ8_newLength_cabcc 13 = .ok (.iload_n 3, 1) := dJ8_newLength_cabcc_0g.2.2.2.2.2.2.2.2.2.1
theorem dJ8_newLength_cabcc_14 : decode cJ8_newLength_cabcc 14 = .ok (.ldc 200, 2) := dJ8_newLength_cabcc_0g.2.2.2.2.2.2.2.2.2.2.1
theorem dJ8_newLength_cabcc_16 : decode cJ8_newLength_cabcc 16 = .ok (.if_icmp .gt 5, 3) := dJ8_newLength_cabcc_0g.2.2.2.2.2.2.2.2.2.2.2.1
theorem dJ8_newLength_cabcc_19 : decode cJ8_newLength_cabcc 19 = .ok (.iload_n 3, 1) := dJ8_newLength_cabcc_0g.2.2.2.2.2.2.2.2.2.2.2.2.1
theorem dJ8_newLength_cabcc_20 : decode cJ8_newLength_cabcc 20 = .ok (.ireturn, 1) := dJ8_newLength_cabcc_0g.2.2.2.2.2.2.2.2.2.2.2.2.2
set_option maxHeartbeats 4000000 in
set_option maxRecDepth 100000 in
theorem d_newLength (l : Launch) (dC : Nat → ClassId) (dI : Nat → Nat → Nat) (ad : Nat → Nat → Nat) (cid : Nat → ClassId) (a2 : Nat → Nat) (lx : List Nat) (sg : Nat → Int32) (gm : Nat → Nat → Int32) (lg : Nat → Nat → Int64) (ol : Int32) (mn : Int32) (pf : Int32) (hI : CI sg gm) (hvol : iv 0 109 ol) (hvmn : iv 1 110 mn) (hvpf : iv 0 54 pf) : CMt dC dI ad cid a2 lx l yJ8_newLength_cabcc wm_J8_newLength_cabcc ({ frames := 1, cells := 1, slots := 6, locals := 40 }) [.int ol, .int mn, .int pf] sg gm lg (fun v u => ∃ r : Int32, v = some (.int r) ∧ u = (sg, gm, lg) ∧ (iv 1 219 r) ∧ (r.toInt = ol.toInt + mn.toInt ∧ pf.toInt ≤ mn.toInt ∨ r.toInt = ol.toInt + pf.toInt ∧ mn.toInt ≤ pf.toInt)) (fun _ _ => False) := by
  intro sz
  refine vx_ofW (cc := cJ8_newLength_cabcc) (maxL := 4) (ret := (some .int)) (by decide) rfl ?_
  intro p e s m args below meth c s₁ B hml hxt hv
  obtain ⟨rfl, hsz, hP, hK, hD0, hG⟩ := hv
  have hx := B.exec
  have hb := B.bytes
  have hr := B.returns
  have hts := atoms_spec (ws := wm_J8_newLength_cabcc) B.pre
  have htb := fun (w : Cond) (h : w ∈ tb) => hts w (List.mem_cons_of_mem _ h)
  have hown : s.vm.findClass RJ8 = some m.cls := findClass_of_methodNamed B.named
  have hlocks := B.notSynchronized
  subst hsz
  have hD := hD0.self (sz := s.heap.size)
  generalize hAe : va_A (cW ad cid a2 lx sg gm lg) s.heap.size = A at hD hG ⊢
  have hA : ∀ q : Nat, s.heap.size ≤ q → A q := fun q h => by rw [← hAe]; exact Or.inr h
  have hS : va_S A s.heap s.heap [] := va_S.rf
  have hl := lv_entry ([.int ol, .int mn, .int pf]) (n := 4) (Nat.le_of_ble_eq_true rfl)
  rw [lg_entry_eq]
  generalize (lg_sl ([.int ol, .int mn, .int pf]) ++ List.replicate (4 - (lg_sl ([.int ol, .int mn, .int pf])).length) Slot.unset).toArray = ls at hl ⊢
  have hl : lv_has ls 4 [(0, .int ol), (1, .int mn), (2, .int pf)] := hl
  refine lv_iload_n hx hb dJ8_newLength_cabcc_0 rfl (lv_at hl 0 rfl) ?_
  refine lv_iload_n hx hb dJ8_newLength_cabcc_1 rfl (lv_at hl 1 rfl) ?_
  refine lv_iload_n hx hb dJ8_newLength_cabcc_2 rfl (lv_at hl 2 rfl) ?_
  refine va_mmax hx hb (hml.trans hl.1.symm) hown (htb _ kw_834) (htb _ kw_835) (htb _ kw_169) (htb _ kw_1512) (Nat.le_of_ble_eq_true rfl) (Nat.le_trans (Nat.add_le_add_right (show _ ≤ 8 from (Nat.le_trans (cs_c (cat_i _) cs_n) (by decide))) _) (Nat.le_of_ble_eq_true rfl)) (Nat.zero_le _) (Nat.zero_le _) dJ8_newLength_cabcc_3 ?_
  refine lv_topi (fun z_1 ez_1 => ?_)
  have xz_1 := mmax_i ez_1
  have hz_1 : iv 1 110 z_1 := by { have q1 := (hvmn).1; have q2 := (hvmn).2; have q3 := (hvpf).1; have q4 := (hvpf).2; exact ⟨by omega, by omega⟩ }
  refine lv_iadd hx hb dJ8_newLength_cabcc_6 ?_
  refine lv_topi (fun z_2 ez_2 => ?_)
  have hz_2 : iv 1 219 z_2 := iv_of ez_2 (iv_add hvol hz_1 (by decide))
  have tz_2 : z_2.toInt = (ol : Int32).toInt + (z_1 : Int32).toInt := by rw [ez_2]; exact iv_addE hvol hz_1 (by decide)
  refine lv_istore_n (i := 3) (lv' := [(3, .int z_2), (0, .int ol), (1, .int mn), (2, .int pf)]) hx hb dJ8_newLength_cabcc_7 rfl hl (by decide) rfl (fun ls hl => ?_)
  refine lv_iconst (v := 0) hx hb dJ8_newLength_cabcc_8 (by decide) ?_
  refine lv_iload_n hx hb dJ8_newLength_cabcc_9 rfl (lv_at hl 0 rfl) ?_
  refine lv_icmp_ge (tgt := 21) hx hb dJ8_newLength_cabcc_10 (by decide) (fun c_3 => ?_) (fun c_3 => ?_)
  · have h_4 : iv 1 0 z_2 := iv_leL c_3 hz_2 (iv_k (by decide) : iv 0 0 0) (by decide)
    exact (iv_no h_4 (by decide)).elim
  · refine lv_iload_n hx hb dJ8_newLength_cabcc_13 rfl (lv_at hl 0 rfl) ?_
    refine lv_ldc (v := 2147483639) hx hb hown (htb _ kw_836) dJ8_newLength_cabcc_14 ?_
    refine lv_icmp_gt (tgt := 21) hx hb dJ8_newLength_cabcc_16 (by decide) (fun c_5 => ?_) (fun c_5 => ?_)
    · have h_6 : iv 2147483640 219 z_2 := iv_ltR c_5 (iv_k (by decide) : iv 2147483639 2147483639 2147483639) hz_2 (by decide)
      exact (iv_no h_6 (by decide)).elim
    · refine lv_iload_n hx hb dJ8_newLength_cabcc_19 rfl (lv_at hl 0 rfl) ?_
      exact W.nb (fun hN => W.widen (k := 1) (n := 6) (by decide) (by decide) (vx_ret (W.iret (v := z_2) hx hb hr (fun t ht hW => ⟨⟨some (.int z_2), (sg, gm, lg), rfl, ⟨z_2, rfl, rfl, hz_2, (by have := i32_0; have := i32_1; have := i32_2; have := i32_m1; have := (hvol).1; have := (hvol).2; have := (hvmn).1; have := (hvmn).2; have := (hvpf).1; have := (hvpf).2; have := (hz_1).1; have := (hz_1).2; have := (hz_2).1; have := (hz_2).2; omega)⟩, by rw [ht]; exact hP, va_K.moved hW.alike hK, hD⟩, hS.F ht, by rw [ht]; exact hN⟩) hS.2.2 dJ8_newLength_cabcc_20)))
end
section
section VXT1
variable {p : Program} {l : Launch} {e : Env} {R : Room} {s : State} {m : MethodId} {args : Array Value} {below : List Frame} {meth : Method} {c : Code} {H : Heap} {locs : List Loc} {cells slots : Nat} {Q : State → Prop}
variable {mc ms : Nat} {free : Addr → Prop} {A0 A1 : Nat → Prop} {H0 : Heap} {a : Array Value} {ls : Array Slot} {st0 rest : List Value}
variable {Qc : Array Value → State → Outcome → State → Prop} {XC : String → State → State → Prop}
theorem vx_throw1 {cc : ByteArray} {pc : Nat} (hexec : p.tables.exec = Jvm.exec) (hb : c.code = cc) (hl : l.stackTraces = false) {own cls : String} {names : List String} {ik ic mc ms : Nat} {A : Nat → Prop}
    (hown : s.vm.findClass own = some m.cls) (hcls : Bundle.fit cls = true) (hnames : ∀ n ∈ names, Bundle.fit n = true)
    (hk : (Cond.classLink own ik cls).before args s = true) (hini : (Cond.initialized cls).before args s = true) (hat : ∀ w ∈ vx_at0 own ic cls names, w.before args s = true)
    (hgood : ∀ w ∈ Cond.classLink own ik cls :: Cond.initialized cls :: vx_at0 own ic cls names, vx_ot w = true)
    (hU : vx_Zq Bundle.tN "UNASSIGNED_STACK" Bundle.steD A s s.heap) (hN : vx_Zq Bundle.tN "SUPPRESSED_SENTINEL" Bundle.listD A s s.heap) (hS : va_S A s.heap H locs) (hsize : ls.size = c.maxLocals)
    (d0 : decode cc pc = .ok (.new ik, 3)) (d3 : decode cc (pc + 3) = .ok (.dup, 1)) (d4 : decode cc (pc + 4) = .ok (.invokespecial ic, 3)) (d7 : decode cc (pc + 7) = .ok (.athrow, 1))
    (hout : ∀ x ∈ c.exceptionTable.toList, covers x (pc + 7) = false)
    (hRframes : names.length + 3 < R.frames) (hRlocals : (rest.map fun v => v.category).sum + (13 * (names.length + 1) + 42) ≤ R.locals) (hRcells : cells + 1 ≤ R.cells) (hRslots : slots + 6 ≤ R.slots) (hlocks : meth.locks = false)
    (hx : ∀ t : State, s.vm.Alike t.vm → H.size ≤ t.heap.size → (∀ q : Nat, q < H.size → t.heap[q]? = H[q]?) → NBw s.heap t.heap (cells + 1) (slots + 6) → XC cls s t)
    (hf : ∀ z ∈ locs, free z.base) (hc : cells + 1 ≤ mc) (hs : slots + 6 ≤ ms) :
    W p l e R s m args below meth c H locs cells slots (vx_MQ below Qc XC args s mc ms free) (F0 m pc ls rest) := by
  intro T hT X
  have htr : e.platform.stackTraces = false := (show e.platform.stackTraces = l.stackTraces by rw [X.admits.platform]).trans hl
  have Y := vx_rebase X (R' := { frames := R.frames, locals := R.locals, cells := 1, slots := 6 }) (Nat.le_refl _) (Nat.le_refl _) hRcells hRslots
  obtain ⟨s', hA⟩ : ∃ z, z = (T.setVm s.vm).setFrames (.invoking m args :: below) := ⟨_, rfl⟩
  rw [← hA] at Y
  have hvm : s'.vm = s.vm := by rw [hA]; rfl
  have hhp : s'.heap = H := by rw [hA]; exact hT
  have hW0 : s.WarmedH s'.vm := by rw [hvm]; exact State.WarmedH.refl s
  have hat' : ∀ w ∈ vx_at0 own ic cls names, w.before args s' = true := fun w hw => vx_ot_at hW0 hvm.symm (hgood w (List.mem_cons_of_mem _ (List.mem_cons_of_mem _ hw))) (hat w hw)
  have hk' : (Cond.classLink own ik cls).before args s' = true := vx_ot_at hW0 hvm.symm (hgood _ List.mem_cons_self) hk
  have hini' : (Cond.initialized cls).before args s' = true := vx_ot_at hW0 hvm.symm (hgood _ (List.mem_cons_of_mem _ List.mem_cons_self)) hini
  have hU' : vx_Zq Bundle.tN "UNASSIGNED_STACK" Bundle.steD A s' s'.heap := by rw [hhp]; exact vx_Zq.moved hW0.alike (hU.kept hS.2.1)
  have hN' : vx_Zq Bundle.tN "SUPPRESSED_SENTINEL" Bundle.listD A s' s'.heap := by rw [hhp]; exact vx_Zq.moved hW0.alike (hN.kept hS.2.1)
  have h : ∀ w ∈ Bundle.ownAtoms0 own ic cls names, w.before args s' = true := vx_own hat' (vx_isRefq hU'.1) (vx_isRefq hN'.1) hU'.2.word hN'.2.word
  have hown' : s'.vm.findClass own = some m.cls := by rw [hvm]; exact hown
  have hins : (Cond.instantiable cls 6).before args s' = true := h _ (by simp [Bundle.ownAtoms0])
  obtain ⟨vm₁, cX, kX, hfX, hkX, -, -, X₁, st1⟩ := Y.newCold hexec (own := own) (C := cls) (index := ik) (n := 6) hown' hk' hins hini'
    (g := F0 m pc ls rest) rfl (by rw [hb]; exact d0) (Nat.le_refl _) (Nat.le_refl _)
  generalize hT1 : (T.setVm vm₁).pushCell { cls := cX, slots := kX.instanceTypes.map defaultValue, vm := .none } = T1 at X₁ st1
  have hcat : (Value.ref T.heap.size).category = 1 := rfl
  have hcellA : T1.heap[T.heap.size]? = some (freshCell cX kX) := by rw [← hT1]; exact State.heap_pushCell_size _ _
  have d3' : decode c.code (pc + 3) = .ok (.dup, 1) := by rw [hb]; exact d3
  obtain ⟨U, hsteps, hrun, hend, hW, hsame, ce, hce, hO⟩ := X₁.ctorThrow0 hexec htr (own := own) (cls := cls) (names := names) (ic := ic) hown' hcls hnames h (fun x hx => nomatch hx) hfX hkX hcellA (by rw [hhp, hT]; exact Nat.le_refl _)
    (g := { method := m, pc := pc + 4, locals := ls, stack := .ref T.heap.size :: .ref T.heap.size :: rest, locked := none }) rfl hsize rfl rfl (rest := rest) rfl
    (by rw [hb]; exact d4) (by rw [hb]; exact d7) hout hRframes (by simp only [List.map_cons, List.sum_cons, hcat]; omega) hlocks
  obtain ⟨f1, f2⟩ := vx_frame hsame
  rw [hhp] at f1 f2
  have hWs : s.WarmedH U.vm := State.WarmedH.trans hW0 hW
  have hcl : s.vm.findClass cls = some ce.cls := by
    have h9 := hO.cls
    rw [hvm] at h9
    exact h9
  have hall3 : s.sameButNew ({ U with vm := s.vm } : State) locs (cells + 1) (slots + 6) := by
    subst hA
    obtain ⟨e1, e2⟩ := hsame
    rw [State.setFrames_setFrames] at e1
    have h2 : (T.setVm s.vm).sameButNew ({ U with vm := s.vm } : State) [] (0 + 1) (0 + 6) := ⟨e1, e2⟩
    have h3 := X.same.trans h2
    rw [List.append_nil] at h3
    exact h3
  have hall := hall3.mono hc hs
  have hnb : NBw s.heap U.heap (cells + 1) (slots + 6) := by
    have q2 := hz_new hall3
    obtain ⟨-, -, q4, -, q5, -⟩ := hall3
    refine ⟨q4, ?_⟩
    have q6 : hz U.heap = hz s.heap + ((U.heap.toList.drop s.heap.size).map (·.slots.size)).sum := q2
    have q7 : ((U.heap.toList.drop s.heap.size).map (·.slots.size)).sum ≤ slots + 6 := q5
    omega
  refine ⟨U, ?_, .threw T.heap.size, hrun, hend, Or.inr ⟨T.heap.size, rfl, cls, ce, locs, hx U hWs.alike f1 (fun q hq => f2 q hq (fun z hz => nomatch hz)) hnb, hce, hO.vm, hcl, hWs, hall, hf⟩⟩
  refine st1 _ ?_
  show Steps p.tables e below (T1.setTop { method := m, pc := pc + 3, locals := ls, stack := .ref T.heap.size :: rest, locked := none }) _
  jvm_step X₁.here [X₁.here.top, hexec, d3', Value.category]
  exact hsteps
end VXT1
end
section
theorem vd_pw {ws : va_W} : (∀ (i j : Nat) (p q : Nat × va_E), ws[i]? = some p → ws[j]? = some q → p.1 = q.1 → i = j) ↔ ws.Pairwise (fun p q => p.1 ≠ q.1) := by
  rw [List.pairwise_iff_getElem]
  constructor
  · intro h i j hi hj hij e
    exact absurd (h i j _ _ (List.getElem?_eq_getElem hi) (List.getElem?_eq_getElem hj) e) (Nat.ne_of_lt hij)
  · intro h i j p q hi hj e
    obtain ⟨hi', ei⟩ := List.getElem?_eq_some_iff.mp hi
    obtain ⟨hj', ej⟩ := List.getElem?_eq_some_iff.mp hj
    rcases Nat.lt_trichotomy i j with g | g | g
    · exact absurd (by rw [ei, ej]; exact e) (h i j hi' hj' g)
    · exact g
    · exact absurd (by rw [ei, ej]; exact e.symm) (h j i hj' hi' g)
theorem va_Dsl {A : Nat → Prop} {ws ws' : va_W} (hD : va_D A ws) (h : ws'.Sublist ws) : va_D A ws' :=
  ⟨vd_pw.mpr ((vd_pw.mp hD.1).sublist h), fun k q hk => by
    obtain ⟨i, hi⟩ := List.getElem?_of_mem (h.subset (List.mem_of_getElem? hk))
    exact hD.2 i q hi⟩
theorem va_Psl {D : va_G} {cl : List vw_C} {ws ws' : va_W} {H : Heap} (hP : va_P D cl ws H) (h : ws'.Sublist ws) : va_P D cl ws' H := fun k q hk => by
  obtain ⟨i, hi⟩ := List.getElem?_of_mem (h.subset (List.mem_of_getElem? hk))
  exact hP i q hi
/-- a list's cells are exchanged for larger ones -/
def gG (gm : Nat → Nat → Int32) (q : Nat) (n : Int32) : Nat → Nat → Int32 := va_up (va_up gm 42 (upd (gm 42) q n)) 57 (fun i => if 128 * q + (gm 42 q).toNatClampNeg ≤ i ∧ i < 128 * q + 128 then -1 else gm 57 i)
def lG (lx : List Nat) (q : Nat) : List Nat := lx.filter (fun q2 => !(q2 == q)) ++ [q]
theorem gG_42 {gm : Nat → Nat → Int32} {q : Nat} {n : Int32} : gG gm q n 42 = upd (gm 42) q n := by
  unfold gG; rw [va_up_ne _ _ (show (42 : Nat) ≠ 57 by decide)]; exact up_at rfl
theorem gG_57 {gm : Nat → Nat → Int32} {q : Nat} {n : Int32} : gG gm q n 57 = fun i => if 128 * q + (gm 42 q).toNatClampNeg ≤ i ∧ i < 128 * q + 128 then -1 else gm 57 i := up_at rfl
theorem gG_k {gm : Nat → Nat → Int32} {q k : Nat} {n : Int32} (h : k ≠ 42) (h2 : k ≠ 57) : gG gm q n k = gm k := by
  unfold gG; rw [va_up_ne _ _ h2, va_up_ne _ _ h]
theorem gG_lt {gm : Nat → Nat → Int32} {q j : Nat} {n : Int32} (h : j < (gm 42 q).toNatClampNeg) : gG gm q n 57 (128 * q + j) = gm 57 (128 * q + j) := by
  rw [gG_57]; show (if _ then _ else _) = _; rw [if_neg (by omega)]
theorem gG_ne {gm : Nat → Nat → Int32} {q q2 j : Nat} {n : Int32} (h : q2 ≠ q) (hj : j < 128) : gG gm q n 57 (128 * q2 + j) = gm 57 (128 * q2 + j) := by
  rw [gG_57]; show (if _ then _ else _) = _; rw [if_neg (by omega)]
theorem gG_ge {gm : Nat → Nat → Int32} {q j : Nat} {n : Int32} (h : ¬ j < (gm 42 q).toNatClampNeg) (hj : j < 128) : gG gm q n 57 (128 * q + j) = -1 := by
  have h1 : 128 * q + (gm 42 q).toNatClampNeg ≤ 128 * q + j ∧ 128 * q + j < 128 * q + 128 := ⟨by omega, by omega⟩
  rw [gG_57]; exact if_pos h1
theorem ky42 : ∀ t, t < 12 → ∀ j, j < cNf t → cKy t j ≠ 42 := by decide
theorem ay42 : ∀ t, t < 32 → cAy t ≠ 42 := by decide
theorem kd6 : ∀ t, t < 12 → ∀ j, j < cNf t → t = 11 ∧ j = 1 ∨ cKd t j = 0 ∨ cKd t j = 1 ∨ cKd t j = 2 ∨ cKd t j = 3 ∨ cKd t j = 4 ∨ cKd t j = 5 := by decide
section LGR
variable {ad : Nat → Nat → Nat} {cid : Nat → ClassId} {a2 : Nat → Nat} {lx : List Nat} {sg : Nat → Int32} {gm : Nat → Nat → Int32} {lg : Nat → Nat → Int64}
theorem cV_gr {t i j q a : Nat} {n : Int32} (ht : t < 12) (hj : j < cNf t) (hne : ¬ (t = 11 ∧ i = q)) : cV ad (va_up a2 q a) sg (gG gm q n) lg t j i = cV ad a2 sg gm lg t j i := by
  have e1 : gG gm q n (cKy t j) = gm (cKy t j) := gG_k (ky42 t ht j hj) (ky57 t ht j hj)
  rcases kd6 t ht j hj with ⟨h1, h2⟩ | h
  · subst h1; subst h2
    have hi : i ≠ q := fun q9 => hne ⟨rfl, q9⟩
    show Value.ref (if (gG gm q n 42 i).toInt = 0 then ad 34 0 else va_up a2 q a i) = Value.ref (if (gm 42 i).toInt = 0 then ad 34 0 else a2 i)
    rw [gG_42, upd_ne hi, va_up_ne _ _ hi]
  · unfold cV
    rw [e1]
    rcases h with h | h | h | h | h | h <;> simp [h]
theorem cE_gr {t i q a : Nat} {n : Int32} (ht : t < 32) (hne : ¬ (t = 11 ∧ i = q)) : cE ad cid (va_up a2 q a) sg (gG gm q n) lg t i = cE ad cid a2 sg gm lg t i := by
  unfold cE
  by_cases h12 : t < 12
  · rw [if_pos h12, if_pos h12]
    have : cFs ad (va_up a2 q a) sg (gG gm q n) lg t i = cFs ad a2 sg gm lg t i := List.map_congr_left (fun j hj => cV_gr h12 (List.mem_range.mp hj) hne)
    rw [this]
  · rw [if_neg h12, if_neg h12]
    have e0 : gG gm q n (cAy t) = gm (cAy t) := gG_k (ay42 t ht) (ay57 t ht)
    have e1 : cAi (gG gm q n) t i = cAi gm t i := funext fun j => by unfold cAi; rw [e0]
    have e2 : cAr ad (gG gm q n) t i = cAr ad gm t i := funext fun j => by unfold cAr; rw [e0]
    rw [e1, e2]
theorem cD_gr {q q2 : Nat} {n : Int32} (h : q2 ≠ q) : cD ad cid (gG gm q n) q2 = cD ad cid gm q2 := by
  unfold cD
  rw [gG_42, upd_ne h]
  have : cDr ad (gG gm q n) q2 = cDr ad gm q2 := funext fun j => by
    unfold cDr
    by_cases hj : j < 128
    · rw [if_pos hj, if_pos hj, gG_ne h hj]
    · rw [if_neg hj, if_neg hj]
  rw [this]
theorem cDr_gr {q : Nat} {n : Int32} (h : (gm 42 q).toNatClampNeg ≤ 128) : cDr ad (gG gm q n) q = va_cpy (cDr ad gm q) (fun _ => none) 0 0 (gm 42 q).toNatClampNeg := funext fun j => by
  unfold va_cpy
  show cDr ad (gG gm q n) q j = if 0 ≤ j ∧ j < 0 + (gm 42 q).toNatClampNeg then cDr ad gm q (0 + (j - 0)) else none
  by_cases h2 : j < (gm 42 q).toNatClampNeg
  · rw [if_pos ⟨Nat.zero_le _, by omega⟩, show 0 + (j - 0) = j from by omega]
    unfold cDr
    rw [if_pos (by omega), if_pos (by omega), gG_lt h2]
  · rw [if_neg (by omega)]
    unfold cDr
    by_cases hj : j < 128
    · rw [if_pos hj, gG_ge h2 hj]
      exact er_none (by decide)
    · rw [if_neg hj]
/-- the larger cells of a list, not yet in it -/
def nD (ad : Nat → Nat → Nat) (cid : Nat → ClassId) (gm : Nat → Nat → Int32) (q N : Nat) : va_E := .inl (cid 32, N, .inr (.inr (.inr (.inr (va_cpy (cDr ad gm q) (fun _ => none) 0 0 (gm 42 q).toNatClampNeg)))))
theorem cW_gr {p9 q a : Nat} {n : Int32} (hp : cPL[p9]? = some (11, q)) (hn : ¬ n.toInt = 0) (h8 : (gm 42 q).toNatClampNeg ≤ 128) :
    (cW ad cid (va_up a2 q a) (lG lx q) sg (gG gm q n) lg).Sublist ((cW ad cid a2 lx sg gm lg ++ [(a, nD ad cid gm q n.toNatClampNeg)]).set p9 (ad 11 q, .inr (cIx 11, (cFs ad a2 sg gm lg 11 q).set 1 (.ref a)))) := by
  have c0 : cV ad (va_up a2 q a) sg (gG gm q n) lg 11 0 q = cV ad a2 sg gm lg 11 0 q := by
    show Value.int (gG gm q n 40 q) = Value.int (gm 40 q); rw [gG_k (by decide) (by decide)]
  have c2 : cV ad (va_up a2 q a) sg (gG gm q n) lg 11 2 q = cV ad a2 sg gm lg 11 2 q := by
    show Value.int (gG gm q n 41 q) = Value.int (gm 41 q); rw [gG_k (by decide) (by decide)]
  have c1 : cV ad (va_up a2 q a) sg (gG gm q n) lg 11 1 q = .ref a := by
    show Value.ref (if (gG gm q n 42 q).toInt = 0 then ad 34 0 else va_up a2 q a q) = .ref a
    rw [gG_42, upd_at, if_neg hn, va_up_self]
  have hg : (ad 11 q, (Sum.inr (cIx 11, (cFs ad a2 sg gm lg 11 q).set 1 (.ref a)) : va_E)) = (fun x : Nat × Nat => (ad x.1 x.2, cE ad cid (va_up a2 q a) sg (gG gm q n) lg x.1 x.2)) (11, q) := by
    show _ = (ad 11 q, cE ad cid (va_up a2 q a) sg (gG gm q n) lg 11 q)
    rw [cE_o (by decide)]
    show (ad 11 q, (Sum.inr (cIx 11, [cV ad a2 sg gm lg 11 0 q, .ref a, cV ad a2 sg gm lg 11 2 q]) : va_E)) = (ad 11 q, .inr (cIx 11, [cV ad (va_up a2 q a) sg (gG gm q n) lg 11 0 q, cV ad (va_up a2 q a) sg (gG gm q n) lg 11 1 q, cV ad (va_up a2 q a) sg (gG gm q n) lg 11 2 q]))
    rw [c0, c1, c2]
  rw [hg]
  unfold cW cFx
  rw [List.append_assoc]
  generalize hL : cPL = L at hp ⊢
  rw [cW_setG (g := fun x : Nat × Nat => (ad x.1 x.2, cE ad cid (va_up a2 q a) sg (gG gm q n) lg x.1 x.2)) hp (fun j x hx hj => by
    have hx2 : cPL[j]? = some x := by rw [hL]; exact hx
    have hp2 : cPL[p9]? = some (11, q) := by rw [hL]; exact hp
    show (ad x.1 x.2, cE ad cid (va_up a2 q a) sg (gG gm q n) lg x.1 x.2) = (ad x.1 x.2, cE ad cid a2 sg gm lg x.1 x.2)
    rw [cE_gr (cPL_in hx2).1 (fun q9 => hj (cPL_inj hx2 (by rw [show x = (11, q) from Prod.ext q9.1 q9.2]; exact hp2)))])]
  refine List.Sublist.append (List.Sublist.refl _) ?_
  unfold lG
  rw [List.map_append]
  refine List.Sublist.append ?_ ?_
  · rw [List.map_congr_left (g := fun q2 => (a2 q2, cD ad cid gm q2)) (fun b hb => by
      have h9 : b ≠ q := fun q9 => by have := (List.mem_filter.mp hb).2; rw [q9] at this; simp at this
      rw [va_up_ne _ _ h9, cD_gr h9])]
    exact List.filter_sublist.map _
  · show [(va_up a2 q a q, cD ad cid (gG gm q n) q)].Sublist _
    rw [va_up_self]
    unfold cD nD
    rw [cDr_gr h8, gG_42, upd_at]
    exact List.Sublist.refl _
end LGR
theorem sum_ite {g : Nat → Nat} {q a : Nat} (m9 : Nat) : ((List.range m9).map (fun i => if i = q then a else g i)).sum + (if q < m9 then g q else 0) = ((List.range m9).map g).sum + (if q < m9 then a else 0) := by
  induction m9 with
  | zero => rw [if_neg (Nat.not_lt_zero q), if_neg (Nat.not_lt_zero q)]; rfl
  | succ m9 ih =>
    rw [List.range_succ, List.map_append, List.map_append, List.sum_append, List.sum_append, List.map_cons, List.map_cons, List.map_nil, List.map_nil, List.sum_cons, List.sum_cons, List.sum_nil]
    by_cases e9 : q = m9
    · subst e9
      rw [if_neg (Nat.lt_irrefl q), if_neg (Nat.lt_irrefl q)] at ih
      rw [if_pos (Nat.lt_succ_self q), if_pos (Nat.lt_succ_self q), if_pos rfl]
      omega
    · rw [if_neg (Ne.symm e9)]
      by_cases h9 : q < m9
      · rw [if_pos h9, if_pos h9] at ih
        rw [if_pos (by omega), if_pos (by omega)]
        omega
      · rw [if_neg h9, if_neg h9] at ih
        rw [if_neg (by omega), if_neg (by omega)]
        omega
theorem PHs_a {f : Nat → Int32} {q : Nat} {n : Int32} : (fun i => (upd f q n i).toNatClampNeg) = fun i => if i = q then n.toNatClampNeg else (f i).toNatClampNeg := funext fun i => by
  by_cases h : i = q
  · rw [h, upd_at, if_pos rfl]
  · rw [upd_ne h, if_neg h]
theorem PHs_gG {gm : Nat → Nat → Int32} {q : Nat} {n : Int32} (h : q < 240) : PHs (gG gm q n) + (gm 42 q).toNatClampNeg = PHs gm + n.toNatClampNeg := by
  have h1 := sum_ite (g := fun i => (gm 42 i).toNatClampNeg) (q := q) (a := n.toNatClampNeg) 240
  rw [if_pos h, if_pos h] at h1
  unfold PHs
  rw [gG_42, PHs_a]
  exact h1
theorem LDI_gG {lx : List Nat} {sg : Nat → Int32} {gm : Nat → Nat → Int32} {q : Nat} {n : Int32} (hI : CI sg gm) (h : LDI lx gm) (hn : (gm 42 q).toInt ≤ n.toInt) : LDI (lG lx q) (gG gm q n) := fun q2 h2 => by
  obtain ⟨b1, b2, b3⟩ := h q2 h2
  have i41 := (show iv 0 80 (gm 41 q2) from CI_n hI 41 h2)
  have k1 : (gm 41 q2).toNatClampNeg = (gm 41 q2).toInt.toNat := rfl
  have i411 := i41.1
  have i412 := i41.2
  rw [gG_42, gG_k (show (41 : Nat) ≠ 42 by decide) (by decide)]
  by_cases e9 : q2 = q
  · subst e9
    rw [upd_at]
    refine ⟨by omega, fun _ => List.mem_append_right _ List.mem_cons_self, fun j hj => ?_⟩
    rw [gG_lt (by have k2 : (gm 42 q2).toNatClampNeg = (gm 42 q2).toInt.toNat := rfl; omega)]
    exact b3 j hj
  · rw [upd_ne e9]
    refine ⟨b1, fun q9 => List.mem_append_left _ (List.mem_filter.mpr ⟨b2 q9, by simp [e9]⟩), fun j hj => ?_⟩
    rw [gG_ne e9 (by omega)]; exact b3 j hj
theorem CI_gG {sg : Nat → Int32} {gm : Nat → Nat → Int32} {q : Nat} {n : Int32} (hI : CI sg gm) (hn : iv 0 127 n) : CI sg (gG gm q n) := ⟨hI.1, fun k i hi => by
  by_cases h42 : k = 42
  · subst h42
    rw [gG_42]
    by_cases e9 : i = q
    · rw [e9, upd_at]; exact hn
    · rw [upd_ne e9]; exact hI.2 42 i hi
  · by_cases h57 : k = 57
    · subst h57
      rw [gG_57]
      show iv (-1) 79 (if _ then _ else _)
      by_cases h9 : 128 * q + (gm 42 q).toNatClampNeg ≤ i ∧ i < 128 * q + 128
      · rw [if_pos h9]; exact ⟨by decide, by decide⟩
      · rw [if_neg h9]; exact hI.2 57 i hi
    · rw [gG_k h42 h57]; exact hI.2 k i hi⟩
theorem shr1 {a : Int32} (h : iv 0 127 a) : (a >>> ((1 : Int32) &&& 31)).toInt = a.toInt / 2 := by
  have key : ∀ n : Fin 128, ((nI n.val) >>> ((1 : Int32) &&& 31)).toInt = (n.val : Int) / 2 := by decide +kernel
  have h1 := h.1
  have h2 := h.2
  have e1 : a = nI a.toInt.toNat := Int32.toInt_inj.mp (by rw [nI_toInt (by omega)]; omega)
  have := key ⟨a.toInt.toNat, by omega⟩
  rw [← e1] at this
  rw [this]
  show ((a.toInt.toNat : Nat) : Int) / 2 = _
  rw [Int.toNat_of_nonneg h1]
theorem cT_len {cid : Nat → ClassId} : (cT cid).length = 33 := by unfold cT; rw [List.length_map, List.length_range]
theorem set_last {α : Type} (L : List α) (x y : α) : (L ++ [x]).set L.length y = L ++ [y] := by
  rw [List.set_append_right _ _ (Nat.le_refl _), Nat.sub_self]; rfl
section LGM
variable {p : Program} {l : Launch} {e : Env} {R : Room} {s : State} {m : MethodId} {args : Array Value} {below : List Frame} {meth : Method} {c : Code} {H : Heap} {locs : List Loc} {Q : State → Prop} {cc : ByteArray} {pc : Nat} {ls : Array Slot} {rest : List Value} {A : Nat → Prop}
variable {dC : Nat → ClassId} {dI : Nat → Nat → Nat} {ad : Nat → Nat → Nat} {cid : Nat → ClassId} {a2 : Nat → Nat} {lx : List Nat} {sg : Nat → Int32} {gm : Nat → Nat → Int32} {lg : Nat → Nat → Int64} {own : String} {index : Nat} {cells slots : Nat} {st0 : List Value}
/-- new cells are of the class that the lists' cells have -/
theorem cA_eq {cA : ClassId} (hK : va_K (dC, dI) vwCl (cT cid) s) (hK2 : va_K (dC, dI) vwCl (cT cid ++ [(cA, .object "java/lang/Object")]) s) : cA = cid 32 := by
  have r1 := (hK2.2 33 (cA, .object "java/lang/Object") (by rw [List.getElem?_append_right (by rw [cT_len]; decide), cT_len]; rfl)).2
  have r2 := (hK.2 32 (cid 32, .object "java/lang/Object") (cT_at (by decide))).2
  exact Option.some.inj ((va_nmO r1 rfl).symm.trans (va_nmO r2 rfl))
def cQn (dC : Nat → ClassId) (dI : Nat → Nat → Nat) (ad : Nat → Nat → Nat) (cid : Nat → ClassId) (a2 : Nat → Nat) (lx : List Nat) (sg : Nat → Int32) (gm : Nat → Nat → Int32) (lg : Nat → Nat → Int64) (q N : Nat) (A : Nat → Prop) : Array Value → State → Outcome → State → Prop := fun _ st oc t => (∃ a : Nat, oc = .returned (some (.ref a)) ∧ va_P (dC, dI) vwCl (cW ad cid a2 lx sg gm lg ++ [(a, nD ad cid gm q N)]) t.heap ∧ va_K (dC, dI) vwCl (cT cid) t ∧ va_D A (cW ad cid a2 lx sg gm lg ++ [(a, nD ad cid gm q N)])) ∧ va_F A st t ∧ NBw st.heap t.heap 1 N
theorem cm_goN {a : Array Value} {q N : Nat} (hr : vx_Run p l e R s m args below meth c H locs cells slots 1 127 (F0 m pc ls st0) rest (cQn dC dI ad cid a2 lx sg gm lg q N (va_A (cW ad cid a2 lx sg gm lg) H.size) a) (fun _ _ _ => False) (va_A (cW ad cid a2 lx sg gm lg) H.size)) (hD : va_D A (cW ad cid a2 lx sg gm lg)) (hS : va_S A s.heap H locs) (hA : ∀ q, s.heap.size ≤ q → A q)
    (kk : ∀ (a : Nat) (H1 : Heap) (locs1 : List Loc), va_P (dC, dI) vwCl (cW ad cid a2 lx sg gm lg ++ [(a, nD ad cid gm q N)]) H1 → va_D A (cW ad cid a2 lx sg gm lg ++ [(a, nD ad cid gm q N)]) → va_S A s.heap H1 locs1 → W p l e R s m args below meth c H1 locs1 (cells + 1) (slots + N) Q (F0 m (pc + 3) ls (.ref a :: rest))) : W p l e R s m args below meth c H locs cells slots Q (F0 m pc ls st0) := by
  have hFc := cfree hD hS hA
  refine W.nb (fun hN => ?_)
  intro T hT X
  rcases hr T hT X with ⟨v, st₀, t, T', L, h0, X', hL, e1, e2, ⟨⟨a9, hv, b1, b2, b3⟩, hF, hN1⟩, st⟩ | ⟨q9, st₀, t, T', L, E, ce, h0, X', hL, e1, e2, hf, hce, hcv, hcl, st⟩
  · cases hv
    obtain ⟨k1, k2, k3⟩ := vx_keep h0 e1 hS (fun q _ h => hFc q h) hFc hL hF
    rw [h0, ← e1] at hN1
    obtain ⟨t2, a1, c1⟩ := W.narrow (NBw_tr hN hN1) (kk a9 T'.heap (locs ++ L) (by rw [e1]; exact b1) (b3.weaken (fun _ _ _ h => hFc _ h)) k3) T' rfl X'
    exact ⟨t2, st t2 a1, c1⟩
  · exact hf.elim
/-- the cells of a list as a receiver -/
theorem cl_recv {i q : Nat} (hK : va_K (dC, dI) vwCl (cT cid) s) (hP : va_P (dC, dI) vwCl (cW ad cid a2 lx sg gm lg) H) (hi : lx[i]? = some q) : ∃ cell : Cell, H[a2 q]? = some cell ∧ cell.vm.isStatics = false ∧ s.vm.findClass "[Ljava/lang/Object;" = some cell.cls := by
  have r2 := (hK.2 32 (cid 32, .object "java/lang/Object") (cT_at (by decide))).2
  exact ⟨_, hP _ _ (cW_lat hi), rfl, va_nmO r2 rfl⟩
/-- the larger cells come into the list -/
theorem cl_putD {h : Int} {x n : Int32} {a : Nat} (hexec : p.tables.exec = Jvm.exec) (hb : c.code = cc) (htb : ∀ w ∈ tb, w.before args s = true) (hown : s.vm.findClass own = some m.cls) (hK : va_K (dC, dI) vwCl (cT cid) s) {H0 : Heap} (hP : va_P (dC, dI) vwCl (cW ad cid a2 lx sg gm lg ++ [(a, nD ad cid gm x.toNatClampNeg n.toNatClampNeg)]) H) (hD : va_D A (cW ad cid a2 lx sg gm lg ++ [(a, nD ad cid gm x.toNatClampNeg n.toNatClampNeg)])) (hS : va_S A H0 H locs) (hx : iv 0 h x) (hn : h < (cNum 11 : Int)) (h1 : ¬ n.toInt = 0) (h8 : (gm 42 x.toNatClampNeg).toNatClampNeg ≤ 128) (hlink : (Cond.fieldLink own index "java/util/ArrayList" "elementData" "[Ljava/lang/Object;").before args s = true) (hdg : decode cc pc = .ok (.putfield index, 3))
    (kk : ∀ (H1 : Heap) (locs1 : List Loc), va_P (dC, dI) vwCl (cW ad cid (va_up a2 x.toNatClampNeg a) (lG lx x.toNatClampNeg) sg (gG gm x.toNatClampNeg n) lg) H1 → va_D A (cW ad cid (va_up a2 x.toNatClampNeg a) (lG lx x.toNatClampNeg) sg (gG gm x.toNatClampNeg n) lg) → va_S A H0 H1 locs1 → W p l e R s m args below meth c H1 locs1 cells slots Q (F0 m (pc + 3) ls rest)) : W p l e R s m args below meth c H locs cells slots Q (F0 m pc ls (.ref a :: eV (ad 11) x :: rest)) := by
  obtain ⟨p9, hp⟩ := cPL_at (t := 11) (by decide) (cnx hx hn)
  rw [eV_ref hx.1]
  have hlt : p9 < (cW ad cid a2 lx sg gm lg).length := (List.getElem?_eq_some_iff.mp (cW_at (ad := ad) (cid := cid) (a2 := a2) (lx := lx) (sg := sg) (gm := gm) (lg := lg) hp)).1
  refine va_put (D := (dC, dI)) (ci := cIx 11) (v := .ref a) (ty := tyJx4a65c 1) (C := RJx4a65c) (T := TJx4a65c) (N := 3) (ref := "java/util/ArrayList") hexec hb htb inJx4a65c tyJx4a65c tyJx4a65c_ok nmJx4a65c hown hK hP hD hS p9 (by rw [List.getElem?_append_left hlt, cW_at hp, cE_o (by decide)]) rfl 1 (by decide) hlink (fun x9 h9 => h9) rfl (tyJx4a65c_ok 1 (by decide)) rfl rfl (by rw [cFs_len]; decide) hdg (fun H1 locs1 g1 g2 g3 => kk H1 locs1 ?_ ?_ g3)
  · exact va_Psl g1 (cW_gr hp h1 h8)
  · exact va_Dsl g2 (cW_gr hp h1 h8)
end LGM
end
section
theorem gc_l0 {sg : Nat → Int32} {gm gm2 : Nat → Nat → Int32} {k : Nat} (hI : CI sg gm2) : gc gm gm2 k ≤ 30480 + k := by have := PH_le (gm := gm) hI; unfold gc; omega
theorem gs_l0 {sg : Nat → Int32} {gm gm2 : Nat → Nat → Int32} {k : Nat} (hI : CI sg gm2) : gs gm gm2 k ≤ 121920 + 6 * k := by have := PH_le (gm := gm) hI; unfold gs; omega

theorem dJ7_copyOf_6403c_0g : decode cJ7_copyOf_6403c 0 = .ok (.aload_n 2, 1) ∧ decode cJ7_copyOf_6403c 1 = .ok (.ldc 110, 2) ∧ decode cJ7_copyOf_6403c 3 = .ok (.if_acmp .ne 10, 3) ∧ decode cJ7_copyOf_6403c 6 = .ok (.iload_n 1, 1) ∧ decode cJ7_copyOf_6403c 7 = .ok (.anewarray 2, 3) ∧ decode cJ7_copyOf_6403c 10 = .ok (.goto 14, 3) ∧ decode cJ7_copyOf_6403c 24 = .ok (.astore_n 3, 1) ∧ decode cJ7_copyOf_6403c 25 = .ok (.aload_n 0, 1) ∧ decode cJ7_copyOf_6403c 26 = .ok (.iconst 0, 1) ∧ decode cJ7_copyOf_6403c 27 = .ok (.aload_n 3, 1) ∧ decode cJ7_copyOf_6403c 28 = .ok (.iconst 0, 1) ∧ decode cJ7_copyOf_6403c 29 = .ok (.aload_n 0, 1) ∧ decode cJ7_copyOf_6403c 30 = .ok (.arraylength, 1) ∧ decode cJ7_copyOf_6403c 31 = .ok (.iload_n 1, 1) ∧ decode cJ7_copyOf_6403c 32 = .ok (.invokestatic 304, 3) ∧ decode cJ7_copyOf_6403c 35 = .ok (.invokestatic 150, 3) := by decide +kernel
theorem dJ7_copyOf_6403c_0 : decode cJ7_copyOf_6403c 0 = .ok (.aload_n 2, 1) := dJ7_copyOf_6403c_0g.1
theorem dJ7_copyOf_6403c_1 : decode cJ7_copyOf_6403c 1 = .ok (.ldc 110, 2) := dJ7_copyOf_6403c_0g.2.1
theorem dJ7_copyOf_6403c_3 : decode cJ7_copyOf_6403c 3 = .ok (.if_acmp .ne 10, 3) := dJ7_copyOf_6403c_0g.2.2.1
theorem dJ7_copyOf_6403c_6 : decode cJ7_copyOf_6403c 6 = .ok (.iload_n 1, 1) := dJ7_copyOf_6403c_0g.2.2.2.1
theorem dJ7_copyOf_6403c_7 : decode cJ7_copyOf_6403c 7 = .ok (.anewarray 2, 3) := dJ7_copyOf_6403c_0g.2.2.2.2.1
theorem dJ7_copyOf_6403c_10 : decode cJ7_copyOf_6403c 10 = .ok (.goto 14, 3) := dJ7_copyOf_6403c_0g.2.2.2.2.2.1
theorem dJ7_copyOf_6403c_24 : decode cJ7_copyOf_6403c 24 = .ok (.astore_n 3, 1) := dJ7_copyOf_6403c_0g.2.2.2.2.2.2.1
theorem dJ7_copyOf_6403c_25 : decode cJ7_copyOf_6403c 25 = .ok (.aload_n 0, 1) := dJ7_copyOf_6403c_0g.2.2.2.2.2.2.2.1
theorem dJ7_copyOf_6403c_26 : decode cJ7_copyOf_6403c 26 = .ok (.iconst 0, 1) := dJ7_copyOf_6403c_0g.2.2.2.2.2.2.2.2.1
theorem dJ7_copyOf_6403c_27 : decode cJ7_copyOf_6403c 27 = .ok (.aload_n 3, 1) := dJ7_copyOf_6403c_0g.2.2.2.2.2.2.2.2.2.1
theorem dJ7_copyOf_6403c_28 : decode cJ7_copyOf_6403c 28 = .ok (.iconst 0, 1) := dJ7_copyOf_6403c_0g.2.2.2.2.2.2.2.2.2.2.1
theorem dJ7_copyOf_6403c_29 : decode cJ7_copyOf_6403c 29 = .ok (.aload_n 0, 1) := dJ7_copyOf_6403c_0g.2.2.2.2.2.2.2.2.2.2.2.1
theorem dJ7_copyOf_6403c_30 : decode cJ7_copyOf_6403c 30 = .ok (.arraylength, 1) := dJ7_copyOf_6403c_0g.2.2.2.2.2.2.2.2.2.2.2.2.1
theorem dJ7_copyOf_6403c_31 : decode cJ7_copyOf_6403c 31 = .ok (.iload_n 1, 1) := dJ7_copyOf_6403c_0g.2.2.2.2.2.2.2.2.2.2.2.2.2.1
theorem dJ7_copyOf_6403c_32 : decode cJ7_copyOf_6403c 32 = .ok (.invokestatic 304, 3) := dJ7_copyOf_6403c_0g.2.2.2.2.2.2.2.2.2.2.2.2.2.2.1
theorem dJ7_copyOf_6403c_35 : decode cJ7_copyOf_6403c 35 = .ok (.invokestatic 150, 3) := dJ7_copyOf_6403c_0g.2.2.2.2.2.2.2.2.2.2.2.2.2.2.2
theorem dJ7_copyOf_6403c_38 : decode cJ7_copyOf_6403c 38 = .ok (.aload_n 3, 1) := by decide +kernel
theorem dJ7_copyOf_6403c_39 : decode cJ7_copyOf_6403c 39 = .ok (.areturn, 1) := by decide +kernel
theorem dJ7_copyOf_1904c_0g : decode cJ7_copyOf_1904c 0 = .ok (.aload_n 0, 1) ∧ decode cJ7_copyOf_1904c 1 = .ok (.iload_n 1, 1) ∧ decode cJ7_copyOf_1904c 2 = .ok (.aload_n 0, 1) ∧ decode cJ7_copyOf_1904c 3 = .ok (.invokevirtual 86, 3) ∧ decode cJ7_copyOf_1904c 6 = .ok (.invokestatic 300, 3) ∧ decode cJ7_copyOf_1904c 9 = .ok (.areturn, 1) := by decide +kernel
theorem dJ7_copyOf_1904c_0 : decode cJ7_copyOf_1904c 0 = .ok (.aload_n 0, 1) := dJ7_copyOf_1904c_0g.1
theorem dJ7_copyOf_1904c_1 : decode cJ7_copyOf_1904c 1 = .ok (.iload_n 1, 1) := dJ7_copyOf_1904c_0g.2.1
theorem dJ7_copyOf_1904c_2 : decode cJ7_copyOf_1904c 2 = .ok (.aload_n 0, 1) := dJ7_copyOf_1904c_0g.2.2.1
theorem dJ7_copyOf_1904c_3 : decode cJ7_copyOf_1904c 3 = .ok (.invokevirtual 86, 3) := dJ7_copyOf_1904c_0g.2.2.2.1
theorem dJ7_copyOf_1904c_6 : decode cJ7_copyOf_1904c 6 = .ok (.invokestatic 300, 3) := dJ7_copyOf_1904c_0g.2.2.2.2.1
theorem dJ7_copyOf_1904c_9 : decode cJ7_copyOf_1904c 9 = .ok (.areturn, 1) := dJ7_copyOf_1904c_0g.2.2.2.2.2

theorem cap_of {sg : Nat → Int32} {gm : Nat → Nat → Int32} {q : Nat} (hI : CI sg gm) (hq : q < 240) : (gm 42 q).toNatClampNeg ≤ 127 ∧ 0 ≤ (gm 42 q).toInt ∧ (gm 42 q).toInt = ((gm 42 q).toNatClampNeg : Int) ∧ Int32.ofNat (gm 42 q).toNatClampNeg = gm 42 q := by
  have h := (show iv 0 127 (gm 42 q) from CI_n hI 42 hq)
  have h1 := h.1
  have h2 := h.2
  have h3 : (gm 42 q).toNatClampNeg = (gm 42 q).toInt.toNat := rfl
  refine ⟨by omega, h1, by omega, Int32.toInt_inj.mp ?_⟩
  rw [show Int32.ofNat (gm 42 q).toNatClampNeg = nI (gm 42 q).toNatClampNeg from rfl, nI_toInt (by omega)]
  omega
set_option maxHeartbeats 4000000 in
set_option maxRecDepth 100000 in
theorem d_copyOf3 (l : Launch) (dC : Nat → ClassId) (dI : Nat → Nat → Nat) (ad : Nat → Nat → Nat) (cid : Nat → ClassId) (a2 : Nat → Nat) (lx : List Nat) (sg : Nat → Int32) (gm : Nat → Nat → Int32) (lg : Nat → Nat → Int64) (q i : Nat) (n : Int32) (hI : CI sg gm) (hq : q < 240) (hi : lx[i]? = some q) (hvn : iv 1 127 n) (hge : (gm 42 q).toInt ≤ n.toInt) :
    ∀ sz, vx_Met l yJ7_copyOf_6403c wm_J7_copyOf_6403c ({ frames := 4, cells := 1, slots := 127, locals := 80 }) (va_Pc [.ref (a2 q), .int n, .ref (ad 39 0)] (CPre dC dI ad cid a2 lx sg gm lg sz)) (cQn dC dI ad cid a2 lx sg gm lg q n.toNatClampNeg (va_A (cW ad cid a2 lx sg gm lg) sz)) (fun _ _ _ => False) 1 127 (va_A (cW ad cid a2 lx sg gm lg) sz) := by
  intro sz
  refine vx_ofW (cc := cJ7_copyOf_6403c) (maxL := 4) (ret := (some (.array (.object "java/lang/Object")))) (by decide) rfl ?_
  intro p e s m args below meth c s₁ B hml hxt hv
  obtain ⟨rfl, hsz, hP, hK, hD0, hG⟩ := hv
  have hx := B.exec
  have hb := B.bytes
  have hr := B.returns
  have hts := atoms_spec (ws := wm_J7_copyOf_6403c) B.pre
  have htb := fun (w : Cond) (h : w ∈ tb) => hts w (List.mem_cons_of_mem _ h)
  have hown : s.vm.findClass RJ7 = some m.cls := findClass_of_methodNamed B.named
  have hlocks := B.notSynchronized
  subst hsz
  have hD := hD0.self (sz := s.heap.size)
  generalize hAe : va_A (cW ad cid a2 lx sg gm lg) s.heap.size = A at hD hG ⊢
  have hA : ∀ q : Nat, s.heap.size ≤ q → A q := fun q h => by rw [← hAe]; exact Or.inr h
  have hS : va_S A s.heap s.heap [] := va_S.rf
  have hl := lv_entry ([.ref (a2 q), .int n, .ref (ad 39 0)]) (n := 4) (Nat.le_of_ble_eq_true rfl)
  rw [lg_entry_eq]
  generalize (lg_sl ([.ref (a2 q), .int n, .ref (ad 39 0)]) ++ List.replicate (4 - (lg_sl ([.ref (a2 q), .int n, .ref (ad 39 0)])).length) Slot.unset).toArray = ls at hl ⊢
  have hl : lv_has ls 4 [(0, .ref (a2 q)), (1, .int n), (2, .ref (ad 39 0))] := hl
  obtain ⟨k1, k2, k3, k4⟩ := cap_of hI hq
  have hn1 := hvn.1
  have hn2 := hvn.2
  have hn3 : n.toNatClampNeg = n.toInt.toNat := rfl
  have hn4 : n.toNatClampNeg ≤ 127 := by omega
  have n0 : ¬ n < 0 := fun q9 => by have := Int32.lt_iff_toInt_lt.mp q9; have z0 : (0 : Int32).toInt = 0 := (by decide); omega
  have c0 : ¬ gm 42 q < 0 := fun q9 => by have := Int32.lt_iff_toInt_lt.mp q9; have z0 : (0 : Int32).toInt = 0 := (by decide); omega
  have nc : ¬ n < gm 42 q := fun q9 => by have := Int32.lt_iff_toInt_lt.mp q9; omega
  refine lv_aload_n hx hb dJ7_copyOf_6403c_0 rfl (lv_at hl 2 rfl) ?_
  refine va_ldcM hx hb hown (htb _ kw_846) hG.2.1.2.2.2.1.2.2 dJ7_copyOf_6403c_1 ?_
  refine lv_acmp_ne (rx := some (ad 39 0)) (ry := some (ad 39 0)) (tgt := 13) hx hb dJ7_copyOf_6403c_3 (by decide) (fun q9 => absurd rfl q9) (fun _ => ?_)
  refine lv_iload_n hx hb dJ7_copyOf_6403c_6 rfl (lv_at hl 1 rfl) ?_
  refine va_newq (D := (dC, dI)) (N' := n.toNatClampNeg) (C := "java/lang/Object") hx hb hown (htb _ kw_847) hG.2.1.2.2.2.1.1 hK hP hD hS hA n0 rfl (by omega) (Nat.le_of_ble_eq_true rfl) (show 0 + n.toNatClampNeg ≤ 127 from (by omega)) dJ7_copyOf_6403c_7 (fun a cA H hK2 hP hD hS => ?_)
  obtain rfl : cA = cid 32 := cA_eq hK hK2
  refine lv_goto (tgt := 24) hx hb dJ7_copyOf_6403c_10 (by decide) ?_
  refine lv_astore_n (lv' := [(3, .ref a), (0, .ref (a2 q)), (1, .int n), (2, .ref (ad 39 0))]) hx hb dJ7_copyOf_6403c_24 rfl hl (by decide) rfl (fun ls hl => ?_)
  refine lv_aload_n hx hb dJ7_copyOf_6403c_25 rfl (lv_at hl 1 rfl) ?_
  refine lv_iconst (v := 0) hx hb dJ7_copyOf_6403c_26 (by decide) ?_
  refine lv_aload_n hx hb dJ7_copyOf_6403c_27 rfl (lv_at hl 0 rfl) ?_
  refine lv_iconst (v := 0) hx hb dJ7_copyOf_6403c_28 (by decide) ?_
  refine lv_aload_n hx hb dJ7_copyOf_6403c_29 rfl (lv_at hl 1 rfl) ?_
  have hlat := cW_lat (ad := ad) (cid := cid) (a2 := a2) (sg := sg) (gm := gm) (lg := lg) hi
  have hsrc : (cW ad cid a2 lx sg gm lg ++ [(a, (.inl (cid 32, n.toNatClampNeg, .inr (.inr (.inr (.inr (fun _ => none))))) : va_E))])[(cFx ad cid a2 sg gm lg).length + i]? = some (a2 q, cD ad cid gm q) := by
    rw [List.getElem?_append_left (List.getElem?_eq_some_iff.mp hlat).1]; exact hlat
  have hdst : (cW ad cid a2 lx sg gm lg ++ [(a, (.inl (cid 32, n.toNatClampNeg, .inr (.inr (.inr (.inr (fun _ => none))))) : va_E))])[(cW ad cid a2 lx sg gm lg).length]? = some (a, .inl (cid 32, n.toNatClampNeg, .inr (.inr (.inr (.inr (fun _ => none)))))) := by
    rw [List.getElem?_append_right (Nat.le_refl _), Nat.sub_self]; rfl
  refine va_alen (D := (dC, dI)) (v := gm 42 q) hx hb hK hP _ 32 hsrc (cT_at (by decide)) k4 dJ7_copyOf_6403c_30 ?_
  refine lv_iload_n hx hb dJ7_copyOf_6403c_31 rfl (lv_at hl 2 rfl) ?_
  refine va_mmin hx hb (hml.trans hl.1.symm) hown (htb _ kw_848) (htb _ kw_849) (htb _ kw_169) (htb _ kw_1516) (Nat.le_of_ble_eq_true rfl) (Nat.le_of_ble_eq_true rfl) (Nat.le_of_ble_eq_true rfl) (show 0 + n.toNatClampNeg ≤ 127 from (by omega)) dJ7_copyOf_6403c_32 ?_
  refine W.eq (g2 := F0 m 35 ls [.int (gm 42 q), .int 0, .ref a, .int 0, .ref (a2 q)]) (by rw [if_neg nc]) ?_
  refine va_copyq (D := (dC, dI)) (C := "WiredBeans$Element") hx hb (hml.trans hl.1.symm) hown (htb _ kw_850) (htb _ kw_852) (htb _ kw_851) (htb _ kw_171) hK hP hD hS _ _ 32 32 hsrc hdst (cT_at (by decide)) (cT_at (by decide)) (by decide) (by decide) c0 (by rw [show (0 : Int32).toNatClampNeg = 0 from by decide, Nat.zero_add]; exact Nat.le_refl _) (by rw [show (0 : Int32).toNatClampNeg = 0 from by decide]; omega) (fun j hj y hy => ?_) (fun comp c0 f2 f1 => ?_) (Nat.le_of_ble_eq_true rfl) (Nat.le_of_ble_eq_true rfl) dJ7_copyOf_6403c_35 (fun H locs hP hD hS => ?_)
  · rw [show (0 : Int32).toNatClampNeg + j = j from by rw [show (0 : Int32).toNatClampNeg = 0 from by decide, Nat.zero_add]] at hy
    unfold cDr at hy
    rw [if_pos (by omega)] at hy
    by_cases h9 : (gm 57 (128 * q + j)).toInt < 0
    · rw [er_none h9] at hy; cases hy
    · rw [er_some (by omega)] at hy
      cases hy
      exact cm_recv (C := RX3) (T := TX3) (N := 21) (t := 9) (h := 79) hK (va_Psl hP (List.sublist_append_left _ _)) ⟨by omega, (show iv (-1) 79 _ from CI_n hI 57 (show 128 * q + j < crLen 57 from by show _ < 30720; omega)).2⟩ (by decide) (by decide) rfl
  · obtain ⟨c9, t9, g1, g2, g3⟩ := Cond.castable_spec (va_Nw.use (A := #[]) rfl hG.2.1.2.2.1.1)
    cases g1.symm.trans f1
    cases g2.symm.trans f2
    exact g3
  rw [show (0 : Int32).toNatClampNeg = 0 from by decide] at hP hD
  rw [set_last] at hP hD
  refine lv_aload_n hx hb dJ7_copyOf_6403c_38 rfl (lv_at hl 0 rfl) ?_
  exact W.nb (fun hN => W.widen (k := 1) (n := 127) (Nat.le_of_ble_eq_true rfl) (by omega) (vx_ret (W.aret (v := .ref a) hx hb hr (Or.inr ⟨_, rfl⟩) (Or.inr ⟨_, rfl⟩) (fun t ht hW => ⟨⟨a, rfl, by rw [ht]; exact hP, va_K.moved hW.alike hK, hD⟩, hS.F ht, by rw [ht]; exact NBw_w hN (Nat.le_of_ble_eq_true rfl) (by omega)⟩) hS.2.2 dJ7_copyOf_6403c_39)))
set_option maxHeartbeats 4000000 in
set_option maxRecDepth 100000 in
theorem d_copyOf2 (l : Launch) (dC : Nat → ClassId) (dI : Nat → Nat → Nat) (ad : Nat → Nat → Nat) (cid : Nat → ClassId) (a2 : Nat → Nat) (lx : List Nat) (sg : Nat → Int32) (gm : Nat → Nat → Int32) (lg : Nat → Nat → Int64) (q i : Nat) (n : Int32) (hI : CI sg gm) (hq : q < 240) (hi : lx[i]? = some q) (hvn : iv 1 127 n) (hge : (gm 42 q).toInt ≤ n.toInt) :
    ∀ sz, vx_Met l yJ7_copyOf_1904c wm_J7_copyOf_1904c ({ frames := 6, cells := 1, slots := 127, locals := 120 }) (va_Pc [.ref (a2 q), .int n] (CPre dC dI ad cid a2 lx sg gm lg sz)) (cQn dC dI ad cid a2 lx sg gm lg q n.toNatClampNeg (va_A (cW ad cid a2 lx sg gm lg) sz)) (fun _ _ _ => False) 1 127 (va_A (cW ad cid a2 lx sg gm lg) sz) := by
  intro sz
  refine vx_ofW (cc := cJ7_copyOf_1904c) (maxL := 2) (ret := (some (.array (.object "java/lang/Object")))) (by decide) rfl ?_
  intro p e s m args below meth c s₁ B hml hxt hv
  obtain ⟨rfl, hsz, hP, hK, hD0, hG⟩ := hv
  have hx := B.exec
  have hb := B.bytes
  have hr := B.returns
  have hts := atoms_spec (ws := wm_J7_copyOf_1904c) B.pre
  have htb := fun (w : Cond) (h : w ∈ tb) => hts w (List.mem_cons_of_mem _ h)
  have hown : s.vm.findClass RJ7 = some m.cls := findClass_of_methodNamed B.named
  have hlocks := B.notSynchronized
  subst hsz
  have hD := hD0.self (sz := s.heap.size)
  generalize hAe : va_A (cW ad cid a2 lx sg gm lg) s.heap.size = A at hD hG ⊢
  have hA : ∀ q : Nat, s.heap.size ≤ q → A q := fun q h => by rw [← hAe]; exact Or.inr h
  have hS : va_S A s.heap s.heap [] := va_S.rf
  have hl := lv_entry ([.ref (a2 q), .int n]) (n := 2) (Nat.le_of_ble_eq_true rfl)
  rw [lg_entry_eq]
  generalize (lg_sl ([.ref (a2 q), .int n]) ++ List.replicate (2 - (lg_sl ([.ref (a2 q), .int n])).length) Slot.unset).toArray = ls at hl ⊢
  have hl : lv_has ls 2 [(0, .ref (a2 q)), (1, .int n)] := hl
  refine lv_aload_n hx hb dJ7_copyOf_1904c_0 rfl (lv_at hl 0 rfl) ?_
  refine lv_iload_n hx hb dJ7_copyOf_1904c_1 rfl (lv_at hl 1 rfl) ?_
  refine lv_aload_n hx hb dJ7_copyOf_1904c_2 rfl (lv_at hl 0 rfl) ?_
  refine va_getC hx hb (hml.trans hl.1.symm) hown (htb _ kw_841) (va_Dc.use hG.2.1.2.2.2.1.2.1) (htb _ kw_1342) (htb _ kw_842) (htb _ kw_843) hG.2.1.2.2.2.1.2.2 (cl_recv hK hP hi) (Nat.le_of_ble_eq_true rfl) (Nat.le_of_ble_eq_true rfl) dJ7_copyOf_1904c_3 ?_
  have hFc := cfree hD hS hA
  refine cm_goN (q := q) (N := n.toNatClampNeg) (vx_runS (cells := 0) (slots := 0) (As := [.ref (a2 q), .int n, .ref (ad 39 0)]) (rest := []) ⟨hx, hb, hml, hown, htb⟩ (d_copyOf3 l dC dI ad cid a2 lx sg gm lg q i n hI hq hi hvn hge s.heap.size) (va_cwS 3 htb (gd_S kw_844 kw_845 kw_170 kw_1515) rfl rfl rfl (by decide +kernel) ⟨Nat.le_of_ble_eq_true rfl, Nat.le_of_ble_eq_true rfl⟩) ⟨CPre_blind, fun U hU hW => ⟨rfl, by rw [hU], by rw [hU]; exact hP, va_K.moved hW.alike hK, hD.weaken (fun _ _ _ _ => trivial), hG.go hS hFc hU hW⟩⟩ rfl rfl hl.1 rfl (lv_room (by decide)) dJ7_copyOf_1904c_6 ⟨Nat.le_of_ble_eq_true rfl, Nat.le_of_ble_eq_true rfl⟩) hD hS hA (fun a H locs hP hD hS => ?_)
  have hn4 : n.toNatClampNeg ≤ 127 := by have h2 := hvn.2; have h3 : n.toNatClampNeg = n.toInt.toNat := rfl; omega
  exact W.nb (fun hN => W.widen (k := 1) (n := 127) (Nat.le_of_ble_eq_true rfl) (by omega) (vx_ret (W.aret (v := .ref a) hx hb hr (Or.inr ⟨_, rfl⟩) (Or.inr ⟨_, rfl⟩) (fun t ht hW => ⟨⟨a, rfl, by rw [ht]; exact hP, va_K.moved hW.alike hK, hD⟩, hS.F ht, by rw [ht]; exact NBw_w hN (Nat.le_of_ble_eq_true rfl) (by omega)⟩) hS.2.2 dJ7_copyOf_1904c_9)))
end
section

theorem dJx4a65c_grow_92f84_0g : decode cJx4a65c_grow_92f84 0 = .ok (.aload_n 0, 1) ∧ decode cJx4a65c_grow_92f84 1 = .ok (.getfield 9, 3) ∧ decode cJx4a65c_grow_92f84 4 = .ok (.arraylength, 1) ∧ decode cJx4a65c_grow_92f84 5 = .ok (.istore_n 2, 1) ∧ decode cJx4a65c_grow_92f84 6 = .ok (.iload_n 2, 1) ∧ decode cJx4a65c_grow_92f84 7 = .ok (.ifCond .gt 13, 3) ∧ decode cJx4a65c_grow_92f84 10 = .ok (.aload_n 0, 1) ∧ decode cJx4a65c_grow_92f84 11 = .ok (.getfield 9, 3) ∧ decode cJx4a65c_grow_92f84 14 = .ok (.getstatic 39, 3) ∧ decode cJx4a65c_grow_92f84 17 = .ok (.if_acmp .eq 28, 3) ∧ decode cJx4a65c_grow_92f84 20 = .ok (.iload_n 2, 1) ∧ decode cJx4a65c_grow_92f84 21 = .ok (.iload_n 1, 1) ∧ decode cJx4a65c_grow_92f84 22 = .ok (.iload_n 2, 1) ∧ decode cJx4a65c_grow_92f84 23 = .ok (.isub, 1) ∧ decode cJx4a65c_grow_92f84 24 = .ok (.iload_n 2, 1) ∧ decode cJx4a65c_grow_92f84 25 = .ok (.iconst 1, 1) := by decide +kernel
theorem dJx4a65c_grow_92f84_0 : decode cJx4a65c_grow_92f84 0 = .ok (.aload_n 0, 1) := dJx4a65c_grow_92f84_0g.1
theorem dJx4a65c_grow_92f84_1 : decode cJx4a65c_grow_92f84 1 = .ok (.getfield 9, 3) := dJx4a65c_grow_92f84_0g.2.1
theorem dJx4a65c_grow_92f84_4 : decode cJx4a65c_grow_92f84 4 = .ok (.arraylength, 1) := dJx4a65c_grow_92f84_0g.2.2.1
theorem dJx4a65c_grow_92f84_5 : decode cJx4a65c_grow_92f84 5 = .ok (.istore_n 2, 1) := dJx4a65c_grow_92f84_0g.2.2.2.1
theorem dJx4a65c_grow_92f84_6 : decode cJx4a65c_grow_92f84 6 = .ok (.iload_n 2, 1) := dJx4a65c_grow_92f84_0g.2.2.2.2.1
theorem dJx4a65c_grow_92f84_7 : decode cJx4a65c_grow_92f84 7 = .ok (.ifCond .gt 13, 3) := dJx4a65c_grow_92f84_0g.2.2.2.2.2.1
theorem dJx4a65c_grow_92f84_10 : decode cJx4a65c_grow_92f84 10 = .ok (.aload_n 0, 1) := dJx4a65c_grow_92f84_0g.2.2.2.2.2.2.1
theorem dJx4a65c_grow_92f84_11 : decode cJx4a65c_grow_92f84 11 = .ok (.getfield 9, 3) := dJx4a65c_grow_92f84_0g.2.2.2.2.2.2.2.1
theorem dJx4a65c_grow_92f84_14 : decode cJx4a65c_grow_92f84 14 = .ok (.getstatic 39, 3) := dJx4a65c_grow_92f84_0g.2.2.2.2.2.2.2.2.1
theorem dJx4a65c_grow_92f84_17 : decode cJx4a65c_grow_92f84 17 = .ok (.if_acmp .eq 28, 3) := dJx4a65c_grow_92f84_0g.2.2.2.2.2.2.2.2.2.1
theorem dJx4a65c_grow_92f84_20 : decode cJx4a65c_grow_92f84 20 = .ok (.iload_n 2, 1) := dJx4a65c_grow_92f84_0g.2.2.2.2.2.2.2.2.2.2.1
theorem dJx4a65c_grow_92f84_21 : decode cJx4a65c_grow_92f84 21 = .ok (.iload_n 1, 1) := dJx4a65c_grow_92f84_0g.2.2.2.2.2.2.2.2.2.2.2.1
theorem dJx4a65c_grow_92f84_22 : decode cJx4a65c_grow_92f84 22 = .ok (.iload_n 2, 1) := dJx4a65c_grow_92f84_0g.2.2.2.2.2.2.2.2.2.2.2.2.1
theorem dJx4a65c_grow_92f84_23 : decode cJx4a65c_grow_92f84 23 = .ok (.isub, 1) := dJx4a65c_grow_92f84_0g.2.2.2.2.2.2.2.2.2.2.2.2.2.1
theorem dJx4a65c_grow_92f84_24 : decode cJx4a65c_grow_92f84 24 = .ok (.iload_n 2, 1) := dJx4a65c_grow_92f84_0g.2.2.2.2.2.2.2.2.2.2.2.2.2.2.1
theorem dJx4a65c_grow_92f84_25 : decode cJx4a65c_grow_92f84 25 = .ok (.iconst 1, 1) := dJx4a65c_grow_92f84_0g.2.2.2.2.2.2.2.2.2.2.2.2.2.2.2
theorem dJx4a65c_grow_92f84_26g : decode cJx4a65c_grow_92f84 26 = .ok (.ishr, 1) ∧ decode cJx4a65c_grow_92f84 27 = .ok (.invokestatic 73, 3) ∧ decode cJx4a65c_grow_92f84 30 = .ok (.istore_n 3, 1) ∧ decode cJx4a65c_grow_92f84 31 = .ok (.aload_n 0, 1) ∧ decode cJx4a65c_grow_92f84 32 = .ok (.aload_n 0, 1) ∧ decode cJx4a65c_grow_92f84 33 = .ok (.getfield 9, 3) ∧ decode cJx4a65c_grow_92f84 36 = .ok (.iload_n 3, 1) ∧ decode cJx4a65c_grow_92f84 37 = .ok (.invokestatic 66, 3) ∧ decode cJx4a65c_grow_92f84 40 = .ok (.dup_x1, 1) ∧ decode cJx4a65c_grow_92f84 41 = .ok (.putfield 9, 3) ∧ decode cJx4a65c_grow_92f84 44 = .ok (.areturn, 1) ∧ decode cJx4a65c_grow_92f84 45 = .ok (.aload_n 0, 1) ∧ decode cJx4a65c_grow_92f84 46 = .ok (.bipush 10, 2) ∧ decode cJx4a65c_grow_92f84 48 = .ok (.iload_n 1, 1) ∧ decode cJx4a65c_grow_92f84 49 = .ok (.invokestatic 79, 3) ∧ decode cJx4a65c_grow_92f84 52 = .ok (.anewarray 7, 3) := by decide +kernel
theorem dJx4a65c_grow_92f84_26 : decode cJx4a65c_grow_92f84 26 = .ok (.ishr, 1) := dJx4a65c_grow_92f84_26g.1
theorem dJx4a65c_grow_92f84_27 : decode cJx4a65c_grow_92f84 27 = .ok (.invokestatic 73, 3) := dJx4a65c_grow_92f84_26g.2.1
theorem dJx4a65c_grow_92f84_30 : decode cJx4a65c_grow_92f84 30 = .ok (.istore_n 3, 1) := dJx4a65c_grow_92f84_26g.2.2.1
theorem dJx4a65c_grow_92f84_31 : decode cJx4a65c_grow_92f84 31 = .ok (.aload_n 0, 1) := dJx4a65c_grow_92f84_26g.2.2.2.1
theorem dJx4a65c_grow_92f84_32 : decode cJx4a65c_grow_92f84 32 = .ok (.aload_n 0, 1) := dJx4a65c_grow_92f84_26g.2.2.2.2.1
theorem dJx4a65c_grow_92f84_33 : decode cJx4a65c_grow_92f84 33 = .ok (.getfield 9, 3) := dJx4a65c_grow_92f84_26g.2.2.2.2.2.1
theorem dJx4a65c_grow_92f84_36 : decode cJx4a65c_grow_92f84 36 = .ok (.iload_n 3, 1) := dJx4a65c_grow_92f84_26g.2.2.2.2.2.2.1
theorem dJx4a65c_grow_92f84_37 : decode cJx4a65c_grow_92f84 37 = .ok (.invokestatic 66, 3) := dJx4a65c_grow_92f84_26g.2.2.2.2.2.2.2.1
theorem dJx4a65c_grow_92f84_40 : decode cJx4a65c_grow_92f84 40 = .ok (.dup_x1, 1) := dJx4a65c_grow_92f84_26g.2.2.2.2.2.2.2.2.1
theorem dJx4a65c_grow_92f84_41 : decode cJx4a65c_grow_92f84 41 = .ok (.putfield 9, 3) := dJx4a65c_grow_92f84_26g.2.2.2.2.2.2.2.2.2.1
theorem dJx4a65c_grow_92f84_44 : decode cJx4a65c_grow_92f84 44 = .ok (.areturn, 1) := dJx4a65c_grow_92f84_26g.2.2.2.2.2.2.2.2.2.2.1
theorem dJx4a65c_grow_92f84_45 : decode cJx4a65c_grow_92f84 45 = .ok (.aload_n 0, 1) := dJx4a65c_grow_92f84_26g.2.2.2.2.2.2.2.2.2.2.2.1
theorem dJx4a65c_grow_92f84_46 : decode cJx4a65c_grow_92f84 46 = .ok (.bipush 10, 2) := dJx4a65c_grow_92f84_26g.2.2.2.2.2.2.2.2.2.2.2.2.1
theorem dJx4a65c_grow_92f84_48 : decode cJx4a65c_grow_92f84 48 = .ok (.iload_n 1, 1) := dJx4a65c_grow_92f84_26g.2.2.2.2.2.2.2.2.2.2.2.2.2.1
theorem dJx4a65c_grow_92f84_49 : decode cJx4a65c_grow_92f84 49 = .ok (.invokestatic 79, 3) := dJx4a65c_grow_92f84_26g.2.2.2.2.2.2.2.2.2.2.2.2.2.2.1
theorem dJx4a65c_grow_92f84_52 : decode cJx4a65c_grow_92f84 52 = .ok (.anewarray 7, 3) := dJx4a65c_grow_92f84_26g.2.2.2.2.2.2.2.2.2.2.2.2.2.2.2
theorem dJx4a65c_grow_92f84_55g : decode cJx4a65c_grow_92f84 55 = .ok (.dup_x1, 1) ∧ decode cJx4a65c_grow_92f84 56 = .ok (.putfield 9, 3) ∧ decode cJx4a65c_grow_92f84 59 = .ok (.areturn, 1) := by decide +kernel
theorem dJx4a65c_grow_92f84_55 : decode cJx4a65c_grow_92f84 55 = .ok (.dup_x1, 1) := dJx4a65c_grow_92f84_55g.1
theorem dJx4a65c_grow_92f84_56 : decode cJx4a65c_grow_92f84 56 = .ok (.putfield 9, 3) := dJx4a65c_grow_92f84_55g.2.1
theorem dJx4a65c_grow_92f84_59 : decode cJx4a65c_grow_92f84 59 = .ok (.areturn, 1) := dJx4a65c_grow_92f84_55g.2.2
theorem dJx4a65c_grow_d5877_0g : decode cJx4a65c_grow_d5877 0 = .ok (.aload_n 0, 1) ∧ decode cJx4a65c_grow_d5877 1 = .ok (.aload_n 0, 1) ∧ decode cJx4a65c_grow_d5877 2 = .ok (.getfield 48, 3) ∧ decode cJx4a65c_grow_d5877 5 = .ok (.iconst 1, 1) ∧ decode cJx4a65c_grow_d5877 6 = .ok (.iadd, 1) ∧ decode cJx4a65c_grow_d5877 7 = .ok (.invokevirtual 69, 3) ∧ decode cJx4a65c_grow_d5877 10 = .ok (.areturn, 1) := by decide +kernel
theorem dJx4a65c_grow_d5877_0 : decode cJx4a65c_grow_d5877 0 = .ok (.aload_n 0, 1) := dJx4a65c_grow_d5877_0g.1
theorem dJx4a65c_grow_d5877_1 : decode cJx4a65c_grow_d5877 1 = .ok (.aload_n 0, 1) := dJx4a65c_grow_d5877_0g.2.1
theorem dJx4a65c_grow_d5877_2 : decode cJx4a65c_grow_d5877 2 = .ok (.getfield 48, 3) := dJx4a65c_grow_d5877_0g.2.2.1
theorem dJx4a65c_grow_d5877_5 : decode cJx4a65c_grow_d5877 5 = .ok (.iconst 1, 1) := dJx4a65c_grow_d5877_0g.2.2.2.1
theorem dJx4a65c_grow_d5877_6 : decode cJx4a65c_grow_d5877 6 = .ok (.iadd, 1) := dJx4a65c_grow_d5877_0g.2.2.2.2.1
theorem dJx4a65c_grow_d5877_7 : decode cJx4a65c_grow_d5877 7 = .ok (.invokevirtual 69, 3) := dJx4a65c_grow_d5877_0g.2.2.2.2.2.1
theorem dJx4a65c_grow_d5877_10 : decode cJx4a65c_grow_d5877 10 = .ok (.areturn, 1) := dJx4a65c_grow_d5877_0g.2.2.2.2.2.2
theorem dJx4a65c_add_72be8_0g : decode cJx4a65c_add_72be8 0 = .ok (.iload_n 3, 1) ∧ decode cJx4a65c_add_72be8 1 = .ok (.aload_n 2, 1) ∧ decode cJx4a65c_add_72be8 2 = .ok (.arraylength, 1) ∧ decode cJx4a65c_add_72be8 3 = .ok (.if_icmp .ne 8, 3) ∧ decode cJx4a65c_add_72be8 6 = .ok (.aload_n 0, 1) ∧ decode cJx4a65c_add_72be8 7 = .ok (.invokevirtual 129, 3) ∧ decode cJx4a65c_add_72be8 10 = .ok (.astore_n 2, 1) ∧ decode cJx4a65c_add_72be8 11 = .ok (.aload_n 2, 1) ∧ decode cJx4a65c_add_72be8 12 = .ok (.iload_n 3, 1) ∧ decode cJx4a65c_add_72be8 13 = .ok (.aload_n 1, 1) ∧ decode cJx4a65c_add_72be8 14 = .ok (.aastore, 1) ∧ decode cJx4a65c_add_72be8 15 = .ok (.aload_n 0, 1) ∧ decode cJx4a65c_add_72be8 16 = .ok (.iload_n 3, 1) ∧ decode cJx4a65c_add_72be8 17 = .ok (.iconst 1, 1) ∧ decode cJx4a65c_add_72be8 18 = .ok (.iadd, 1) ∧ decode cJx4a65c_add_72be8 19 = .ok (.putfield 48, 3) := by decide +kernel
theorem dJx4a65c_add_72be8_0 : decode cJx4a65c_add_72be8 0 = .ok (.iload_n 3, 1) := dJx4a65c_add_72be8_0g.1
theorem dJx4a65c_add_72be8_1 : decode cJx4a65c_add_72be8 1 = .ok (.aload_n 2, 1) := dJx4a65c_add_72be8_0g.2.1
theorem dJx4a65c_add_72be8_2 : decode cJx4a65c_add_72be8 2 = .ok (.arraylength, 1) := dJx4a65c_add_72be8_0g.2.2.1
theorem dJx4a65c_add_72be8_3 : decode cJx4a65c_add_72be8 3 = .ok (.if_icmp .ne 8, 3) := dJx4a65c_add_72be8_0g.2.2.2.1
theorem dJx4a65c_add_72be8_6 : decode cJx4a65c_add_72be8 6 = .ok (.aload_n 0, 1) := dJx4a65c_add_72be8_0g.2.2.2.2.1
theorem dJx4a65c_add_72be8_7 : decode cJx4a65c_add_72be8 7 = .ok (.invokevirtual 129, 3) := dJx4a65c_add_72be8_0g.2.2.2.2.2.1
theorem dJx4a65c_add_72be8_10 : decode cJx4a65c_add_72be8 10 = .ok (.astore_n 2, 1) := dJx4a65c_add_72be8_0g.2.2.2.2.2.2.1
theorem dJx4a65c_add_72be8_11 : decode cJx4a65c_add_72be8 11 = .ok (.aload_n 2, 1) := dJx4a65c_add_72be8_0g.2.2.2.2.2.2.2.1
theorem dJx4a65c_add_72be8_12 : decode cJx4a65c_add_72be8 12 = .ok (.iload_n 3, 1) := dJx4a65c_add_72be8_0g.2.2.2.2.2.2.2.2.1
theorem dJx4a65c_add_72be8_13 : decode cJx4a65c_add_72be8 13 = .ok (.aload_n 1, 1) := dJx4a65c_add_72be8_0g.2.2.2.2.2.2.2.2.2.1
theorem dJx4a65c_add_72be8_14 : decode cJx4a65c_add_72be8 14 = .ok (.aastore, 1) := dJx4a65c_add_72be8_0g.2.2.2.2.2.2.2.2.2.2.1
theorem dJx4a65c_add_72be8_15 : decode cJx4a65c_add_72be8 15 = .ok (.aload_n 0, 1) := dJx4a65c_add_72be8_0g.2.2.2.2.2.2.2.2.2.2.2.1
theorem dJx4a65c_add_72be8_16 : decode cJx4a65c_add_72be8 16 = .ok (.iload_n 3, 1) := dJx4a65c_add_72be8_0g.2.2.2.2.2.2.2.2.2.2.2.2.1
theorem dJx4a65c_add_72be8_17 : decode cJx4a65c_add_72be8 17 = .ok (.iconst 1, 1) := dJx4a65c_add_72be8_0g.2.2.2.2.2.2.2.2.2.2.2.2.2.1
theorem dJx4a65c_add_72be8_18 : decode cJx4a65c_add_72be8 18 = .ok (.iadd, 1) := dJx4a65c_add_72be8_0g.2.2.2.2.2.2.2.2.2.2.2.2.2.2.1
theorem dJx4a65c_add_72be8_19 : decode cJx4a65c_add_72be8 19 = .ok (.putfield 48, 3) := dJx4a65c_add_72be8_0g.2.2.2.2.2.2.2.2.2.2.2.2.2.2.2
theorem dJx4a65c_add_72be8_22 : decode cJx4a65c_add_72be8 22 = .ok (.return_, 1) := by decide +kernel
theorem dJx4a65c_add_9ea2d_0g : decode cJx4a65c_add_9ea2d 0 = .ok (.aload_n 0, 1) ∧ decode cJx4a65c_add_9ea2d 1 = .ok (.dup, 1) ∧ decode cJx4a65c_add_9ea2d 2 = .ok (.getfield 63, 3) ∧ decode cJx4a65c_add_9ea2d 5 = .ok (.iconst 1, 1) ∧ decode cJx4a65c_add_9ea2d 6 = .ok (.iadd, 1) ∧ decode cJx4a65c_add_9ea2d 7 = .ok (.putfield 63, 3) ∧ decode cJx4a65c_add_9ea2d 10 = .ok (.aload_n 0, 1) ∧ decode cJx4a65c_add_9ea2d 11 = .ok (.aload_n 1, 1) ∧ decode cJx4a65c_add_9ea2d 12 = .ok (.aload_n 0, 1) ∧ decode cJx4a65c_add_9ea2d 13 = .ok (.getfield 9, 3) ∧ decode cJx4a65c_add_9ea2d 16 = .ok (.aload_n 0, 1) ∧ decode cJx4a65c_add_9ea2d 17 = .ok (.getfield 48, 3) ∧ decode cJx4a65c_add_9ea2d 20 = .ok (.invokevirtual 131, 3) ∧ decode cJx4a65c_add_9ea2d 23 = .ok (.iconst 1, 1) ∧ decode cJx4a65c_add_9ea2d 24 = .ok (.ireturn, 1) := by decide +kernel
theorem dJx4a65c_add_9ea2d_0 : decode cJx4a65c_add_9ea2d 0 = .ok (.aload_n 0, 1) := dJx4a65c_add_9ea2d_0g.1
theorem dJx4a65c_add_9ea2d_1 : decode cJx4a65c_add_9ea2d 1 = .ok (.dup, 1) := dJx4a65c_add_9ea2d_0g.2.1
theorem dJx4a65c_add_9ea2d_2 : decode cJx4a65c_add_9ea2d 2 = .ok (.getfield 63, 3) := dJx4a65c_add_9ea2d_0g.2.2.1
theorem dJx4a65c_add_9ea2d_5 : decode cJx4a65c_add_9ea2d 5 = .ok (.iconst 1, 1) := dJx4a65c_add_9ea2d_0g.2.2.2.1
theorem dJx4a65c_add_9ea2d_6 : decode cJx4a65c_add_9ea2d 6 = .ok (.iadd, 1) := dJx4a65c_add_9ea2d_0g.2.2.2.2.1
theorem dJx4a65c_add_9ea2d_7 : decode cJx4a65c_add_9ea2d 7 = .ok (.putfield 63, 3) := dJx4a65c_add_9ea2d_0g.2.2.2.2.2.1
theorem dJx4a65c_add_9ea2d_10 : decode cJx4a65c_add_9ea2d 10 = .ok (.aload_n 0, 1) := dJx4a65c_add_9ea2d_0g.2.2.2.2.2.2.1
theorem dJx4a65c_add_9ea2d_11 : decode cJx4a65c_add_9ea2d 11 = .ok (.aload_n 1, 1) := dJx4a65c_add_9ea2d_0g.2.2.2.2.2.2.2.1
theorem dJx4a65c_add_9ea2d_12 : decode cJx4a65c_add_9ea2d 12 = .ok (.aload_n 0, 1) := dJx4a65c_add_9ea2d_0g.2.2.2.2.2.2.2.2.1
theorem dJx4a65c_add_9ea2d_13 : decode cJx4a65c_add_9ea2d 13 = .ok (.getfield 9, 3) := dJx4a65c_add_9ea2d_0g.2.2.2.2.2.2.2.2.2.1
theorem dJx4a65c_add_9ea2d_16 : decode cJx4a65c_add_9ea2d 16 = .ok (.aload_n 0, 1) := dJx4a65c_add_9ea2d_0g.2.2.2.2.2.2.2.2.2.2.1
theorem dJx4a65c_add_9ea2d_17 : decode cJx4a65c_add_9ea2d 17 = .ok (.getfield 48, 3) := dJx4a65c_add_9ea2d_0g.2.2.2.2.2.2.2.2.2.2.2.1
theorem dJx4a65c_add_9ea2d_20 : decode cJx4a65c_add_9ea2d 20 = .ok (.invokevirtual 131, 3) := dJx4a65c_add_9ea2d_0g.2.2.2.2.2.2.2.2.2.2.2.2.1
theorem dJx4a65c_add_9ea2d_23 : decode cJx4a65c_add_9ea2d 23 = .ok (.iconst 1, 1) := dJx4a65c_add_9ea2d_0g.2.2.2.2.2.2.2.2.2.2.2.2.2.1
theorem dJx4a65c_add_9ea2d_24 : decode cJx4a65c_add_9ea2d 24 = .ok (.ireturn, 1) := dJx4a65c_add_9ea2d_0g.2.2.2.2.2.2.2.2.2.2.2.2.2.2

section LDL
variable {p : Program} {l : Launch} {e : Env} {R : Room} {s : State} {m : MethodId} {args : Array Value} {below : List Frame} {meth : Method} {c : Code} {H : Heap} {locs : List Loc} {cells slots : Nat} {Q : State → Prop} {cc : ByteArray} {pc : Nat} {ls : Array Slot} {rest : List Value} {A : Nat → Prop}
variable {dC : Nat → ClassId} {dI : Nat → Nat → Nat} {ad : Nat → Nat → Nat} {cid : Nat → ClassId} {a2 : Nat → Nat} {lx : List Nat} {sg : Nat → Int32} {gm : Nat → Nat → Int32} {lg : Nat → Nat → Int64}
theorem cl_dlen {q : Nat} (hexec : p.tables.exec = Jvm.exec) (hb : c.code = cc) (hG : CE ad A s) (hK : va_K (dC, dI) vwCl (cT cid) s) (hP : va_P (dC, dI) vwCl (cW ad cid a2 lx sg gm lg) H) (hS : va_S A s.heap H locs) (hI : CI sg gm) (hq : q < 240) (hl : ¬ (gm 42 q).toInt = 0 → q ∈ lx) (hdg : decode cc pc = .ok (.arraylength, 1))
    (kk : W p l e R s m args below meth c H locs cells slots Q (F0 m (pc + 1) ls (.int (gm 42 q) :: rest))) : W p l e R s m args below meth c H locs cells slots Q (F0 m pc ls (dV ad a2 gm q :: rest)) := by
  obtain ⟨k1, k2, k3, k4⟩ := cap_of hI hq
  by_cases h0 : (gm 42 q).toInt = 0
  · unfold dV
    rw [if_pos h0]
    exact va_tlen hexec hb hG.2.1.2.2.2.2.2 hS (by rw [← k4]; congr 1; omega) hdg kk
  · rw [dV_n h0]
    obtain ⟨i, hi⟩ := List.getElem?_of_mem (hl h0)
    exact va_alen (D := (dC, dI)) hexec hb hK hP _ 32 (cW_lat hi) (cT_at (by decide)) k4 hdg kk
end LDL
theorem nD_0 {ad : Nat → Nat → Nat} {cid : Nat → ClassId} {gm : Nat → Nat → Int32} {q N : Nat} (h : (gm 42 q).toNatClampNeg = 0) : nD ad cid gm q N = .inl (cid 32, N, .inr (.inr (.inr (.inr (fun _ => none))))) := by
  unfold nD
  rw [h, show va_cpy (cDr ad gm q) (fun _ => none) 0 0 0 = (fun _ => none) from funext fun k => by unfold va_cpy; rw [if_neg (by omega)]]
theorem LDI_add {lx : List Nat} {gm gm2 : Nat → Nat → Int32} {q n : Nat} {z el : Int32} (h : LDI lx gm) (e57 : gm2 57 = upd (gm 57) (128 * q + n) el) (e41 : gm2 41 = upd (gm 41) q z) (e42 : gm2 42 = gm 42) (hz : z.toInt = (gm 41 q).toInt + 1) (h0 : 0 ≤ (gm 41 q).toInt) (hn : n = (gm 41 q).toNatClampNeg) (hc : (gm 41 q).toInt < (gm 42 q).toInt) (hel : 0 ≤ el.toInt) : LDI lx gm2 := fun q2 h2 => by
  obtain ⟨b1, b2, b3⟩ := h q2 h2
  have hk : n = (gm 41 q).toInt.toNat := hn
  rw [e41, e42, e57]
  by_cases e9 : q2 = q
  · subst e9
    rw [upd_at]
    refine ⟨by omega, b2, fun j hj => ?_⟩
    have hz2 : z.toNatClampNeg = z.toInt.toNat := rfl
    by_cases ej : j = n
    · rw [ej, upd_at]; exact hel
    · rw [upd_ne (by omega)]; exact b3 j (by have : (gm 41 q2).toNatClampNeg = (gm 41 q2).toInt.toNat := rfl; omega)
  · rw [upd_ne e9]
    refine ⟨b1, b2, fun j hj => ?_⟩
    by_cases ej : 128 * q2 + j = 128 * q + n
    · rw [ej, upd_at]; exact hel
    · rw [upd_ne ej]; exact b3 j hj

set_option maxHeartbeats 4000000 in
set_option maxRecDepth 100000 in
theorem d_grow1 (l : Launch) (dC : Nat → ClassId) (dI : Nat → Nat → Nat) (ad : Nat → Nat → Nat) (cid : Nat → ClassId) (a2 : Nat → Nat) (lx : List Nat) (sg : Nat → Int32) (gm : Nat → Nat → Int32) (lg : Nat → Nat → Int64) (x : Int32) (mn : Int32) (hI : CI sg gm) (hvx : iv 0 239 x) (hvmn : iv 1 80 mn) (hLD : LDI lx gm) (hcap : (gm 42 x.toNatClampNeg).toInt = (gm 41 x.toNatClampNeg).toInt) (hsz : (gm 41 x.toNatClampNeg).toInt < 80) (hmn : mn.toInt = (gm 41 x.toNatClampNeg).toInt + 1) : CMg dC dI ad cid l yJx4a65c_grow_92f84 wm_Jx4a65c_grow_92f84 ({ frames := 7, cells := 30481, slots := 122047, locals := 181 }) [eV (ad 11) x, .int mn] a2 lx sg gm lg 0 30481 122047 (fun v u => ∃ r : Nat, v = some (.ref r) ∧ ∃ (a22 : Nat → Nat) (lx2 : List Nat), ∃ (sg2 : Nat → Int32) (gm2 : Nat → Nat → Int32) (lg2 : Nat → Nat → Int64), u = (a22, lx2, sg2, gm2, lg2) ∧ CI sg2 gm2 ∧ KS [] sg sg2 ∧ KS [42, 57] gm gm2 ∧ KS [] lg lg2 ∧ (r = a22 x.toNatClampNeg) ∧ ((gm 42 x.toNatClampNeg).toInt < (gm2 42 x.toNatClampNeg).toInt) ∧ (∀ j9, j9 < (gm 42 x.toNatClampNeg).toNatClampNeg → gm2 57 (128 * x.toNatClampNeg + j9) = gm 57 (128 * x.toNatClampNeg + j9)) ∧ (∀ q2, q2 ≠ x.toNatClampNeg → ∀ j9, j9 < 128 → gm2 57 (128 * q2 + j9) = gm 57 (128 * q2 + j9)) ∧ (LDI lx2 gm2)) (fun _ _ => False) := by
  intro sz
  refine vx_ofW (cc := cJx4a65c_grow_92f84) (maxL := 4) (ret := (some (.array (.object "java/lang/Object")))) (by decide) rfl ?_
  intro p e s m args below meth c s₁ B hml hxt hv
  obtain ⟨rfl, hsz, hP, hK, hD0, hG⟩ := hv
  have hx := B.exec
  have hb := B.bytes
  have hr := B.returns
  have hts := atoms_spec (ws := wm_Jx4a65c_grow_92f84) B.pre
  have htb := fun (w : Cond) (h : w ∈ tb) => hts w (List.mem_cons_of_mem _ h)
  have hown : s.vm.findClass RJx4a65c = some m.cls := findClass_of_methodNamed B.named
  have hlocks := B.notSynchronized
  subst hsz
  have hD := hD0.self (sz := s.heap.size)
  generalize hAe : va_A (cW ad cid a2 lx sg gm lg) s.heap.size = A at hD hG ⊢
  have hA : ∀ q : Nat, s.heap.size ≤ q → A q := fun q h => by rw [← hAe]; exact Or.inr h
  have hS : va_S A s.heap s.heap [] := va_S.rf
  have hl := lv_entry ([eV (ad 11) x, .int mn]) (n := 4) (by rw [show (lg_sl ([eV (ad 11) x, .int mn])).length = 2 from by simp [lg_sl, eV_cat, cat_i, cat_l]]; exact Nat.le_of_ble_eq_true rfl)
  rw [lg_entry_eq]
  generalize (lg_sl ([eV (ad 11) x, .int mn]) ++ List.replicate (4 - (lg_sl ([eV (ad 11) x, .int mn])).length) Slot.unset).toArray = ls at hl ⊢
  have hl : lv_has ls 4 [(0, eV (ad 11) x), (1, .int mn)] := by simp [lv_args, eV_cat, cat_i, cat_l] at hl; exact hl
  refine W.widen (k := gc gm gm 0) (n := gs gm gm 0) (Nat.zero_le _) (Nat.zero_le _) ?_
  refine ec_aload_n hx hb dJx4a65c_grow_92f84_0 rfl (lv_at hl 0 rfl) ?_
  refine cr_get (t := 11) (j := 1) (C := RJx4a65c) (T := TJx4a65c) (N := 3) (v := dV ad a2 gm x.toNatClampNeg) hx hb htb inJx4a65c hown hK hP hvx (by decide) (by decide) (by decide) rfl (by decide) (htb _ kw_344) rfl dJx4a65c_grow_92f84_1 ?_
  refine cl_dlen hx hb hG hK hP hS hI (by have := iv_cl hvx (by decide); have := hvx.2; omega) (hLD _ (by have := iv_cl hvx (by decide); have := hvx.2; omega)).2.1 dJx4a65c_grow_92f84_4 ?_
  refine lv_topi (fun z_1 ez_1 => ?_)
  have hz_1 : iv 0 127 z_1 := iv_of ez_1 (show iv 0 127 _ from CI_a hI 42 hvx (by decide))
  have cz_1 := congrArg Int32.toInt ez_1
  refine lv_istore_n (i := 2) (lv' := [(2, .int z_1), (0, eV (ad 11) x), (1, .int mn)]) hx hb dJx4a65c_grow_92f84_5 rfl hl (by decide) rfl (fun ls hl => ?_)
  refine lv_iload_n hx hb dJx4a65c_grow_92f84_6 rfl (lv_at hl 0 rfl) ?_
  refine lv_if_gt (tgt := 20) hx hb dJx4a65c_grow_92f84_7 (by decide) (fun c_2 => ?_) (fun c_2 => ?_)
  · have h_3 : iv 1 127 z_1 := iv_ltR c_2 (iv_k (by decide) : iv 0 0 0) hz_1 (by decide)
    have h_4 : iv 1 79 z_1 := ⟨by have := i32_0; have := i32_1; have := i32_2; have := i32_m1; have := (hvx).1; have := (hvx).2; have := (hvmn).1; have := (hvmn).2; have := (h_3).1; have := (h_3).2; omega, by have := i32_0; have := i32_1; have := i32_2; have := i32_m1; have := (hvx).1; have := (hvx).2; have := (hvmn).1; have := (hvmn).2; have := (h_3).1; have := (h_3).2; omega⟩
    refine lv_iload_n hx hb dJx4a65c_grow_92f84_20 rfl (lv_at hl 0 rfl) ?_
    refine lv_iload_n hx hb dJx4a65c_grow_92f84_21 rfl (lv_at hl 2 rfl) ?_
    refine lv_iload_n hx hb dJx4a65c_grow_92f84_22 rfl (lv_at hl 0 rfl) ?_
    refine lv_isub hx hb dJx4a65c_grow_92f84_23 ?_
    refine lv_topi (fun z_5 ez_5 => ?_)
    have hz_5 : iv (-78) 79 z_5 := iv_of ez_5 (iv_sub hvmn h_4 (by decide))
    have tz_5 : z_5.toInt = (mn : Int32).toInt - (z_1 : Int32).toInt := by rw [ez_5]; exact iv_subE hvmn h_4 (by decide)
    have h_6 : iv 1 1 z_5 := ⟨by have := i32_0; have := i32_1; have := i32_2; have := i32_m1; have := (hvx).1; have := (hvx).2; have := (hvmn).1; have := (hvmn).2; have := (h_4).1; have := (h_4).2; have := (hz_5).1; have := (hz_5).2; omega, by have := i32_0; have := i32_1; have := i32_2; have := i32_m1; have := (hvx).1; have := (hvx).2; have := (hvmn).1; have := (hvmn).2; have := (h_4).1; have := (h_4).2; have := (hz_5).1; have := (hz_5).2; omega⟩
    refine lv_iload_n hx hb dJx4a65c_grow_92f84_24 rfl (lv_at hl 0 rfl) ?_
    refine lv_iconst (v := 1) hx hb dJx4a65c_grow_92f84_25 (by decide) ?_
    refine lv_ishr hx hb dJx4a65c_grow_92f84_26 ?_
    refine lv_topi (fun z_7 ez_7 => ?_)
    have tz_7 : z_7.toInt = z_1.toInt / 2 := by rw [ez_7]; exact shr1 (iv_w h_4 (by decide))
    have hz_7 : iv 0 54 z_7 := by { have q1 := (h_4).1; have q2 := (h_4).2; exact ⟨by omega, by omega⟩ }
    refine cm_callTS (rest := []) (as := [.int z_1, .int z_5, .int z_7]) ⟨hx, hb, hml, hown, htb⟩ (d_newLength l dC dI ad cid a2 lx sg gm lg z_1 z_5 z_7 hI (iv_w h_4 (by decide)) (iv_w h_6 (by decide)) hz_7) (va_cwS 3 htb (gd_S kw_832 kw_833 kw_168 kw_1511) rfl rfl rfl (by decide +kernel) ⟨Nat.le_of_ble_eq_true rfl, Nat.le_of_ble_eq_true rfl⟩)  rfl hl.1 rfl (Nat.le_trans cs_n (by decide)) dJx4a65c_grow_92f84_27 ⟨Nat.le_trans (gc_le hI) (Nat.le_of_ble_eq_true rfl), Nat.le_trans (gs_le hI) (Nat.le_of_ble_eq_true rfl)⟩ hK hP hD hS hA hG (fun E ce q9 u_9 H locs hw hP hD hS hce hcv hcl => ?_) (fun v9 u_9 H locs hw hP hD hS => ?_)
    · exact hw.elim
    obtain ⟨r_8, rfl, rfl, hr_8, fN_r_8⟩ := hw
    have hP : va_P (dC, dI) vwCl (cW ad cid a2 lx sg gm lg) H := hP
    have hD : va_D A (cW ad cid a2 lx sg gm lg) := hD
    refine W.eq (g2 := F0 m 30 ls [.int r_8]) rfl ?_
    refine lv_istore_n (i := 3) (lv' := [(3, .int r_8), (2, .int z_1), (0, eV (ad 11) x), (1, .int mn)]) hx hb dJx4a65c_grow_92f84_30 rfl hl (by decide) rfl (fun ls hl => ?_)
    refine ec_aload_n hx hb dJx4a65c_grow_92f84_31 rfl (lv_at hl 2 rfl) ?_
    refine ec_aload_n hx hb dJx4a65c_grow_92f84_32 rfl (lv_at hl 2 rfl) ?_
    refine cr_get (t := 11) (j := 1) (C := RJx4a65c) (T := TJx4a65c) (N := 3) (v := dV ad a2 gm x.toNatClampNeg) hx hb htb inJx4a65c hown hK hP hvx (by decide) (by decide) (by decide) rfl (by decide) (htb _ kw_344) rfl dJx4a65c_grow_92f84_33 ?_
    refine lv_iload_n hx hb dJx4a65c_grow_92f84_36 rfl (lv_at hl 0 rfl) ?_
    have hc1 : ¬ (gm 42 x.toNatClampNeg).toInt = 0 := by have := i32_0; have := i32_1; have := i32_2; have := i32_m1; have := (hvx).1; have := (hvx).2; have := (hvmn).1; have := (hvmn).2; have := (h_4).1; have := (h_4).2; have := (h_6).1; have := (h_6).2; have := (hz_7).1; have := (hz_7).2; have := (hr_8).1; have := (hr_8).2; omega
    have hn118 : iv 2 118 r_8 := by { have fq := fN_r_8; exact ⟨by have := i32_0; have := i32_1; have := i32_2; have := i32_m1; have := (hvx).1; have := (hvx).2; have := (hvmn).1; have := (hvmn).2; have := (h_4).1; have := (h_4).2; have := (h_6).1; have := (h_6).2; have := (hz_7).1; have := (hz_7).2; have := (hr_8).1; have := (hr_8).2; have := tz_7; omega, by have := i32_0; have := i32_1; have := i32_2; have := i32_m1; have := (hvx).1; have := (hvx).2; have := (hvmn).1; have := (hvmn).2; have := (h_4).1; have := (h_4).2; have := (h_6).1; have := (h_6).2; have := (hz_7).1; have := (hz_7).2; have := (hr_8).1; have := (hr_8).2; have := tz_7; omega⟩ }
    have hroom : r_8.toInt ≤ 4 * (r_8.toInt - (gm 42 x.toNatClampNeg).toInt) ∧ (gm 42 x.toNatClampNeg).toInt < r_8.toInt := by { have fq := fN_r_8; exact ⟨by have := i32_0; have := i32_1; have := i32_2; have := i32_m1; have := (hvx).1; have := (hvx).2; have := (hvmn).1; have := (hvmn).2; have := (h_4).1; have := (h_4).2; have := (h_6).1; have := (h_6).2; have := (hz_7).1; have := (hz_7).2; have := (hr_8).1; have := (hr_8).2; have := tz_7; omega, by have := i32_0; have := i32_1; have := i32_2; have := i32_m1; have := (hvx).1; have := (hvx).2; have := (hvmn).1; have := (hvmn).2; have := (h_4).1; have := (h_4).2; have := (h_6).1; have := (h_6).2; have := (hz_7).1; have := (hz_7).2; have := (hr_8).1; have := (hr_8).2; have := tz_7; omega⟩ }
    have hFc := cfree hD hS hA
    obtain ⟨i9, hi9⟩ := List.getElem?_of_mem ((hLD _ (by have := iv_cl hvx (by decide); have := hvx.2; omega)).2.1 hc1)
    refine W.eq (g2 := F0 m 37 ls [.int r_8, .ref (a2 x.toNatClampNeg), eV (ad 11) x]) (by rw [dV_n hc1]) ?_
    refine cm_goN (q := x.toNatClampNeg) (N := r_8.toNatClampNeg) (vx_runS (cells := gc gm gm 0) (slots := gs gm gm 0) (As := [.ref (a2 x.toNatClampNeg), .int r_8]) (rest := [eV (ad 11) x]) ⟨hx, hb, hml, hown, htb⟩ (d_copyOf2 l dC dI ad cid a2 lx sg gm lg x.toNatClampNeg i9 r_8 hI (by have := iv_cl hvx (by decide); have := hvx.2; omega) hi9 (iv_w hn118 (by decide)) (by omega) H.size) (va_cwS 2 htb (gd_S kw_839 kw_840 kw_170 kw_1514) rfl rfl rfl (by decide +kernel) ⟨Nat.le_of_ble_eq_true rfl, Nat.le_of_ble_eq_true rfl⟩) ⟨CPre_blind, fun U hU hW => ⟨rfl, by rw [hU], by rw [hU]; exact hP, va_K.moved hW.alike hK, hD.weaken (fun _ _ _ _ => trivial), hG.go hS hFc hU hW⟩⟩ rfl rfl hl.1 rfl (lv_room (Nat.le_trans (cs_c (eV_cat _ _) cs_n) (by decide))) dJx4a65c_grow_92f84_37 ⟨Nat.le_trans (gc_le hI) (Nat.le_of_ble_eq_true rfl), Nat.le_trans (gs_le hI) (Nat.le_of_ble_eq_true rfl)⟩) hD hS hA (fun ar_11 H locs hP hD hS => ?_)
    refine lv_dup_x1 hx hb dJx4a65c_grow_92f84_40 rfl (eV_cat _ _) ?_
    refine cl_putD (n := r_8) hx hb htb hown hK hP hD hS hvx (by decide) (by have := hn118.1; omega) (Nat.le_trans (cap_of hI (by have := iv_cl hvx (by decide); have := hvx.2; omega)).1 (by decide)) (htb _ kw_344) dJx4a65c_grow_92f84_41 (fun H locs hP hD hS => ?_)
    obtain ⟨gmG, egG⟩ : ∃ z, z = gG gm x.toNatClampNeg r_8 := ⟨_, rfl⟩
    rw [← egG] at hP hD
    have hIG : CI sg gmG := by rw [egG]; exact CI_gG hI (iv_w hn118 (by decide) : iv 0 127 r_8)
    have hkG : KS [42, 57] gm gmG := fun k9 q9 => by rw [egG]; exact gG_k (fun e9 => by rw [e9] at q9; exact absurd q9 (by decide)) (fun e9 => by rw [e9] at q9; exact absurd q9 (by decide))
    have hpg := PHs_gG (gm := gm) (q := x.toNatClampNeg) (n := r_8) (by have := iv_cl hvx (by decide); have := hvx.2; omega)
    rw [← egG] at hpg
    obtain ⟨kc1, kc2, kc3, kc4⟩ := cap_of hI (show x.toNatClampNeg < 240 from by have := iv_cl hvx (by decide); have := hvx.2; omega)
    have kn : r_8.toNatClampNeg = r_8.toInt.toNat := rfl
    have hmG : PHs gm ≤ PHs gmG := by omega
    refine W.widen (k := gc gm gmG 0) (n := gs gm gmG 0) (by unfold gc PH; omega) (by unfold gs PH; omega) ?_
    exact W.nb (fun hN => W.widen (k := 30481) (n := 122047) (Nat.le_trans (gc_l0 (gm := gm) (k := 0) hIG) (Nat.le_of_ble_eq_true rfl)) (Nat.le_trans (gs_l0 (gm := gm) (k := 0) hIG) (Nat.le_of_ble_eq_true rfl)) (vx_ret (W.aret (v := .ref ar_11) hx hb hr (Or.inr ⟨_, rfl⟩) (Or.inr ⟨_, rfl⟩) (fun t ht hW => ⟨⟨some (.ref ar_11), ((va_up a2 x.toNatClampNeg ar_11), (lG lx x.toNatClampNeg), sg, gmG, lg), rfl, ⟨ar_11, rfl, (va_up a2 x.toNatClampNeg ar_11), (lG lx x.toNatClampNeg), sg, gmG, lg, rfl, hIG, KS_rf, (KS_tr (L := [42, 57]) KS_rf hkG (by decide)), KS_rf, (by rw [va_up_self]), (by rw [egG, gG_42, upd_at]; omega), (fun j9 q9 => by rw [egG]; exact gG_lt q9), (fun q2 q9 j9 q8 => by rw [egG]; exact gG_ne q9 q8), (by rw [egG]; exact LDI_gG hI hLD (by omega))⟩, ⟨by rw [ht]; exact hP, va_K.moved hW.alike hK, hD⟩, hmG, by rw [ht]; exact hN⟩, hS.F ht⟩) hS.2.2 dJx4a65c_grow_92f84_44)))
  · have h_12 : iv 0 0 z_1 := iv_leL (i32_ge c_2) hz_1 (iv_k (by decide) : iv 0 0 0) (by decide)
    refine ec_aload_n hx hb dJx4a65c_grow_92f84_10 rfl (lv_at hl 1 rfl) ?_
    refine cr_get (t := 11) (j := 1) (C := RJx4a65c) (T := TJx4a65c) (N := 3) (v := dV ad a2 gm x.toNatClampNeg) hx hb htb inJx4a65c hown hK hP hvx (by decide) (by decide) (by decide) rfl (by decide) (htb _ kw_344) rfl dJx4a65c_grow_92f84_11 ?_
    refine va_gets hx hb hG.2.1.2.2.2.2.1 hS hown (htb _ kw_343) (fun _ h9 => h9) dJx4a65c_grow_92f84_14 ?_
    have hc0 : (gm 42 x.toNatClampNeg).toInt = 0 := by have := i32_0; have := i32_1; have := i32_2; have := i32_m1; have := (hvx).1; have := (hvx).2; have := (hvmn).1; have := (hvmn).2; have := (h_12).1; have := (h_12).2; omega
    refine W.eq (g2 := F0 m 17 ls [.ref (ad 34 0), .ref (ad 34 0)]) (by unfold dV; rw [if_pos hc0]) ?_
    refine lv_acmp_eq (rx := some (ad 34 0)) (ry := some (ad 34 0)) (tgt := 45) hx hb dJx4a65c_grow_92f84_17 (by decide) (fun _ => ?_) (fun q9 => absurd rfl q9)
    refine ec_aload_n hx hb dJx4a65c_grow_92f84_45 rfl (lv_at hl 1 rfl) ?_
    refine lv_bipush (v := 10) hx hb dJx4a65c_grow_92f84_46 (by decide) ?_
    refine lv_iload_n hx hb dJx4a65c_grow_92f84_48 rfl (lv_at hl 2 rfl) ?_
    refine va_mmax hx hb (hml.trans hl.1.symm) hown (htb _ kw_853) (htb _ kw_835) (htb _ kw_169) (htb _ kw_1512) (Nat.le_of_ble_eq_true rfl) (Nat.le_trans (Nat.add_le_add_right (show _ ≤ 8 from (Nat.le_trans (cs_c (eV_cat _ _) cs_n) (by decide))) _) (Nat.le_of_ble_eq_true rfl)) (Nat.le_trans (gc_l0 (gm := gm) (k := 0) hI) (Nat.le_of_ble_eq_true rfl)) (Nat.le_trans (gs_l0 (gm := gm) (k := 0) hI) (Nat.le_of_ble_eq_true rfl)) dJx4a65c_grow_92f84_49 ?_
    refine lv_topi (fun z_13 ez_13 => ?_)
    have xz_13 := mmax_i ez_13
    have hz_13 : iv 10 80 z_13 := by { have q1 := ((iv_k (by decide) : iv 10 10 10)).1; have q2 := ((iv_k (by decide) : iv 10 10 10)).2; have q3 := (hvmn).1; have q4 := (hvmn).2; exact ⟨by omega, by omega⟩ }
    have hn118 : iv 10 118 z_13 := ⟨by have := i32_0; have := i32_1; have := i32_2; have := i32_m1; have := (hvx).1; have := (hvx).2; have := (hvmn).1; have := (hvmn).2; have := (h_12).1; have := (h_12).2; have := (hz_13).1; have := (hz_13).2; omega, by have := i32_0; have := i32_1; have := i32_2; have := i32_m1; have := (hvx).1; have := (hvx).2; have := (hvmn).1; have := (hvmn).2; have := (h_12).1; have := (h_12).2; have := (hz_13).1; have := (hz_13).2; omega⟩
    have hn9 : z_13.toNatClampNeg = z_13.toInt.toNat := rfl
    have hn10 := hn118.1
    have hn11 := hn118.2
    have hroom : z_13.toInt ≤ 4 * (z_13.toInt - (gm 42 x.toNatClampNeg).toInt) ∧ (gm 42 x.toNatClampNeg).toInt < z_13.toInt := ⟨by omega, by omega⟩
    refine va_newq (D := (dC, dI)) (N' := z_13.toNatClampNeg) (C := "java/lang/Object") hx hb hown (htb _ kw_854) hG.2.1.2.2.2.1.1 hK hP hD hS hA (fun q9 => by have := Int32.lt_iff_toInt_lt.mp q9; have z0 : (0 : Int32).toInt = 0 := (by decide); omega) rfl (by omega) (Nat.le_trans (gc_le hI) (Nat.le_of_ble_eq_true rfl)) (Nat.le_trans (Nat.add_le_add_left (show z_13.toNatClampNeg ≤ 127 from by omega) _) (Nat.le_trans (gs_le hI) (Nat.le_of_ble_eq_true rfl))) dJx4a65c_grow_92f84_52 (fun ar_14 cA_15 H hK2 hP hD hS => ?_)
    obtain rfl : cA_15 = cid 32 := cA_eq hK hK2
    have hc00 : (gm 42 x.toNatClampNeg).toNatClampNeg = 0 := by have q9 : (gm 42 x.toNatClampNeg).toNatClampNeg = (gm 42 x.toNatClampNeg).toInt.toNat := rfl; omega
    rw [← nD_0 (ad := ad) (cid := cid) hc00] at hP hD
    refine lv_dup_x1 hx hb dJx4a65c_grow_92f84_55 rfl (eV_cat _ _) ?_
    refine cl_putD (n := z_13) hx hb htb hown hK hP hD hS hvx (by decide) (by have := hn118.1; omega) (Nat.le_trans (cap_of hI (by have := iv_cl hvx (by decide); have := hvx.2; omega)).1 (by decide)) (htb _ kw_344) dJx4a65c_grow_92f84_56 (fun H locs hP hD hS => ?_)
    obtain ⟨gmG, egG⟩ : ∃ z, z = gG gm x.toNatClampNeg z_13 := ⟨_, rfl⟩
    rw [← egG] at hP hD
    have hIG : CI sg gmG := by rw [egG]; exact CI_gG hI (iv_w hn118 (by decide) : iv 0 127 z_13)
    have hkG : KS [42, 57] gm gmG := fun k9 q9 => by rw [egG]; exact gG_k (fun e9 => by rw [e9] at q9; exact absurd q9 (by decide)) (fun e9 => by rw [e9] at q9; exact absurd q9 (by decide))
    have hpg := PHs_gG (gm := gm) (q := x.toNatClampNeg) (n := z_13) (by have := iv_cl hvx (by decide); have := hvx.2; omega)
    rw [← egG] at hpg
    obtain ⟨kc1, kc2, kc3, kc4⟩ := cap_of hI (show x.toNatClampNeg < 240 from by have := iv_cl hvx (by decide); have := hvx.2; omega)
    have kn : z_13.toNatClampNeg = z_13.toInt.toNat := rfl
    have hmG : PHs gm ≤ PHs gmG := by omega
    refine W.widen (k := gc gm gmG 0) (n := gs gm gmG 0) (by unfold gc PH; omega) (by unfold gs PH; omega) ?_
    exact W.nb (fun hN => W.widen (k := 30481) (n := 122047) (Nat.le_trans (gc_l0 (gm := gm) (k := 0) hIG) (Nat.le_of_ble_eq_true rfl)) (Nat.le_trans (gs_l0 (gm := gm) (k := 0) hIG) (Nat.le_of_ble_eq_true rfl)) (vx_ret (W.aret (v := .ref ar_14) hx hb hr (Or.inr ⟨_, rfl⟩) (Or.inr ⟨_, rfl⟩) (fun t ht hW => ⟨⟨some (.ref ar_14), ((va_up a2 x.toNatClampNeg ar_14), (lG lx x.toNatClampNeg), sg, gmG, lg), rfl, ⟨ar_14, rfl, (va_up a2 x.toNatClampNeg ar_14), (lG lx x.toNatClampNeg), sg, gmG, lg, rfl, hIG, KS_rf, (KS_tr (L := [42, 57]) KS_rf hkG (by decide)), KS_rf, (by rw [va_up_self]), (by rw [egG, gG_42, upd_at]; omega), (fun j9 q9 => by rw [egG]; exact gG_lt q9), (fun q2 q9 j9 q8 => by rw [egG]; exact gG_ne q9 q8), (by rw [egG]; exact LDI_gG hI hLD (by omega))⟩, ⟨by rw [ht]; exact hP, va_K.moved hW.alike hK, hD⟩, hmG, by rw [ht]; exact hN⟩, hS.F ht⟩) hS.2.2 dJx4a65c_grow_92f84_59)))

set_option maxHeartbeats 4000000 in
set_option maxRecDepth 100000 in
theorem d_grow0 (l : Launch) (dC : Nat → ClassId) (dI : Nat → Nat → Nat) (ad : Nat → Nat → Nat) (cid : Nat → ClassId) (a2 : Nat → Nat) (lx : List Nat) (sg : Nat → Int32) (gm : Nat → Nat → Int32) (lg : Nat → Nat → Int64) (x : Int32) (hI : CI sg gm) (hvx : iv 0 239 x) (hLD : LDI lx gm) (hcap : (gm 42 x.toNatClampNeg).toInt = (gm 41 x.toNatClampNeg).toInt) (hsz : (gm 41 x.toNatClampNeg).toInt < 80) : CMg dC dI ad cid l yJx4a65c_grow_d5877 wm_Jx4a65c_grow_d5877 ({ frames := 8, cells := 60961, slots := 243967, locals := 204 }) [eV (ad 11) x] a2 lx sg gm lg 0 60961 243967 (fun v u => ∃ r : Nat, v = some (.ref r) ∧ ∃ (a22 : Nat → Nat) (lx2 : List Nat), ∃ (sg2 : Nat → Int32) (gm2 : Nat → Nat → Int32) (lg2 : Nat → Nat → Int64), u = (a22, lx2, sg2, gm2, lg2) ∧ CI sg2 gm2 ∧ KS [] sg sg2 ∧ KS [42, 57] gm gm2 ∧ KS [] lg lg2 ∧ (r = a22 x.toNatClampNeg) ∧ ((gm 42 x.toNatClampNeg).toInt < (gm2 42 x.toNatClampNeg).toInt) ∧ (∀ j9, j9 < (gm 42 x.toNatClampNeg).toNatClampNeg → gm2 57 (128 * x.toNatClampNeg + j9) = gm 57 (128 * x.toNatClampNeg + j9)) ∧ (∀ q2, q2 ≠ x.toNatClampNeg → ∀ j9, j9 < 128 → gm2 57 (128 * q2 + j9) = gm 57 (128 * q2 + j9)) ∧ (LDI lx2 gm2)) (fun _ _ => False) := by
  intro sz
  refine vx_ofW (cc := cJx4a65c_grow_d5877) (maxL := 1) (ret := (some (.array (.object "java/lang/Object")))) (by decide) rfl ?_
  intro p e s m args below meth c s₁ B hml hxt hv
  obtain ⟨rfl, hsz, hP, hK, hD0, hG⟩ := hv
  have hx := B.exec
  have hb := B.bytes
  have hr := B.returns
  have hts := atoms_spec (ws := wm_Jx4a65c_grow_d5877) B.pre
  have htb := fun (w : Cond) (h : w ∈ tb) => hts w (List.mem_cons_of_mem _ h)
  have hown : s.vm.findClass RJx4a65c = some m.cls := findClass_of_methodNamed B.named
  have hlocks := B.notSynchronized
  subst hsz
  have hD := hD0.self (sz := s.heap.size)
  generalize hAe : va_A (cW ad cid a2 lx sg gm lg) s.heap.size = A at hD hG ⊢
  have hA : ∀ q : Nat, s.heap.size ≤ q → A q := fun q h => by rw [← hAe]; exact Or.inr h
  have hS : va_S A s.heap s.heap [] := va_S.rf
  have hl := lv_entry ([eV (ad 11) x]) (n := 1) (by rw [show (lg_sl ([eV (ad 11) x])).length = 1 from by simp [lg_sl, eV_cat, cat_i, cat_l]]; exact Nat.le_of_ble_eq_true rfl)
  rw [lg_entry_eq]
  generalize (lg_sl ([eV (ad 11) x]) ++ List.replicate (1 - (lg_sl ([eV (ad 11) x])).length) Slot.unset).toArray = ls at hl ⊢
  have hl : lv_has ls 1 [(0, eV (ad 11) x)] := by simp [lv_args, eV_cat, cat_i, cat_l] at hl; exact hl
  refine W.widen (k := gc gm gm 0) (n := gs gm gm 0) (Nat.zero_le _) (Nat.zero_le _) ?_
  refine ec_aload_n hx hb dJx4a65c_grow_d5877_0 rfl (lv_at hl 0 rfl) ?_
  refine ec_aload_n hx hb dJx4a65c_grow_d5877_1 rfl (lv_at hl 0 rfl) ?_
  refine cr_get (t := 11) (j := 2) (C := RJx4a65c) (T := TJx4a65c) (N := 3) (v := .int (gm 41 x.toNatClampNeg)) hx hb htb inJx4a65c hown hK hP hvx (by decide) (by decide) (by decide) rfl (by decide) (htb _ kw_345) rfl dJx4a65c_grow_d5877_2 ?_
  obtain ⟨z_1, ez_1⟩ : ∃ z : Int32, z = (gm 41 x.toNatClampNeg) := ⟨_, rfl⟩
  refine W.eq (g2 := F0 m 5 ls [.int z_1, eV (ad 11) x]) (by rw [ez_1]) ?_
  have hz_1 : iv 0 80 z_1 := iv_of ez_1 (CI_a hI 41 hvx (by decide))
  have h_2 : iv 0 79 z_1 := ⟨(hz_1).1, by rw [ez_1]; omega⟩
  refine lv_iconst (v := 1) hx hb dJx4a65c_grow_d5877_5 (by decide) ?_
  refine lv_iadd hx hb dJx4a65c_grow_d5877_6 ?_
  refine lv_topi (fun z_3 ez_3 => ?_)
  have hz_3 : iv 1 80 z_3 := iv_of ez_3 (iv_add h_2 (iv_k (by decide) : iv 1 1 1) (by decide))
  have tz_3 : z_3.toInt = (z_1 : Int32).toInt + 1 := by rw [ez_3]; exact iv_addE h_2 (iv_k (by decide) : iv 1 1 1) (by decide)
  refine cm_callGV (t := 11) (C := RJx4a65c) (T := TJx4a65c) (N := 3) (rest := []) (as := [.int z_3]) ⟨hx, hb, hml, hown, htb⟩ (d_grow1 l dC dI ad cid a2 lx sg gm lg x z_3 hI hvx hz_3 hLD hcap hsz (by have q9 := congrArg Int32.toInt ez_1; have := i32_0; have := i32_1; have := i32_2; have := i32_m1; have := (hvx).1; have := (hvx).2; have := (h_2).1; have := (h_2).2; have := (hz_3).1; have := (hz_3).2; omega)) (cwV 1 htb (gd_V kw_830 kw_831 kw_47 kw_157 kw_1510) rfl rfl rfl (by decide +kernel) ⟨Nat.le_of_ble_eq_true rfl, Nat.le_of_ble_eq_true rfl⟩) hvx (by decide) (by decide) rfl rfl hl.1 rfl (Nat.le_trans cs_n (by decide)) dJx4a65c_grow_d5877_7 ⟨Nat.le_trans (gc_le hI) (Nat.le_of_ble_eq_true rfl), Nat.le_trans (gs_le hI) (Nat.le_of_ble_eq_true rfl)⟩ hK hP hD hS hA hG (fun E ce q9 u_5 H locs hw hmu hP hD hS hce hcv hcl => ?_) (fun v9 u_5 H locs hw hmu hP hD hS => ?_)
  · exact hw.elim
  obtain ⟨r_4, rfl, a2v_6, lxv_6, sgv_6, gmv_6, lgv_6, rfl, hIv_6, ksv_6, kgv_6, klv_6, fR_r_4, fC_r_4, f57_r_4, f57n_r_4, fLD_r_4⟩ := hw
  obtain rfl := KS_nil ksv_6
  obtain rfl := KS_nil klv_6
  have hP : va_P (dC, dI) vwCl (cW ad cid a2v_6 lxv_6 sg gmv_6 lg) H := hP
  have hD : va_D A (cW ad cid a2v_6 lxv_6 sg gmv_6 lg) := hD
  have hmu : PHs gm ≤ PHs gmv_6 := hmu
  rw [show (gc gm gm 0 + gc gm gmv_6 0) = gc gm gmv_6 0 from gc_t (Nat.le_refl _) hmu, show (gs gm gm 0 + gs gm gmv_6 0) = gs gm gmv_6 0 from gs_t (Nat.le_refl _) hmu]
  have hm_7 : PHs gm ≤ PHs gmv_6 := Nat.le_trans (Nat.le_refl _) hmu
  refine W.eq (g2 := F0 m 10 ls [.ref r_4]) rfl ?_
  exact W.nb (fun hN => W.widen (k := 60961) (n := 243967) (Nat.le_trans (gc_l0 (gm := gm) (k := 0) hIv_6) (Nat.le_of_ble_eq_true rfl)) (Nat.le_trans (gs_l0 (gm := gm) (k := 0) hIv_6) (Nat.le_of_ble_eq_true rfl)) (vx_ret (W.aret (v := .ref r_4) hx hb hr (Or.inr ⟨_, rfl⟩) (Or.inr ⟨_, rfl⟩) (fun t ht hW => ⟨⟨some (.ref r_4), (a2v_6, lxv_6, sg, gmv_6, lg), rfl, ⟨r_4, rfl, a2v_6, lxv_6, sg, gmv_6, lg, rfl, hIv_6, KS_rf, (KS_tr (L := [42, 57]) KS_rf kgv_6 (by decide)), KS_rf, (fR_r_4), (fC_r_4), (f57_r_4), (f57n_r_4), (fLD_r_4)⟩, ⟨by rw [ht]; exact hP, va_K.moved hW.alike hK, hD⟩, hm_7, by rw [ht]; exact hN⟩, hS.F ht⟩) hS.2.2 dJx4a65c_grow_d5877_10)))

set_option maxHeartbeats 4000000 in
set_option maxRecDepth 100000 in
theorem d_ladd3 (l : Launch) (dC : Nat → ClassId) (dI : Nat → Nat → Nat) (ad : Nat → Nat → Nat) (cid : Nat → ClassId) (a2 : Nat → Nat) (lx : List Nat) (sg : Nat → Int32) (gm : Nat → Nat → Int32) (lg : Nat → Nat → Int64) (x : Int32) (el : Int32) (sz : Int32) (hI : CI sg gm) (hvx : iv 0 239 x) (hvel : iv 0 79 el) (hvsz : iv 0 79 sz) (hLD : LDI lx gm) (hsz : (gm 41 x.toNatClampNeg).toInt < 80) (hs9 : sz = gm 41 x.toNatClampNeg) : CMg dC dI ad cid l yJx4a65c_add_72be8 wm_Jx4a65c_add_72be8 ({ frames := 9, cells := 91441, slots := 365887, locals := 224 }) [eV (ad 11) x, eV (ad 9) el, dV ad a2 gm x.toNatClampNeg, .int sz] a2 lx sg gm lg 0 91441 365887 (fun v u => v = none ∧ ∃ (a22 : Nat → Nat) (lx2 : List Nat), ∃ (sg2 : Nat → Int32) (gm2 : Nat → Nat → Int32) (lg2 : Nat → Nat → Int64), u = (a22, lx2, sg2, gm2, lg2) ∧ CI sg2 gm2 ∧ KS [] sg sg2 ∧ KS [41, 42, 57] gm gm2 ∧ KS [] lg lg2 ∧ (∃ z9 : Int32, gm2 41 = upd (gm 41) x.toNatClampNeg z9 ∧ z9.toInt = (gm 41 x.toNatClampNeg).toInt + 1) ∧ (gm2 57 (128 * x.toNatClampNeg + (gm 41 x.toNatClampNeg).toNatClampNeg) = el) ∧ (∀ j9, j9 < (gm 41 x.toNatClampNeg).toNatClampNeg → gm2 57 (128 * x.toNatClampNeg + j9) = gm 57 (128 * x.toNatClampNeg + j9)) ∧ (∀ q2, q2 ≠ x.toNatClampNeg → ∀ j9, j9 < 128 → gm2 57 (128 * q2 + j9) = gm 57 (128 * q2 + j9)) ∧ (LDI lx2 gm2)) (fun _ _ => False) := by
  intro sz
  refine vx_ofW (cc := cJx4a65c_add_72be8) (maxL := 4) (ret := none) (by decide) rfl ?_
  intro p e s m args below meth c s₁ B hml hxt hv
  obtain ⟨rfl, hsz, hP, hK, hD0, hG⟩ := hv
  have hx := B.exec
  have hb := B.bytes
  have hr := B.returns
  have hts := atoms_spec (ws := wm_Jx4a65c_add_72be8) B.pre
  have htb := fun (w : Cond) (h : w ∈ tb) => hts w (List.mem_cons_of_mem _ h)
  have hown : s.vm.findClass RJx4a65c = some m.cls := findClass_of_methodNamed B.named
  have hlocks := B.notSynchronized
  subst hsz
  have hD := hD0.self (sz := s.heap.size)
  generalize hAe : va_A (cW ad cid a2 lx sg gm lg) s.heap.size = A at hD hG ⊢
  have hA : ∀ q : Nat, s.heap.size ≤ q → A q := fun q h => by rw [← hAe]; exact Or.inr h
  have hS : va_S A s.heap s.heap [] := va_S.rf
  have hl := lv_entry ([eV (ad 11) x, eV (ad 9) el, dV ad a2 gm x.toNatClampNeg, .int sz]) (n := 4) (by rw [show (lg_sl ([eV (ad 11) x, eV (ad 9) el, dV ad a2 gm x.toNatClampNeg, .int sz])).length = 4 from by simp [lg_sl, eV_cat, cat_i, cat_l, dV_cat]]; exact Nat.le_of_ble_eq_true rfl)
  rw [lg_entry_eq]
  generalize (lg_sl ([eV (ad 11) x, eV (ad 9) el, dV ad a2 gm x.toNatClampNeg, .int sz]) ++ List.replicate (4 - (lg_sl ([eV (ad 11) x, eV (ad 9) el, dV ad a2 gm x.toNatClampNeg, .int sz])).length) Slot.unset).toArray = ls at hl ⊢
  have hl : lv_has ls 4 [(0, eV (ad 11) x), (1, eV (ad 9) el), (2, dV ad a2 gm x.toNatClampNeg), (3, .int sz)] := by simp [lv_args, eV_cat, cat_i, cat_l, dV_cat] at hl; exact hl
  refine W.widen (k := gc gm gm 0) (n := gs gm gm 0) (Nat.zero_le _) (Nat.zero_le _) ?_
  refine lv_iload_n hx hb dJx4a65c_add_72be8_0 rfl (lv_at hl 3 rfl) ?_
  refine lv_aload_n hx hb dJx4a65c_add_72be8_1 rfl (lv_at hl 2 rfl) ?_
  refine W.eq (g2 := F0 m 2 ls [dV ad a2 gm x.toNatClampNeg, .int sz]) rfl ?_
  refine cl_dlen hx hb hG hK hP hS hI (by have := iv_cl hvx (by decide); have := hvx.2; omega) (hLD _ (by have := iv_cl hvx (by decide); have := hvx.2; omega)).2.1 dJx4a65c_add_72be8_2 ?_
  refine lv_topi (fun z_1 ez_1 => ?_)
  have hz_1 : iv 0 127 z_1 := iv_of ez_1 (show iv 0 127 _ from CI_a hI 42 hvx (by decide))
  have cz_1 := congrArg Int32.toInt ez_1
  refine lv_icmp_ne (tgt := 11) hx hb dJx4a65c_add_72be8_3 (by decide) (fun c_2 => ?_) (fun c_2 => ?_)
  · refine lv_aload_n hx hb dJx4a65c_add_72be8_11 rfl (lv_at hl 2 rfl) ?_
    refine W.eq (g2 := F0 m 12 ls [dV ad a2 gm x.toNatClampNeg]) rfl ?_
    refine lv_iload_n hx hb dJx4a65c_add_72be8_12 rfl (lv_at hl 3 rfl) ?_
    refine ec_aload_n hx hb dJx4a65c_add_72be8_13 rfl (lv_at hl 1 rfl) ?_
    have hX : x.toNatClampNeg < 240 := (by have := iv_cl hvx (by decide); have := hvx.2; omega)
    obtain ⟨kc1, kc2, kc3, kc4⟩ := cap_of hI hX
    have k41 := (show iv 0 80 (gm 41 x.toNatClampNeg) from CI_a hI 41 hvx (by decide))
    have ks9 := congrArg Int32.toInt hs9
    have hLDc := hLD
    have hnec : ¬ sz.toInt = z_1.toInt := fun q9 => c_2 (Int32.toInt_inj.mp q9)
    have hltc : (gm 41 x.toNatClampNeg).toInt < (gm 42 x.toNatClampNeg).toInt := by have := (hLD _ hX).1; have := i32_0; have := i32_1; have := i32_2; have := i32_m1; have := (hvx).1; have := (hvx).2; have := (hvel).1; have := (hvel).2; have := (hvsz).1; have := (hvsz).2; have := (hz_1).1; have := (hz_1).2; omega
    obtain ⟨kd1, kd2, kd3, kd4⟩ := cap_of hI hX
    have hcc : ¬ (gm 42 x.toNatClampNeg).toInt = 0 := by have := k41.1; omega
    have kcl := cl_0 (x := sz) (by have := k41.1; omega)
    refine cl_aast hx hb hG hK hP hD hS ((hLDc _ hX).2.1 hcc) hcc (vp_in_iff.mpr ⟨by have := k41.1; omega, by omega⟩) (by omega) hvel (by decide) dJx4a65c_add_72be8_14 (fun gm_3 H locs egm_3 hP hD hS => ?_)
    have hI_gm_3 := CI_st hI egm_3 hvel (by decide)
    refine ec_aload_n hx hb dJx4a65c_add_72be8_15 rfl (lv_at hl 0 rfl) ?_
    refine lv_iload_n hx hb dJx4a65c_add_72be8_16 rfl (lv_at hl 3 rfl) ?_
    refine lv_iconst (v := 1) hx hb dJx4a65c_add_72be8_17 (by decide) ?_
    refine lv_iadd hx hb dJx4a65c_add_72be8_18 ?_
    refine lv_topi (fun z_4 ez_4 => ?_)
    have hz_4 : iv 1 80 z_4 := iv_of ez_4 (iv_add hvsz (iv_k (by decide) : iv 1 1 1) (by decide))
    have tz_4 : z_4.toInt = (sz : Int32).toInt + 1 := by rw [ez_4]; exact iv_addE hvsz (iv_k (by decide) : iv 1 1 1) (by decide)
    refine cr_putg (t := 11) (j := 2) (C := RJx4a65c) (T := TJx4a65c) (N := 3) (ty0 := tyJx4a65c) (k := 41) (y := z_4) hx hb htb inJx4a65c tyJx4a65c_ok nmJx4a65c hown hK hP hD hS hvx (by decide) (by decide) (by decide) (by decide) rfl rfl (by decide) (htb _ kw_345) rfl (by show Value.int z_4 = Value.int (va_up gm_3 41 (upd (gm_3 41) x.toNatClampNeg z_4) 41 x.toNatClampNeg); rw [va_up_self, upd_at]) rfl rfl dJx4a65c_add_72be8_19 (fun gm_5 H locs egm_5 hP hD hS => ?_)
    have hI_gm_5 := CI_st hI_gm_3 egm_5 hz_4 (by decide)
    refine W.widen (k := gc gm gm_5 0) (n := gs gm gm_5 0) (gc_e (show gm_5 42 = gm 42 from (Eq.trans (up_ne egm_5 (by decide)) (up_ne egm_3 (by decide)))) (by decide)) (gs_e (show gm_5 42 = gm 42 from (Eq.trans (up_ne egm_5 (by decide)) (up_ne egm_3 (by decide)))) (by decide)) ?_
    have hm_6 : PHs gm ≤ PHs gm_5 := by rw [PHs_e (show gm_5 42 = gm 42 from (Eq.trans (up_ne egm_5 (by decide)) (up_ne egm_3 (by decide))))]; exact (Nat.le_refl _)
    exact W.nb (fun hN => W.widen (k := 91441) (n := 365887) (Nat.le_trans (gc_l0 (gm := gm) (k := 0) hI_gm_5) (Nat.le_of_ble_eq_true rfl)) (Nat.le_trans (gs_l0 (gm := gm) (k := 0) hI_gm_5) (Nat.le_of_ble_eq_true rfl)) (vx_ret (W.vret hx hb hr (fun t ht hW => ⟨⟨none, (a2, lx, sg, gm_5, lg), rfl, ⟨rfl, a2, lx, sg, gm_5, lg, rfl, hI_gm_5, KS_rf, (KS_up (KS_up KS_rf egm_3 (by decide)) egm_5 (by decide)), KS_rf, (⟨z_4, by rw [(show gm_5 41 = upd (gm 41) x.toNatClampNeg z_4 from (by rw [show gm_5 41 = _ from up_at egm_5, show gm_3 41 = gm 41 from up_ne egm_3 (by decide)])), (show gm 41 = gm 41 from rfl)], by omega⟩), (by { have kz : sz.toNatClampNeg = (gm 41 x.toNatClampNeg).toNatClampNeg := (by rw [hs9]); rw [(show gm_5 57 = upd (gm 57) (128 * x.toNatClampNeg + sz.toNatClampNeg) el from (by rw [show gm_5 57 = gm_3 57 from up_ne egm_5 (by decide)]; exact up_at egm_3)), kz, upd_at] }), (fun j9 q9 => by { have kz : sz.toNatClampNeg = (gm 41 x.toNatClampNeg).toNatClampNeg := (by rw [hs9]); rw [(show gm_5 57 = upd (gm 57) (128 * x.toNatClampNeg + sz.toNatClampNeg) el from (by rw [show gm_5 57 = gm_3 57 from up_ne egm_5 (by decide)]; exact up_at egm_3)), upd_ne (by omega)] }), (fun q2 q9 j9 q8 => by { rw [(show gm_5 57 = upd (gm 57) (128 * x.toNatClampNeg + sz.toNatClampNeg) el from (by rw [show gm_5 57 = gm_3 57 from up_ne egm_5 (by decide)]; exact up_at egm_3)), upd_ne (by omega)] }), (LDI_add hLDc (show gm_5 57 = upd (gm 57) (128 * x.toNatClampNeg + sz.toNatClampNeg) el from (by rw [show gm_5 57 = gm_3 57 from up_ne egm_5 (by decide)]; exact up_at egm_3)) (show gm_5 41 = upd (gm 41) x.toNatClampNeg z_4 from (by rw [show gm_5 41 = _ from up_at egm_5, show gm_3 41 = gm 41 from up_ne egm_3 (by decide)])) (show gm_5 42 = gm 42 from (up_ne egm_5 (by decide)).trans (up_ne egm_3 (by decide))) (by rw [(show gm 41 = gm 41 from rfl)]; omega) (by rw [(show gm 41 = gm 41 from rfl)]; exact k41.1) (by rw [(show gm 41 = gm 41 from rfl), hs9]) (by rw [(show gm 41 = gm 41 from rfl)]; exact hltc) hvel.1)⟩, ⟨by rw [ht]; exact hP, va_K.moved hW.alike hK, hD⟩, hm_6, by rw [ht]; exact hN⟩, hS.F ht⟩) hS.2.2 dJx4a65c_add_72be8_22)))
  · have d_7 : (sz : Int32).toInt = (z_1 : Int32).toInt := congrArg Int32.toInt c_2
    have h_8 : iv 0 79 z_1 := iv_eq (Eq.symm c_2) hz_1 hvsz (by decide)
    refine ec_aload_n hx hb dJx4a65c_add_72be8_6 rfl (lv_at hl 0 rfl) ?_
    refine cm_callGV (t := 11) (C := RJx4a65c) (T := TJx4a65c) (N := 3) (rest := []) (as := []) ⟨hx, hb, hml, hown, htb⟩ (d_grow0 l dC dI ad cid a2 lx sg gm lg x hI hvx hLD (by have q9 := congrArg Int32.toInt hs9; have := i32_0; have := i32_1; have := i32_2; have := i32_m1; have := (hvx).1; have := (hvx).2; have := (hvel).1; have := (hvel).2; have := (hvsz).1; have := (hvsz).2; have := (h_8).1; have := (h_8).2; omega) hsz) (cwV 0 htb (gd_V kw_828 kw_829 kw_46 kw_157 kw_1509) rfl rfl rfl (by decide +kernel) ⟨Nat.le_of_ble_eq_true rfl, Nat.le_of_ble_eq_true rfl⟩) hvx (by decide) (by decide) rfl rfl hl.1 rfl (Nat.le_trans cs_n (by decide)) dJx4a65c_add_72be8_7 ⟨Nat.le_trans (gc_le hI) (Nat.le_of_ble_eq_true rfl), Nat.le_trans (gs_le hI) (Nat.le_of_ble_eq_true rfl)⟩ hK hP hD hS hA hG (fun E ce q9 u_10 H locs hw hmu hP hD hS hce hcv hcl => ?_) (fun v9 u_10 H locs hw hmu hP hD hS => ?_)
    · exact hw.elim
    obtain ⟨r_9, rfl, a2v_11, lxv_11, sgv_11, gmv_11, lgv_11, rfl, hIv_11, ksv_11, kgv_11, klv_11, fR_r_9, fC_r_9, f57_r_9, f57n_r_9, fLD_r_9⟩ := hw
    obtain rfl := KS_nil ksv_11
    obtain rfl := KS_nil klv_11
    have hP : va_P (dC, dI) vwCl (cW ad cid a2v_11 lxv_11 sg gmv_11 lg) H := hP
    have hD : va_D A (cW ad cid a2v_11 lxv_11 sg gmv_11 lg) := hD
    have hmu : PHs gm ≤ PHs gmv_11 := hmu
    rw [show (gc gm gm 0 + gc gm gmv_11 0) = gc gm gmv_11 0 from gc_t (Nat.le_refl _) hmu, show (gs gm gm 0 + gs gm gmv_11 0) = gs gm gmv_11 0 from gs_t (Nat.le_refl _) hmu]
    have hm_12 : PHs gm ≤ PHs gmv_11 := Nat.le_trans (Nat.le_refl _) hmu
    refine W.eq (g2 := F0 m 10 ls [.ref r_9]) rfl ?_
    refine lv_astore_n (i := 2) (lv' := [(2, .ref r_9), (0, eV (ad 11) x), (1, eV (ad 9) el), (3, .int sz)]) hx hb dJx4a65c_add_72be8_10 rfl hl (by decide) (by simp [List.filter, eV_cat, cat_i, cat_l]) (fun ls hl => ?_)
    refine lv_aload_n hx hb dJx4a65c_add_72be8_11 rfl (lv_at hl 0 rfl) ?_
    have hcg : ¬ (gmv_11 42 x.toNatClampNeg).toInt = 0 := by have := fC_r_9; have := (cap_of hI (show x.toNatClampNeg < 240 from by have := iv_cl hvx (by decide); have := hvx.2; omega)).2.1; omega
    refine W.eq (g2 := F0 m 12 ls [dV ad a2v_11 gmv_11 x.toNatClampNeg]) (by rw [dV_n hcg, fR_r_9]) ?_
    refine lv_iload_n hx hb dJx4a65c_add_72be8_12 rfl (lv_at hl 3 rfl) ?_
    refine ec_aload_n hx hb dJx4a65c_add_72be8_13 rfl (lv_at hl 2 rfl) ?_
    have hX : x.toNatClampNeg < 240 := (by have := iv_cl hvx (by decide); have := hvx.2; omega)
    obtain ⟨kc1, kc2, kc3, kc4⟩ := cap_of hI hX
    have k41 := (show iv 0 80 (gm 41 x.toNatClampNeg) from CI_a hI 41 hvx (by decide))
    have ks9 := congrArg Int32.toInt hs9
    have hLDc := fLD_r_9
    have hltc : (gm 41 x.toNatClampNeg).toInt < (gmv_11 42 x.toNatClampNeg).toInt := by have := fC_r_9; omega
    obtain ⟨kd1, kd2, kd3, kd4⟩ := cap_of hIv_11 hX
    have hcc : ¬ (gmv_11 42 x.toNatClampNeg).toInt = 0 := by have := k41.1; omega
    have kcl := cl_0 (x := sz) (by have := k41.1; omega)
    refine cl_aast hx hb hG hK hP hD hS ((hLDc _ hX).2.1 hcc) hcc (vp_in_iff.mpr ⟨by have := k41.1; omega, by omega⟩) (by omega) hvel (by decide) dJx4a65c_add_72be8_14 (fun gm_13 H locs egm_13 hP hD hS => ?_)
    have hI_gm_13 := CI_st hIv_11 egm_13 hvel (by decide)
    refine ec_aload_n hx hb dJx4a65c_add_72be8_15 rfl (lv_at hl 1 rfl) ?_
    refine lv_iload_n hx hb dJx4a65c_add_72be8_16 rfl (lv_at hl 3 rfl) ?_
    refine lv_iconst (v := 1) hx hb dJx4a65c_add_72be8_17 (by decide) ?_
    refine lv_iadd hx hb dJx4a65c_add_72be8_18 ?_
    refine lv_topi (fun z_14 ez_14 => ?_)
    have hz_14 : iv 1 80 z_14 := iv_of ez_14 (iv_add hvsz (iv_k (by decide) : iv 1 1 1) (by decide))
    have tz_14 : z_14.toInt = (sz : Int32).toInt + 1 := by rw [ez_14]; exact iv_addE hvsz (iv_k (by decide) : iv 1 1 1) (by decide)
    refine cr_putg (t := 11) (j := 2) (C := RJx4a65c) (T := TJx4a65c) (N := 3) (ty0 := tyJx4a65c) (k := 41) (y := z_14) hx hb htb inJx4a65c tyJx4a65c_ok nmJx4a65c hown hK hP hD hS hvx (by decide) (by decide) (by decide) (by decide) rfl rfl (by decide) (htb _ kw_345) rfl (by show Value.int z_14 = Value.int (va_up gm_13 41 (upd (gm_13 41) x.toNatClampNeg z_14) 41 x.toNatClampNeg); rw [va_up_self, upd_at]) rfl rfl dJx4a65c_add_72be8_19 (fun gm_15 H locs egm_15 hP hD hS => ?_)
    have hI_gm_15 := CI_st hI_gm_13 egm_15 hz_14 (by decide)
    refine W.widen (k := gc gm gm_15 0) (n := gs gm gm_15 0) (gc_e (show gm_15 42 = gmv_11 42 from (Eq.trans (up_ne egm_15 (by decide)) (up_ne egm_13 (by decide)))) (by decide)) (gs_e (show gm_15 42 = gmv_11 42 from (Eq.trans (up_ne egm_15 (by decide)) (up_ne egm_13 (by decide)))) (by decide)) ?_
    have hm_16 : PHs gm ≤ PHs gm_15 := by rw [PHs_e (show gm_15 42 = gmv_11 42 from (Eq.trans (up_ne egm_15 (by decide)) (up_ne egm_13 (by decide))))]; exact hm_12
    exact W.nb (fun hN => W.widen (k := 91441) (n := 365887) (Nat.le_trans (gc_l0 (gm := gm) (k := 0) hI_gm_15) (Nat.le_of_ble_eq_true rfl)) (Nat.le_trans (gs_l0 (gm := gm) (k := 0) hI_gm_15) (Nat.le_of_ble_eq_true rfl)) (vx_ret (W.vret hx hb hr (fun t ht hW => ⟨⟨none, (a2v_11, lxv_11, sg, gm_15, lg), rfl, ⟨rfl, a2v_11, lxv_11, sg, gm_15, lg, rfl, hI_gm_15, KS_rf, (KS_up (KS_up (KS_tr (L := [41, 42, 57]) KS_rf kgv_11 (by decide)) egm_13 (by decide)) egm_15 (by decide)), KS_rf, (⟨z_14, by rw [(show gm_15 41 = upd (gmv_11 41) x.toNatClampNeg z_14 from (by rw [show gm_15 41 = _ from up_at egm_15, show gm_13 41 = gmv_11 41 from up_ne egm_13 (by decide)])), (show gmv_11 41 = gm 41 from (show KS [42, 57] gm gmv_11 from (KS_tr (L := [42, 57]) KS_rf kgv_11 (by decide))) 41 (by decide))], by omega⟩), (by { have kz : sz.toNatClampNeg = (gm 41 x.toNatClampNeg).toNatClampNeg := (by rw [hs9]); rw [(show gm_15 57 = upd (gmv_11 57) (128 * x.toNatClampNeg + sz.toNatClampNeg) el from (by rw [show gm_15 57 = gm_13 57 from up_ne egm_15 (by decide)]; exact up_at egm_13)), kz, upd_at] }), (fun j9 q9 => by { have kz : sz.toNatClampNeg = (gm 41 x.toNatClampNeg).toNatClampNeg := (by rw [hs9]); rw [(show gm_15 57 = upd (gmv_11 57) (128 * x.toNatClampNeg + sz.toNatClampNeg) el from (by rw [show gm_15 57 = gm_13 57 from up_ne egm_15 (by decide)]; exact up_at egm_13)), upd_ne (by omega)]; exact f57_r_9 j9 (by have q1 : (gm 42 x.toNatClampNeg).toNatClampNeg = (gm 42 x.toNatClampNeg).toInt.toNat := rfl; have q2 : (gm 41 x.toNatClampNeg).toNatClampNeg = (gm 41 x.toNatClampNeg).toInt.toNat := rfl; omega) }), (fun q2 q9 j9 q8 => by { rw [(show gm_15 57 = upd (gmv_11 57) (128 * x.toNatClampNeg + sz.toNatClampNeg) el from (by rw [show gm_15 57 = gm_13 57 from up_ne egm_15 (by decide)]; exact up_at egm_13)), upd_ne (by omega)]; exact f57n_r_9 q2 q9 j9 q8 }), (LDI_add hLDc (show gm_15 57 = upd (gmv_11 57) (128 * x.toNatClampNeg + sz.toNatClampNeg) el from (by rw [show gm_15 57 = gm_13 57 from up_ne egm_15 (by decide)]; exact up_at egm_13)) (show gm_15 41 = upd (gmv_11 41) x.toNatClampNeg z_14 from (by rw [show gm_15 41 = _ from up_at egm_15, show gm_13 41 = gmv_11 41 from up_ne egm_13 (by decide)])) (show gm_15 42 = gmv_11 42 from (up_ne egm_15 (by decide)).trans (up_ne egm_13 (by decide))) (by rw [(show gmv_11 41 = gm 41 from (show KS [42, 57] gm gmv_11 from (KS_tr (L := [42, 57]) KS_rf kgv_11 (by decide))) 41 (by decide))]; omega) (by rw [(show gmv_11 41 = gm 41 from (show KS [42, 57] gm gmv_11 from (KS_tr (L := [42, 57]) KS_rf kgv_11 (by decide))) 41 (by decide))]; exact k41.1) (by rw [(show gmv_11 41 = gm 41 from (show KS [42, 57] gm gmv_11 from (KS_tr (L := [42, 57]) KS_rf kgv_11 (by decide))) 41 (by decide)), hs9]) (by rw [(show gmv_11 41 = gm 41 from (show KS [42, 57] gm gmv_11 from (KS_tr (L := [42, 57]) KS_rf kgv_11 (by decide))) 41 (by decide))]; exact hltc) hvel.1)⟩, ⟨by rw [ht]; exact hP, va_K.moved hW.alike hK, hD⟩, hm_16, by rw [ht]; exact hN⟩, hS.F ht⟩) hS.2.2 dJx4a65c_add_72be8_22)))

set_option maxHeartbeats 4000000 in
set_option maxRecDepth 100000 in
theorem d_ladd (l : Launch) (dC : Nat → ClassId) (dI : Nat → Nat → Nat) (ad : Nat → Nat → Nat) (cid : Nat → ClassId) (a2 : Nat → Nat) (lx : List Nat) (sg : Nat → Int32) (gm : Nat → Nat → Int32) (lg : Nat → Nat → Int64) (x : Int32) (el : Int32) (hI : CI sg gm) (hvx : iv 0 239 x) (hvel : iv 0 79 el) (hLD : LDI lx gm) (hsz : (gm 41 x.toNatClampNeg).toInt < 80) : CMg dC dI ad cid l yJx4a65c_add_9ea2d wm_Jx4a65c_add_9ea2d ({ frames := 10, cells := 121921, slots := 487807, locals := 247 }) [eV (ad 11) x, eV (ad 9) el] a2 lx sg gm lg 0 121921 487807 (fun v u => ∃ r : Int32, v = some (.int r) ∧ ∃ (a22 : Nat → Nat) (lx2 : List Nat), ∃ (sg2 : Nat → Int32) (gm2 : Nat → Nat → Int32) (lg2 : Nat → Nat → Int64), u = (a22, lx2, sg2, gm2, lg2) ∧ CI sg2 gm2 ∧ KS [] sg sg2 ∧ KS [40, 41, 42, 57] gm gm2 ∧ KS [] lg lg2 ∧ (iv 0 1 r) ∧ (∃ z9 : Int32, gm2 41 = upd (gm 41) x.toNatClampNeg z9 ∧ z9.toInt = (gm 41 x.toNatClampNeg).toInt + 1) ∧ (gm2 57 (128 * x.toNatClampNeg + (gm 41 x.toNatClampNeg).toNatClampNeg) = el) ∧ (∀ j9, j9 < (gm 41 x.toNatClampNeg).toNatClampNeg → gm2 57 (128 * x.toNatClampNeg + j9) = gm 57 (128 * x.toNatClampNeg + j9)) ∧ (∀ q2, q2 ≠ x.toNatClampNeg → ∀ j9, j9 < 128 → gm2 57 (128 * q2 + j9) = gm 57 (128 * q2 + j9)) ∧ (LDI lx2 gm2)) (fun _ _ => False) := by
  intro sz
  refine vx_ofW (cc := cJx4a65c_add_9ea2d) (maxL := 2) (ret := (some .boolean)) (by decide) rfl ?_
  intro p e s m args below meth c s₁ B hml hxt hv
  obtain ⟨rfl, hsz, hP, hK, hD0, hG⟩ := hv
  have hx := B.exec
  have hb := B.bytes
  have hr := B.returns
  have hts := atoms_spec (ws := wm_Jx4a65c_add_9ea2d) B.pre
  have htb := fun (w : Cond) (h : w ∈ tb) => hts w (List.mem_cons_of_mem _ h)
  have hown : s.vm.findClass RJx4a65c = some m.cls := findClass_of_methodNamed B.named
  have hlocks := B.notSynchronized
  subst hsz
  have hD := hD0.self (sz := s.heap.size)
  generalize hAe : va_A (cW ad cid a2 lx sg gm lg) s.heap.size = A at hD hG ⊢
  have hA : ∀ q : Nat, s.heap.size ≤ q → A q := fun q h => by rw [← hAe]; exact Or.inr h
  have hS : va_S A s.heap s.heap [] := va_S.rf
  have hl := lv_entry ([eV (ad 11) x, eV (ad 9) el]) (n := 2) (by rw [show (lg_sl ([eV (ad 11) x, eV (ad 9) el])).length = 2 from by simp [lg_sl, eV_cat, cat_i, cat_l]]; exact Nat.le_of_ble_eq_true rfl)
  rw [lg_entry_eq]
  generalize (lg_sl ([eV (ad 11) x, eV (ad 9) el]) ++ List.replicate (2 - (lg_sl ([eV (ad 11) x, eV (ad 9) el])).length) Slot.unset).toArray = ls at hl ⊢
  have hl : lv_has ls 2 [(0, eV (ad 11) x), (1, eV (ad 9) el)] := by simp [lv_args, eV_cat, cat_i, cat_l] at hl; exact hl
  refine W.widen (k := gc gm gm 0) (n := gs gm gm 0) (Nat.zero_le _) (Nat.zero_le _) ?_
  refine ec_aload_n hx hb dJx4a65c_add_9ea2d_0 rfl (lv_at hl 0 rfl) ?_
  refine lv_dup hx hb dJx4a65c_add_9ea2d_1 (eV_cat _ _) ?_
  refine cl_getM hx hb htb hown hK hP hvx (by decide) (htb _ kw_347) dJx4a65c_add_9ea2d_2 ?_
  refine lv_topi (fun z_1 ez_1 => ?_)
  refine lv_iconst (v := 1) hx hb dJx4a65c_add_9ea2d_5 (by decide) ?_
  refine lv_iadd hx hb dJx4a65c_add_9ea2d_6 ?_
  refine lv_topi (fun z_2 ez_2 => ?_)
  refine cl_putM (y := z_2) hx hb htb hown hK hP hD hS hvx (by decide) (htb _ kw_347) dJx4a65c_add_9ea2d_7 (fun gm_3 H locs egm_3 hP hD hS => ?_)
  have hI_gm_3 := CI_st hI egm_3 (iv_fl z_2) (by decide)
  refine ec_aload_n hx hb dJx4a65c_add_9ea2d_10 rfl (lv_at hl 0 rfl) ?_
  refine ec_aload_n hx hb dJx4a65c_add_9ea2d_11 rfl (lv_at hl 1 rfl) ?_
  refine ec_aload_n hx hb dJx4a65c_add_9ea2d_12 rfl (lv_at hl 0 rfl) ?_
  refine cr_get (t := 11) (j := 1) (C := RJx4a65c) (T := TJx4a65c) (N := 3) (v := dV ad a2 gm_3 x.toNatClampNeg) hx hb htb inJx4a65c hown hK hP hvx (by decide) (by decide) (by decide) rfl (by decide) (htb _ kw_344) rfl dJx4a65c_add_9ea2d_13 ?_
  refine ec_aload_n hx hb dJx4a65c_add_9ea2d_16 rfl (lv_at hl 0 rfl) ?_
  refine cr_get (t := 11) (j := 2) (C := RJx4a65c) (T := TJx4a65c) (N := 3) (v := .int (gm_3 41 x.toNatClampNeg)) hx hb htb inJx4a65c hown hK hP hvx (by decide) (by decide) (by decide) rfl (by decide) (htb _ kw_345) rfl dJx4a65c_add_9ea2d_17 ?_
  obtain ⟨z_4, ez_4⟩ : ∃ z : Int32, z = (gm_3 41 x.toNatClampNeg) := ⟨_, rfl⟩
  refine W.eq (g2 := F0 m 20 ls [.int z_4, dV ad a2 gm_3 x.toNatClampNeg, eV (ad 9) el, eV (ad 11) x]) (by rw [ez_4]) ?_
  have hz_4 : iv 0 80 z_4 := iv_of ez_4 (CI_a hI_gm_3 41 hvx (by decide))
  have ez_4 := ez_4.trans (congrFun (up_ne egm_3 (by decide)) _)
  have h_5 : iv 0 79 z_4 := ⟨(hz_4).1, by rw [ez_4]; omega⟩
  refine W.widen (k := gc gm gm_3 0) (n := gs gm gm_3 0) (gc_e (show gm_3 42 = gm 42 from (up_ne egm_3 (by decide))) (by decide)) (gs_e (show gm_3 42 = gm 42 from (up_ne egm_3 (by decide))) (by decide)) ?_
  have hm_6 : PHs gm ≤ PHs gm_3 := by rw [PHs_e (show gm_3 42 = gm 42 from (up_ne egm_3 (by decide)))]; exact (Nat.le_refl _)
  refine cm_callGV (t := 11) (C := RJx4a65c) (T := TJx4a65c) (N := 3) (rest := []) (as := [eV (ad 9) el, dV ad a2 gm_3 x.toNatClampNeg, .int z_4]) ⟨hx, hb, hml, hown, htb⟩ (d_ladd3 l dC dI ad cid a2 lx sg gm_3 lg x el z_4 hI_gm_3 hvx hvel h_5 (LDI_e hLD (up_ne egm_3 (by decide)) (up_ne egm_3 (by decide)) (up_ne egm_3 (by decide))) (by rw [(up_ne egm_3 (by decide))]; exact hsz) (by rw [ez_4, (up_ne egm_3 (by decide))])) (cwV 3 htb (gd_V kw_826 kw_827 kw_45 kw_157 kw_1508) rfl rfl rfl (by decide +kernel) ⟨Nat.le_of_ble_eq_true rfl, Nat.le_of_ble_eq_true rfl⟩) hvx (by decide) (by decide) rfl rfl hl.1 rfl (Nat.le_trans cs_n (by decide)) dJx4a65c_add_9ea2d_20 ⟨Nat.le_trans (gc_le hI_gm_3) (Nat.le_of_ble_eq_true rfl), Nat.le_trans (gs_le hI_gm_3) (Nat.le_of_ble_eq_true rfl)⟩ hK hP hD hS hA hG (fun E ce q9 u_8 H locs hw hmu hP hD hS hce hcv hcl => ?_) (fun v9 u_8 H locs hw hmu hP hD hS => ?_)
  · exact hw.elim
  obtain ⟨rfl, a2v_9, lxv_9, sgv_9, gmv_9, lgv_9, rfl, hIv_9, ksv_9, kgv_9, klv_9, f41_r_7, f57e_r_7, f57_r_7, f57n_r_7, fLD_r_7⟩ := hw
  obtain rfl := KS_nil ksv_9
  obtain rfl := KS_nil klv_9
  have hP : va_P (dC, dI) vwCl (cW ad cid a2v_9 lxv_9 sg gmv_9 lg) H := hP
  have hD : va_D A (cW ad cid a2v_9 lxv_9 sg gmv_9 lg) := hD
  have hmu : PHs gm_3 ≤ PHs gmv_9 := hmu
  rw [show (gc gm gm_3 0 + gc gm_3 gmv_9 0) = gc gm gmv_9 0 from gc_t hm_6 hmu, show (gs gm gm_3 0 + gs gm_3 gmv_9 0) = gs gm gmv_9 0 from gs_t hm_6 hmu]
  have hm_10 : PHs gm ≤ PHs gmv_9 := Nat.le_trans hm_6 hmu
  refine W.eq (g2 := F0 m 23 ls []) rfl ?_
  refine lv_iconst (v := 1) hx hb dJx4a65c_add_9ea2d_23 (by decide) ?_
  exact W.nb (fun hN => W.widen (k := 121921) (n := 487807) (Nat.le_trans (gc_l0 (gm := gm) (k := 0) hIv_9) (Nat.le_of_ble_eq_true rfl)) (Nat.le_trans (gs_l0 (gm := gm) (k := 0) hIv_9) (Nat.le_of_ble_eq_true rfl)) (vx_ret (W.zret (v := 1) hx hb hr (iv_nb (iv_w (iv_k (by decide) : iv 1 1 1) (by decide))) (fun t ht hW => ⟨⟨some (.int 1), (a2v_9, lxv_9, sg, gmv_9, lg), rfl, ⟨1, rfl, a2v_9, lxv_9, sg, gmv_9, lg, rfl, hIv_9, KS_rf, (KS_tr (L := [40, 41, 42, 57]) (KS_up KS_rf egm_3 (by decide)) kgv_9 (by decide)), KS_rf, (iv_w (iv_k (by decide) : iv 1 1 1) (by decide)), ((by rw [← (show gm_3 41 = gm 41 from (up_ne egm_3 (by decide)))]; exact f41_r_7)), ((by rw [← (show gm_3 41 = gm 41 from (up_ne egm_3 (by decide)))]; exact f57e_r_7)), ((by rw [← (show gm_3 41 = gm 41 from (up_ne egm_3 (by decide))), ← (show gm_3 57 = gm 57 from (up_ne egm_3 (by decide)))]; exact f57_r_7)), ((by rw [← (show gm_3 57 = gm 57 from (up_ne egm_3 (by decide)))]; exact f57n_r_7)), (fLD_r_7)⟩, ⟨by rw [ht]; exact hP, va_K.moved hW.alike hK, hD⟩, hm_10, by rw [ht]; exact hN⟩, hS.F ht⟩) hS.2.2 dJx4a65c_add_9ea2d_24)))
end
section

/-- the other lists are the same -/
def LSM (q : Nat) (gm gm2 : Nat → Nat → Int32) : Prop := ∀ q2, q2 ≠ q → gm2 41 q2 = gm 41 q2 ∧ ∀ j, j < 128 → gm2 57 (128 * q2 + j) = gm 57 (128 * q2 + j)
/-- every element of a list is the new one or an old one -/
def LIN (q : Nat) (nm : Int32) (gm gm2 : Nat → Nat → Int32) : Prop := ∀ j, j < (gm2 41 q).toNatClampNeg → gm2 57 (128 * q + j) = nm ∨ ∃ i, i < (gm 41 q).toNatClampNeg ∧ gm2 57 (128 * q + j) = gm 57 (128 * q + i)
/-- the letters of a list differ -/
def LDL (q : Nat) (gm : Nat → Nat → Int32) : Prop := ∀ i j, i < j → j < (gm 41 q).toNatClampNeg → ¬ gm 22 (gm 57 (128 * q + i)).toNatClampNeg = gm 22 (gm 57 (128 * q + j)).toNatClampNeg
def PNP (lx : List Nat) (q : Nat) (nm : Int32) (gm gm2 : Nat → Nat → Int32) : Prop := LDI lx gm2 ∧ LDL q gm2 ∧ LSM q gm gm2 ∧ LIN q nm gm gm2
theorem PN_set {lx : List Nat} {gm gm2 : Nat → Nat → Int32} {q i : Nat} {nm : Int32} (hLD : LDI lx gm2) (hDL : LDL q gm) (e57 : gm2 57 = upd (gm 57) (128 * q + i) nm) (e41 : gm2 41 = gm 41) (e22 : gm2 22 = gm 22) (hi : i < 128) (hl : gm 22 (gm 57 (128 * q + i)).toNatClampNeg = gm 22 nm.toNatClampNeg) : PNP lx q nm gm gm2 := by
  have hlet : ∀ j, gm2 22 (gm2 57 (128 * q + j)).toNatClampNeg = gm 22 (gm 57 (128 * q + j)).toNatClampNeg := fun j => by
    rw [e22, e57]
    by_cases e9 : j = i
    · rw [e9, upd_at, hl]
    · rw [upd_ne (by omega)]
  refine ⟨hLD, fun a b hab hb => ?_, fun q2 h2 => ⟨by rw [e41], fun j hj => by rw [e57, upd_ne (by omega)]⟩, fun j hj => ?_⟩
  · rw [hlet, hlet]; rw [e41] at hb; exact hDL a b hab hb
  · rw [e57]
    by_cases e9 : j = i
    · left; rw [e9, upd_at]
    · right; exact ⟨j, by rw [e41] at hj; exact hj, by rw [upd_ne (by omega)]⟩
theorem LSM_add {gm gm2 : Nat → Nat → Int32} {q : Nat} (f41 : ∃ z9 : Int32, gm2 41 = upd (gm 41) q z9 ∧ z9.toInt = (gm 41 q).toInt + 1) (f57n : ∀ q2, q2 ≠ q → ∀ j9, j9 < 128 → gm2 57 (128 * q2 + j9) = gm 57 (128 * q2 + j9)) : LSM q gm gm2 := fun q2 h2 => by
  obtain ⟨z, e41, -⟩ := f41
  exact ⟨by rw [e41, upd_ne h2], f57n q2 h2⟩
theorem LIN_add {gm gm2 : Nat → Nat → Int32} {q : Nat} {nm : Int32} (h0 : 0 ≤ (gm 41 q).toInt) (f41 : ∃ z9 : Int32, gm2 41 = upd (gm 41) q z9 ∧ z9.toInt = (gm 41 q).toInt + 1) (f57e : gm2 57 (128 * q + (gm 41 q).toNatClampNeg) = nm) (f57 : ∀ j9, j9 < (gm 41 q).toNatClampNeg → gm2 57 (128 * q + j9) = gm 57 (128 * q + j9)) : LIN q nm gm gm2 := fun j hj => by
  obtain ⟨z, e41, hz⟩ := f41
  rw [e41, upd_at] at hj
  have k1 : z.toNatClampNeg = z.toInt.toNat := rfl
  have k2 : (gm 41 q).toNatClampNeg = (gm 41 q).toInt.toNat := rfl
  by_cases e9 : j < (gm 41 q).toNatClampNeg
  · exact Or.inr ⟨j, e9, f57 j e9⟩
  · left
    rw [show j = (gm 41 q).toNatClampNeg from by omega]; exact f57e
theorem PN_add {lx : List Nat} {gm gm2 : Nat → Nat → Int32} {q : Nat} {nm : Int32} (hLD : LDI lx gm2) (hDL : LDL q gm) (h0 : 0 ≤ (gm 41 q).toInt) (f41 : ∃ z9 : Int32, gm2 41 = upd (gm 41) q z9 ∧ z9.toInt = (gm 41 q).toInt + 1) (f57e : gm2 57 (128 * q + (gm 41 q).toNatClampNeg) = nm) (f57 : ∀ j9, j9 < (gm 41 q).toNatClampNeg → gm2 57 (128 * q + j9) = gm 57 (128 * q + j9)) (f57n : ∀ q2, q2 ≠ q → ∀ j9, j9 < 128 → gm2 57 (128 * q2 + j9) = gm 57 (128 * q2 + j9)) (e22 : gm2 22 = gm 22) (hno : ∀ k, k < (gm 41 q).toNatClampNeg → ¬ gm 22 (gm 57 (128 * q + k)).toNatClampNeg = gm 22 nm.toNatClampNeg) : PNP lx q nm gm gm2 := by
  refine ⟨hLD, fun a b hab hb => ?_, LSM_add f41 f57n, LIN_add h0 f41 f57e f57⟩
  obtain ⟨z, e41, hz⟩ := f41
  rw [e41, upd_at] at hb
  have k1 : z.toNatClampNeg = z.toInt.toNat := rfl
  have k2 : (gm 41 q).toNatClampNeg = (gm 41 q).toInt.toNat := rfl
  rw [e22]
  by_cases e9 : b < (gm 41 q).toNatClampNeg
  · rw [f57 a (by omega), f57 b e9]; exact hDL a b hab e9
  · rw [show b = (gm 41 q).toNatClampNeg from by omega, f57e, f57 a (by omega)]
    exact hno a (by omega)
theorem LDL_80 {lx : List Nat} {sg : Nat → Int32} {gm : Nat → Nat → Int32} {q : Nat} (hI : CI sg gm) (hq : q < 240) (hLD : LDI lx gm) (h : LDL q gm) : (gm 41 q).toInt < 80 := by
  have i41 := (show iv 0 80 (gm 41 q) from CI_n hI 41 hq)
  have k2 : (gm 41 q).toNatClampNeg = (gm 41 q).toInt.toNat := rfl
  by_cases h9 : (gm 41 q).toInt < 80
  · exact h9
  exfalso
  have hl : ∀ k, k ≤ 27 → iv (-1) 25 (gm 22 (gm 57 (128 * q + k)).toNatClampNeg) := fun k hk => by
    have h1 := (hLD q hq).2.2 k (by omega)
    have h2 := (show iv (-1) 79 (gm 57 (128 * q + k)) from CI_n hI 57 (show 128 * q + k < crLen 57 from by show _ < 30720; omega)).2
    have k3 : (gm 57 (128 * q + k)).toNatClampNeg = (gm 57 (128 * q + k)).toInt.toNat := rfl
    exact (show iv (-1) 25 _ from CI_n hI 22 (show (gm 57 (128 * q + k)).toNatClampNeg < crLen 22 from by show _ < 80; omega))
  obtain ⟨i, j, h1, h2, h3⟩ := pigeon 27 (fun k => ((gm 22 (gm 57 (128 * q + k)).toNatClampNeg).toInt + 1).toNat) (fun k hk => by
    have a1 := (hl k hk).1
    have a2 := (hl k hk).2
    show ((gm 22 (gm 57 (128 * q + k)).toNatClampNeg).toInt + 1).toNat < 27
    omega)
  have a1 := (hl i (by omega)).1
  have b1 := (hl j h2).1
  have h3 : ((gm 22 (gm 57 (128 * q + i)).toNatClampNeg).toInt + 1).toNat = ((gm 22 (gm 57 (128 * q + j)).toNatClampNeg).toInt + 1).toNat := h3
  exact h i j h1 (by omega) (Int32.toInt_inj.mp (by omega))
/-- the elements of a list: their word, and that they are elements of the document -/
def LWD (sg : Nat → Int32) (gm : Nat → Nat → Int32) (q : Nat) (w : Int) : Prop := ∀ j, j < (gm 41 q).toNatClampNeg → (gm 14 (gm 57 (128 * q + j)).toNatClampNeg).toInt = w ∧ (gm 57 (128 * q + j)).toInt < (sg 4).toInt
def BLI (sg : Nat → Int32) (gm : Nat → Nat → Int32) (b : Nat) : Prop := LWD sg gm (3 * b + 0) 3 ∧ LWD sg gm (3 * b + 1) 4 ∧ LDL (3 * b + 1) gm ∧ LDL (3 * b + 2) gm
def OVS (b : Nat) (gm gm2 : Nat → Nat → Int32) : Prop := ∀ q2, ¬ q2 = 3 * b + 0 → ¬ q2 = 3 * b + 1 → ¬ q2 = 3 * b + 2 → gm2 41 q2 = gm 41 q2 ∧ ∀ j, j < 128 → gm2 57 (128 * q2 + j) = gm 57 (128 * q2 + j)
theorem OVS_rf {b : Nat} {gm : Nat → Nat → Int32} : OVS b gm gm := fun _ _ _ _ => ⟨rfl, fun _ _ => rfl⟩
theorem OVS_s {b q : Nat} {gm gm1 gm2 : Nat → Nat → Int32} (h : OVS b gm gm1) (h2 : LSM q gm1 gm2) (hq : q = 3 * b + 0 ∨ q = 3 * b + 1 ∨ q = 3 * b + 2) : OVS b gm gm2 := fun q2 a1 a2 a3 => by
  obtain ⟨b1, b2⟩ := h q2 a1 a2 a3
  obtain ⟨c1, c2⟩ := h2 q2 (by omega)
  exact ⟨c1.trans b1, fun j hj => (c2 j hj).trans (b2 j hj)⟩
theorem LWD_s {sg : Nat → Int32} {gm gm2 : Nat → Nat → Int32} {q : Nat} {w : Int} (h : LWD sg gm q w) (h1 : gm2 41 q = gm 41 q) (h2 : ∀ j, j < 128 → gm2 57 (128 * q + j) = gm 57 (128 * q + j)) (h14 : gm2 14 = gm 14) (h41 : (gm 41 q).toInt ≤ 80) : LWD sg gm2 q w := fun j hj => by
  have k2 : (gm 41 q).toNatClampNeg = (gm 41 q).toInt.toNat := rfl
  rw [h1] at hj
  rw [h14, h2 j (by omega)]
  exact h j hj
theorem LDL_s {gm gm2 : Nat → Nat → Int32} {q : Nat} (h : LDL q gm) (h1 : gm2 41 q = gm 41 q) (h2 : ∀ j, j < 128 → gm2 57 (128 * q + j) = gm 57 (128 * q + j)) (h22 : gm2 22 = gm 22) (h41 : (gm 41 q).toInt ≤ 80) : LDL q gm2 := fun i j hij hj => by
  have k2 : (gm 41 q).toNatClampNeg = (gm 41 q).toInt.toNat := rfl
  rw [h1] at hj
  rw [h22, h2 j (by omega), h2 i (by omega)]
  exact h i j hij hj
theorem LWD_in {sg : Nat → Int32} {gm gm2 : Nat → Nat → Int32} {q : Nat} {w : Int} {nm : Int32} (h : LWD sg gm q w) (hN : LIN q nm gm gm2) (h14 : gm2 14 = gm 14) (hw : (gm 14 nm.toNatClampNeg).toInt = w) (h4 : nm.toInt < (sg 4).toInt) : LWD sg gm2 q w := fun j hj => by
  rw [h14]
  rcases hN j hj with e | ⟨i, hi, e⟩
  · rw [e]; exact ⟨hw, h4⟩
  · rw [e]; exact h i hi
theorem sz80 {sg : Nat → Int32} {gm : Nat → Nat → Int32} {q : Nat} (hI : CI sg gm) (hq : q < 240) : (gm 41 q).toInt ≤ 80 := (show iv 0 80 (gm 41 q) from CI_n hI 41 hq).2
theorem BLI_0 {sg : Nat → Int32} {gm gm2 : Nat → Nat → Int32} {b : Nat} (hI : CI sg gm) (hb : b < 80) (h : BLI sg gm b) (hs : LSM (3 * b + 0) gm gm2) (h14 : gm2 14 = gm 14) (h22 : gm2 22 = gm 22) (hw : LWD sg gm2 (3 * b + 0) 3) : BLI sg gm2 b :=
  ⟨hw, LWD_s h.2.1 (hs _ (by omega)).1 (hs _ (by omega)).2 h14 (sz80 hI (by omega)), LDL_s h.2.2.1 (hs _ (by omega)).1 (hs _ (by omega)).2 h22 (sz80 hI (by omega)), LDL_s h.2.2.2 (hs _ (by omega)).1 (hs _ (by omega)).2 h22 (sz80 hI (by omega))⟩
theorem BLI_1 {lx : List Nat} {sg : Nat → Int32} {gm gm2 : Nat → Nat → Int32} {b : Nat} {nm : Int32} (hI : CI sg gm) (hb : b < 80) (h : BLI sg gm b) (hp : PNP lx (3 * b + 1) nm gm gm2) (h14 : gm2 14 = gm 14) (h22 : gm2 22 = gm 22) (hw : (gm 14 nm.toNatClampNeg).toInt = 4) (h4 : nm.toInt < (sg 4).toInt) : BLI sg gm2 b := by
  obtain ⟨-, h1, hs, hN⟩ := hp
  exact ⟨LWD_s h.1 (hs _ (by omega)).1 (hs _ (by omega)).2 h14 (sz80 hI (by omega)), LWD_in h.2.1 hN h14 hw h4, h1, LDL_s h.2.2.2 (hs _ (by omega)).1 (hs _ (by omega)).2 h22 (sz80 hI (by omega))⟩
theorem BLI_2 {lx : List Nat} {sg : Nat → Int32} {gm gm2 : Nat → Nat → Int32} {b : Nat} {nm : Int32} (hI : CI sg gm) (hb : b < 80) (h : BLI sg gm b) (hp : PNP lx (3 * b + 2) nm gm gm2) (h14 : gm2 14 = gm 14) (h22 : gm2 22 = gm 22) : BLI sg gm2 b := by
  obtain ⟨-, h1, hs, hN⟩ := hp
  exact ⟨LWD_s h.1 (hs _ (by omega)).1 (hs _ (by omega)).2 h14 (sz80 hI (by omega)), LWD_s h.2.1 (hs _ (by omega)).1 (hs _ (by omega)).2 h14 (sz80 hI (by omega)), LDL_s h.2.2.1 (hs _ (by omega)).1 (hs _ (by omega)).2 h22 (sz80 hI (by omega)), h1⟩
theorem LSM_clr {gm gm2 : Nat → Nat → Int32} {q : Nat} (f41 : gm2 41 = upd (gm 41) q 0) (f57 : ∀ q2, q2 ≠ q → ∀ j9, j9 < 128 → gm2 57 (128 * q2 + j9) = gm 57 (128 * q2 + j9)) : LSM q gm gm2 := fun q2 h2 => ⟨by rw [f41, upd_ne h2], f57 q2 h2⟩
theorem LWD_0 {sg : Nat → Int32} {gm : Nat → Nat → Int32} {q : Nat} {w : Int} (h : gm 41 q = 0) : LWD sg gm q w := fun j hj => by rw [h] at hj; exact absurd hj (Nat.not_lt_zero _)
theorem BLI_e {sg sg2 : Nat → Int32} {gm gm2 : Nat → Nat → Int32} {b : Nat} (h : BLI sg gm b) (h4 : sg2 4 = sg 4) (h14 : gm2 14 = gm 14) (h22 : gm2 22 = gm 22) (h41 : gm2 41 = gm 41) (h57 : gm2 57 = gm 57) : BLI sg2 gm2 b := by
  unfold BLI LWD LDL at *; rw [h4, h14, h22, h41, h57]; exact h
theorem LK_e2 {sg sg2 : Nat → Int32} {gm gm2 : Nat → Nat → Int32} (h : LK sg gm) (h4 : sg2 4 = sg 4) (h15 : gm2 15 = gm 15) (h16 : gm2 16 = gm 16) (h17 : gm2 17 = gm 17) : LK sg2 gm2 := by
  unfold LK at *; rw [h4, h15, h16, h17]; exact h
end
section

theorem SOK_e {gm gm2 : Nat → Nat → Int32} {lg lg2 : Nat → Nat → Int64} {j : Nat} (h : SOK gm lg j) (h14 : gm2 14 = gm 14) (h15 : gm2 15 = gm 15) (h19 : gm2 19 = gm 19) (h20 : gm2 20 = gm 20) (h44 : gm2 44 = gm 44) (h45 : gm2 45 = gm 45) (h46 : gm2 46 = gm 46) (h0 : lg2 0 = lg 0) : SOK gm2 lg2 j := by
  unfold SOK HOK LVP FND ISI HSK at *; rw [h14, h15, h19, h20, h44, h45, h46, h0]; exact h
/-- an element that is settled -/
def STL (sg : Nat → Int32) (gm : Nat → Nat → Int32) (lg : Nat → Nat → Int64) (o : Nat) : Prop :=
  0 ≤ (gm 25 o).toInt ∧ (¬ (gm 14 o).toInt = 3 → ¬ (gm 14 o).toInt = 4 → gm 25 o = gm 14 o) ∧
  ((gm 14 o).toInt = 3 ∨ (gm 14 o).toInt = 4 → (0 ≤ (gm 16 o).toInt ∧ gm 26 o = gm 16 o) ∨ ((gm 26 o).toInt = (o : Int) ∧ ((gm 25 o).toInt = 7 ∨ (gm 25 o).toInt = 8))) ∧
  ((gm 14 o).toInt = 4 → 0 ≤ (gm 22 o).toInt) ∧
  ((gm 27 o).toInt = -1 ∨ ((gm 14 o).toInt = 2 ∧ (gm 27 o).toInt < (sg 12).toInt ∧ (lg 4 (gm 27 o).toNatClampNeg = 0 ∨ HSK gm lg o (wKy.getD 10 0))))
/-- what settling an element leaves of the others -/
def SFR (gm gm2 : Nat → Nat → Int32) (o : Nat) : Prop := ∀ j, j ≠ o → gm2 25 j = gm 25 j ∧ gm2 26 j = gm 26 j ∧ gm2 22 j = gm 22 j ∧ gm2 27 j = gm 27 j
/-- no bean begins, or the next one -/
def BBG (sg sg2 : Nat → Int32) (gm gm2 : Nat → Nat → Int32) (lg lg2 : Nat → Nat → Int64) (o : Int32) : Prop :=
  (sg2 12 = sg 12 ∧ gm2 29 = gm 29 ∧ gm2 37 = gm 37 ∧ gm2 38 = gm 38 ∧ gm2 41 = gm 41 ∧ lg2 4 = lg 4) ∨
  ((sg2 12).toInt = (sg 12).toInt + 1 ∧ gm2 29 = upd (gm 29) (sg 12).toNatClampNeg o ∧ gm2 37 = upd (gm 37) (sg 12).toNatClampNeg 0 ∧ gm2 38 = upd (gm 38) (sg 12).toNatClampNeg 0 ∧ gm2 41 = upd (upd (upd (gm 41) (3 * (sg 12).toNatClampNeg + 0) 0) (3 * (sg 12).toNatClampNeg + 1) 0) (3 * (sg 12).toNatClampNeg + 2) 0 ∧ ∃ id9 : Int64, lg2 4 = vp_updL (lg 4) (sg 12).toNatClampNeg id9)
theorem BBG_0 {sg sg2 : Nat → Int32} {gm gm2 : Nat → Nat → Int32} {lg lg2 : Nat → Nat → Int64} {o : Int32} (h12 : sg2 12 = sg 12) (h29 : gm2 29 = gm 29) (h37 : gm2 37 = gm 37) (h38 : gm2 38 = gm 38) (h41 : gm2 41 = gm 41) (h4 : lg2 4 = lg 4) : BBG sg sg2 gm gm2 lg lg2 o := Or.inl ⟨h12, h29, h37, h38, h41, h4⟩
/-- neither arg nor set nor bean -/
theorem STL_k {sg2 : Nat → Int32} {gm gm2 : Nat → Nat → Int32} {lg lg2 : Nat → Nat → Int64} {o : Nat} (hw : SOK gm lg o) (hb : gm 27 o = -1) (h14 : gm2 14 = gm 14) (h25 : gm2 25 = upd (gm 25) o (gm 14 o)) (h27 : gm2 27 = gm 27) (n3 : ¬ (gm 14 o).toInt = 3) (n4 : ¬ (gm 14 o).toInt = 4) : STL sg2 gm2 lg2 o := by
  unfold STL
  rw [h14, h25, h27, upd_at, hb]
  exact ⟨hw.1, fun _ _ => rfl, fun q => by omega, fun q => absurd q n4, Or.inl (by decide)⟩
theorem SFR_k {gm gm2 : Nat → Nat → Int32} {o : Nat} {w : Int32} (h25 : gm2 25 = upd (gm 25) o w) (h26 : gm2 26 = gm 26) (h22 : gm2 22 = gm 22) (h27 : gm2 27 = gm 27) : SFR gm gm2 o := fun j hj => by
  rw [h25, h26, h22, h27, upd_ne hj]; exact ⟨rfl, rfl, rfl, rfl⟩
theorem SFR_l {gm gm2 : Nat → Nat → Int32} {o : Nat} {w l : Int32} (h25 : gm2 25 = upd (gm 25) o w) (h26 : gm2 26 = gm 26) (h22 : gm2 22 = upd (gm 22) o l) (h27 : gm2 27 = gm 27) : SFR gm gm2 o := fun j hj => by
  rw [h25, h26, h22, h27, upd_ne hj, upd_ne hj]; exact ⟨rfl, rfl, rfl, rfl⟩
theorem SFR_b {gm gm2 : Nat → Nat → Int32} {o : Nat} {w l : Int32} (h25 : gm2 25 = upd (gm 25) o w) (h26 : gm2 26 = gm 26) (h22 : gm2 22 = gm 22) (h27 : gm2 27 = upd (gm 27) o l) : SFR gm gm2 o := fun j hj => by
  rw [h25, h26, h22, h27, upd_ne hj, upd_ne hj]; exact ⟨rfl, rfl, rfl, rfl⟩
/-- arg and set -/
theorem STL_a {sg2 : Nat → Int32} {gm gm1 gm2 : Nat → Nat → Int32} {lg lg2 : Nat → Nat → Int64} {o : Int32} (ho : 0 ≤ o.toInt) (hw : SOK gm lg o.toNatClampNeg) (hb : gm 27 o.toNatClampNeg = -1) (h14 : gm2 14 = gm 14) (h16 : gm2 16 = gm 16) (h25 : gm1 25 = upd (gm 25) o.toNatClampNeg (gm 14 o.toNatClampNeg)) (h26 : gm1 26 = gm 26) (h16b : gm1 16 = gm 16) (h27 : gm2 27 = gm 27)
    (hC : ∃ c9 : Int32, gm2 26 = upd (gm1 26) o.toNatClampNeg c9 ∧ ((0 ≤ (gm1 16 o.toNatClampNeg).toInt ∧ c9 = gm1 16 o.toNatClampNeg) ∨ ((gm1 16 o.toNatClampNeg).toInt < 0 ∧ c9 = o)))
    (hK : (0 ≤ (gm1 16 o.toNatClampNeg).toInt ∧ gm2 25 = gm1 25) ∨ ((gm1 16 o.toNatClampNeg).toInt < 0 ∧ (gm2 25 = upd (gm1 25) o.toNatClampNeg 7 ∨ gm2 25 = upd (gm1 25) o.toNatClampNeg 8)))
    (h34 : (gm 14 o.toNatClampNeg).toInt = 3 ∨ (gm 14 o.toNatClampNeg).toInt = 4) (h4 : (gm 14 o.toNatClampNeg).toInt = 4 → 0 ≤ (gm2 22 o.toNatClampNeg).toInt) : STL sg2 gm2 lg2 o.toNatClampNeg := by
  have e7 : (7 : Int32).toInt = 7 := by decide
  have e8 : (8 : Int32).toInt = 8 := by decide
  obtain ⟨c9, e26, hc⟩ := hC
  rw [h16b] at hc hK
  have k1 := cl_0 ho
  have hw0 := hw.1
  unfold STL
  rw [h14, h16, h27, e26, upd_at, hb]
  refine ⟨?_, fun q1 q2 => by omega, fun _ => ?_, h4, Or.inl (by decide)⟩
  · rcases hK with ⟨-, q⟩ | ⟨-, q | q⟩
    · rw [q, h25, upd_at]; exact hw0
    · rw [q, upd_at, e7]; decide
    · rw [q, upd_at, e8]; decide
  · rcases hc with ⟨q1, q2⟩ | ⟨q1, q2⟩
    · exact Or.inl ⟨q1, q2⟩
    · refine Or.inr ⟨by rw [q2]; omega, ?_⟩
      rcases hK with ⟨q3, -⟩ | ⟨-, q | q⟩
      · omega
      · rw [q, upd_at]; exact Or.inl e7
      · rw [q, upd_at]; exact Or.inr e8
theorem SFR_a {gm gm1 gm2 : Nat → Nat → Int32} {o : Int32} {w : Int32} (h25 : gm1 25 = upd (gm 25) o.toNatClampNeg w) (h26 : gm1 26 = gm 26) (h27 : gm2 27 = gm 27)
    (hC : ∃ c9 : Int32, gm2 26 = upd (gm1 26) o.toNatClampNeg c9 ∧ ((0 ≤ (gm1 16 o.toNatClampNeg).toInt ∧ c9 = gm1 16 o.toNatClampNeg) ∨ ((gm1 16 o.toNatClampNeg).toInt < 0 ∧ c9 = o)))
    (hK : (0 ≤ (gm1 16 o.toNatClampNeg).toInt ∧ gm2 25 = gm1 25) ∨ ((gm1 16 o.toNatClampNeg).toInt < 0 ∧ (gm2 25 = upd (gm1 25) o.toNatClampNeg 7 ∨ gm2 25 = upd (gm1 25) o.toNatClampNeg 8)))
    (h22 : gm2 22 = gm 22 ∨ ∃ l9, gm2 22 = upd (gm 22) o.toNatClampNeg l9) : SFR gm gm2 o.toNatClampNeg := fun j hj => by
  obtain ⟨c9, e26, -⟩ := hC
  refine ⟨?_, by rw [e26, upd_ne hj, h26], ?_, by rw [h27]⟩
  · rcases hK with ⟨-, q⟩ | ⟨-, q | q⟩
    · rw [q, h25, upd_ne hj]
    · rw [q, upd_ne hj, h25, upd_ne hj]
    · rw [q, upd_ne hj, h25, upd_ne hj]
  · rcases h22 with q | ⟨l9, q⟩
    · rw [q]
    · rw [q, upd_ne hj]
/-- a bean -/
theorem STL_b {sg2 : Nat → Int32} {gm gm1 gm2 : Nat → Nat → Int32} {lg lg1 lg2 : Nat → Nat → Int64} {o : Nat} {c : Int32} (hw : SOK gm lg o) (h14 : gm2 14 = gm 14) (h19 : gm2 19 = gm 19) (h20 : gm2 20 = gm 20) (h25 : gm2 25 = upd (gm 25) o (gm 14 o)) (h27 : gm2 27 = upd (gm 27) o c) (hc0 : 0 ≤ c.toInt) (h2 : (gm 14 o).toInt = 2) (hc : c.toInt < (sg2 12).toInt) (hl0 : lg2 0 = lg 0)
    (hid : ∃ id9 : Int64, lg2 4 = vp_updL (lg1 4) c.toNatClampNeg id9 ∧ (id9 = 0 ∨ HSK gm1 lg1 o (wKy.getD 10 0))) (h19b : gm1 19 = gm 19) (h20b : gm1 20 = gm 20) (hl0b : lg1 0 = lg 0) : STL sg2 gm2 lg2 o := by
  obtain ⟨id9, e4, hd⟩ := hid
  unfold STL
  rw [h14, h25, h27, upd_at, upd_at]
  refine ⟨hw.1, fun _ _ => rfl, fun q => by omega, fun q => by omega, Or.inr ⟨h2, hc, ?_⟩⟩
  rw [e4, pk_uLs]
  rcases hd with q | q
  · exact Or.inl q
  · exact Or.inr (HSK_e q (h19.trans h19b.symm) (h20.trans h20b.symm) (hl0.trans hl0b.symm))
theorem BBG_1 {sg sg2 : Nat → Int32} {gm gm1 gm2 : Nat → Nat → Int32} {lg lg1 lg2 : Nat → Nat → Int64} {o : Int32} (h12 : (sg2 12).toInt = (sg 12).toInt + 1) (e29 : gm1 29 = gm 29) (e37 : gm1 37 = gm 37) (e38 : gm1 38 = gm 38) (e41 : gm1 41 = gm 41) (e4 : lg1 4 = lg 4) (fE : gm2 29 = upd (gm1 29) (sg 12).toNatClampNeg o) (f37 : gm2 37 = upd (gm1 37) (sg 12).toNatClampNeg 0) (f38 : gm2 38 = upd (gm1 38) (sg 12).toNatClampNeg 0) (fS : gm2 41 = upd (upd (upd (gm1 41) (3 * (sg 12).toNatClampNeg + 0) 0) (3 * (sg 12).toNatClampNeg + 1) 0) (3 * (sg 12).toNatClampNeg + 2) 0) {P : Int64 → Prop} (fI : ∃ id9 : Int64, lg2 4 = vp_updL (lg1 4) (sg 12).toNatClampNeg id9 ∧ P id9) : BBG sg sg2 gm gm2 lg lg2 o := by
  obtain ⟨id9, e9, -⟩ := fI
  rw [e29] at fE; rw [e37] at f37; rw [e38] at f38; rw [e41] at fS; rw [e4] at e9
  exact Or.inr ⟨h12, fE, f37, f38, fS, id9, e9⟩
/-- the beans that have begun -/
def BGN (sg : Nat → Int32) (gm : Nat → Nat → Int32) : Prop := ∀ c, c < (sg 12).toNatClampNeg → (0 ≤ (gm 29 c).toInt ∧ (gm 29 c).toInt < (sg 4).toInt) ∧ (gm 37 c = 0 ∧ gm 38 c = 0) ∧ gm 41 (3 * c + 0) = 0 ∧ gm 41 (3 * c + 1) = 0 ∧ gm 41 (3 * c + 2) = 0
theorem BGN_s {sg sg2 : Nat → Int32} {gm gm2 : Nat → Nat → Int32} {lg lg2 : Nat → Nat → Int64} {o : Int32} (h : BGN sg gm) (hb : BBG sg sg2 gm gm2 lg lg2 o) (h0 : 0 ≤ (sg 12).toInt) (h4 : sg2 4 = sg 4) (ho : 0 ≤ o.toInt ∧ o.toInt < (sg 4).toInt) : BGN sg2 gm2 := fun c hc => by
  rcases hb with ⟨e12, e29, e37, e38, e41, -⟩ | ⟨e12, e29, e37, e38, e41, -⟩
  · rw [e12] at hc; rw [e29, e37, e38, e41, h4]; exact h c hc
  · have k1 := cl_0 h0
    have k2 := cl_0 (x := sg2 12) (by omega)
    rw [e29, e37, e38, e41, h4]
    by_cases e9 : c = (sg 12).toNatClampNeg
    · subst e9
      rw [upd_at, upd_at, upd_at, upd_at]
      refine ⟨ho, ⟨rfl, rfl⟩, ?_, ?_, rfl⟩
      · rw [upd_ne (by omega), upd_ne (by omega), upd_at]
      · rw [upd_ne (by omega), upd_at]
    · obtain ⟨a1, a2, a3, a4, a5⟩ := h c (by omega)
      rw [upd_ne e9, upd_ne e9, upd_ne e9]
      refine ⟨a1, a2, ?_, ?_, ?_⟩
      · rw [upd_ne (by omega), upd_ne (by omega), upd_ne (by omega)]; exact a3
      · rw [upd_ne (by omega), upd_ne (by omega), upd_ne (by omega)]; exact a4
      · rw [upd_ne (by omega), upd_ne (by omega), upd_ne (by omega)]; exact a5
theorem STL_s {sg sg2 : Nat → Int32} {gm gm2 : Nat → Nat → Int32} {lg lg2 : Nat → Nat → Int64} {o : Int32} {j : Nat} (h : STL sg gm lg j) (hI : CI sg gm) (hj8 : j < 80) (hj : j ≠ o.toNatClampNeg) (hf : SFR gm gm2 o.toNatClampNeg) (hb : BBG sg sg2 gm gm2 lg lg2 o) (h0 : 0 ≤ (sg 12).toInt) (h14 : gm2 14 = gm 14) (h16 : gm2 16 = gm 16) (h19 : gm2 19 = gm 19) (h20 : gm2 20 = gm 20) (hl0 : lg2 0 = lg 0) : STL sg2 gm2 lg2 j := by
  obtain ⟨a1, a2, a3, a4, a5⟩ := h
  obtain ⟨e25, e26, e22, e27⟩ := hf j hj
  unfold STL
  rw [h14, h16, e25, e26, e22, e27]
  refine ⟨a1, a2, a3, a4, ?_⟩
  have i27 := (show iv (-1) 79 (gm 27 j) from CI_n hI 27 hj8)
  rcases a5 with q | ⟨q1, q2, q3⟩
  · exact Or.inl q
  · by_cases hm : (gm 27 j).toInt = -1
    · exact Or.inl hm
    have k1 := cl_0 h0
    have hn0 := i27.1
    have k2 := cl_0 (x := gm 27 j) (by omega)
    refine Or.inr ⟨q1, ?_, q3.imp (fun q => ?_) (fun q => HSK_e q h19 h20 hl0)⟩
    · rcases hb with ⟨e12, -⟩ | ⟨e12, -⟩
      · rw [e12]; exact q2
      · omega
    · rcases hb with ⟨-, -, -, -, -, e4⟩ | ⟨-, -, -, -, -, id9, e4⟩
      · rw [e4]; exact q
      · rw [e4, pk_uLn (by omega)]; exact q
theorem STL_e {sg sg2 : Nat → Int32} {gm gm2 : Nat → Nat → Int32} {lg lg2 : Nat → Nat → Int64} {j : Nat} (h : STL sg gm lg j) (h12 : sg2 12 = sg 12) (h14 : gm2 14 = gm 14) (h16 : gm2 16 = gm 16) (h19 : gm2 19 = gm 19) (h20 : gm2 20 = gm 20) (h22 : gm2 22 = gm 22) (h25 : gm2 25 = gm 25) (h26 : gm2 26 = gm 26) (h27 : gm2 27 = gm 27) (hl0 : lg2 0 = lg 0) (hl4 : lg2 4 = lg 4) : STL sg2 gm2 lg2 j := by
  unfold STL HSK at *; rw [h12, h14, h16, h19, h20, h22, h25, h26, h27, hl0, hl4]; exact h
theorem BLI_z {sg : Nat → Int32} {gm : Nat → Nat → Int32} {b : Nat} (h0 : gm 41 (3 * b + 0) = 0) (h1 : gm 41 (3 * b + 1) = 0) (h2 : gm 41 (3 * b + 2) = 0) : BLI sg gm b :=
  ⟨LWD_0 h0, LWD_0 h1, fun i j _ hj => by rw [h1] at hj; exact absurd hj (Nat.not_lt_zero _), fun i j _ hj => by rw [h2] at hj; exact absurd hj (Nat.not_lt_zero _)⟩
theorem BLI_o {sg : Nat → Int32} {gm gm2 : Nat → Nat → Int32} {b c : Nat} (hI : CI sg gm) (hc : c < 80) (h : BLI sg gm c) (hov : OVS b gm gm2) (hne : c ≠ b) (h14 : gm2 14 = gm 14) (h22 : gm2 22 = gm 22) : BLI sg gm2 c := by
  have s0 := hov (3 * c + 0) (by omega) (by omega) (by omega)
  have s1 := hov (3 * c + 1) (by omega) (by omega) (by omega)
  have s2 := hov (3 * c + 2) (by omega) (by omega) (by omega)
  exact ⟨LWD_s h.1 s0.1 s0.2 h14 (sz80 hI (by omega)), LWD_s h.2.1 s1.1 s1.2 h14 (sz80 hI (by omega)), LDL_s h.2.2.1 s1.1 s1.2 h22 (sz80 hI (by omega)), LDL_s h.2.2.2 s2.1 s2.2 h22 (sz80 hI (by omega))⟩
theorem OVS_e {b : Nat} {gm gm1 gm2 : Nat → Nat → Int32} (h : OVS b gm1 gm2) (h41 : gm1 41 = gm 41) (h57 : gm1 57 = gm 57) : OVS b gm gm2 := by
  unfold OVS at *; rw [← h41, ← h57]; exact h
theorem OVS_t {b : Nat} {gm gm1 gm2 : Nat → Nat → Int32} (h : OVS b gm gm1) (h2 : OVS b gm1 gm2) : OVS b gm gm2 := fun q2 a1 a2 a3 => ⟨(h2 q2 a1 a2 a3).1.trans (h q2 a1 a2 a3).1, fun j hj => ((h2 q2 a1 a2 a3).2 j hj).trans ((h q2 a1 a2 a3).2 j hj)⟩
/-- the elements of the beans -/
def BEE (sg : Nat → Int32) (gm : Nat → Nat → Int32) : Prop := ∀ c, c < (sg 12).toNatClampNeg → 0 ≤ (gm 29 c).toInt ∧ (gm 29 c).toInt < (sg 4).toInt
theorem BEE_e {sg sg2 : Nat → Int32} {gm gm2 : Nat → Nat → Int32} (h : BEE sg gm) (h4 : sg2 4 = sg 4) (h12 : sg2 12 = sg 12) (h29 : gm2 29 = gm 29) : BEE sg2 gm2 := by
  unfold BEE at *; rw [h4, h12, h29]; exact h
/-- a document that is wired -/
def WRD (sg : Nat → Int32) (gm : Nat → Nat → Int32) (lg : Nat → Nat → Int64) : Prop := LK sg gm ∧ (∀ j, j < (sg 4).toNatClampNeg → STL sg gm lg j ∧ SOK gm lg j) ∧ BEE sg gm ∧ ∀ c, c < (sg 12).toNatClampNeg → BLI sg gm c
end
section

theorem OVS_k {b : Nat} {gm gm2 : Nat → Nat → Int32} (h41 : gm2 41 = gm 41) (h57 : gm2 57 = gm 57) : OVS b gm gm2 := fun q2 _ _ _ => ⟨by rw [h41], fun j _ => by rw [h57]⟩
end
section
theorem cF_d {f : Nat → Int32} (j : Nat) : ∀ k, j ≤ k → cF f k ≤ cF f j + (k - j) := by
  intro k
  induction k with
  | zero => intro h; have h0 : j = 0 := by omega
            subst h0; exact Nat.le_refl _
  | succ k ih =>
    intro h
    by_cases hj : j = k + 1
    · subst hj; omega
    · have h1 := ih (by omega)
      by_cases q : f k = -1
      · rw [cF_s0 q]; omega
      · rw [cF_s1 q]; omega
/-- the places: free, or one of the first n that holds one of the n -/
def SP3 (f : Nat → Int32) (n : Nat) : Prop := ∀ q, q < 3 → f q = -1 ∨ (q < n ∧ 0 ≤ (f q).toInt ∧ (f q).toInt < (n : Int))
theorem SP3_0 {f : Nat → Int32} {n : Nat} (h : ∀ q, q < 3 → f q = -1) : SP3 f n ∧ cF f 3 = 0 := ⟨fun q hq => Or.inl (h q hq), cF_0 3 (fun q _ hq => h q hq)⟩
theorem SP3_u {f f2 : Nat → Int32} {n i : Nat} {v : Int32} (h : SP3 f n) (h2 : f2 = upd f i v) (hi : i < n) (v0 : 0 ≤ v.toInt) (v1 : v.toInt < (n : Int)) : SP3 f2 n := by
  intro q hq
  by_cases e9 : q = i
  · subst e9; rw [h2, upd_at]; exact Or.inr ⟨hi, v0, v1⟩
  · rw [h2, upd_ne e9]; exact h q hq
theorem SP3_full {f : Nat → Int32} {n : Nat} (hn : n ≤ 3) (h : SP3 f n) (hc : cF f 3 = n) : SPF f n := by
  have h1 : ∀ k, n ≤ k → k ≤ 3 → cF f k = cF f n := by
    intro k
    induction k with
    | zero => intro q _; have h0 : n = 0 := by omega
              subst h0; rfl
    | succ k ih =>
      intro q1 q2
      by_cases e9 : n = k + 1
      · rw [e9]
      · have h2 := ih (by omega) (by omega)
        rcases h k (by omega) with q | q
        · rw [cF_s0 q]; exact h2
        · omega
  have h3 := h1 3 hn (Nat.le_refl 3)
  intro q hq
  have h4 := cF_all n (h3.symm.trans hc) q hq
  rcases h q (by omega) with q5 | q5
  · exact absurd q5 h4
  · exact q5.2
/-- the place that an arg asks for -/
def atF (gm : Nat → Nat → Int32) (q : Nat) (j : Nat) : Int32 := gm 23 (gm 57 (128 * q + j)).toNatClampNeg
theorem ne_m1 {v : Int32} (h : ¬ v.toInt = -1) : ¬ v = -1 := fun q => h (by rw [q]; decide)
theorem eq_m1 {v : Int32} (h : v.toInt = -1) : v = -1 := Int32.toInt_inj.mp (by rw [h]; decide)
/-- the place for an arg that asks for none: free, and one of the first n -/
theorem free_pl {f g : Nat → Int32} {n i p9 : Nat} (hn : n ≤ 3) (hi : i < n) (hg : g i = -1) (hc : cF f 3 = cF g n + (i - cF g i)) (hp : ∀ q, q < p9 → ¬ f q = -1) (hp3 : p9 < 3) (h2 : p9 = 2 ∨ f p9 = -1) : f p9 = -1 ∧ p9 < n := by
  have h1 := cF_d (f := g) (i + 1) n (by omega)
  rw [cF_s0 hg] at h1
  have h0 := cF_le g i
  have hlt : cF f 3 < n := by omega
  have hge := cF_ge (f := f) (p9 := p9) (fun q _ hq => hp q hq) 3 (by omega)
  refine ⟨?_, by omega⟩
  rcases h2 with q | q
  · by_cases e9 : f p9 = -1
    · exact e9
    · exfalso
      have := cF_ge (f := f) (p9 := 3) (fun q2 _ hq2 => by
        by_cases e8 : q2 = p9
        · rw [e8]; exact e9
        · exact hp q2 (by omega)) 3 (Nat.le_refl _)
      omega
  · exact q
end
section
/-- an element that an arg or a set holds: what it is, and that its bean has no id -/
def BOK (sg : Nat → Int32) (gm : Nat → Nat → Int32) (lg : Nat → Nat → Int64) (o : Nat) : Prop := 0 ≤ (gm 27 o).toInt → (gm 27 o).toInt < (sg 12).toInt ∧ lg 4 (gm 27 o).toNatClampNeg = 0
def CTO (sg : Nat → Int32) (gm : Nat → Nat → Int32) (lg : Nat → Nat → Int64) (o : Int32) : Prop := 0 ≤ o.toInt ∧ o.toInt < (sg 4).toInt ∧ ((gm 25 o.toNatClampNeg).toInt = 2 ∨ (6 ≤ (gm 25 o.toNatClampNeg).toInt ∧ (gm 25 o.toNatClampNeg).toInt ≤ 9)) ∧ ((gm 25 o.toNatClampNeg).toInt = 6 → (gm 14 o.toNatClampNeg).toInt = 6) ∧ BOK sg gm lg o.toNatClampNeg
theorem BOK_in {sg : Nat → Int32} {gm : Nat → Nat → Int32} {lg : Nat → Nat → Int64} {o : Nat} (h : STL sg gm lg o) (hs : SOK gm lg o) (hn : ¬ ISI gm o 0) : BOK sg gm lg o := fun h0 => by
  obtain ⟨-, -, -, -, h5⟩ := h
  rcases h5 with q | ⟨q1, q2, q3⟩
  · omega
  · exact ⟨q2, q3.resolve_right (hs.2.2.2 q1 hn)⟩
theorem isi_no {gm : Nat → Nat → Int32} {o : Nat} {w : Int} (hw : 0 ≤ (gm 15 o).toInt → (gm 14 (gm 15 o).toNatClampNeg).toInt = w) (h0 : ¬ w = 0) : ¬ ISI gm o 0 := fun q => by
  have h1 := hw q.1
  rw [q.2] at h1
  exact h0 (by rw [← h1]; decide)
/-- what an arg or a set holds is such an element -/
theorem CTO_h {sg : Nat → Int32} {gm : Nat → Nat → Int32} {lg : Nat → Nat → Int64} {h : Int32} (hI : CI sg gm) (hW : WRD sg gm lg) (h0 : 0 ≤ h.toInt) (h4 : h.toInt < (sg 4).toInt) (hw : (gm 14 h.toNatClampNeg).toInt = 3 ∨ (gm 14 h.toNatClampNeg).toInt = 4) : CTO sg gm lg (gm 26 h.toNatClampNeg) := by
  obtain ⟨hLK, hST, -, -⟩ := hW
  have i4 := (show iv 0 80 (sg 4) from CI_s hI 4)
  have i4a := i4.1
  have i4b := i4.2
  have k1 := cl_0 h0
  have k4 : (sg 4).toNatClampNeg = (sg 4).toInt.toNat := rfl
  obtain ⟨hs, -⟩ := hST h.toNatClampNeg (by omega)
  obtain ⟨s1, s2, s3, s4, s5⟩ := hs
  rcases s3 hw with ⟨q1, q2⟩ | ⟨q1, q2⟩
  · obtain ⟨l1, l2, l3, l4, l5⟩ := hLK h.toNatClampNeg (by omega)
    rw [q2]
    have kc := cl_0 q1
    have hout := l4 q1
    obtain ⟨t1, t2⟩ := hST (gm 16 h.toNatClampNeg).toNatClampNeg (by omega)
    have hw2 : (gm 14 (gm 15 (gm 16 h.toNatClampNeg).toNatClampNeg).toNatClampNeg) = gm 14 h.toNatClampNeg := by
      rw [show (gm 15 (gm 16 h.toNatClampNeg).toNatClampNeg).toNatClampNeg = h.toNatClampNeg from by
        have : (gm 15 (gm 16 h.toNatClampNeg).toNatClampNeg).toNatClampNeg = (gm 15 (gm 16 h.toNatClampNeg).toNatClampNeg).toInt.toNat := rfl
        omega]
    have hh := t2.2.1 (by omega) (by rw [hw2]; exact hw)
    have hk := t1.2.1 (by omega) (by omega)
    refine ⟨q1, l2, by rw [hk]; exact hh, fun q => by rw [hk] at q; exact q, BOK_in t1 t2 ?_⟩
    rcases hw with q | q
    · exact isi_no (w := 3) (fun _ => by rw [hw2]; exact q) (by decide)
    · exact isi_no (w := 4) (fun _ => by rw [hw2]; exact q) (by decide)
  · have e1 : gm 26 h.toNatClampNeg = h := Int32.toInt_inj.mp (by omega)
    rw [e1]
    refine ⟨h0, h4, by omega, fun q => by omega, fun q => ?_⟩
    rcases s5 with q5 | ⟨q5, -⟩
    · omega
    · omega
theorem CTO_k {sg sg2 : Nat → Int32} {gm gm2 : Nat → Nat → Int32} {lg lg2 : Nat → Nat → Int64} {o : Int32} (h : CTO sg gm lg o) (h4 : sg2 4 = sg 4) (h12 : sg2 12 = sg 12) (h14 : gm2 14 = gm 14) (h25 : gm2 25 = gm 25) (h27 : gm2 27 = gm 27) (hl : lg2 4 = lg 4) : CTO sg2 gm2 lg2 o := by
  unfold CTO BOK at *; rw [h4, h12, h14, h25, h27, hl]; exact h
/-- the items of a list -/
theorem BOK_it {sg : Nat → Int32} {gm : Nat → Nat → Int32} {lg : Nat → Nat → Int64} {o it : Int32} (hI : CI sg gm) (hW : WRD sg gm lg) (ho : 0 ≤ o.toInt) (h6 : (gm 14 o.toNatClampNeg).toInt = 6) (h0 : 0 ≤ it.toInt) (h4 : it.toInt < (sg 4).toInt) (hout : (gm 15 it.toNatClampNeg).toInt = o.toInt) : BOK sg gm lg it.toNatClampNeg := by
  obtain ⟨hLK, hST, -, -⟩ := hW
  have k1 := cl_0 h0
  have k4 : (sg 4).toNatClampNeg = (sg 4).toInt.toNat := rfl
  obtain ⟨t1, t2⟩ := hST it.toNatClampNeg (by omega)
  refine BOK_in t1 t2 (isi_no (w := 6) (fun _ => ?_) (by decide))
  rw [show gm 15 it.toNatClampNeg = o from Int32.toInt_inj.mp hout]
  exact h6
/-- the args' worth is worked out -/
def WKD (gm : Nat → Nat → Int32) (q d n : Nat) : Prop := ∀ j, j < n → j < (gm 41 q).toNatClampNeg → (gm 25 (gm 26 (gm 57 (128 * q + j)).toNatClampNeg).toNatClampNeg).toInt = 6 ∨ (gm 25 (gm 26 (gm 57 (128 * q + j)).toNatClampNeg).toNatClampNeg).toInt = 7 ∨ (gm 25 (gm 26 (gm 57 (128 * q + j)).toNatClampNeg).toNatClampNeg).toInt = 9 ∨ iv 0 59 (gm 52 (24 * d + 6 * j))
theorem WKD_e {gm gm2 : Nat → Nat → Int32} {q d n : Nat} (h : WKD gm q d n) (h25 : gm2 25 = gm 25) (h26 : gm2 26 = gm 26) (h41 : gm2 41 = gm 41) (h52 : gm2 52 = gm 52) (h57 : gm2 57 = gm 57) : WKD gm2 q d n := by
  unfold WKD at *; rw [h25, h26, h41, h52, h57]; exact h
theorem WRD_e {sg sg2 : Nat → Int32} {gm gm2 : Nat → Nat → Int32} {lg lg2 : Nat → Nat → Int64} (h : WRD sg gm lg) (h4 : sg2 4 = sg 4) (h12 : sg2 12 = sg 12) (h14 : gm2 14 = gm 14) (h15 : gm2 15 = gm 15) (h16 : gm2 16 = gm 16) (h17 : gm2 17 = gm 17) (h19 : gm2 19 = gm 19) (h20 : gm2 20 = gm 20) (h22 : gm2 22 = gm 22) (h25 : gm2 25 = gm 25) (h26 : gm2 26 = gm 26) (h27 : gm2 27 = gm 27) (h29 : gm2 29 = gm 29) (h41 : gm2 41 = gm 41) (h44 : gm2 44 = gm 44) (h45 : gm2 45 = gm 45) (h46 : gm2 46 = gm 46) (h57 : gm2 57 = gm 57) (hl0 : lg2 0 = lg 0) (hl4 : lg2 4 = lg 4) : WRD sg2 gm2 lg2 :=
  ⟨LK_e2 h.1 h4 h15 h16 h17, fun j hj => by rw [h4] at hj; exact ⟨STL_e (h.2.1 j hj).1 h12 h14 h16 h19 h20 h22 h25 h26 h27 hl0 hl4, SOK_e (h.2.1 j hj).2 h14 h15 h19 h20 h44 h45 h46 hl0⟩, BEE_e h.2.2.1 h4 h12 h29, fun c hc => by rw [h12] at hc; exact BLI_e (h.2.2.2 c hc) h4 h14 h22 h41 h57⟩
/-- the jth arg of a bean holds such an element -/
theorem arg_in {sg : Nat → Int32} {gm : Nat → Nat → Int32} {lg : Nat → Nat → Int64} {lx : List Nat} {b j : Nat} {w : Int} {k : Nat} (hI : CI sg gm) (hW : WRD sg gm lg) (hLD : LDI lx gm) (hk : (k = 0 ∧ w = 3) ∨ (k = 1 ∧ w = 4)) (hb : b < (sg 12).toNatClampNeg) (hj : j < (gm 41 (3 * b + k)).toNatClampNeg) : CTO sg gm lg (gm 26 (gm 57 (128 * (3 * b + k) + j)).toNatClampNeg) ∧ (gm 14 (gm 57 (128 * (3 * b + k) + j)).toNatClampNeg).toInt = w ∧ 0 ≤ (gm 57 (128 * (3 * b + k) + j)).toInt ∧ (gm 57 (128 * (3 * b + k) + j)).toInt < (sg 4).toInt := by
  have hbl := hW.2.2.2 b hb
  have i12 := (show iv 0 80 (sg 12) from CI_s hI 12)
  have k12 : (sg 12).toNatClampNeg = (sg 12).toInt.toNat := rfl
  have i12b := i12.2
  have h0 := (hLD (3 * b + k) (by omega)).2.2 j hj
  rcases hk with ⟨rfl, rfl⟩ | ⟨rfl, rfl⟩
  · obtain ⟨h1, h2⟩ := hbl.1 j hj
    exact ⟨CTO_h hI hW h0 h2 (Or.inl h1), h1, h0, h2⟩
  · obtain ⟨h1, h2⟩ := hbl.2.1 j hj
    exact ⟨CTO_h hI hW h0 h2 (Or.inr h1), h1, h0, h2⟩
end
section
/-- a bean with an id, one of a kind, that is made has its object -/
def MOK (sg : Nat → Int32) (gm : Nat → Nat → Int32) (lg : Nat → Nat → Int64) : Prop := ∀ c, c < (sg 12).toNatClampNeg → ¬ gm 38 c = 0 → ¬ lg 4 c = 0 → gm 35 c = 0 → 0 ≤ (gm 39 c).toInt
/-- beans that are being made stay so, with their objects -/
def BMK (gm gm2 : Nat → Nat → Int32) : Prop := ∀ c, ¬ gm 37 c = 0 → gm2 37 c = gm 37 c ∧ gm2 39 c = gm 39 c
def BMb (b : Nat) (gm gm2 : Nat → Nat → Int32) : Prop := ∀ c, c ≠ b → ¬ gm 37 c = 0 → gm2 37 c = gm 37 c ∧ gm2 39 c = gm 39 c
def WFR (d : Nat) (gm gm2 : Nat → Nat → Int32) : Prop := ∀ k, k < d → gm2 52 k = gm 52 k
theorem MOK_e {sg sg2 : Nat → Int32} {gm gm2 : Nat → Nat → Int32} {lg lg2 : Nat → Nat → Int64} (h : MOK sg gm lg) (h12 : sg2 12 = sg 12) (h35 : gm2 35 = gm 35) (h38 : gm2 38 = gm 38) (h39 : gm2 39 = gm 39) (hl : lg2 4 = lg 4) : MOK sg2 gm2 lg2 := by
  unfold MOK at *; rw [h12, h35, h38, h39, hl]; exact h
theorem MOK_u {sg sg2 : Nat → Int32} {gm gm2 : Nat → Nat → Int32} {lg lg2 : Nat → Nat → Int64} {b : Nat} {v : Int32} (h : MOK sg gm lg) (h12 : sg2 12 = sg 12) (h35 : gm2 35 = gm 35) (h38 : gm2 38 = gm 38) (h39 : gm2 39 = upd (gm 39) b v) (hl : lg2 4 = lg 4) (hb : 0 ≤ v.toInt ∨ (¬ lg 4 b = 0 → gm 35 b = 0 → gm 38 b = 0)) : MOK sg2 gm2 lg2 := fun c hc q1 q2 q3 => by
  rw [h12] at hc; rw [h38] at q1; rw [hl] at q2; rw [h35] at q3
  rw [h39]
  by_cases e9 : c = b
  · subst e9
    rw [upd_at]
    rcases hb with q | q
    · exact q
    · exact absurd (q q2 q3) q1
  · rw [upd_ne e9]; exact h c hc q1 q2 q3
theorem MOK_f {sg sg2 : Nat → Int32} {gm gm2 : Nat → Nat → Int32} {lg lg2 : Nat → Nat → Int64} {b : Nat} {v : Int32} (h : MOK sg gm lg) (h12 : sg2 12 = sg 12) (h35 : gm2 35 = gm 35) (h38 : gm2 38 = upd (gm 38) b v) (h39 : gm2 39 = gm 39) (hl : lg2 4 = lg 4) (hb : 0 ≤ (gm 39 b).toInt) : MOK sg2 gm2 lg2 := fun c hc q1 q2 q3 => by
  rw [h12] at hc; rw [hl] at q2; rw [h35] at q3
  rw [h39]
  by_cases e9 : c = b
  · rw [e9]; exact hb
  · rw [h38, upd_ne e9] at q1; exact h c hc q1 q2 q3
theorem BMK_rf {gm : Nat → Nat → Int32} : BMK gm gm := fun _ _ => ⟨rfl, rfl⟩
theorem BMK_e {gm gm2 : Nat → Nat → Int32} (h37 : gm2 37 = gm 37) (h39 : gm2 39 = gm 39) : BMK gm gm2 := fun c _ => ⟨by rw [h37], by rw [h39]⟩
theorem BMK_t {gm gm1 gm2 : Nat → Nat → Int32} (h : BMK gm gm1) (h2 : BMK gm1 gm2) : BMK gm gm2 := fun c hc => by
  obtain ⟨a1, a2⟩ := h c hc
  obtain ⟨b1, b2⟩ := h2 c (by rw [a1]; exact hc)
  exact ⟨b1.trans a1, b2.trans a2⟩
theorem BMb_t {b : Nat} {gm gm1 gm2 : Nat → Nat → Int32} (h : BMb b gm gm1) (h2 : BMK gm1 gm2) : BMb b gm gm2 := fun c hne hc => by
  obtain ⟨a1, a2⟩ := h c hne hc
  obtain ⟨b1, b2⟩ := h2 c (by rw [a1]; exact hc)
  exact ⟨b1.trans a1, b2.trans a2⟩
theorem BMb_u {b : Nat} {gm gm1 gm2 : Nat → Nat → Int32} {v w : Int32} (h : BMb b gm gm1) (h37 : gm2 37 = gm1 37 ∨ gm2 37 = upd (gm1 37) b v) (h39 : gm2 39 = gm1 39 ∨ gm2 39 = upd (gm1 39) b w) : BMb b gm gm2 := fun c hne hc => by
  obtain ⟨a1, a2⟩ := h c hne hc
  refine ⟨?_, ?_⟩
  · rcases h37 with q | q
    · rw [q]; exact a1
    · rw [q, upd_ne hne]; exact a1
  · rcases h39 with q | q
    · rw [q]; exact a2
    · rw [q, upd_ne hne]; exact a2
theorem BMb_rf {b : Nat} {gm : Nat → Nat → Int32} : BMb b gm gm := fun _ _ _ => ⟨rfl, rfl⟩
theorem BMb_K {b : Nat} {gm gm2 : Nat → Nat → Int32} (h : BMb b gm gm2) (hb : gm 37 b = 0) : BMK gm gm2 := fun c hc => h c (fun q => hc (by rw [q]; exact hb)) hc
theorem WFR_rf {d : Nat} {gm : Nat → Nat → Int32} : WFR d gm gm := fun _ _ => rfl
theorem WFR_e {d : Nat} {gm gm2 : Nat → Nat → Int32} (h : gm2 52 = gm 52) : WFR d gm gm2 := fun k _ => by rw [h]
theorem WFR_t {d d2 : Nat} {gm gm1 gm2 : Nat → Nat → Int32} (h : WFR d gm gm1) (h2 : WFR d2 gm1 gm2) (hd : d ≤ d2) : WFR d gm gm2 := fun k hk => (h2 k (by omega)).trans (h k hk)
theorem WFR_u {d i : Nat} {v : Int32} {gm gm1 gm2 : Nat → Nat → Int32} (h : WFR d gm gm1) (h2 : gm2 52 = upd (gm1 52) i v) (hd : d ≤ i) : WFR d gm gm2 := fun k hk => by
  rw [h2, upd_ne (by omega)]; exact h k hk
theorem WKD_s {gm1 gm2 : Nat → Nat → Int32} {q d i : Nat} (h : WKD gm1 q d i) (hf : WFR (24 * d + 6 * i) gm1 gm2) (h25 : gm2 25 = gm1 25) (h26 : gm2 26 = gm1 26) (h41 : gm2 41 = gm1 41) (h57 : gm2 57 = gm1 57) (hn : (gm1 25 (gm1 26 (gm1 57 (128 * q + i)).toNatClampNeg).toNatClampNeg).toInt = 6 ∨ (gm1 25 (gm1 26 (gm1 57 (128 * q + i)).toNatClampNeg).toNatClampNeg).toInt = 7 ∨ (gm1 25 (gm1 26 (gm1 57 (128 * q + i)).toNatClampNeg).toNatClampNeg).toInt = 9 ∨ iv 0 59 (gm2 52 (24 * d + 6 * i))) : WKD gm2 q d (i + 1) := fun j hj hj2 => by
  rw [h41] at hj2
  rw [h25, h26, h57]
  by_cases e9 : j = i
  · rw [e9]; exact hn
  · rw [hf (24 * d + 6 * j) (by omega)]; exact h j (by omega) hj2
theorem WKD_le {gm : Nat → Nat → Int32} {q d n m : Nat} (h : WKD gm q d n) (hm : m ≤ n ∨ (gm 41 q).toNatClampNeg ≤ n) : WKD gm q d m := fun j hj hj2 => h j (by omega) hj2
theorem bm_n {gm gm2 : Nat → Nat → Int32} {b : Nat} (h : ¬ gm 37 b = 0) (hb : BMK gm gm2) : ¬ gm2 37 b = 0 := by rw [(hb b h).1]; exact h
theorem bm_9 {gm gm2 : Nat → Nat → Int32} {b : Nat} (h : ¬ gm 37 b = 0) (hb : BMK gm gm2) (h9 : 0 ≤ (gm 39 b).toInt) : 0 ≤ (gm2 39 b).toInt := by rw [(hb b h).2]; exact h9
/-- a set's letter is there -/
theorem set_let {sg : Nat → Int32} {gm : Nat → Nat → Int32} {lg : Nat → Nat → Int64} {e : Int32} (hW : WRD sg gm lg) (h0 : 0 ≤ e.toInt) (h4 : e.toInt < (sg 4).toInt) (hw : (gm 14 e.toNatClampNeg).toInt = 4) : 0 ≤ (gm 22 e.toNatClampNeg).toInt := by
  have k1 := cl_0 h0
  have k4 : (sg 4).toNatClampNeg = (sg 4).toInt.toNat := rfl
  exact (hW.2.1 e.toNatClampNeg (by omega)).1.2.2.2.1 hw
end
section
theorem BOK_e {sg sg2 : Nat → Int32} {gm gm2 : Nat → Nat → Int32} {lg lg2 : Nat → Nat → Int64} {o : Nat} (h : BOK sg gm lg o) (h12 : sg2 12 = sg 12) (h27 : gm2 27 = gm 27) (hl : lg2 4 = lg 4) : BOK sg2 gm2 lg2 o := by
  unfold BOK at *; rw [h12, h27, hl]; exact h
end
section

theorem MOK_0 {sg : Nat → Int32} {gm : Nat → Nat → Int32} {lg : Nat → Nat → Int64} (h : ∀ c, c < (sg 12).toNatClampNeg → gm 38 c = 0) : MOK sg gm lg := fun c hc q => absurd (h c hc) q
theorem FND9_0 {sg : Nat → Int32} {gm : Nat → Nat → Int32} (h : (sg 15).toInt = 0) : FND9 sg gm := fun i hi => by
  have k : (sg 15).toNatClampNeg = (sg 15).toInt.toNat := rfl
  omega
end
section
theorem BN_e2 {sg sg2 : Nat → Int32} {gm gm2 : Nat → Nat → Int32} (h : BN sg gm) (h4 : sg2 4 = sg 4) (h27 : gm2 27 = gm 27) : BN sg2 gm2 := by
  unfold BN at *; rw [h4, h27]; exact h
def RDK (sg : Nat → Int32) (gm : Nat → Nat → Int32) : Prop := FA sg gm ∧ VS sg gm ∧ LK sg gm ∧ BN sg gm
theorem RDK_e {sg sg2 : Nat → Int32} {gm gm2 : Nat → Nat → Int32} (h : RDK sg gm) (h4 : sg2 4 = sg 4) (h5 : sg2 5 = sg 5) (h6 : sg2 6 = sg 6) (h15 : gm2 15 = gm 15) (h16 : gm2 16 = gm 16) (h17 : gm2 17 = gm 17) (h19 : gm2 19 = gm 19) (h20 : gm2 20 = gm 20) (h27 : gm2 27 = gm 27) (h44 : gm2 44 = gm 44) (h45 : gm2 45 = gm 45) : RDK sg2 gm2 :=
  ⟨FA_e h.1 h4 h5 h19 h20, VS_e h.2.1 h5 h6 h44 h45, LK_e2 h.2.2.1 h4 h15 h16 h17, BN_e2 h.2.2.2 h4 h27⟩
def WRM (sg : Nat → Int32) (gm : Nat → Nat → Int32) (lg : Nat → Nat → Int64) : Prop := WRD sg gm lg ∧ ∀ c9, c9 < (sg 12).toNatClampNeg → gm 37 c9 = 0 ∧ gm 38 c9 = 0
theorem WRM_e {sg sg2 : Nat → Int32} {gm : Nat → Nat → Int32} {lg : Nat → Nat → Int64} (h : WRM sg gm lg) (h4 : sg2 4 = sg 4) (h12 : sg2 12 = sg 12) : WRM sg2 gm lg :=
  ⟨WRD_e h.1 h4 h12 rfl rfl rfl rfl rfl rfl rfl rfl rfl rfl rfl rfl rfl rfl rfl rfl rfl rfl, by rw [h12]; exact h.2⟩
end
section
theorem PR_u {gm gm2 : Nat → Nat → Int32} {a b : Int32} (h : PR gm) (h0 : 0 ≤ a.toInt) (e : gm2 6 = upd (gm 6) a.toNatClampNeg b) (hb : b.toInt < a.toInt) : PR gm2 := fun k hk => by
  rw [e]
  by_cases e9 : k = a.toNatClampNeg
  · rw [e9, upd_at]; have k1 : a.toNatClampNeg = a.toInt.toNat := rfl; omega
  · rw [upd_ne e9]; exact h k hk
theorem PR_k {gm gm2 : Nat → Nat → Int32} (h : PR gm) (e : gm2 6 = gm 6) : PR gm2 := by unfold PR at *; rw [e]; exact h
theorem zCls_f {a : Int32} (h : zCls a = 0) : a.toInt < 0 ∨ 7 < a.toInt := by
  by_cases h1 : a.toInt < 0
  · exact Or.inl h1
  by_cases h2 : 7 < a.toInt
  · exact Or.inr h2
  exfalso
  have key : ∀ n : Fin 8, zCls (nI n.val) = 1 := by decide +kernel
  have e1 : a = nI a.toInt.toNat := Int32.toInt_inj.mp (by rw [nI_toInt (by omega)]; omega)
  have := key ⟨a.toInt.toNat, by omega⟩
  rw [← e1] at this
  rw [this] at h
  exact absurd h (by decide)

/-- what the reference's state bears between two calls -/
def RI (sg : Nat → Int32) (gm : Nat → Nat → Int32) (lg : Nat → Nat → Int64) : Prop := MI sg gm ∧ PR gm ∧ GI0 sg gm lg ∧ MO sg gm ∧ ((sg 40).toInt = 0 ∨ DOC sg gm lg)
/-- a call that leaves the document and what is made of it -/
theorem RI_of {sg sg2 : Nat → Int32} {gm gm2 : Nat → Nat → Int32} {lg lg2 : Nat → Nat → Int64} {Ls Lg Ll : List Nat} (h : RI sg gm lg) (hI : MI sg2 gm2) (hPR : PR gm2) (h1 : KS Ls sg sg2) (h2 : KS Lg gm gm2) (h3 : KS Ll lg lg2) (q1 : (Ls.contains 24 || Ls.contains 41) = false) (q1b : Ls.contains 40 = false) (q2 : ([26, 28, 29, 30, 36, 37, 38, 42, 43].all fun k => !Lg.contains k) = true) (q3 : Ll.contains 35 = false) (q4 : (Lg.contains 44 || Lg.contains 45) = false) (q5 : ([60, 61, 62, 70, 71, 72, 73].all fun k => !Lg.contains k) = true) (q6 : Ls.contains 50 = false) (q7 : Ll.contains 1 = false) (q8 : (Ls.contains 50 || Ls.contains 41) = false) (q9 : Lg.contains 59 = false) : RI sg2 gm2 lg2 := by
  obtain ⟨-, -, a3, a4, a5⟩ := h
  refine ⟨hI, hPR, GI0_of a3 h1 h2 h3 q1 q2 q3 q5 q6 q7, MO_of a4 h1 h2 q8 q9, ?_⟩
  rcases a5 with q | q
  · exact Or.inl (by rw [h1 40 q1b]; exact q)
  · exact Or.inr (DOC_of q h1 h2 h3 q1 q2 q3 q4)
/-- a call that makes -/
theorem RI_mk {sg sg2 : Nat → Int32} {gm gm2 : Nat → Nat → Int32} {lg lg2 : Nat → Nat → Int64} {Ls Lg Ll : List Nat} (h : RI sg gm lg) (hI : MI sg2 gm2) (hg : GI0 sg2 gm2 lg2) (hm : MO sg2 gm2) (h1 : KS Ls sg sg2) (h2 : KS Lg gm gm2) (h3 : KS Ll lg lg2) (q1 : (Ls.contains 24 || Ls.contains 41) = false) (q1b : Ls.contains 40 = false) (q2 : ([26, 28, 29, 30, 36, 37, 38, 42, 43].all fun k => !Lg.contains k) = true) (q3 : Ll.contains 35 = false) (q4 : (Lg.contains 44 || Lg.contains 45) = false) (q5 : Lg.contains 6 = false) : RI sg2 gm2 lg2 := by
  obtain ⟨-, a2, -, -, a5⟩ := h
  refine ⟨hI, PR_k a2 (h2 6 q5), hg, hm, ?_⟩
  rcases a5 with q | q
  · exact Or.inl (by rw [h1 40 q1b]; exact q)
  · exact Or.inr (DOC_of q h1 h2 h3 q1 q2 q3 q4)
theorem RI_rd {sg sg2 : Nat → Int32} {gm gm2 : Nat → Nat → Int32} {lg lg2 : Nat → Nat → Int64} {Lg : List Nat} (h : RI sg gm lg) (hI : MI sg2 gm2) (h2 : KS Lg gm gm2) (hd : (sg2 40).toInt = 0 ∨ DOC sg2 gm2 lg2) (hc : CLR sg2 gm2) (q5 : Lg.contains 6 = false) (q70 : Lg.contains 70 = false) (q71 : Lg.contains 71 = false) (q72 : Lg.contains 72 = false) (q73 : Lg.contains 73 = false) : RI sg2 gm2 lg2 :=
  ⟨hI, PR_k h.2.1 (h2 6 q5), GI0_clr (VAL_k (h2 70 q70) (h2 71 q71) (h2 72 q72) (h2 73 q73) h.2.2.1.1) hc, MO_0 hc.1, hd⟩
end
section
section CT2
variable {p : Program} {l : Launch} {e : Env} {R : Room} {s : State} {m : MethodId} {args : Array Value} {below : List Frame} {meth : Method} {c : Code} {H : Heap} {locs : List Loc} {cells slots : Nat} {Q : State → Prop} {pc : Nat} {ls : Array Slot} {rest : List Value}
theorem mc_goHit {own name E : String} {ce : Cell} {q : Addr} {S : State} (hpl : e.platform.magicAccessors = ({} : Platform).magicAccessors) (hW : s.WarmedH S.vm) (hown : s.vm.findClass own = some m.cls) (x : ExceptionTableEntry) (suf : List ExceptionTableEntry) (hx : covers x pc = true) (h0 : x.catchType ≠ 0) (hlink : (Cond.classLink own x.catchType name).before args s = true) (hcast : (Cond.castable E name).before args s = true) (hcT2 : S.heap[q]? = some ce) (hv : ce.vm = .none) (hcl : s.vm.findClass E = some ce.cls) :
    ∃ cT : ClassId, s.WarmedH (S.vm.noted m.cls x.catchType (.cls cT)) ∧ ∀ (Q : Handler → Pre) (E : CtlPost) (d : Bool) (acts : List Action), wp (findHandler.go (F0 m pc ls rest) q (x :: suf)) Q E e d acts S ↔ Q (.found x.handlerPc) d acts (S.setVm (S.vm.noted m.cls x.catchType (.cls cT))) := by
  obtain ⟨c3, cT, hc3, hcT, hasg⟩ := Cond.castable_spec hcast
  cases Option.some.inj (hc3.symm.trans hcl)
  obtain ⟨c5, hc5, hln⟩ := Cond.classLink_spec hown hlink e.platform hpl
  cases Option.some.inj (hcT.symm.trans hc5)
  obtain ⟨dk, _, _, kt, hd, _, _, _, _, hkt, _, hopen⟩ := hln.here
  have hlT := hW.classLinks hln
  have hal := hW.alike
  obtain ⟨k9, h9, -⟩ := Vm.findClass_spec hcl
  obtain ⟨kc, hkc, -⟩ := hal.2.2 _ _ h9
  obtain ⟨kt2, hkt2, -⟩ := hal.2.2 _ _ hkt
  have hfit : S.vm.assignable ce.cls cT = true := by rw [hal.assignable]; exact hasg
  have hst : ∀ k, ce.vm ≠ .statics k := VmData.ne_statics_of (by rw [hv]; rfl)
  have hal2 : S.vm.Alike (S.vm.noted m.cls x.catchType (.cls cT)) := (Vm.Alike.refl S.vm).noted _ _ _
  obtain ⟨kc3, hkc3, -⟩ := hal2.2.2 _ _ hkc
  obtain ⟨kt3, hkt3, -⟩ := hal2.2.2 _ _ hkt2
  have hfit3 : (S.vm.noted m.cls x.catchType (.cls cT)).assignable ce.cls cT = true := by rw [hal2.assignable]; exact hfit
  obtain ⟨ha, ht⟩ := (resolveClass_links e.toSetting hlT).op (op := VmOp.resolveClass m.cls x.catchType) rfl
  refine ⟨cT, hW.noted hd hopen (State.rightAt_cls hln), fun Q E d acts => ?_⟩
  simp only [covers] at hx
  simp [findHandler.go, F0, hx, h0, ha, ht, hcT2, hst, hkc3, hkt3, hfit3, VmOp.dirties, VmOp.acts]
theorem mc_goPass {own name E : String} {ce : Cell} {q : Addr} {S : State} (hpl : e.platform.magicAccessors = ({} : Platform).magicAccessors) (hW : s.WarmedH S.vm) (hown : s.vm.findClass own = some m.cls) (x : ExceptionTableEntry) (suf : List ExceptionTableEntry) (hx : covers x pc = true) (h0 : x.catchType ≠ 0) (hlink : (Cond.classLink own x.catchType name).before args s = true) (hcast : va_Nc E name s) (hcT2 : S.heap[q]? = some ce) (hv : ce.vm = .none) (hcl : s.vm.findClass E = some ce.cls) :
    ∃ cT : ClassId, s.WarmedH (S.vm.noted m.cls x.catchType (.cls cT)) ∧ ∀ (Q : Handler → Pre) (E : CtlPost) (d : Bool) (acts : List Action), wp (findHandler.go (F0 m pc ls rest) q (x :: suf)) Q E e d acts S ↔ wp (findHandler.go (F0 m pc ls rest) q suf) Q E e d acts (S.setVm (S.vm.noted m.cls x.catchType (.cls cT))) := by
  obtain ⟨c3, cT, hc3, hcT, hasg⟩ := hcast
  cases Option.some.inj (hc3.symm.trans hcl)
  obtain ⟨c5, hc5, hln⟩ := Cond.classLink_spec hown hlink e.platform hpl
  cases Option.some.inj (hcT.symm.trans hc5)
  obtain ⟨dk, _, _, kt, hd, _, _, _, _, hkt, _, hopen⟩ := hln.here
  have hlT := hW.classLinks hln
  have hal := hW.alike
  obtain ⟨k9, h9, -⟩ := Vm.findClass_spec hcl
  obtain ⟨kc, hkc, -⟩ := hal.2.2 _ _ h9
  obtain ⟨kt2, hkt2, -⟩ := hal.2.2 _ _ hkt
  have hfit : S.vm.assignable ce.cls cT = false := by rw [hal.assignable]; exact hasg
  have hst : ∀ k, ce.vm ≠ .statics k := VmData.ne_statics_of (by rw [hv]; rfl)
  have hal2 : S.vm.Alike (S.vm.noted m.cls x.catchType (.cls cT)) := (Vm.Alike.refl S.vm).noted _ _ _
  obtain ⟨kc3, hkc3, -⟩ := hal2.2.2 _ _ hkc
  obtain ⟨kt3, hkt3, -⟩ := hal2.2.2 _ _ hkt2
  have hfit3 : (S.vm.noted m.cls x.catchType (.cls cT)).assignable ce.cls cT = false := by rw [hal2.assignable]; exact hfit
  obtain ⟨ha, ht⟩ := (resolveClass_links e.toSetting hlT).op (op := VmOp.resolveClass m.cls x.catchType) rfl
  refine ⟨cT, hW.noted hd hopen (State.rightAt_cls hln), fun Q E d acts => ?_⟩
  simp only [covers] at hx
  simp [findHandler.go, F0, hx, h0, ha, ht, hcT2, hst, hkc3, hkt3, hfit3, VmOp.dirties, VmOp.acts]
theorem mc_found {q : Addr} {hp : Nat}
    (hf : ∀ T : State, T.heap = H → Stand p l e R s m args below meth c T locs cells slots → ∀ S : State, S.vm = T.vm → S.heap = T.heap → ∃ vm2 : Vm, s.WarmedH vm2 ∧ ∀ (Q : Handler → Pre) (E : CtlPost) (d : Bool) (acts : List Action), wp (findHandler.go (F0 m pc ls rest) q c.exceptionTable.toList) Q E e d acts S ↔ Q (.found hp) d acts (S.setVm vm2))
    (kk : W p l e R s m args below meth c H locs cells slots Q (F0 m hp ls [.ref q])) : vx_W p l e R s m args below meth c H locs cells slots Q (F0 m pc ls rest) q := by
  intro T hT X
  obtain ⟨S, hSe⟩ : ∃ z, z = (T.setTop (F0 m pc ls rest)).pushFrame (.throwing q) := ⟨_, rfl⟩
  have hSv : S.vm = T.vm := by rw [hSe]; exact Stand.throwing_vm T _ q
  have hSh : S.heap = T.heap := by rw [hSe]; exact Stand.throwing_heap T _ q
  obtain ⟨vm2, hWn, hfind0⟩ := hf T hT X S hSv hSh
  have hm9 : T.vm.method? m = some meth := X.method'
  have hfind : ∀ (Q : Handler → Pre) (E : CtlPost) (d : Bool) (acts : List Action), wp (findHandler (F0 m pc ls rest) q) Q E e d acts S ↔ Q (.found hp) d acts (S.setVm vm2) := by
    intro Q E d acts
    rw [W.findHandler_eq (meth := meth) (code := c) (by rw [hSv]; exact hm9) X.code]
    exact hfind0 Q E d acts
  obtain ⟨t, a1, b1⟩ := kk (T.setVm vm2) hT (X.noted hWn)
  refine ⟨t, ?_, b1⟩
  obtain ⟨hgo, hw⟩ := X.here.throwing (g := F0 m pc ls rest) q
  refine Steps.head hgo hw ?_
  obtain ⟨g0, hg0⟩ := Option.isSome_iff_exists.mp X.here.top
  obtain ⟨r, hr⟩ := State.topJava?_eq_some.mp hg0
  have hstep : (stepThrowing e S q (.java (F0 m pc ls rest) :: r)).1 = (S.setVm vm2).setFrames (.java { (F0 m pc ls rest) with pc := hp, stack := [.ref q] } :: r) := by
    simp only [stepThrowing, searchFrame, vmDo]
    generalize hres : Sem.go _ e false [] S = res
    obtain ⟨as, rfl, ha9⟩ := Sem.eq_ok_of hres (a := Handler.found hp) (s' := S.setVm vm2) (acts' := []) (by simp [hfind _ _ _ _])
    rfl
  rw [stepThread_throwing (frames_entered X.here.top _), hr, List.tail_cons, ← hSe, hstep, hSe]
  have hr2 : (T.setVm vm2).frames = .java g0 :: r := hr
  rw [State.setTop_of_frames _ hr2] at a1
  have hfr : ∀ (u : State) (v : Vm) (F G : List Frame), ((u.setFrames F).setVm v).setFrames G = (u.setVm v).setFrames G := fun u v F G => by
    have h1 : (u.setFrames F).setVm v = (u.setVm v).setFrames F := rfl
    rw [h1, State.setFrames_setFrames]
  rw [State.pushFrame, hfr, State.setTop_of_frames _ hr, hfr]
  exact a1
/-- caught by the second row -/
theorem mc_catch2 {own n1 name E : String} {ce : Cell} {q : Addr} (hown : s.vm.findClass own = some m.cls) (y x : ExceptionTableEntry) (suf : List ExceptionTableEntry) (hsplit : c.exceptionTable.toList = y :: x :: suf) (hy : covers y pc = true) (hx : covers x pc = true) (y0 : y.catchType ≠ 0) (h0 : x.catchType ≠ 0) (hl1 : (Cond.classLink own y.catchType n1).before args s = true) (hlink : (Cond.classLink own x.catchType name).before args s = true) (hn1 : va_Nc E n1 s) (hcast : (Cond.castable E name).before args s = true) (hcell : H[q]? = some ce) (hv : ce.vm = .none) (hcl : s.vm.findClass E = some ce.cls)
    (kk : W p l e R s m args below meth c H locs cells slots Q (F0 m x.handlerPc ls [.ref q])) : vx_W p l e R s m args below meth c H locs cells slots Q (F0 m pc ls rest) q := by
  refine mc_found (hp := x.handlerPc) (fun T hT X S hSv hSh => ?_) kk
  have hpl : e.platform.magicAccessors = ({} : Platform).magicAccessors := by rw [X.admits.platform]
  have hc2 : S.heap[q]? = some ce := by rw [hSh, hT]; exact hcell
  obtain ⟨c1, hW1, f1⟩ := mc_goPass (pc := pc) (ls := ls) (rest := rest) (S := S) hpl (by rw [hSv]; exact X.warmed) hown y (x :: suf) hy y0 hl1 hn1 hc2 hv hcl
  obtain ⟨c2, hW2, f2⟩ := mc_goHit (pc := pc) (ls := ls) (rest := rest) (S := S.setVm (S.vm.noted m.cls y.catchType (.cls c1))) hpl hW1 hown x suf hx h0 hlink hcast hc2 hv hcl
  refine ⟨_, hW2, fun Q E d acts => ?_⟩
  rw [hsplit]
  exact (f1 Q E d acts).trans (f2 Q E d acts)
/-- caught by the third row -/
theorem mc_catch3 {own n1 n2 name E : String} {ce : Cell} {q : Addr} (hown : s.vm.findClass own = some m.cls) (y z x : ExceptionTableEntry) (suf : List ExceptionTableEntry) (hsplit : c.exceptionTable.toList = y :: z :: x :: suf) (hy : covers y pc = true) (hz : covers z pc = true) (hx : covers x pc = true) (y0 : y.catchType ≠ 0) (z0 : z.catchType ≠ 0) (h0 : x.catchType ≠ 0) (hl1 : (Cond.classLink own y.catchType n1).before args s = true) (hl2 : (Cond.classLink own z.catchType n2).before args s = true) (hlink : (Cond.classLink own x.catchType name).before args s = true) (hn1 : va_Nc E n1 s) (hn2 : va_Nc E n2 s) (hcast : (Cond.castable E name).before args s = true) (hcell : H[q]? = some ce) (hv : ce.vm = .none) (hcl : s.vm.findClass E = some ce.cls)
    (kk : W p l e R s m args below meth c H locs cells slots Q (F0 m x.handlerPc ls [.ref q])) : vx_W p l e R s m args below meth c H locs cells slots Q (F0 m pc ls rest) q := by
  refine mc_found (hp := x.handlerPc) (fun T hT X S hSv hSh => ?_) kk
  have hpl : e.platform.magicAccessors = ({} : Platform).magicAccessors := by rw [X.admits.platform]
  have hc2 : S.heap[q]? = some ce := by rw [hSh, hT]; exact hcell
  obtain ⟨c1, hW1, f1⟩ := mc_goPass (pc := pc) (ls := ls) (rest := rest) (S := S) hpl (by rw [hSv]; exact X.warmed) hown y (z :: x :: suf) hy y0 hl1 hn1 hc2 hv hcl
  obtain ⟨c3, hW3, f3⟩ := mc_goPass (pc := pc) (ls := ls) (rest := rest) (S := S.setVm (S.vm.noted m.cls y.catchType (.cls c1))) hpl hW1 hown z (x :: suf) hz z0 hl2 hn2 hc2 hv hcl
  obtain ⟨c2, hW2, f2⟩ := mc_goHit (pc := pc) (ls := ls) (rest := rest) (S := (S.setVm (S.vm.noted m.cls y.catchType (.cls c1))).setVm ((S.setVm (S.vm.noted m.cls y.catchType (.cls c1))).vm.noted m.cls z.catchType (.cls c3))) hpl hW3 hown x suf hx h0 hlink hcast hc2 hv hcl
  refine ⟨_, hW2, fun Q E d acts => ?_⟩
  rw [hsplit]
  exact ((f1 Q E d acts).trans (f3 Q E d acts)).trans (f2 Q E d acts)
end CT2
end
section
theorem vaK_l {dC : Nat → ClassId} {dI : Nat → Nat → Nat} {cl : List vw_C} {t1 t2 : List (ClassId × FieldType)} {U : State} (h : va_K (dC, dI) cl (t1 ++ t2) U) : va_K (dC, dI) cl t1 U :=
  ⟨h.1, fun k q hk => h.2 k q (by rw [List.getElem?_append_left (List.getElem?_eq_some_iff.mp hk).1]; exact hk)⟩
theorem vaK_r {dC : Nat → ClassId} {dI : Nat → Nat → Nat} {cl : List vw_C} {t1 t2 : List (ClassId × FieldType)} {U : State} (h : va_K (dC, dI) cl (t1 ++ t2) U) : va_K (dC, dI) cl t2 U :=
  ⟨h.1, fun k q hk => h.2 (t1.length + k) q (by rw [List.getElem?_append_right (Nat.le_add_right _ _), Nat.add_sub_cancel_left]; exact hk)⟩
theorem vaK_j {dC : Nat → ClassId} {dI : Nat → Nat → Nat} {cl : List vw_C} {t1 t2 : List (ClassId × FieldType)} {U : State} (h1 : va_K (dC, dI) cl t1 U) (h2 : va_K (dC, dI) cl t2 U) : va_K (dC, dI) cl (t1 ++ t2) U :=
  ⟨h1.1, fun k q hk => by
    by_cases h : k < t1.length
    · rw [List.getElem?_append_left h] at hk; exact h1.2 k q hk
    · rw [List.getElem?_append_right (by omega)] at hk; exact h2.2 _ q hk⟩
theorem vaP_j {D : va_G} {cl : List vw_C} {w r : va_W} {H : Heap} (h1 : va_P D cl w H) (h2 : va_P D cl r H) : va_P D cl (w ++ r) H := fun k q hk => by
  by_cases h : k < w.length
  · rw [List.getElem?_append_left h] at hk; exact h1 k q hk
  · rw [List.getElem?_append_right (by omega)] at hk; exact h2 _ q hk
theorem vaP_p {D : va_G} {cl : List vw_C} {w w2 : va_W} {H : Heap} (hp : w.Perm w2) (h : va_P D cl w H) : va_P D cl w2 H := fun k q hk => by
  obtain ⟨i, hi⟩ := List.getElem?_of_mem (hp.mem_iff.mpr (List.mem_of_getElem? hk))
  exact h i q hi
theorem vaD_p {A : Nat → Prop} {w w2 : va_W} (hp : w.Perm w2) (h : va_D A w) : va_D A w2 :=
  ⟨vd_pw.mpr ((List.Perm.pairwise_iff (fun {a b} h9 => Ne.symm h9) hp).mp (vd_pw.mp h.1)), fun k q hk => by
    obtain ⟨i, hi⟩ := List.getElem?_of_mem (hp.mem_iff.mpr (List.mem_of_getElem? hk))
    exact h.2 i q hi⟩
/-- a call on a part of the world leaves the rest -/
theorem lw_join {A : Nat → Prop} {D : va_G} {cl : List vw_C} {w r w1 : va_W} {H H1 : Heap} (hP : va_P D cl (w ++ r) H) (hD : va_D A (w ++ r)) (hk : ∀ q : Nat, q < H.size → ¬ va_A w H.size q → H1[q]? = H[q]?) (hF : ∀ q, va_A w H.size q → A q) (hP1 : va_P D cl w1 H1) (hD1 : va_D (va_A w H.size) w1) : va_P D cl (w1 ++ r) H1 ∧ va_D A (w1 ++ r) := by
  have hr : va_P D cl r H := va_Psl hP (List.sublist_append_right _ _)
  have hDr : va_D A r := va_Dsl hD (List.sublist_append_right _ _)
  have apart : ∀ (k : Nat) (x : Nat × va_E), r[k]? = some x → x.1 < H.size ∧ ¬ va_A w H.size x.1 := fun k x hx => by
    have hlt := (hr k x hx).lt
    refine ⟨hlt, fun q => ?_⟩
    rcases q with ⟨i, e9, hi⟩ | q
    · have h1 : (w ++ r)[i]? = some (x.1, e9) := by rw [List.getElem?_append_left (List.getElem?_eq_some_iff.mp hi).1]; exact hi
      have h2 : (w ++ r)[w.length + k]? = some x := by rw [List.getElem?_append_right (Nat.le_add_right _ _), Nat.add_sub_cancel_left]; exact hx
      have h3 := hD.1 _ _ _ _ h1 h2 rfl
      have h4 := (List.getElem?_eq_some_iff.mp hi).1
      omega
    · omega
  refine ⟨vaP_j hP1 (hr.kept (fun k x hx => hk x.1 (apart k x hx).1 (apart k x hx).2)), vd_pw.mpr (List.pairwise_append.mpr ⟨vd_pw.mp hD1.1, vd_pw.mp hDr.1, fun a ha b hb e9 => ?_⟩), fun k q hq => ?_⟩
  · obtain ⟨i, hi⟩ := List.getElem?_of_mem ha
    obtain ⟨j, hj⟩ := List.getElem?_of_mem hb
    exact (apart j b hj).2 (by rw [← e9]; exact hD1.2 i a hi)
  · by_cases h : k < w1.length
    · rw [List.getElem?_append_left h] at hq; exact hF _ (hD1.2 k q hq)
    · rw [List.getElem?_append_right (by omega)] at hq; exact hDr.2 _ q hq
section LW1
variable {p : Program} {l : Launch} {e : Env} {R : Room} {s : State} {m : MethodId} {args : Array Value} {below : List Frame} {meth : Method} {c : Code} {H : Heap} {locs : List Loc} {Q : State → Prop} {cc : ByteArray} {pc : Nat} {ls : Array Slot} {rest : List Value} {A : Nat → Prop}
variable {dC : Nat → ClassId} {dI : Nat → Nat → Nat} {ad : Nat → Nat → Nat} {cid : Nat → ClassId} {a2 : Nat → Nat} {lx : List Nat} {sg : Nat → Int32} {gm : Nat → Nat → Int32} {lg : Nat → Nat → Int64} {Ts : List Cond} {own : String} {index : Nat}
variable {y : MethodName} {ws : List Cond} {rm : Room} {bytes : ByteArray} {maxL n nL : Nat} {ret : Option FieldType} {as : List Value} {st0 : List Value} {cells slots k mc ms : Nat} {r : va_W} {tr : List (ClassId × FieldType)}
/-- a call of the class that may throw and may make the heap grow, in a world that holds more -/
theorem lw_callG {post : Option Value → CSg → Prop} {xpost : String → CSg → Prop} {x : Int32} (S : CallFix p m c cc nL s args Ts own) (hM : CMg dC dI ad cid l y ws rm (eV (ad 0) x :: as) a2 lx sg gm lg k mc ms post xpost) (cw : CallW R s args own RX12 index y bytes maxL ret ws rm mc ms n) (hx : iv 0 0 x) (hn : as.length = n) (hsize : ls.size = nL) (hst : st0 = as.reverse ++ eV (ad 0) x :: rest) (hW : (rest.map fun v => v.category).sum ≤ 8) (hdg : decode cc pc = .ok (.invokevirtual index, 3)) (hf : cells + mc ≤ R.cells ∧ slots + ms ≤ R.slots)
    (hK : va_K (dC, dI) vwCl (cT cid ++ tr) s) (hP : va_P (dC, dI) vwCl (cW ad cid a2 lx sg gm lg ++ r) H) (hD : va_D A (cW ad cid a2 lx sg gm lg ++ r)) (hS : va_S A s.heap H locs) (hA : ∀ q, s.heap.size ≤ q → A q) (hG : CE ad A s)
    (kx : ∀ (E : String) (ce : Cell) (q9 : Addr) (u : CSg) (H1 : Heap) (locs1 : List Loc), xpost E u → PHs gm ≤ PHs u.2.2.2.1 → va_P (dC, dI) vwCl (CSg.w ad cid u ++ r) H1 → va_D A (CSg.w ad cid u ++ r) → va_S A s.heap H1 locs1 → H1[q9]? = some ce → ce.vm = .none → s.vm.findClass E = some ce.cls → vx_W p l e R s m args below meth c H1 locs1 (cells + gc gm u.2.2.2.1 (k + 1)) (slots + gs gm u.2.2.2.1 (k + 1)) Q (F0 m pc ls rest) q9)
    (kk : ∀ (v : Option Value) (u : CSg) (H1 : Heap) (locs1 : List Loc), post v u → PHs gm ≤ PHs u.2.2.2.1 → va_P (dC, dI) vwCl (CSg.w ad cid u ++ r) H1 → va_D A (CSg.w ad cid u ++ r) → va_S A s.heap H1 locs1 → W p l e R s m args below meth c H1 locs1 (cells + gc gm u.2.2.2.1 k) (slots + gs gm u.2.2.2.1 k) Q (F0 m (pc + 3) ls (v.toList ++ rest))) : W p l e R s m args below meth c H locs cells slots Q (F0 m pc ls st0) := by
  subst hst
  have hPc : va_P (dC, dI) vwCl (cW ad cid a2 lx sg gm lg) H := va_Psl hP (List.sublist_append_left _ _)
  have hDc : va_D A (cW ad cid a2 lx sg gm lg) := va_Dsl hD (List.sublist_append_left _ _)
  have hKc := vaK_l hK
  have hFc := cfree hDc hS hA
  have hM9 := hM H.size
  rw [eV_ref hx.1] at hM9 ⊢
  have hr := vx_runV (e := e) (below := below) (meth := meth) (locs := locs) (cells := cells) (slots := slots) (As := as) (rest := rest) S hM9 cw ⟨CPre_blind, cm_recv (t := 0) (C := RX12) (T := TX12) (N := 12) hKc hPc hx (by decide) (by decide) rfl, fun U hU hW => ⟨rfl, by rw [hU], by rw [hU]; exact hPc, va_K.moved hW.alike hKc, hDc.weaken (fun _ _ _ _ => trivial), hG.go hS hFc hU hW⟩⟩ (g := F0 m pc ls (as.reverse ++ .ref (ad 0 x.toNatClampNeg) :: rest)) rfl hn hsize rfl (lv_room hW) hdg hf
  refine W.nb (fun hN => ?_)
  intro T hT X
  rcases hr T hT X with ⟨v, st₀, t, T', L, h0, X', hL, e1, e2, ⟨⟨v2, u, hv, hp, hb, hm, hN1⟩, hF⟩, st⟩ | ⟨q, st₀, t, T', L, E, ce, h0, X', hL, e1, e2, ⟨⟨u, hp, hb, hm, hN1⟩, hF⟩, hce, hcv, hcl, st⟩
  · cases hv
    obtain ⟨k1, k2, k3⟩ := vx_keep h0 e1 hS (fun q _ h => hFc q h) hFc hL hF
    obtain ⟨b1, b2, b3⟩ := hb
    rw [h0, ← e1] at hN1
    obtain ⟨j1, j2⟩ := lw_join hP hD k2 hFc (by rw [e1]; exact b1) b3
    obtain ⟨t2, a1, c1⟩ := W.narrow (NBw_tr hN hN1) (kk v u T'.heap (locs ++ L) hp hm j1 j2 k3) T' rfl X'
    exact ⟨t2, st t2 a1, c1⟩
  · obtain ⟨k1, k2, k3⟩ := vx_keep h0 e1 hS (fun q _ h => hFc q h) hFc hL hF
    obtain ⟨b1, b2, b3⟩ := hb
    rw [h0, ← e1] at hN1
    obtain ⟨j1, j2⟩ := lw_join hP hD k2 hFc (by rw [e1]; exact b1) b3
    obtain ⟨t2, a1, c1⟩ := vx_narrow (NBw_tr hN hN1) (kx E ce q u T'.heap (locs ++ L) hp hm j1 j2 k3 (by rw [e1]; exact hce) hcv hcl) T' rfl X'
    exact ⟨t2, st.trans a1, c1⟩
/-- a call of the class that returns and makes nothing -/
theorem lw_callT {post : Option Value → CSt → Prop} {xpost : String → CSt → Prop} {x : Int32} (S : CallFix p m c cc nL s args Ts own) (hM : CMt dC dI ad cid a2 lx l y ws rm (eV (ad 0) x :: as) sg gm lg post xpost) (cw : CallW R s args own RX12 index y bytes maxL ret ws rm 1 6 n) (hx : iv 0 0 x) (hn : as.length = n) (hsize : ls.size = nL) (hst : st0 = as.reverse ++ eV (ad 0) x :: rest) (hW : (rest.map fun v => v.category).sum ≤ 8) (hdg : decode cc pc = .ok (.invokevirtual index, 3)) (hf : cells + 1 ≤ R.cells ∧ slots + 6 ≤ R.slots)
    (hK : va_K (dC, dI) vwCl (cT cid ++ tr) s) (hP : va_P (dC, dI) vwCl (cW ad cid a2 lx sg gm lg ++ r) H) (hD : va_D A (cW ad cid a2 lx sg gm lg ++ r)) (hS : va_S A s.heap H locs) (hA : ∀ q, s.heap.size ≤ q → A q) (hG : CE ad A s) (hno : ∀ E u, ¬ xpost E u)
    (kk : ∀ (v : Option Value) (u : CSt) (H1 : Heap) (locs1 : List Loc), post v u → va_P (dC, dI) vwCl (cW ad cid a2 lx u.1 u.2.1 u.2.2 ++ r) H1 → va_D A (cW ad cid a2 lx u.1 u.2.1 u.2.2 ++ r) → va_S A s.heap H1 locs1 → W p l e R s m args below meth c H1 locs1 cells slots Q (F0 m (pc + 3) ls (v.toList ++ rest))) : W p l e R s m args below meth c H locs cells slots Q (F0 m pc ls st0) := by
  subst hst
  have hPc : va_P (dC, dI) vwCl (cW ad cid a2 lx sg gm lg) H := va_Psl hP (List.sublist_append_left _ _)
  have hDc : va_D A (cW ad cid a2 lx sg gm lg) := va_Dsl hD (List.sublist_append_left _ _)
  have hKc := vaK_l hK
  have hFc := cfree hDc hS hA
  have hM9 := hM H.size
  rw [eV_ref hx.1] at hM9 ⊢
  have hr := vx_runV (e := e) (below := below) (meth := meth) (locs := locs) (cells := cells) (slots := slots) (As := as) (rest := rest) S hM9 cw ⟨CPre_blind, cm_recv (t := 0) (C := RX12) (T := TX12) (N := 12) hKc hPc hx (by decide) (by decide) rfl, fun U hU hW => ⟨rfl, by rw [hU], by rw [hU]; exact hPc, va_K.moved hW.alike hKc, hDc.weaken (fun _ _ _ _ => trivial), hG.go hS hFc hU hW⟩⟩ (g := F0 m pc ls (as.reverse ++ .ref (ad 0 x.toNatClampNeg) :: rest)) rfl hn hsize rfl (lv_room hW) hdg hf
  refine W.nb (fun hN => ?_)
  intro T hT X
  rcases hr T hT X with ⟨v, st₀, t, T', L, h0, X', hL, e1, e2, ⟨⟨v2, u, hv, hp, hb⟩, hF, hN1⟩, st⟩ | ⟨q, st₀, t, T', L, E, ce, h0, X', hL, e1, e2, ⟨⟨u, hp, hb⟩, hF⟩, hce, hcv, hcl, st⟩
  · cases hv
    obtain ⟨k1, k2, k3⟩ := vx_keep h0 e1 hS (fun q _ h => hFc q h) hFc hL hF
    obtain ⟨b1, b2, b3⟩ := hb
    rw [h0, ← e1] at hN1
    obtain ⟨j1, j2⟩ := lw_join hP hD k2 hFc (by rw [e1]; exact b1) b3
    obtain ⟨t2, a1, c1⟩ := W.narrow (NBw_tr hN hN1) (kk v u T'.heap (locs ++ L) hp j1 j2 k3) T' rfl X'
    exact ⟨t2, st t2 a1, c1⟩
  · exact absurd hp (hno _ _)
end LW1
/-- what the class's state bears between two calls -/
def KI (it : Nat) (lx : List Nat) (sg : Nat → Int32) (gm : Nat → Nat → Int32) (lg : Nat → Nat → Int64) : Prop := CI sg gm ∧ LDI lx gm ∧ FND9 sg gm ∧ BEL9 sg gm ∧ UB 12 (1203 * it) gm ∧ UB 18 (1203 * it) gm ∧ ((sg 1).toInt = 0 ∨ (WRD sg gm lg ∧ MOK sg gm lg))
theorem UB_w {k K K2 : Nat} {gm gm2 : Nat → Nat → Int32} (h : UB k K gm) (e : gm2 k = gm k) (hK : K ≤ K2) : UB k K2 gm2 := fun j hj => by
  have := h j hj
  rw [e]; omega
/-- a call that leaves the document and what is made -/
theorem KI_of {it : Nat} {lx : List Nat} {sg sg2 : Nat → Int32} {gm gm2 : Nat → Nat → Int32} {lg lg2 : Nat → Nat → Int64} {Ls Lg Ll : List Nat} (h : KI it lx sg gm lg) (hI : CI sg2 gm2) (h1 : KS Ls sg sg2) (h2 : KS Lg gm gm2) (h3 : KS Ll lg lg2) (q1 : ([1, 4, 12, 15].all fun k => !Ls.contains k) = true) (q2 : ([12, 14, 15, 16, 17, 18, 19, 20, 22, 25, 26, 27, 29, 35, 38, 39, 41, 42, 44, 45, 46, 51, 57].all fun k => !Lg.contains k) = true) (q3 : ([0, 4].all fun k => !Ll.contains k) = true) : KI (it + 1) lx sg2 gm2 lg2 := by
  have f1 : ∀ k ∈ [1, 4, 12, 15], sg2 k = sg k := fun k hk => h1 k (by have := List.all_eq_true.mp q1 k hk; simpa using this)
  have f2 : ∀ k ∈ [12, 14, 15, 16, 17, 18, 19, 20, 22, 25, 26, 27, 29, 35, 38, 39, 41, 42, 44, 45, 46, 51, 57], gm2 k = gm k := fun k hk => h2 k (by have := List.all_eq_true.mp q2 k hk; simpa using this)
  have f3 : ∀ k ∈ [0, 4], lg2 k = lg k := fun k hk => h3 k (by have := List.all_eq_true.mp q3 k hk; simpa using this)
  obtain ⟨-, b1, b2, b3, b4, b5, b6⟩ := h
  refine ⟨hI, LDI_e b1 (f2 41 (by decide)) (f2 42 (by decide)) (f2 57 (by decide)), FND9_e b2 (f1 15 (by decide)) (f2 51 (by decide)), ?_, UB_w b4 (f2 12 (by decide)) (by omega), UB_w b5 (f2 18 (by decide)) (by omega), ?_⟩
  · unfold BEL9 at *; rw [f1 12 (by decide), f2 29 (by decide)]; exact b3
  · rcases b6 with q | ⟨q, q9⟩
    · exact Or.inl (by rw [f1 1 (by decide)]; exact q)
    · exact Or.inr ⟨WRD_e q (f1 4 (by decide)) (f1 12 (by decide)) (f2 14 (by decide)) (f2 15 (by decide)) (f2 16 (by decide)) (f2 17 (by decide)) (f2 19 (by decide)) (f2 20 (by decide)) (f2 22 (by decide)) (f2 25 (by decide)) (f2 26 (by decide)) (f2 27 (by decide)) (f2 29 (by decide)) (f2 41 (by decide)) (f2 44 (by decide)) (f2 45 (by decide)) (f2 46 (by decide)) (f2 57 (by decide)) (f3 0 (by decide)) (f3 4 (by decide)), MOK_e q9 (f1 12 (by decide)) (f2 35 (by decide)) (f2 38 (by decide)) (f2 39 (by decide)) (f3 4 (by decide))⟩
/-- a call that makes, or forgets what is made -/
theorem KI_mk {it : Nat} {lx : List Nat} {sg sg2 : Nat → Int32} {gm gm2 : Nat → Nat → Int32} {lg lg2 : Nat → Nat → Int64} {Ls Lg Ll : List Nat} (h : KI it lx sg gm lg) (hI : CI sg2 gm2) (h1 : KS Ls sg sg2) (h2 : KS Lg gm gm2) (h3 : KS Ll lg lg2) (hm : (sg 1).toInt = 0 ∨ MOK sg2 gm2 lg2) (hf : FND9 sg2 gm2) (q1 : ([1, 4, 12].all fun k => !Ls.contains k) = true) (q2 : ([12, 14, 15, 16, 17, 18, 19, 20, 22, 25, 26, 27, 29, 41, 42, 44, 45, 46, 57].all fun k => !Lg.contains k) = true) (q3 : ([0, 4].all fun k => !Ll.contains k) = true) : KI (it + 1) lx sg2 gm2 lg2 := by
  have f1 : ∀ k ∈ [1, 4, 12], sg2 k = sg k := fun k hk => h1 k (by have := List.all_eq_true.mp q1 k hk; simpa using this)
  have f2 : ∀ k ∈ [12, 14, 15, 16, 17, 18, 19, 20, 22, 25, 26, 27, 29, 41, 42, 44, 45, 46, 57], gm2 k = gm k := fun k hk => h2 k (by have := List.all_eq_true.mp q2 k hk; simpa using this)
  have f3 : ∀ k ∈ [0, 4], lg2 k = lg k := fun k hk => h3 k (by have := List.all_eq_true.mp q3 k hk; simpa using this)
  obtain ⟨-, b1, b2, b3, b4, b5, b6⟩ := h
  refine ⟨hI, LDI_e b1 (f2 41 (by decide)) (f2 42 (by decide)) (f2 57 (by decide)), hf, ?_, UB_w b4 (f2 12 (by decide)) (by omega), UB_w b5 (f2 18 (by decide)) (by omega), ?_⟩
  · unfold BEL9 at *; rw [f1 12 (by decide), f2 29 (by decide)]; exact b3
  · rw [f1 1 (by decide)]
    rcases b6 with q | ⟨q, -⟩
    · exact Or.inl q
    · rcases hm with q9 | q9
      · exact Or.inl q9
      · exact Or.inr ⟨WRD_e q (f1 4 (by decide)) (f1 12 (by decide)) (f2 14 (by decide)) (f2 15 (by decide)) (f2 16 (by decide)) (f2 17 (by decide)) (f2 19 (by decide)) (f2 20 (by decide)) (f2 22 (by decide)) (f2 25 (by decide)) (f2 26 (by decide)) (f2 27 (by decide)) (f2 29 (by decide)) (f2 41 (by decide)) (f2 44 (by decide)) (f2 45 (by decide)) (f2 46 (by decide)) (f2 57 (by decide)) (f3 0 (by decide)) (f3 4 (by decide)), q9⟩
theorem KI_cl {it : Nat} {lx : List Nat} {sg sg2 : Nat → Int32} {gm gm2 : Nat → Nat → Int32} {lg lg2 : Nat → Nat → Int64} {Ls Lg Ll : List Nat} (h : KI it lx sg gm lg) (hI : CI sg2 gm2) (h1 : KS Ls sg sg2) (h2 : KS Lg gm gm2) (h3 : KS Ll lg lg2) (hm : ∀ j9, j9 < (sg 12).toNatClampNeg → gm2 38 j9 = 0) (hf : (sg2 15).toInt = 0) (q1 : ([1, 4, 12].all fun k => !Ls.contains k) = true) (q2 : ([12, 14, 15, 16, 17, 18, 19, 20, 22, 25, 26, 27, 29, 41, 42, 44, 45, 46, 57].all fun k => !Lg.contains k) = true) (q3 : ([0, 4].all fun k => !Ll.contains k) = true) : KI (it + 1) lx sg2 gm2 lg2 :=
  KI_mk h hI h1 h2 h3 (Or.inr (MOK_0 (fun c hc => hm c (by rw [← h1 12 (by have := List.all_eq_true.mp q1 12 (by decide); simpa using this)]; exact hc)))) (FND9_0 hf) q1 q2 q3
theorem KI_rd {it : Nat} {lx2 : List Nat} {sg2 : Nat → Int32} {gm2 : Nat → Nat → Int32} {lg2 : Nat → Nat → Int64} (hI : CI sg2 gm2) (u12 : UB 12 (1203 * it + 1203) gm2) (u18 : UB 18 (1203 * it + 1203) gm2) (hl : LDI lx2 gm2) (h15 : (sg2 15).toInt = 0) (hw : WRM sg2 gm2 lg2) : KI (it + 1) lx2 sg2 gm2 lg2 :=
  ⟨hI, hl, FND9_0 h15, fun b hb => (hw.1.2.2.1 b hb).1, UB_w u12 rfl (by omega), UB_w u18 rfl (by omega), Or.inr ⟨hw.1, MOK_0 (fun c hc => (hw.2 c hc).2)⟩⟩
theorem KI_rx {it : Nat} {lx2 : List Nat} {sg2 : Nat → Int32} {gm2 : Nat → Nat → Int32} {lg2 : Nat → Nat → Int64} (hI : CI sg2 gm2) (u12 : UB 12 (1203 * it + 1203) gm2) (u18 : UB 18 (1203 * it + 1203) gm2) (hl : LDI lx2 gm2) (h15 : (sg2 15).toInt = 0) (h12 : (sg2 12).toInt = 0) (h1 : (sg2 1).toInt = 0) : KI (it + 1) lx2 sg2 gm2 lg2 :=
  ⟨hI, hl, FND9_0 h15, fun b hb => by have k : (sg2 12).toNatClampNeg = (sg2 12).toInt.toNat := rfl; omega, UB_w u12 rfl (by omega), UB_w u18 rfl (by omega), Or.inl h1⟩
end
