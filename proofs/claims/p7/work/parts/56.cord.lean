theorem dJx29ce0_ordinal_8abf5_0 : decode cJx29ce0_ordinal_8abf5 0 = .ok (.aload_n 0, 1) := by decide +kernel
theorem dJx29ce0_ordinal_8abf5_1 : decode cJx29ce0_ordinal_8abf5 1 = .ok (.getfield 7, 3) := by decide +kernel
theorem dJx29ce0_ordinal_8abf5_4 : decode cJx29ce0_ordinal_8abf5 4 = .ok (.ireturn, 1) := by decide +kernel
set_option maxHeartbeats 4000000 in
set_option maxRecDepth 100000 in
/-- a word's number -/
theorem k_ordinal (l : Launch) (q : Nat) (z : Int32) (B : Nat → Prop) (sz : Nat) : Met l yJx29ce0_ordinal_8abf5 wm_Jx29ce0_ordinal_8abf5 ({ frames := 0, cells := 0, slots := 0, locals := 0 }) (va_Pc [.ref q] (fun U => U.heap.size = sz ∧ va_OF "java/lang/Enum" "ordinal" "I" (.int z) q B U U.heap)) (va_Qi (fun (r : Int32) (_ : Unit) => r = z) (fun _ _ => True) (fun x => sz ≤ x)) 0 0 (fun x => sz ≤ x) := by
  refine Met.ofW (cc := cJx29ce0_ordinal_8abf5) (maxL := 1) (ret := (some .int)) (by decide) rfl ?_
  intro p e s m args below meth c s₁ B9 hml hv
  obtain ⟨rfl, hsz, hO⟩ := hv
  have hx := B9.exec
  have hb := B9.bytes
  have hr := B9.returns
  have hts := atoms_spec (ws := wm_Jx29ce0_ordinal_8abf5) B9.pre
  have htb := fun (w : Cond) (h : w ∈ tb) => hts w (List.mem_cons_of_mem _ h)
  have hown : s.vm.findClass RJx29ce0 = some m.cls := findClass_of_methodNamed B9.named
  have hlocks := B9.notSynchronized
  subst hsz
  have hS : va_S (fun x => s.heap.size ≤ x) s.heap s.heap [] := va_S.rf
  have hS2 : va_S B s.heap s.heap [] := va_S.rf
  have hl := lv_entry ([.ref q]) (n := 1) (Nat.le_of_ble_eq_true rfl)
  rw [lg_entry_eq]
  generalize (lg_sl ([.ref q]) ++ List.replicate (1 - (lg_sl ([.ref q])).length) Slot.unset).toArray = ls at hl ⊢
  have hl : lv_has ls 1 [(0, .ref q)] := hl
  refine lv_aload_n hx hb dJx29ce0_ordinal_8abf5_0 rfl (lv_at hl 0 rfl) ?_
  refine vk_getf hx hb hO hS2 hown (htb _ kw_525) (fun _ h9 => h9) dJx29ce0_ordinal_8abf5_1 ?_
  exact W.iret (v := z) hx hb hr (fun t ht hW => ⟨⟨z, (), rfl, rfl, trivial⟩, hS.F ht⟩) hS.2.2 dJx29ce0_ordinal_8abf5_4
theorem gd_U {own C owner : String} {idx : Nat} {x y : MethodName} {w : Cond} (h1 : Cond.methodLink own idx x ∈ tb) (h2 : Cond.sameMethod x.cls owner x.name x.desc ∈ tb) (h3 : Cond.selects C x y ∈ tb) (h4 : Cond.instanceMethod y ∈ tb) (h5 : Cond.initialized y.cls ∈ tb) (h6 : w ∈ tb) : GoodIn tb (va_wsU own idx C owner x y (w :: tb)) := by
  intro v hv
  unfold va_wsU at hv
  rcases List.mem_append.mp hv with h | h
  · simp only [List.mem_cons, List.not_mem_nil, or_false] at h
    rcases h with rfl | rfl | rfl | rfl | rfl
    · exact tb_good _ h1
    · exact tb_good _ h2
    · exact tb_good _ h3
    · exact tb_good _ h4
    · exact tb_good _ h5
  · exact gd_c h6 v h
section ORD
variable {p : Program} {l : Launch} {e : Env} {R : Room} {s : State} {m : MethodId} {args : Array Value} {below : List Frame} {meth : Method} {c : Code} {H : Heap} {locs : List Loc} {Q : State → Prop} {cc : ByteArray} {pc : Nat} {ls : Array Slot} {rest : List Value} {A : Nat → Prop}
variable {dC : Nat → ClassId} {dI : Nat → Nat → Nat} {ad : Nat → Nat → Nat} {cid : Nat → ClassId} {a2 : Nat → Nat} {lx : List Nat} {sg : Nat → Int32} {gm : Nat → Nat → Int32} {lg : Nat → Nat → Int64} {own : String} {index nL : Nat} {cells slots : Nat}
theorem cw_ord {x : Int32} (S : CallFix p m c cc nL s args tb own) (hlk : Cond.methodLink own index ⟨"WiredBeans$Word", "ordinal", "()I"⟩ ∈ tb) (hx : iv 0 33 x) (hsize : ls.size = nL) (hW : (rest.map fun v => v.category).sum ≤ 8) (hdg : decode cc pc = .ok (.invokevirtual index, 3)) (hf : cells ≤ R.cells ∧ slots ≤ R.slots) (hR : 1 ≤ R.frames ∧ 20 ≤ R.locals) (hP : va_P (dC, dI) vwCl (cW ad cid a2 lx sg gm lg) H) (hD : va_D A (cW ad cid a2 lx sg gm lg)) (hS : va_S A s.heap H locs) (hA : ∀ q, s.heap.size ≤ q → A q) (hG : CE ad A s)
    (kk : ∀ (H1 : Heap) (locs1 : List Loc), va_P (dC, dI) vwCl (cW ad cid a2 lx sg gm lg) H1 → va_S A s.heap H1 locs1 → W p l e R s m args below meth c H1 locs1 cells slots Q (F0 m (pc + 3) ls (.int x :: rest))) : W p l e R s m args below meth c H locs cells slots Q (F0 m pc ls (eV (ad 33) x :: rest)) := by
  have h34 : x.toNatClampNeg < 34 := by have := iv_cl hx (by decide); have := hx.2; omega
  have hw9 := hG.2.2.1.1 x.toNatClampNeg h34
  rw [iv_nI hx (by decide)] at hw9
  rw [eV_ref hx.1]
  have hFc : ∀ q, H.size ≤ q → A q := fun q h => hA q (Nat.le_trans hS.1 h)
  obtain ⟨cell, g1, g2, g3, g4⟩ := hw9.2.1.kept hS.2.1
  refine va_calli (va_runU (cells := cells) (slots := slots) (As := []) (rest := rest) (x := ⟨"WiredBeans$Word", "ordinal", "()I"⟩) (C := "WiredBeans$Word") (owner := "java/lang/Enum") S (k_ordinal l (ad 33 x.toNatClampNeg) x A H.size) (va_cwU 0 S.2.2.2.2 (gd_U hlk kw_521 kw_522 kw_523 kw_524 kw_1461) rfl rfl rfl rfl (by decide +kernel) ⟨hR.1, hR.2⟩) ⟨fun a U g mk q => by obtain ⟨q0, q1, qO⟩ := q; exact ⟨q0, q1, va_OF.moved (u := U) (U := U.calling g mk a) (Vm.Alike.refl U.vm) qO⟩, ⟨cell, g1, g2, g3⟩, fun U hU hW9 => ⟨rfl, by rw [hU], by rw [hU]; exact va_OF.moved hW9.alike (hw9.2.2.1.kept hS.2.1)⟩⟩ rfl rfl hsize rfl (lv_room hW) hdg ⟨by omega, by omega⟩) hS (fun q _ h => hFc q h) hFc (fun r u t H1 locs1 ht hvm hw hB hz1 hk1 hS1 => ?_)
  subst hw
  exact kk H1 locs1 (hP.kept (fun k q hq => hk1 _ (vx_lt hP hq) (Nat.not_le.mpr (vx_lt hP hq)))) hS1
end ORD
