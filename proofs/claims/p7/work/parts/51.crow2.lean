/-- all slots of a heap -/
def hz (H : Heap) : Nat := (H.toList.map (·.slots.size)).sum
/-- no more than k new cells and n new slots -/
def NBw (H0 H : Heap) (k n : Nat) : Prop := H.size ≤ H0.size + k ∧ hz H ≤ hz H0 + n
theorem NBw_tr {H0 H1 H2 : Heap} {k1 n1 k2 n2 : Nat} (h1 : NBw H0 H1 k1 n1) (h2 : NBw H1 H2 k2 n2) : NBw H0 H2 (k1 + k2) (n1 + n2) := ⟨by have := h1.1; have := h2.1; omega, by have := h1.2; have := h2.2; omega⟩
theorem NBw_00 {H0 H1 H2 : Heap} (h1 : NBw H0 H1 0 0) (h2 : NBw H1 H2 0 0) : NBw H0 H2 0 0 := NBw_tr h1 h2
theorem NBw_rf {H : Heap} : NBw H H 0 0 := ⟨Nat.le_refl _, Nat.le_refl _⟩
theorem hz_new {s T : State} {locs : List Loc} {k n : Nat} (h : s.sameButNew T locs k n) : hz T.heap = hz s.heap + ((T.heap.toList.drop s.heap.size).map (·.slots.size)).sum := by
  obtain ⟨-, h1, -, -, -, h5⟩ := h
  unfold hz
  have e1 : T.heap.toList = T.heap.toList.take s.heap.size ++ T.heap.toList.drop s.heap.size := (List.take_append_drop _ _).symm
  have e2 : (T.heap.toList.take s.heap.size).map (·.slots.size) = s.heap.toList.map (·.slots.size) := by
    apply List.ext_getElem?
    intro i
    rw [List.getElem?_map, List.getElem?_map]
    by_cases hi : i < s.heap.size
    · have g1 : s.heap[i]? = some s.heap[i] := Array.getElem?_eq_getElem hi
      obtain ⟨c', g2, -, g3, -⟩ := h5 i _ g1
      rw [List.getElem?_take_of_lt hi, Array.getElem?_toList, Array.getElem?_toList, g1, g2]
      exact congrArg some g3
    · rw [List.getElem?_eq_none (by rw [List.length_take, Array.length_toList]; omega), List.getElem?_eq_none (by rw [Array.length_toList]; omega)]
  rw [e1, List.map_append, List.sum_append, e2, ← e1]
section NBW
variable {p : Program} {l : Launch} {e : Env} {R : Room} {s : State} {m : MethodId} {args : Array Value} {below : List Frame} {meth : Method} {c : Code} {H : Heap} {locs : List Loc} {cells slots : Nat} {Q : State → Prop} {g : JFrame}
theorem W.nb (kk : NBw s.heap H cells slots → W p l e R s m args below meth c H locs cells slots Q g) : W p l e R s m args below meth c H locs cells slots Q g := by
  intro T hT X
  refine kk ?_ T hT X
  have h := X.same
  have h2 := hz_new h
  obtain ⟨-, h3, h4, -, h5, -⟩ := h
  have e1 : (T.setVm s.vm).heap = H := hT
  rw [e1] at h2 h4 h5
  exact ⟨h4, by omega⟩
theorem NBw_same {s T : State} {locs : List Loc} {k n k2 n2 : Nat} (h : s.sameButNew T locs k n) (hb : NBw s.heap T.heap k2 n2) : s.sameButNew T locs k2 n2 := by
  have h2 := hz_new h
  obtain ⟨a1, a2, a3, a4, a5, a6⟩ := h
  exact ⟨a1, a2, hb.1, a4, by have := hb.2; omega, a6⟩
theorem W.narrow {k n : Nat} (hb : NBw s.heap H k n) (kk : W p l e R s m args below meth c H locs k n Q g) : W p l e R s m args below meth c H locs cells slots Q g := by
  intro T hT X
  have e1 : (T.setVm s.vm).heap = H := hT
  exact kk T hT { X with same := NBw_same X.same (by rw [e1]; exact hb) }
end NBW
section ER
variable {p : Program} {l : Launch} {e : Env} {R : Room} {s : State} {m : MethodId} {args : Array Value} {below : List Frame} {meth : Method} {c : Code} {H : Heap} {locs : List Loc} {cells slots : Nat} {Q : State → Prop} {cc : ByteArray} {pc : Nat} {ls : Array Slot} {rest : List Value}
theorem ec_aload_n {a : Nat → Nat} {x : Int32} (hexec : p.tables.exec = Jvm.exec) (hb : c.code = cc) {k : Fin 4} {i : Nat} (hdg : decode cc pc = .ok (.aload_n k, 1)) (hi : (k : Nat) = i) (hl : ls[i]? = some (.val (eV a x)))
    (kk : W p l e R s m args below meth c H locs cells slots Q (F0 m (pc + 1) ls (eV a x :: rest))) : W p l e R s m args below meth c H locs cells slots Q (F0 m pc ls rest) := by
  have hv := eV_is a x
  generalize eV a x = v at *
  rcases hv with rfl | ⟨q, rfl⟩
  · exact lv_aload_nN hexec hb hdg hi hl kk
  · exact lv_aload_n hexec hb hdg hi hl kk
theorem ec_aload {a : Nat → Nat} {x : Int32} (hexec : p.tables.exec = Jvm.exec) (hb : c.code = cc) {i : Nat} (hdg : decode cc pc = .ok (.aload i, 2)) (hl : ls[i]? = some (.val (eV a x)))
    (kk : W p l e R s m args below meth c H locs cells slots Q (F0 m (pc + 2) ls (eV a x :: rest))) : W p l e R s m args below meth c H locs cells slots Q (F0 m pc ls rest) := by
  have hv := eV_is a x
  generalize eV a x = v at *
  rcases hv with rfl | ⟨q, rfl⟩
  · exact lv_aloadN hexec hb hdg hl kk
  · exact lv_aload hexec hb hdg hl kk
theorem ec_astore_n {a : Nat → Nat} {x : Int32} (hexec : p.tables.exec = Jvm.exec) (hb : c.code = cc) {k : Fin 4} {i nL : Nat} {lv lv' : List (Nat × Value)} (hdg : decode cc pc = .ok (.astore_n k, 1)) (hi : (k : Nat) = i) (h : lv_has ls nL lv) (hn : i < nL) (hl : (i, eV a x) :: lv.filter (fun q => !(q.1 == i) && !(q.1 + 1 == i && q.2.category == 2)) = lv')
    (kk : ∀ ls' : Array Slot, lv_has ls' nL lv' → W p l e R s m args below meth c H locs cells slots Q (F0 m (pc + 1) ls' rest)) : W p l e R s m args below meth c H locs cells slots Q (F0 m pc ls (eV a x :: rest)) := by
  have hv := eV_is a x
  subst hl
  generalize eV a x = v at *
  rcases hv with rfl | ⟨q, rfl⟩
  · exact lv_astore_nN hexec hb hdg hi h hn rfl kk
  · exact lv_astore_n hexec hb hdg hi h hn rfl kk
theorem ec_astore {a : Nat → Nat} {x : Int32} (hexec : p.tables.exec = Jvm.exec) (hb : c.code = cc) {i nL : Nat} {lv lv' : List (Nat × Value)} (hdg : decode cc pc = .ok (.astore i, 2)) (h : lv_has ls nL lv) (hn : i < nL) (hl : (i, eV a x) :: lv.filter (fun q => !(q.1 == i) && !(q.1 + 1 == i && q.2.category == 2)) = lv')
    (kk : ∀ ls' : Array Slot, lv_has ls' nL lv' → W p l e R s m args below meth c H locs cells slots Q (F0 m (pc + 2) ls' rest)) : W p l e R s m args below meth c H locs cells slots Q (F0 m pc ls (eV a x :: rest)) := by
  have hv := eV_is a x
  subst hl
  generalize eV a x = v at *
  rcases hv with rfl | ⟨q, rfl⟩
  · exact lv_astoreN hexec hb hdg h hn rfl kk
  · exact lv_astore hexec hb hdg h hn rfl kk
theorem ec_null {a : Nat → Nat} (hexec : p.tables.exec = Jvm.exec) (hb : c.code = cc) (hdg : decode cc pc = .ok (.aconst_null, 1)) (kk : W p l e R s m args below meth c H locs cells slots Q (F0 m (pc + 1) ls (eV a (-1) :: rest))) : W p l e R s m args below meth c H locs cells slots Q (F0 m pc ls rest) := by
  rw [eV_null (by decide)] at kk
  exact lv_null hexec hb hdg kk
theorem ec_ifnull {a : Nat → Nat} {x : Int32} (hexec : p.tables.exec = Jvm.exec) (hb : c.code = cc) {off : Int} {tgt : Nat} (hdg : decode cc pc = .ok (.ifnull off, 3)) (ht : (pc : Int) + off = (tgt : Int)) (kt : x.toInt < 0 → W p l e R s m args below meth c H locs cells slots Q (F0 m tgt ls rest)) (kf : 0 ≤ x.toInt → W p l e R s m args below meth c H locs cells slots Q (F0 m (pc + 3) ls rest)) : W p l e R s m args below meth c H locs cells slots Q (F0 m pc ls (eV a x :: rest)) := by
  by_cases h : x.toInt < 0
  · rw [eV_null h]; exact lv_ifnullN hexec hb hdg ht (kt h)
  · rw [eV_ref (by omega)]; exact lv_ifnull hexec hb hdg (kf (by omega))
theorem ec_ifnonnull {a : Nat → Nat} {x : Int32} (hexec : p.tables.exec = Jvm.exec) (hb : c.code = cc) {off : Int} {tgt : Nat} (hdg : decode cc pc = .ok (.ifnonnull off, 3)) (ht : (pc : Int) + off = (tgt : Int)) (kt : 0 ≤ x.toInt → W p l e R s m args below meth c H locs cells slots Q (F0 m tgt ls rest)) (kf : x.toInt < 0 → W p l e R s m args below meth c H locs cells slots Q (F0 m (pc + 3) ls rest)) : W p l e R s m args below meth c H locs cells slots Q (F0 m pc ls (eV a x :: rest)) := by
  by_cases h : x.toInt < 0
  · rw [eV_null h]; exact lv_ifnonnullN hexec hb hdg (kf h)
  · rw [eV_ref (by omega)]; exact lv_ifnonnull hexec hb hdg ht (kt (by omega))
theorem ec_acmp_eq {a b : Nat → Nat} {x y : Int32} (hexec : p.tables.exec = Jvm.exec) (hb : c.code = cc) {off : Int} {tgt : Nat} (hdg : decode cc pc = .ok (.if_acmp .eq off, 3)) (ht : (pc : Int) + off = (tgt : Int))
    (kt : er a x = er b y → W p l e R s m args below meth c H locs cells slots Q (F0 m tgt ls rest)) (kf : ¬ er a x = er b y → W p l e R s m args below meth c H locs cells slots Q (F0 m (pc + 3) ls rest)) : W p l e R s m args below meth c H locs cells slots Q (F0 m pc ls (eV b y :: eV a x :: rest)) := lv_acmp_eq (rx := er a x) (ry := er b y) hexec hb hdg ht kt kf
theorem ec_acmp_ne {a b : Nat → Nat} {x y : Int32} (hexec : p.tables.exec = Jvm.exec) (hb : c.code = cc) {off : Int} {tgt : Nat} (hdg : decode cc pc = .ok (.if_acmp .ne off, 3)) (ht : (pc : Int) + off = (tgt : Int))
    (kt : ¬ er a x = er b y → W p l e R s m args below meth c H locs cells slots Q (F0 m tgt ls rest)) (kf : er a x = er b y → W p l e R s m args below meth c H locs cells slots Q (F0 m (pc + 3) ls rest)) : W p l e R s m args below meth c H locs cells slots Q (F0 m pc ls (eV b y :: eV a x :: rest)) := lv_acmp_ne (rx := er a x) (ry := er b y) hexec hb hdg ht kt kf
end ER
theorem cs_n : (([] : List Value).map fun v => v.category).sum ≤ 0 := Nat.le_refl 0
theorem cs_c {v : Value} {r : List Value} {k n : Nat} (h : v.category = k) (ht : (r.map fun v => v.category).sum ≤ n) : ((v :: r).map fun v => v.category).sum ≤ k + n := by
  rw [List.map_cons, List.sum_cons, h]; omega
theorem ev_n {a : Nat → Nat} {x : Int32} (C9 : String) : narrow (.object C9) (eV a x) = eV a x := by
  rcases eV_is a x with h | ⟨q, h⟩ <;> rw [h] <;> rfl
theorem ev_f {a : Nat → Nat} {x : Int32} (C9 : String) : fits (.object C9) (eV a x) = true := by
  rcases eV_is a x with h | ⟨q, h⟩ <;> rw [h] <;> rfl
theorem ev_na {a : Nat → Nat} {x : Int32} (t9 : FieldType) : narrow (.array t9) (eV a x) = eV a x := by
  rcases eV_is a x with h | ⟨q, h⟩ <;> rw [h] <;> rfl
theorem ev_fa {a : Nat → Nat} {x : Int32} (t9 : FieldType) : fits (.array t9) (eV a x) = true := by
  rcases eV_is a x with h | ⟨q, h⟩ <;> rw [h] <;> rfl
/-- every field and every place of the class keeps to its range -/
def CI (sg : Nat → Int32) (gm : Nat → Nat → Int32) : Prop := (∀ k, iv (csLo k) (csHi k) (sg k)) ∧ ∀ k i, i < crLen k → iv (caLo k) (caHi k) (gm k i)
theorem CI_s {sg : Nat → Int32} {gm : Nat → Nat → Int32} (h : CI sg gm) (k : Nat) : iv (csLo k) (csHi k) (sg k) := h.1 k
theorem CI_a {sg : Nat → Int32} {gm : Nat → Nat → Int32} {a b : Int} {x : Int32} (h : CI sg gm) (k : Nat) (hx : iv a b x) (q : 0 ≤ a ∧ b < (crLen k : Int)) : iv (caLo k) (caHi k) (gm k x.toNatClampNeg) := h.2 k _ (by
  have h1 := iv_cl hx q.1
  have h2 := hx.2
  have h3 := q.2
  omega)
theorem CI_n {sg : Nat → Int32} {gm : Nat → Nat → Int32} {n : Nat} (h : CI sg gm) (k : Nat) (q : n < crLen k) : iv (caLo k) (caHi k) (gm k n) := h.2 k n q
theorem CI_put {sg sg1 : Nat → Int32} {gm : Nat → Nat → Int32} {a b : Int} {x : Int32} {k : Nat} (h : CI sg gm) (q : sg1 = va_up sg k x) (hx : iv a b x) (hk : csLo k ≤ a ∧ b ≤ csHi k) : CI sg1 gm := ⟨fun j => by
  by_cases hj : j = k
  · subst hj; rw [up_at q]; exact iv_w hx hk
  · rw [up_ne q hj]; exact h.1 j, h.2⟩
theorem CI_st {sg : Nat → Int32} {gm gm1 : Nat → Nat → Int32} {a b : Int} {x : Int32} {k j : Nat} (h : CI sg gm) (q : gm1 = va_up gm k (upd (gm k) j x)) (hx : iv a b x) (hk : caLo k ≤ a ∧ b ≤ caHi k) : CI sg gm1 := ⟨h.1, fun i n hn => by
  by_cases hj : i = k
  · subst hj
    rw [up_at q]
    show iv _ _ (if n = j then x else gm i n)
    by_cases e9 : n = j
    · rw [if_pos e9]; exact iv_w hx hk
    · rw [if_neg e9]; exact h.2 i n hn
  · rw [up_ne q hj]; exact h.2 i n hn⟩
section CRR
variable {p : Program} {l : Launch} {e : Env} {R : Room} {s : State} {m : MethodId} {args : Array Value} {below : List Frame} {meth : Method} {c : Code} {H : Heap} {locs : List Loc} {cells slots : Nat} {Q : State → Prop} {cc : ByteArray} {pc : Nat} {ls : Array Slot} {rest : List Value} {A : Nat → Prop} {H0 : Heap}
variable {dC : Nat → ClassId} {dI : Nat → Nat → Nat} {ad : Nat → Nat → Nat} {cid : Nat → ClassId} {a2 : Nat → Nat} {lx : List Nat} {sg : Nat → Int32} {gm : Nat → Nat → Int32} {lg : Nat → Nat → Int64} {Ts : List Cond} {own : String} {index : Nat}
theorem cnx {t : Nat} {h : Int} {x : Int32} (hx : iv 0 h x) (hn : h < (cNum t : Int)) : x.toNatClampNeg < cNum t := by
  have h1 := iv_cl hx (by decide)
  have h2 := hx.2
  omega
theorem cr_get {t j : Nat} {h : Int} {x : Int32} {C : String} {T : u_T} {N : Nat} (hexec : p.tables.exec = Jvm.exec) (hb : c.code = cc) (hts : ∀ w ∈ Ts, w.before args s = true) (hin : ∀ w ∈ u_ws C T N, w ∈ Ts) (hown : s.vm.findClass own = some m.cls) (hK : va_K (dC, dI) vwCl (cT cid) s) (hP : va_P (dC, dI) vwCl (cW ad cid a2 lx sg gm lg) H) (hx : iv 0 h x) (hn : h < (cNum t : Int)) (ht : t < 12) (hj : j < cNf t) (hc : vwCl[cIx t]? = some (C, T, N)) (hjN : j < N) (hlink : (Cond.fieldLink own index (T j).1 (T j).2.1 (T j).2.2.1).before args s = true) {v : Value} (hv : cV ad a2 sg gm lg t j x.toNatClampNeg = v) (hdg : decode cc pc = .ok (.getfield index, 3))
    (kk : W p l e R s m args below meth c H locs cells slots Q (F0 m (pc + 3) ls (v :: rest))) : W p l e R s m args below meth c H locs cells slots Q (F0 m pc ls (eV (ad t) x :: rest)) := by
  obtain ⟨p9, hp⟩ := cPL_at (t := t) (by omega) (cnx hx hn)
  rw [eV_ref hx.1]
  exact va_get (D := (dC, dI)) (ci := cIx t) (C := C) (T := T) (N := N) hexec hb hts hin hown hK hP p9 (by rw [cW_at hp, cE_o ht]) hc j hjN hlink (fun _ h9 => h9) (by rw [cFs_get hj, hv]) hdg kk
theorem cr_putg {t j k : Nat} {h : Int} {x y : Int32} {C : String} {T : u_T} {N : Nat} {ty0 : Nat → FieldType} (hexec : p.tables.exec = Jvm.exec) (hb : c.code = cc) (hts : ∀ w ∈ Ts, w.before args s = true) (hin : ∀ w ∈ u_ws C T N, w ∈ Ts) (hty : ∀ k, k < N → parseFieldDescriptor (T k).2.2.1 = some (ty0 k)) (hnm : ∀ a, a < N → ∀ b, b < N → a ≠ b → (T a).2.1 ≠ (T b).2.1) (hown : s.vm.findClass own = some m.cls) (hK : va_K (dC, dI) vwCl (cT cid) s) (hP : va_P (dC, dI) vwCl (cW ad cid a2 lx sg gm lg) H) (hD : va_D A (cW ad cid a2 lx sg gm lg)) (hS : va_S A H0 H locs) (hx : iv 0 h x) (hn : h < (cNum t : Int)) (ht : t < 12) (hj : j < cNf t) (hk : cKd t j = 1 ∨ cKd t j = 4) (hky : cKy t j = k) (hc : vwCl[cIx t]? = some (C, T, N)) (hjN : j < N) (hlink : (Cond.fieldLink own index (T j).1 (T j).2.1 (T j).2.2.1).before args s = true) (hfin : (T j).2.2.2 = false) {v : Value} (hv : v = cV ad a2 sg (va_up gm k (upd (gm k) x.toNatClampNeg y)) lg t j x.toNatClampNeg) (hna : narrow (ty0 j) v = v) (hfit : fits (ty0 j) v = true) (hdg : decode cc pc = .ok (.putfield index, 3))
    (kk : ∀ (gm1 : Nat → Nat → Int32) (H1 : Heap) (locs1 : List Loc), gm1 = va_up gm k (upd (gm k) x.toNatClampNeg y) → va_P (dC, dI) vwCl (cW ad cid a2 lx sg gm1 lg) H1 → va_D A (cW ad cid a2 lx sg gm1 lg) → va_S A H0 H1 locs1 → W p l e R s m args below meth c H1 locs1 cells slots Q (F0 m (pc + 3) ls rest)) : W p l e R s m args below meth c H locs cells slots Q (F0 m pc ls (v :: eV (ad t) x :: rest)) := by
  subst hky
  obtain ⟨p9, hp⟩ := cPL_at (t := t) (by omega) (cnx hx hn)
  rw [eV_ref hx.1]
  refine va_put (D := (dC, dI)) (ci := cIx t) (v := v) (ty := ty0 j) (C := C) (T := T) (N := N) hexec hb hts hin ty0 hty hnm hown hK hP hD hS p9 (by rw [cW_at hp, cE_o ht]) hc j hjN hlink (fun _ h9 => h9) hfin (hty j hjN) hna hfit (by rw [cFs_len]; exact hj) hdg (fun H1 locs1 g1 g2 g3 => kk _ H1 locs1 rfl ?_ ?_ g3)
  · rw [hv, cW_g hp ht hj hk] at g1; exact g1
  · rw [hv, cW_g hp ht hj hk] at g2; exact g2
theorem cr_puts {t j k : Nat} {h : Int} {x y : Int32} {C : String} {T : u_T} {N : Nat} {ty0 : Nat → FieldType} (hexec : p.tables.exec = Jvm.exec) (hb : c.code = cc) (hts : ∀ w ∈ Ts, w.before args s = true) (hin : ∀ w ∈ u_ws C T N, w ∈ Ts) (hty : ∀ k, k < N → parseFieldDescriptor (T k).2.2.1 = some (ty0 k)) (hnm : ∀ a, a < N → ∀ b, b < N → a ≠ b → (T a).2.1 ≠ (T b).2.1) (hown : s.vm.findClass own = some m.cls) (hK : va_K (dC, dI) vwCl (cT cid) s) (hP : va_P (dC, dI) vwCl (cW ad cid a2 lx sg gm lg) H) (hD : va_D A (cW ad cid a2 lx sg gm lg)) (hS : va_S A H0 H locs) (hx : iv 0 h x) (hn : h < (cNum t : Int)) (ht : t < 12) (hj : j < cNf t) (hk : cKd t j = 0 ∨ cKd t j = 3) (hn1 : cNum t = 1) (hky : cKy t j = k) (hc : vwCl[cIx t]? = some (C, T, N)) (hjN : j < N) (hlink : (Cond.fieldLink own index (T j).1 (T j).2.1 (T j).2.2.1).before args s = true) (hfin : (T j).2.2.2 = false) {v : Value} (hv : v = cV ad a2 (va_up sg k y) gm lg t j x.toNatClampNeg) (hna : narrow (ty0 j) v = v) (hfit : fits (ty0 j) v = true) (hdg : decode cc pc = .ok (.putfield index, 3))
    (kk : ∀ (sg1 : Nat → Int32) (H1 : Heap) (locs1 : List Loc), sg1 = va_up sg k y → va_P (dC, dI) vwCl (cW ad cid a2 lx sg1 gm lg) H1 → va_D A (cW ad cid a2 lx sg1 gm lg) → va_S A H0 H1 locs1 → W p l e R s m args below meth c H1 locs1 cells slots Q (F0 m (pc + 3) ls rest)) : W p l e R s m args below meth c H locs cells slots Q (F0 m pc ls (v :: eV (ad t) x :: rest)) := by
  subst hky
  obtain ⟨p9, hp⟩ := cPL_at (t := t) (by omega) (cnx hx hn)
  rw [eV_ref hx.1]
  refine va_put (D := (dC, dI)) (ci := cIx t) (v := v) (ty := ty0 j) (C := C) (T := T) (N := N) hexec hb hts hin ty0 hty hnm hown hK hP hD hS p9 (by rw [cW_at hp, cE_o ht]) hc j hjN hlink (fun _ h9 => h9) hfin (hty j hjN) hna hfit (by rw [cFs_len]; exact hj) hdg (fun H1 locs1 g1 g2 g3 => kk _ H1 locs1 rfl ?_ ?_ g3)
  · rw [hv, cW_s hp ht hj hk hn1] at g1; exact g1
  · rw [hv, cW_s hp ht hj hk hn1] at g2; exact g2
theorem cr_putl {t j k : Nat} {h : Int} {x : Int32} {y : Int64} {C : String} {T : u_T} {N : Nat} {ty0 : Nat → FieldType} (hexec : p.tables.exec = Jvm.exec) (hb : c.code = cc) (hts : ∀ w ∈ Ts, w.before args s = true) (hin : ∀ w ∈ u_ws C T N, w ∈ Ts) (hty : ∀ k, k < N → parseFieldDescriptor (T k).2.2.1 = some (ty0 k)) (hnm : ∀ a, a < N → ∀ b, b < N → a ≠ b → (T a).2.1 ≠ (T b).2.1) (hown : s.vm.findClass own = some m.cls) (hK : va_K (dC, dI) vwCl (cT cid) s) (hP : va_P (dC, dI) vwCl (cW ad cid a2 lx sg gm lg) H) (hD : va_D A (cW ad cid a2 lx sg gm lg)) (hS : va_S A H0 H locs) (hx : iv 0 h x) (hn : h < (cNum t : Int)) (ht : t < 12) (hj : j < cNf t) (hk : cKd t j = 2) (hky : cKy t j = k) (hc : vwCl[cIx t]? = some (C, T, N)) (hjN : j < N) (hlink : (Cond.fieldLink own index (T j).1 (T j).2.1 (T j).2.2.1).before args s = true) (hfin : (T j).2.2.2 = false) (hv : Value.long y = cV ad a2 sg gm (va_up lg k (vp_updL (lg k) x.toNatClampNeg y)) t j x.toNatClampNeg) (hna : narrow (ty0 j) (.long y) = .long y) (hfit : fits (ty0 j) (.long y) = true) (hdg : decode cc pc = .ok (.putfield index, 3))
    (kk : ∀ (lg1 : Nat → Nat → Int64) (H1 : Heap) (locs1 : List Loc), lg1 = va_up lg k (vp_updL (lg k) x.toNatClampNeg y) → va_P (dC, dI) vwCl (cW ad cid a2 lx sg gm lg1) H1 → va_D A (cW ad cid a2 lx sg gm lg1) → va_S A H0 H1 locs1 → W p l e R s m args below meth c H1 locs1 cells slots Q (F0 m (pc + 3) ls rest)) : W p l e R s m args below meth c H locs cells slots Q (F0 m pc ls (.long y :: eV (ad t) x :: rest)) := by
  subst hky
  obtain ⟨p9, hp⟩ := cPL_at (t := t) (by omega) (cnx hx hn)
  rw [eV_ref hx.1]
  refine va_put (D := (dC, dI)) (ci := cIx t) (v := .long y) (ty := ty0 j) (C := C) (T := T) (N := N) hexec hb hts hin ty0 hty hnm hown hK hP hD hS p9 (by rw [cW_at hp, cE_o ht]) hc j hjN hlink (fun _ h9 => h9) hfin (hty j hjN) hna hfit (by rw [cFs_len]; exact hj) hdg (fun H1 locs1 g1 g2 g3 => kk _ H1 locs1 rfl ?_ ?_ g3)
  · rw [hv, cW_l hp ht hj hk] at g1; exact g1
  · rw [hv, cW_l hp ht hj hk] at g2; exact g2
theorem cE_ai {t i : Nat} (h12 : 12 ≤ t) (h0 : cAk t = 0) : cE ad cid a2 sg gm lg t i = .inl (cid t, cLen t, .inl (cAi gm t i)) := by unfold cE; rw [if_neg (by omega), if_pos h0]
theorem cE_ar {t i : Nat} (h12 : 12 ≤ t) (h0 : ¬ cAk t = 0) (h1 : ¬ cAk t = 1) : cE ad cid a2 sg gm lg t i = .inl (cid t, cLen t, .inr (.inr (.inr (.inr (cAr ad gm t i))))) := by unfold cE; rw [if_neg (by omega), if_neg h0, if_neg h1]
theorem cE_al : cE ad cid a2 sg gm lg 15 0 = .inl (cid 15, cLen 15, .inr (.inl (lg 0))) := rfl
theorem cr_iald {t : Nat} {h : Int} {x y z : Int32} (hexec : p.tables.exec = Jvm.exec) (hb : c.code = cc) (hK : va_K (dC, dI) vwCl (cT cid) s) (hP : va_P (dC, dI) vwCl (cW ad cid a2 lx sg gm lg) H) (hx : iv 0 h x) (hn : h < (cNum t : Int)) (h12 : 12 ≤ t) (h32 : t < 32) (h0 : cAk t = 0) (hty : cTy t = .int) (hin : vp_in y (cLen t)) (hz : cAi gm t x.toNatClampNeg y.toNatClampNeg = z) (hdg : decode cc pc = .ok (.iaload, 1))
    (kk : W p l e R s m args below meth c H locs cells slots Q (F0 m (pc + 1) ls (.int z :: rest))) : W p l e R s m args below meth c H locs cells slots Q (F0 m pc ls (.int y :: eV (ad t) x :: rest)) := by
  obtain ⟨p9, hp⟩ := cPL_at h32 (cnx hx hn)
  rw [eV_ref hx.1]
  exact va_iald (D := (dC, dI)) hexec hb hK hP p9 t (by rw [cW_at hp, cE_ai h12 h0]) (by rw [cT_at (by omega), hty]) hin hdg (by rw [hz]; exact kk)
theorem cr_cald {t : Nat} {h : Int} {x y z : Int32} (hexec : p.tables.exec = Jvm.exec) (hb : c.code = cc) (hK : va_K (dC, dI) vwCl (cT cid) s) (hP : va_P (dC, dI) vwCl (cW ad cid a2 lx sg gm lg) H) (hx : iv 0 h x) (hn : h < (cNum t : Int)) (h12 : 12 ≤ t) (h32 : t < 32) (h0 : cAk t = 0) (hty : cTy t = .char) (hin : vp_in y (cLen t)) (hz : cAi gm t x.toNatClampNeg y.toNatClampNeg = z) (hdg : decode cc pc = .ok (.caload, 1))
    (kk : W p l e R s m args below meth c H locs cells slots Q (F0 m (pc + 1) ls (.int z :: rest))) : W p l e R s m args below meth c H locs cells slots Q (F0 m pc ls (.int y :: eV (ad t) x :: rest)) := by
  obtain ⟨p9, hp⟩ := cPL_at h32 (cnx hx hn)
  rw [eV_ref hx.1]
  exact va_cald (D := (dC, dI)) hexec hb hK hP p9 t (by rw [cW_at hp, cE_ai h12 h0]) (by rw [cT_at (by omega), hty]) hin hdg (by rw [hz]; exact kk)
theorem cr_lald {x y : Int32} (hexec : p.tables.exec = Jvm.exec) (hb : c.code = cc) (hK : va_K (dC, dI) vwCl (cT cid) s) (hP : va_P (dC, dI) vwCl (cW ad cid a2 lx sg gm lg) H) (hx : iv 0 0 x) (hin : vp_in y 240) (hdg : decode cc pc = .ok (.laload, 1))
    (kk : W p l e R s m args below meth c H locs cells slots Q (F0 m (pc + 1) ls (.long (lg 0 y.toNatClampNeg) :: rest))) : W p l e R s m args below meth c H locs cells slots Q (F0 m pc ls (.int y :: eV (ad 15) x :: rest)) := by
  have e0 : x.toNatClampNeg = 0 := by have := iv_cl hx (by decide); have := hx.2; omega
  obtain ⟨p9, hp⟩ := cPL_at (t := 15) (i := 0) (by decide) (by decide)
  rw [eV_ref hx.1, e0]
  exact va_lald (D := (dC, dI)) (f := lg 0) hexec hb hK hP p9 15 (by rw [cW_at hp, cE_al]; rfl) (by rw [cT_at (by decide)]; rfl) hin hdg kk
theorem cr_aald {t : Nat} {h : Int} {x y : Int32} {v : Value} {C : String} (hexec : p.tables.exec = Jvm.exec) (hb : c.code = cc) (hK : va_K (dC, dI) vwCl (cT cid) s) (hP : va_P (dC, dI) vwCl (cW ad cid a2 lx sg gm lg) H) (hx : iv 0 h x) (hn : h < (cNum t : Int)) (h12 : 12 ≤ t) (h32 : t < 32) (h0 : ¬ cAk t = 0) (h1 : ¬ cAk t = 1) (hty : cTy t = .object C) (hin : vp_in y (cLen t)) (hz : va_rf (cAr ad gm t x.toNatClampNeg y.toNatClampNeg) = v) (hdg : decode cc pc = .ok (.aaload, 1))
    (kk : W p l e R s m args below meth c H locs cells slots Q (F0 m (pc + 1) ls (v :: rest))) : W p l e R s m args below meth c H locs cells slots Q (F0 m pc ls (.int y :: eV (ad t) x :: rest)) := by
  obtain ⟨p9, hp⟩ := cPL_at h32 (cnx hx hn)
  rw [eV_ref hx.1]
  exact va_aldq (D := (dC, dI)) hexec hb hK hP p9 t (by rw [cW_at hp, cE_ar h12 h0 h1]) (by rw [cT_at (by omega), hty]) hin hdg (by rw [hz]; exact kk)
theorem cr_alen {t : Nat} {h : Int} {x z : Int32} (hexec : p.tables.exec = Jvm.exec) (hb : c.code = cc) (hK : va_K (dC, dI) vwCl (cT cid) s) (hP : va_P (dC, dI) vwCl (cW ad cid a2 lx sg gm lg) H) (hx : iv 0 h x) (hn : h < (cNum t : Int)) (h12 : 12 ≤ t) (h32 : t < 32) (hz : Int32.ofNat (cLen t) = z) (hdg : decode cc pc = .ok (.arraylength, 1))
    (kk : W p l e R s m args below meth c H locs cells slots Q (F0 m (pc + 1) ls (.int z :: rest))) : W p l e R s m args below meth c H locs cells slots Q (F0 m pc ls (eV (ad t) x :: rest)) := by
  obtain ⟨p9, hp⟩ := cPL_at h32 (cnx hx hn)
  rw [eV_ref hx.1]
  have e1 : ∃ w9, cE ad cid a2 sg gm lg t x.toNatClampNeg = .inl (cid t, cLen t, w9) := by unfold cE; rw [if_neg (by omega)]; exact ⟨_, rfl⟩
  obtain ⟨w9, e1⟩ := e1
  exact va_alen (D := (dC, dI)) hexec hb hK hP p9 t (by rw [cW_at hp, e1]) (cT_at (by omega)) hz hdg kk
theorem cr_iast {t k n9 : Nat} {h : Int} {x y z : Int32} (hexec : p.tables.exec = Jvm.exec) (hb : c.code = cc) (hK : va_K (dC, dI) vwCl (cT cid) s) (hP : va_P (dC, dI) vwCl (cW ad cid a2 lx sg gm lg) H) (hD : va_D A (cW ad cid a2 lx sg gm lg)) (hS : va_S A H0 H locs) (hx : iv 0 h x) (hn : h < (cNum t : Int)) (h12 : 12 ≤ t) (h32 : t < 32) (h0 : cAk t = 0) (hk : cAy t = k) (hty : cTy t = .int) (hin : vp_in y (cLen t)) (hw : cAw t = 0 ∨ y.toNatClampNeg < cAw t) (hn9 : cAw t * x.toNatClampNeg + y.toNatClampNeg = n9) (hdg : decode cc pc = .ok (.iastore, 1))
    (kk : ∀ (gm1 : Nat → Nat → Int32) (H1 : Heap) (locs1 : List Loc), gm1 = va_up gm k (upd (gm k) n9 z) → va_P (dC, dI) vwCl (cW ad cid a2 lx sg gm1 lg) H1 → va_D A (cW ad cid a2 lx sg gm1 lg) → va_S A H0 H1 locs1 → W p l e R s m args below meth c H1 locs1 cells slots Q (F0 m (pc + 1) ls rest)) : W p l e R s m args below meth c H locs cells slots Q (F0 m pc ls (.int z :: .int y :: eV (ad t) x :: rest)) := by
  subst hk; subst hn9
  obtain ⟨p9, hp⟩ := cPL_at h32 (cnx hx hn)
  rw [eV_ref hx.1]
  refine va_iast (D := (dC, dI)) (f := cAi gm t x.toNatClampNeg) hexec hb hK hP hD hS p9 t (by rw [cW_at hp, cE_ai h12 h0]) (by rw [cT_at (by omega), hty]) hin hdg (fun H1 locs1 g1 g2 g3 => kk _ H1 locs1 rfl ?_ ?_ g3)
  · rw [cW_a hp h12 h0 hw] at g1; exact g1
  · rw [cW_a hp h12 h0 hw] at g2; exact g2
theorem cr_cast {t k n9 : Nat} {h : Int} {x y z : Int32} (hexec : p.tables.exec = Jvm.exec) (hb : c.code = cc) (hK : va_K (dC, dI) vwCl (cT cid) s) (hP : va_P (dC, dI) vwCl (cW ad cid a2 lx sg gm lg) H) (hD : va_D A (cW ad cid a2 lx sg gm lg)) (hS : va_S A H0 H locs) (hx : iv 0 h x) (hn : h < (cNum t : Int)) (h12 : 12 ≤ t) (h32 : t < 32) (h0 : cAk t = 0) (hk : cAy t = k) (hty : cTy t = .char) (hin : vp_in y (cLen t)) (hw : cAw t = 0 ∨ y.toNatClampNeg < cAw t) (hn9 : cAw t * x.toNatClampNeg + y.toNatClampNeg = n9) (hdg : decode cc pc = .ok (.castore, 1))
    (kk : ∀ (gm1 : Nat → Nat → Int32) (H1 : Heap) (locs1 : List Loc), gm1 = va_up gm k (upd (gm k) n9 (vp_nar .char z)) → va_P (dC, dI) vwCl (cW ad cid a2 lx sg gm1 lg) H1 → va_D A (cW ad cid a2 lx sg gm1 lg) → va_S A H0 H1 locs1 → W p l e R s m args below meth c H1 locs1 cells slots Q (F0 m (pc + 1) ls rest)) : W p l e R s m args below meth c H locs cells slots Q (F0 m pc ls (.int z :: .int y :: eV (ad t) x :: rest)) := by
  subst hk; subst hn9
  obtain ⟨p9, hp⟩ := cPL_at h32 (cnx hx hn)
  rw [eV_ref hx.1]
  refine va_cast (D := (dC, dI)) (f := cAi gm t x.toNatClampNeg) hexec hb hK hP hD hS p9 t (by rw [cW_at hp, cE_ai h12 h0]) (by rw [cT_at (by omega), hty]) hin hdg (fun H1 locs1 g1 g2 g3 => kk _ H1 locs1 rfl ?_ ?_ g3)
  · rw [cW_a hp h12 h0 hw] at g1; exact g1
  · rw [cW_a hp h12 h0 hw] at g2; exact g2
theorem cr_last {x y : Int32} {z : Int64} (hexec : p.tables.exec = Jvm.exec) (hb : c.code = cc) (hK : va_K (dC, dI) vwCl (cT cid) s) (hP : va_P (dC, dI) vwCl (cW ad cid a2 lx sg gm lg) H) (hD : va_D A (cW ad cid a2 lx sg gm lg)) (hS : va_S A H0 H locs) (hx : iv 0 0 x) (hin : vp_in y 240) (hdg : decode cc pc = .ok (.lastore, 1))
    (kk : ∀ (lg1 : Nat → Nat → Int64) (H1 : Heap) (locs1 : List Loc), lg1 = va_up lg 0 (vp_updL (lg 0) y.toNatClampNeg z) → va_P (dC, dI) vwCl (cW ad cid a2 lx sg gm lg1) H1 → va_D A (cW ad cid a2 lx sg gm lg1) → va_S A H0 H1 locs1 → W p l e R s m args below meth c H1 locs1 cells slots Q (F0 m (pc + 1) ls rest)) : W p l e R s m args below meth c H locs cells slots Q (F0 m pc ls (.long z :: .int y :: eV (ad 15) x :: rest)) := by
  have e0 : x.toNatClampNeg = 0 := by have := iv_cl hx (by decide); have := hx.2; omega
  obtain ⟨p9, hp⟩ := cPL_at (t := 15) (i := 0) (by decide) (by decide)
  rw [eV_ref hx.1, e0]
  refine va_last (D := (dC, dI)) (f := lg 0) hexec hb hK hP hD hS p9 15 (by rw [cW_at hp, cE_al]; rfl) (by rw [cT_at (by decide)]; rfl) hin hdg (fun H1 locs1 g1 g2 g3 => kk _ H1 locs1 rfl ?_ ?_ g3)
  · have g1 : va_P (dC, dI) vwCl ((cW ad cid a2 lx sg gm lg).set p9 (ad 15 0, .inl (cid 15, cLen 15, .inr (.inl (vp_updL (lg 0) y.toNatClampNeg z))))) H1 := g1
    rw [cW_al hp] at g1; exact g1
  · have g2 : va_D A ((cW ad cid a2 lx sg gm lg).set p9 (ad 15 0, .inl (cid 15, cLen 15, .inr (.inl (vp_updL (lg 0) y.toNatClampNeg z))))) := g2
    rw [cW_al hp] at g2; exact g2
/-- a bean is written into the chain or the row of those finished -/
theorem cr_aast {t k : Nat} {h hy : Int} {x y z : Int32} (hexec : p.tables.exec = Jvm.exec) (hb : c.code = cc) (hK : va_K (dC, dI) vwCl (cT cid) s) (hP : va_P (dC, dI) vwCl (cW ad cid a2 lx sg gm lg) H) (hD : va_D A (cW ad cid a2 lx sg gm lg)) (hS : va_S A H0 H locs) (hx : iv 0 h x) (hn : h < (cNum t : Int)) (h12 : 12 ≤ t) (h32 : t < 32) (h2 : cAk t = 2) (hat : cAt t = 10) (hk : cAy t = k) (hty : cTy t = .object RX1) (hin : vp_in y (cLen t)) (hz : iv 0 hy z) (hz2 : hy < 80) (hdg : decode cc pc = .ok (.aastore, 1))
    (kk : ∀ (gm1 : Nat → Nat → Int32) (H1 : Heap) (locs1 : List Loc), gm1 = va_up gm k (upd (gm k) y.toNatClampNeg z) → va_P (dC, dI) vwCl (cW ad cid a2 lx sg gm1 lg) H1 → va_D A (cW ad cid a2 lx sg gm1 lg) → va_S A H0 H1 locs1 → W p l e R s m args below meth c H1 locs1 cells slots Q (F0 m (pc + 1) ls rest)) : W p l e R s m args below meth c H locs cells slots Q (F0 m pc ls (eV (ad 10) z :: .int y :: eV (ad t) x :: rest)) := by
  subst hk
  obtain ⟨p9, hp⟩ := cPL_at h32 (cnx hx hn)
  obtain ⟨q9, hq⟩ := cPL_at (t := 10) (by decide) (cnx hz (show hy < (cNum 10 : Int) from hz2))
  rw [eV_ref hx.1, eV_ref hz.1]
  have ee : some (ad 10 z.toNatClampNeg) = er (ad (cAt t)) z := by rw [hat, er_some hz.1]
  refine va_astq (D := (dC, dI)) (r := (RX1, TX1, 19)) (f := cAr ad gm t x.toNatClampNeg) hexec hb hK hP hD hS p9 t q9 1 (by rw [cW_at hp, cE_ar h12 (by omega) (by omega)]) (by rw [cT_at (by omega), hty]) (by rw [cW_at hq, cE_o (by decide)]; rfl) rfl hin hdg (fun H1 locs1 g1 g2 g3 => kk _ H1 locs1 rfl ?_ ?_ g3)
  · rw [ee, cW_r hp h12 h2] at g1; exact g1
  · rw [ee, cW_r hp h12 h2] at g2; exact g2
theorem cV_c {t j i : Nat} {y : Int32} (h5 : cKd t j = 5) (hy : 0 ≤ y.toInt) (he : y.toNatClampNeg = cMu t j * i + cOf t j) : cV ad a2 sg gm lg t j i = eV (ad (cTg t j)) y := by
  unfold cV
  rw [if_neg (by omega), if_neg (by omega), if_neg (by omega), if_neg (by omega), if_neg (by omega), if_pos h5, eV_ref hy, he]
theorem cAr_c {t i n : Nat} {y : Int32} (h2 : ¬ cAk t = 2) (hy : 0 ≤ y.toInt) (he : y.toNatClampNeg = cAm t * i + cAo t + n) : va_rf (cAr ad gm t i n) = eV (ad (cAt t)) y := by
  unfold cAr
  rw [if_neg h2, eV_ref hy, he]
  rfl
theorem cAi_w {t i n k : Nat} {w : Nat} (hw : cAw t = w) (h0 : ¬ w = 0) (hk : cAy t = k) (hn : n < w) : cAi gm t i n = gm k (w * i + n) := by
  unfold cAi
  rw [hw, if_neg h0, if_pos hn, hk]
end CRR
theorem ix_mk (n : Nat) (h : Int) (hh : (n : Int) ≤ h) (h2 : h < 2147483648) : ∃ y : Int32, iv 0 h y ∧ y.toNatClampNeg = n ∧ y.toInt = (n : Int) := ⟨nI n, ⟨by rw [nI_toInt (by omega)]; omega, by rw [nI_toInt (by omega)]; exact hh⟩, nI_clamp (by omega), nI_toInt (by omega)⟩
