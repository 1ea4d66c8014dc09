theorem vaK_l {dC : Nat → ClassId} {dI : Nat → Nat → Nat} {cl : List vw_C} {t1 t2 : List (ClassId × FieldType)} {U : State} (h : va_K (dC, dI) cl (t1 ++ t2) U) : va_K (dC, dI) cl t1 U :=
  ⟨h.1, fun k q hk => h.2 k q (by rw [List.getElem?_append_left (List.getElem?_eq_some_iff.mp hk).1]; exact hk)⟩
theorem vaK_r {dC : Nat → ClassId} {dI : Nat → Nat → Nat} {cl : List vw_C} {t1 t2 : List (ClassId × FieldType)} {U : State} (h : va_K (dC, dI) cl (t1 ++ t2) U) : va_K (dC, dI) cl t2 U :=
  ⟨h.1, fun k q hk => h.2 (t1.length + k) q (by rw [List.getElem?_append_right (Nat.le_add_right _ _), Nat.add_sub_cancel_left]; exact hk)⟩
theorem vaK_j {dC : Nat → ClassId} {dI : Nat → Nat → Nat} {cl : List vw_C} {t1 t2 : List (ClassId × FieldType)} {U : State} (h1 : va_K (dC, dI) cl t1 U) (h2 : va_K (dC, dI) cl t2 U) : va_K (dC, dI) cl (t1 ++ t2) U :=
  ⟨h1.1, fun k q hk => by
    by_cases h : k < t1.length
    · rw [List.getElem?_append_left h] at hk; exact h1.2 k q hk
    · rw [List.getElem?_append_right (by omega)] at hk; exact h2.2 _ q hk⟩
theorem vaP_j {D : va_G} {cl : List vw_C} {w r : va_W} {H : Heap} (h1 : va_P D cl w H) (h2 : va_P D cl r H) : va_P D cl (w ++ r) H := fun k q hk => by
  by_cases h : k < w.length
  · rw [List.getElem?_append_left h] at hk; exact h1 k q hk
  · rw [List.getElem?_append_right (by omega)] at hk; exact h2 _ q hk
theorem vaP_p {D : va_G} {cl : List vw_C} {w w2 : va_W} {H : Heap} (hp : w.Perm w2) (h : va_P D cl w H) : va_P D cl w2 H := fun k q hk => by
  obtain ⟨i, hi⟩ := List.getElem?_of_mem (hp.mem_iff.mpr (List.mem_of_getElem? hk))
  exact h i q hi
theorem vaD_p {A : Nat → Prop} {w w2 : va_W} (hp : w.Perm w2) (h : va_D A w) : va_D A w2 :=
  ⟨vd_pw.mpr ((List.Perm.pairwise_iff (fun {a b} h9 => Ne.symm h9) hp).mp (vd_pw.mp h.1)), fun k q hk => by
    obtain ⟨i, hi⟩ := List.getElem?_of_mem (hp.mem_iff.mpr (List.mem_of_getElem? hk))
    exact h.2 i q hi⟩
/-- a call on a part of the world leaves the rest -/
theorem lw_join {A : Nat → Prop} {D : va_G} {cl : List vw_C} {w r w1 : va_W} {H H1 : Heap} (hP : va_P D cl (w ++ r) H) (hD : va_D A (w ++ r)) (hk : ∀ q : Nat, q < H.size → ¬ va_A w H.size q → H1[q]? = H[q]?) (hF : ∀ q, va_A w H.size q → A q) (hP1 : va_P D cl w1 H1) (hD1 : va_D (va_A w H.size) w1) : va_P D cl (w1 ++ r) H1 ∧ va_D A (w1 ++ r) := by
  have hr : va_P D cl r H := va_Psl hP (List.sublist_append_right _ _)
  have hDr : va_D A r := va_Dsl hD (List.sublist_append_right _ _)
  have apart : ∀ (k : Nat) (x : Nat × va_E), r[k]? = some x → x.1 < H.size ∧ ¬ va_A w H.size x.1 := fun k x hx => by
    have hlt := (hr k x hx).lt
    refine ⟨hlt, fun q => ?_⟩
    rcases q with ⟨i, e9, hi⟩ | q
    · have h1 : (w ++ r)[i]? = some (x.1, e9) := by rw [List.getElem?_append_left (List.getElem?_eq_some_iff.mp hi).1]; exact hi
      have h2 : (w ++ r)[w.length + k]? = some x := by rw [List.getElem?_append_right (Nat.le_add_right _ _), Nat.add_sub_cancel_left]; exact hx
      have h3 := hD.1 _ _ _ _ h1 h2 rfl
      have h4 := (List.getElem?_eq_some_iff.mp hi).1
      omega
    · omega
  refine ⟨vaP_j hP1 (hr.kept (fun k x hx => hk x.1 (apart k x hx).1 (apart k x hx).2)), vd_pw.mpr (List.pairwise_append.mpr ⟨vd_pw.mp hD1.1, vd_pw.mp hDr.1, fun a ha b hb e9 => ?_⟩), fun k q hq => ?_⟩
  · obtain ⟨i, hi⟩ := List.getElem?_of_mem ha
    obtain ⟨j, hj⟩ := List.getElem?_of_mem hb
    exact (apart j b hj).2 (by rw [← e9]; exact hD1.2 i a hi)
  · by_cases h : k < w1.length
    · rw [List.getElem?_append_left h] at hq; exact hF _ (hD1.2 k q hq)
    · rw [List.getElem?_append_right (by omega)] at hq; exact hDr.2 _ q hq
section LW1
variable {p : Program} {l : Launch} {e : Env} {R : Room} {s : State} {m : MethodId} {args : Array Value} {below : List Frame} {meth : Method} {c : Code} {H : Heap} {locs : List Loc} {Q : State → Prop} {cc : ByteArray} {pc : Nat} {ls : Array Slot} {rest : List Value} {A : Nat → Prop}
variable {dC : Nat → ClassId} {dI : Nat → Nat → Nat} {ad : Nat → Nat → Nat} {cid : Nat → ClassId} {a2 : Nat → Nat} {lx : List Nat} {sg : Nat → Int32} {gm : Nat → Nat → Int32} {lg : Nat → Nat → Int64} {Ts : List Cond} {own : String} {index : Nat}
variable {y : MethodName} {ws : List Cond} {rm : Room} {bytes : ByteArray} {maxL n nL : Nat} {ret : Option FieldType} {as : List Value} {st0 : List Value} {cells slots k mc ms : Nat} {r : va_W} {tr : List (ClassId × FieldType)}
/-- a call of the class that may throw and may make the heap grow, in a world that holds more -/
theorem lw_callG {post : Option Value → CSg → Prop} {xpost : String → CSg → Prop} {x : Int32} (S : CallFix p m c cc nL s args Ts own) (hM : CMg dC dI ad cid l y ws rm (eV (ad 0) x :: as) a2 lx sg gm lg k mc ms post xpost) (cw : CallW R s args own RX12 index y bytes maxL ret ws rm mc ms n) (hx : iv 0 0 x) (hn : as.length = n) (hsize : ls.size = nL) (hst : st0 = as.reverse ++ eV (ad 0) x :: rest) (hW : (rest.map fun v => v.category).sum ≤ 8) (hdg : decode cc pc = .ok (.invokevirtual index, 3)) (hf : cells + mc ≤ R.cells ∧ slots + ms ≤ R.slots)
    (hK : va_K (dC, dI) vwCl (cT cid ++ tr) s) (hP : va_P (dC, dI) vwCl (cW ad cid a2 lx sg gm lg ++ r) H) (hD : va_D A (cW ad cid a2 lx sg gm lg ++ r)) (hS : va_S A s.heap H locs) (hA : ∀ q, s.heap.size ≤ q → A q) (hG : CE ad A s)
    (kx : ∀ (E : String) (ce : Cell) (q9 : Addr) (u : CSg) (H1 : Heap) (locs1 : List Loc), xpost E u → PHs gm ≤ PHs u.2.2.2.1 → va_P (dC, dI) vwCl (CSg.w ad cid u ++ r) H1 → va_D A (CSg.w ad cid u ++ r) → va_S A s.heap H1 locs1 → H1[q9]? = some ce → ce.vm = .none → s.vm.findClass E = some ce.cls → vx_W p l e R s m args below meth c H1 locs1 (cells + gc gm u.2.2.2.1 (k + 1)) (slots + gs gm u.2.2.2.1 (k + 1)) Q (F0 m pc ls rest) q9)
    (kk : ∀ (v : Option Value) (u : CSg) (H1 : Heap) (locs1 : List Loc), post v u → PHs gm ≤ PHs u.2.2.2.1 → va_P (dC, dI) vwCl (CSg.w ad cid u ++ r) H1 → va_D A (CSg.w ad cid u ++ r) → va_S A s.heap H1 locs1 → W p l e R s m args below meth c H1 locs1 (cells + gc gm u.2.2.2.1 k) (slots + gs gm u.2.2.2.1 k) Q (F0 m (pc + 3) ls (v.toList ++ rest))) : W p l e R s m args below meth c H locs cells slots Q (F0 m pc ls st0) := by
  subst hst
  have hPc : va_P (dC, dI) vwCl (cW ad cid a2 lx sg gm lg) H := va_Psl hP (List.sublist_append_left _ _)
  have hDc : va_D A (cW ad cid a2 lx sg gm lg) := va_Dsl hD (List.sublist_append_left _ _)
  have hKc := vaK_l hK
  have hFc := cfree hDc hS hA
  have hM9 := hM H.size
  rw [eV_ref hx.1] at hM9 ⊢
  have hr := vx_runV (e := e) (below := below) (meth := meth) (locs := locs) (cells := cells) (slots := slots) (As := as) (rest := rest) S hM9 cw ⟨CPre_blind, cm_recv (t := 0) (C := RX12) (T := TX12) (N := 12) hKc hPc hx (by decide) (by decide) rfl, fun U hU hW => ⟨rfl, by rw [hU], by rw [hU]; exact hPc, va_K.moved hW.alike hKc, hDc.weaken (fun _ _ _ _ => trivial), hG.go hS hFc hU hW⟩⟩ (g := F0 m pc ls (as.reverse ++ .ref (ad 0 x.toNatClampNeg) :: rest)) rfl hn hsize rfl (lv_room hW) hdg hf
  refine W.nb (fun hN => ?_)
  intro T hT X
  rcases hr T hT X with ⟨v, st₀, t, T', L, h0, X', hL, e1, e2, ⟨⟨v2, u, hv, hp, hb, hm, hN1⟩, hF⟩, st⟩ | ⟨q, st₀, t, T', L, E, ce, h0, X', hL, e1, e2, ⟨⟨u, hp, hb, hm, hN1⟩, hF⟩, hce, hcv, hcl, st⟩
  · cases hv
    obtain ⟨k1, k2, k3⟩ := vx_keep h0 e1 hS (fun q _ h => hFc q h) hFc hL hF
    obtain ⟨b1, b2, b3⟩ := hb
    rw [h0, ← e1] at hN1
    obtain ⟨j1, j2⟩ := lw_join hP hD k2 hFc (by rw [e1]; exact b1) b3
    obtain ⟨t2, a1, c1⟩ := W.narrow (NBw_tr hN hN1) (kk v u T'.heap (locs ++ L) hp hm j1 j2 k3) T' rfl X'
    exact ⟨t2, st t2 a1, c1⟩
  · obtain ⟨k1, k2, k3⟩ := vx_keep h0 e1 hS (fun q _ h => hFc q h) hFc hL hF
    obtain ⟨b1, b2, b3⟩ := hb
    rw [h0, ← e1] at hN1
    obtain ⟨j1, j2⟩ := lw_join hP hD k2 hFc (by rw [e1]; exact b1) b3
    obtain ⟨t2, a1, c1⟩ := vx_narrow (NBw_tr hN hN1) (kx E ce q u T'.heap (locs ++ L) hp hm j1 j2 k3 (by rw [e1]; exact hce) hcv hcl) T' rfl X'
    exact ⟨t2, st.trans a1, c1⟩
/-- a call of the class that returns and makes nothing -/
theorem lw_callT {post : Option Value → CSt → Prop} {xpost : String → CSt → Prop} {x : Int32} (S : CallFix p m c cc nL s args Ts own) (hM : CMt dC dI ad cid a2 lx l y ws rm (eV (ad 0) x :: as) sg gm lg post xpost) (cw : CallW R s args own RX12 index y bytes maxL ret ws rm 1 6 n) (hx : iv 0 0 x) (hn : as.length = n) (hsize : ls.size = nL) (hst : st0 = as.reverse ++ eV (ad 0) x :: rest) (hW : (rest.map fun v => v.category).sum ≤ 8) (hdg : decode cc pc = .ok (.invokevirtual index, 3)) (hf : cells + 1 ≤ R.cells ∧ slots + 6 ≤ R.slots)
    (hK : va_K (dC, dI) vwCl (cT cid ++ tr) s) (hP : va_P (dC, dI) vwCl (cW ad cid a2 lx sg gm lg ++ r) H) (hD : va_D A (cW ad cid a2 lx sg gm lg ++ r)) (hS : va_S A s.heap H locs) (hA : ∀ q, s.heap.size ≤ q → A q) (hG : CE ad A s) (hno : ∀ E u, ¬ xpost E u)
    (kk : ∀ (v : Option Value) (u : CSt) (H1 : Heap) (locs1 : List Loc), post v u → va_P (dC, dI) vwCl (cW ad cid a2 lx u.1 u.2.1 u.2.2 ++ r) H1 → va_D A (cW ad cid a2 lx u.1 u.2.1 u.2.2 ++ r) → va_S A s.heap H1 locs1 → W p l e R s m args below meth c H1 locs1 cells slots Q (F0 m (pc + 3) ls (v.toList ++ rest))) : W p l e R s m args below meth c H locs cells slots Q (F0 m pc ls st0) := by
  subst hst
  have hPc : va_P (dC, dI) vwCl (cW ad cid a2 lx sg gm lg) H := va_Psl hP (List.sublist_append_left _ _)
  have hDc : va_D A (cW ad cid a2 lx sg gm lg) := va_Dsl hD (List.sublist_append_left _ _)
  have hKc := vaK_l hK
  have hFc := cfree hDc hS hA
  have hM9 := hM H.size
  rw [eV_ref hx.1] at hM9 ⊢
  have hr := vx_runV (e := e) (below := below) (meth := meth) (locs := locs) (cells := cells) (slots := slots) (As := as) (rest := rest) S hM9 cw ⟨CPre_blind, cm_recv (t := 0) (C := RX12) (T := TX12) (N := 12) hKc hPc hx (by decide) (by decide) rfl, fun U hU hW => ⟨rfl, by rw [hU], by rw [hU]; exact hPc, va_K.moved hW.alike hKc, hDc.weaken (fun _ _ _ _ => trivial), hG.go hS hFc hU hW⟩⟩ (g := F0 m pc ls (as.reverse ++ .ref (ad 0 x.toNatClampNeg) :: rest)) rfl hn hsize rfl (lv_room hW) hdg hf
  refine W.nb (fun hN => ?_)
  intro T hT X
  rcases hr T hT X with ⟨v, st₀, t, T', L, h0, X', hL, e1, e2, ⟨⟨v2, u, hv, hp, hb⟩, hF, hN1⟩, st⟩ | ⟨q, st₀, t, T', L, E, ce, h0, X', hL, e1, e2, ⟨⟨u, hp, hb⟩, hF⟩, hce, hcv, hcl, st⟩
  · cases hv
    obtain ⟨k1, k2, k3⟩ := vx_keep h0 e1 hS (fun q _ h => hFc q h) hFc hL hF
    obtain ⟨b1, b2, b3⟩ := hb
    rw [h0, ← e1] at hN1
    obtain ⟨j1, j2⟩ := lw_join hP hD k2 hFc (by rw [e1]; exact b1) b3
    obtain ⟨t2, a1, c1⟩ := W.narrow (NBw_tr hN hN1) (kk v u T'.heap (locs ++ L) hp j1 j2 k3) T' rfl X'
    exact ⟨t2, st t2 a1, c1⟩
  · exact absurd hp (hno _ _)
end LW1
/-- what the class's state bears between two calls -/
def KI (it : Nat) (lx : List Nat) (sg : Nat → Int32) (gm : Nat → Nat → Int32) (lg : Nat → Nat → Int64) : Prop := CI sg gm ∧ LDI lx gm ∧ FND9 sg gm ∧ BEL9 sg gm ∧ UB 12 (1203 * it) gm ∧ UB 18 (1203 * it) gm ∧ ((sg 1).toInt = 0 ∨ (WRD sg gm lg ∧ MOK sg gm lg))
theorem WRD_of {sg sg2 : Nat → Int32} {gm gm2 : Nat → Nat → Int32} {lg lg2 : Nat → Nat → Int64} {Ls Lg Ll : List Nat} (h : WRD sg gm lg) (h1 : KS Ls sg sg2) (h2 : KS Lg gm gm2) (h3 : KS Ll lg lg2) (q1 : ([4, 12].all fun k => !Ls.contains k) = true) (q2 : ([14, 15, 16, 17, 19, 20, 22, 25, 26, 27, 29, 41, 44, 45, 46, 57].all fun k => !Lg.contains k) = true) (q3 : ([0, 4].all fun k => !Ll.contains k) = true) : WRD sg2 gm2 lg2 := by
  have f1 : ∀ k ∈ [4, 12], sg2 k = sg k := fun k hk => h1 k (by have := List.all_eq_true.mp q1 k hk; simpa using this)
  have f2 : ∀ k ∈ [14, 15, 16, 17, 19, 20, 22, 25, 26, 27, 29, 41, 44, 45, 46, 57], gm2 k = gm k := fun k hk => h2 k (by have := List.all_eq_true.mp q2 k hk; simpa using this)
  have f3 : ∀ k ∈ [0, 4], lg2 k = lg k := fun k hk => h3 k (by have := List.all_eq_true.mp q3 k hk; simpa using this)
  exact WRD_e h (f1 4 (by decide)) (f1 12 (by decide)) (f2 14 (by decide)) (f2 15 (by decide)) (f2 16 (by decide)) (f2 17 (by decide)) (f2 19 (by decide)) (f2 20 (by decide)) (f2 22 (by decide)) (f2 25 (by decide)) (f2 26 (by decide)) (f2 27 (by decide)) (f2 29 (by decide)) (f2 41 (by decide)) (f2 44 (by decide)) (f2 45 (by decide)) (f2 46 (by decide)) (f2 57 (by decide)) (f3 0 (by decide)) (f3 4 (by decide))
theorem UB_w {k K K2 : Nat} {gm gm2 : Nat → Nat → Int32} (h : UB k K gm) (e : gm2 k = gm k) (hK : K ≤ K2) : UB k K2 gm2 := fun j hj => by
  have := h j hj
  rw [e]; omega
/-- a call that leaves the document and what is made -/
theorem KI_of {it : Nat} {lx : List Nat} {sg sg2 : Nat → Int32} {gm gm2 : Nat → Nat → Int32} {lg lg2 : Nat → Nat → Int64} {Ls Lg Ll : List Nat} (h : KI it lx sg gm lg) (hI : CI sg2 gm2) (h1 : KS Ls sg sg2) (h2 : KS Lg gm gm2) (h3 : KS Ll lg lg2) (q1 : ([1, 4, 12, 15].all fun k => !Ls.contains k) = true) (q2 : ([12, 14, 15, 16, 17, 18, 19, 20, 22, 25, 26, 27, 29, 35, 38, 39, 41, 42, 44, 45, 46, 51, 57].all fun k => !Lg.contains k) = true) (q3 : ([0, 4].all fun k => !Ll.contains k) = true) : KI (it + 1) lx sg2 gm2 lg2 := by
  have f1 : ∀ k ∈ [1, 4, 12, 15], sg2 k = sg k := fun k hk => h1 k (by have := List.all_eq_true.mp q1 k hk; simpa using this)
  have f2 : ∀ k ∈ [12, 14, 15, 16, 17, 18, 19, 20, 22, 25, 26, 27, 29, 35, 38, 39, 41, 42, 44, 45, 46, 51, 57], gm2 k = gm k := fun k hk => h2 k (by have := List.all_eq_true.mp q2 k hk; simpa using this)
  have f3 : ∀ k ∈ [0, 4], lg2 k = lg k := fun k hk => h3 k (by have := List.all_eq_true.mp q3 k hk; simpa using this)
  obtain ⟨-, b1, b2, b3, b4, b5, b6⟩ := h
  refine ⟨hI, LDI_e b1 (f2 41 (by decide)) (f2 42 (by decide)) (f2 57 (by decide)), FND9_e b2 (f1 15 (by decide)) (f2 51 (by decide)), ?_, UB_w b4 (f2 12 (by decide)) (by omega), UB_w b5 (f2 18 (by decide)) (by omega), ?_⟩
  · unfold BEL9 at *; rw [f1 12 (by decide), f2 29 (by decide)]; exact b3
  · rcases b6 with q | ⟨q, q9⟩
    · exact Or.inl (by rw [f1 1 (by decide)]; exact q)
    · exact Or.inr ⟨WRD_e q (f1 4 (by decide)) (f1 12 (by decide)) (f2 14 (by decide)) (f2 15 (by decide)) (f2 16 (by decide)) (f2 17 (by decide)) (f2 19 (by decide)) (f2 20 (by decide)) (f2 22 (by decide)) (f2 25 (by decide)) (f2 26 (by decide)) (f2 27 (by decide)) (f2 29 (by decide)) (f2 41 (by decide)) (f2 44 (by decide)) (f2 45 (by decide)) (f2 46 (by decide)) (f2 57 (by decide)) (f3 0 (by decide)) (f3 4 (by decide)), MOK_e q9 (f1 12 (by decide)) (f2 35 (by decide)) (f2 38 (by decide)) (f2 39 (by decide)) (f3 4 (by decide))⟩
/-- a call that makes, or forgets what is made -/
theorem KI_mk {it : Nat} {lx : List Nat} {sg sg2 : Nat → Int32} {gm gm2 : Nat → Nat → Int32} {lg lg2 : Nat → Nat → Int64} {Ls Lg Ll : List Nat} (h : KI it lx sg gm lg) (hI : CI sg2 gm2) (h1 : KS Ls sg sg2) (h2 : KS Lg gm gm2) (h3 : KS Ll lg lg2) (hm : (sg 1).toInt = 0 ∨ MOK sg2 gm2 lg2) (hf : FND9 sg2 gm2) (q1 : ([1, 4, 12].all fun k => !Ls.contains k) = true) (q2 : ([12, 14, 15, 16, 17, 18, 19, 20, 22, 25, 26, 27, 29, 41, 42, 44, 45, 46, 57].all fun k => !Lg.contains k) = true) (q3 : ([0, 4].all fun k => !Ll.contains k) = true) : KI (it + 1) lx sg2 gm2 lg2 := by
  have f1 : ∀ k ∈ [1, 4, 12], sg2 k = sg k := fun k hk => h1 k (by have := List.all_eq_true.mp q1 k hk; simpa using this)
  have f2 : ∀ k ∈ [12, 14, 15, 16, 17, 18, 19, 20, 22, 25, 26, 27, 29, 41, 42, 44, 45, 46, 57], gm2 k = gm k := fun k hk => h2 k (by have := List.all_eq_true.mp q2 k hk; simpa using this)
  have f3 : ∀ k ∈ [0, 4], lg2 k = lg k := fun k hk => h3 k (by have := List.all_eq_true.mp q3 k hk; simpa using this)
  obtain ⟨-, b1, b2, b3, b4, b5, b6⟩ := h
  refine ⟨hI, LDI_e b1 (f2 41 (by decide)) (f2 42 (by decide)) (f2 57 (by decide)), hf, ?_, UB_w b4 (f2 12 (by decide)) (by omega), UB_w b5 (f2 18 (by decide)) (by omega), ?_⟩
  · unfold BEL9 at *; rw [f1 12 (by decide), f2 29 (by decide)]; exact b3
  · rw [f1 1 (by decide)]
    rcases b6 with q | ⟨q, -⟩
    · exact Or.inl q
    · rcases hm with q9 | q9
      · exact Or.inl q9
      · exact Or.inr ⟨WRD_e q (f1 4 (by decide)) (f1 12 (by decide)) (f2 14 (by decide)) (f2 15 (by decide)) (f2 16 (by decide)) (f2 17 (by decide)) (f2 19 (by decide)) (f2 20 (by decide)) (f2 22 (by decide)) (f2 25 (by decide)) (f2 26 (by decide)) (f2 27 (by decide)) (f2 29 (by decide)) (f2 41 (by decide)) (f2 44 (by decide)) (f2 45 (by decide)) (f2 46 (by decide)) (f2 57 (by decide)) (f3 0 (by decide)) (f3 4 (by decide)), q9⟩
theorem KI_cl {it : Nat} {lx : List Nat} {sg sg2 : Nat → Int32} {gm gm2 : Nat → Nat → Int32} {lg lg2 : Nat → Nat → Int64} {Ls Lg Ll : List Nat} (h : KI it lx sg gm lg) (hI : CI sg2 gm2) (h1 : KS Ls sg sg2) (h2 : KS Lg gm gm2) (h3 : KS Ll lg lg2) (hm : ∀ j9, j9 < (sg 12).toNatClampNeg → gm2 38 j9 = 0) (hf : (sg2 15).toInt = 0) (q1 : ([1, 4, 12].all fun k => !Ls.contains k) = true) (q2 : ([12, 14, 15, 16, 17, 18, 19, 20, 22, 25, 26, 27, 29, 41, 42, 44, 45, 46, 57].all fun k => !Lg.contains k) = true) (q3 : ([0, 4].all fun k => !Ll.contains k) = true) : KI (it + 1) lx sg2 gm2 lg2 :=
  KI_mk h hI h1 h2 h3 (Or.inr (MOK_0 (fun c hc => hm c (by rw [← h1 12 (by have := List.all_eq_true.mp q1 12 (by decide); simpa using this)]; exact hc)))) (FND9_0 hf) q1 q2 q3
theorem KI_rd {it : Nat} {lx2 : List Nat} {sg2 : Nat → Int32} {gm2 : Nat → Nat → Int32} {lg2 : Nat → Nat → Int64} (hI : CI sg2 gm2) (u12 : UB 12 (1203 * it + 1203) gm2) (u18 : UB 18 (1203 * it + 1203) gm2) (hl : LDI lx2 gm2) (h15 : (sg2 15).toInt = 0) (hw : WRM sg2 gm2 lg2) : KI (it + 1) lx2 sg2 gm2 lg2 :=
  ⟨hI, hl, FND9_0 h15, fun b hb => (hw.1.2.2.1 b hb).1, UB_w u12 rfl (by omega), UB_w u18 rfl (by omega), Or.inr ⟨hw.1, MOK_0 (fun c hc => (hw.2 c hc).2)⟩⟩
theorem KI_rx {it : Nat} {lx2 : List Nat} {sg2 : Nat → Int32} {gm2 : Nat → Nat → Int32} {lg2 : Nat → Nat → Int64} (hI : CI sg2 gm2) (u12 : UB 12 (1203 * it + 1203) gm2) (u18 : UB 18 (1203 * it + 1203) gm2) (hl : LDI lx2 gm2) (h15 : (sg2 15).toInt = 0) (h12 : (sg2 12).toInt = 0) (h1 : (sg2 1).toInt = 0) : KI (it + 1) lx2 sg2 gm2 lg2 :=
  ⟨hI, hl, FND9_0 h15, fun b hb => by have k : (sg2 12).toNatClampNeg = (sg2 12).toInt.toNat := rfl; omega, UB_w u12 rfl (by omega), UB_w u18 rfl (by omega), Or.inl h1⟩
