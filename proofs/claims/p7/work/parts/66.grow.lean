theorem NBw_w {H0 H : Heap} {k n k2 n2 : Nat} (h : NBw H0 H k n) (h1 : k ≤ k2) (h2 : n ≤ n2) : NBw H0 H k2 n2 := ⟨Nat.le_trans h.1 (Nat.add_le_add_left h1 _), Nat.le_trans h.2 (Nat.add_le_add_left h2 _)⟩
/-- the lists' room, all together -/
def PHs (gm : Nat → Nat → Int32) : Nat := ((List.range 240).map (fun q => (gm 42 q).toNatClampNeg)).sum
def PH (gm gm2 : Nat → Nat → Int32) : Nat := PHs gm2 - PHs gm
def gc (gm gm2 : Nat → Nat → Int32) (k : Nat) : Nat := PH gm gm2 + k
def gs (gm gm2 : Nat → Nat → Int32) (k : Nat) : Nat := 4 * PH gm gm2 + 6 * k
theorem PHs_e {gm gm2 : Nat → Nat → Int32} (h : gm2 42 = gm 42) : PHs gm2 = PHs gm := by unfold PHs; rw [h]
theorem PH_rf (gm : Nat → Nat → Int32) : PH gm gm = 0 := Nat.sub_self _
theorem PH_tr {gm gm1 gm2 : Nat → Nat → Int32} (h1 : PHs gm ≤ PHs gm1) (h2 : PHs gm1 ≤ PHs gm2) : PH gm gm1 + PH gm1 gm2 = PH gm gm2 := by unfold PH; omega
theorem sum_le {f : Nat → Nat} {b : Nat} : ∀ L : List Nat, (∀ q ∈ L, f q ≤ b) → (L.map f).sum ≤ b * L.length
  | [], _ => Nat.zero_le _
  | q :: L, h => by
    have h1 := h q List.mem_cons_self
    have h2 := sum_le L (fun x hx => h x (List.mem_cons_of_mem _ hx))
    rw [List.map_cons, List.sum_cons, List.length_cons, Nat.mul_add]
    omega
theorem PHs_le {sg : Nat → Int32} {gm : Nat → Nat → Int32} (hI : CI sg gm) : PHs gm ≤ 30480 := by
  unfold PHs
  refine Nat.le_trans (sum_le (b := 127) _ (fun q hq => ?_)) (by rw [List.length_range]; omega)
  have h1 := (show iv 0 127 (gm 42 q) from CI_n hI 42 (show q < crLen 42 from List.mem_range.mp hq))
  have h2 := iv_cl h1 (by decide)
  have h3 := h1.2
  omega
theorem PH_le {sg : Nat → Int32} {gm gm2 : Nat → Nat → Int32} (hI : CI sg gm2) : PH gm gm2 ≤ 30480 := Nat.le_trans (Nat.sub_le _ _) (PHs_le hI)
theorem gc_le {sg : Nat → Int32} {gm gm2 : Nat → Nat → Int32} {k j : Nat} (hI : CI sg gm2) : gc gm gm2 k + j ≤ 30480 + k + j := by have := PH_le (gm := gm) hI; unfold gc; omega
theorem gs_le {sg : Nat → Int32} {gm gm2 : Nat → Nat → Int32} {k j : Nat} (hI : CI sg gm2) : gs gm gm2 k + j ≤ 121920 + 6 * k + j := by have := PH_le (gm := gm) hI; unfold gs; omega
theorem gc_e {gm gm1 gm2 : Nat → Nat → Int32} {k k2 : Nat} (h : gm2 42 = gm1 42) (hk : k ≤ k2) : gc gm gm1 k ≤ gc gm gm2 k2 := by unfold gc PH; rw [PHs_e h]; omega
theorem gs_e {gm gm1 gm2 : Nat → Nat → Int32} {k k2 : Nat} (h : gm2 42 = gm1 42) (hk : k ≤ k2) : gs gm gm1 k ≤ gs gm gm2 k2 := by unfold gs PH; rw [PHs_e h]; omega
theorem gc_t {gm gm1 gm2 : Nat → Nat → Int32} {k k2 : Nat} (h1 : PHs gm ≤ PHs gm1) (h2 : PHs gm1 ≤ PHs gm2) : gc gm gm1 k + gc gm1 gm2 k2 = gc gm gm2 (k + k2) := by have := PH_tr h1 h2; unfold gc; omega
theorem gs_t {gm gm1 gm2 : Nat → Nat → Int32} {k k2 : Nat} (h1 : PHs gm ≤ PHs gm1) (h2 : PHs gm1 ≤ PHs gm2) : gs gm gm1 k + gs gm1 gm2 k2 = gs gm gm2 (k + k2) := by have := PH_tr h1 h2; unfold gs; omega
theorem vx_narrow {p : Program} {l : Launch} {e : Env} {R : Room} {s : State} {m : MethodId} {args : Array Value} {below : List Frame} {meth : Method} {c : Code} {H : Heap} {locs : List Loc} {cells slots : Nat} {Q : State → Prop} {g : JFrame} {q : Addr} {k n : Nat} (hb : NBw s.heap H k n) (kk : vx_W p l e R s m args below meth c H locs k n Q g q) : vx_W p l e R s m args below meth c H locs cells slots Q g q := by
  intro T hT X
  have e1 : (T.setVm s.vm).heap = H := hT
  exact kk T hT { X with same := NBw_same X.same (by rw [e1]; exact hb) }
theorem vx_nb {p : Program} {l : Launch} {e : Env} {R : Room} {s : State} {m : MethodId} {args : Array Value} {below : List Frame} {meth : Method} {c : Code} {H : Heap} {locs : List Loc} {cells slots : Nat} {Q : State → Prop} {g : JFrame} {q : Addr} (kk : NBw s.heap H cells slots → vx_W p l e R s m args below meth c H locs cells slots Q g q) : vx_W p l e R s m args below meth c H locs cells slots Q g q := by
  intro T hT X
  refine kk ?_ T hT X
  have h := X.same
  have h2 := hz_new h
  obtain ⟨-, h3, h4, -, h5, -⟩ := h
  have e1 : (T.setVm s.vm).heap = H := hT
  rw [e1] at h2 h4 h5
  exact ⟨h4, by omega⟩
abbrev CSg : Type := (Nat → Nat) × List Nat × (Nat → Int32) × (Nat → Nat → Int32) × (Nat → Nat → Int64)
abbrev CSg.w (ad : Nat → Nat → Nat) (cid : Nat → ClassId) (u : CSg) : va_W := cW ad cid u.1 u.2.1 u.2.2.1 u.2.2.2.1 u.2.2.2.2
section CMG
variable (dC : Nat → ClassId) (dI : Nat → Nat → Nat) (ad : Nat → Nat → Nat) (cid : Nat → ClassId)
def CBg (A : Nat → Prop) (u : CSg) (t : State) : Prop := va_P (dC, dI) vwCl (CSg.w ad cid u) t.heap ∧ va_K (dC, dI) vwCl (cT cid) t ∧ va_D A (CSg.w ad cid u)
def cQg (post : Option Value → CSg → Prop) (k : Nat) (gm : Nat → Nat → Int32) (A : Nat → Prop) : Array Value → State → Outcome → State → Prop := fun _ st oc t => (∃ (v : Option Value) (u : CSg), oc = .returned v ∧ post v u ∧ CBg dC dI ad cid A u t ∧ PHs gm ≤ PHs u.2.2.2.1 ∧ NBw st.heap t.heap (gc gm u.2.2.2.1 k) (gs gm u.2.2.2.1 k)) ∧ va_F A st t
def cXg (xpost : String → CSg → Prop) (k : Nat) (gm : Nat → Nat → Int32) (A : Nat → Prop) : String → State → State → Prop := fun E st t => (∃ u : CSg, xpost E u ∧ CBg dC dI ad cid A u t ∧ PHs gm ≤ PHs u.2.2.2.1 ∧ NBw st.heap t.heap (gc gm u.2.2.2.1 (k + 1)) (gs gm u.2.2.2.1 (k + 1))) ∧ va_F A st t
/-- a method of the class that may make the heap grow: by the room of its lists and k exceptions -/
def CMg (l : Launch) (y : MethodName) (ws : List Cond) (rm : Room) (as : List Value) (a2 : Nat → Nat) (lx : List Nat) (sg : Nat → Int32) (gm : Nat → Nat → Int32) (lg : Nat → Nat → Int64) (k mc ms : Nat) (post : Option Value → CSg → Prop) (xpost : String → CSg → Prop) : Prop :=
  ∀ sz, vx_Met l y ws rm (va_Pc as (CPre dC dI ad cid a2 lx sg gm lg sz)) (cQg dC dI ad cid post k gm (va_A (cW ad cid a2 lx sg gm lg) sz)) (cXg dC dI ad cid xpost k gm (va_A (cW ad cid a2 lx sg gm lg) sz)) mc ms (va_A (cW ad cid a2 lx sg gm lg) sz)
end CMG
section CMD
variable {p : Program} {l : Launch} {e : Env} {R : Room} {s : State} {m : MethodId} {args : Array Value} {below : List Frame} {meth : Method} {c : Code} {H : Heap} {locs : List Loc} {Q : State → Prop} {cc : ByteArray} {pc : Nat} {ls : Array Slot} {rest : List Value} {A : Nat → Prop}
variable {dC : Nat → ClassId} {dI : Nat → Nat → Nat} {ad : Nat → Nat → Nat} {cid : Nat → ClassId} {a2 : Nat → Nat} {lx : List Nat} {sg : Nat → Int32} {gm : Nat → Nat → Int32} {lg : Nat → Nat → Int64} {Ts : List Cond} {own : String} {index : Nat}
variable {y : MethodName} {ws : List Cond} {rm : Room} {bytes : ByteArray} {maxL n nL : Nat} {ret : Option FieldType} {as : List Value} {st0 : List Value} {cells slots k mc ms : Nat}
theorem cm_goT {post : Option Value → CSt → Prop} {xpost : String → CSt → Prop} {a : Array Value} (hr : vx_Run p l e R s m args below meth c H locs cells slots 1 6 (F0 m pc ls st0) rest (cQx dC dI ad cid a2 lx post (va_A (cW ad cid a2 lx sg gm lg) H.size) a) (cX dC dI ad cid a2 lx xpost (va_A (cW ad cid a2 lx sg gm lg) H.size)) (va_A (cW ad cid a2 lx sg gm lg) H.size)) (hD : va_D A (cW ad cid a2 lx sg gm lg)) (hS : va_S A s.heap H locs) (hA : ∀ q, s.heap.size ≤ q → A q)
    (kx : ∀ (E : String) (ce : Cell) (q9 : Addr) (u : CSt) (H1 : Heap) (locs1 : List Loc), xpost E u → va_P (dC, dI) vwCl (cW ad cid a2 lx u.1 u.2.1 u.2.2) H1 → va_D A (cW ad cid a2 lx u.1 u.2.1 u.2.2) → va_S A s.heap H1 locs1 → H1[q9]? = some ce → ce.vm = .none → s.vm.findClass E = some ce.cls → vx_W p l e R s m args below meth c H1 locs1 (cells + 1) (slots + 6) Q (F0 m pc ls rest) q9)
    (kk : ∀ (v : Option Value) (u : CSt) (H1 : Heap) (locs1 : List Loc), post v u → va_P (dC, dI) vwCl (cW ad cid a2 lx u.1 u.2.1 u.2.2) H1 → va_D A (cW ad cid a2 lx u.1 u.2.1 u.2.2) → va_S A s.heap H1 locs1 → W p l e R s m args below meth c H1 locs1 cells slots Q (F0 m (pc + 3) ls (v.toList ++ rest))) : W p l e R s m args below meth c H locs cells slots Q (F0 m pc ls st0) := by
  have hFc := cfree hD hS hA
  refine W.nb (fun hN => ?_)
  intro T hT X
  rcases hr T hT X with ⟨v, st₀, t, T', L, h0, X', hL, e1, e2, ⟨⟨v2, u, hv, hp, hb⟩, hF, hN1⟩, st⟩ | ⟨q, st₀, t, T', L, E, ce, h0, X', hL, e1, e2, ⟨⟨u, hp, hb⟩, hF⟩, hce, hcv, hcl, st⟩
  · cases hv
    obtain ⟨k1, k2, k3⟩ := vx_keep h0 e1 hS (fun q _ h => hFc q h) hFc hL hF
    obtain ⟨b1, b2, b3⟩ := hb
    rw [h0, ← e1] at hN1
    obtain ⟨t2, a1, c1⟩ := W.narrow (NBw_tr hN hN1) (kk v u T'.heap (locs ++ L) hp (by rw [e1]; exact b1) (b3.weaken (fun _ _ _ h => hFc _ h)) k3) T' rfl X'
    exact ⟨t2, st t2 a1, c1⟩
  · obtain ⟨k1, k2, k3⟩ := vx_keep h0 e1 hS (fun q _ h => hFc q h) hFc hL hF
    obtain ⟨b1, b2, b3⟩ := hb
    obtain ⟨t2, a1, c1⟩ := kx E ce q u T'.heap (locs ++ L) hp (by rw [e1]; exact b1) (b3.weaken (fun _ _ _ h => hFc _ h)) k3 (by rw [e1]; exact hce) hcv hcl T' rfl X'
    exact ⟨t2, st.trans a1, c1⟩
theorem cm_goG {post : Option Value → CSg → Prop} {xpost : String → CSg → Prop} {a : Array Value} (hr : vx_Run p l e R s m args below meth c H locs cells slots mc ms (F0 m pc ls st0) rest (cQg dC dI ad cid post k gm (va_A (cW ad cid a2 lx sg gm lg) H.size) a) (cXg dC dI ad cid xpost k gm (va_A (cW ad cid a2 lx sg gm lg) H.size)) (va_A (cW ad cid a2 lx sg gm lg) H.size)) (hD : va_D A (cW ad cid a2 lx sg gm lg)) (hS : va_S A s.heap H locs) (hA : ∀ q, s.heap.size ≤ q → A q)
    (kx : ∀ (E : String) (ce : Cell) (q9 : Addr) (u : CSg) (H1 : Heap) (locs1 : List Loc), xpost E u → PHs gm ≤ PHs u.2.2.2.1 → va_P (dC, dI) vwCl (CSg.w ad cid u) H1 → va_D A (CSg.w ad cid u) → va_S A s.heap H1 locs1 → H1[q9]? = some ce → ce.vm = .none → s.vm.findClass E = some ce.cls → vx_W p l e R s m args below meth c H1 locs1 (cells + gc gm u.2.2.2.1 (k + 1)) (slots + gs gm u.2.2.2.1 (k + 1)) Q (F0 m pc ls rest) q9)
    (kk : ∀ (v : Option Value) (u : CSg) (H1 : Heap) (locs1 : List Loc), post v u → PHs gm ≤ PHs u.2.2.2.1 → va_P (dC, dI) vwCl (CSg.w ad cid u) H1 → va_D A (CSg.w ad cid u) → va_S A s.heap H1 locs1 → W p l e R s m args below meth c H1 locs1 (cells + gc gm u.2.2.2.1 k) (slots + gs gm u.2.2.2.1 k) Q (F0 m (pc + 3) ls (v.toList ++ rest))) : W p l e R s m args below meth c H locs cells slots Q (F0 m pc ls st0) := by
  have hFc := cfree hD hS hA
  refine W.nb (fun hN => ?_)
  intro T hT X
  rcases hr T hT X with ⟨v, st₀, t, T', L, h0, X', hL, e1, e2, ⟨⟨v2, u, hv, hp, hb, hm, hN1⟩, hF⟩, st⟩ | ⟨q, st₀, t, T', L, E, ce, h0, X', hL, e1, e2, ⟨⟨u, hp, hb, hm, hN1⟩, hF⟩, hce, hcv, hcl, st⟩
  · cases hv
    obtain ⟨k1, k2, k3⟩ := vx_keep h0 e1 hS (fun q _ h => hFc q h) hFc hL hF
    obtain ⟨b1, b2, b3⟩ := hb
    rw [h0, ← e1] at hN1
    obtain ⟨t2, a1, c1⟩ := W.narrow (NBw_tr hN hN1) (kk v u T'.heap (locs ++ L) hp hm (by rw [e1]; exact b1) (b3.weaken (fun _ _ _ h => hFc _ h)) k3) T' rfl X'
    exact ⟨t2, st t2 a1, c1⟩
  · obtain ⟨k1, k2, k3⟩ := vx_keep h0 e1 hS (fun q _ h => hFc q h) hFc hL hF
    obtain ⟨b1, b2, b3⟩ := hb
    rw [h0, ← e1] at hN1
    obtain ⟨t2, a1, c1⟩ := vx_narrow (NBw_tr hN hN1) (kx E ce q u T'.heap (locs ++ L) hp hm (by rw [e1]; exact b1) (b3.weaken (fun _ _ _ h => hFc _ h)) k3 (by rw [e1]; exact hce) hcv hcl) T' rfl X'
    exact ⟨t2, st.trans a1, c1⟩
theorem cm_callTV {post : Option Value → CSt → Prop} {xpost : String → CSt → Prop} {t : Nat} {h : Int} {x : Int32} {C : String} {T : u_T} {N : Nat} (S : CallFix p m c cc nL s args Ts own) (hM : CMt dC dI ad cid a2 lx l y ws rm (eV (ad t) x :: as) sg gm lg post xpost) (cw : CallW R s args own C index y bytes maxL ret ws rm 1 6 n) (hx : iv 0 h x) (hnt : h < (cNum t : Int)) (ht : t < 12) (hc : vwCl[cIx t]? = some (C, T, N)) (hn : as.length = n) (hsize : ls.size = nL) (hst : st0 = as.reverse ++ eV (ad t) x :: rest) (hW : (rest.map fun v => v.category).sum ≤ 8) (hdg : decode cc pc = .ok (.invokevirtual index, 3)) (hf : cells + 1 ≤ R.cells ∧ slots + 6 ≤ R.slots)
    (hK : va_K (dC, dI) vwCl (cT cid) s) (hP : va_P (dC, dI) vwCl (cW ad cid a2 lx sg gm lg) H) (hD : va_D A (cW ad cid a2 lx sg gm lg)) (hS : va_S A s.heap H locs) (hA : ∀ q, s.heap.size ≤ q → A q) (hG : CE ad A s)
    (kx : ∀ (E : String) (ce : Cell) (q9 : Addr) (u : CSt) (H1 : Heap) (locs1 : List Loc), xpost E u → va_P (dC, dI) vwCl (cW ad cid a2 lx u.1 u.2.1 u.2.2) H1 → va_D A (cW ad cid a2 lx u.1 u.2.1 u.2.2) → va_S A s.heap H1 locs1 → H1[q9]? = some ce → ce.vm = .none → s.vm.findClass E = some ce.cls → vx_W p l e R s m args below meth c H1 locs1 (cells + 1) (slots + 6) Q (F0 m pc ls rest) q9)
    (kk : ∀ (v : Option Value) (u : CSt) (H1 : Heap) (locs1 : List Loc), post v u → va_P (dC, dI) vwCl (cW ad cid a2 lx u.1 u.2.1 u.2.2) H1 → va_D A (cW ad cid a2 lx u.1 u.2.1 u.2.2) → va_S A s.heap H1 locs1 → W p l e R s m args below meth c H1 locs1 cells slots Q (F0 m (pc + 3) ls (v.toList ++ rest))) : W p l e R s m args below meth c H locs cells slots Q (F0 m pc ls st0) := by
  subst hst
  have hFc := cfree hD hS hA
  have hM9 := hM H.size
  rw [eV_ref hx.1] at hM9 ⊢
  exact cm_goT (vx_runV (cells := cells) (slots := slots) (As := as) (rest := rest) S hM9 cw ⟨CPre_blind, cm_recv hK hP hx hnt ht hc, fun U hU hW => ⟨rfl, by rw [hU], by rw [hU]; exact hP, va_K.moved hW.alike hK, hD.weaken (fun _ _ _ _ => trivial), hG.go hS hFc hU hW⟩⟩ rfl hn hsize rfl (lv_room hW) hdg hf) hD hS hA kx kk
theorem cm_callTVX {post : Option Value → CSt → Prop} {xpost : String → CSt → Prop} {t : Nat} {h : Int} {x : Int32} {C : String} {T : u_T} {N : Nat} {hh : List (Nat × Nat × Nat × Nat)} (S : CallFix p m c cc nL s args Ts own) (hM : CMt dC dI ad cid a2 lx l y ws rm (eV (ad t) x :: as) sg gm lg post xpost) (cw : vx_CVW R s args own C index y bytes maxL ret hh ws rm 1 6 n) (hx : iv 0 h x) (hnt : h < (cNum t : Int)) (ht : t < 12) (hc : vwCl[cIx t]? = some (C, T, N)) (hn : as.length = n) (hsize : ls.size = nL) (hst : st0 = as.reverse ++ eV (ad t) x :: rest) (hW : (rest.map fun v => v.category).sum ≤ 8) (hdg : decode cc pc = .ok (.invokevirtual index, 3)) (hf : cells + 1 ≤ R.cells ∧ slots + 6 ≤ R.slots)
    (hK : va_K (dC, dI) vwCl (cT cid) s) (hP : va_P (dC, dI) vwCl (cW ad cid a2 lx sg gm lg) H) (hD : va_D A (cW ad cid a2 lx sg gm lg)) (hS : va_S A s.heap H locs) (hA : ∀ q, s.heap.size ≤ q → A q) (hG : CE ad A s)
    (kx : ∀ (E : String) (ce : Cell) (q9 : Addr) (u : CSt) (H1 : Heap) (locs1 : List Loc), xpost E u → va_P (dC, dI) vwCl (cW ad cid a2 lx u.1 u.2.1 u.2.2) H1 → va_D A (cW ad cid a2 lx u.1 u.2.1 u.2.2) → va_S A s.heap H1 locs1 → H1[q9]? = some ce → ce.vm = .none → s.vm.findClass E = some ce.cls → vx_W p l e R s m args below meth c H1 locs1 (cells + 1) (slots + 6) Q (F0 m pc ls rest) q9)
    (kk : ∀ (v : Option Value) (u : CSt) (H1 : Heap) (locs1 : List Loc), post v u → va_P (dC, dI) vwCl (cW ad cid a2 lx u.1 u.2.1 u.2.2) H1 → va_D A (cW ad cid a2 lx u.1 u.2.1 u.2.2) → va_S A s.heap H1 locs1 → W p l e R s m args below meth c H1 locs1 cells slots Q (F0 m (pc + 3) ls (v.toList ++ rest))) : W p l e R s m args below meth c H locs cells slots Q (F0 m pc ls st0) := by
  subst hst
  have hFc := cfree hD hS hA
  have hM9 := hM H.size
  rw [eV_ref hx.1] at hM9 ⊢
  exact cm_goT (vx_runVX (cells := cells) (slots := slots) (As := as) (rest := rest) S hM9 cw ⟨CPre_blind, cm_recv hK hP hx hnt ht hc, fun U hU hW => ⟨rfl, by rw [hU], by rw [hU]; exact hP, va_K.moved hW.alike hK, hD.weaken (fun _ _ _ _ => trivial), hG.go hS hFc hU hW⟩⟩ rfl hn hsize rfl (lv_room hW) hdg hf) hD hS hA kx kk
theorem cm_callTS {post : Option Value → CSt → Prop} {xpost : String → CSt → Prop} (S : CallFix p m c cc nL s args Ts own) (hM : CMt dC dI ad cid a2 lx l y ws rm as sg gm lg post xpost) (cw : CallB R s args own index y bytes maxL ret ws rm 1 6 n ∧ (Cond.static y).before args s = true) (hn : as.length = n) (hsize : ls.size = nL) (hst : st0 = as.reverse ++ rest) (hW : (rest.map fun v => v.category).sum ≤ 8) (hdg : decode cc pc = .ok (.invokestatic index, 3)) (hf : cells + 1 ≤ R.cells ∧ slots + 6 ≤ R.slots)
    (hK : va_K (dC, dI) vwCl (cT cid) s) (hP : va_P (dC, dI) vwCl (cW ad cid a2 lx sg gm lg) H) (hD : va_D A (cW ad cid a2 lx sg gm lg)) (hS : va_S A s.heap H locs) (hA : ∀ q, s.heap.size ≤ q → A q) (hG : CE ad A s)
    (kx : ∀ (E : String) (ce : Cell) (q9 : Addr) (u : CSt) (H1 : Heap) (locs1 : List Loc), xpost E u → va_P (dC, dI) vwCl (cW ad cid a2 lx u.1 u.2.1 u.2.2) H1 → va_D A (cW ad cid a2 lx u.1 u.2.1 u.2.2) → va_S A s.heap H1 locs1 → H1[q9]? = some ce → ce.vm = .none → s.vm.findClass E = some ce.cls → vx_W p l e R s m args below meth c H1 locs1 (cells + 1) (slots + 6) Q (F0 m pc ls rest) q9)
    (kk : ∀ (v : Option Value) (u : CSt) (H1 : Heap) (locs1 : List Loc), post v u → va_P (dC, dI) vwCl (cW ad cid a2 lx u.1 u.2.1 u.2.2) H1 → va_D A (cW ad cid a2 lx u.1 u.2.1 u.2.2) → va_S A s.heap H1 locs1 → W p l e R s m args below meth c H1 locs1 cells slots Q (F0 m (pc + 3) ls (v.toList ++ rest))) : W p l e R s m args below meth c H locs cells slots Q (F0 m pc ls st0) := by
  subst hst
  have hFc := cfree hD hS hA
  exact cm_goT (vx_runS (cells := cells) (slots := slots) (As := as) (rest := rest) S (hM H.size) cw ⟨CPre_blind, fun U hU hW => ⟨rfl, by rw [hU], by rw [hU]; exact hP, va_K.moved hW.alike hK, hD.weaken (fun _ _ _ _ => trivial), hG.go hS hFc hU hW⟩⟩ rfl hn hsize rfl (lv_room hW) hdg hf) hD hS hA kx kk
theorem cm_callGV {post : Option Value → CSg → Prop} {xpost : String → CSg → Prop} {t : Nat} {h : Int} {x : Int32} {C : String} {T : u_T} {N : Nat} (S : CallFix p m c cc nL s args Ts own) (hM : CMg dC dI ad cid l y ws rm (eV (ad t) x :: as) a2 lx sg gm lg k mc ms post xpost) (cw : CallW R s args own C index y bytes maxL ret ws rm mc ms n) (hx : iv 0 h x) (hnt : h < (cNum t : Int)) (ht : t < 12) (hc : vwCl[cIx t]? = some (C, T, N)) (hn : as.length = n) (hsize : ls.size = nL) (hst : st0 = as.reverse ++ eV (ad t) x :: rest) (hW : (rest.map fun v => v.category).sum ≤ 8) (hdg : decode cc pc = .ok (.invokevirtual index, 3)) (hf : cells + mc ≤ R.cells ∧ slots + ms ≤ R.slots)
    (hK : va_K (dC, dI) vwCl (cT cid) s) (hP : va_P (dC, dI) vwCl (cW ad cid a2 lx sg gm lg) H) (hD : va_D A (cW ad cid a2 lx sg gm lg)) (hS : va_S A s.heap H locs) (hA : ∀ q, s.heap.size ≤ q → A q) (hG : CE ad A s)
    (kx : ∀ (E : String) (ce : Cell) (q9 : Addr) (u : CSg) (H1 : Heap) (locs1 : List Loc), xpost E u → PHs gm ≤ PHs u.2.2.2.1 → va_P (dC, dI) vwCl (CSg.w ad cid u) H1 → va_D A (CSg.w ad cid u) → va_S A s.heap H1 locs1 → H1[q9]? = some ce → ce.vm = .none → s.vm.findClass E = some ce.cls → vx_W p l e R s m args below meth c H1 locs1 (cells + gc gm u.2.2.2.1 (k + 1)) (slots + gs gm u.2.2.2.1 (k + 1)) Q (F0 m pc ls rest) q9)
    (kk : ∀ (v : Option Value) (u : CSg) (H1 : Heap) (locs1 : List Loc), post v u → PHs gm ≤ PHs u.2.2.2.1 → va_P (dC, dI) vwCl (CSg.w ad cid u) H1 → va_D A (CSg.w ad cid u) → va_S A s.heap H1 locs1 → W p l e R s m args below meth c H1 locs1 (cells + gc gm u.2.2.2.1 k) (slots + gs gm u.2.2.2.1 k) Q (F0 m (pc + 3) ls (v.toList ++ rest))) : W p l e R s m args below meth c H locs cells slots Q (F0 m pc ls st0) := by
  subst hst
  have hFc := cfree hD hS hA
  have hM9 := hM H.size
  rw [eV_ref hx.1] at hM9 ⊢
  exact cm_goG (vx_runV (cells := cells) (slots := slots) (As := as) (rest := rest) S hM9 cw ⟨CPre_blind, cm_recv hK hP hx hnt ht hc, fun U hU hW => ⟨rfl, by rw [hU], by rw [hU]; exact hP, va_K.moved hW.alike hK, hD.weaken (fun _ _ _ _ => trivial), hG.go hS hFc hU hW⟩⟩ rfl hn hsize rfl (lv_room hW) hdg hf) hD hS hA kx kk
theorem cm_callGVX {post : Option Value → CSg → Prop} {xpost : String → CSg → Prop} {t : Nat} {h : Int} {x : Int32} {C : String} {T : u_T} {N : Nat} {hh : List (Nat × Nat × Nat × Nat)} (S : CallFix p m c cc nL s args Ts own) (hM : CMg dC dI ad cid l y ws rm (eV (ad t) x :: as) a2 lx sg gm lg k mc ms post xpost) (cw : vx_CVW R s args own C index y bytes maxL ret hh ws rm mc ms n) (hx : iv 0 h x) (hnt : h < (cNum t : Int)) (ht : t < 12) (hc : vwCl[cIx t]? = some (C, T, N)) (hn : as.length = n) (hsize : ls.size = nL) (hst : st0 = as.reverse ++ eV (ad t) x :: rest) (hW : (rest.map fun v => v.category).sum ≤ 8) (hdg : decode cc pc = .ok (.invokevirtual index, 3)) (hf : cells + mc ≤ R.cells ∧ slots + ms ≤ R.slots)
    (hK : va_K (dC, dI) vwCl (cT cid) s) (hP : va_P (dC, dI) vwCl (cW ad cid a2 lx sg gm lg) H) (hD : va_D A (cW ad cid a2 lx sg gm lg)) (hS : va_S A s.heap H locs) (hA : ∀ q, s.heap.size ≤ q → A q) (hG : CE ad A s)
    (kx : ∀ (E : String) (ce : Cell) (q9 : Addr) (u : CSg) (H1 : Heap) (locs1 : List Loc), xpost E u → PHs gm ≤ PHs u.2.2.2.1 → va_P (dC, dI) vwCl (CSg.w ad cid u) H1 → va_D A (CSg.w ad cid u) → va_S A s.heap H1 locs1 → H1[q9]? = some ce → ce.vm = .none → s.vm.findClass E = some ce.cls → vx_W p l e R s m args below meth c H1 locs1 (cells + gc gm u.2.2.2.1 (k + 1)) (slots + gs gm u.2.2.2.1 (k + 1)) Q (F0 m pc ls rest) q9)
    (kk : ∀ (v : Option Value) (u : CSg) (H1 : Heap) (locs1 : List Loc), post v u → PHs gm ≤ PHs u.2.2.2.1 → va_P (dC, dI) vwCl (CSg.w ad cid u) H1 → va_D A (CSg.w ad cid u) → va_S A s.heap H1 locs1 → W p l e R s m args below meth c H1 locs1 (cells + gc gm u.2.2.2.1 k) (slots + gs gm u.2.2.2.1 k) Q (F0 m (pc + 3) ls (v.toList ++ rest))) : W p l e R s m args below meth c H locs cells slots Q (F0 m pc ls st0) := by
  subst hst
  have hFc := cfree hD hS hA
  have hM9 := hM H.size
  rw [eV_ref hx.1] at hM9 ⊢
  exact cm_goG (vx_runVX (cells := cells) (slots := slots) (As := as) (rest := rest) S hM9 cw ⟨CPre_blind, cm_recv hK hP hx hnt ht hc, fun U hU hW => ⟨rfl, by rw [hU], by rw [hU]; exact hP, va_K.moved hW.alike hK, hD.weaken (fun _ _ _ _ => trivial), hG.go hS hFc hU hW⟩⟩ rfl hn hsize rfl (lv_room hW) hdg hf) hD hS hA kx kk
theorem cm_callGS {post : Option Value → CSg → Prop} {xpost : String → CSg → Prop} (S : CallFix p m c cc nL s args Ts own) (hM : CMg dC dI ad cid l y ws rm as a2 lx sg gm lg k mc ms post xpost) (cw : CallB R s args own index y bytes maxL ret ws rm mc ms n ∧ (Cond.static y).before args s = true) (hn : as.length = n) (hsize : ls.size = nL) (hst : st0 = as.reverse ++ rest) (hW : (rest.map fun v => v.category).sum ≤ 8) (hdg : decode cc pc = .ok (.invokestatic index, 3)) (hf : cells + mc ≤ R.cells ∧ slots + ms ≤ R.slots)
    (hK : va_K (dC, dI) vwCl (cT cid) s) (hP : va_P (dC, dI) vwCl (cW ad cid a2 lx sg gm lg) H) (hD : va_D A (cW ad cid a2 lx sg gm lg)) (hS : va_S A s.heap H locs) (hA : ∀ q, s.heap.size ≤ q → A q) (hG : CE ad A s)
    (kx : ∀ (E : String) (ce : Cell) (q9 : Addr) (u : CSg) (H1 : Heap) (locs1 : List Loc), xpost E u → PHs gm ≤ PHs u.2.2.2.1 → va_P (dC, dI) vwCl (CSg.w ad cid u) H1 → va_D A (CSg.w ad cid u) → va_S A s.heap H1 locs1 → H1[q9]? = some ce → ce.vm = .none → s.vm.findClass E = some ce.cls → vx_W p l e R s m args below meth c H1 locs1 (cells + gc gm u.2.2.2.1 (k + 1)) (slots + gs gm u.2.2.2.1 (k + 1)) Q (F0 m pc ls rest) q9)
    (kk : ∀ (v : Option Value) (u : CSg) (H1 : Heap) (locs1 : List Loc), post v u → PHs gm ≤ PHs u.2.2.2.1 → va_P (dC, dI) vwCl (CSg.w ad cid u) H1 → va_D A (CSg.w ad cid u) → va_S A s.heap H1 locs1 → W p l e R s m args below meth c H1 locs1 (cells + gc gm u.2.2.2.1 k) (slots + gs gm u.2.2.2.1 k) Q (F0 m (pc + 3) ls (v.toList ++ rest))) : W p l e R s m args below meth c H locs cells slots Q (F0 m pc ls st0) := by
  subst hst
  have hFc := cfree hD hS hA
  exact cm_goG (vx_runS (cells := cells) (slots := slots) (As := as) (rest := rest) S (hM H.size) cw ⟨CPre_blind, fun U hU hW => ⟨rfl, by rw [hU], by rw [hU]; exact hP, va_K.moved hW.alike hK, hD.weaken (fun _ _ _ _ => trivial), hG.go hS hFc hU hW⟩⟩ rfl hn hsize rfl (lv_room hW) hdg hf) hD hS hA kx kk
end CMD
