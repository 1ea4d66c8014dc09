def wNm : List String := ["BEANS", "ALIAS", "BEAN", "ARG", "SET", "LOOKUP", "LIST", "VALUE", "REF", "NULL", "ID", "CLASS", "PARENT", "ABSTRACT", "SCOPE", "LAZY", "FACTORY", "METHOD", "INIT", "DESTROY", "DEPENDS", "NAME", "TO", "AT", "TYPE", "YES", "NO", "ONE", "MANY", "INT", "TRUTH", "CHAR", "TEXT", "ROW"]
def wKy : List Int64 := [422607679091, 418430673267, 1650811246, 6386279, 7562612, 119225866483056, 1818850164, 508440638821, 7497062, 1853189228, 26980, 427020088179, 123563833388660, 7017298113369039732, 495589486693, 1818327673, 28817527407604345, 120282512125796, 1768843636, 28259044220366713, 28259031083541619, 1851878757, 29807, 24948, 1954115685, 7955827, 28271, 7302757, 1835101817, 6909556, 500136506472, 1667785074, 1952807028, 7499639]
def wSw : List Int32 := [6, 7, 8, 9, 10, 11, 12, 13, 14, 15, 16, 19, 20, 17, 21, 18, 22, 23, 24, 25, 26, 27, 0, 28, 29, 0, 0, 0, 0, 1, 2, 3, 4, 5]
def sTxt : List String := ["lt", "gt", "quot", "amp", "apos", "true", "false"]
def sOwn : List String := ["WiredBeans$Reader", "WiredBeans$Reader", "WiredBeans$Reader", "WiredBeans$Reader", "WiredBeans$Reader", "WiredBeans$Element", "WiredBeans$Element"]
def sEnt : List Nat := [131, 137, 139, 141, 143, 95, 101]
def sByt : List (List Int32) := [[108, 116], [103, 116], [113, 117, 111, 116], [97, 109, 112], [97, 112, 111, 115], [116, 114, 117, 101], [102, 97, 108, 115, 101]]
/-- the words of the class: constants that nobody writes -/
def WE (ad : Nat → Nat → Nat) (A : Nat → Prop) (U : State) (H : Heap) : Prop :=
  (∀ k, k < 34 → va_Z "WiredBeans$Word" (wNm.getD k "") "LWiredBeans$Word;" (.ref (ad 33 k)) A U H ∧ va_O "WiredBeans$Word" (ad 33 k) A U H ∧ va_OF "java/lang/Enum" "ordinal" "I" (.int (nI k)) (ad 33 k) A U H ∧ va_OF "WiredBeans$Word" "key" "J" (.long (wKy.getD k 0)) (ad 33 k) A U H)
  ∧ (va_Z "WiredBeans$Word" "ALL" "[LWiredBeans$Word;" (.ref (ad 35 0)) A U H ∧ va_T (.object "WiredBeans$Word") (ad 35 0) 34 (fun j => .ref (ad 33 j)) A U H)
  ∧ (va_Z "WiredBeans$1" "$SwitchMap$WiredBeans$Word" "[I" (.ref (ad 36 0)) A U H ∧ va_T .int (ad 36 0) 34 (fun j => .int (wSw.getD j 0)) A U H)
theorem WE.moved {ad : Nat → Nat → Nat} {A : Nat → Prop} {u U : State} {H : Heap} (hvm : u.vm.Alike U.vm) (h : WE ad A u H) : WE ad A U H :=
  ⟨fun k hk => ⟨va_Z.moved hvm (h.1 k hk).1, va_O.moved hvm (h.1 k hk).2.1, va_OF.moved hvm (h.1 k hk).2.2.1, va_OF.moved hvm (h.1 k hk).2.2.2⟩, ⟨va_Z.moved hvm h.2.1.1, va_T.moved hvm h.2.1.2⟩, ⟨va_Z.moved hvm h.2.2.1, va_T.moved hvm h.2.2.2⟩⟩
theorem WE.kept {ad : Nat → Nat → Nat} {A : Nat → Prop} {U : State} {H H1 : Heap} (h : WE ad A U H) (hq : ∀ a : Nat, a < H.size → ¬ A a → H1[a]? = H[a]?) : WE ad A U H1 :=
  ⟨fun k hk => ⟨(h.1 k hk).1.kept hq, (h.1 k hk).2.1.kept hq, (h.1 k hk).2.2.1.kept hq, (h.1 k hk).2.2.2.kept hq⟩, ⟨h.2.1.1.kept hq, h.2.1.2.kept hq⟩, ⟨h.2.2.1.kept hq, h.2.2.2.kept hq⟩⟩
theorem WE.narrow {ad : Nat → Nat → Nat} {A B : Nat → Prop} {U : State} {H : Heap} (h : WE ad A U H) (hAB : ∀ q, B q → A q) : WE ad B U H :=
  ⟨fun k hk => ⟨(h.1 k hk).1.narrow hAB, (h.1 k hk).2.1.narrow hAB, (h.1 k hk).2.2.1.narrow hAB, (h.1 k hk).2.2.2.narrow hAB⟩, ⟨h.2.1.1.narrow hAB, h.2.1.2.narrow hAB⟩, ⟨h.2.2.1.narrow hAB, h.2.2.2.narrow hAB⟩⟩
/-- the texts of the class: constants that nobody writes -/
def SQ (q v n : Nat) (f : Nat → Int32) (A : Nat → Prop) (U : State) (H : Heap) : Prop := va_O "java/lang/String" q A U H ∧ va_OF "java/lang/String" "coder" "B" (.int 0) q A U H ∧ va_OF "java/lang/String" "value" "[B" (.ref v) q A U H ∧ va_T .byte v n (fun j => .int (f j)) A U H ∧ va_Z "java/lang/String" "COMPACT_STRINGS" "Z" (.int 1) A U H ∧ va_Zq "jdk/internal/util/Preconditions" "SIOOBE_FORMATTER" "Ljava/util/function/BiFunction;" A U H
theorem SQ.moved {q v n : Nat} {f : Nat → Int32} {A : Nat → Prop} {u U : State} {H : Heap} (hvm : u.vm.Alike U.vm) (h : SQ q v n f A u H) : SQ q v n f A U H := ⟨va_O.moved hvm h.1, va_OF.moved hvm h.2.1, va_OF.moved hvm h.2.2.1, va_T.moved hvm h.2.2.2.1, va_Z.moved hvm h.2.2.2.2.1, va_Zq.moved hvm h.2.2.2.2.2⟩
theorem SQ.kept {q v n : Nat} {f : Nat → Int32} {A : Nat → Prop} {U : State} {H H1 : Heap} (h : SQ q v n f A U H) (hq : ∀ a : Nat, a < H.size → ¬ A a → H1[a]? = H[a]?) : SQ q v n f A U H1 := ⟨h.1.kept hq, h.2.1.kept hq, h.2.2.1.kept hq, h.2.2.2.1.kept hq, h.2.2.2.2.1.kept hq, va_Zq.kept h.2.2.2.2.2 hq⟩
theorem SQ.narrow {q v n : Nat} {f : Nat → Int32} {A B : Nat → Prop} {U : State} {H : Heap} (h : SQ q v n f A U H) (hAB : ∀ x, B x → A x) : SQ q v n f B U H := ⟨h.1.narrow hAB, h.2.1.narrow hAB, h.2.2.1.narrow hAB, h.2.2.2.1.narrow hAB, h.2.2.2.2.1.narrow hAB, va_Zq.narrow h.2.2.2.2.2 hAB⟩
def SE (ad : Nat → Nat → Nat) (A : Nat → Prop) (U : State) (H : Heap) : Prop := (∀ k, k < 7 → SQ (ad 37 k) (ad 38 k) ((sByt.getD k []).length) (fun j => (sByt.getD k []).getD j 0) A U H) ∧ ∀ k, k < 7 → vk_R (sOwn.getD k "") (sEnt.getD k 0) (sTxt.getD k "") (ad 37 k) U
theorem SE.go {ad : Nat → Nat → Nat} {A B : Nat → Prop} {s U : State} {H : Heap} {locs : List Loc} (h : SE ad A s s.heap) (hS : va_S A s.heap H locs) (hB : ∀ q, B q → A q) (hU : U.heap = H) (hW : s.WarmedH U.vm) : SE ad B U U.heap := ⟨fun k hk => by rw [hU]; exact (SQ.moved hW.alike ((h.1 k hk).kept hS.2.1)).narrow hB, fun k hk => vk_R.warm hW (h.2 k hk)⟩
/-- what the lists meet -/
def LE (ad : Nat → Nat → Nat) (A : Nat → Prop) (U : State) (H : Heap) : Prop := (va_Nw (.castable "WiredBeans$Element" "java/lang/Object") U ∧ va_Nw (.castable "WiredBeans$Element" "WiredBeans$Element") U) ∧ (va_AO "java/lang/Object" U ∧ va_Dc U ∧ va_Mi "[Ljava/lang/Object;" (ad 39 0) U) ∧ va_Z "java/util/ArrayList" "DEFAULTCAPACITY_EMPTY_ELEMENTDATA" "[Ljava/lang/Object;" (.ref (ad 34 0)) A U H ∧ va_T (.object "java/lang/Object") (ad 34 0) 0 (fun _ => .null) A U H
theorem LE.go {ad : Nat → Nat → Nat} {A B : Nat → Prop} {s U : State} {H : Heap} {locs : List Loc} (h : LE ad A s s.heap) (hS : va_S A s.heap H locs) (hB : ∀ q, B q → A q) (hU : U.heap = H) (hW : s.WarmedH U.vm) : LE ad B U U.heap :=
  ⟨⟨va_Nw.warmC hW h.1.1, va_Nw.warmC hW h.1.2⟩, ⟨va_AO.moved hW.alike h.2.1.1, va_Dc.moved hW.alike h.2.1.2.1, va_Mi.moved hW.alike h.2.1.2.2⟩, (by rw [hU]; exact (va_Z.moved hW.alike (h.2.2.1.kept hS.2.1)).narrow hB), (by rw [hU]; exact (va_T.moved hW.alike (h.2.2.2.kept hS.2.1)).narrow hB)⟩
/-- what a method of the class meets beside its own cells -/
def CE (ad : Nat → Nat → Nat) (A : Nat → Prop) (U : State) : Prop := GE A U ∧ (va_Nw (.castable "java/lang/UnsupportedOperationException" "java/lang/UnsupportedOperationException") U ∧ va_Nw (.castable "java/lang/IndexOutOfBoundsException" "java/lang/IndexOutOfBoundsException") U ∧ LE ad A U U.heap) ∧ WE ad A U U.heap ∧ SE ad A U U.heap
theorem CE.go {ad : Nat → Nat → Nat} {A B : Nat → Prop} {s U : State} {H : Heap} {locs : List Loc} (h : CE ad A s) (hS : va_S A s.heap H locs) (hB : ∀ q, B q → A q) (hU : U.heap = H) (hW : s.WarmedH U.vm) : CE ad B U :=
  ⟨h.1.go hS hB hU hW, ⟨va_Nw.warmC hW h.2.1.1, va_Nw.warmC hW h.2.1.2.1, h.2.1.2.2.go hS hB hU hW⟩, (by rw [hU]; exact (WE.moved hW.alike (h.2.2.1.kept hS.2.1)).narrow hB), h.2.2.2.go hS hB hU hW⟩
theorem CE.call {ad : Nat → Nat → Nat} {A : Nat → Prop} {U : State} (g : JFrame) (mk : MethodId) (a : Array Value) (h : CE ad A U) : CE ad A (U.calling g mk a) := CE.go (U := U.calling g mk a) h (va_S.rf (H0 := U.heap)) (fun _ h => h) rfl (State.WarmedH.refl U)
abbrev CSt : Type := (Nat → Int32) × (Nat → Nat → Int32) × (Nat → Nat → Int64)
section CM
variable (dC : Nat → ClassId) (dI : Nat → Nat → Nat) (ad : Nat → Nat → Nat) (cid : Nat → ClassId) (a2 : Nat → Nat) (lx : List Nat)
def CPre (sg : Nat → Int32) (gm : Nat → Nat → Int32) (lg : Nat → Nat → Int64) (sz : Nat) (U : State) : Prop := U.heap.size = sz ∧ va_P (dC, dI) vwCl (cW ad cid a2 lx sg gm lg) U.heap ∧ va_K (dC, dI) vwCl (cT cid) U ∧ va_D (fun _ => True) (cW ad cid a2 lx sg gm lg) ∧ CE ad (va_A (cW ad cid a2 lx sg gm lg) sz) U
def CB (A : Nat → Prop) (u : CSt) (t : State) : Prop := va_P (dC, dI) vwCl (cW ad cid a2 lx u.1 u.2.1 u.2.2) t.heap ∧ va_K (dC, dI) vwCl (cT cid) t ∧ va_D A (cW ad cid a2 lx u.1 u.2.1 u.2.2)
def cQx (post : Option Value → CSt → Prop) (A : Nat → Prop) : Array Value → State → Outcome → State → Prop := fun _ st oc t => (∃ (v : Option Value) (u : CSt), oc = .returned v ∧ post v u ∧ CB dC dI ad cid a2 lx A u t) ∧ va_F A st t ∧ NBw st.heap t.heap 0 0
def cX (xpost : String → CSt → Prop) (A : Nat → Prop) : String → State → State → Prop := fun E st t => (∃ u : CSt, xpost E u ∧ CB dC dI ad cid a2 lx A u t) ∧ va_F A st t
/-- a method of the class: it returns with post, or throws with xpost -/
def CMt (l : Launch) (y : MethodName) (ws : List Cond) (rm : Room) (as : List Value) (sg : Nat → Int32) (gm : Nat → Nat → Int32) (lg : Nat → Nat → Int64) (post : Option Value → CSt → Prop) (xpost : String → CSt → Prop) : Prop :=
  ∀ sz, vx_Met l y ws rm (va_Pc as (CPre dC dI ad cid a2 lx sg gm lg sz)) (cQx dC dI ad cid a2 lx post (va_A (cW ad cid a2 lx sg gm lg) sz)) (cX dC dI ad cid a2 lx xpost (va_A (cW ad cid a2 lx sg gm lg) sz)) 1 6 (va_A (cW ad cid a2 lx sg gm lg) sz)
end CM
section CMC
variable {p : Program} {l : Launch} {e : Env} {R : Room} {s : State} {m : MethodId} {args : Array Value} {below : List Frame} {meth : Method} {c : Code} {H : Heap} {locs : List Loc} {Q : State → Prop} {cc : ByteArray} {pc : Nat} {ls : Array Slot} {rest : List Value} {A : Nat → Prop}
variable {dC : Nat → ClassId} {dI : Nat → Nat → Nat} {ad : Nat → Nat → Nat} {cid : Nat → ClassId} {a2 : Nat → Nat} {lx : List Nat} {sg : Nat → Int32} {gm : Nat → Nat → Int32} {lg : Nat → Nat → Int64} {Ts : List Cond} {own : String} {index : Nat}
variable {y : MethodName} {ws : List Cond} {rm : Room} {bytes : ByteArray} {maxL n nL : Nat} {ret : Option FieldType} {as : List Value} {st0 : List Value} {post : Option Value → CSt → Prop} {xpost : String → CSt → Prop}
theorem CPre_blind {sz : Nat} : FrameBlind (va_Pc as (CPre dC dI ad cid a2 lx sg gm lg sz)) := fun a U g mk q => by
  obtain ⟨q0, q1, qP, qK, qD, qG⟩ := q
  exact ⟨q0, q1, qP, va_K.moved (u := U) (U := U.calling g mk a) (Vm.Alike.refl U.vm) qK, qD, CE.call g mk a qG⟩
theorem cfree (hD : va_D A (cW ad cid a2 lx sg gm lg)) (hS : va_S A s.heap H locs) (hA : ∀ q, s.heap.size ≤ q → A q) : ∀ q, va_A (cW ad cid a2 lx sg gm lg) H.size q → A q := by
  intro q h
  rcases h with ⟨k, e, h⟩ | h
  · exact hD.2 k (q, e) h
  · exact hA q (Nat.le_trans hS.1 h)
theorem cm_go {a : Array Value} (hr : vx_Run p l e R s m args below meth c H locs 0 0 1 6 (F0 m pc ls st0) rest (cQx dC dI ad cid a2 lx post (va_A (cW ad cid a2 lx sg gm lg) H.size) a) (cX dC dI ad cid a2 lx xpost (va_A (cW ad cid a2 lx sg gm lg) H.size)) (va_A (cW ad cid a2 lx sg gm lg) H.size)) (hD : va_D A (cW ad cid a2 lx sg gm lg)) (hS : va_S A s.heap H locs) (hA : ∀ q, s.heap.size ≤ q → A q)
    (kx : ∀ (E : String) (ce : Cell) (q9 : Addr) (u : CSt) (H1 : Heap) (locs1 : List Loc), xpost E u → va_P (dC, dI) vwCl (cW ad cid a2 lx u.1 u.2.1 u.2.2) H1 → va_D A (cW ad cid a2 lx u.1 u.2.1 u.2.2) → va_S A s.heap H1 locs1 → H1[q9]? = some ce → ce.vm = .none → s.vm.findClass E = some ce.cls → vx_W p l e R s m args below meth c H1 locs1 1 6 Q (F0 m pc ls rest) q9)
    (kk : ∀ (v : Option Value) (u : CSt) (H1 : Heap) (locs1 : List Loc), post v u → va_P (dC, dI) vwCl (cW ad cid a2 lx u.1 u.2.1 u.2.2) H1 → va_D A (cW ad cid a2 lx u.1 u.2.1 u.2.2) → va_S A s.heap H1 locs1 → W p l e R s m args below meth c H1 locs1 0 0 Q (F0 m (pc + 3) ls (v.toList ++ rest))) : W p l e R s m args below meth c H locs 0 0 Q (F0 m pc ls st0) := by
  have hFc := cfree hD hS hA
  refine W.nb (fun hN => ?_)
  intro T hT X
  rcases hr T hT X with ⟨v, st₀, t, T', L, h0, X', hL, e1, e2, ⟨⟨v2, u, hv, hp, hb⟩, hF, hN1⟩, st⟩ | ⟨q, st₀, t, T', L, E, ce, h0, X', hL, e1, e2, ⟨⟨u, hp, hb⟩, hF⟩, hce, hcv, hcl, st⟩
  · cases hv
    obtain ⟨k1, k2, k3⟩ := vx_keep h0 e1 hS (fun q _ h => hFc q h) hFc hL hF
    obtain ⟨b1, b2, b3⟩ := hb
    rw [h0, ← e1] at hN1
    obtain ⟨t2, a1, c1⟩ := W.narrow (NBw_00 hN hN1) (kk v u T'.heap (locs ++ L) hp (by rw [e1]; exact b1) (b3.weaken (fun _ _ _ h => hFc _ h)) k3) T' rfl X'
    exact ⟨t2, st t2 a1, c1⟩
  · obtain ⟨k1, k2, k3⟩ := vx_keep h0 e1 hS (fun q _ h => hFc q h) hFc hL hF
    obtain ⟨b1, b2, b3⟩ := hb
    obtain ⟨t2, a1, c1⟩ := kx E ce q u T'.heap (locs ++ L) hp (by rw [e1]; exact b1) (b3.weaken (fun _ _ _ h => hFc _ h)) k3 (by rw [e1]; exact hce) hcv hcl T' rfl X'
    exact ⟨t2, st.trans a1, c1⟩
theorem cm_recv {t : Nat} {h : Int} {x : Int32} {C : String} {T : u_T} {N : Nat} (hK : va_K (dC, dI) vwCl (cT cid) s) (hP : va_P (dC, dI) vwCl (cW ad cid a2 lx sg gm lg) H) (hx : iv 0 h x) (hnt : h < (cNum t : Int)) (ht : t < 12) (hc : vwCl[cIx t]? = some (C, T, N)) : ∃ cellB : Cell, H[ad t x.toNatClampNeg]? = some cellB ∧ cellB.vm.isStatics = false ∧ s.vm.findClass C = some cellB.cls := by
  obtain ⟨p9, hp⟩ := cPL_at (t := t) (by omega) (cnx hx hnt)
  exact va_recv hK hP (ci := cIx t) (q0 := p9) hc (by rw [cW_at hp, cE_o ht])
theorem cm_callV {t : Nat} {h : Int} {x : Int32} {C : String} {T : u_T} {N : Nat} (S : CallFix p m c cc nL s args Ts own) (hM : CMt dC dI ad cid a2 lx l y ws rm (eV (ad t) x :: as) sg gm lg post xpost) (cw : CallW R s args own C index y bytes maxL ret ws rm 1 6 n) (hx : iv 0 h x) (hnt : h < (cNum t : Int)) (ht : t < 12) (hc : vwCl[cIx t]? = some (C, T, N)) (hn : as.length = n) (hsize : ls.size = nL) (hst : st0 = as.reverse ++ eV (ad t) x :: rest) (hW : (rest.map fun v => v.category).sum ≤ 8) (hdg : decode cc pc = .ok (.invokevirtual index, 3)) (hf : 1 ≤ R.cells ∧ 6 ≤ R.slots)
    (hK : va_K (dC, dI) vwCl (cT cid) s) (hP : va_P (dC, dI) vwCl (cW ad cid a2 lx sg gm lg) H) (hD : va_D A (cW ad cid a2 lx sg gm lg)) (hS : va_S A s.heap H locs) (hA : ∀ q, s.heap.size ≤ q → A q) (hG : CE ad A s)
    (kx : ∀ (E : String) (ce : Cell) (q9 : Addr) (u : CSt) (H1 : Heap) (locs1 : List Loc), xpost E u → va_P (dC, dI) vwCl (cW ad cid a2 lx u.1 u.2.1 u.2.2) H1 → va_D A (cW ad cid a2 lx u.1 u.2.1 u.2.2) → va_S A s.heap H1 locs1 → H1[q9]? = some ce → ce.vm = .none → s.vm.findClass E = some ce.cls → vx_W p l e R s m args below meth c H1 locs1 1 6 Q (F0 m pc ls rest) q9)
    (kk : ∀ (v : Option Value) (u : CSt) (H1 : Heap) (locs1 : List Loc), post v u → va_P (dC, dI) vwCl (cW ad cid a2 lx u.1 u.2.1 u.2.2) H1 → va_D A (cW ad cid a2 lx u.1 u.2.1 u.2.2) → va_S A s.heap H1 locs1 → W p l e R s m args below meth c H1 locs1 0 0 Q (F0 m (pc + 3) ls (v.toList ++ rest))) : W p l e R s m args below meth c H locs 0 0 Q (F0 m pc ls st0) := by
  subst hst
  have hFc := cfree hD hS hA
  have hM9 := hM H.size
  rw [eV_ref hx.1] at hM9 ⊢
  exact cm_go (vx_runV (cells := 0) (slots := 0) (As := as) (rest := rest) S hM9 cw ⟨CPre_blind, cm_recv hK hP hx hnt ht hc, fun U hU hW => ⟨rfl, by rw [hU], by rw [hU]; exact hP, va_K.moved hW.alike hK, hD.weaken (fun _ _ _ _ => trivial), hG.go hS hFc hU hW⟩⟩ rfl hn hsize rfl (lv_room hW) hdg ⟨by omega, by omega⟩) hD hS hA kx kk
theorem cm_callVX {t : Nat} {h : Int} {x : Int32} {C : String} {T : u_T} {N : Nat} {hh : List (Nat × Nat × Nat × Nat)} (S : CallFix p m c cc nL s args Ts own) (hM : CMt dC dI ad cid a2 lx l y ws rm (eV (ad t) x :: as) sg gm lg post xpost) (cw : vx_CVW R s args own C index y bytes maxL ret hh ws rm 1 6 n) (hx : iv 0 h x) (hnt : h < (cNum t : Int)) (ht : t < 12) (hc : vwCl[cIx t]? = some (C, T, N)) (hn : as.length = n) (hsize : ls.size = nL) (hst : st0 = as.reverse ++ eV (ad t) x :: rest) (hW : (rest.map fun v => v.category).sum ≤ 8) (hdg : decode cc pc = .ok (.invokevirtual index, 3)) (hf : 1 ≤ R.cells ∧ 6 ≤ R.slots)
    (hK : va_K (dC, dI) vwCl (cT cid) s) (hP : va_P (dC, dI) vwCl (cW ad cid a2 lx sg gm lg) H) (hD : va_D A (cW ad cid a2 lx sg gm lg)) (hS : va_S A s.heap H locs) (hA : ∀ q, s.heap.size ≤ q → A q) (hG : CE ad A s)
    (kx : ∀ (E : String) (ce : Cell) (q9 : Addr) (u : CSt) (H1 : Heap) (locs1 : List Loc), xpost E u → va_P (dC, dI) vwCl (cW ad cid a2 lx u.1 u.2.1 u.2.2) H1 → va_D A (cW ad cid a2 lx u.1 u.2.1 u.2.2) → va_S A s.heap H1 locs1 → H1[q9]? = some ce → ce.vm = .none → s.vm.findClass E = some ce.cls → vx_W p l e R s m args below meth c H1 locs1 1 6 Q (F0 m pc ls rest) q9)
    (kk : ∀ (v : Option Value) (u : CSt) (H1 : Heap) (locs1 : List Loc), post v u → va_P (dC, dI) vwCl (cW ad cid a2 lx u.1 u.2.1 u.2.2) H1 → va_D A (cW ad cid a2 lx u.1 u.2.1 u.2.2) → va_S A s.heap H1 locs1 → W p l e R s m args below meth c H1 locs1 0 0 Q (F0 m (pc + 3) ls (v.toList ++ rest))) : W p l e R s m args below meth c H locs 0 0 Q (F0 m pc ls st0) := by
  subst hst
  have hFc := cfree hD hS hA
  have hM9 := hM H.size
  rw [eV_ref hx.1] at hM9 ⊢
  exact cm_go (vx_runVX (cells := 0) (slots := 0) (As := as) (rest := rest) S hM9 cw ⟨CPre_blind, cm_recv hK hP hx hnt ht hc, fun U hU hW => ⟨rfl, by rw [hU], by rw [hU]; exact hP, va_K.moved hW.alike hK, hD.weaken (fun _ _ _ _ => trivial), hG.go hS hFc hU hW⟩⟩ rfl hn hsize rfl (lv_room hW) hdg ⟨by omega, by omega⟩) hD hS hA kx kk
theorem cm_callS (S : CallFix p m c cc nL s args Ts own) (hM : CMt dC dI ad cid a2 lx l y ws rm as sg gm lg post xpost) (cw : CallB R s args own index y bytes maxL ret ws rm 1 6 n ∧ (Cond.static y).before args s = true) (hn : as.length = n) (hsize : ls.size = nL) (hst : st0 = as.reverse ++ rest) (hW : (rest.map fun v => v.category).sum ≤ 8) (hdg : decode cc pc = .ok (.invokestatic index, 3)) (hf : 1 ≤ R.cells ∧ 6 ≤ R.slots)
    (hK : va_K (dC, dI) vwCl (cT cid) s) (hP : va_P (dC, dI) vwCl (cW ad cid a2 lx sg gm lg) H) (hD : va_D A (cW ad cid a2 lx sg gm lg)) (hS : va_S A s.heap H locs) (hA : ∀ q, s.heap.size ≤ q → A q) (hG : CE ad A s)
    (kx : ∀ (E : String) (ce : Cell) (q9 : Addr) (u : CSt) (H1 : Heap) (locs1 : List Loc), xpost E u → va_P (dC, dI) vwCl (cW ad cid a2 lx u.1 u.2.1 u.2.2) H1 → va_D A (cW ad cid a2 lx u.1 u.2.1 u.2.2) → va_S A s.heap H1 locs1 → H1[q9]? = some ce → ce.vm = .none → s.vm.findClass E = some ce.cls → vx_W p l e R s m args below meth c H1 locs1 1 6 Q (F0 m pc ls rest) q9)
    (kk : ∀ (v : Option Value) (u : CSt) (H1 : Heap) (locs1 : List Loc), post v u → va_P (dC, dI) vwCl (cW ad cid a2 lx u.1 u.2.1 u.2.2) H1 → va_D A (cW ad cid a2 lx u.1 u.2.1 u.2.2) → va_S A s.heap H1 locs1 → W p l e R s m args below meth c H1 locs1 0 0 Q (F0 m (pc + 3) ls (v.toList ++ rest))) : W p l e R s m args below meth c H locs 0 0 Q (F0 m pc ls st0) := by
  subst hst
  have hFc := cfree hD hS hA
  exact cm_go (vx_runS (cells := 0) (slots := 0) (As := as) (rest := rest) S (hM H.size) cw ⟨CPre_blind, fun U hU hW => ⟨rfl, by rw [hU], by rw [hU]; exact hP, va_K.moved hW.alike hK, hD.weaken (fun _ _ _ _ => trivial), hG.go hS hFc hU hW⟩⟩ rfl hn hsize rfl (lv_room hW) hdg ⟨by omega, by omega⟩) hD hS hA kx kk
/-- a word as a constant -/
theorem cw_word {k : Nat} {nm : String} {kx : Int32} (hexec : p.tables.exec = Jvm.exec) (hb : c.code = cc) (hG : CE ad A s) (hS : va_S A s.heap H locs) (hk : k < 34) (hnm : wNm.getD k "" = nm) (hkx : kx.toNatClampNeg = k ∧ 0 ≤ kx.toInt) (hown : s.vm.findClass own = some m.cls) (hlink : (Cond.fieldLink own index "WiredBeans$Word" nm "LWiredBeans$Word;").before args s = true) (hdg : decode cc pc = .ok (.getstatic index, 3)) {cells slots : Nat}
    (kk : W p l e R s m args below meth c H locs cells slots Q (F0 m (pc + 3) ls (eV (ad 33) kx :: rest))) : W p l e R s m args below meth c H locs cells slots Q (F0 m pc ls rest) := by
  rw [eV_ref hkx.2, hkx.1] at kk
  have hz9 := (hG.2.2.1.1 k hk).1
  rw [hnm] at hz9
  exact va_gets hexec hb hz9 hS hown hlink (fun _ h9 => h9) hdg kk
theorem cw_all (hexec : p.tables.exec = Jvm.exec) (hb : c.code = cc) (hG : CE ad A s) (hS : va_S A s.heap H locs) (hown : s.vm.findClass own = some m.cls) (hlink : (Cond.fieldLink own index "WiredBeans$Word" "ALL" "[LWiredBeans$Word;").before args s = true) (hdg : decode cc pc = .ok (.getstatic index, 3)) {cells slots : Nat}
    (kk : W p l e R s m args below meth c H locs cells slots Q (F0 m (pc + 3) ls (eV (ad 35) 0 :: rest))) : W p l e R s m args below meth c H locs cells slots Q (F0 m pc ls rest) := by
  rw [eV_ref (by decide), show (0 : Int32).toNatClampNeg = 0 by decide] at kk
  exact va_gets hexec hb hG.2.2.1.2.1.1 hS hown hlink (fun _ h9 => h9) hdg kk
theorem cw_alln {x : Int32} (hx : iv 0 0 x) (hexec : p.tables.exec = Jvm.exec) (hb : c.code = cc) (hG : CE ad A s) (hS : va_S A s.heap H locs) (hdg : decode cc pc = .ok (.arraylength, 1)) {cells slots : Nat}
    (kk : W p l e R s m args below meth c H locs cells slots Q (F0 m (pc + 1) ls (.int 34 :: rest))) : W p l e R s m args below meth c H locs cells slots Q (F0 m pc ls (eV (ad 35) x :: rest)) := by
  rw [eV_ref hx.1, show x.toNatClampNeg = 0 by have := iv_cl hx (by decide); have := hx.2; omega]
  exact va_tlen hexec hb hG.2.2.1.2.1.2 hS rfl hdg kk
theorem cw_alld {x y : Int32} (hx : iv 0 0 x) (hexec : p.tables.exec = Jvm.exec) (hb : c.code = cc) (hG : CE ad A s) (hS : va_S A s.heap H locs) (hy : iv 0 33 y) (hdg : decode cc pc = .ok (.aaload, 1)) {cells slots : Nat}
    (kk : W p l e R s m args below meth c H locs cells slots Q (F0 m (pc + 1) ls (eV (ad 33) y :: rest))) : W p l e R s m args below meth c H locs cells slots Q (F0 m pc ls (.int y :: eV (ad 35) x :: rest)) := by
  rw [eV_ref hx.1, show x.toNatClampNeg = 0 by have := iv_cl hx (by decide); have := hx.2; omega]
  rw [eV_ref hy.1] at kk
  exact vb_tq hexec hb hG.2.2.1.2.1.2 hS (iv_in hy (by decide)) rfl hdg kk
theorem cw_sw (hexec : p.tables.exec = Jvm.exec) (hb : c.code = cc) (hG : CE ad A s) (hS : va_S A s.heap H locs) (hown : s.vm.findClass own = some m.cls) (hlink : (Cond.fieldLink own index "WiredBeans$1" "$SwitchMap$WiredBeans$Word" "[I").before args s = true) (hdg : decode cc pc = .ok (.getstatic index, 3)) {cells slots : Nat}
    (kk : W p l e R s m args below meth c H locs cells slots Q (F0 m (pc + 3) ls (eV (ad 36) 0 :: rest))) : W p l e R s m args below meth c H locs cells slots Q (F0 m pc ls rest) := by
  rw [eV_ref (by decide), show (0 : Int32).toNatClampNeg = 0 by decide] at kk
  exact va_gets hexec hb hG.2.2.1.2.2.1 hS hown hlink (fun _ h9 => h9) hdg kk
theorem cw_swld {x y : Int32} (hx : iv 0 0 x) (hexec : p.tables.exec = Jvm.exec) (hb : c.code = cc) (hG : CE ad A s) (hS : va_S A s.heap H locs) (hy : iv 0 33 y) (hdg : decode cc pc = .ok (.iaload, 1)) {cells slots : Nat}
    (kk : W p l e R s m args below meth c H locs cells slots Q (F0 m (pc + 1) ls (.int (wSw.getD y.toNatClampNeg 0) :: rest))) : W p l e R s m args below meth c H locs cells slots Q (F0 m pc ls (.int y :: eV (ad 36) x :: rest)) := by
  rw [eV_ref hx.1, show x.toNatClampNeg = 0 by have := iv_cl hx (by decide); have := hx.2; omega]
  exact va_ti hexec hb hG.2.2.1.2.2.2 hS (iv_in hy (by decide)) rfl hdg kk
theorem cw_key {x : Int32} (hexec : p.tables.exec = Jvm.exec) (hb : c.code = cc) (hG : CE ad A s) (hS : va_S A s.heap H locs) (hx : iv 0 33 x) (hown : s.vm.findClass own = some m.cls) (hlink : (Cond.fieldLink own index "WiredBeans$Word" "key" "J").before args s = true) (hdg : decode cc pc = .ok (.getfield index, 3)) {cells slots : Nat}
    (kk : W p l e R s m args below meth c H locs cells slots Q (F0 m (pc + 3) ls (.long (wKy.getD x.toNatClampNeg 0) :: rest))) : W p l e R s m args below meth c H locs cells slots Q (F0 m pc ls (eV (ad 33) x :: rest)) := by
  rw [eV_ref hx.1]
  exact vk_getf hexec hb (hG.2.2.1.1 x.toNatClampNeg (by have := iv_cl hx (by decide); have := hx.2; omega)).2.2.2 hS hown hlink (fun _ h9 => h9) hdg kk
end CMC
