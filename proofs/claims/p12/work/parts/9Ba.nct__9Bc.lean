section
/-- an array's cell tells its values below its length alone -/
theorem arr_q {cA : ClassId} {n : Nat} {f g : Nat → Option Nat} (h : ∀ j, j < n → f j = g j) : vp_cell cA (n, .inr (.inr (.inr (.inr f)))) = vp_cell cA (n, .inr (.inr (.inr (.inr g)))) := by
  rw [vp_cell_q, vp_cell_q]
  unfold arrV
  congr 1
  apply Array.ext_getElem?
  intro j
  simp only [Array.getElem?_ofFn]
  by_cases hj : j < n
  · simp [hj, h j hj]
  · simp [hj]
theorem arr_i {cA : ClassId} {n : Nat} {f g : Nat → Int32} (h : ∀ j, j < n → f j = g j) : vp_cell cA (n, .inl f) = vp_cell cA (n, .inl g) := by
  rw [vp_cell_i, vp_cell_i]
  unfold arrV
  congr 1
  apply Array.ext_getElem?
  intro j
  simp only [Array.getElem?_ofFn]
  by_cases hj : j < n
  · simp [hj, h j hj]
  · simp [hj]
section NC
variable (dC : Nat → ClassId) (dI : Nat → Nat → Nat) (ad : Nat → Nat → Nat) (cid : Nat → ClassId)
def NPre (pre : va_W) (sz : Nat) (U : State) : Prop := U.heap.size = sz ∧ va_P (dC, dI) vwCl pre U.heap ∧ va_K (dC, dI) vwCl (cT cid) U ∧ va_D (fun _ => True) pre ∧ CE ad (va_A pre sz) U
def NB9k (A : Nat → Prop) (w : va_W) (t : State) : Prop := va_P (dC, dI) vwCl w t.heap ∧ va_K (dC, dI) vwCl (cT cid) t ∧ va_D A w
/-- a constructor: from the cells pre to cells with post -/
def NM (l : Launch) (y : MethodName) (ws : List Cond) (rm : Room) (as : List Value) (pre : va_W) (post : va_W → Prop) (mc ms : Nat) : Prop :=
  ∀ sz, Met l y ws rm (va_Pc as (NPre dC dI ad cid pre sz)) (va_Qv post (NB9k dC dI cid (va_A pre sz)) (va_A pre sz)) mc ms (va_A pre sz)
end NC
section NC2
variable {p : Program} {l : Launch} {e : Env} {R : Room} {s : State} {m : MethodId} {args : Array Value} {below : List Frame} {meth : Method} {c : Code} {H : Heap} {locs : List Loc} {Q : State → Prop} {cc : ByteArray} {pc : Nat} {ls : Array Slot} {rest : List Value} {A : Nat → Prop}
variable {dC : Nat → ClassId} {dI : Nat → Nat → Nat} {ad : Nat → Nat → Nat} {cid : Nat → ClassId} {Ts : List Cond} {own : String} {index : Nat}
variable {y : MethodName} {ws : List Cond} {rm : Room} {bytes : ByteArray} {maxL n nL : Nat} {as : List Value} {st0 : List Value} {cells slots mc ms h : Nat} {w0 r : va_W} {post : va_W → Prop}
theorem NPre_blind {sz : Nat} {pre : va_W} : FrameBlind (va_Pc as (NPre dC dI ad cid pre sz)) := fun a U g mk q => by
  obtain ⟨q0, q1, qP, qK, qD, qG⟩ := q
  exact ⟨q0, q1, qP, va_K.moved (u := U) (U := U.calling g mk a) (Vm.Alike.refl U.vm) qK, qD, CE.call g mk a qG⟩
theorem nw_call (S : CallFix p m c cc nL s args Ts own) (hM : NM dC dI ad cid l y ws rm (.ref h :: as) w0 post mc ms) (cw : CallB R s args own index y bytes maxL none ws rm mc ms n ∧ y.name = "<init>" ∧ (Cond.instanceMethod y).before args s = true) (hn : as.length = n) (hsize : ls.size = nL) (hst : st0 = as.reverse ++ .ref h :: rest) (hW : (rest.map fun v => v.category).sum ≤ 8) (hdg : decode cc pc = .ok (.invokespecial index, 3)) (hf : cells + mc ≤ R.cells ∧ slots + ms ≤ R.slots)
    (hK : va_K (dC, dI) vwCl (cT cid) s) (hP : va_P (dC, dI) vwCl (w0 ++ r) H) (hD : va_D A (w0 ++ r)) (hS : va_S A s.heap H locs) (hA : ∀ q, s.heap.size ≤ q → A q) (hG : CE ad A s)
    (kk : ∀ (w : va_W) (H1 : Heap) (locs1 : List Loc), post w → va_P (dC, dI) vwCl (w ++ r) H1 → va_D A (w ++ r) → va_S A s.heap H1 locs1 → W p l e R s m args below meth c H1 locs1 (cells + mc) (slots + ms) Q (F0 m (pc + 3) ls rest)) : W p l e R s m args below meth c H locs cells slots Q (F0 m pc ls st0) := by
  subst hst
  have hPc : va_P (dC, dI) vwCl w0 H := va_Psl hP (List.sublist_append_left _ _)
  have hDc : va_D A w0 := va_Dsl hD (List.sublist_append_left _ _)
  have hFc : ∀ q, va_A w0 H.size q → A q := fun q h => by
    rcases h with ⟨k, e, h⟩ | h
    · exact hDc.2 k (q, e) h
    · exact hA q (Nat.le_trans hS.1 h)
  refine va_callv (va_runI (As := as) (rest := rest) S (hM H.size) cw ⟨NPre_blind, fun U hU hW => ⟨rfl, by rw [hU], by rw [hU]; exact hPc, va_K.moved hW.alike hK, hDc.weaken (fun _ _ _ _ => trivial), hG.go hS hFc hU hW⟩⟩ rfl hn hsize rfl (lv_room hW) hdg hf) hS (fun q _ h => hFc q h) hFc (fun w t H1 locs ht hvm hw hB hz1 hk1 hS => ?_)
  obtain ⟨hP1, hK1, hD1⟩ := hB
  rw [ht] at hP1
  obtain ⟨j1, j2⟩ := lw_join hP hD hk1 hFc hP1 hD1
  exact kk w H1 locs hw j1 j2 hS
/-- a new entry comes to the front -/
theorem fr_P {D : va_G} {cl : List vw_C} {w : va_W} {x : Nat × va_E} (h : va_P D cl (w ++ [x]) H) : va_P D cl (x :: w) H := vaP_p (List.perm_append_singleton x w) h
theorem fr_D {w : va_W} {x : Nat × va_E} (h : va_D A (w ++ [x])) : va_D A (x :: w) := vaD_p (List.perm_append_singleton x w) h
/-- a new array's class is the one that the tables know -/
theorem ty_eq {t : Nat} {cA : ClassId} {ty : FieldType} (ht : t < 33) (hK : va_K (dC, dI) vwCl (cT cid) s) (hK2 : va_K (dC, dI) vwCl (cT cid ++ [(cA, ty)]) s) (he : cTy t = ty) : cA = cid t := by
  have r1 := (hK2.2 33 (cA, ty) (by rw [List.getElem?_append_right (by rw [cT_len]; decide), cT_len]; rfl)).2
  have r2 := (hK.2 t (cid t, cTy t) (cT_at ht)).2
  rw [he] at r2
  cases ty with
  | object C => exact Option.some.inj ((va_nmO r1 rfl).symm.trans (va_nmO r2 rfl))
  | _ => exact Option.some.inj (Eq.trans (Eq.symm r1) r2)
end NC2
end
section
section TL
variable {α : Type}
/-- what a loop of a constructor has left behind, the last first -/
def tl (F : Nat → α → va_W) (adr : Nat → α) : Nat → va_W
  | 0 => []
  | n + 1 => F n (adr n) ++ tl F adr n
theorem tl_lt {F : Nat → α → va_W} {adr : Nat → α} {i : Nat} {u : α} : ∀ n, n ≤ i → tl F (va_up adr i u) n = tl F adr n
  | 0, _ => rfl
  | n + 1, h => by
    show F n (va_up adr i u n) ++ tl F (va_up adr i u) n = F n (adr n) ++ tl F adr n
    rw [va_up_ne _ _ (by omega), tl_lt n (by omega)]
theorem tl_s {F : Nat → α → va_W} {adr : Nat → α} {i : Nat} {u : α} : tl F (va_up adr i u) (i + 1) = F i u ++ tl F adr i := by
  show F i (va_up adr i u i) ++ tl F (va_up adr i u) i = F i u ++ tl F adr i
  rw [va_up_self, tl_lt i (Nat.le_refl i)]
theorem fs_q {f : Nat → Option Nat} {adr : Nat → α} {i : Nat} {u : α} (pr : α → Nat) (hi : i < 2 ^ 31) (h : ∀ j, j < i → f j = some (pr (adr j))) : ∀ j, j < i + 1 → va_up f (nI i).toNatClampNeg (some (pr u)) j = some (pr (va_up adr i u j)) := by
  intro j hj
  rw [nI_clamp hi]
  by_cases e9 : j = i
  · rw [e9, va_up_self, va_up_self]
  · rw [va_up_ne _ _ e9, va_up_ne _ _ e9]; exact h j (by omega)
theorem pr_s {P : Nat → α → Prop} {adr : Nat → α} {i : Nat} {u : α} (h : ∀ j, j < i → P j (adr j)) (hu : P i u) : ∀ j, j < i + 1 → P j (va_up adr i u j) := by
  intro j hj
  by_cases e9 : j = i
  · rw [e9, va_up_self]; exact hu
  · rw [va_up_ne _ _ e9]; exact h j (by omega)
end TL
theorem fl_s {f : Nat → Int32} {x : Int32} {i : Nat} (hi : i < 2 ^ 31) (h : ∀ j, j < i → f j = x) : ∀ j, j < i + 1 → upd f (nI i).toNatClampNeg x j = x := by
  intro j hj
  rw [nI_clamp hi]
  by_cases e9 : j = i
  · rw [e9]; exact upd_at ..
  · rw [upd_ne e9]; exact h j (by omega)
section SW
variable {D : va_G} {cl : List vw_C} {H : Heap} {A : Nat → Prop} {E w T : va_W}
theorem sw_P (h : va_P D cl (w ++ (E ++ T)) H) : va_P D cl (E ++ (w ++ T)) H := vaP_p (List.perm_append_comm_assoc _ _ _) h
theorem sw_D (h : va_D A (w ++ (E ++ T))) : va_D A (E ++ (w ++ T)) := vaD_p (List.perm_append_comm_assoc _ _ _) h
end SW
theorem n_gen {p : Program} {l : Launch} {e : Env} {R : Room} {s : State} {m : MethodId} {args : Array Value} {below : List Frame} {meth : Method} {c : Code} {H : Heap} {locs : List Loc} {cells slots : Nat} {Q : State → Prop} {g : JFrame} (h : ∀ Q9, Q9 = Q → W p l e R s m args below meth c H locs cells slots Q9 g) : W p l e R s m args below meth c H locs cells slots Q g := h Q rfl
section WS
variable (ad : Nat → Nat → Nat) (cid : Nat → ClassId)
def sgW (c k : Int32) (h a : Nat) : va_W := (a, .inl (cid 27, 3, .inl (fun _ => 0))) :: (h, .inr (8, [.int c, .int k, .ref a, .int 0, .int 0, .int 0, .int 0])) :: []
def elWk (h a : Nat) : va_W := (a, .inl (cid 31, 24, .inl (fun _ => 0))) :: (h, .inr (3, [.ref a, .int 0, .int 0, .int 0, .null, .null, .null, .null, .int 0, .int 0, .int 0, .long 0, .long 0, .long 0, .int 0, .int 0, .int 0, .int 0, .null, .null, .null])) :: []
def alW (h : Nat) : va_W := (h, .inr (0, [.int 0, .ref (ad 34 0), .int 0])) :: []
def rwW (h a : Nat) : va_W := (a, .inl (cid 21, 1600, .inl (fun _ => 0))) :: (h, .inr (4, [.ref a, .int 0])) :: []
def beW (n : Int32) (h a b c : Nat) : va_W := (h, .inr (1, [.int n, .ref a, .ref b, .ref c, .null, .long 0, .long 0, .long 0, .long 0, .int 0, .int 0, .int 0, .int 0, .int 0, .int 0, .int 0, .int 0, .int 0, .int 0])) :: (alW ad c ++ (alW ad b ++ (alW ad a ++ [])))
def mkW (h wi cs rw a b f w q : Nat) : va_W := (q, .inl (cid 26, 3, .inl (fun _ => 0))) :: (w, .inl (cid 25, 960, .inl (fun _ => 0))) :: (f, .inl (cid 24, 80, .inr (.inr (.inr (.inr (fun _ => none)))))) :: (b, .inl (cid 23, 60, .inl (fun _ => 0))) :: (a, .inl (cid 22, 60, .inl (fun _ => 0))) :: (h, .inr (5, [.ref wi, .ref cs, .ref rw, .ref a, .ref b, .int 0, .ref f, .int 0, .ref w, .ref q, .null, .int 0, .int (-1)])) :: []
def sgFk (c : Int32) (k : Nat) (u : Nat × Nat × Nat × Nat) : va_W := sgW cid c (nI k) u.2.2.1 u.2.2.2 ++ sgW cid c (nI k) u.1 u.2.1
abbrev DU := (Nat × Nat × Nat × Nat) × (Nat → Nat × Nat × Nat × Nat) × ((Nat → Option Nat) × (Nat → Option Nat)) × (Nat → Int32)
def dcW (c : Int32) (u : DU) : va_W := (u.1.2.2.2, .inl (cid 30, 26, .inl u.2.2.2)) :: (u.1.2.2.1, .inl (cid 29, 4, .inr (.inr (.inr (.inr u.2.2.1.2))))) :: (u.1.2.1, .inl (cid 28, 4, .inr (.inr (.inr (.inr u.2.2.1.1))))) :: (u.1.1, .inr (2, [.ref u.1.2.1, .ref u.1.2.2.1, .int 0, .int 0, .int c, .ref u.1.2.2.2, .int 0, .null])) :: tl (sgFk cid c) u.2.1 4
def dcP (u : DU) : Prop := (∀ j, j < 4 → u.2.2.1.1 j = some (u.2.1 j).1) ∧ (∀ j, j < 4 → u.2.2.1.2 j = some (u.2.1 j).2.2.1) ∧ ∀ j, j < 26 → u.2.2.2 j = -1
def dcF (k : Nat) (u : DU) : va_W := dcW cid (nI k) u
def elF (k : Nat) (u : Nat × Nat) : va_W := elWk cid u.1 u.2
def beF (k : Nat) (u : Nat × Nat × Nat × Nat) : va_W := beW ad (nI k) u.1 u.2.1 u.2.2.1 u.2.2.2
abbrev PU := (Nat × Nat × Nat × Nat × Nat × Nat) × (Nat → Nat × Nat) × (Nat → Option Nat)
def paW (u : PU) : va_W := (u.1.2.2.2.2.2, .inl (cid 18, 1200, .inl (fun _ => 0))) :: (u.1.2.2.2.2.1, .inl (cid 17, 240, .inl (fun _ => 0))) :: (u.1.2.2.2.1, .inl (cid 16, 240, .inl (fun _ => 0))) :: (u.1.2.2.1, .inl (cid 15, 240, .inr (.inl (fun _ => 0)))) :: (u.1.2.1, .inl (cid 14, 80, .inr (.inr (.inr (.inr u.2.2))))) :: (u.1.1, .inr (6, [.ref u.1.2.1, .ref u.1.2.2.1, .ref u.1.2.2.2.1, .ref u.1.2.2.2.2.1, .ref u.1.2.2.2.2.2, .int 0, .int 0, .int 0])) :: tl (elF cid) u.2.1 80
def paP (u : PU) : Prop := ∀ j, j < 80 → u.2.2 j = some (u.2.1 j).1
abbrev WU := (Nat × Nat × Nat) × (Nat → Nat × Nat × Nat × Nat) × (Nat → Option Nat)
def wiW (pp : Nat) (u : WU) : va_W := (u.1.2.2, .inl (cid 20, 80, .inr (.inr (.inr (.inr (fun _ => none)))))) :: (u.1.2.1, .inl (cid 19, 80, .inr (.inr (.inr (.inr u.2.2))))) :: (u.1.1, .inr (10, [.ref pp, .ref u.1.2.1, .ref u.1.2.2, .int 0])) :: tl (beF ad) u.2.1 80
def wiP (u : WU) : Prop := ∀ j, j < 80 → u.2.2 j = some (u.2.1 j).1
end WS
abbrev nvJx4a65c : List Value := [.int 0, .null, .int 0]
theorem nwJx4a65c : ∀ j, j < 3 → defaultValue (tyJx4a65c j) = vp_V nvJx4a65c j := by
  intro j hj
  match j, hj with
  | 0, _ => rfl
  | 1, _ => rfl
  | 2, _ => rfl
  | n + 3, h => exact absurd h (by omega)
abbrev nvX1 : List Value := [.int 0, .null, .null, .null, .null, .long 0, .long 0, .long 0, .long 0, .int 0, .int 0, .int 0, .int 0, .int 0, .int 0, .int 0, .int 0, .int 0, .int 0]
theorem nwX1 : ∀ j, j < 19 → defaultValue (tyX1 j) = vp_V nvX1 j := by
  intro j hj
  match j, hj with
  | 0, _ => rfl
  | 1, _ => rfl
  | 2, _ => rfl
  | 3, _ => rfl
  | 4, _ => rfl
  | 5, _ => rfl
  | 6, _ => rfl
  | 7, _ => rfl
  | 8, _ => rfl
  | 9, _ => rfl
  | 10, _ => rfl
  | 11, _ => rfl
  | 12, _ => rfl
  | 13, _ => rfl
  | 14, _ => rfl
  | 15, _ => rfl
  | 16, _ => rfl
  | 17, _ => rfl
  | 18, _ => rfl
  | n + 19, h => exact absurd h (by omega)
abbrev nvX2 : List Value := [.null, .null, .int 0, .int 0, .int 0, .null, .int 0, .null]
theorem nwX2 : ∀ j, j < 8 → defaultValue (tyX2 j) = vp_V nvX2 j := by
  intro j hj
  match j, hj with
  | 0, _ => rfl
  | 1, _ => rfl
  | 2, _ => rfl
  | 3, _ => rfl
  | 4, _ => rfl
  | 5, _ => rfl
  | 6, _ => rfl
  | 7, _ => rfl
  | n + 8, h => exact absurd h (by omega)
abbrev nvX3 : List Value := [.null, .int 0, .int 0, .int 0, .null, .null, .null, .null, .int 0, .int 0, .int 0, .long 0, .long 0, .long 0, .int 0, .int 0, .int 0, .int 0, .null, .null, .null]
theorem nwX3 : ∀ j, j < 21 → defaultValue (tyX3 j) = vp_V nvX3 j := by
  intro j hj
  match j, hj with
  | 0, _ => rfl
  | 1, _ => rfl
  | 2, _ => rfl
  | 3, _ => rfl
  | 4, _ => rfl
  | 5, _ => rfl
  | 6, _ => rfl
  | 7, _ => rfl
  | 8, _ => rfl
  | 9, _ => rfl
  | 10, _ => rfl
  | 11, _ => rfl
  | 12, _ => rfl
  | 13, _ => rfl
  | 14, _ => rfl
  | 15, _ => rfl
  | 16, _ => rfl
  | 17, _ => rfl
  | 18, _ => rfl
  | 19, _ => rfl
  | 20, _ => rfl
  | n + 21, h => exact absurd h (by omega)
abbrev nvX4 : List Value := [.null, .int 0]
theorem nwX4 : ∀ j, j < 2 → defaultValue (tyX4 j) = vp_V nvX4 j := by
  intro j hj
  match j, hj with
  | 0, _ => rfl
  | 1, _ => rfl
  | n + 2, h => exact absurd h (by omega)
abbrev nvX5 : List Value := [.null, .null, .null, .null, .null, .int 0, .null, .int 0, .null, .null, .null, .int 0, .int 0]
theorem nwX5 : ∀ j, j < 13 → defaultValue (tyX5 j) = vp_V nvX5 j := by
  intro j hj
  match j, hj with
  | 0, _ => rfl
  | 1, _ => rfl
  | 2, _ => rfl
  | 3, _ => rfl
  | 4, _ => rfl
  | 5, _ => rfl
  | 6, _ => rfl
  | 7, _ => rfl
  | 8, _ => rfl
  | 9, _ => rfl
  | 10, _ => rfl
  | 11, _ => rfl
  | 12, _ => rfl
  | n + 13, h => exact absurd h (by omega)
abbrev nvX6 : List Value := [.null, .null, .null, .null, .null, .int 0, .int 0, .int 0]
theorem nwX6 : ∀ j, j < 8 → defaultValue (tyX6 j) = vp_V nvX6 j := by
  intro j hj
  match j, hj with
  | 0, _ => rfl
  | 1, _ => rfl
  | 2, _ => rfl
  | 3, _ => rfl
  | 4, _ => rfl
  | 5, _ => rfl
  | 6, _ => rfl
  | 7, _ => rfl
  | n + 8, h => exact absurd h (by omega)
abbrev nvX7 : List Value := [.null, .null, .int 0, .int 0, .int 0, .null]
theorem nwX7 : ∀ j, j < 6 → defaultValue (tyX7 j) = vp_V nvX7 j := by
  intro j hj
  match j, hj with
  | 0, _ => rfl
  | 1, _ => rfl
  | 2, _ => rfl
  | 3, _ => rfl
  | 4, _ => rfl
  | 5, _ => rfl
  | n + 6, h => exact absurd h (by omega)
abbrev nvX8 : List Value := [.int 0, .int 0, .null, .int 0, .int 0, .int 0, .int 0]
theorem nwX8 : ∀ j, j < 7 → defaultValue (tyX8 j) = vp_V nvX8 j := by
  intro j hj
  match j, hj with
  | 0, _ => rfl
  | 1, _ => rfl
  | 2, _ => rfl
  | 3, _ => rfl
  | 4, _ => rfl
  | 5, _ => rfl
  | 6, _ => rfl
  | n + 7, h => exact absurd h (by omega)
abbrev nvX9 : List Value := [.null]
theorem nwX9 : ∀ j, j < 1 → defaultValue (tyX9 j) = vp_V nvX9 j := by
  intro j hj
  match j, hj with
  | 0, _ => rfl
  | n + 1, h => exact absurd h (by omega)
abbrev nvX10 : List Value := [.null, .null, .null, .int 0]
theorem nwX10 : ∀ j, j < 4 → defaultValue (tyX10 j) = vp_V nvX10 j := by
  intro j hj
  match j, hj with
  | 0, _ => rfl
  | 1, _ => rfl
  | 2, _ => rfl
  | 3, _ => rfl
  | n + 4, h => exact absurd h (by omega)
abbrev nvX12 : List Value := [.null, .null, .null, .null, .null, .null, .null, .null, .int 0, .int 0, .int 0, .int 0]
theorem nwX12 : ∀ j, j < 12 → defaultValue (tyX12 j) = vp_V nvX12 j := by
  intro j hj
  match j, hj with
  | 0, _ => rfl
  | 1, _ => rfl
  | 2, _ => rfl
  | 3, _ => rfl
  | 4, _ => rfl
  | 5, _ => rfl
  | 6, _ => rfl
  | 7, _ => rfl
  | 8, _ => rfl
  | 9, _ => rfl
  | 10, _ => rfl
  | 11, _ => rfl
  | n + 12, h => exact absurd h (by omega)
end
section
theorem dX8_init_0 : decode cX8_init 0 = .ok (.aload_n 0, 1) := by decide +kernel
theorem dX8_init_1 : decode cX8_init 1 = .ok (.invokespecial 3, 3) := by decide +kernel
theorem dX8_init_4 : decode cX8_init 4 = .ok (.aload_n 0, 1) := by decide +kernel
theorem dX8_init_5 : decode cX8_init 5 = .ok (.iload_n 1, 1) := by decide +kernel
theorem dX8_init_6 : decode cX8_init 6 = .ok (.putfield 9, 3) := by decide +kernel
theorem dX8_init_9 : decode cX8_init 9 = .ok (.aload_n 0, 1) := by decide +kernel
theorem dX8_init_10 : decode cX8_init 10 = .ok (.iload_n 2, 1) := by decide +kernel
theorem dX8_init_11 : decode cX8_init 11 = .ok (.putfield 15, 3) := by decide +kernel
theorem dX8_init_14 : decode cX8_init 14 = .ok (.aload_n 0, 1) := by decide +kernel
theorem dX8_init_15 : decode cX8_init 15 = .ok (.iconst 3, 1) := by decide +kernel
theorem dX8_init_16 : decode cX8_init 16 = .ok (.newarray .int, 2) := by decide +kernel
theorem dX8_init_18 : decode cX8_init 18 = .ok (.putfield 18, 3) := by decide +kernel
theorem dX8_init_21 : decode cX8_init 21 = .ok (.return_, 1) := by decide +kernel

set_option maxHeartbeats 4000000 in
set_option maxRecDepth 100000 in
theorem n_X8 (l : Launch) (dC : Nat → ClassId) (dI : Nat → Nat → Nat) (ad : Nat → Nat → Nat) (cid : Nat → ClassId) (h0 : Nat) (p0 : Int32) (p1 : Int32) : NM dC dI ad cid l yX8_init wm_X8_init ({ frames := 1, cells := 1, slots := 3, locals := 20 }) [.ref h0, .int p0, .int p1] [(h0, .inr (8, [.int 0, .int 0, .null, .int 0, .int 0, .int 0, .int 0]))] (fun w => ∃ a, w = sgW cid p0 p1 h0 a) 1 3 := by
  intro sz
  refine Met.ofW (cc := cX8_init) (maxL := 3) (ret := none) (by decide) rfl ?_
  intro p e s m args below meth c s₁ B hml hv
  obtain ⟨rfl, hsz, hP, hK, hD0, hG⟩ := hv
  have hx := B.exec
  have hb := B.bytes
  have hr := B.returns
  have hts := atoms_spec (ws := wm_X8_init) B.pre
  have htb := fun (w : Cond) (h : w ∈ tb) => hts w (List.mem_cons_of_mem _ h)
  have hown : s.vm.findClass RX8 = some m.cls := findClass_of_methodNamed B.named
  have hlocks := B.notSynchronized
  have hin : meth.name = "<init>" := (name_of_methodNamed B.named B.method).1
  subst hsz
  have hD := hD0.self (sz := s.heap.size)
  generalize hAe : va_A [(h0, .inr (8, [.int 0, .int 0, .null, .int 0, .int 0, .int 0, .int 0]))] s.heap.size = A at hD hG ⊢
  have hA : ∀ q : Nat, s.heap.size ≤ q → A q := fun q h => by rw [← hAe]; exact Or.inr h
  have hS : va_S A s.heap s.heap [] := va_S.rf
  have hl := lv_entry ([.ref h0, .int p0, .int p1]) (n := 3) (Nat.le_of_ble_eq_true rfl)
  rw [lg_entry_eq]
  generalize (lg_sl ([.ref h0, .int p0, .int p1]) ++ List.replicate (3 - (lg_sl ([.ref h0, .int p0, .int p1])).length) Slot.unset).toArray = ls at hl ⊢
  have hl : lv_has ls 3 [(0, .ref h0), (1, .int p0), (2, .int p1)] := hl
  have hP : va_P (dC, dI) vwCl ((h0, .inr (8, [.int 0, .int 0, .null, .int 0, .int 0, .int 0, .int 0])) :: []) s.heap := hP
  have hD : va_D A ((h0, .inr (8, [.int 0, .int 0, .null, .int 0, .int 0, .int 0, .int 0])) :: []) := hD
  refine n_gen (fun Q eQ => ?_)
  refine lv_aload_n hx hb dX8_init_0 rfl (lv_at hl 0 rfl) ?_
  refine W.objInit hx hb hown (htb _ kw_56) (htb _ kw_11) (htb _ kw_1369) rfl (by rw [hml]; exact hl.1) rfl dX8_init_1 (Nat.le_of_ble_eq_true rfl) (Nat.le_of_ble_eq_true rfl) ?_
  refine W.eq (g2 := F0 m 4 ls []) rfl ?_
  refine lv_aload_n hx hb dX8_init_4 rfl (lv_at hl 0 rfl) ?_
  refine lv_iload_n hx hb dX8_init_5 rfl (lv_at hl 1 rfl) ?_
  refine va_putF (D := (dC, dI)) (ci := 8) (v := .int p0) (ty := tyX8 0) (C := RX8) (T := TX8) (N := 7) hx hb htb inX8 tyX8 tyX8_ok nmX8 hown hK hP hD hS 0 rfl rfl 0 (by decide) (htb _ kw_57) (fun _ h9 => h9) rfl hin rfl (tyX8_ok 0 (by decide)) rfl rfl (Nat.le_of_ble_eq_true rfl) dX8_init_6 (fun H locs hP hD hS => ?_)
  have hP : va_P (dC, dI) vwCl ((h0, .inr (8, [.int p0, .int 0, .null, .int 0, .int 0, .int 0, .int 0])) :: []) H := hP
  have hD : va_D A ((h0, .inr (8, [.int p0, .int 0, .null, .int 0, .int 0, .int 0, .int 0])) :: []) := hD
  refine lv_aload_n hx hb dX8_init_9 rfl (lv_at hl 0 rfl) ?_
  refine lv_iload_n hx hb dX8_init_10 rfl (lv_at hl 2 rfl) ?_
  refine va_putF (D := (dC, dI)) (ci := 8) (v := .int p1) (ty := tyX8 1) (C := RX8) (T := TX8) (N := 7) hx hb htb inX8 tyX8 tyX8_ok nmX8 hown hK hP hD hS 0 rfl rfl 1 (by decide) (htb _ kw_58) (fun _ h9 => h9) rfl hin rfl (tyX8_ok 1 (by decide)) rfl rfl (Nat.le_of_ble_eq_true rfl) dX8_init_11 (fun H locs hP hD hS => ?_)
  have hP : va_P (dC, dI) vwCl ((h0, .inr (8, [.int p0, .int p1, .null, .int 0, .int 0, .int 0, .int 0])) :: []) H := hP
  have hD : va_D A ((h0, .inr (8, [.int p0, .int p1, .null, .int 0, .int 0, .int 0, .int 0])) :: []) := hD
  refine lv_aload_n hx hb dX8_init_14 rfl (lv_at hl 0 rfl) ?_
  refine lv_iconst (v := 3) hx hb dX8_init_15 (by decide) ?_
  refine va_newa (D := (dC, dI)) (atype := .int) (ty := .int) (N' := 3) (a0 := (3, .inl (fun _ => 0))) hx hb (htb _ kw_52) rfl hK hP hD hS hA (fun _ => rfl) (by decide) (by decide) (by decide) (Nat.le_of_ble_eq_true rfl) (Nat.le_of_ble_eq_true rfl) dX8_init_16 (fun q_1 cA_2 H hK2 hP hD hS => ?_)
  obtain rfl : cA_2 = cid 27 := ty_eq (by decide) hK hK2 rfl
  have hP : va_P (dC, dI) vwCl ((q_1, .inl (cid 27, 3, .inl (fun _ => 0))) :: (h0, .inr (8, [.int p0, .int p1, .null, .int 0, .int 0, .int 0, .int 0])) :: []) H := fr_P hP
  have hD : va_D A ((q_1, .inl (cid 27, 3, .inl (fun _ => 0))) :: (h0, .inr (8, [.int p0, .int p1, .null, .int 0, .int 0, .int 0, .int 0])) :: []) := fr_D hD
  refine W.widen (k := 1) (n := 3) (Nat.le_of_ble_eq_true rfl) (Nat.le_of_ble_eq_true rfl) ?_
  refine va_putF (D := (dC, dI)) (ci := 8) (v := .ref q_1) (ty := tyX8 2) (C := RX8) (T := TX8) (N := 7) hx hb htb inX8 tyX8 tyX8_ok nmX8 hown hK hP hD hS 1 rfl rfl 2 (by decide) (htb _ kw_59) (fun _ h9 => h9) rfl hin rfl (tyX8_ok 2 (by decide)) rfl rfl (Nat.le_of_ble_eq_true rfl) dX8_init_18 (fun H locs hP hD hS => ?_)
  have hP : va_P (dC, dI) vwCl ((q_1, .inl (cid 27, 3, .inl (fun _ => 0))) :: (h0, .inr (8, [.int p0, .int p1, .ref q_1, .int 0, .int 0, .int 0, .int 0])) :: []) H := hP
  have hD : va_D A ((q_1, .inl (cid 27, 3, .inl (fun _ => 0))) :: (h0, .inr (8, [.int p0, .int p1, .ref q_1, .int 0, .int 0, .int 0, .int 0])) :: []) := hD
  rw [eQ]
  exact W.vret hx hb hr (fun t ht hW => ⟨⟨(q_1, .inl (cid 27, 3, .inl (fun _ => 0))) :: (h0, .inr (8, [.int p0, .int p1, .ref q_1, .int 0, .int 0, .int 0, .int 0])) :: [], rfl, ⟨_, rfl⟩, by rw [ht]; exact hP, va_K.moved hW.alike hK, hD⟩, hS.F ht⟩) hS.2.2 dX8_init_21

theorem dX3_init_0 : decode cX3_init 0 = .ok (.aload_n 0, 1) := by decide +kernel
theorem dX3_init_1 : decode cX3_init 1 = .ok (.invokespecial 3, 3) := by decide +kernel
theorem dX3_init_4 : decode cX3_init 4 = .ok (.aload_n 0, 1) := by decide +kernel
theorem dX3_init_5 : decode cX3_init 5 = .ok (.bipush 24, 2) := by decide +kernel
theorem dX3_init_7 : decode cX3_init 7 = .ok (.newarray .char, 2) := by decide +kernel
theorem dX3_init_9 : decode cX3_init 9 = .ok (.putfield 11, 3) := by decide +kernel
theorem dX3_init_12 : decode cX3_init 12 = .ok (.return_, 1) := by decide +kernel

set_option maxHeartbeats 4000000 in
set_option maxRecDepth 100000 in
theorem n_X3 (l : Launch) (dC : Nat → ClassId) (dI : Nat → Nat → Nat) (ad : Nat → Nat → Nat) (cid : Nat → ClassId) (h0 : Nat) : NM dC dI ad cid l yX3_init wm_X3_init ({ frames := 1, cells := 1, slots := 24, locals := 20 }) [.ref h0] [(h0, .inr (3, [.null, .int 0, .int 0, .int 0, .null, .null, .null, .null, .int 0, .int 0, .int 0, .long 0, .long 0, .long 0, .int 0, .int 0, .int 0, .int 0, .null, .null, .null]))] (fun w => ∃ a, w = elWk cid h0 a) 1 24 := by
  intro sz
  refine Met.ofW (cc := cX3_init) (maxL := 1) (ret := none) (by decide) rfl ?_
  intro p e s m args below meth c s₁ B hml hv
  obtain ⟨rfl, hsz, hP, hK, hD0, hG⟩ := hv
  have hx := B.exec
  have hb := B.bytes
  have hr := B.returns
  have hts := atoms_spec (ws := wm_X3_init) B.pre
  have htb := fun (w : Cond) (h : w ∈ tb) => hts w (List.mem_cons_of_mem _ h)
  have hown : s.vm.findClass RX3 = some m.cls := findClass_of_methodNamed B.named
  have hlocks := B.notSynchronized
  have hin : meth.name = "<init>" := (name_of_methodNamed B.named B.method).1
  subst hsz
  have hD := hD0.self (sz := s.heap.size)
  generalize hAe : va_A [(h0, .inr (3, [.null, .int 0, .int 0, .int 0, .null, .null, .null, .null, .int 0, .int 0, .int 0, .long 0, .long 0, .long 0, .int 0, .int 0, .int 0, .int 0, .null, .null, .null]))] s.heap.size = A at hD hG ⊢
  have hA : ∀ q : Nat, s.heap.size ≤ q → A q := fun q h => by rw [← hAe]; exact Or.inr h
  have hS : va_S A s.heap s.heap [] := va_S.rf
  have hl := lv_entry ([.ref h0]) (n := 1) (Nat.le_of_ble_eq_true rfl)
  rw [lg_entry_eq]
  generalize (lg_sl ([.ref h0]) ++ List.replicate (1 - (lg_sl ([.ref h0])).length) Slot.unset).toArray = ls at hl ⊢
  have hl : lv_has ls 1 [(0, .ref h0)] := hl
  have hP : va_P (dC, dI) vwCl ((h0, .inr (3, [.null, .int 0, .int 0, .int 0, .null, .null, .null, .null, .int 0, .int 0, .int 0, .long 0, .long 0, .long 0, .int 0, .int 0, .int 0, .int 0, .null, .null, .null])) :: []) s.heap := hP
  have hD : va_D A ((h0, .inr (3, [.null, .int 0, .int 0, .int 0, .null, .null, .null, .null, .int 0, .int 0, .int 0, .long 0, .long 0, .long 0, .int 0, .int 0, .int 0, .int 0, .null, .null, .null])) :: []) := hD
  refine n_gen (fun Q eQ => ?_)
  refine lv_aload_n hx hb dX3_init_0 rfl (lv_at hl 0 rfl) ?_
  refine W.objInit hx hb hown (htb _ kw_73) (htb _ kw_11) (htb _ kw_1369) rfl (by rw [hml]; exact hl.1) rfl dX3_init_1 (Nat.le_of_ble_eq_true rfl) (Nat.le_of_ble_eq_true rfl) ?_
  refine W.eq (g2 := F0 m 4 ls []) rfl ?_
  refine lv_aload_n hx hb dX3_init_4 rfl (lv_at hl 0 rfl) ?_
  refine lv_bipush (v := 24) hx hb dX3_init_5 (by decide) ?_
  refine va_newa (D := (dC, dI)) (atype := .char) (ty := .char) (N' := 24) (a0 := (24, .inl (fun _ => 0))) hx hb (htb _ kw_16) rfl hK hP hD hS hA (fun _ => rfl) (by decide) (by decide) (by decide) (Nat.le_of_ble_eq_true rfl) (Nat.le_of_ble_eq_true rfl) dX3_init_7 (fun q_1 cA_2 H hK2 hP hD hS => ?_)
  obtain rfl : cA_2 = cid 31 := ty_eq (by decide) hK hK2 rfl
  have hP : va_P (dC, dI) vwCl ((q_1, .inl (cid 31, 24, .inl (fun _ => 0))) :: (h0, .inr (3, [.null, .int 0, .int 0, .int 0, .null, .null, .null, .null, .int 0, .int 0, .int 0, .long 0, .long 0, .long 0, .int 0, .int 0, .int 0, .int 0, .null, .null, .null])) :: []) H := fr_P hP
  have hD : va_D A ((q_1, .inl (cid 31, 24, .inl (fun _ => 0))) :: (h0, .inr (3, [.null, .int 0, .int 0, .int 0, .null, .null, .null, .null, .int 0, .int 0, .int 0, .long 0, .long 0, .long 0, .int 0, .int 0, .int 0, .int 0, .null, .null, .null])) :: []) := fr_D hD
  refine W.widen (k := 1) (n := 24) (Nat.le_of_ble_eq_true rfl) (Nat.le_of_ble_eq_true rfl) ?_
  refine va_putF (D := (dC, dI)) (ci := 3) (v := .ref q_1) (ty := tyX3 0) (C := RX3) (T := TX3) (N := 21) hx hb htb inX3 tyX3 tyX3_ok nmX3 hown hK hP hD hS 1 rfl rfl 0 (by decide) (htb _ kw_74) (fun _ h9 => h9) rfl hin rfl (tyX3_ok 0 (by decide)) rfl rfl (Nat.le_of_ble_eq_true rfl) dX3_init_9 (fun H locs hP hD hS => ?_)
  have hP : va_P (dC, dI) vwCl ((q_1, .inl (cid 31, 24, .inl (fun _ => 0))) :: (h0, .inr (3, [.ref q_1, .int 0, .int 0, .int 0, .null, .null, .null, .null, .int 0, .int 0, .int 0, .long 0, .long 0, .long 0, .int 0, .int 0, .int 0, .int 0, .null, .null, .null])) :: []) H := hP
  have hD : va_D A ((q_1, .inl (cid 31, 24, .inl (fun _ => 0))) :: (h0, .inr (3, [.ref q_1, .int 0, .int 0, .int 0, .null, .null, .null, .null, .int 0, .int 0, .int 0, .long 0, .long 0, .long 0, .int 0, .int 0, .int 0, .int 0, .null, .null, .null])) :: []) := hD
  rw [eQ]
  exact W.vret hx hb hr (fun t ht hW => ⟨⟨(q_1, .inl (cid 31, 24, .inl (fun _ => 0))) :: (h0, .inr (3, [.ref q_1, .int 0, .int 0, .int 0, .null, .null, .null, .null, .int 0, .int 0, .int 0, .long 0, .long 0, .long 0, .int 0, .int 0, .int 0, .int 0, .null, .null, .null])) :: [], rfl, ⟨_, rfl⟩, by rw [ht]; exact hP, va_K.moved hW.alike hK, hD⟩, hS.F ht⟩) hS.2.2 dX3_init_12

theorem dX4_init_0 : decode cX4_init 0 = .ok (.aload_n 0, 1) := by decide +kernel
theorem dX4_init_1 : decode cX4_init 1 = .ok (.invokespecial 3, 3) := by decide +kernel
theorem dX4_init_4 : decode cX4_init 4 = .ok (.aload_n 0, 1) := by decide +kernel
theorem dX4_init_5 : decode cX4_init 5 = .ok (.sipush 1600, 3) := by decide +kernel
theorem dX4_init_8 : decode cX4_init 8 = .ok (.newarray .int, 2) := by decide +kernel
theorem dX4_init_10 : decode cX4_init 10 = .ok (.putfield 11, 3) := by decide +kernel
theorem dX4_init_13 : decode cX4_init 13 = .ok (.return_, 1) := by decide +kernel

set_option maxHeartbeats 4000000 in
set_option maxRecDepth 100000 in
theorem n_X4 (l : Launch) (dC : Nat → ClassId) (dI : Nat → Nat → Nat) (ad : Nat → Nat → Nat) (cid : Nat → ClassId) (h0 : Nat) : NM dC dI ad cid l yX4_init wm_X4_init ({ frames := 1, cells := 1, slots := 1600, locals := 20 }) [.ref h0] [(h0, .inr (4, [.null, .int 0]))] (fun w => ∃ a, w = rwW cid h0 a) 1 1600 := by
  intro sz
  refine Met.ofW (cc := cX4_init) (maxL := 1) (ret := none) (by decide) rfl ?_
  intro p e s m args below meth c s₁ B hml hv
  obtain ⟨rfl, hsz, hP, hK, hD0, hG⟩ := hv
  have hx := B.exec
  have hb := B.bytes
  have hr := B.returns
  have hts := atoms_spec (ws := wm_X4_init) B.pre
  have htb := fun (w : Cond) (h : w ∈ tb) => hts w (List.mem_cons_of_mem _ h)
  have hown : s.vm.findClass RX4 = some m.cls := findClass_of_methodNamed B.named
  have hlocks := B.notSynchronized
  have hin : meth.name = "<init>" := (name_of_methodNamed B.named B.method).1
  subst hsz
  have hD := hD0.self (sz := s.heap.size)
  generalize hAe : va_A [(h0, .inr (4, [.null, .int 0]))] s.heap.size = A at hD hG ⊢
  have hA : ∀ q : Nat, s.heap.size ≤ q → A q := fun q h => by rw [← hAe]; exact Or.inr h
  have hS : va_S A s.heap s.heap [] := va_S.rf
  have hl := lv_entry ([.ref h0]) (n := 1) (Nat.le_of_ble_eq_true rfl)
  rw [lg_entry_eq]
  generalize (lg_sl ([.ref h0]) ++ List.replicate (1 - (lg_sl ([.ref h0])).length) Slot.unset).toArray = ls at hl ⊢
  have hl : lv_has ls 1 [(0, .ref h0)] := hl
  have hP : va_P (dC, dI) vwCl ((h0, .inr (4, [.null, .int 0])) :: []) s.heap := hP
  have hD : va_D A ((h0, .inr (4, [.null, .int 0])) :: []) := hD
  refine n_gen (fun Q eQ => ?_)
  refine lv_aload_n hx hb dX4_init_0 rfl (lv_at hl 0 rfl) ?_
  refine W.objInit hx hb hown (htb _ kw_116) (htb _ kw_11) (htb _ kw_1369) rfl (by rw [hml]; exact hl.1) rfl dX4_init_1 (Nat.le_of_ble_eq_true rfl) (Nat.le_of_ble_eq_true rfl) ?_
  refine W.eq (g2 := F0 m 4 ls []) rfl ?_
  refine lv_aload_n hx hb dX4_init_4 rfl (lv_at hl 0 rfl) ?_
  refine lv_sipush (v := 1600) hx hb dX4_init_5 (by decide) ?_
  refine va_newa (D := (dC, dI)) (atype := .int) (ty := .int) (N' := 1600) (a0 := (1600, .inl (fun _ => 0))) hx hb (htb _ kw_52) rfl hK hP hD hS hA (fun _ => rfl) (by decide) (by decide) (by decide) (Nat.le_of_ble_eq_true rfl) (Nat.le_of_ble_eq_true rfl) dX4_init_8 (fun q_1 cA_2 H hK2 hP hD hS => ?_)
  obtain rfl : cA_2 = cid 21 := ty_eq (by decide) hK hK2 rfl
  have hP : va_P (dC, dI) vwCl ((q_1, .inl (cid 21, 1600, .inl (fun _ => 0))) :: (h0, .inr (4, [.null, .int 0])) :: []) H := fr_P hP
  have hD : va_D A ((q_1, .inl (cid 21, 1600, .inl (fun _ => 0))) :: (h0, .inr (4, [.null, .int 0])) :: []) := fr_D hD
  refine W.widen (k := 1) (n := 1600) (Nat.le_of_ble_eq_true rfl) (Nat.le_of_ble_eq_true rfl) ?_
  refine va_putF (D := (dC, dI)) (ci := 4) (v := .ref q_1) (ty := tyX4 0) (C := RX4) (T := TX4) (N := 2) hx hb htb inX4 tyX4 tyX4_ok nmX4 hown hK hP hD hS 1 rfl rfl 0 (by decide) (htb _ kw_117) (fun _ h9 => h9) rfl hin rfl (tyX4_ok 0 (by decide)) rfl rfl (Nat.le_of_ble_eq_true rfl) dX4_init_10 (fun H locs hP hD hS => ?_)
  have hP : va_P (dC, dI) vwCl ((q_1, .inl (cid 21, 1600, .inl (fun _ => 0))) :: (h0, .inr (4, [.ref q_1, .int 0])) :: []) H := hP
  have hD : va_D A ((q_1, .inl (cid 21, 1600, .inl (fun _ => 0))) :: (h0, .inr (4, [.ref q_1, .int 0])) :: []) := hD
  rw [eQ]
  exact W.vret hx hb hr (fun t ht hW => ⟨⟨(q_1, .inl (cid 21, 1600, .inl (fun _ => 0))) :: (h0, .inr (4, [.ref q_1, .int 0])) :: [], rfl, ⟨_, rfl⟩, by rw [ht]; exact hP, va_K.moved hW.alike hK, hD⟩, hS.F ht⟩) hS.2.2 dX4_init_13

theorem dX7_init_0 : decode cX7_init 0 = .ok (.aload_n 0, 1) := by decide +kernel
theorem dX7_init_1 : decode cX7_init 1 = .ok (.invokespecial 3, 3) := by decide +kernel
theorem dX7_init_4 : decode cX7_init 4 = .ok (.aload_n 0, 1) := by decide +kernel
theorem dX7_init_5 : decode cX7_init 5 = .ok (.aload_n 1, 1) := by decide +kernel
theorem dX7_init_6 : decode cX7_init 6 = .ok (.putfield 9, 3) := by decide +kernel
theorem dX7_init_9 : decode cX7_init 9 = .ok (.return_, 1) := by decide +kernel

set_option maxHeartbeats 4000000 in
set_option maxRecDepth 100000 in
theorem n_X7 (l : Launch) (dC : Nat → ClassId) (dI : Nat → Nat → Nat) (ad : Nat → Nat → Nat) (cid : Nat → ClassId) (h0 : Nat) (p1 : Nat) : NM dC dI ad cid l yX7_init wm_X7_init ({ frames := 1, cells := 0, slots := 0, locals := 20 }) [.ref h0, .ref p1] [(h0, .inr (7, [.null, .null, .int 0, .int 0, .int 0, .null]))] (fun w => w = [(h0, .inr (7, [.ref p1, .null, .int 0, .int 0, .int 0, .null]))]) 0 0 := by
  intro sz
  refine Met.ofW (cc := cX7_init) (maxL := 2) (ret := none) (by decide) rfl ?_
  intro p e s m args below meth c s₁ B hml hv
  obtain ⟨rfl, hsz, hP, hK, hD0, hG⟩ := hv
  have hx := B.exec
  have hb := B.bytes
  have hr := B.returns
  have hts := atoms_spec (ws := wm_X7_init) B.pre
  have htb := fun (w : Cond) (h : w ∈ tb) => hts w (List.mem_cons_of_mem _ h)
  have hown : s.vm.findClass RX7 = some m.cls := findClass_of_methodNamed B.named
  have hlocks := B.notSynchronized
  have hin : meth.name = "<init>" := (name_of_methodNamed B.named B.method).1
  subst hsz
  have hD := hD0.self (sz := s.heap.size)
  generalize hAe : va_A [(h0, .inr (7, [.null, .null, .int 0, .int 0, .int 0, .null]))] s.heap.size = A at hD hG ⊢
  have hA : ∀ q : Nat, s.heap.size ≤ q → A q := fun q h => by rw [← hAe]; exact Or.inr h
  have hS : va_S A s.heap s.heap [] := va_S.rf
  have hl := lv_entry ([.ref h0, .ref p1]) (n := 2) (Nat.le_of_ble_eq_true rfl)
  rw [lg_entry_eq]
  generalize (lg_sl ([.ref h0, .ref p1]) ++ List.replicate (2 - (lg_sl ([.ref h0, .ref p1])).length) Slot.unset).toArray = ls at hl ⊢
  have hl : lv_has ls 2 [(0, .ref h0), (1, .ref p1)] := hl
  have hP : va_P (dC, dI) vwCl ((h0, .inr (7, [.null, .null, .int 0, .int 0, .int 0, .null])) :: []) s.heap := hP
  have hD : va_D A ((h0, .inr (7, [.null, .null, .int 0, .int 0, .int 0, .null])) :: []) := hD
  refine n_gen (fun Q eQ => ?_)
  refine lv_aload_n hx hb dX7_init_0 rfl (lv_at hl 0 rfl) ?_
  refine W.objInit hx hb hown (htb _ kw_77) (htb _ kw_11) (htb _ kw_1369) rfl (by rw [hml]; exact hl.1) rfl dX7_init_1 (Nat.le_of_ble_eq_true rfl) (Nat.le_of_ble_eq_true rfl) ?_
  refine W.eq (g2 := F0 m 4 ls []) rfl ?_
  refine lv_aload_n hx hb dX7_init_4 rfl (lv_at hl 0 rfl) ?_
  refine lv_aload_n hx hb dX7_init_5 rfl (lv_at hl 1 rfl) ?_
  refine va_putF (D := (dC, dI)) (ci := 7) (v := .ref p1) (ty := tyX7 0) (C := RX7) (T := TX7) (N := 6) hx hb htb inX7 tyX7 tyX7_ok nmX7 hown hK hP hD hS 0 rfl rfl 0 (by decide) (htb _ kw_78) (fun _ h9 => h9) rfl hin rfl (tyX7_ok 0 (by decide)) rfl rfl (Nat.le_of_ble_eq_true rfl) dX7_init_6 (fun H locs hP hD hS => ?_)
  have hP : va_P (dC, dI) vwCl ((h0, .inr (7, [.ref p1, .null, .int 0, .int 0, .int 0, .null])) :: []) H := hP
  have hD : va_D A ((h0, .inr (7, [.ref p1, .null, .int 0, .int 0, .int 0, .null])) :: []) := hD
  rw [eQ]
  exact W.vret hx hb hr (fun t ht hW => ⟨⟨(h0, .inr (7, [.ref p1, .null, .int 0, .int 0, .int 0, .null])) :: [], rfl, rfl, by rw [ht]; exact hP, va_K.moved hW.alike hK, hD⟩, hS.F ht⟩) hS.2.2 dX7_init_9

theorem dX9_init_0 : decode cX9_init 0 = .ok (.aload_n 0, 1) := by decide +kernel
theorem dX9_init_1 : decode cX9_init 1 = .ok (.invokespecial 3, 3) := by decide +kernel
theorem dX9_init_4 : decode cX9_init 4 = .ok (.aload_n 0, 1) := by decide +kernel
theorem dX9_init_5 : decode cX9_init 5 = .ok (.aload_n 1, 1) := by decide +kernel
theorem dX9_init_6 : decode cX9_init 6 = .ok (.putfield 9, 3) := by decide +kernel
theorem dX9_init_9 : decode cX9_init 9 = .ok (.return_, 1) := by decide +kernel

set_option maxHeartbeats 4000000 in
set_option maxRecDepth 100000 in
theorem n_X9 (l : Launch) (dC : Nat → ClassId) (dI : Nat → Nat → Nat) (ad : Nat → Nat → Nat) (cid : Nat → ClassId) (h0 : Nat) (p1 : Nat) : NM dC dI ad cid l yX9_init wm_X9_init ({ frames := 1, cells := 0, slots := 0, locals := 20 }) [.ref h0, .ref p1] [(h0, .inr (9, [.null]))] (fun w => w = [(h0, .inr (9, [.ref p1]))]) 0 0 := by
  intro sz
  refine Met.ofW (cc := cX9_init) (maxL := 2) (ret := none) (by decide) rfl ?_
  intro p e s m args below meth c s₁ B hml hv
  obtain ⟨rfl, hsz, hP, hK, hD0, hG⟩ := hv
  have hx := B.exec
  have hb := B.bytes
  have hr := B.returns
  have hts := atoms_spec (ws := wm_X9_init) B.pre
  have htb := fun (w : Cond) (h : w ∈ tb) => hts w (List.mem_cons_of_mem _ h)
  have hown : s.vm.findClass RX9 = some m.cls := findClass_of_methodNamed B.named
  have hlocks := B.notSynchronized
  have hin : meth.name = "<init>" := (name_of_methodNamed B.named B.method).1
  subst hsz
  have hD := hD0.self (sz := s.heap.size)
  generalize hAe : va_A [(h0, .inr (9, [.null]))] s.heap.size = A at hD hG ⊢
  have hA : ∀ q : Nat, s.heap.size ≤ q → A q := fun q h => by rw [← hAe]; exact Or.inr h
  have hS : va_S A s.heap s.heap [] := va_S.rf
  have hl := lv_entry ([.ref h0, .ref p1]) (n := 2) (Nat.le_of_ble_eq_true rfl)
  rw [lg_entry_eq]
  generalize (lg_sl ([.ref h0, .ref p1]) ++ List.replicate (2 - (lg_sl ([.ref h0, .ref p1])).length) Slot.unset).toArray = ls at hl ⊢
  have hl : lv_has ls 2 [(0, .ref h0), (1, .ref p1)] := hl
  have hP : va_P (dC, dI) vwCl ((h0, .inr (9, [.null])) :: []) s.heap := hP
  have hD : va_D A ((h0, .inr (9, [.null])) :: []) := hD
  refine n_gen (fun Q eQ => ?_)
  refine lv_aload_n hx hb dX9_init_0 rfl (lv_at hl 0 rfl) ?_
  refine W.objInit hx hb hown (htb _ kw_81) (htb _ kw_11) (htb _ kw_1369) rfl (by rw [hml]; exact hl.1) rfl dX9_init_1 (Nat.le_of_ble_eq_true rfl) (Nat.le_of_ble_eq_true rfl) ?_
  refine W.eq (g2 := F0 m 4 ls []) rfl ?_
  refine lv_aload_n hx hb dX9_init_4 rfl (lv_at hl 0 rfl) ?_
  refine lv_aload_n hx hb dX9_init_5 rfl (lv_at hl 1 rfl) ?_
  refine va_putF (D := (dC, dI)) (ci := 9) (v := .ref p1) (ty := tyX9 0) (C := RX9) (T := TX9) (N := 1) hx hb htb inX9 tyX9 tyX9_ok nmX9 hown hK hP hD hS 0 rfl rfl 0 (by decide) (htb _ kw_82) (fun _ h9 => h9) rfl hin rfl (tyX9_ok 0 (by decide)) rfl rfl (Nat.le_of_ble_eq_true rfl) dX9_init_6 (fun H locs hP hD hS => ?_)
  have hP : va_P (dC, dI) vwCl ((h0, .inr (9, [.ref p1])) :: []) H := hP
  have hD : va_D A ((h0, .inr (9, [.ref p1])) :: []) := hD
  rw [eQ]
  exact W.vret hx hb hr (fun t ht hW => ⟨⟨(h0, .inr (9, [.ref p1])) :: [], rfl, rfl, by rw [ht]; exact hP, va_K.moved hW.alike hK, hD⟩, hS.F ht⟩) hS.2.2 dX9_init_9

theorem dJxa1e45_init_da8c8_0 : decode cJxa1e45_init_da8c8 0 = .ok (.aload_n 0, 1) := by decide +kernel
theorem dJxa1e45_init_da8c8_1 : decode cJxa1e45_init_da8c8 1 = .ok (.invokespecial 1, 3) := by decide +kernel
theorem dJxa1e45_init_da8c8_4 : decode cJxa1e45_init_da8c8 4 = .ok (.return_, 1) := by decide +kernel

set_option maxHeartbeats 4000000 in
set_option maxRecDepth 100000 in
theorem n_Ja (l : Launch) (dC : Nat → ClassId) (dI : Nat → Nat → Nat) (ad : Nat → Nat → Nat) (cid : Nat → ClassId) (h0 : Nat) : NM dC dI ad cid l yJxa1e45_init_da8c8 wm_Jxa1e45_init_da8c8 ({ frames := 1, cells := 0, slots := 0, locals := 20 }) [.ref h0] [] (fun w => w = []) 0 0 := by
  intro sz
  refine Met.ofW (cc := cJxa1e45_init_da8c8) (maxL := 1) (ret := none) (by decide) rfl ?_
  intro p e s m args below meth c s₁ B hml hv
  obtain ⟨rfl, hsz, hP, hK, hD0, hG⟩ := hv
  have hx := B.exec
  have hb := B.bytes
  have hr := B.returns
  have hts := atoms_spec (ws := wm_Jxa1e45_init_da8c8) B.pre
  have htb := fun (w : Cond) (h : w ∈ tb) => hts w (List.mem_cons_of_mem _ h)
  have hown : s.vm.findClass RJxa1e45 = some m.cls := findClass_of_methodNamed B.named
  have hlocks := B.notSynchronized
  have hin : meth.name = "<init>" := (name_of_methodNamed B.named B.method).1
  subst hsz
  have hD := hD0.self (sz := s.heap.size)
  generalize hAe : va_A [] s.heap.size = A at hD hG ⊢
  have hA : ∀ q : Nat, s.heap.size ≤ q → A q := fun q h => by rw [← hAe]; exact Or.inr h
  have hS : va_S A s.heap s.heap [] := va_S.rf
  have hl := lv_entry ([.ref h0]) (n := 1) (Nat.le_of_ble_eq_true rfl)
  rw [lg_entry_eq]
  generalize (lg_sl ([.ref h0]) ++ List.replicate (1 - (lg_sl ([.ref h0])).length) Slot.unset).toArray = ls at hl ⊢
  have hl : lv_has ls 1 [(0, .ref h0)] := hl
  have hP : va_P (dC, dI) vwCl ([]) s.heap := hP
  have hD : va_D A ([]) := hD
  refine n_gen (fun Q eQ => ?_)
  refine lv_aload_n hx hb dJxa1e45_init_da8c8_0 rfl (lv_at hl 0 rfl) ?_
  refine W.objInit hx hb hown (htb _ kw_113) (htb _ kw_11) (htb _ kw_1369) rfl (by rw [hml]; exact hl.1) rfl dJxa1e45_init_da8c8_1 (Nat.le_of_ble_eq_true rfl) (Nat.le_of_ble_eq_true rfl) ?_
  refine W.eq (g2 := F0 m 4 ls []) rfl ?_
  rw [eQ]
  exact W.vret hx hb hr (fun t ht hW => ⟨⟨[], rfl, rfl, by rw [ht]; exact hP, va_K.moved hW.alike hK, hD⟩, hS.F ht⟩) hS.2.2 dJxa1e45_init_da8c8_4

theorem dJxc12de_init_da8c8_0 : decode cJxc12de_init_da8c8 0 = .ok (.aload_n 0, 1) := by decide +kernel
theorem dJxc12de_init_da8c8_1 : decode cJxc12de_init_da8c8 1 = .ok (.invokespecial 1, 3) := by decide +kernel
theorem dJxc12de_init_da8c8_4 : decode cJxc12de_init_da8c8 4 = .ok (.aload_n 0, 1) := by decide +kernel
theorem dJxc12de_init_da8c8_5 : decode cJxc12de_init_da8c8 5 = .ok (.iconst 0, 1) := by decide +kernel
theorem dJxc12de_init_da8c8_6 : decode cJxc12de_init_da8c8 6 = .ok (.putfield 7, 3) := by decide +kernel
theorem dJxc12de_init_da8c8_9 : decode cJxc12de_init_da8c8 9 = .ok (.return_, 1) := by decide +kernel

set_option maxHeartbeats 4000000 in
set_option maxRecDepth 100000 in
theorem n_Jc (l : Launch) (dC : Nat → ClassId) (dI : Nat → Nat → Nat) (ad : Nat → Nat → Nat) (cid : Nat → ClassId) (h0 : Nat) (v1 : Value) (v2 : Value) : NM dC dI ad cid l yJxc12de_init_da8c8 wm_Jxc12de_init_da8c8 ({ frames := 2, cells := 0, slots := 0, locals := 40 }) [.ref h0] [(h0, .inr (0, [.int 0, v1, v2]))] (fun w => w = [(h0, .inr (0, [.int 0, v1, v2]))]) 0 0 := by
  intro sz
  refine Met.ofW (cc := cJxc12de_init_da8c8) (maxL := 1) (ret := none) (by decide) rfl ?_
  intro p e s m args below meth c s₁ B hml hv
  obtain ⟨rfl, hsz, hP, hK, hD0, hG⟩ := hv
  have hx := B.exec
  have hb := B.bytes
  have hr := B.returns
  have hts := atoms_spec (ws := wm_Jxc12de_init_da8c8) B.pre
  have htb := fun (w : Cond) (h : w ∈ tb) => hts w (List.mem_cons_of_mem _ h)
  have hown : s.vm.findClass RJxc12de = some m.cls := findClass_of_methodNamed B.named
  have hlocks := B.notSynchronized
  have hin : meth.name = "<init>" := (name_of_methodNamed B.named B.method).1
  subst hsz
  have hD := hD0.self (sz := s.heap.size)
  generalize hAe : va_A [(h0, .inr (0, [.int 0, v1, v2]))] s.heap.size = A at hD hG ⊢
  have hA : ∀ q : Nat, s.heap.size ≤ q → A q := fun q h => by rw [← hAe]; exact Or.inr h
  have hS : va_S A s.heap s.heap [] := va_S.rf
  have hl := lv_entry ([.ref h0]) (n := 1) (Nat.le_of_ble_eq_true rfl)
  rw [lg_entry_eq]
  generalize (lg_sl ([.ref h0]) ++ List.replicate (1 - (lg_sl ([.ref h0])).length) Slot.unset).toArray = ls at hl ⊢
  have hl : lv_has ls 1 [(0, .ref h0)] := hl
  have hP : va_P (dC, dI) vwCl ((h0, .inr (0, [.int 0, v1, v2])) :: []) s.heap := hP
  have hD : va_D A ((h0, .inr (0, [.int 0, v1, v2])) :: []) := hD
  refine n_gen (fun Q eQ => ?_)
  refine lv_aload_n hx hb dJxc12de_init_da8c8_0 rfl (lv_at hl 0 rfl) ?_
  refine nw_call (rest := []) (r := (h0, .inr (0, [.int 0, v1, v2])) :: []) ⟨hx, hb, hml, hown, htb⟩ (n_Ja l dC dI ad cid (h0)) (cwI 0 htb (gd_c kw_1380) rfl rfl rfl (htb _ kw_112) (htb _ kw_110) (htb _ kw_111) rfl (by decide +kernel) ⟨Nat.le_of_ble_eq_true rfl, Nat.le_of_ble_eq_true rfl⟩) rfl hl.1 rfl (Nat.le_of_ble_eq_true rfl) dJxc12de_init_da8c8_1 ⟨(Nat.le_of_ble_eq_true rfl), (Nat.le_of_ble_eq_true rfl)⟩ hK hP hD hS hA hG (fun w H locs hw hP7 hD7 hS => ?_)
  obtain ⟨rfl⟩ := hw
  have hP : va_P (dC, dI) vwCl ((h0, .inr (0, [.int 0, v1, v2])) :: []) H := hP7
  have hD : va_D A ((h0, .inr (0, [.int 0, v1, v2])) :: []) := hD7
  refine W.widen (k := 0) (n := 0) (Nat.le_of_ble_eq_true rfl) (Nat.le_of_ble_eq_true rfl) ?_
  refine lv_aload_n hx hb dJxc12de_init_da8c8_4 rfl (lv_at hl 0 rfl) ?_
  refine lv_iconst (v := 0) hx hb dJxc12de_init_da8c8_5 (by decide) ?_
  refine va_put (D := (dC, dI)) (ci := 0) (v := .int 0) (ty := tyJx4a65c 0) (C := RJx4a65c) (T := TJx4a65c) (N := 3) hx hb htb inJx4a65c tyJx4a65c tyJx4a65c_ok nmJx4a65c hown hK hP hD hS 0 rfl rfl 0 (by decide) (htb _ kw_109) (fun _ h9 => h9) rfl (tyJx4a65c_ok 0 (by decide)) rfl rfl (Nat.le_of_ble_eq_true rfl) dJxc12de_init_da8c8_6 (fun H locs hP hD hS => ?_)
  have hP : va_P (dC, dI) vwCl ((h0, .inr (0, [.int 0, v1, v2])) :: []) H := hP
  have hD : va_D A ((h0, .inr (0, [.int 0, v1, v2])) :: []) := hD
  rw [eQ]
  exact W.vret hx hb hr (fun t ht hW => ⟨⟨(h0, .inr (0, [.int 0, v1, v2])) :: [], rfl, rfl, by rw [ht]; exact hP, va_K.moved hW.alike hK, hD⟩, hS.F ht⟩) hS.2.2 dJxc12de_init_da8c8_9

theorem dJx4a65c_init_da8c8_0 : decode cJx4a65c_init_da8c8 0 = .ok (.aload_n 0, 1) := by decide +kernel
theorem dJx4a65c_init_da8c8_1 : decode cJx4a65c_init_da8c8 1 = .ok (.invokespecial 1, 3) := by decide +kernel
theorem dJx4a65c_init_da8c8_4 : decode cJx4a65c_init_da8c8 4 = .ok (.aload_n 0, 1) := by decide +kernel
theorem dJx4a65c_init_da8c8_5 : decode cJx4a65c_init_da8c8 5 = .ok (.getstatic 39, 3) := by decide +kernel
theorem dJx4a65c_init_da8c8_8 : decode cJx4a65c_init_da8c8 8 = .ok (.putfield 9, 3) := by decide +kernel
theorem dJx4a65c_init_da8c8_11 : decode cJx4a65c_init_da8c8 11 = .ok (.return_, 1) := by decide +kernel

set_option maxHeartbeats 4000000 in
set_option maxRecDepth 100000 in
theorem n_AL (l : Launch) (dC : Nat → ClassId) (dI : Nat → Nat → Nat) (ad : Nat → Nat → Nat) (cid : Nat → ClassId) (h0 : Nat) : NM dC dI ad cid l yJx4a65c_init_da8c8 wm_Jx4a65c_init_da8c8 ({ frames := 3, cells := 0, slots := 0, locals := 60 }) [.ref h0] [(h0, .inr (0, [.int 0, .null, .int 0]))] (fun w => w = alW ad h0) 0 0 := by
  intro sz
  refine Met.ofW (cc := cJx4a65c_init_da8c8) (maxL := 1) (ret := none) (by decide) rfl ?_
  intro p e s m args below meth c s₁ B hml hv
  obtain ⟨rfl, hsz, hP, hK, hD0, hG⟩ := hv
  have hx := B.exec
  have hb := B.bytes
  have hr := B.returns
  have hts := atoms_spec (ws := wm_Jx4a65c_init_da8c8) B.pre
  have htb := fun (w : Cond) (h : w ∈ tb) => hts w (List.mem_cons_of_mem _ h)
  have hown : s.vm.findClass RJx4a65c = some m.cls := findClass_of_methodNamed B.named
  have hlocks := B.notSynchronized
  have hin : meth.name = "<init>" := (name_of_methodNamed B.named B.method).1
  subst hsz
  have hD := hD0.self (sz := s.heap.size)
  generalize hAe : va_A [(h0, .inr (0, [.int 0, .null, .int 0]))] s.heap.size = A at hD hG ⊢
  have hA : ∀ q : Nat, s.heap.size ≤ q → A q := fun q h => by rw [← hAe]; exact Or.inr h
  have hS : va_S A s.heap s.heap [] := va_S.rf
  have hl := lv_entry ([.ref h0]) (n := 1) (Nat.le_of_ble_eq_true rfl)
  rw [lg_entry_eq]
  generalize (lg_sl ([.ref h0]) ++ List.replicate (1 - (lg_sl ([.ref h0])).length) Slot.unset).toArray = ls at hl ⊢
  have hl : lv_has ls 1 [(0, .ref h0)] := hl
  have hP : va_P (dC, dI) vwCl ((h0, .inr (0, [.int 0, .null, .int 0])) :: []) s.heap := hP
  have hD : va_D A ((h0, .inr (0, [.int 0, .null, .int 0])) :: []) := hD
  refine n_gen (fun Q eQ => ?_)
  refine lv_aload_n hx hb dJx4a65c_init_da8c8_0 rfl (lv_at hl 0 rfl) ?_
  refine nw_call (rest := []) (r := []) ⟨hx, hb, hml, hown, htb⟩ (n_Jc l dC dI ad cid (h0) (.null) (.int 0)) (cwI 0 htb (gd_c kw_1379) rfl rfl rfl (htb _ kw_108) (htb _ kw_106) (htb _ kw_107) rfl (by decide +kernel) ⟨Nat.le_of_ble_eq_true rfl, Nat.le_of_ble_eq_true rfl⟩) rfl hl.1 rfl (Nat.le_of_ble_eq_true rfl) dJx4a65c_init_da8c8_1 ⟨(Nat.le_of_ble_eq_true rfl), (Nat.le_of_ble_eq_true rfl)⟩ hK hP hD hS hA hG (fun w H locs hw hP7 hD7 hS => ?_)
  obtain ⟨rfl⟩ := hw
  have hP : va_P (dC, dI) vwCl ((h0, .inr (0, [.int 0, .null, .int 0])) :: []) H := hP7
  have hD : va_D A ((h0, .inr (0, [.int 0, .null, .int 0])) :: []) := hD7
  refine W.widen (k := 0) (n := 0) (Nat.le_of_ble_eq_true rfl) (Nat.le_of_ble_eq_true rfl) ?_
  refine lv_aload_n hx hb dJx4a65c_init_da8c8_4 rfl (lv_at hl 0 rfl) ?_
  refine va_gets (A := A) hx hb hG.2.1.2.2.2.2.1 hS hown (htb _ kw_104) (fun _ h9 => h9) dJx4a65c_init_da8c8_5 ?_
  refine va_put (D := (dC, dI)) (ci := 0) (v := .ref (ad 34 0)) (ty := tyJx4a65c 1) (C := RJx4a65c) (T := TJx4a65c) (N := 3) hx hb htb inJx4a65c tyJx4a65c tyJx4a65c_ok nmJx4a65c hown hK hP hD hS 0 rfl rfl 1 (by decide) (htb _ kw_105) (fun _ h9 => h9) rfl (tyJx4a65c_ok 1 (by decide)) rfl rfl (Nat.le_of_ble_eq_true rfl) dJx4a65c_init_da8c8_8 (fun H locs hP hD hS => ?_)
  have hP : va_P (dC, dI) vwCl ((h0, .inr (0, [.int 0, .ref (ad 34 0), .int 0])) :: []) H := hP
  have hD : va_D A ((h0, .inr (0, [.int 0, .ref (ad 34 0), .int 0])) :: []) := hD
  rw [eQ]
  exact W.vret hx hb hr (fun t ht hW => ⟨⟨(h0, .inr (0, [.int 0, .ref (ad 34 0), .int 0])) :: [], rfl, rfl, by rw [ht]; exact hP, va_K.moved hW.alike hK, hD⟩, hS.F ht⟩) hS.2.2 dJx4a65c_init_da8c8_11

theorem dX1_init_0 : decode cX1_init 0 = .ok (.aload_n 0, 1) := by decide +kernel
theorem dX1_init_1 : decode cX1_init 1 = .ok (.invokespecial 3, 3) := by decide +kernel
theorem dX1_init_4 : decode cX1_init 4 = .ok (.aload_n 0, 1) := by decide +kernel
theorem dX1_init_5 : decode cX1_init 5 = .ok (.iload_n 1, 1) := by decide +kernel
theorem dX1_init_6 : decode cX1_init 6 = .ok (.putfield 9, 3) := by decide +kernel
theorem dX1_init_9 : decode cX1_init 9 = .ok (.aload_n 0, 1) := by decide +kernel
theorem dX1_init_10 : decode cX1_init 10 = .ok (.new 15, 3) := by decide +kernel
theorem dX1_init_13 : decode cX1_init 13 = .ok (.dup, 1) := by decide +kernel
theorem dX1_init_14 : decode cX1_init 14 = .ok (.invokespecial 17, 3) := by decide +kernel
theorem dX1_init_17 : decode cX1_init 17 = .ok (.putfield 18, 3) := by decide +kernel
theorem dX1_init_20 : decode cX1_init 20 = .ok (.aload_n 0, 1) := by decide +kernel
theorem dX1_init_21 : decode cX1_init 21 = .ok (.new 15, 3) := by decide +kernel
theorem dX1_init_24 : decode cX1_init 24 = .ok (.dup, 1) := by decide +kernel
theorem dX1_init_25 : decode cX1_init 25 = .ok (.invokespecial 17, 3) := by decide +kernel
theorem dX1_init_28 : decode cX1_init 28 = .ok (.putfield 22, 3) := by decide +kernel
theorem dX1_init_31 : decode cX1_init 31 = .ok (.aload_n 0, 1) := by decide +kernel
theorem dX1_init_32 : decode cX1_init 32 = .ok (.new 15, 3) := by decide +kernel
theorem dX1_init_35 : decode cX1_init 35 = .ok (.dup, 1) := by decide +kernel
theorem dX1_init_36 : decode cX1_init 36 = .ok (.invokespecial 17, 3) := by decide +kernel
theorem dX1_init_39 : decode cX1_init 39 = .ok (.putfield 25, 3) := by decide +kernel
theorem dX1_init_42 : decode cX1_init 42 = .ok (.return_, 1) := by decide +kernel

set_option maxHeartbeats 4000000 in
set_option maxRecDepth 100000 in
theorem n_X1 (l : Launch) (dC : Nat → ClassId) (dI : Nat → Nat → Nat) (ad : Nat → Nat → Nat) (cid : Nat → ClassId) (h0 : Nat) (p0 : Int32) : NM dC dI ad cid l yX1_init wm_X1_init ({ frames := 4, cells := 3, slots := 9, locals := 80 }) [.ref h0, .int p0] [(h0, .inr (1, [.int 0, .null, .null, .null, .null, .long 0, .long 0, .long 0, .long 0, .int 0, .int 0, .int 0, .int 0, .int 0, .int 0, .int 0, .int 0, .int 0, .int 0]))] (fun w => ∃ a b c, w = beW ad p0 h0 a b c) 3 9 := by
  intro sz
  refine Met.ofW (cc := cX1_init) (maxL := 2) (ret := none) (by decide) rfl ?_
  intro p e s m args below meth c s₁ B hml hv
  obtain ⟨rfl, hsz, hP, hK, hD0, hG⟩ := hv
  have hx := B.exec
  have hb := B.bytes
  have hr := B.returns
  have hts := atoms_spec (ws := wm_X1_init) B.pre
  have htb := fun (w : Cond) (h : w ∈ tb) => hts w (List.mem_cons_of_mem _ h)
  have hown : s.vm.findClass RX1 = some m.cls := findClass_of_methodNamed B.named
  have hlocks := B.notSynchronized
  have hin : meth.name = "<init>" := (name_of_methodNamed B.named B.method).1
  subst hsz
  have hD := hD0.self (sz := s.heap.size)
  generalize hAe : va_A [(h0, .inr (1, [.int 0, .null, .null, .null, .null, .long 0, .long 0, .long 0, .long 0, .int 0, .int 0, .int 0, .int 0, .int 0, .int 0, .int 0, .int 0, .int 0, .int 0]))] s.heap.size = A at hD hG ⊢
  have hA : ∀ q : Nat, s.heap.size ≤ q → A q := fun q h => by rw [← hAe]; exact Or.inr h
  have hS : va_S A s.heap s.heap [] := va_S.rf
  have hl := lv_entry ([.ref h0, .int p0]) (n := 2) (Nat.le_of_ble_eq_true rfl)
  rw [lg_entry_eq]
  generalize (lg_sl ([.ref h0, .int p0]) ++ List.replicate (2 - (lg_sl ([.ref h0, .int p0])).length) Slot.unset).toArray = ls at hl ⊢
  have hl : lv_has ls 2 [(0, .ref h0), (1, .int p0)] := hl
  have hP : va_P (dC, dI) vwCl ((h0, .inr (1, [.int 0, .null, .null, .null, .null, .long 0, .long 0, .long 0, .long 0, .int 0, .int 0, .int 0, .int 0, .int 0, .int 0, .int 0, .int 0, .int 0, .int 0])) :: []) s.heap := hP
  have hD : va_D A ((h0, .inr (1, [.int 0, .null, .null, .null, .null, .long 0, .long 0, .long 0, .long 0, .int 0, .int 0, .int 0, .int 0, .int 0, .int 0, .int 0, .int 0, .int 0, .int 0])) :: []) := hD
  refine n_gen (fun Q eQ => ?_)
  refine lv_aload_n hx hb dX1_init_0 rfl (lv_at hl 0 rfl) ?_
  refine W.objInit hx hb hown (htb _ kw_94) (htb _ kw_11) (htb _ kw_1369) rfl (by rw [hml]; exact hl.1) rfl dX1_init_1 (Nat.le_of_ble_eq_true rfl) (Nat.le_of_ble_eq_true rfl) ?_
  refine W.eq (g2 := F0 m 4 ls []) rfl ?_
  refine lv_aload_n hx hb dX1_init_4 rfl (lv_at hl 0 rfl) ?_
  refine lv_iload_n hx hb dX1_init_5 rfl (lv_at hl 1 rfl) ?_
  refine va_putF (D := (dC, dI)) (ci := 1) (v := .int p0) (ty := tyX1 0) (C := RX1) (T := TX1) (N := 19) hx hb htb inX1 tyX1 tyX1_ok nmX1 hown hK hP hD hS 0 rfl rfl 0 (by decide) (htb _ kw_95) (fun _ h9 => h9) rfl hin rfl (tyX1_ok 0 (by decide)) rfl rfl (Nat.le_of_ble_eq_true rfl) dX1_init_6 (fun H locs hP hD hS => ?_)
  have hP : va_P (dC, dI) vwCl ((h0, .inr (1, [.int p0, .null, .null, .null, .null, .long 0, .long 0, .long 0, .long 0, .int 0, .int 0, .int 0, .int 0, .int 0, .int 0, .int 0, .int 0, .int 0, .int 0])) :: []) H := hP
  have hD : va_D A ((h0, .inr (1, [.int p0, .null, .null, .null, .null, .long 0, .long 0, .long 0, .long 0, .int 0, .int 0, .int 0, .int 0, .int 0, .int 0, .int 0, .int 0, .int 0, .int 0])) :: []) := hD
  refine lv_aload_n hx hb dX1_init_9 rfl (lv_at hl 0 rfl) ?_
  refine va_new (ci := 0) (fs := nvJx4a65c) (C := RJx4a65c) (T := TJx4a65c) (N := 3) hx hb htb inJx4a65c tyJx4a65c tyJx4a65c_ok hown (htb _ kw_96) (htb _ kw_97) (htb _ kw_98) hK hP hD hS hA rfl nwJx4a65c (Nat.le_of_ble_eq_true rfl) (Nat.le_of_ble_eq_true rfl) dX1_init_10 (fun q_1 H hP hD hS => ?_)
  have hP : va_P (dC, dI) vwCl ((q_1, .inr (0, [.int 0, .null, .int 0])) :: (h0, .inr (1, [.int p0, .null, .null, .null, .null, .long 0, .long 0, .long 0, .long 0, .int 0, .int 0, .int 0, .int 0, .int 0, .int 0, .int 0, .int 0, .int 0, .int 0])) :: []) H := fr_P hP
  have hD : va_D A ((q_1, .inr (0, [.int 0, .null, .int 0])) :: (h0, .inr (1, [.int p0, .null, .null, .null, .null, .long 0, .long 0, .long 0, .long 0, .int 0, .int 0, .int 0, .int 0, .int 0, .int 0, .int 0, .int 0, .int 0, .int 0])) :: []) := fr_D hD
  refine W.widen (k := 1) (n := 3) (Nat.le_of_ble_eq_true rfl) (Nat.le_of_ble_eq_true rfl) ?_
  refine lv_dup hx hb dX1_init_13 rfl ?_
  refine nw_call (rest := [.ref q_1, .ref h0]) (r := (h0, .inr (1, [.int p0, .null, .null, .null, .null, .long 0, .long 0, .long 0, .long 0, .int 0, .int 0, .int 0, .int 0, .int 0, .int 0, .int 0, .int 0, .int 0, .int 0])) :: []) ⟨hx, hb, hml, hown, htb⟩ (n_AL l dC dI ad cid (q_1)) (cwI 0 htb (gd_c kw_1378) rfl rfl rfl (htb _ kw_98) (htb _ kw_102) (htb _ kw_103) rfl (by decide +kernel) ⟨Nat.le_of_ble_eq_true rfl, Nat.le_of_ble_eq_true rfl⟩) rfl hl.1 rfl (Nat.le_of_ble_eq_true rfl) dX1_init_14 ⟨(Nat.le_of_ble_eq_true rfl), (Nat.le_of_ble_eq_true rfl)⟩ hK hP hD hS hA hG (fun w H locs hw hP7 hD7 hS => ?_)
  obtain ⟨rfl⟩ := hw
  have hP : va_P (dC, dI) vwCl ((h0, .inr (1, [.int p0, .null, .null, .null, .null, .long 0, .long 0, .long 0, .long 0, .int 0, .int 0, .int 0, .int 0, .int 0, .int 0, .int 0, .int 0, .int 0, .int 0])) :: (alW ad q_1 ++ [])) H := sw_P (E := [(h0, .inr (1, [.int p0, .null, .null, .null, .null, .long 0, .long 0, .long 0, .long 0, .int 0, .int 0, .int 0, .int 0, .int 0, .int 0, .int 0, .int 0, .int 0, .int 0]))]) (w := alW ad q_1) (T := []) hP7
  have hD : va_D A ((h0, .inr (1, [.int p0, .null, .null, .null, .null, .long 0, .long 0, .long 0, .long 0, .int 0, .int 0, .int 0, .int 0, .int 0, .int 0, .int 0, .int 0, .int 0, .int 0])) :: (alW ad q_1 ++ [])) := sw_D (E := [(h0, .inr (1, [.int p0, .null, .null, .null, .null, .long 0, .long 0, .long 0, .long 0, .int 0, .int 0, .int 0, .int 0, .int 0, .int 0, .int 0, .int 0, .int 0, .int 0]))]) (w := alW ad q_1) (T := []) hD7
  refine W.widen (k := 1) (n := 3) (Nat.le_of_ble_eq_true rfl) (Nat.le_of_ble_eq_true rfl) ?_
  refine va_putF (D := (dC, dI)) (ci := 1) (v := .ref q_1) (ty := tyX1 1) (C := RX1) (T := TX1) (N := 19) hx hb htb inX1 tyX1 tyX1_ok nmX1 hown hK hP hD hS 0 rfl rfl 1 (by decide) (htb _ kw_99) (fun _ h9 => h9) rfl hin rfl (tyX1_ok 1 (by decide)) rfl rfl (Nat.le_of_ble_eq_true rfl) dX1_init_17 (fun H locs hP hD hS => ?_)
  have hP : va_P (dC, dI) vwCl ((h0, .inr (1, [.int p0, .ref q_1, .null, .null, .null, .long 0, .long 0, .long 0, .long 0, .int 0, .int 0, .int 0, .int 0, .int 0, .int 0, .int 0, .int 0, .int 0, .int 0])) :: (alW ad q_1 ++ [])) H := hP
  have hD : va_D A ((h0, .inr (1, [.int p0, .ref q_1, .null, .null, .null, .long 0, .long 0, .long 0, .long 0, .int 0, .int 0, .int 0, .int 0, .int 0, .int 0, .int 0, .int 0, .int 0, .int 0])) :: (alW ad q_1 ++ [])) := hD
  refine lv_aload_n hx hb dX1_init_20 rfl (lv_at hl 0 rfl) ?_
  refine va_new (ci := 0) (fs := nvJx4a65c) (C := RJx4a65c) (T := TJx4a65c) (N := 3) hx hb htb inJx4a65c tyJx4a65c tyJx4a65c_ok hown (htb _ kw_96) (htb _ kw_97) (htb _ kw_98) hK hP hD hS hA rfl nwJx4a65c (Nat.le_of_ble_eq_true rfl) (Nat.le_of_ble_eq_true rfl) dX1_init_21 (fun q_2 H hP hD hS => ?_)
  have hP : va_P (dC, dI) vwCl ((q_2, .inr (0, [.int 0, .null, .int 0])) :: (h0, .inr (1, [.int p0, .ref q_1, .null, .null, .null, .long 0, .long 0, .long 0, .long 0, .int 0, .int 0, .int 0, .int 0, .int 0, .int 0, .int 0, .int 0, .int 0, .int 0])) :: (alW ad q_1 ++ [])) H := fr_P hP
  have hD : va_D A ((q_2, .inr (0, [.int 0, .null, .int 0])) :: (h0, .inr (1, [.int p0, .ref q_1, .null, .null, .null, .long 0, .long 0, .long 0, .long 0, .int 0, .int 0, .int 0, .int 0, .int 0, .int 0, .int 0, .int 0, .int 0, .int 0])) :: (alW ad q_1 ++ [])) := fr_D hD
  refine W.widen (k := 2) (n := 6) (Nat.le_of_ble_eq_true rfl) (Nat.le_of_ble_eq_true rfl) ?_
  refine lv_dup hx hb dX1_init_24 rfl ?_
  refine nw_call (rest := [.ref q_2, .ref h0]) (r := (h0, .inr (1, [.int p0, .ref q_1, .null, .null, .null, .long 0, .long 0, .long 0, .long 0, .int 0, .int 0, .int 0, .int 0, .int 0, .int 0, .int 0, .int 0, .int 0, .int 0])) :: (alW ad q_1 ++ [])) ⟨hx, hb, hml, hown, htb⟩ (n_AL l dC dI ad cid (q_2)) (cwI 0 htb (gd_c kw_1378) rfl rfl rfl (htb _ kw_98) (htb _ kw_102) (htb _ kw_103) rfl (by decide +kernel) ⟨Nat.le_of_ble_eq_true rfl, Nat.le_of_ble_eq_true rfl⟩) rfl hl.1 rfl (Nat.le_of_ble_eq_true rfl) dX1_init_25 ⟨(Nat.le_of_ble_eq_true rfl), (Nat.le_of_ble_eq_true rfl)⟩ hK hP hD hS hA hG (fun w H locs hw hP7 hD7 hS => ?_)
  obtain ⟨rfl⟩ := hw
  have hP : va_P (dC, dI) vwCl ((h0, .inr (1, [.int p0, .ref q_1, .null, .null, .null, .long 0, .long 0, .long 0, .long 0, .int 0, .int 0, .int 0, .int 0, .int 0, .int 0, .int 0, .int 0, .int 0, .int 0])) :: (alW ad q_2 ++ (alW ad q_1 ++ []))) H := sw_P (E := [(h0, .inr (1, [.int p0, .ref q_1, .null, .null, .null, .long 0, .long 0, .long 0, .long 0, .int 0, .int 0, .int 0, .int 0, .int 0, .int 0, .int 0, .int 0, .int 0, .int 0]))]) (w := alW ad q_2) (T := (alW ad q_1 ++ [])) hP7
  have hD : va_D A ((h0, .inr (1, [.int p0, .ref q_1, .null, .null, .null, .long 0, .long 0, .long 0, .long 0, .int 0, .int 0, .int 0, .int 0, .int 0, .int 0, .int 0, .int 0, .int 0, .int 0])) :: (alW ad q_2 ++ (alW ad q_1 ++ []))) := sw_D (E := [(h0, .inr (1, [.int p0, .ref q_1, .null, .null, .null, .long 0, .long 0, .long 0, .long 0, .int 0, .int 0, .int 0, .int 0, .int 0, .int 0, .int 0, .int 0, .int 0, .int 0]))]) (w := alW ad q_2) (T := (alW ad q_1 ++ [])) hD7
  refine W.widen (k := 2) (n := 6) (Nat.le_of_ble_eq_true rfl) (Nat.le_of_ble_eq_true rfl) ?_
  refine va_putF (D := (dC, dI)) (ci := 1) (v := .ref q_2) (ty := tyX1 2) (C := RX1) (T := TX1) (N := 19) hx hb htb inX1 tyX1 tyX1_ok nmX1 hown hK hP hD hS 0 rfl rfl 2 (by decide) (htb _ kw_100) (fun _ h9 => h9) rfl hin rfl (tyX1_ok 2 (by decide)) rfl rfl (Nat.le_of_ble_eq_true rfl) dX1_init_28 (fun H locs hP hD hS => ?_)
  have hP : va_P (dC, dI) vwCl ((h0, .inr (1, [.int p0, .ref q_1, .ref q_2, .null, .null, .long 0, .long 0, .long 0, .long 0, .int 0, .int 0, .int 0, .int 0, .int 0, .int 0, .int 0, .int 0, .int 0, .int 0])) :: (alW ad q_2 ++ (alW ad q_1 ++ []))) H := hP
  have hD : va_D A ((h0, .inr (1, [.int p0, .ref q_1, .ref q_2, .null, .null, .long 0, .long 0, .long 0, .long 0, .int 0, .int 0, .int 0, .int 0, .int 0, .int 0, .int 0, .int 0, .int 0, .int 0])) :: (alW ad q_2 ++ (alW ad q_1 ++ []))) := hD
  refine lv_aload_n hx hb dX1_init_31 rfl (lv_at hl 0 rfl) ?_
  refine va_new (ci := 0) (fs := nvJx4a65c) (C := RJx4a65c) (T := TJx4a65c) (N := 3) hx hb htb inJx4a65c tyJx4a65c tyJx4a65c_ok hown (htb _ kw_96) (htb _ kw_97) (htb _ kw_98) hK hP hD hS hA rfl nwJx4a65c (Nat.le_of_ble_eq_true rfl) (Nat.le_of_ble_eq_true rfl) dX1_init_32 (fun q_3 H hP hD hS => ?_)
  have hP : va_P (dC, dI) vwCl ((q_3, .inr (0, [.int 0, .null, .int 0])) :: (h0, .inr (1, [.int p0, .ref q_1, .ref q_2, .null, .null, .long 0, .long 0, .long 0, .long 0, .int 0, .int 0, .int 0, .int 0, .int 0, .int 0, .int 0, .int 0, .int 0, .int 0])) :: (alW ad q_2 ++ (alW ad q_1 ++ []))) H := fr_P hP
  have hD : va_D A ((q_3, .inr (0, [.int 0, .null, .int 0])) :: (h0, .inr (1, [.int p0, .ref q_1, .ref q_2, .null, .null, .long 0, .long 0, .long 0, .long 0, .int 0, .int 0, .int 0, .int 0, .int 0, .int 0, .int 0, .int 0, .int 0, .int 0])) :: (alW ad q_2 ++ (alW ad q_1 ++ []))) := fr_D hD
  refine W.widen (k := 3) (n := 9) (Nat.le_of_ble_eq_true rfl) (Nat.le_of_ble_eq_true rfl) ?_
  refine lv_dup hx hb dX1_init_35 rfl ?_
  refine nw_call (rest := [.ref q_3, .ref h0]) (r := (h0, .inr (1, [.int p0, .ref q_1, .ref q_2, .null, .null, .long 0, .long 0, .long 0, .long 0, .int 0, .int 0, .int 0, .int 0, .int 0, .int 0, .int 0, .int 0, .int 0, .int 0])) :: (alW ad q_2 ++ (alW ad q_1 ++ []))) ⟨hx, hb, hml, hown, htb⟩ (n_AL l dC dI ad cid (q_3)) (cwI 0 htb (gd_c kw_1378) rfl rfl rfl (htb _ kw_98) (htb _ kw_102) (htb _ kw_103) rfl (by decide +kernel) ⟨Nat.le_of_ble_eq_true rfl, Nat.le_of_ble_eq_true rfl⟩) rfl hl.1 rfl (Nat.le_of_ble_eq_true rfl) dX1_init_36 ⟨(Nat.le_of_ble_eq_true rfl), (Nat.le_of_ble_eq_true rfl)⟩ hK hP hD hS hA hG (fun w H locs hw hP7 hD7 hS => ?_)
  obtain ⟨rfl⟩ := hw
  have hP : va_P (dC, dI) vwCl ((h0, .inr (1, [.int p0, .ref q_1, .ref q_2, .null, .null, .long 0, .long 0, .long 0, .long 0, .int 0, .int 0, .int 0, .int 0, .int 0, .int 0, .int 0, .int 0, .int 0, .int 0])) :: (alW ad q_3 ++ (alW ad q_2 ++ (alW ad q_1 ++ [])))) H := sw_P (E := [(h0, .inr (1, [.int p0, .ref q_1, .ref q_2, .null, .null, .long 0, .long 0, .long 0, .long 0, .int 0, .int 0, .int 0, .int 0, .int 0, .int 0, .int 0, .int 0, .int 0, .int 0]))]) (w := alW ad q_3) (T := (alW ad q_2 ++ (alW ad q_1 ++ []))) hP7
  have hD : va_D A ((h0, .inr (1, [.int p0, .ref q_1, .ref q_2, .null, .null, .long 0, .long 0, .long 0, .long 0, .int 0, .int 0, .int 0, .int 0, .int 0, .int 0, .int 0, .int 0, .int 0, .int 0])) :: (alW ad q_3 ++ (alW ad q_2 ++ (alW ad q_1 ++ [])))) := sw_D (E := [(h0, .inr (1, [.int p0, .ref q_1, .ref q_2, .null, .null, .long 0, .long 0, .long 0, .long 0, .int 0, .int 0, .int 0, .int 0, .int 0, .int 0, .int 0, .int 0, .int 0, .int 0]))]) (w := alW ad q_3) (T := (alW ad q_2 ++ (alW ad q_1 ++ []))) hD7
  refine W.widen (k := 3) (n := 9) (Nat.le_of_ble_eq_true rfl) (Nat.le_of_ble_eq_true rfl) ?_
  refine va_putF (D := (dC, dI)) (ci := 1) (v := .ref q_3) (ty := tyX1 3) (C := RX1) (T := TX1) (N := 19) hx hb htb inX1 tyX1 tyX1_ok nmX1 hown hK hP hD hS 0 rfl rfl 3 (by decide) (htb _ kw_101) (fun _ h9 => h9) rfl hin rfl (tyX1_ok 3 (by decide)) rfl rfl (Nat.le_of_ble_eq_true rfl) dX1_init_39 (fun H locs hP hD hS => ?_)
  have hP : va_P (dC, dI) vwCl ((h0, .inr (1, [.int p0, .ref q_1, .ref q_2, .ref q_3, .null, .long 0, .long 0, .long 0, .long 0, .int 0, .int 0, .int 0, .int 0, .int 0, .int 0, .int 0, .int 0, .int 0, .int 0])) :: (alW ad q_3 ++ (alW ad q_2 ++ (alW ad q_1 ++ [])))) H := hP
  have hD : va_D A ((h0, .inr (1, [.int p0, .ref q_1, .ref q_2, .ref q_3, .null, .long 0, .long 0, .long 0, .long 0, .int 0, .int 0, .int 0, .int 0, .int 0, .int 0, .int 0, .int 0, .int 0, .int 0])) :: (alW ad q_3 ++ (alW ad q_2 ++ (alW ad q_1 ++ [])))) := hD
  rw [eQ]
  exact W.vret hx hb hr (fun t ht hW => ⟨⟨(h0, .inr (1, [.int p0, .ref q_1, .ref q_2, .ref q_3, .null, .long 0, .long 0, .long 0, .long 0, .int 0, .int 0, .int 0, .int 0, .int 0, .int 0, .int 0, .int 0, .int 0, .int 0])) :: (alW ad q_3 ++ (alW ad q_2 ++ (alW ad q_1 ++ []))), rfl, ⟨_, _, _, rfl⟩, by rw [ht]; exact hP, va_K.moved hW.alike hK, hD⟩, hS.F ht⟩) hS.2.2 dX1_init_42

theorem dX5_init_0 : decode cX5_init 0 = .ok (.aload_n 0, 1) := by decide +kernel
theorem dX5_init_1 : decode cX5_init 1 = .ok (.invokespecial 7, 3) := by decide +kernel
theorem dX5_init_4 : decode cX5_init 4 = .ok (.aload_n 0, 1) := by decide +kernel
theorem dX5_init_5 : decode cX5_init 5 = .ok (.aload_n 1, 1) := by decide +kernel
theorem dX5_init_6 : decode cX5_init 6 = .ok (.putfield 13, 3) := by decide +kernel
theorem dX5_init_9 : decode cX5_init 9 = .ok (.aload_n 0, 1) := by decide +kernel
theorem dX5_init_10 : decode cX5_init 10 = .ok (.aload_n 2, 1) := by decide +kernel
theorem dX5_init_11 : decode cX5_init 11 = .ok (.putfield 17, 3) := by decide +kernel
theorem dX5_init_14 : decode cX5_init 14 = .ok (.aload_n 0, 1) := by decide +kernel
theorem dX5_init_15 : decode cX5_init 15 = .ok (.aload_n 3, 1) := by decide +kernel
theorem dX5_init_16 : decode cX5_init 16 = .ok (.putfield 21, 3) := by decide +kernel
theorem dX5_init_19 : decode cX5_init 19 = .ok (.aload_n 0, 1) := by decide +kernel
theorem dX5_init_20 : decode cX5_init 20 = .ok (.bipush 60, 2) := by decide +kernel
theorem dX5_init_22 : decode cX5_init 22 = .ok (.newarray .int, 2) := by decide +kernel
theorem dX5_init_24 : decode cX5_init 24 = .ok (.putfield 25, 3) := by decide +kernel
theorem dX5_init_27 : decode cX5_init 27 = .ok (.aload_n 0, 1) := by decide +kernel
theorem dX5_init_28 : decode cX5_init 28 = .ok (.bipush 60, 2) := by decide +kernel
theorem dX5_init_30 : decode cX5_init 30 = .ok (.newarray .int, 2) := by decide +kernel
theorem dX5_init_32 : decode cX5_init 32 = .ok (.putfield 29, 3) := by decide +kernel
theorem dX5_init_35 : decode cX5_init 35 = .ok (.aload_n 0, 1) := by decide +kernel
theorem dX5_init_36 : decode cX5_init 36 = .ok (.bipush 80, 2) := by decide +kernel
theorem dX5_init_38 : decode cX5_init 38 = .ok (.anewarray 34, 3) := by decide +kernel
theorem dX5_init_41 : decode cX5_init 41 = .ok (.putfield 36, 3) := by decide +kernel
theorem dX5_init_44 : decode cX5_init 44 = .ok (.aload_n 0, 1) := by decide +kernel
theorem dX5_init_45 : decode cX5_init 45 = .ok (.sipush 960, 3) := by decide +kernel
theorem dX5_init_48 : decode cX5_init 48 = .ok (.newarray .int, 2) := by decide +kernel
theorem dX5_init_50 : decode cX5_init 50 = .ok (.putfield 40, 3) := by decide +kernel
theorem dX5_init_53 : decode cX5_init 53 = .ok (.aload_n 0, 1) := by decide +kernel
theorem dX5_init_54 : decode cX5_init 54 = .ok (.iconst 3, 1) := by decide +kernel
theorem dX5_init_55 : decode cX5_init 55 = .ok (.newarray .int, 2) := by decide +kernel
theorem dX5_init_57 : decode cX5_init 57 = .ok (.putfield 43, 3) := by decide +kernel
theorem dX5_init_60 : decode cX5_init 60 = .ok (.aload_n 0, 1) := by decide +kernel
theorem dX5_init_61 : decode cX5_init 61 = .ok (.iconst (-1), 1) := by decide +kernel
theorem dX5_init_62 : decode cX5_init 62 = .ok (.putfield 46, 3) := by decide +kernel
theorem dX5_init_65 : decode cX5_init 65 = .ok (.return_, 1) := by decide +kernel

set_option maxHeartbeats 4000000 in
set_option maxRecDepth 100000 in
theorem n_X5 (l : Launch) (dC : Nat → ClassId) (dI : Nat → Nat → Nat) (ad : Nat → Nat → Nat) (cid : Nat → ClassId) (h0 : Nat) (p1 : Nat) (p2 : Nat) (p3 : Nat) : NM dC dI ad cid l yX5_init wm_X5_init ({ frames := 1, cells := 5, slots := 1163, locals := 20 }) [.ref h0, .ref p1, .ref p2, .ref p3] [(h0, .inr (5, [.null, .null, .null, .null, .null, .int 0, .null, .int 0, .null, .null, .null, .int 0, .int 0]))] (fun w => ∃ a b f x q, w = mkW cid h0 p1 p2 p3 a b f x q) 5 1163 := by
  intro sz
  refine Met.ofW (cc := cX5_init) (maxL := 4) (ret := none) (by decide) rfl ?_
  intro p e s m args below meth c s₁ B hml hv
  obtain ⟨rfl, hsz, hP, hK, hD0, hG⟩ := hv
  have hx := B.exec
  have hb := B.bytes
  have hr := B.returns
  have hts := atoms_spec (ws := wm_X5_init) B.pre
  have htb := fun (w : Cond) (h : w ∈ tb) => hts w (List.mem_cons_of_mem _ h)
  have hown : s.vm.findClass RX5 = some m.cls := findClass_of_methodNamed B.named
  have hlocks := B.notSynchronized
  have hin : meth.name = "<init>" := (name_of_methodNamed B.named B.method).1
  subst hsz
  have hD := hD0.self (sz := s.heap.size)
  generalize hAe : va_A [(h0, .inr (5, [.null, .null, .null, .null, .null, .int 0, .null, .int 0, .null, .null, .null, .int 0, .int 0]))] s.heap.size = A at hD hG ⊢
  have hA : ∀ q : Nat, s.heap.size ≤ q → A q := fun q h => by rw [← hAe]; exact Or.inr h
  have hS : va_S A s.heap s.heap [] := va_S.rf
  have hl := lv_entry ([.ref h0, .ref p1, .ref p2, .ref p3]) (n := 4) (Nat.le_of_ble_eq_true rfl)
  rw [lg_entry_eq]
  generalize (lg_sl ([.ref h0, .ref p1, .ref p2, .ref p3]) ++ List.replicate (4 - (lg_sl ([.ref h0, .ref p1, .ref p2, .ref p3])).length) Slot.unset).toArray = ls at hl ⊢
  have hl : lv_has ls 4 [(0, .ref h0), (1, .ref p1), (2, .ref p2), (3, .ref p3)] := hl
  have hP : va_P (dC, dI) vwCl ((h0, .inr (5, [.null, .null, .null, .null, .null, .int 0, .null, .int 0, .null, .null, .null, .int 0, .int 0])) :: []) s.heap := hP
  have hD : va_D A ((h0, .inr (5, [.null, .null, .null, .null, .null, .int 0, .null, .int 0, .null, .null, .null, .int 0, .int 0])) :: []) := hD
  refine n_gen (fun Q eQ => ?_)
  refine lv_aload_n hx hb dX5_init_0 rfl (lv_at hl 0 rfl) ?_
  refine W.objInit hx hb hown (htb _ kw_120) (htb _ kw_11) (htb _ kw_1369) rfl (by rw [hml]; exact hl.1) rfl dX5_init_1 (Nat.le_of_ble_eq_true rfl) (Nat.le_of_ble_eq_true rfl) ?_
  refine W.eq (g2 := F0 m 4 ls []) rfl ?_
  refine lv_aload_n hx hb dX5_init_4 rfl (lv_at hl 0 rfl) ?_
  refine lv_aload_n hx hb dX5_init_5 rfl (lv_at hl 1 rfl) ?_
  refine va_putF (D := (dC, dI)) (ci := 5) (v := .ref p1) (ty := tyX5 0) (C := RX5) (T := TX5) (N := 13) hx hb htb inX5 tyX5 tyX5_ok nmX5 hown hK hP hD hS 0 rfl rfl 0 (by decide) (htb _ kw_121) (fun _ h9 => h9) rfl hin rfl (tyX5_ok 0 (by decide)) rfl rfl (Nat.le_of_ble_eq_true rfl) dX5_init_6 (fun H locs hP hD hS => ?_)
  have hP : va_P (dC, dI) vwCl ((h0, .inr (5, [.ref p1, .null, .null, .null, .null, .int 0, .null, .int 0, .null, .null, .null, .int 0, .int 0])) :: []) H := hP
  have hD : va_D A ((h0, .inr (5, [.ref p1, .null, .null, .null, .null, .int 0, .null, .int 0, .null, .null, .null, .int 0, .int 0])) :: []) := hD
  refine lv_aload_n hx hb dX5_init_9 rfl (lv_at hl 0 rfl) ?_
  refine lv_aload_n hx hb dX5_init_10 rfl (lv_at hl 2 rfl) ?_
  refine va_putF (D := (dC, dI)) (ci := 5) (v := .ref p2) (ty := tyX5 1) (C := RX5) (T := TX5) (N := 13) hx hb htb inX5 tyX5 tyX5_ok nmX5 hown hK hP hD hS 0 rfl rfl 1 (by decide) (htb _ kw_122) (fun _ h9 => h9) rfl hin rfl (tyX5_ok 1 (by decide)) rfl rfl (Nat.le_of_ble_eq_true rfl) dX5_init_11 (fun H locs hP hD hS => ?_)
  have hP : va_P (dC, dI) vwCl ((h0, .inr (5, [.ref p1, .ref p2, .null, .null, .null, .int 0, .null, .int 0, .null, .null, .null, .int 0, .int 0])) :: []) H := hP
  have hD : va_D A ((h0, .inr (5, [.ref p1, .ref p2, .null, .null, .null, .int 0, .null, .int 0, .null, .null, .null, .int 0, .int 0])) :: []) := hD
  refine lv_aload_n hx hb dX5_init_14 rfl (lv_at hl 0 rfl) ?_
  refine lv_aload_n hx hb dX5_init_15 rfl (lv_at hl 3 rfl) ?_
  refine va_putF (D := (dC, dI)) (ci := 5) (v := .ref p3) (ty := tyX5 2) (C := RX5) (T := TX5) (N := 13) hx hb htb inX5 tyX5 tyX5_ok nmX5 hown hK hP hD hS 0 rfl rfl 2 (by decide) (htb _ kw_123) (fun _ h9 => h9) rfl hin rfl (tyX5_ok 2 (by decide)) rfl rfl (Nat.le_of_ble_eq_true rfl) dX5_init_16 (fun H locs hP hD hS => ?_)
  have hP : va_P (dC, dI) vwCl ((h0, .inr (5, [.ref p1, .ref p2, .ref p3, .null, .null, .int 0, .null, .int 0, .null, .null, .null, .int 0, .int 0])) :: []) H := hP
  have hD : va_D A ((h0, .inr (5, [.ref p1, .ref p2, .ref p3, .null, .null, .int 0, .null, .int 0, .null, .null, .null, .int 0, .int 0])) :: []) := hD
  refine lv_aload_n hx hb dX5_init_19 rfl (lv_at hl 0 rfl) ?_
  refine lv_bipush (v := 60) hx hb dX5_init_20 (by decide) ?_
  refine va_newa (D := (dC, dI)) (atype := .int) (ty := .int) (N' := 60) (a0 := (60, .inl (fun _ => 0))) hx hb (htb _ kw_52) rfl hK hP hD hS hA (fun _ => rfl) (by decide) (by decide) (by decide) (Nat.le_of_ble_eq_true rfl) (Nat.le_of_ble_eq_true rfl) dX5_init_22 (fun q_1 cA_2 H hK2 hP hD hS => ?_)
  obtain rfl : cA_2 = cid 22 := ty_eq (by decide) hK hK2 rfl
  have hP : va_P (dC, dI) vwCl ((q_1, .inl (cid 22, 60, .inl (fun _ => 0))) :: (h0, .inr (5, [.ref p1, .ref p2, .ref p3, .null, .null, .int 0, .null, .int 0, .null, .null, .null, .int 0, .int 0])) :: []) H := fr_P hP
  have hD : va_D A ((q_1, .inl (cid 22, 60, .inl (fun _ => 0))) :: (h0, .inr (5, [.ref p1, .ref p2, .ref p3, .null, .null, .int 0, .null, .int 0, .null, .null, .null, .int 0, .int 0])) :: []) := fr_D hD
  refine W.widen (k := 1) (n := 60) (Nat.le_of_ble_eq_true rfl) (Nat.le_of_ble_eq_true rfl) ?_
  refine va_putF (D := (dC, dI)) (ci := 5) (v := .ref q_1) (ty := tyX5 3) (C := RX5) (T := TX5) (N := 13) hx hb htb inX5 tyX5 tyX5_ok nmX5 hown hK hP hD hS 1 rfl rfl 3 (by decide) (htb _ kw_124) (fun _ h9 => h9) rfl hin rfl (tyX5_ok 3 (by decide)) rfl rfl (Nat.le_of_ble_eq_true rfl) dX5_init_24 (fun H locs hP hD hS => ?_)
  have hP : va_P (dC, dI) vwCl ((q_1, .inl (cid 22, 60, .inl (fun _ => 0))) :: (h0, .inr (5, [.ref p1, .ref p2, .ref p3, .ref q_1, .null, .int 0, .null, .int 0, .null, .null, .null, .int 0, .int 0])) :: []) H := hP
  have hD : va_D A ((q_1, .inl (cid 22, 60, .inl (fun _ => 0))) :: (h0, .inr (5, [.ref p1, .ref p2, .ref p3, .ref q_1, .null, .int 0, .null, .int 0, .null, .null, .null, .int 0, .int 0])) :: []) := hD
  refine lv_aload_n hx hb dX5_init_27 rfl (lv_at hl 0 rfl) ?_
  refine lv_bipush (v := 60) hx hb dX5_init_28 (by decide) ?_
  refine va_newa (D := (dC, dI)) (atype := .int) (ty := .int) (N' := 60) (a0 := (60, .inl (fun _ => 0))) hx hb (htb _ kw_52) rfl hK hP hD hS hA (fun _ => rfl) (by decide) (by decide) (by decide) (Nat.le_of_ble_eq_true rfl) (Nat.le_of_ble_eq_true rfl) dX5_init_30 (fun q_3 cA_4 H hK2 hP hD hS => ?_)
  obtain rfl : cA_4 = cid 23 := ty_eq (by decide) hK hK2 rfl
  have hP : va_P (dC, dI) vwCl ((q_3, .inl (cid 23, 60, .inl (fun _ => 0))) :: (q_1, .inl (cid 22, 60, .inl (fun _ => 0))) :: (h0, .inr (5, [.ref p1, .ref p2, .ref p3, .ref q_1, .null, .int 0, .null, .int 0, .null, .null, .null, .int 0, .int 0])) :: []) H := fr_P hP
  have hD : va_D A ((q_3, .inl (cid 23, 60, .inl (fun _ => 0))) :: (q_1, .inl (cid 22, 60, .inl (fun _ => 0))) :: (h0, .inr (5, [.ref p1, .ref p2, .ref p3, .ref q_1, .null, .int 0, .null, .int 0, .null, .null, .null, .int 0, .int 0])) :: []) := fr_D hD
  refine W.widen (k := 2) (n := 120) (Nat.le_of_ble_eq_true rfl) (Nat.le_of_ble_eq_true rfl) ?_
  refine va_putF (D := (dC, dI)) (ci := 5) (v := .ref q_3) (ty := tyX5 4) (C := RX5) (T := TX5) (N := 13) hx hb htb inX5 tyX5 tyX5_ok nmX5 hown hK hP hD hS 2 rfl rfl 4 (by decide) (htb _ kw_125) (fun _ h9 => h9) rfl hin rfl (tyX5_ok 4 (by decide)) rfl rfl (Nat.le_of_ble_eq_true rfl) dX5_init_32 (fun H locs hP hD hS => ?_)
  have hP : va_P (dC, dI) vwCl ((q_3, .inl (cid 23, 60, .inl (fun _ => 0))) :: (q_1, .inl (cid 22, 60, .inl (fun _ => 0))) :: (h0, .inr (5, [.ref p1, .ref p2, .ref p3, .ref q_1, .ref q_3, .int 0, .null, .int 0, .null, .null, .null, .int 0, .int 0])) :: []) H := hP
  have hD : va_D A ((q_3, .inl (cid 23, 60, .inl (fun _ => 0))) :: (q_1, .inl (cid 22, 60, .inl (fun _ => 0))) :: (h0, .inr (5, [.ref p1, .ref p2, .ref p3, .ref q_1, .ref q_3, .int 0, .null, .int 0, .null, .null, .null, .int 0, .int 0])) :: []) := hD
  refine lv_aload_n hx hb dX5_init_35 rfl (lv_at hl 0 rfl) ?_
  refine lv_bipush (v := 80) hx hb dX5_init_36 (by decide) ?_
  refine va_newq (D := (dC, dI)) (N' := 80) (C := RX1) hx hb hown (htb _ kw_126) hG.1.1.2.2.2 hK hP hD hS hA (by decide) (by decide) (by decide) (Nat.le_of_ble_eq_true rfl) (Nat.le_of_ble_eq_true rfl) dX5_init_38 (fun q_5 cA_6 H hK2 hP hD hS => ?_)
  obtain rfl : cA_6 = cid 24 := ty_eq (by decide) hK hK2 rfl
  have hP : va_P (dC, dI) vwCl ((q_5, .inl (cid 24, 80, .inr (.inr (.inr (.inr (fun _ => none)))))) :: (q_3, .inl (cid 23, 60, .inl (fun _ => 0))) :: (q_1, .inl (cid 22, 60, .inl (fun _ => 0))) :: (h0, .inr (5, [.ref p1, .ref p2, .ref p3, .ref q_1, .ref q_3, .int 0, .null, .int 0, .null, .null, .null, .int 0, .int 0])) :: []) H := fr_P hP
  have hD : va_D A ((q_5, .inl (cid 24, 80, .inr (.inr (.inr (.inr (fun _ => none)))))) :: (q_3, .inl (cid 23, 60, .inl (fun _ => 0))) :: (q_1, .inl (cid 22, 60, .inl (fun _ => 0))) :: (h0, .inr (5, [.ref p1, .ref p2, .ref p3, .ref q_1, .ref q_3, .int 0, .null, .int 0, .null, .null, .null, .int 0, .int 0])) :: []) := fr_D hD
  refine W.widen (k := 3) (n := 200) (Nat.le_of_ble_eq_true rfl) (Nat.le_of_ble_eq_true rfl) ?_
  refine va_putF (D := (dC, dI)) (ci := 5) (v := .ref q_5) (ty := tyX5 6) (C := RX5) (T := TX5) (N := 13) hx hb htb inX5 tyX5 tyX5_ok nmX5 hown hK hP hD hS 3 rfl rfl 6 (by decide) (htb _ kw_127) (fun _ h9 => h9) rfl hin rfl (tyX5_ok 6 (by decide)) rfl rfl (Nat.le_of_ble_eq_true rfl) dX5_init_41 (fun H locs hP hD hS => ?_)
  have hP : va_P (dC, dI) vwCl ((q_5, .inl (cid 24, 80, .inr (.inr (.inr (.inr (fun _ => none)))))) :: (q_3, .inl (cid 23, 60, .inl (fun _ => 0))) :: (q_1, .inl (cid 22, 60, .inl (fun _ => 0))) :: (h0, .inr (5, [.ref p1, .ref p2, .ref p3, .ref q_1, .ref q_3, .int 0, .ref q_5, .int 0, .null, .null, .null, .int 0, .int 0])) :: []) H := hP
  have hD : va_D A ((q_5, .inl (cid 24, 80, .inr (.inr (.inr (.inr (fun _ => none)))))) :: (q_3, .inl (cid 23, 60, .inl (fun _ => 0))) :: (q_1, .inl (cid 22, 60, .inl (fun _ => 0))) :: (h0, .inr (5, [.ref p1, .ref p2, .ref p3, .ref q_1, .ref q_3, .int 0, .ref q_5, .int 0, .null, .null, .null, .int 0, .int 0])) :: []) := hD
  refine lv_aload_n hx hb dX5_init_44 rfl (lv_at hl 0 rfl) ?_
  refine lv_sipush (v := 960) hx hb dX5_init_45 (by decide) ?_
  refine va_newa (D := (dC, dI)) (atype := .int) (ty := .int) (N' := 960) (a0 := (960, .inl (fun _ => 0))) hx hb (htb _ kw_52) rfl hK hP hD hS hA (fun _ => rfl) (by decide) (by decide) (by decide) (Nat.le_of_ble_eq_true rfl) (Nat.le_of_ble_eq_true rfl) dX5_init_48 (fun q_7 cA_8 H hK2 hP hD hS => ?_)
  obtain rfl : cA_8 = cid 25 := ty_eq (by decide) hK hK2 rfl
  have hP : va_P (dC, dI) vwCl ((q_7, .inl (cid 25, 960, .inl (fun _ => 0))) :: (q_5, .inl (cid 24, 80, .inr (.inr (.inr (.inr (fun _ => none)))))) :: (q_3, .inl (cid 23, 60, .inl (fun _ => 0))) :: (q_1, .inl (cid 22, 60, .inl (fun _ => 0))) :: (h0, .inr (5, [.ref p1, .ref p2, .ref p3, .ref q_1, .ref q_3, .int 0, .ref q_5, .int 0, .null, .null, .null, .int 0, .int 0])) :: []) H := fr_P hP
  have hD : va_D A ((q_7, .inl (cid 25, 960, .inl (fun _ => 0))) :: (q_5, .inl (cid 24, 80, .inr (.inr (.inr (.inr (fun _ => none)))))) :: (q_3, .inl (cid 23, 60, .inl (fun _ => 0))) :: (q_1, .inl (cid 22, 60, .inl (fun _ => 0))) :: (h0, .inr (5, [.ref p1, .ref p2, .ref p3, .ref q_1, .ref q_3, .int 0, .ref q_5, .int 0, .null, .null, .null, .int 0, .int 0])) :: []) := fr_D hD
  refine W.widen (k := 4) (n := 1160) (Nat.le_of_ble_eq_true rfl) (Nat.le_of_ble_eq_true rfl) ?_
  refine va_putF (D := (dC, dI)) (ci := 5) (v := .ref q_7) (ty := tyX5 8) (C := RX5) (T := TX5) (N := 13) hx hb htb inX5 tyX5 tyX5_ok nmX5 hown hK hP hD hS 4 rfl rfl 8 (by decide) (htb _ kw_128) (fun _ h9 => h9) rfl hin rfl (tyX5_ok 8 (by decide)) rfl rfl (Nat.le_of_ble_eq_true rfl) dX5_init_50 (fun H locs hP hD hS => ?_)
  have hP : va_P (dC, dI) vwCl ((q_7, .inl (cid 25, 960, .inl (fun _ => 0))) :: (q_5, .inl (cid 24, 80, .inr (.inr (.inr (.inr (fun _ => none)))))) :: (q_3, .inl (cid 23, 60, .inl (fun _ => 0))) :: (q_1, .inl (cid 22, 60, .inl (fun _ => 0))) :: (h0, .inr (5, [.ref p1, .ref p2, .ref p3, .ref q_1, .ref q_3, .int 0, .ref q_5, .int 0, .ref q_7, .null, .null, .int 0, .int 0])) :: []) H := hP
  have hD : va_D A ((q_7, .inl (cid 25, 960, .inl (fun _ => 0))) :: (q_5, .inl (cid 24, 80, .inr (.inr (.inr (.inr (fun _ => none)))))) :: (q_3, .inl (cid 23, 60, .inl (fun _ => 0))) :: (q_1, .inl (cid 22, 60, .inl (fun _ => 0))) :: (h0, .inr (5, [.ref p1, .ref p2, .ref p3, .ref q_1, .ref q_3, .int 0, .ref q_5, .int 0, .ref q_7, .null, .null, .int 0, .int 0])) :: []) := hD
  refine lv_aload_n hx hb dX5_init_53 rfl (lv_at hl 0 rfl) ?_
  refine lv_iconst (v := 3) hx hb dX5_init_54 (by decide) ?_
  refine va_newa (D := (dC, dI)) (atype := .int) (ty := .int) (N' := 3) (a0 := (3, .inl (fun _ => 0))) hx hb (htb _ kw_52) rfl hK hP hD hS hA (fun _ => rfl) (by decide) (by decide) (by decide) (Nat.le_of_ble_eq_true rfl) (Nat.le_of_ble_eq_true rfl) dX5_init_55 (fun q_9 cA_10 H hK2 hP hD hS => ?_)
  obtain rfl : cA_10 = cid 26 := ty_eq (by decide) hK hK2 rfl
  have hP : va_P (dC, dI) vwCl ((q_9, .inl (cid 26, 3, .inl (fun _ => 0))) :: (q_7, .inl (cid 25, 960, .inl (fun _ => 0))) :: (q_5, .inl (cid 24, 80, .inr (.inr (.inr (.inr (fun _ => none)))))) :: (q_3, .inl (cid 23, 60, .inl (fun _ => 0))) :: (q_1, .inl (cid 22, 60, .inl (fun _ => 0))) :: (h0, .inr (5, [.ref p1, .ref p2, .ref p3, .ref q_1, .ref q_3, .int 0, .ref q_5, .int 0, .ref q_7, .null, .null, .int 0, .int 0])) :: []) H := fr_P hP
  have hD : va_D A ((q_9, .inl (cid 26, 3, .inl (fun _ => 0))) :: (q_7, .inl (cid 25, 960, .inl (fun _ => 0))) :: (q_5, .inl (cid 24, 80, .inr (.inr (.inr (.inr (fun _ => none)))))) :: (q_3, .inl (cid 23, 60, .inl (fun _ => 0))) :: (q_1, .inl (cid 22, 60, .inl (fun _ => 0))) :: (h0, .inr (5, [.ref p1, .ref p2, .ref p3, .ref q_1, .ref q_3, .int 0, .ref q_5, .int 0, .ref q_7, .null, .null, .int 0, .int 0])) :: []) := fr_D hD
  refine W.widen (k := 5) (n := 1163) (Nat.le_of_ble_eq_true rfl) (Nat.le_of_ble_eq_true rfl) ?_
  refine va_putF (D := (dC, dI)) (ci := 5) (v := .ref q_9) (ty := tyX5 9) (C := RX5) (T := TX5) (N := 13) hx hb htb inX5 tyX5 tyX5_ok nmX5 hown hK hP hD hS 5 rfl rfl 9 (by decide) (htb _ kw_129) (fun _ h9 => h9) rfl hin rfl (tyX5_ok 9 (by decide)) rfl rfl (Nat.le_of_ble_eq_true rfl) dX5_init_57 (fun H locs hP hD hS => ?_)
  have hP : va_P (dC, dI) vwCl ((q_9, .inl (cid 26, 3, .inl (fun _ => 0))) :: (q_7, .inl (cid 25, 960, .inl (fun _ => 0))) :: (q_5, .inl (cid 24, 80, .inr (.inr (.inr (.inr (fun _ => none)))))) :: (q_3, .inl (cid 23, 60, .inl (fun _ => 0))) :: (q_1, .inl (cid 22, 60, .inl (fun _ => 0))) :: (h0, .inr (5, [.ref p1, .ref p2, .ref p3, .ref q_1, .ref q_3, .int 0, .ref q_5, .int 0, .ref q_7, .ref q_9, .null, .int 0, .int 0])) :: []) H := hP
  have hD : va_D A ((q_9, .inl (cid 26, 3, .inl (fun _ => 0))) :: (q_7, .inl (cid 25, 960, .inl (fun _ => 0))) :: (q_5, .inl (cid 24, 80, .inr (.inr (.inr (.inr (fun _ => none)))))) :: (q_3, .inl (cid 23, 60, .inl (fun _ => 0))) :: (q_1, .inl (cid 22, 60, .inl (fun _ => 0))) :: (h0, .inr (5, [.ref p1, .ref p2, .ref p3, .ref q_1, .ref q_3, .int 0, .ref q_5, .int 0, .ref q_7, .ref q_9, .null, .int 0, .int 0])) :: []) := hD
  refine lv_aload_n hx hb dX5_init_60 rfl (lv_at hl 0 rfl) ?_
  refine lv_iconst (v := (-1)) hx hb dX5_init_61 (by decide) ?_
  refine va_put (D := (dC, dI)) (ci := 5) (v := .int (-1)) (ty := tyX5 12) (C := RX5) (T := TX5) (N := 13) hx hb htb inX5 tyX5 tyX5_ok nmX5 hown hK hP hD hS 5 rfl rfl 12 (by decide) (htb _ kw_130) (fun _ h9 => h9) rfl (tyX5_ok 12 (by decide)) rfl rfl (Nat.le_of_ble_eq_true rfl) dX5_init_62 (fun H locs hP hD hS => ?_)
  have hP : va_P (dC, dI) vwCl ((q_9, .inl (cid 26, 3, .inl (fun _ => 0))) :: (q_7, .inl (cid 25, 960, .inl (fun _ => 0))) :: (q_5, .inl (cid 24, 80, .inr (.inr (.inr (.inr (fun _ => none)))))) :: (q_3, .inl (cid 23, 60, .inl (fun _ => 0))) :: (q_1, .inl (cid 22, 60, .inl (fun _ => 0))) :: (h0, .inr (5, [.ref p1, .ref p2, .ref p3, .ref q_1, .ref q_3, .int 0, .ref q_5, .int 0, .ref q_7, .ref q_9, .null, .int 0, .int (-1)])) :: []) H := hP
  have hD : va_D A ((q_9, .inl (cid 26, 3, .inl (fun _ => 0))) :: (q_7, .inl (cid 25, 960, .inl (fun _ => 0))) :: (q_5, .inl (cid 24, 80, .inr (.inr (.inr (.inr (fun _ => none)))))) :: (q_3, .inl (cid 23, 60, .inl (fun _ => 0))) :: (q_1, .inl (cid 22, 60, .inl (fun _ => 0))) :: (h0, .inr (5, [.ref p1, .ref p2, .ref p3, .ref q_1, .ref q_3, .int 0, .ref q_5, .int 0, .ref q_7, .ref q_9, .null, .int 0, .int (-1)])) :: []) := hD
  rw [eQ]
  exact W.vret hx hb hr (fun t ht hW => ⟨⟨(q_9, .inl (cid 26, 3, .inl (fun _ => 0))) :: (q_7, .inl (cid 25, 960, .inl (fun _ => 0))) :: (q_5, .inl (cid 24, 80, .inr (.inr (.inr (.inr (fun _ => none)))))) :: (q_3, .inl (cid 23, 60, .inl (fun _ => 0))) :: (q_1, .inl (cid 22, 60, .inl (fun _ => 0))) :: (h0, .inr (5, [.ref p1, .ref p2, .ref p3, .ref q_1, .ref q_3, .int 0, .ref q_5, .int 0, .ref q_7, .ref q_9, .null, .int 0, .int (-1)])) :: [], rfl, ⟨_, _, _, _, _, rfl⟩, by rw [ht]; exact hP, va_K.moved hW.alike hK, hD⟩, hS.F ht⟩) hS.2.2 dX5_init_65
end
