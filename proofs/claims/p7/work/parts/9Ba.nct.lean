/-- an array's cell tells its values below its length alone -/
theorem arr_q {cA : ClassId} {n : Nat} {f g : Nat → Option Nat} (h : ∀ j, j < n → f j = g j) : vp_cell cA (n, .inr (.inr (.inr (.inr f)))) = vp_cell cA (n, .inr (.inr (.inr (.inr g)))) := by
  rw [vp_cell_q, vp_cell_q]
  unfold arrV
  congr 1
  apply Array.ext_getElem?
  intro j
  simp only [Array.getElem?_ofFn]
  by_cases hj : j < n
  · simp [hj, h j hj]
  · simp [hj]
theorem arr_i {cA : ClassId} {n : Nat} {f g : Nat → Int32} (h : ∀ j, j < n → f j = g j) : vp_cell cA (n, .inl f) = vp_cell cA (n, .inl g) := by
  rw [vp_cell_i, vp_cell_i]
  unfold arrV
  congr 1
  apply Array.ext_getElem?
  intro j
  simp only [Array.getElem?_ofFn]
  by_cases hj : j < n
  · simp [hj, h j hj]
  · simp [hj]
section NC
variable (dC : Nat → ClassId) (dI : Nat → Nat → Nat) (ad : Nat → Nat → Nat) (cid : Nat → ClassId)
def NPre (pre : va_W) (sz : Nat) (U : State) : Prop := U.heap.size = sz ∧ va_P (dC, dI) vwCl pre U.heap ∧ va_K (dC, dI) vwCl (cT cid) U ∧ va_D (fun _ => True) pre ∧ CE ad (va_A pre sz) U
def NB9 (A : Nat → Prop) (w : va_W) (t : State) : Prop := va_P (dC, dI) vwCl w t.heap ∧ va_K (dC, dI) vwCl (cT cid) t ∧ va_D A w
/-- a constructor: from the cells pre to cells with post -/
def NM (l : Launch) (y : MethodName) (ws : List Cond) (rm : Room) (as : List Value) (pre : va_W) (post : va_W → Prop) (mc ms : Nat) : Prop :=
  ∀ sz, Met l y ws rm (va_Pc as (NPre dC dI ad cid pre sz)) (va_Qv post (NB9 dC dI cid (va_A pre sz)) (va_A pre sz)) mc ms (va_A pre sz)
end NC
section NC2
variable {p : Program} {l : Launch} {e : Env} {R : Room} {s : State} {m : MethodId} {args : Array Value} {below : List Frame} {meth : Method} {c : Code} {H : Heap} {locs : List Loc} {Q : State → Prop} {cc : ByteArray} {pc : Nat} {ls : Array Slot} {rest : List Value} {A : Nat → Prop}
variable {dC : Nat → ClassId} {dI : Nat → Nat → Nat} {ad : Nat → Nat → Nat} {cid : Nat → ClassId} {Ts : List Cond} {own : String} {index : Nat}
variable {y : MethodName} {ws : List Cond} {rm : Room} {bytes : ByteArray} {maxL n nL : Nat} {as : List Value} {st0 : List Value} {cells slots mc ms h : Nat} {w0 r : va_W} {post : va_W → Prop}
theorem NPre_blind {sz : Nat} {pre : va_W} : FrameBlind (va_Pc as (NPre dC dI ad cid pre sz)) := fun a U g mk q => by
  obtain ⟨q0, q1, qP, qK, qD, qG⟩ := q
  exact ⟨q0, q1, qP, va_K.moved (u := U) (U := U.calling g mk a) (Vm.Alike.refl U.vm) qK, qD, CE.call g mk a qG⟩
theorem nw_call (S : CallFix p m c cc nL s args Ts own) (hM : NM dC dI ad cid l y ws rm (.ref h :: as) w0 post mc ms) (cw : CallB R s args own index y bytes maxL none ws rm mc ms n ∧ y.name = "<init>" ∧ (Cond.instanceMethod y).before args s = true) (hn : as.length = n) (hsize : ls.size = nL) (hst : st0 = as.reverse ++ .ref h :: rest) (hW : (rest.map fun v => v.category).sum ≤ 8) (hdg : decode cc pc = .ok (.invokespecial index, 3)) (hf : cells + mc ≤ R.cells ∧ slots + ms ≤ R.slots)
    (hK : va_K (dC, dI) vwCl (cT cid) s) (hP : va_P (dC, dI) vwCl (w0 ++ r) H) (hD : va_D A (w0 ++ r)) (hS : va_S A s.heap H locs) (hA : ∀ q, s.heap.size ≤ q → A q) (hG : CE ad A s)
    (kk : ∀ (w : va_W) (H1 : Heap) (locs1 : List Loc), post w → va_P (dC, dI) vwCl (w ++ r) H1 → va_D A (w ++ r) → va_S A s.heap H1 locs1 → W p l e R s m args below meth c H1 locs1 (cells + mc) (slots + ms) Q (F0 m (pc + 3) ls rest)) : W p l e R s m args below meth c H locs cells slots Q (F0 m pc ls st0) := by
  subst hst
  have hPc : va_P (dC, dI) vwCl w0 H := va_Psl hP (List.sublist_append_left _ _)
  have hDc : va_D A w0 := va_Dsl hD (List.sublist_append_left _ _)
  have hFc : ∀ q, va_A w0 H.size q → A q := fun q h => by
    rcases h with ⟨k, e, h⟩ | h
    · exact hDc.2 k (q, e) h
    · exact hA q (Nat.le_trans hS.1 h)
  refine va_callv (va_runI (As := as) (rest := rest) S (hM H.size) cw ⟨NPre_blind, fun U hU hW => ⟨rfl, by rw [hU], by rw [hU]; exact hPc, va_K.moved hW.alike hK, hDc.weaken (fun _ _ _ _ => trivial), hG.go hS hFc hU hW⟩⟩ rfl hn hsize rfl (lv_room hW) hdg hf) hS (fun q _ h => hFc q h) hFc (fun w t H1 locs ht hvm hw hB hz1 hk1 hS => ?_)
  obtain ⟨hP1, hK1, hD1⟩ := hB
  rw [ht] at hP1
  obtain ⟨j1, j2⟩ := lw_join hP hD hk1 hFc hP1 hD1
  exact kk w H1 locs hw j1 j2 hS
/-- a new entry comes to the front -/
theorem fr_P {D : va_G} {cl : List vw_C} {w : va_W} {x : Nat × va_E} (h : va_P D cl (w ++ [x]) H) : va_P D cl (x :: w) H := vaP_p (List.perm_append_singleton x w) h
theorem fr_D {w : va_W} {x : Nat × va_E} (h : va_D A (w ++ [x])) : va_D A (x :: w) := vaD_p (List.perm_append_singleton x w) h
/-- a new array's class is the one that the tables know -/
theorem ty_eq {t : Nat} {cA : ClassId} {ty : FieldType} (ht : t < 33) (hK : va_K (dC, dI) vwCl (cT cid) s) (hK2 : va_K (dC, dI) vwCl (cT cid ++ [(cA, ty)]) s) (he : cTy t = ty) : cA = cid t := by
  have r1 := (hK2.2 33 (cA, ty) (by rw [List.getElem?_append_right (by rw [cT_len]; decide), cT_len]; rfl)).2
  have r2 := (hK.2 t (cid t, cTy t) (cT_at ht)).2
  rw [he] at r2
  cases ty with
  | object C => exact Option.some.inj ((va_nmO r1 rfl).symm.trans (va_nmO r2 rfl))
  | _ => exact Option.some.inj (Eq.trans (Eq.symm r1) r2)
end NC2
