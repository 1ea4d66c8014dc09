section CT2
variable {p : Program} {l : Launch} {e : Env} {R : Room} {s : State} {m : MethodId} {args : Array Value} {below : List Frame} {meth : Method} {c : Code} {H : Heap} {locs : List Loc} {cells slots : Nat} {Q : State → Prop} {pc : Nat} {ls : Array Slot} {rest : List Value}
theorem mc_goHit {own name E : String} {ce : Cell} {q : Addr} {S : State} (hpl : e.platform.magicAccessors = ({} : Platform).magicAccessors) (hW : s.WarmedH S.vm) (hown : s.vm.findClass own = some m.cls) (x : ExceptionTableEntry) (suf : List ExceptionTableEntry) (hx : covers x pc = true) (h0 : x.catchType ≠ 0) (hlink : (Cond.classLink own x.catchType name).before args s = true) (hcast : (Cond.castable E name).before args s = true) (hcT2 : S.heap[q]? = some ce) (hv : ce.vm = .none) (hcl : s.vm.findClass E = some ce.cls) :
    ∃ cT : ClassId, s.WarmedH (S.vm.noted m.cls x.catchType (.cls cT)) ∧ ∀ (Q : Handler → Pre) (E : CtlPost) (d : Bool) (acts : List Action), wp (findHandler.go (F0 m pc ls rest) q (x :: suf)) Q E e d acts S ↔ Q (.found x.handlerPc) d acts (S.setVm (S.vm.noted m.cls x.catchType (.cls cT))) := by
  obtain ⟨c3, cT, hc3, hcT, hasg⟩ := Cond.castable_spec hcast
  cases Option.some.inj (hc3.symm.trans hcl)
  obtain ⟨c5, hc5, hln⟩ := Cond.classLink_spec hown hlink e.platform hpl
  cases Option.some.inj (hcT.symm.trans hc5)
  obtain ⟨dk, _, _, kt, hd, _, _, _, _, hkt, _, hopen⟩ := hln.here
  have hlT := hW.classLinks hln
  have hal := hW.alike
  obtain ⟨k9, h9, -⟩ := Vm.findClass_spec hcl
  obtain ⟨kc, hkc, -⟩ := hal.2.2 _ _ h9
  obtain ⟨kt2, hkt2, -⟩ := hal.2.2 _ _ hkt
  have hfit : S.vm.assignable ce.cls cT = true := by rw [hal.assignable]; exact hasg
  have hst : ∀ k, ce.vm ≠ .statics k := VmData.ne_statics_of (by rw [hv]; rfl)
  have hal2 : S.vm.Alike (S.vm.noted m.cls x.catchType (.cls cT)) := (Vm.Alike.refl S.vm).noted _ _ _
  obtain ⟨kc3, hkc3, -⟩ := hal2.2.2 _ _ hkc
  obtain ⟨kt3, hkt3, -⟩ := hal2.2.2 _ _ hkt2
  have hfit3 : (S.vm.noted m.cls x.catchType (.cls cT)).assignable ce.cls cT = true := by rw [hal2.assignable]; exact hfit
  obtain ⟨ha, ht⟩ := (resolveClass_links e.toSetting hlT).op (op := VmOp.resolveClass m.cls x.catchType) rfl
  refine ⟨cT, hW.noted hd hopen (State.rightAt_cls hln), fun Q E d acts => ?_⟩
  simp only [covers] at hx
  simp [findHandler.go, F0, hx, h0, ha, ht, hcT2, hst, hkc3, hkt3, hfit3, VmOp.dirties, VmOp.acts]
theorem mc_goPass {own name E : String} {ce : Cell} {q : Addr} {S : State} (hpl : e.platform.magicAccessors = ({} : Platform).magicAccessors) (hW : s.WarmedH S.vm) (hown : s.vm.findClass own = some m.cls) (x : ExceptionTableEntry) (suf : List ExceptionTableEntry) (hx : covers x pc = true) (h0 : x.catchType ≠ 0) (hlink : (Cond.classLink own x.catchType name).before args s = true) (hcast : va_Nc E name s) (hcT2 : S.heap[q]? = some ce) (hv : ce.vm = .none) (hcl : s.vm.findClass E = some ce.cls) :
    ∃ cT : ClassId, s.WarmedH (S.vm.noted m.cls x.catchType (.cls cT)) ∧ ∀ (Q : Handler → Pre) (E : CtlPost) (d : Bool) (acts : List Action), wp (findHandler.go (F0 m pc ls rest) q (x :: suf)) Q E e d acts S ↔ wp (findHandler.go (F0 m pc ls rest) q suf) Q E e d acts (S.setVm (S.vm.noted m.cls x.catchType (.cls cT))) := by
  obtain ⟨c3, cT, hc3, hcT, hasg⟩ := hcast
  cases Option.some.inj (hc3.symm.trans hcl)
  obtain ⟨c5, hc5, hln⟩ := Cond.classLink_spec hown hlink e.platform hpl
  cases Option.some.inj (hcT.symm.trans hc5)
  obtain ⟨dk, _, _, kt, hd, _, _, _, _, hkt, _, hopen⟩ := hln.here
  have hlT := hW.classLinks hln
  have hal := hW.alike
  obtain ⟨k9, h9, -⟩ := Vm.findClass_spec hcl
  obtain ⟨kc, hkc, -⟩ := hal.2.2 _ _ h9
  obtain ⟨kt2, hkt2, -⟩ := hal.2.2 _ _ hkt
  have hfit : S.vm.assignable ce.cls cT = false := by rw [hal.assignable]; exact hasg
  have hst : ∀ k, ce.vm ≠ .statics k := VmData.ne_statics_of (by rw [hv]; rfl)
  have hal2 : S.vm.Alike (S.vm.noted m.cls x.catchType (.cls cT)) := (Vm.Alike.refl S.vm).noted _ _ _
  obtain ⟨kc3, hkc3, -⟩ := hal2.2.2 _ _ hkc
  obtain ⟨kt3, hkt3, -⟩ := hal2.2.2 _ _ hkt2
  have hfit3 : (S.vm.noted m.cls x.catchType (.cls cT)).assignable ce.cls cT = false := by rw [hal2.assignable]; exact hfit
  obtain ⟨ha, ht⟩ := (resolveClass_links e.toSetting hlT).op (op := VmOp.resolveClass m.cls x.catchType) rfl
  refine ⟨cT, hW.noted hd hopen (State.rightAt_cls hln), fun Q E d acts => ?_⟩
  simp only [covers] at hx
  simp [findHandler.go, F0, hx, h0, ha, ht, hcT2, hst, hkc3, hkt3, hfit3, VmOp.dirties, VmOp.acts]
theorem mc_found {q : Addr} {hp : Nat}
    (hf : ∀ T : State, T.heap = H → Stand p l e R s m args below meth c T locs cells slots → ∀ S : State, S.vm = T.vm → S.heap = T.heap → ∃ vm2 : Vm, s.WarmedH vm2 ∧ ∀ (Q : Handler → Pre) (E : CtlPost) (d : Bool) (acts : List Action), wp (findHandler.go (F0 m pc ls rest) q c.exceptionTable.toList) Q E e d acts S ↔ Q (.found hp) d acts (S.setVm vm2))
    (kk : W p l e R s m args below meth c H locs cells slots Q (F0 m hp ls [.ref q])) : vx_W p l e R s m args below meth c H locs cells slots Q (F0 m pc ls rest) q := by
  intro T hT X
  obtain ⟨S, hSe⟩ : ∃ z, z = (T.setTop (F0 m pc ls rest)).pushFrame (.throwing q) := ⟨_, rfl⟩
  have hSv : S.vm = T.vm := by rw [hSe]; exact Stand.throwing_vm T _ q
  have hSh : S.heap = T.heap := by rw [hSe]; exact Stand.throwing_heap T _ q
  obtain ⟨vm2, hWn, hfind0⟩ := hf T hT X S hSv hSh
  have hm9 : T.vm.method? m = some meth := X.method'
  have hfind : ∀ (Q : Handler → Pre) (E : CtlPost) (d : Bool) (acts : List Action), wp (findHandler (F0 m pc ls rest) q) Q E e d acts S ↔ Q (.found hp) d acts (S.setVm vm2) := by
    intro Q E d acts
    rw [W.findHandler_eq (meth := meth) (code := c) (by rw [hSv]; exact hm9) X.code]
    exact hfind0 Q E d acts
  obtain ⟨t, a1, b1⟩ := kk (T.setVm vm2) hT (X.noted hWn)
  refine ⟨t, ?_, b1⟩
  obtain ⟨hgo, hw⟩ := X.here.throwing (g := F0 m pc ls rest) q
  refine Steps.head hgo hw ?_
  obtain ⟨g0, hg0⟩ := Option.isSome_iff_exists.mp X.here.top
  obtain ⟨r, hr⟩ := State.topJava?_eq_some.mp hg0
  have hstep : (stepThrowing e S q (.java (F0 m pc ls rest) :: r)).1 = (S.setVm vm2).setFrames (.java { (F0 m pc ls rest) with pc := hp, stack := [.ref q] } :: r) := by
    simp only [stepThrowing, searchFrame, vmDo]
    generalize hres : Sem.go _ e false [] S = res
    obtain ⟨as, rfl, ha9⟩ := Sem.eq_ok_of hres (a := Handler.found hp) (s' := S.setVm vm2) (acts' := []) (by simp [hfind _ _ _ _])
    rfl
  rw [stepThread_throwing (frames_entered X.here.top _), hr, List.tail_cons, ← hSe, hstep, hSe]
  have hr2 : (T.setVm vm2).frames = .java g0 :: r := hr
  rw [State.setTop_of_frames _ hr2] at a1
  have hfr : ∀ (u : State) (v : Vm) (F G : List Frame), ((u.setFrames F).setVm v).setFrames G = (u.setVm v).setFrames G := fun u v F G => by
    have h1 : (u.setFrames F).setVm v = (u.setVm v).setFrames F := rfl
    rw [h1, State.setFrames_setFrames]
  rw [State.pushFrame, hfr, State.setTop_of_frames _ hr, hfr]
  exact a1
/-- caught by the second row -/
theorem mc_catch2 {own n1 name E : String} {ce : Cell} {q : Addr} (hown : s.vm.findClass own = some m.cls) (y x : ExceptionTableEntry) (suf : List ExceptionTableEntry) (hsplit : c.exceptionTable.toList = y :: x :: suf) (hy : covers y pc = true) (hx : covers x pc = true) (y0 : y.catchType ≠ 0) (h0 : x.catchType ≠ 0) (hl1 : (Cond.classLink own y.catchType n1).before args s = true) (hlink : (Cond.classLink own x.catchType name).before args s = true) (hn1 : va_Nc E n1 s) (hcast : (Cond.castable E name).before args s = true) (hcell : H[q]? = some ce) (hv : ce.vm = .none) (hcl : s.vm.findClass E = some ce.cls)
    (kk : W p l e R s m args below meth c H locs cells slots Q (F0 m x.handlerPc ls [.ref q])) : vx_W p l e R s m args below meth c H locs cells slots Q (F0 m pc ls rest) q := by
  refine mc_found (hp := x.handlerPc) (fun T hT X S hSv hSh => ?_) kk
  have hpl : e.platform.magicAccessors = ({} : Platform).magicAccessors := by rw [X.admits.platform]
  have hc2 : S.heap[q]? = some ce := by rw [hSh, hT]; exact hcell
  obtain ⟨c1, hW1, f1⟩ := mc_goPass (pc := pc) (ls := ls) (rest := rest) (S := S) hpl (by rw [hSv]; exact X.warmed) hown y (x :: suf) hy y0 hl1 hn1 hc2 hv hcl
  obtain ⟨c2, hW2, f2⟩ := mc_goHit (pc := pc) (ls := ls) (rest := rest) (S := S.setVm (S.vm.noted m.cls y.catchType (.cls c1))) hpl hW1 hown x suf hx h0 hlink hcast hc2 hv hcl
  refine ⟨_, hW2, fun Q E d acts => ?_⟩
  rw [hsplit]
  exact (f1 Q E d acts).trans (f2 Q E d acts)
/-- caught by the third row -/
theorem mc_catch3 {own n1 n2 name E : String} {ce : Cell} {q : Addr} (hown : s.vm.findClass own = some m.cls) (y z x : ExceptionTableEntry) (suf : List ExceptionTableEntry) (hsplit : c.exceptionTable.toList = y :: z :: x :: suf) (hy : covers y pc = true) (hz : covers z pc = true) (hx : covers x pc = true) (y0 : y.catchType ≠ 0) (z0 : z.catchType ≠ 0) (h0 : x.catchType ≠ 0) (hl1 : (Cond.classLink own y.catchType n1).before args s = true) (hl2 : (Cond.classLink own z.catchType n2).before args s = true) (hlink : (Cond.classLink own x.catchType name).before args s = true) (hn1 : va_Nc E n1 s) (hn2 : va_Nc E n2 s) (hcast : (Cond.castable E name).before args s = true) (hcell : H[q]? = some ce) (hv : ce.vm = .none) (hcl : s.vm.findClass E = some ce.cls)
    (kk : W p l e R s m args below meth c H locs cells slots Q (F0 m x.handlerPc ls [.ref q])) : vx_W p l e R s m args below meth c H locs cells slots Q (F0 m pc ls rest) q := by
  refine mc_found (hp := x.handlerPc) (fun T hT X S hSv hSh => ?_) kk
  have hpl : e.platform.magicAccessors = ({} : Platform).magicAccessors := by rw [X.admits.platform]
  have hc2 : S.heap[q]? = some ce := by rw [hSh, hT]; exact hcell
  obtain ⟨c1, hW1, f1⟩ := mc_goPass (pc := pc) (ls := ls) (rest := rest) (S := S) hpl (by rw [hSv]; exact X.warmed) hown y (z :: x :: suf) hy y0 hl1 hn1 hc2 hv hcl
  obtain ⟨c3, hW3, f3⟩ := mc_goPass (pc := pc) (ls := ls) (rest := rest) (S := S.setVm (S.vm.noted m.cls y.catchType (.cls c1))) hpl hW1 hown z (x :: suf) hz z0 hl2 hn2 hc2 hv hcl
  obtain ⟨c2, hW2, f2⟩ := mc_goHit (pc := pc) (ls := ls) (rest := rest) (S := (S.setVm (S.vm.noted m.cls y.catchType (.cls c1))).setVm ((S.setVm (S.vm.noted m.cls y.catchType (.cls c1))).vm.noted m.cls z.catchType (.cls c3))) hpl hW3 hown x suf hx h0 hlink hcast hc2 hv hcl
  refine ⟨_, hW2, fun Q E d acts => ?_⟩
  rw [hsplit]
  exact ((f1 Q E d acts).trans (f3 Q E d acts)).trans (f2 Q E d acts)
end CT2
