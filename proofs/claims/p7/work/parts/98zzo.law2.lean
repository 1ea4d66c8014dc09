theorem dX13_thrown_0 : decode cX13_thrown 0 = .ok (.aload_n 0, 1) := by decide +kernel
theorem dX13_thrown_1 : decode cX13_thrown 1 = .ok (.getfield 252, 3) := by decide +kernel
theorem dX13_thrown_4 : decode cX13_thrown 4 = .ok (.ireturn, 1) := by decide +kernel

set_option maxHeartbeats 4000000 in
set_option maxRecDepth 100000 in
theorem a_thrown (l : Launch) (dC : Nat → ClassId) (dI : Nat → Nat → Nat) (h0 : Nat) (ad : Nat → Nat) (cid : Nat → ClassId) (sg : Nat → Int32) (gm : Nat → Nat → Int32) (lg : Nat → Nat → Int64) (hI : MI sg gm) : MMi l dC dI yX13_thrown wm_X13_thrown ({ frames := 0, cells := 0, slots := 0, locals := 0 }) h0 ad cid [] sg gm lg (fun r v => (r = sg 5) ∧ v = (sg, gm, lg)) := by
  intro sz
  refine Met.ofW (cc := cX13_thrown) (maxL := 1) (ret := (some .int)) (by decide) rfl ?_
  intro p e s m args below meth c s₁ B hml hv
  obtain ⟨rfl, hsz, hP, hK, hD0⟩ := hv
  have hx := B.exec
  have hb := B.bytes
  have hr := B.returns
  have hts := atoms_spec (ws := wm_X13_thrown) B.pre
  have htb := fun (w : Cond) (h : w ∈ tb) => hts w (List.mem_cons_of_mem _ h)
  have hown : s.vm.findClass RX13 = some m.cls := findClass_of_methodNamed B.named
  have hlocks := B.notSynchronized
  subst hsz
  have hD := hD0.self (sz := s.heap.size)
  generalize hAe : va_A (mW h0 ad cid sg gm lg) s.heap.size = A at hD ⊢
  have hA : ∀ q : Nat, s.heap.size ≤ q → A q := fun q h => by rw [← hAe]; exact Or.inr h
  have hS : va_S A s.heap s.heap [] := va_S.rf
  have hl := lv_entry ([.ref h0]) (n := 1) (Nat.le_of_ble_eq_true rfl)
  rw [lg_entry_eq]
  generalize (lg_sl ([.ref h0]) ++ List.replicate (1 - (lg_sl ([.ref h0])).length) Slot.unset).toArray = ls at hl ⊢
  have hl : lv_has ls 1 [(0, .ref h0)] := hl
  refine lv_aload_n hx hb dX13_thrown_0 rfl (lv_at hl 0 rfl) ?_
  refine mr_get (v := .int (sg 5)) hx hb htb inX13 hown hK hP 5 (by decide) (htb _ kw_239) rfl dX13_thrown_1 ?_
  exact W.iret (v := (sg 5)) hx hb hr (fun t ht hW => ⟨⟨(sg 5), (sg, gm, lg), rfl, ⟨(rfl), rfl⟩, by rw [ht]; exact hP, va_K.moved hW.alike hK, hD⟩, hS.F ht⟩) hS.2.2 dX13_thrown_4

section LW2
variable {p : Program} {l : Launch} {e : Env} {R : Room} {s : State} {m : MethodId} {args : Array Value} {below : List Frame} {meth : Method} {c : Code} {H : Heap} {locs : List Loc} {Q : State → Prop} {cc : ByteArray} {pc : Nat} {ls : Array Slot} {rest : List Value} {A : Nat → Prop}
variable {dC : Nat → ClassId} {dI : Nat → Nat → Nat} {ad : Nat → Nat → Nat} {cid : Nat → ClassId} {a2 : Nat → Nat} {lx : List Nat} {sg : Nat → Int32} {gm : Nat → Nat → Int32} {lg : Nat → Nat → Int64} {Ts : List Cond} {own : String} {index : Nat}
variable {y : MethodName} {ws : List Cond} {rm : Room} {bytes : ByteArray} {maxL n nL : Nat} {ret : Option FieldType} {as : List Value} {st0 : List Value} {cells slots k mc ms : Nat} {w r : va_W} {tw tr : List (ClassId × FieldType)} {h0 : Nat} {adm : Nat → Nat} {cidm : Nat → ClassId} {cO : ClassId} {qo : Nat} {f : Nat → Int64}
/-- a call of the reference, in a world that holds more -/
theorem lw_callM {post : Int32 → MSt → Prop} (S : CallFix p m c cc nL s args Ts own) (hM : MMi l dC dI y ws rm h0 adm cidm as sg gm lg post) (cw : CallW R s args own RX13 index y bytes maxL ret ws rm 0 0 n) (hn : as.length = n) (hsize : ls.size = nL) (hst : st0 = as.reverse ++ .ref h0 :: rest) (hW : (rest.map fun v => v.category).sum ≤ 8) (hdg : decode cc pc = .ok (.invokevirtual index, 3)) (hf : cells ≤ R.cells ∧ slots ≤ R.slots)
    (hK : va_K (dC, dI) vwCl (tw ++ (mT cidm ++ tr)) s) (hP : va_P (dC, dI) vwCl (w ++ (mW h0 adm cidm sg gm lg ++ r)) H) (hD : va_D A (w ++ (mW h0 adm cidm sg gm lg ++ r))) (hS : va_S A s.heap H locs) (hA : ∀ q, s.heap.size ≤ q → A q)
    (kk : ∀ (r9 : Int32) (u1 : MSt) (H1 : Heap) (locs1 : List Loc), post r9 u1 → va_P (dC, dI) vwCl (w ++ (mW h0 adm cidm u1.1 u1.2.1 u1.2.2 ++ r)) H1 → va_D A (w ++ (mW h0 adm cidm u1.1 u1.2.1 u1.2.2 ++ r)) → va_S A s.heap H1 locs1 → W p l e R s m args below meth c H1 locs1 cells slots Q (F0 m (pc + 3) ls (.int r9 :: rest))) : W p l e R s m args below meth c H locs cells slots Q (F0 m pc ls st0) := by
  subst hst
  have hP2 := vaP_p (List.perm_append_comm_assoc w (mW h0 adm cidm sg gm lg) r) hP
  have hD2 := vaD_p (List.perm_append_comm_assoc w (mW h0 adm cidm sg gm lg) r) hD
  have hPm : va_P (dC, dI) vwCl (mW h0 adm cidm sg gm lg) H := va_Psl hP2 (List.sublist_append_left _ _)
  have hDm : va_D A (mW h0 adm cidm sg gm lg) := va_Dsl hD2 (List.sublist_append_left _ _)
  have hKm : va_K (dC, dI) vwCl (mT cidm) s := vaK_l (vaK_r hK)
  have hFc := mfree hDm hS hA
  refine va_calli (va_runV (As := as) (rest := rest) S (hM H.size) cw ⟨MPre_blind, va_recv hKm hPm (ci := 12) (q0 := 0) rfl rfl, fun U hU hW => ⟨rfl, by rw [hU], by rw [hU]; exact hPm, va_K.moved hW.alike hKm, hDm.weaken (fun _ _ _ _ => trivial)⟩⟩ rfl hn hsize rfl (lv_room hW) hdg hf) hS (fun q _ h => hFc q h) hFc (fun r9 u1 t H1 locs ht hvm hw hB hz1 hk1 hS => ?_)
  obtain ⟨hP1, hK1, hD1⟩ := hB
  rw [ht] at hP1
  obtain ⟨j1, j2⟩ := lw_join hP2 hD2 hk1 hFc hP1 hD1
  exact kk r9 u1 H1 locs hw (vaP_p (List.perm_append_comm_assoc _ w r) j1) (vaD_p (List.perm_append_comm_assoc _ w r) j2) hS
theorem HPre_blind {sz : Nat} : FrameBlind (va_Pc as (HPre dC dI ad cid cO qo a2 lx sg gm lg f sz)) := fun a U g mk q => by
  obtain ⟨q0, q1, qP, qK, qD, qG, qN⟩ := q
  exact ⟨q0, q1, qP, va_K.moved (u := U) (U := U.calling g mk a) (Vm.Alike.refl U.vm) qK, qD, CE.call g mk a qG, NE.moved (u := U) (U := U.calling g mk a) (Vm.Alike.refl U.vm) qN⟩
/-- a call of one of the law's helpers -/
theorem lw_callH {hh : List (Nat × Nat × Nat × Nat)} {post : Int32 → CSg → (Nat → Int64) → Prop} {wm : va_W} {tm : List (ClassId × FieldType)} (S : CallFix p m c cc nL s args Ts own) (hM : HM dC dI ad cid cO qo l y ws rm as a2 lx sg gm lg f k mc ms post) (cw : vx_CSW R s args own index y bytes maxL ret hh ws rm mc ms n) (hn : as.length = n) (hsize : ls.size = nL) (hst : st0 = as.reverse ++ rest) (hW : (rest.map fun v => v.category).sum ≤ 8) (hdg : decode cc pc = .ok (.invokestatic index, 3)) (hf : cells + mc ≤ R.cells ∧ slots + ms ≤ R.slots)
    (hK : va_K (dC, dI) vwCl (cT cid ++ (tm ++ [(cO, .long)])) s) (hP : va_P (dC, dI) vwCl (cW ad cid a2 lx sg gm lg ++ (wm ++ [(qo, oE cO f)])) H) (hD : va_D A (cW ad cid a2 lx sg gm lg ++ (wm ++ [(qo, oE cO f)]))) (hS : va_S A s.heap H locs) (hA : ∀ q, s.heap.size ≤ q → A q) (hG : CE ad A s) (hN9 : NE s)
    (kk : ∀ (r9 : Int32) (u : CSg) (f2 : Nat → Int64) (H1 : Heap) (locs1 : List Loc), post r9 u f2 → PHs gm ≤ PHs u.2.2.2.1 → va_P (dC, dI) vwCl (CSg.w ad cid u ++ (wm ++ [(qo, oE cO f2)])) H1 → va_D A (CSg.w ad cid u ++ (wm ++ [(qo, oE cO f2)])) → va_S A s.heap H1 locs1 → W p l e R s m args below meth c H1 locs1 (cells + gc gm u.2.2.2.1 k) (slots + gs gm u.2.2.2.1 k) Q (F0 m (pc + 3) ls (.int r9 :: rest))) : W p l e R s m args below meth c H locs cells slots Q (F0 m pc ls st0) := by
  subst hst
  have pm : ∀ (x : va_W) (g : Nat → Int64), (x ++ (wm ++ [(qo, oE cO g)])).Perm ((x ++ [(qo, oE cO g)]) ++ wm) := fun x g => by
    rw [List.append_assoc]; exact List.Perm.append_left x List.perm_append_comm
  have hP2 := vaP_p (pm _ f) hP
  have hD2 := vaD_p (pm _ f) hD
  have hPc : va_P (dC, dI) vwCl (cW ad cid a2 lx sg gm lg ++ [(qo, oE cO f)]) H := va_Psl hP2 (List.sublist_append_left _ _)
  have hDc : va_D A (cW ad cid a2 lx sg gm lg ++ [(qo, oE cO f)]) := va_Dsl hD2 (List.sublist_append_left _ _)
  have hKc : va_K (dC, dI) vwCl (cT cid ++ [(cO, .long)]) s := vaK_j (vaK_l hK) (vaK_r (vaK_r hK))
  have hFc : ∀ q, va_A (cW ad cid a2 lx sg gm lg ++ [(qo, oE cO f)]) H.size q → A q := fun q h => by
    rcases h with ⟨k, e, h⟩ | h
    · exact hDc.2 k (q, e) h
    · exact hA q (Nat.le_trans hS.1 h)
  have hr := vx_runSX (e := e) (below := below) (meth := meth) (locs := locs) (cells := cells) (slots := slots) (As := as) (rest := rest) S (hM H.size) cw ⟨HPre_blind, fun U hU hW => ⟨rfl, by rw [hU], by rw [hU]; exact hPc, va_K.moved hW.alike hKc, hDc.weaken (fun _ _ _ _ => trivial), hG.go hS hFc hU hW, NE.moved hW.alike hN9⟩⟩ (g := F0 m pc ls (as.reverse ++ rest)) rfl hn hsize rfl (lv_room hW) hdg hf
  refine W.nb (fun hN => ?_)
  intro T hT X
  rcases hr T hT X with ⟨v, st₀, t, T', L, h0, X', hL, e1, e2, ⟨⟨r9, u, f2, hv, hp, hb, hm, hN1⟩, hF⟩, st⟩ | ⟨q, st₀, t, T', L, E, ce, h0, X', hL, e1, e2, hx9, hce, hcv, hcl, st⟩
  · cases hv
    obtain ⟨k1, k2, k3⟩ := vx_keep h0 e1 hS (fun q _ h => hFc q h) hFc hL hF
    obtain ⟨b1, b2, b3⟩ := hb
    rw [h0, ← e1] at hN1
    obtain ⟨j1, j2⟩ := lw_join hP2 hD2 k2 hFc (by rw [e1]; exact b1) b3
    obtain ⟨t2, a1, c1⟩ := W.narrow (NBw_tr hN hN1) (kk r9 u f2 T'.heap (locs ++ L) hp hm (vaP_p (pm _ f2).symm j1) (vaD_p (pm _ f2).symm j2) k3) T' rfl X'
    exact ⟨t2, st t2 a1, c1⟩
  · exact hx9.elim
end LW2
