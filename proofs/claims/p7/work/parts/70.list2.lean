theorem ky57 : ∀ t, t < 12 → ∀ j, j < cNf t → cKy t j ≠ 57 := by decide
theorem ay57 : ∀ t, t < 32 → cAy t ≠ 57 := by decide
section LSW
variable {p : Program} {l : Launch} {e : Env} {R : Room} {s : State} {m : MethodId} {args : Array Value} {below : List Frame} {meth : Method} {c : Code} {H : Heap} {locs : List Loc} {cells slots : Nat} {Q : State → Prop} {cc : ByteArray} {pc : Nat} {ls : Array Slot} {rest : List Value} {A : Nat → Prop} {H0 : Heap}
variable {dC : Nat → ClassId} {dI : Nat → Nat → Nat} {ad : Nat → Nat → Nat} {cid : Nat → ClassId} {a2 : Nat → Nat} {lx : List Nat} {sg : Nat → Int32} {gm : Nat → Nat → Int32} {lg : Nat → Nat → Int64} {own : String} {index : Nat}
theorem cE_57 {t i : Nat} {g : Nat → Int32} (ht : t < 32) : cE ad cid a2 sg (va_up gm 57 g) lg t i = cE ad cid a2 sg gm lg t i := by
  have hy : ∀ k, k ≠ 57 → va_up gm 57 g k = gm k := fun k hk => va_up_ne gm g hk
  by_cases h12 : t < 12
  · refine cE_eq (fun j hj => ?_) (fun h => absurd h12 (by omega)) (fun h => absurd h12 (by omega)) (fun h => absurd h12 (by omega))
    unfold cV
    rw [hy _ (ky57 t h12 j hj), hy 42 (by decide)]
  · refine cE_eq (fun j hj => ?_) (fun _ _ j => ?_) (fun _ _ => rfl) (fun _ j => ?_)
    · have h0 : cNf t = 0 := by
        have : ∀ t, t < 32 → ¬ t < 12 → cNf t = 0 := by decide
        exact this t ht h12
      omega
    · unfold cAi; rw [hy _ (ay57 t ht)]
    · unfold cAr; rw [hy _ (ay57 t ht)]
theorem cDr_ne {q q2 n : Nat} {z : Int32} (hq : q2 ≠ q) (hn : n < 128) : cD ad cid (va_up gm 57 (upd (gm 57) (128 * q + n) z)) q2 = cD ad cid gm q2 := by
  unfold cD
  rw [va_up_ne gm _ (show (42 : Nat) ≠ 57 by decide)]
  have : cDr ad (va_up gm 57 (upd (gm 57) (128 * q + n) z)) q2 = cDr ad gm q2 := funext fun j => by
    unfold cDr
    by_cases hj : j < 128
    · rw [if_pos hj, if_pos hj, show va_up gm 57 (upd (gm 57) (128 * q + n) z) 57 = upd (gm 57) (128 * q + n) z from up_at rfl, upd_ne (by omega)]
    · rw [if_neg hj, if_neg hj]
  rw [this]
theorem cDr_at {q n : Nat} {z : Int32} (hn : n < 128) : cDr ad (va_up gm 57 (upd (gm 57) (128 * q + n) z)) q = va_up (cDr ad gm q) n (er (ad 9) z) := funext fun j => by
  by_cases e9 : j = n
  · subst e9
    rw [show va_up (cDr ad gm q) j (er (ad 9) z) j = er (ad 9) z from up_at rfl]
    unfold cDr
    rw [if_pos hn, show va_up gm 57 (upd (gm 57) (128 * q + j) z) 57 = upd (gm 57) (128 * q + j) z from up_at rfl, upd_at]
  · rw [va_up_ne _ _ e9]
    unfold cDr
    by_cases hj : j < 128
    · rw [if_pos hj, if_pos hj, show va_up gm 57 (upd (gm 57) (128 * q + n) z) 57 = upd (gm 57) (128 * q + n) z from up_at rfl, upd_ne (by omega)]
    · rw [if_neg hj, if_neg hj]
theorem cW_lat {i q : Nat} (hi : lx[i]? = some q) : (cW ad cid a2 lx sg gm lg)[(cFx ad cid a2 sg gm lg).length + i]? = some (a2 q, cD ad cid gm q) := by
  unfold cW
  rw [List.getElem?_append_right (Nat.le_add_right _ _), Nat.add_sub_cancel_left, List.getElem?_map, hi]
  rfl
theorem cFx_57 {g : Nat → Int32} : cFx ad cid a2 sg (va_up gm 57 g) lg = cFx ad cid a2 sg gm lg := by
  unfold cFx
  generalize hL : cPL = L
  refine List.map_congr_left (fun x hx => ?_)
  obtain ⟨k, hk⟩ := List.getElem?_of_mem hx
  rw [← hL] at hk
  rw [cE_57 (cPL_in hk).1]
theorem cW_dist {i j q : Nat} (hD : va_D A (cW ad cid a2 lx sg gm lg)) (hi : lx[i]? = some q) (hj : lx[j]? = some q) : j = i := by
  have h := hD.1 _ _ _ _ (cW_lat (ad := ad) (cid := cid) (a2 := a2) (sg := sg) (gm := gm) (lg := lg) hj) (cW_lat (ad := ad) (cid := cid) (a2 := a2) (sg := sg) (gm := gm) (lg := lg) hi) rfl
  generalize (cFx ad cid a2 sg gm lg).length = N at h
  omega
theorem cD_at {q n : Nat} {z : Int32} (hn : n < 128) : cD ad cid (va_up gm 57 (upd (gm 57) (128 * q + n) z)) q = .inl (cid 32, (gm 42 q).toNatClampNeg, .inr (.inr (.inr (.inr (va_up (cDr ad gm q) n (er (ad 9) z)))))) := by
  unfold cD
  rw [cDr_at hn, va_up_ne gm _ (show (42 : Nat) ≠ 57 by decide)]
theorem map_set {α β : Type} {f g : α → β} {x : α} : ∀ (L : List α) (i : Nat), L[i]? = some x → (∀ j y, L[j]? = some y → j ≠ i → f y = g y) → (L.map f).set i (g x) = L.map g
  | [], i, h, _ => by cases h
  | y :: L, 0, h, hne => by
    have e1 : y = x := Option.some.inj h
    subst e1
    show g y :: L.map f = g y :: L.map g
    rw [List.map_congr_left (fun b hb => by
      obtain ⟨k, hk⟩ := List.getElem?_of_mem hb
      exact hne (k + 1) b hk (Nat.succ_ne_zero k))]
  | y :: L, i + 1, h, hne => by
    show f y :: (L.map f).set i (g x) = g y :: L.map g
    rw [map_set L i h (fun j b hb hj => hne (j + 1) b hb (fun e9 => hj (Nat.succ.inj e9))), hne 0 y rfl (Ne.symm (Nat.succ_ne_zero i))]
theorem cl_set {F : va_W} {i q n : Nat} {z : Int32} (hd : ∀ j, lx[j]? = some q → j = i) (hi : lx[i]? = some q) (hn : n < 128) :
    (F ++ lx.map (fun q => (a2 q, cD ad cid gm q))).set (F.length + i) (a2 q, .inl (cid 32, (gm 42 q).toNatClampNeg, .inr (.inr (.inr (.inr (va_up (cDr ad gm q) n (er (ad 9) z))))))) = F ++ lx.map (fun q2 => (a2 q2, cD ad cid (va_up gm 57 (upd (gm 57) (128 * q + n) z)) q2)) := by
  rw [List.set_append_right _ _ (Nat.le_add_right _ _), Nat.add_sub_cancel_left, ← cD_at hn]
  rw [map_set (f := fun q => (a2 q, cD ad cid gm q)) (g := fun q2 => (a2 q2, cD ad cid (va_up gm 57 (upd (gm 57) (128 * q + n) z)) q2)) lx i hi (fun j y hy hj => by rw [cDr_ne (fun e9 => hj (hd j (by rw [hy, e9]))) hn])]
theorem cW_d {i q n : Nat} {z : Int32} {r : Option Nat} (hD : va_D A (cW ad cid a2 lx sg gm lg)) (hi : lx[i]? = some q) (hn : n < 128) (hr : r = er (ad 9) z) :
    (cW ad cid a2 lx sg gm lg).set ((cFx ad cid a2 sg gm lg).length + i) (a2 q, .inl (cid 32, (gm 42 q).toNatClampNeg, .inr (.inr (.inr (.inr (va_up (cDr ad gm q) n r)))))) = cW ad cid a2 lx sg (va_up gm 57 (upd (gm 57) (128 * q + n) z)) lg := by
  subst hr
  have hd : ∀ j, lx[j]? = some q → j = i := fun j hj => cW_dist hD hi hj
  unfold cW
  rw [cFx_57]
  exact cl_set hd hi hn
theorem va_astO {D : va_G} {cl : List vw_C} {tys : List (ClassId × FieldType)} {ws : va_W} {a : Nat} (hexec : p.tables.exec = Jvm.exec) (hb : c.code = cc) (hK : va_K D cl tys s) (hP : va_P D cl ws H) (hD : va_D A ws) (hS : va_S A H0 H locs) (q0 t0 : Nat) {cA : ClassId} {C : String} {n v : Nat} {f : Nat → Option Nat} (ha : ws[q0]? = some (a, .inl (cA, n, .inr (.inr (.inr (.inr f)))))) (ht : tys[t0]? = some (cA, .object "java/lang/Object"))
    (hr : ∃ cell : Cell, H[v]? = some cell ∧ cell.vm.isStatics = false ∧ s.vm.findClass C = some cell.cls) (hc : va_Nw (.castable C "java/lang/Object") s) {i : Int32} (hin : vp_in i n) (hdg : decode cc pc = .ok (.aastore, 1))
    (kk : ∀ (H1 : Heap) (locs1 : List Loc), va_P D cl (ws.set q0 (a, .inl (cA, n, .inr (.inr (.inr (.inr (va_up f i.toNatClampNeg (some v)))))))) H1 → va_D A (ws.set q0 (a, .inl (cA, n, .inr (.inr (.inr (.inr (va_up f i.toNatClampNeg (some v)))))))) → va_S A H0 H1 locs1 → W p l e R s m args below meth c H1 locs1 cells slots Q (F0 m (pc + 1) ls rest)) : W p l e R s m args below meth c H locs cells slots Q (F0 m pc ls (.ref v :: .int i :: .ref a :: rest)) := by
  have hlt : i.toNatClampNeg < n := Nat.not_le.mp fun q => hin (Or.inr q)
  have h0 : ¬ i < 0 := fun q => hin (Or.inl q)
  obtain ⟨cellV, g1, g2, g3⟩ := hr
  obtain ⟨c0, t9, f1, f2, f3⟩ := Cond.castable_spec (va_Nw.use (A := args) rfl hc)
  cases g3.symm.trans f1
  obtain ⟨kA, comp, k1, k2, k3, -⟩ := (hK.2 t0 _ ht).2
  cases k3.symm.trans f2
  obtain ⟨kC, hkC, -⟩ := Vm.findClass_spec f2
  obtain ⟨kV, hkV, -⟩ := Vm.findClass_spec f1
  refine W.aast hexec hb (hP q0 _ ha) (fun q h => by cases h) (fun h => by cases h) k1 k2 rfl hkC ⟨h0, by show _ < (arrV _ _ _).slots.size; rw [arrV_size]; exact hlt⟩ g1 (fun q h => by rw [h] at g2; cases g2) hkV f3 rfl rfl hdg fun H1 e z oq => ?_
  refine kk H1 _ (hP.set hD ha ?_ oq) (hD.set ha) (hS.put z oq (hD.2 q0 _ ha))
  show H1[a]? = some (vp_cell _ _)
  rw [e]
  rw [vp_cell_q, vp_cell_q, arrV_store]
  congr 2
  funext q
  by_cases hq : q = i.toNatClampNeg
  · subst hq
    simp [updV, va_up, va_rf]
  · simp [updV, va_up, hq]
/-- an element is written into a list's cells -/
theorem cl_aast {q : Nat} {h : Int} {y z : Int32} (hexec : p.tables.exec = Jvm.exec) (hb : c.code = cc) (hG : CE ad A s) (hK : va_K (dC, dI) vwCl (cT cid) s) (hP : va_P (dC, dI) vwCl (cW ad cid a2 lx sg gm lg) H) (hD : va_D A (cW ad cid a2 lx sg gm lg)) (hS : va_S A H0 H locs) (hl : q ∈ lx) (hc : ¬ (gm 42 q).toInt = 0) (hin : vp_in y (gm 42 q).toNatClampNeg) (h8 : y.toNatClampNeg < 128) (hz : iv 0 h z) (hn : h < (cNum 9 : Int)) (hdg : decode cc pc = .ok (.aastore, 1))
    (kk : ∀ (gm1 : Nat → Nat → Int32) (H1 : Heap) (locs1 : List Loc), gm1 = va_up gm 57 (upd (gm 57) (128 * q + y.toNatClampNeg) z) → va_P (dC, dI) vwCl (cW ad cid a2 lx sg gm1 lg) H1 → va_D A (cW ad cid a2 lx sg gm1 lg) → va_S A H0 H1 locs1 → W p l e R s m args below meth c H1 locs1 cells slots Q (F0 m (pc + 1) ls rest)) : W p l e R s m args below meth c H locs cells slots Q (F0 m pc ls (eV (ad 9) z :: .int y :: dV ad a2 gm q :: rest)) := by
  rw [dV_n hc, eV_ref hz.1]
  obtain ⟨i, hi⟩ := List.getElem?_of_mem hl
  refine va_astO (D := (dC, dI)) (C := RX3) hexec hb hK hP hD hS _ 32 (cW_lat hi) (by rw [cT_at (by decide)]; rfl) (cm_recv (C := RX3) (T := TX3) (N := 21) hK hP hz hn (by decide) rfl) hG.2.1.2.2.1.1 hin hdg (fun H1 locs1 g1 g2 g3 => kk _ H1 locs1 rfl ?_ ?_ g3)
  · rw [cW_d hD hi h8 (er_some hz.1).symm] at g1; exact g1
  · rw [cW_d hD hi h8 (er_some hz.1).symm] at g2; exact g2
/-- a place of a list's cells is emptied -/
theorem cl_aastN {q : Nat} {y : Int32} {a9 : Nat → Nat} (hexec : p.tables.exec = Jvm.exec) (hb : c.code = cc) (hK : va_K (dC, dI) vwCl (cT cid) s) (hP : va_P (dC, dI) vwCl (cW ad cid a2 lx sg gm lg) H) (hD : va_D A (cW ad cid a2 lx sg gm lg)) (hS : va_S A H0 H locs) (hl : q ∈ lx) (hc : ¬ (gm 42 q).toInt = 0) (hin : vp_in y (gm 42 q).toNatClampNeg) (h8 : y.toNatClampNeg < 128) (hdg : decode cc pc = .ok (.aastore, 1))
    (kk : ∀ (gm1 : Nat → Nat → Int32) (H1 : Heap) (locs1 : List Loc), gm1 = va_up gm 57 (upd (gm 57) (128 * q + y.toNatClampNeg) (-1)) → va_P (dC, dI) vwCl (cW ad cid a2 lx sg gm1 lg) H1 → va_D A (cW ad cid a2 lx sg gm1 lg) → va_S A H0 H1 locs1 → W p l e R s m args below meth c H1 locs1 cells slots Q (F0 m (pc + 1) ls rest)) : W p l e R s m args below meth c H locs cells slots Q (F0 m pc ls (eV a9 (-1) :: .int y :: dV ad a2 gm q :: rest)) := by
  rw [dV_n hc, eV_null (by decide)]
  obtain ⟨i, hi⟩ := List.getElem?_of_mem hl
  refine va_astqN (D := (dC, dI)) (C := "java/lang/Object") hexec hb hK hP hD hS _ 32 (cW_lat hi) (by rw [cT_at (by decide)]; rfl) hin hdg (fun H1 locs1 g1 g2 g3 => kk _ H1 locs1 rfl ?_ ?_ g3)
  · rw [cW_d hD hi h8 (er_none (a := ad 9) (x := -1) (by decide)).symm] at g1; exact g1
  · rw [cW_d hD hi h8 (er_none (a := ad 9) (x := -1) (by decide)).symm] at g2; exact g2
end LSW
