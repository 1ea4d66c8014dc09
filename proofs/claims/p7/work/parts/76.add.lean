theorem vd_pw {ws : va_W} : (∀ (i j : Nat) (p q : Nat × va_E), ws[i]? = some p → ws[j]? = some q → p.1 = q.1 → i = j) ↔ ws.Pairwise (fun p q => p.1 ≠ q.1) := by
  rw [List.pairwise_iff_getElem]
  constructor
  · intro h i j hi hj hij e
    exact absurd (h i j _ _ (List.getElem?_eq_getElem hi) (List.getElem?_eq_getElem hj) e) (Nat.ne_of_lt hij)
  · intro h i j p q hi hj e
    obtain ⟨hi', ei⟩ := List.getElem?_eq_some_iff.mp hi
    obtain ⟨hj', ej⟩ := List.getElem?_eq_some_iff.mp hj
    rcases Nat.lt_trichotomy i j with g | g | g
    · exact absurd (by rw [ei, ej]; exact e) (h i j hi' hj' g)
    · exact g
    · exact absurd (by rw [ei, ej]; exact e.symm) (h j i hj' hi' g)
theorem va_Dsl {A : Nat → Prop} {ws ws' : va_W} (hD : va_D A ws) (h : ws'.Sublist ws) : va_D A ws' :=
  ⟨vd_pw.mpr ((vd_pw.mp hD.1).sublist h), fun k q hk => by
    obtain ⟨i, hi⟩ := List.getElem?_of_mem (h.subset (List.mem_of_getElem? hk))
    exact hD.2 i q hi⟩
theorem va_Psl {D : va_G} {cl : List vw_C} {ws ws' : va_W} {H : Heap} (hP : va_P D cl ws H) (h : ws'.Sublist ws) : va_P D cl ws' H := fun k q hk => by
  obtain ⟨i, hi⟩ := List.getElem?_of_mem (h.subset (List.mem_of_getElem? hk))
  exact hP i q hi
/-- a list's cells are exchanged for larger ones -/
def gG (gm : Nat → Nat → Int32) (q : Nat) (n : Int32) : Nat → Nat → Int32 := va_up (va_up gm 42 (upd (gm 42) q n)) 57 (fun i => if 128 * q + (gm 42 q).toNatClampNeg ≤ i ∧ i < 128 * q + 128 then -1 else gm 57 i)
def lG (lx : List Nat) (q : Nat) : List Nat := lx.filter (fun q2 => !(q2 == q)) ++ [q]
theorem gG_42 {gm : Nat → Nat → Int32} {q : Nat} {n : Int32} : gG gm q n 42 = upd (gm 42) q n := by
  unfold gG; rw [va_up_ne _ _ (show (42 : Nat) ≠ 57 by decide)]; exact up_at rfl
theorem gG_57 {gm : Nat → Nat → Int32} {q : Nat} {n : Int32} : gG gm q n 57 = fun i => if 128 * q + (gm 42 q).toNatClampNeg ≤ i ∧ i < 128 * q + 128 then -1 else gm 57 i := up_at rfl
theorem gG_k {gm : Nat → Nat → Int32} {q k : Nat} {n : Int32} (h : k ≠ 42) (h2 : k ≠ 57) : gG gm q n k = gm k := by
  unfold gG; rw [va_up_ne _ _ h2, va_up_ne _ _ h]
theorem gG_lt {gm : Nat → Nat → Int32} {q j : Nat} {n : Int32} (h : j < (gm 42 q).toNatClampNeg) : gG gm q n 57 (128 * q + j) = gm 57 (128 * q + j) := by
  rw [gG_57]; show (if _ then _ else _) = _; rw [if_neg (by omega)]
theorem gG_ne {gm : Nat → Nat → Int32} {q q2 j : Nat} {n : Int32} (h : q2 ≠ q) (hj : j < 128) : gG gm q n 57 (128 * q2 + j) = gm 57 (128 * q2 + j) := by
  rw [gG_57]; show (if _ then _ else _) = _; rw [if_neg (by omega)]
theorem gG_ge {gm : Nat → Nat → Int32} {q j : Nat} {n : Int32} (h : ¬ j < (gm 42 q).toNatClampNeg) (hj : j < 128) : gG gm q n 57 (128 * q + j) = -1 := by
  have h1 : 128 * q + (gm 42 q).toNatClampNeg ≤ 128 * q + j ∧ 128 * q + j < 128 * q + 128 := ⟨by omega, by omega⟩
  rw [gG_57]; exact if_pos h1
theorem ky42 : ∀ t, t < 12 → ∀ j, j < cNf t → cKy t j ≠ 42 := by decide
theorem ay42 : ∀ t, t < 32 → cAy t ≠ 42 := by decide
theorem kd6 : ∀ t, t < 12 → ∀ j, j < cNf t → t = 11 ∧ j = 1 ∨ cKd t j = 0 ∨ cKd t j = 1 ∨ cKd t j = 2 ∨ cKd t j = 3 ∨ cKd t j = 4 ∨ cKd t j = 5 := by decide
section LGR
variable {ad : Nat → Nat → Nat} {cid : Nat → ClassId} {a2 : Nat → Nat} {lx : List Nat} {sg : Nat → Int32} {gm : Nat → Nat → Int32} {lg : Nat → Nat → Int64}
theorem cV_gr {t i j q a : Nat} {n : Int32} (ht : t < 12) (hj : j < cNf t) (hne : ¬ (t = 11 ∧ i = q)) : cV ad (va_up a2 q a) sg (gG gm q n) lg t j i = cV ad a2 sg gm lg t j i := by
  have e1 : gG gm q n (cKy t j) = gm (cKy t j) := gG_k (ky42 t ht j hj) (ky57 t ht j hj)
  rcases kd6 t ht j hj with ⟨h1, h2⟩ | h
  · subst h1; subst h2
    have hi : i ≠ q := fun q9 => hne ⟨rfl, q9⟩
    show Value.ref (if (gG gm q n 42 i).toInt = 0 then ad 34 0 else va_up a2 q a i) = Value.ref (if (gm 42 i).toInt = 0 then ad 34 0 else a2 i)
    rw [gG_42, upd_ne hi, va_up_ne _ _ hi]
  · unfold cV
    rw [e1]
    rcases h with h | h | h | h | h | h <;> simp [h]
theorem cE_gr {t i q a : Nat} {n : Int32} (ht : t < 32) (hne : ¬ (t = 11 ∧ i = q)) : cE ad cid (va_up a2 q a) sg (gG gm q n) lg t i = cE ad cid a2 sg gm lg t i := by
  unfold cE
  by_cases h12 : t < 12
  · rw [if_pos h12, if_pos h12]
    have : cFs ad (va_up a2 q a) sg (gG gm q n) lg t i = cFs ad a2 sg gm lg t i := List.map_congr_left (fun j hj => cV_gr h12 (List.mem_range.mp hj) hne)
    rw [this]
  · rw [if_neg h12, if_neg h12]
    have e0 : gG gm q n (cAy t) = gm (cAy t) := gG_k (ay42 t ht) (ay57 t ht)
    have e1 : cAi (gG gm q n) t i = cAi gm t i := funext fun j => by unfold cAi; rw [e0]
    have e2 : cAr ad (gG gm q n) t i = cAr ad gm t i := funext fun j => by unfold cAr; rw [e0]
    rw [e1, e2]
theorem cD_gr {q q2 : Nat} {n : Int32} (h : q2 ≠ q) : cD ad cid (gG gm q n) q2 = cD ad cid gm q2 := by
  unfold cD
  rw [gG_42, upd_ne h]
  have : cDr ad (gG gm q n) q2 = cDr ad gm q2 := funext fun j => by
    unfold cDr
    by_cases hj : j < 128
    · rw [if_pos hj, if_pos hj, gG_ne h hj]
    · rw [if_neg hj, if_neg hj]
  rw [this]
theorem cDr_gr {q : Nat} {n : Int32} (h : (gm 42 q).toNatClampNeg ≤ 128) : cDr ad (gG gm q n) q = va_cpy (cDr ad gm q) (fun _ => none) 0 0 (gm 42 q).toNatClampNeg := funext fun j => by
  unfold va_cpy
  show cDr ad (gG gm q n) q j = if 0 ≤ j ∧ j < 0 + (gm 42 q).toNatClampNeg then cDr ad gm q (0 + (j - 0)) else none
  by_cases h2 : j < (gm 42 q).toNatClampNeg
  · rw [if_pos ⟨Nat.zero_le _, by omega⟩, show 0 + (j - 0) = j from by omega]
    unfold cDr
    rw [if_pos (by omega), if_pos (by omega), gG_lt h2]
  · rw [if_neg (by omega)]
    unfold cDr
    by_cases hj : j < 128
    · rw [if_pos hj, gG_ge h2 hj]
      exact er_none (by decide)
    · rw [if_neg hj]
/-- the larger cells of a list, not yet in it -/
def nD (ad : Nat → Nat → Nat) (cid : Nat → ClassId) (gm : Nat → Nat → Int32) (q N : Nat) : va_E := .inl (cid 32, N, .inr (.inr (.inr (.inr (va_cpy (cDr ad gm q) (fun _ => none) 0 0 (gm 42 q).toNatClampNeg)))))
theorem cW_gr {p9 q a : Nat} {n : Int32} (hp : cPL[p9]? = some (11, q)) (hn : ¬ n.toInt = 0) (h8 : (gm 42 q).toNatClampNeg ≤ 128) :
    (cW ad cid (va_up a2 q a) (lG lx q) sg (gG gm q n) lg).Sublist ((cW ad cid a2 lx sg gm lg ++ [(a, nD ad cid gm q n.toNatClampNeg)]).set p9 (ad 11 q, .inr (cIx 11, (cFs ad a2 sg gm lg 11 q).set 1 (.ref a)))) := by
  have c0 : cV ad (va_up a2 q a) sg (gG gm q n) lg 11 0 q = cV ad a2 sg gm lg 11 0 q := by
    show Value.int (gG gm q n 40 q) = Value.int (gm 40 q); rw [gG_k (by decide) (by decide)]
  have c2 : cV ad (va_up a2 q a) sg (gG gm q n) lg 11 2 q = cV ad a2 sg gm lg 11 2 q := by
    show Value.int (gG gm q n 41 q) = Value.int (gm 41 q); rw [gG_k (by decide) (by decide)]
  have c1 : cV ad (va_up a2 q a) sg (gG gm q n) lg 11 1 q = .ref a := by
    show Value.ref (if (gG gm q n 42 q).toInt = 0 then ad 34 0 else va_up a2 q a q) = .ref a
    rw [gG_42, upd_at, if_neg hn, va_up_self]
  have hg : (ad 11 q, (Sum.inr (cIx 11, (cFs ad a2 sg gm lg 11 q).set 1 (.ref a)) : va_E)) = (fun x : Nat × Nat => (ad x.1 x.2, cE ad cid (va_up a2 q a) sg (gG gm q n) lg x.1 x.2)) (11, q) := by
    show _ = (ad 11 q, cE ad cid (va_up a2 q a) sg (gG gm q n) lg 11 q)
    rw [cE_o (by decide)]
    show (ad 11 q, (Sum.inr (cIx 11, [cV ad a2 sg gm lg 11 0 q, .ref a, cV ad a2 sg gm lg 11 2 q]) : va_E)) = (ad 11 q, .inr (cIx 11, [cV ad (va_up a2 q a) sg (gG gm q n) lg 11 0 q, cV ad (va_up a2 q a) sg (gG gm q n) lg 11 1 q, cV ad (va_up a2 q a) sg (gG gm q n) lg 11 2 q]))
    rw [c0, c1, c2]
  rw [hg]
  unfold cW cFx
  rw [List.append_assoc]
  generalize hL : cPL = L at hp ⊢
  rw [cW_setG (g := fun x : Nat × Nat => (ad x.1 x.2, cE ad cid (va_up a2 q a) sg (gG gm q n) lg x.1 x.2)) hp (fun j x hx hj => by
    have hx2 : cPL[j]? = some x := by rw [hL]; exact hx
    have hp2 : cPL[p9]? = some (11, q) := by rw [hL]; exact hp
    show (ad x.1 x.2, cE ad cid (va_up a2 q a) sg (gG gm q n) lg x.1 x.2) = (ad x.1 x.2, cE ad cid a2 sg gm lg x.1 x.2)
    rw [cE_gr (cPL_in hx2).1 (fun q9 => hj (cPL_inj hx2 (by rw [show x = (11, q) from Prod.ext q9.1 q9.2]; exact hp2)))])]
  refine List.Sublist.append (List.Sublist.refl _) ?_
  unfold lG
  rw [List.map_append]
  refine List.Sublist.append ?_ ?_
  · rw [List.map_congr_left (g := fun q2 => (a2 q2, cD ad cid gm q2)) (fun b hb => by
      have h9 : b ≠ q := fun q9 => by have := (List.mem_filter.mp hb).2; rw [q9] at this; simp at this
      rw [va_up_ne _ _ h9, cD_gr h9])]
    exact List.filter_sublist.map _
  · show [(va_up a2 q a q, cD ad cid (gG gm q n) q)].Sublist _
    rw [va_up_self]
    unfold cD nD
    rw [cDr_gr h8, gG_42, upd_at]
    exact List.Sublist.refl _
end LGR
theorem sum_ite {g : Nat → Nat} {q a : Nat} (m9 : Nat) : ((List.range m9).map (fun i => if i = q then a else g i)).sum + (if q < m9 then g q else 0) = ((List.range m9).map g).sum + (if q < m9 then a else 0) := by
  induction m9 with
  | zero => rw [if_neg (Nat.not_lt_zero q), if_neg (Nat.not_lt_zero q)]; rfl
  | succ m9 ih =>
    rw [List.range_succ, List.map_append, List.map_append, List.sum_append, List.sum_append, List.map_cons, List.map_cons, List.map_nil, List.map_nil, List.sum_cons, List.sum_cons, List.sum_nil]
    by_cases e9 : q = m9
    · subst e9
      rw [if_neg (Nat.lt_irrefl q), if_neg (Nat.lt_irrefl q)] at ih
      rw [if_pos (Nat.lt_succ_self q), if_pos (Nat.lt_succ_self q), if_pos rfl]
      omega
    · rw [if_neg (Ne.symm e9)]
      by_cases h9 : q < m9
      · rw [if_pos h9, if_pos h9] at ih
        rw [if_pos (by omega), if_pos (by omega)]
        omega
      · rw [if_neg h9, if_neg h9] at ih
        rw [if_neg (by omega), if_neg (by omega)]
        omega
theorem PHs_a {f : Nat → Int32} {q : Nat} {n : Int32} : (fun i => (upd f q n i).toNatClampNeg) = fun i => if i = q then n.toNatClampNeg else (f i).toNatClampNeg := funext fun i => by
  by_cases h : i = q
  · rw [h, upd_at, if_pos rfl]
  · rw [upd_ne h, if_neg h]
theorem PHs_gG {gm : Nat → Nat → Int32} {q : Nat} {n : Int32} (h : q < 240) : PHs (gG gm q n) + (gm 42 q).toNatClampNeg = PHs gm + n.toNatClampNeg := by
  have h1 := sum_ite (g := fun i => (gm 42 i).toNatClampNeg) (q := q) (a := n.toNatClampNeg) 240
  rw [if_pos h, if_pos h] at h1
  unfold PHs
  rw [gG_42, PHs_a]
  exact h1
theorem LDI_gG {lx : List Nat} {sg : Nat → Int32} {gm : Nat → Nat → Int32} {q : Nat} {n : Int32} (hI : CI sg gm) (h : LDI lx gm) (hn : (gm 42 q).toInt ≤ n.toInt) : LDI (lG lx q) (gG gm q n) := fun q2 h2 => by
  obtain ⟨b1, b2, b3⟩ := h q2 h2
  have i41 := (show iv 0 80 (gm 41 q2) from CI_n hI 41 h2)
  have k1 : (gm 41 q2).toNatClampNeg = (gm 41 q2).toInt.toNat := rfl
  have i411 := i41.1
  have i412 := i41.2
  rw [gG_42, gG_k (show (41 : Nat) ≠ 42 by decide) (by decide)]
  by_cases e9 : q2 = q
  · subst e9
    rw [upd_at]
    refine ⟨by omega, fun _ => List.mem_append_right _ List.mem_cons_self, fun j hj => ?_⟩
    rw [gG_lt (by have k2 : (gm 42 q2).toNatClampNeg = (gm 42 q2).toInt.toNat := rfl; omega)]
    exact b3 j hj
  · rw [upd_ne e9]
    refine ⟨b1, fun q9 => List.mem_append_left _ (List.mem_filter.mpr ⟨b2 q9, by simp [e9]⟩), fun j hj => ?_⟩
    rw [gG_ne e9 (by omega)]; exact b3 j hj
theorem CI_gG {sg : Nat → Int32} {gm : Nat → Nat → Int32} {q : Nat} {n : Int32} (hI : CI sg gm) (hn : iv 0 127 n) : CI sg (gG gm q n) := ⟨hI.1, fun k i hi => by
  by_cases h42 : k = 42
  · subst h42
    rw [gG_42]
    by_cases e9 : i = q
    · rw [e9, upd_at]; exact hn
    · rw [upd_ne e9]; exact hI.2 42 i hi
  · by_cases h57 : k = 57
    · subst h57
      rw [gG_57]
      show iv (-1) 79 (if _ then _ else _)
      by_cases h9 : 128 * q + (gm 42 q).toNatClampNeg ≤ i ∧ i < 128 * q + 128
      · rw [if_pos h9]; exact ⟨by decide, by decide⟩
      · rw [if_neg h9]; exact hI.2 57 i hi
    · rw [gG_k h42 h57]; exact hI.2 k i hi⟩
theorem shr1 {a : Int32} (h : iv 0 127 a) : (a >>> ((1 : Int32) &&& 31)).toInt = a.toInt / 2 := by
  have key : ∀ n : Fin 128, ((nI n.val) >>> ((1 : Int32) &&& 31)).toInt = (n.val : Int) / 2 := by decide +kernel
  have h1 := h.1
  have h2 := h.2
  have e1 : a = nI a.toInt.toNat := Int32.toInt_inj.mp (by rw [nI_toInt (by omega)]; omega)
  have := key ⟨a.toInt.toNat, by omega⟩
  rw [← e1] at this
  rw [this]
  show ((a.toInt.toNat : Nat) : Int) / 2 = _
  rw [Int.toNat_of_nonneg h1]
theorem cT_len {cid : Nat → ClassId} : (cT cid).length = 33 := by unfold cT; rw [List.length_map, List.length_range]
theorem set_last {α : Type} (L : List α) (x y : α) : (L ++ [x]).set L.length y = L ++ [y] := by
  rw [List.set_append_right _ _ (Nat.le_refl _), Nat.sub_self]; rfl
section LGM
variable {p : Program} {l : Launch} {e : Env} {R : Room} {s : State} {m : MethodId} {args : Array Value} {below : List Frame} {meth : Method} {c : Code} {H : Heap} {locs : List Loc} {Q : State → Prop} {cc : ByteArray} {pc : Nat} {ls : Array Slot} {rest : List Value} {A : Nat → Prop}
variable {dC : Nat → ClassId} {dI : Nat → Nat → Nat} {ad : Nat → Nat → Nat} {cid : Nat → ClassId} {a2 : Nat → Nat} {lx : List Nat} {sg : Nat → Int32} {gm : Nat → Nat → Int32} {lg : Nat → Nat → Int64} {own : String} {index : Nat} {cells slots : Nat} {st0 : List Value}
/-- new cells are of the class that the lists' cells have -/
theorem cA_eq {cA : ClassId} (hK : va_K (dC, dI) vwCl (cT cid) s) (hK2 : va_K (dC, dI) vwCl (cT cid ++ [(cA, .object "java/lang/Object")]) s) : cA = cid 32 := by
  have r1 := (hK2.2 33 (cA, .object "java/lang/Object") (by rw [List.getElem?_append_right (by rw [cT_len]; decide), cT_len]; rfl)).2
  have r2 := (hK.2 32 (cid 32, .object "java/lang/Object") (cT_at (by decide))).2
  exact Option.some.inj ((va_nmO r1 rfl).symm.trans (va_nmO r2 rfl))
def cQn (dC : Nat → ClassId) (dI : Nat → Nat → Nat) (ad : Nat → Nat → Nat) (cid : Nat → ClassId) (a2 : Nat → Nat) (lx : List Nat) (sg : Nat → Int32) (gm : Nat → Nat → Int32) (lg : Nat → Nat → Int64) (q N : Nat) (A : Nat → Prop) : Array Value → State → Outcome → State → Prop := fun _ st oc t => (∃ a : Nat, oc = .returned (some (.ref a)) ∧ va_P (dC, dI) vwCl (cW ad cid a2 lx sg gm lg ++ [(a, nD ad cid gm q N)]) t.heap ∧ va_K (dC, dI) vwCl (cT cid) t ∧ va_D A (cW ad cid a2 lx sg gm lg ++ [(a, nD ad cid gm q N)])) ∧ va_F A st t ∧ NBw st.heap t.heap 1 N
theorem cm_goN {a : Array Value} {q N : Nat} (hr : vx_Run p l e R s m args below meth c H locs cells slots 1 127 (F0 m pc ls st0) rest (cQn dC dI ad cid a2 lx sg gm lg q N (va_A (cW ad cid a2 lx sg gm lg) H.size) a) (fun _ _ _ => False) (va_A (cW ad cid a2 lx sg gm lg) H.size)) (hD : va_D A (cW ad cid a2 lx sg gm lg)) (hS : va_S A s.heap H locs) (hA : ∀ q, s.heap.size ≤ q → A q)
    (kk : ∀ (a : Nat) (H1 : Heap) (locs1 : List Loc), va_P (dC, dI) vwCl (cW ad cid a2 lx sg gm lg ++ [(a, nD ad cid gm q N)]) H1 → va_D A (cW ad cid a2 lx sg gm lg ++ [(a, nD ad cid gm q N)]) → va_S A s.heap H1 locs1 → W p l e R s m args below meth c H1 locs1 (cells + 1) (slots + N) Q (F0 m (pc + 3) ls (.ref a :: rest))) : W p l e R s m args below meth c H locs cells slots Q (F0 m pc ls st0) := by
  have hFc := cfree hD hS hA
  refine W.nb (fun hN => ?_)
  intro T hT X
  rcases hr T hT X with ⟨v, st₀, t, T', L, h0, X', hL, e1, e2, ⟨⟨a9, hv, b1, b2, b3⟩, hF, hN1⟩, st⟩ | ⟨q9, st₀, t, T', L, E, ce, h0, X', hL, e1, e2, hf, hce, hcv, hcl, st⟩
  · cases hv
    obtain ⟨k1, k2, k3⟩ := vx_keep h0 e1 hS (fun q _ h => hFc q h) hFc hL hF
    rw [h0, ← e1] at hN1
    obtain ⟨t2, a1, c1⟩ := W.narrow (NBw_tr hN hN1) (kk a9 T'.heap (locs ++ L) (by rw [e1]; exact b1) (b3.weaken (fun _ _ _ h => hFc _ h)) k3) T' rfl X'
    exact ⟨t2, st t2 a1, c1⟩
  · exact hf.elim
/-- the cells of a list as a receiver -/
theorem cl_recv {i q : Nat} (hK : va_K (dC, dI) vwCl (cT cid) s) (hP : va_P (dC, dI) vwCl (cW ad cid a2 lx sg gm lg) H) (hi : lx[i]? = some q) : ∃ cell : Cell, H[a2 q]? = some cell ∧ cell.vm.isStatics = false ∧ s.vm.findClass "[Ljava/lang/Object;" = some cell.cls := by
  have r2 := (hK.2 32 (cid 32, .object "java/lang/Object") (cT_at (by decide))).2
  exact ⟨_, hP _ _ (cW_lat hi), rfl, va_nmO r2 rfl⟩
/-- the larger cells come into the list -/
theorem cl_putD {h : Int} {x n : Int32} {a : Nat} (hexec : p.tables.exec = Jvm.exec) (hb : c.code = cc) (htb : ∀ w ∈ tb, w.before args s = true) (hown : s.vm.findClass own = some m.cls) (hK : va_K (dC, dI) vwCl (cT cid) s) {H0 : Heap} (hP : va_P (dC, dI) vwCl (cW ad cid a2 lx sg gm lg ++ [(a, nD ad cid gm x.toNatClampNeg n.toNatClampNeg)]) H) (hD : va_D A (cW ad cid a2 lx sg gm lg ++ [(a, nD ad cid gm x.toNatClampNeg n.toNatClampNeg)])) (hS : va_S A H0 H locs) (hx : iv 0 h x) (hn : h < (cNum 11 : Int)) (h1 : ¬ n.toInt = 0) (h8 : (gm 42 x.toNatClampNeg).toNatClampNeg ≤ 128) (hlink : (Cond.fieldLink own index "java/util/ArrayList" "elementData" "[Ljava/lang/Object;").before args s = true) (hdg : decode cc pc = .ok (.putfield index, 3))
    (kk : ∀ (H1 : Heap) (locs1 : List Loc), va_P (dC, dI) vwCl (cW ad cid (va_up a2 x.toNatClampNeg a) (lG lx x.toNatClampNeg) sg (gG gm x.toNatClampNeg n) lg) H1 → va_D A (cW ad cid (va_up a2 x.toNatClampNeg a) (lG lx x.toNatClampNeg) sg (gG gm x.toNatClampNeg n) lg) → va_S A H0 H1 locs1 → W p l e R s m args below meth c H1 locs1 cells slots Q (F0 m (pc + 3) ls rest)) : W p l e R s m args below meth c H locs cells slots Q (F0 m pc ls (.ref a :: eV (ad 11) x :: rest)) := by
  obtain ⟨p9, hp⟩ := cPL_at (t := 11) (by decide) (cnx hx hn)
  rw [eV_ref hx.1]
  have hlt : p9 < (cW ad cid a2 lx sg gm lg).length := (List.getElem?_eq_some_iff.mp (cW_at (ad := ad) (cid := cid) (a2 := a2) (lx := lx) (sg := sg) (gm := gm) (lg := lg) hp)).1
  refine va_put (D := (dC, dI)) (ci := cIx 11) (v := .ref a) (ty := tyJx4a65c 1) (C := RJx4a65c) (T := TJx4a65c) (N := 3) (ref := "java/util/ArrayList") hexec hb htb inJx4a65c tyJx4a65c tyJx4a65c_ok nmJx4a65c hown hK hP hD hS p9 (by rw [List.getElem?_append_left hlt, cW_at hp, cE_o (by decide)]) rfl 1 (by decide) hlink (fun x9 h9 => h9) rfl (tyJx4a65c_ok 1 (by decide)) rfl rfl (by rw [cFs_len]; decide) hdg (fun H1 locs1 g1 g2 g3 => kk H1 locs1 ?_ ?_ g3)
  · exact va_Psl g1 (cW_gr hp h1 h8)
  · exact va_Dsl g2 (cW_gr hp h1 h8)
end LGM
