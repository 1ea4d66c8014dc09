def mfn (n : Nat) (ad : Nat → Nat) (sg : Nat → Int32) (k : Nat) : Value := if mArr k then (if (mK.take n).contains k then .ref (ad k) else .null) else .int (sg k)
/-- the reference under construction: its first n arrays are there -/
def mWx (n h0 : Nat) (ad : Nat → Nat) (cid : Nat → ClassId) (sg : Nat → Int32) (gm : Nat → Nat → Int32) (lg : Nat → Nat → Int64) : va_W := (h0, .inr (12, (List.range 77).map (mfn n ad sg))) :: (mK.take n).map (fun k => (ad k, mE9 cid gm lg k))
def mTx (n : Nat) (cid : Nat → ClassId) : List (ClassId × FieldType) := (mK.take n).map (fun k => (cid k, mTy k))
theorem take_s {n k : Nat} (hk : mK[n]? = some k) : mK.take (n + 1) = mK.take n ++ [k] := by rw [List.take_add_one, hk]; rfl
theorem mTx_s {n k : Nat} {cid : Nat → ClassId} {cA : ClassId} {ty : FieldType} (hk : mK[n]? = some k) (hn : (mK.take n).contains k = false) (ht : mTy k = ty) : mTx n cid ++ [(cA, ty)] = mTx (n + 1) (va_up cid k cA) := by
  unfold mTx
  rw [take_s hk, List.map_append]
  congr 1
  · refine List.map_congr_left (fun j hj => ?_)
    have hne : j ≠ k := fun q => by rw [q] at hj; have := List.contains_iff_mem.mpr hj; rw [hn] at this; cases this
    rw [va_up_ne _ _ hne]
  · show [(cA, ty)] = [(va_up cid k cA k, mTy k)]
    rw [va_up_self, ht]
theorem mfn_set {n k q : Nat} {ad : Nat → Nat} {sg : Nat → Int32} (hk : mK[n]? = some k) (hA : mArr k = true) (h77 : k < 77) : ((List.range 77).map (mfn n ad sg)).set k (.ref q) = (List.range 77).map (mfn (n + 1) (va_up ad k q) sg) := by
  apply List.ext_getElem?
  intro j
  rw [List.getElem?_set, List.getElem?_map, List.length_map, List.length_range]
  by_cases hj : j < 77
  · rw [List.getElem?_map, List.getElem?_range hj]
    by_cases e9 : k = j
    · subst e9
      rw [if_pos rfl, if_pos h77]
      show some (Value.ref q) = some (mfn (n + 1) (va_up ad k q) sg k)
      unfold mfn
      rw [if_pos hA, take_s hk, if_pos (by rw [List.contains_iff_mem]; exact List.mem_append_right _ List.mem_cons_self), va_up_self]
    · rw [if_neg e9]
      show some (mfn n ad sg j) = some (mfn (n + 1) (va_up ad k q) sg j)
      unfold mfn
      rw [take_s hk, va_up_ne _ _ (Ne.symm e9)]
      have : (mK.take n ++ [k]).contains j = (mK.take n).contains j := by
        rw [Bool.eq_iff_iff, List.contains_iff_mem, List.contains_iff_mem, List.mem_append]
        constructor
        · intro h; rcases h with h | h
          · exact h
          · exact absurd (List.mem_singleton.mp h).symm e9
        · exact Or.inl
      rw [this]
  · have hr : (List.range 77)[j]? = none := List.getElem?_eq_none (by rw [List.length_range]; omega)
    rw [List.getElem?_map, hr]
    by_cases e9 : k = j
    · omega
    · rw [if_neg e9]; rfl
theorem mWx_i {n k h0 q : Nat} {cA : ClassId} {ad : Nat → Nat} {cid : Nat → ClassId} {sg : Nat → Int32} {gm : Nat → Nat → Int32} {lg : Nat → Nat → Int64} {g : Nat → Int32} (hk : mK[n]? = some k) (hn : (mK.take n).contains k = false) (hA : mArr k = true) (h77 : k < 77) (hl : mLong k = false) : (mWx n h0 ad cid sg gm lg ++ [(q, (.inl (cA, mLen k, .inl g) : va_E))]).set 0 (h0, .inr (12, ((List.range 77).map (mfn n ad sg)).set k (.ref q))) = mWx (n + 1) h0 (va_up ad k q) (va_up cid k cA) sg (va_up gm k g) lg := by
  unfold mWx
  rw [List.cons_append, List.set_cons_zero, mfn_set hk hA h77, take_s hk, List.map_append]
  congr 2
  · refine List.map_congr_left (fun j hj => ?_)
    have hne : j ≠ k := fun q => by rw [q] at hj; have := List.contains_iff_mem.mpr hj; rw [hn] at this; cases this
    unfold mE9
    rw [va_up_ne _ _ hne, va_up_ne _ _ hne, va_up_ne _ _ hne]
  · show [(q, _)] = [(va_up ad k q k, mE9 (va_up cid k cA) (va_up gm k g) lg k)]
    unfold mE9
    rw [va_up_self, va_up_self, va_up_self, hl]
    rfl
theorem mWx_l {n k h0 q : Nat} {cA : ClassId} {ad : Nat → Nat} {cid : Nat → ClassId} {sg : Nat → Int32} {gm : Nat → Nat → Int32} {lg : Nat → Nat → Int64} {g : Nat → Int64} (hk : mK[n]? = some k) (hn : (mK.take n).contains k = false) (hA : mArr k = true) (h77 : k < 77) (hl : mLong k = true) : (mWx n h0 ad cid sg gm lg ++ [(q, (.inl (cA, mLen k, .inr (.inl g)) : va_E))]).set 0 (h0, .inr (12, ((List.range 77).map (mfn n ad sg)).set k (.ref q))) = mWx (n + 1) h0 (va_up ad k q) (va_up cid k cA) sg gm (va_up lg k g) := by
  unfold mWx
  rw [List.cons_append, List.set_cons_zero, mfn_set hk hA h77, take_s hk, List.map_append]
  congr 2
  · refine List.map_congr_left (fun j hj => ?_)
    have hne : j ≠ k := fun q => by rw [q] at hj; have := List.contains_iff_mem.mpr hj; rw [hn] at this; cases this
    unfold mE9
    rw [va_up_ne _ _ hne, va_up_ne _ _ hne, va_up_ne _ _ hne]
  · show [(q, _)] = [(va_up ad k q k, mE9 (va_up cid k cA) gm (va_up lg k g) k)]
    unfold mE9
    rw [va_up_self, va_up_self, va_up_self, hl]
    rfl
theorem mfn_int {n k : Nat} {x : Int32} {ad : Nat → Nat} {sg : Nat → Int32} (hA : mArr k = false) : ((List.range 77).map (mfn n ad sg)).set k (.int x) = (List.range 77).map (mfn n ad (va_up sg k x)) := by
  apply List.ext_getElem?
  intro j
  rw [List.getElem?_set, List.getElem?_map, List.length_map, List.length_range]
  by_cases hj : j < 77
  · rw [List.getElem?_map, List.getElem?_range hj]
    by_cases e9 : k = j
    · subst e9
      rw [if_pos rfl, if_pos hj]
      show some (Value.int x) = some (mfn n ad (va_up sg k x) k)
      unfold mfn
      rw [hA, va_up_self]
      rfl
    · rw [if_neg e9]
      show some (mfn n ad sg j) = some (mfn n ad (va_up sg k x) j)
      unfold mfn
      rw [va_up_ne _ _ (Ne.symm e9)]
  · have hr : (List.range 77)[j]? = none := List.getElem?_eq_none (by rw [List.length_range]; omega)
    rw [List.getElem?_map, hr]
    by_cases e9 : k = j
    · rw [if_pos e9, if_neg (by omega)]; rfl
    · rw [if_neg e9]; rfl
theorem mWx_s {n k h0 : Nat} {x : Int32} {ad : Nat → Nat} {cid : Nat → ClassId} {sg : Nat → Int32} {gm : Nat → Nat → Int32} {lg : Nat → Nat → Int64} (hA : mArr k = false) : (mWx n h0 ad cid sg gm lg).set 0 (h0, .inr (12, ((List.range 77).map (mfn n ad sg)).set k (.int x))) = mWx n h0 ad cid (va_up sg k x) gm lg := by
  unfold mWx
  rw [List.set_cons_zero, mfn_int hA]
def zrow (j : Nat) : Bool := !mLong j && !(j == 3) && !(j == 4)
def ZR (n : Nat) (gm : Nat → Nat → Int32) : Prop := ∀ j, (mK.take n).contains j = true → zrow j = true → gm j = fun _ => 0
theorem ZR_z {n k : Nat} {gm : Nat → Nat → Int32} (hk : mK[n]? = some k) (h : ZR n gm) : ZR (n + 1) (va_up gm k (fun _ => 0)) := fun j hj hz => by
  by_cases e9 : j = k
  · rw [e9, va_up_self]
  · rw [va_up_ne _ _ e9]
    refine h j ?_ hz
    rw [take_s hk, List.contains_iff_mem, List.mem_append] at hj
    rw [List.contains_iff_mem]
    rcases hj with q | q
    · exact q
    · exact absurd (List.mem_singleton.mp q) e9
theorem ZR_n {n k : Nat} {gm gm2 : Nat → Nat → Int32} (hk : mK[n]? = some k) (h : ZR n gm) (hz0 : zrow k = false) (he : ∀ j, j ≠ k → gm2 j = gm j) : ZR (n + 1) gm2 := fun j hj hz => by
  have e9 : j ≠ k := fun q => by rw [q, hz0] at hz; cases hz
  rw [he j e9]
  refine h j ?_ hz
  rw [take_s hk, List.contains_iff_mem, List.mem_append] at hj
  rw [List.contains_iff_mem]
  rcases hj with q | q
  · exact q
  · exact absurd (List.mem_singleton.mp q) e9
theorem mWx_60 {h0 : Nat} {ad : Nat → Nat} {cid : Nat → ClassId} {sg : Nat → Int32} {gm : Nat → Nat → Int32} {lg : Nat → Nat → Int64} : mWx 60 h0 ad cid sg gm lg = mW h0 ad cid sg gm lg := by
  unfold mWx mW mfs
  have h1 : (List.range 77).map (mfn 60 ad sg) = (List.range 77).map (mfv ad sg) := List.map_congr_left (fun k hk => by
    have hc : ∀ k, k < 77 → mArr k = true → (mK.take 60).contains k = true := by decide
    unfold mfn mfv
    by_cases hA : mArr k = true
    · rw [if_pos hA, if_pos hA, if_pos (hc k (List.mem_range.mp hk) hA)]
    · rw [if_neg hA, if_neg hA])
  rw [h1]
  rfl
theorem mTx_60 {cid : Nat → ClassId} : mTx 60 cid = mT cid := rfl
/-- the reference's state as its constructor leaves it -/
theorem RI_0 {sg : Nat → Int32} {gm gm0 : Nat → Nat → Int32} {lg : Nat → Nat → Int64} (hz : ZR 60 gm0) (h3 : ∀ i, i < 5 → iv 3 5 (gm0 3 i)) (h4 : ∀ i, i < 5 → iv 34 62 (gm0 4 i)) (hs : ∀ k, k ≠ 23 → k ≠ 52 → sg k = 0) (h52 : sg 52 = -1) (h6 : ∀ k, k < 8 → gm 6 k = -1) (he : ∀ k, k ≠ 6 → gm k = gm0 k) : RI sg gm lg := by
  have z : ∀ j, (mK.take 60).contains j = true → zrow j = true → j ≠ 6 → gm j = fun _ => 0 := fun j a1 a2 a3 => by rw [he j a3]; exact hz j a1 a2
  have r61 : gm 61 = fun _ => 0 := z 61 (by decide) (by decide) (by decide)
  have r60 : gm 60 = fun _ => 0 := z 60 (by decide) (by decide) (by decide)
  have r62 : gm 62 = fun _ => 0 := z 62 (by decide) (by decide) (by decide)
  have r70 : gm 70 = fun _ => 0 := z 70 (by decide) (by decide) (by decide)
  have r71 : gm 71 = fun _ => 0 := z 71 (by decide) (by decide) (by decide)
  have r72 : gm 72 = fun _ => 0 := z 72 (by decide) (by decide) (by decide)
  have r73 : gm 73 = fun _ => 0 := z 73 (by decide) (by decide) (by decide)
  have s50 : (sg 50).toInt = 0 := by rw [hs 50 (by decide) (by decide)]; rfl
  have hm1 : (-1 : Int32).toInt = -1 := by decide
  refine ⟨⟨fun k => ?_, fun k i hi => ?_⟩, fun k hk => by rw [h6 k hk, hm1]; omega, ?_, MO_0 s50, Or.inl (by rw [hs 40 (by decide) (by decide)]; rfl)⟩
  · by_cases e52 : k = 52
    · rw [e52, h52]; exact ⟨by decide, by decide⟩
    · by_cases e23 : k = 23
      · rw [e23]; exact iv_all _
      · rw [hs k e23 e52]
        have key : ∀ k, k < 77 → k ≠ 52 → sLo k ≤ 0 ∧ 0 ≤ sHi k := by decide
        by_cases h77 : k < 77
        · exact ⟨(key k h77 e52).1, (key k h77 e52).2⟩
        · have hlo : sLo k ≤ 0 ∧ 0 ≤ sHi k := by unfold sLo sHi; split <;> first | omega | (split <;> omega)
          exact ⟨hlo.1, hlo.2⟩
  · by_cases e3 : k = 3
    · rw [e3] at hi ⊢; rw [he 3 (by decide)]; exact h3 i hi
    · by_cases e4 : k = 4
      · rw [e4] at hi ⊢; rw [he 4 (by decide)]; exact h4 i hi
      · by_cases e6 : k = 6
        · rw [e6] at hi ⊢; rw [h6 i hi]; exact ⟨by decide, by decide⟩
        · have key : ∀ k, k < 77 → k ≠ 3 → k ≠ 4 → (mLen k = 0 ∨ (mK.take 60).contains k = true) ∧ aLo k ≤ 0 ∧ 0 ≤ aHi k := by decide
          by_cases h77 : k < 77
          · obtain ⟨q1, q2, q3⟩ := key k h77 e3 e4
            rcases q1 with q | q
            · rw [q] at hi; omega
            · by_cases hz1 : zrow k = true
              · rw [z k q hz1 e6]; exact ⟨q2, q3⟩
              · have kl : ∀ k, k < 77 → k ≠ 3 → k ≠ 4 → zrow k = false → aLo k = -2147483648 ∧ aHi k = 2147483647 := by decide
                obtain ⟨a1, a2⟩ := kl k h77 e3 e4 (by simpa using hz1)
                rw [a1, a2]; exact iv_all _
          · exfalso
            have : mLen k = 0 := by unfold mLen; split <;> first | omega | rfl
            omega
  · have v0 : vok 0 0 := ⟨fun q => absurd q (by decide), fun _ => Or.inl (by decide), fun q => absurd q (by decide)⟩
    refine ⟨?_, fun b _ q => absurd (by rw [r61]) q, by rw [s50]; exact Int.natCast_nonneg _⟩
    unfold VAL
    rw [r70, r71, r72, r73]
    exact ⟨fun j _ => v0, fun j _ => v0⟩
