set_option maxHeartbeats 4000000 in
set_option maxRecDepth 100000 in
theorem d_loop {p : Program} {l : Launch} {e : Env} {s : State} {m : MethodId} {below : List Frame} {meth : Method} {c : Code} {b L : Nat} {xs : Nat → Int32} {dC : Nat → ClassId} {dI : Nat → Nat → Nat} {ad : Nat → Nat → Nat} {cid : Nat → ClassId} {h0 : Nat} {adm : Nat → Nat} {cidm : Nat → ClassId} {cO : ClassId} {qo : Nat} {A : Nat → Prop} (hl9 : l.stackTraces = false) (C0 : lw_At p s m meth c b L xs) (hL : L ≤ 4608) (hA : ∀ q : Nat, s.heap.size ≤ q → A q) (hbA : ¬ A b) (hG : CE ad A s) (hN9 : NE s) (hK : va_K (dC, dI) vwCl (cT cid ++ (mT cidm ++ [(cO, .long)])) s) (hAi : ∀ q : Nat, A q → s.heap.size ≤ q) : ∀ (n it : Nat) (i : Int32) (a2 : Nat → Nat) (lx : List Nat) (sg : Nat → Int32) (gm : Nat → Nat → Int32) (lg : Nat → Nat → Int64) (sm : Nat → Int32) (gn : Nat → Nat → Int32) (ln : Nat → Nat → Int64) (f : Nat → Int64) (H : Heap) (locs : List Loc) (ls : Array Slot), n + it = 513 → 9 * it ≤ 4608 → i.toInt = 9 * (it : Int) → KI it lx sg gm lg → RI sm gn ln → REL sg gm sm gn ln → va_P (dC, dI) vwCl (cW ad cid a2 lx sg gm lg ++ (mW h0 adm cidm sm gn ln ++ [(qo, oE cO f)])) H → va_D A (cW ad cid a2 lx sg gm lg ++ (mW h0 adm cidm sm gn ln ++ [(qo, oE cO f)])) → va_S A s.heap H locs → lv_has ls 7 [(4, .int i), (3, .ref qo), (2, .ref h0), (1, eV (ad 0) 0), (0, .ref b)] → W p l e room_1 s m #[Value.ref b] below meth c H locs (10000 + 3 * it + PHs gm) (400000 + 18 * it + 4 * PHs gm) (lw_Z below #[Value.ref b] s) (F0 m 23 ls []) := by
  obtain ⟨hx, hb, hr, hml, hown, hts, hX, hbl, hlocks, hgv⟩ := id C0
  intro n
  induction n with
  | zero => intro it i a2 lx sg gm lg sm gn ln f H locs ls hn h9; omega
  | succ n ih =>
    intro it i a2 lx sg gm lg sm gn ln f H locs ls hn h9 hi hKI hRI hREL hP hD hS hl
    have kI := hKI.1
    have hiv : iv 0 4608 i := ⟨by omega, by omega⟩
    have kont : ∀ (a2 : Nat → Nat) (lx : List Nat) (sg : Nat → Int32) (gm : Nat → Nat → Int32) (lg : Nat → Nat → Int64) (sm : Nat → Int32) (gn : Nat → Nat → Int32) (ln : Nat → Nat → Int64) (f : Nat → Int64) (H : Heap) (locs : List Loc) (ls : Array Slot), 9 * (it + 1) ≤ 4608 → KI (it + 1) lx sg gm lg → RI sm gn ln → REL sg gm sm gn ln → va_P (dC, dI) vwCl (cW ad cid a2 lx sg gm lg ++ (mW h0 adm cidm sm gn ln ++ [(qo, oE cO f)])) H → va_D A (cW ad cid a2 lx sg gm lg ++ (mW h0 adm cidm sm gn ln ++ [(qo, oE cO f)])) → va_S A s.heap H locs → lv_has ls 7 [(4, .int i), (3, .ref qo), (2, .ref h0), (1, eV (ad 0) 0), (0, .ref b)] → W p l e room_1 s m #[Value.ref b] below meth c H locs (10000 + 3 * (it + 1) + PHs gm) (400000 + 18 * (it + 1) + 4 * PHs gm) (lw_Z below #[Value.ref b] s) (F0 m 801 ls []) := by
      intro a2 lx sg gm lg sm gn ln f H locs ls h10 hKI hRI hREL hP hD hS hl
      obtain ⟨z, ez⟩ : ∃ z : Int32, z = i + 9 := ⟨_, rfl⟩
      have tz : z.toInt = i.toInt + 9 := by rw [ez]; exact iv_addE hiv (iv_k (by decide) : iv 9 9 9) (by decide)
      refine lv_iinc (v := z) (lv' := [(4, .int z), (3, .ref qo), (2, .ref h0), (1, eV (ad 0) 0), (0, .ref b)]) hx hb dL_law_801 hl (k := 0) rfl ez.symm (by decide) (by simp [List.filter, eV_cat, cat_i, cat_l, cat_r]) (fun ls hl => ?_)
      refine lv_goto (tgt := 23) hx hb dL_law_804 (by decide) ?_
      exact ih (it + 1) z a2 lx sg gm lg sm gn ln f H locs ls (by omega) (by omega) (by omega) hKI hRI hREL hP hD hS hl
    refine lv_iload hx hb dL_law_23 (lv_at hl 0 rfl) ?_
    refine lv_aload_n hx hb dL_law_25 rfl (lv_at hl 4 rfl) ?_
    refine va_slen hx hb hX hbl hbA hS dL_law_26 ?_
    refine lv_topi (fun z1 ez1 => ?_)
    have tz1 : z1.toInt = (L : Int) := by rw [ez1]; exact nI_toInt (by omega)
    refine lv_bipush (v := 9) hx hb dL_law_27 (by decide) ?_
    refine lv_isub hx hb dL_law_29 ?_
    refine lv_topi (fun z2 ez2 => ?_)
    have tz2 : z2.toInt = z1.toInt - 9 := by rw [ez2]; exact iv_subE (⟨by omega, by omega⟩ : iv 0 4608 z1) (iv_k (by decide) : iv 9 9 9) (by decide)
    refine lv_icmp_gt (tgt := 807) hx hb dL_law_30 (by decide) (fun c1 => ?_) (fun c1 => ?_)
    · refine lv_iconst (v := 1) hx hb dL_law_807 (by decide) ?_
      refine va_forget (fun q hq => hAi _ (hS.2.2 q hq)) ?_
      refine W.widen (k := 601024) (n := 7293034) (by have := PHs_le kI; omega) (by have := PHs_le kI; omega) ?_
      exact lw_ret hx hb hr hlocks dL_law_808
    have hle : i.toInt ≤ z2.toInt := Int32.le_iff_toInt_le.mp (Int32.not_lt.mp c1)
    refine lv_aload_n hx hb dL_law_33 rfl (lv_at hl 4 rfl) ?_
    refine lv_iload hx hb dL_law_34 (lv_at hl 0 rfl) ?_
    refine va_sld hx hb hX hbl hbA hS (vp_in_iff.mpr ⟨by omega, by omega⟩) dL_law_36 ?_
    refine lv_topi (fun v ev => ?_)
    refine lv_bipush (v := 15) hx hb dL_law_37 (by decide) ?_
    refine lv_iand hx hb dL_law_39 ?_
    refine lv_topi (fun z4 ez4 => ?_)
    rcases tsw_15 z4 with c4 | c4 | c4 | c4 | c4 | c4 | c4 | c4 | c4 | c4 | c4 | c4 | c4 | c4 | c4 | c4
    · refine lv_tableIn (tgt := 116) hx hb dL_law_40 (by rw [c4]; decide) (by rw [c4]; decide) (by rw [c4]; rfl) (by decide) ?_
      exact d_law0 hl9 C0 hL hA hbA hG hN9 hK it i (by omega) hi (by omega) a2 lx sg gm lg sm gn ln f H locs ls hKI hRI hREL hP hD hS hl (fun a2 lx sg gm lg sm gn ln f H locs ls => kont a2 lx sg gm lg sm gn ln f H locs ls (by omega))
    · refine lv_tableIn (tgt := 153) hx hb dL_law_40 (by rw [c4]; decide) (by rw [c4]; decide) (by rw [c4]; rfl) (by decide) ?_
      exact d_law1 hl9 C0 hL hA hbA hG hN9 hK it i (by omega) hi (by omega) a2 lx sg gm lg sm gn ln f H locs ls hKI hRI hREL hP hD hS hl (fun a2 lx sg gm lg sm gn ln f H locs ls => kont a2 lx sg gm lg sm gn ln f H locs ls (by omega))
    · refine lv_tableIn (tgt := 226) hx hb dL_law_40 (by rw [c4]; decide) (by rw [c4]; decide) (by rw [c4]; rfl) (by decide) ?_
      exact d_law2 hl9 C0 hL hA hbA hG hN9 hK it i (by omega) hi (by omega) a2 lx sg gm lg sm gn ln f H locs ls hKI hRI hREL hP hD hS hl (fun a2 lx sg gm lg sm gn ln f H locs ls => kont a2 lx sg gm lg sm gn ln f H locs ls (by omega))
    · refine lv_tableIn (tgt := 275) hx hb dL_law_40 (by rw [c4]; decide) (by rw [c4]; decide) (by rw [c4]; rfl) (by decide) ?_
      exact d_law3 hl9 C0 hL hA hbA hG hN9 hK it i (by omega) hi (by omega) a2 lx sg gm lg sm gn ln f H locs ls hKI hRI hREL hP hD hS hl (fun a2 lx sg gm lg sm gn ln f H locs ls => kont a2 lx sg gm lg sm gn ln f H locs ls (by omega))
    · refine lv_tableIn (tgt := 406) hx hb dL_law_40 (by rw [c4]; decide) (by rw [c4]; decide) (by rw [c4]; rfl) (by decide) ?_
      exact d_law4 hl9 C0 hL hA hbA hG hN9 hK it i (by omega) hi (by omega) a2 lx sg gm lg sm gn ln f H locs ls hKI hRI hREL hP hD hS hl (fun a2 lx sg gm lg sm gn ln f H locs ls => kont a2 lx sg gm lg sm gn ln f H locs ls (by omega))
    · refine lv_tableIn (tgt := 479) hx hb dL_law_40 (by rw [c4]; decide) (by rw [c4]; decide) (by rw [c4]; rfl) (by decide) ?_
      exact d_law5 hl9 C0 hL hA hbA hG hN9 hK it i (by omega) hi (by omega) a2 lx sg gm lg sm gn ln f H locs ls hKI hRI hREL hP hD hS hl (fun a2 lx sg gm lg sm gn ln f H locs ls => kont a2 lx sg gm lg sm gn ln f H locs ls (by omega))
    · refine lv_tableIn (tgt := 523) hx hb dL_law_40 (by rw [c4]; decide) (by rw [c4]; decide) (by rw [c4]; rfl) (by decide) ?_
      exact d_law6 hl9 C0 hL hA hbA hG hN9 hK it i (by omega) hi (by omega) a2 lx sg gm lg sm gn ln f H locs ls hKI hRI hREL hP hD hS hl (fun a2 lx sg gm lg sm gn ln f H locs ls => kont a2 lx sg gm lg sm gn ln f H locs ls (by omega))
    · refine lv_tableIn (tgt := 548) hx hb dL_law_40 (by rw [c4]; decide) (by rw [c4]; decide) (by rw [c4]; rfl) (by decide) ?_
      exact d_law7 hl9 C0 hL hA hbA hG hN9 hK it i (by omega) hi (by omega) a2 lx sg gm lg sm gn ln f H locs ls hKI hRI hREL hP hD hS hl (fun a2 lx sg gm lg sm gn ln f H locs ls => kont a2 lx sg gm lg sm gn ln f H locs ls (by omega))
    · refine lv_tableIn (tgt := 564) hx hb dL_law_40 (by rw [c4]; decide) (by rw [c4]; decide) (by rw [c4]; rfl) (by decide) ?_
      exact d_law8 hl9 C0 hL hA hbA hG hN9 hK it i (by omega) hi (by omega) a2 lx sg gm lg sm gn ln f H locs ls hKI hRI hREL hP hD hS hl (fun a2 lx sg gm lg sm gn ln f H locs ls => kont a2 lx sg gm lg sm gn ln f H locs ls (by omega))
    · refine lv_tableIn (tgt := 624) hx hb dL_law_40 (by rw [c4]; decide) (by rw [c4]; decide) (by rw [c4]; rfl) (by decide) ?_
      exact d_law9 hl9 C0 hL hA hbA hG hN9 hK it i (by omega) hi (by omega) a2 lx sg gm lg sm gn ln f H locs ls hKI hRI hREL hP hD hS hl (fun a2 lx sg gm lg sm gn ln f H locs ls => kont a2 lx sg gm lg sm gn ln f H locs ls (by omega))
    · refine lv_tableIn (tgt := 664) hx hb dL_law_40 (by rw [c4]; decide) (by rw [c4]; decide) (by rw [c4]; rfl) (by decide) ?_
      exact d_law10 hl9 C0 hL hA hbA hG hN9 hK it i (by omega) hi (by omega) a2 lx sg gm lg sm gn ln f H locs ls hKI hRI hREL hP hD hS hl (fun a2 lx sg gm lg sm gn ln f H locs ls => kont a2 lx sg gm lg sm gn ln f H locs ls (by omega))
    · refine lv_tableIn (tgt := 677) hx hb dL_law_40 (by rw [c4]; decide) (by rw [c4]; decide) (by rw [c4]; rfl) (by decide) ?_
      exact d_law11 hl9 C0 hL hA hbA hG hN9 hK it i (by omega) hi (by omega) a2 lx sg gm lg sm gn ln f H locs ls hKI hRI hREL hP hD hS hl (fun a2 lx sg gm lg sm gn ln f H locs ls => kont a2 lx sg gm lg sm gn ln f H locs ls (by omega))
    · refine lv_tableIn (tgt := 690) hx hb dL_law_40 (by rw [c4]; decide) (by rw [c4]; decide) (by rw [c4]; rfl) (by decide) ?_
      exact d_law12 hl9 C0 hL hA hbA hG hN9 hK it i (by omega) hi (by omega) a2 lx sg gm lg sm gn ln f H locs ls hKI hRI hREL hP hD hS hl (fun a2 lx sg gm lg sm gn ln f H locs ls => kont a2 lx sg gm lg sm gn ln f H locs ls (by omega))
    · refine lv_tableIn (tgt := 727) hx hb dL_law_40 (by rw [c4]; decide) (by rw [c4]; decide) (by rw [c4]; rfl) (by decide) ?_
      exact d_law13 hl9 C0 hL hA hbA hG hN9 hK it i (by omega) hi (by omega) a2 lx sg gm lg sm gn ln f H locs ls hKI hRI hREL hP hD hS hl (fun a2 lx sg gm lg sm gn ln f H locs ls => kont a2 lx sg gm lg sm gn ln f H locs ls (by omega))
    · refine lv_tableIn (tgt := 764) hx hb dL_law_40 (by rw [c4]; decide) (by rw [c4]; decide) (by rw [c4]; rfl) (by decide) ?_
      exact d_law14 hl9 C0 hL hA hbA hG hN9 hK it i (by omega) hi (by omega) a2 lx sg gm lg sm gn ln f H locs ls hKI hRI hREL hP hD hS hl (fun a2 lx sg gm lg sm gn ln f H locs ls => kont a2 lx sg gm lg sm gn ln f H locs ls (by omega))
    · refine lv_tableOut (tgt := 801) hx hb dL_law_40 (by have q1 := c4; omega) (by decide) ?_
      refine W.widen (k := 10000 + 3 * (it + 1) + PHs gm) (n := 400000 + 18 * (it + 1) + 4 * PHs gm) (by omega) (by omega) ?_
      exact kont a2 lx sg gm lg sm gn ln f H locs ls (by omega) (KI_of (Ls := []) (Lg := []) (Ll := []) hKI kI KS_rf KS_rf KS_rf (by decide) (by decide) (by decide)) hRI hREL hP hD hS hl
