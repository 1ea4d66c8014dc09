section
theorem tyN_lt (p1 p2 p3 p4 p5 : Int32) {k : Nat} : ∀ n, k < n → ¬ tyS p1 p2 p3 p4 p5 (nI k) = 0 → tyN p1 p2 p3 p4 p5 k < tyN p1 p2 p3 p4 p5 n := by
  intro n
  induction n with
  | zero => intro h; exact absurd h (Nat.not_lt_zero k)
  | succ n ih =>
    intro h hz
    show _ < tyN p1 p2 p3 p4 p5 n + (if tyS p1 p2 p3 p4 p5 (nI n) = 0 then 0 else 1)
    by_cases e : k = n
    · subst e; rw [if_neg hz]; omega
    · have := ih (by omega) hz; omega
/-- the letters typed so far stand behind what stood there -/
def TYX (p1 p2 p3 p4 p5 : Int32) (s0 : Int) (f f0 : Nat → Int32) (n : Nat) : Prop := (∀ i : Nat, (i : Int) < s0 → f i = f0 i) ∧ ∀ k, k < n → ¬ tyS p1 p2 p3 p4 p5 (nI k) = 0 → f (s0.toNat + tyN p1 p2 p3 p4 p5 k) = tyS p1 p2 p3 p4 p5 (nI k)
theorem TYX_0 {p1 p2 p3 p4 p5 : Int32} {s0 : Int} {f : Nat → Int32} : TYX p1 p2 p3 p4 p5 s0 f f 0 := ⟨fun _ _ => rfl, fun k hk => absurd hk (Nat.not_lt_zero k)⟩
theorem TYX_z {p1 p2 p3 p4 p5 x i : Int32} {s0 : Int} {f f0 : Nat → Int32} (hi : iv 0 19 i) (h : TYX p1 p2 p3 p4 p5 s0 f f0 i.toNatClampNeg) (hs : x = tyS p1 p2 p3 p4 p5 i) (hx : x = 0) : TYX p1 p2 p3 p4 p5 s0 f f0 (i.toNatClampNeg + 1) := by
  refine ⟨h.1, fun k hk hz => ?_⟩
  by_cases e : k = i.toNatClampNeg
  · rw [e, iv_nI hi (by decide), ← hs] at hz; exact absurd hx hz
  · exact h.2 k (by omega) hz
theorem TYX_p {p1 p2 p3 p4 p5 x i z : Int32} {s0 : Int} {f f0 g : Nat → Int32} (hi : iv 0 19 i) (h0 : 0 ≤ s0) (h : TYX p1 p2 p3 p4 p5 s0 f f0 i.toNatClampNeg) (hs : x = tyS p1 p2 p3 p4 p5 i) (hx : ¬ x = 0) (hz : z.toInt = s0 + (tyN p1 p2 p3 p4 p5 i.toNatClampNeg : Int)) (hg : g = upd f z.toNatClampNeg x) : TYX p1 p2 p3 p4 p5 s0 g f0 (i.toNatClampNeg + 1) := by
  have q : z.toNatClampNeg = s0.toNat + tyN p1 p2 p3 p4 p5 i.toNatClampNeg := by show z.toInt.toNat = _; omega
  rw [hg, q]
  refine ⟨fun j hj => by rw [upd_ne (by omega)]; exact h.1 j hj, fun k hk hz => ?_⟩
  by_cases e : k = i.toNatClampNeg
  · rw [e, upd_at, iv_nI hi (by decide)]; exact hs
  · have := tyN_lt p1 p2 p3 p4 p5 i.toNatClampNeg (show k < i.toNatClampNeg by omega) hz
    rw [upd_ne (by omega)]
    exact h.2 k (by omega) hz

set_option maxHeartbeats 4000000 in
set_option maxRecDepth 100000 in
theorem a_type3 (l : Launch) (dC : Nat → ClassId) (dI : Nat → Nat → Nat) (h0 : Nat) (ad : Nat → Nat) (cid : Nat → ClassId) (sg : Nat → Int32) (gm : Nat → Nat → Int32) (lg : Nat → Nat → Int64) (p1 : Int32) (p2 : Int32) (p3 : Int32) (p4 : Int32) (p5 : Int32) (hI : MI sg gm) : MMi l dC dI yX13_type wm_X13_type ({ frames := 0, cells := 0, slots := 0, locals := 0 }) h0 ad cid [.int p1, .int p2, .int p3, .int p4, .int p5] sg gm lg (fun r v => ∃ (sg2 : Nat → Int32) (gm2 : Nat → Nat → Int32) (lg2 : Nat → Nat → Int64), v = (sg2, gm2, lg2) ∧ MI sg2 gm2 ∧ KS [5, 20] sg sg2 ∧ KS [19] gm gm2 ∧ KS [] lg lg2 ∧ (r.toInt = -1 ∧ gm2 19 = gm 19 ∨ TYX p1 p2 p3 p4 p5 (sg 20).toInt (gm2 19) (gm 19) 20) ∧ (TYR p1 p2 p3 p4 p5 r (sg 20) (sg2 20))) := by
  intro sz
  refine Met.ofW (cc := cX13_type) (maxL := 10) (ret := (some .int)) (by decide) rfl ?_
  intro p e s m args below meth c s₁ B hml hv
  obtain ⟨rfl, hsz, hP, hK, hD0⟩ := hv
  have hx := B.exec
  have hb := B.bytes
  have hr := B.returns
  have hts := atoms_spec (ws := wm_X13_type) B.pre
  have htb := fun (w : Cond) (h : w ∈ tb) => hts w (List.mem_cons_of_mem _ h)
  have hown : s.vm.findClass RX13 = some m.cls := findClass_of_methodNamed B.named
  have hlocks := B.notSynchronized
  subst hsz
  have hD := hD0.self (sz := s.heap.size)
  generalize hAe : va_A (mW h0 ad cid sg gm lg) s.heap.size = A at hD ⊢
  have hA : ∀ q : Nat, s.heap.size ≤ q → A q := fun q h => by rw [← hAe]; exact Or.inr h
  have hS : va_S A s.heap s.heap [] := va_S.rf
  have hl := lv_entry ([.ref h0, .int p1, .int p2, .int p3, .int p4, .int p5]) (n := 10) (Nat.le_of_ble_eq_true rfl)
  rw [lg_entry_eq]
  generalize (lg_sl ([.ref h0, .int p1, .int p2, .int p3, .int p4, .int p5]) ++ List.replicate (10 - (lg_sl ([.ref h0, .int p1, .int p2, .int p3, .int p4, .int p5])).length) Slot.unset).toArray = ls at hl ⊢
  have hl : lv_has ls 10 [(0, .ref h0), (1, .int p1), (2, .int p2), (3, .int p3), (4, .int p4), (5, .int p5)] := hl
  have hj152 : ∀ (n : Nat) (sg_j152 : Nat → Int32) (gm_j152 : Nat → Nat → Int32) (x7_152 : Int32) (x6_152 : Int32) (_ : (20 - x7_152.toInt).toNat = n) (_ : iv 0 20 x7_152) (_ : iv 0 20 x6_152) (_ : KS [5, 20] sg sg_j152) (_ : KS [19] gm gm_j152) (_ : MI sg_j152 gm_j152) (_ : TYX p1 p2 p3 p4 p5 (sg 20).toInt (gm_j152 19) (gm 19) x7_152.toNatClampNeg) (_ : (sg_j152 20).toInt = (sg 20).toInt + (tyN p1 p2 p3 p4 p5 x7_152.toNatClampNeg : Int)) (_ : (sg 20).toInt + (tyN p1 p2 p3 p4 p5 20 : Int) ≤ 1200) (_ : TYA p1 p2 p3 p4 p5 20) (_ : TYK p1 p2 p3 p4 p5 20) (H : Heap) (locs : List Loc) (ls : Array Slot), va_P (dC, dI) vwCl (mW h0 ad cid sg_j152 gm_j152 lg) H → va_D A (mW h0 ad cid sg_j152 gm_j152 lg) → va_S A s.heap H locs → lv_has ls 10 [(7, .int x7_152), (6, .int x6_152), (0, .ref h0), (1, .int p1), (2, .int p2), (3, .int p3), (4, .int p4), (5, .int p5)] → W p l e (headSpec wm_X13_type ({ frames := 0, cells := 0, slots := 0, locals := 0 })).room s m ([.ref h0, .int p1, .int p2, .int p3, .int p4, .int p5] : List Value).toArray below meth c H locs 0 0 (MQ below (va_Qi (fun r v => ∃ (sg2 : Nat → Int32) (gm2 : Nat → Nat → Int32) (lg2 : Nat → Nat → Int64), v = (sg2, gm2, lg2) ∧ MI sg2 gm2 ∧ KS [5, 20] sg sg2 ∧ KS [19] gm gm2 ∧ KS [] lg lg2 ∧ (r.toInt = -1 ∧ gm2 19 = gm 19 ∨ TYX p1 p2 p3 p4 p5 (sg 20).toInt (gm2 19) (gm 19) 20) ∧ (TYR p1 p2 p3 p4 p5 r (sg 20) (sg2 20))) (MB dC dI h0 ad cid A) A) ([.ref h0, .int p1, .int p2, .int p3, .int p4, .int p5] : List Value).toArray s 0 0 A) (F0 m 152 ls []) := by
    intro n
    induction n using Nat.strongRecOn with
    | ind n ih152 =>
      intro sg_j152 gm_j152 x7_152 x6_152 hn152 hx7_152 hx6_152 hks_j152 hkg_j152 hI_j152 hX hz2 hle hall hok H locs ls hP hD hS hl
      have hj253 : ∀ (sg_j253 : Nat → Int32) (gm_j253 : Nat → Nat → Int32) (x9_253 : Int32) (x8_253 : Int32) (_ : iv 0 126 x9_253) (_ : iv 0 19 x7_152) (_ : iv 0 20 x6_152) (_ : KS [5, 20] sg sg_j253) (_ : KS [19] gm gm_j253) (_ : MI sg_j253 gm_j253) (_ : TYX p1 p2 p3 p4 p5 (sg 20).toInt (gm_j253 19) (gm 19) (x7_152.toNatClampNeg + 1)) (_ : (sg_j253 20).toInt = (sg 20).toInt + (tyN p1 p2 p3 p4 p5 (x7_152.toNatClampNeg + 1) : Int)) (H : Heap) (locs : List Loc) (ls : Array Slot), va_P (dC, dI) vwCl (mW h0 ad cid sg_j253 gm_j253 lg) H → va_D A (mW h0 ad cid sg_j253 gm_j253 lg) → va_S A s.heap H locs → lv_has ls 10 [(9, .int x9_253), (8, .int x8_253), (7, .int x7_152), (6, .int x6_152), (0, .ref h0), (1, .int p1), (2, .int p2), (3, .int p3), (4, .int p4), (5, .int p5)] → W p l e (headSpec wm_X13_type ({ frames := 0, cells := 0, slots := 0, locals := 0 })).room s m ([.ref h0, .int p1, .int p2, .int p3, .int p4, .int p5] : List Value).toArray below meth c H locs 0 0 (MQ below (va_Qi (fun r v => ∃ (sg2 : Nat → Int32) (gm2 : Nat → Nat → Int32) (lg2 : Nat → Nat → Int64), v = (sg2, gm2, lg2) ∧ MI sg2 gm2 ∧ KS [5, 20] sg sg2 ∧ KS [19] gm gm2 ∧ KS [] lg lg2 ∧ (r.toInt = -1 ∧ gm2 19 = gm 19 ∨ TYX p1 p2 p3 p4 p5 (sg 20).toInt (gm2 19) (gm 19) 20) ∧ (TYR p1 p2 p3 p4 p5 r (sg 20) (sg2 20))) (MB dC dI h0 ad cid A) A) ([.ref h0, .int p1, .int p2, .int p3, .int p4, .int p5] : List Value).toArray s 0 0 A) (F0 m 253 ls []) := by
        intro sg_j253 gm_j253 x9_253 x8_253 hx9_253 hsx7_253 hsx6_253 hks_j253 hkg_j253 hI_j253 hX hz3 H locs ls hP hD hS hl
        obtain ⟨z_1, ez_1⟩ : ∃ z : Int32, z = x7_152 + 1 := ⟨_, rfl⟩
        have hz_1 : iv 1 20 z_1 := iv_of ez_1 (iv_add hsx7_253 (iv_k (by decide) : iv 1 1 1) (by decide))
        have tz_1 : z_1.toInt = x7_152.toInt + 1 := by rw [ez_1]; exact iv_addE hsx7_253 (iv_k (by decide) : iv 1 1 1) (by decide)
        refine lv_iinc (v := z_1) (lv' := [(7, .int z_1), (9, .int x9_253), (8, .int x8_253), (6, .int x6_152), (0, .ref h0), (1, .int p1), (2, .int p2), (3, .int p3), (4, .int p4), (5, .int p5)]) hx hb dX13_type_253 hl (k := 2) rfl ez_1.symm (by decide) rfl (fun ls hl => ?_)
        refine lv_goto (tgt := 152) hx hb dX13_type_256 (by decide) ?_
        exact ih152 _ (by rw [← hn152]; exact (iv_meas tz_1 hsx7_253 (by decide))) sg_j253 gm_j253 z_1 x6_152 rfl (iv_w hz_1 (by decide)) hsx6_253 (KS_tr (L := [5, 20]) KS_rf hks_j253 (by decide)) (KS_tr (L := [19]) KS_rf hkg_j253 (by decide)) hI_j253 (by rw [cl_s hsx7_253 tz_1]; exact hX) (by rw [cl_s hsx7_253 tz_1]; exact hz3) (hle) (hall) (hok) _ _ _ hP hD hS (lv_sub hl [0, 3, 4, 5, 6, 7, 8, 9] rfl)
      have hj205 : ∀ (sg_j205 : Nat → Int32) (gm_j205 : Nat → Nat → Int32) (y0_205 : Int32) (_ : iv 0 19 x7_152) (_ : iv 0 20 x6_152) (_ : KS [5, 20] sg sg_j205) (_ : KS [19] gm gm_j205) (_ : MI sg_j205 gm_j205) (_ : TYX p1 p2 p3 p4 p5 (sg 20).toInt (gm_j205 19) (gm 19) x7_152.toNatClampNeg) (_ : y0_205 = tyW p1 p2 p3 p4 p5 x7_152.toInt) (_ : (sg_j205 20).toInt = (sg 20).toInt + (tyN p1 p2 p3 p4 p5 x7_152.toNatClampNeg : Int)) (H : Heap) (locs : List Loc) (ls : Array Slot), va_P (dC, dI) vwCl (mW h0 ad cid sg_j205 gm_j205 lg) H → va_D A (mW h0 ad cid sg_j205 gm_j205 lg) → va_S A s.heap H locs → lv_has ls 10 [(7, .int x7_152), (6, .int x6_152), (0, .ref h0), (1, .int p1), (2, .int p2), (3, .int p3), (4, .int p4), (5, .int p5)] → W p l e (headSpec wm_X13_type ({ frames := 0, cells := 0, slots := 0, locals := 0 })).room s m ([.ref h0, .int p1, .int p2, .int p3, .int p4, .int p5] : List Value).toArray below meth c H locs 0 0 (MQ below (va_Qi (fun r v => ∃ (sg2 : Nat → Int32) (gm2 : Nat → Nat → Int32) (lg2 : Nat → Nat → Int64), v = (sg2, gm2, lg2) ∧ MI sg2 gm2 ∧ KS [5, 20] sg sg2 ∧ KS [19] gm gm2 ∧ KS [] lg lg2 ∧ (r.toInt = -1 ∧ gm2 19 = gm 19 ∨ TYX p1 p2 p3 p4 p5 (sg 20).toInt (gm2 19) (gm 19) 20) ∧ (TYR p1 p2 p3 p4 p5 r (sg 20) (sg2 20))) (MB dC dI h0 ad cid A) A) ([.ref h0, .int p1, .int p2, .int p3, .int p4, .int p5] : List Value).toArray s 0 0 A) (F0 m 205 ls [.int y0_205]) := by
        intro sg_j205 gm_j205 y0_205 hsx7_205 hsx6_205 hks_j205 hkg_j205 hI_j205 hX hw hz2 H locs ls hP hD hS hl
        refine lv_istore (lv' := [(8, .int y0_205), (7, .int x7_152), (6, .int x6_152), (0, .ref h0), (1, .int p1), (2, .int p2), (3, .int p3), (4, .int p4), (5, .int p5)]) hx hb dX13_type_205 hl (by decide) rfl (fun ls hl => ?_)
        refine lv_iload hx hb dX13_type_207 (lv_at hl 0 rfl) ?_
        refine lv_bipush (v := 24) hx hb dX13_type_209 (by decide) ?_
        refine lv_bipush (v := 8) hx hb dX13_type_211 (by decide) ?_
        refine lv_iload hx hb dX13_type_213 (lv_at hl 1 rfl) ?_
        refine lv_iconst (v := 4) hx hb dX13_type_215 (by decide) ?_
        refine lv_irem hx hb dX13_type_216 (by decide) ?_
        refine lv_topi (fun z_2 ez_2 => ?_)
        have hz_2 : iv 0 3 z_2 := iv_of ez_2 (iv_rem hsx7_205 (by decide) (by decide))
        refine lv_imul hx hb dX13_type_217 ?_
        refine lv_topi (fun z_3 ez_3 => ?_)
        have hz_3 : iv 0 24 z_3 := iv_of ez_3 (iv_mul (iv_k (by decide) : iv 8 8 8) hz_2 (by decide))
        have tz_3 : z_3.toInt = 8 * (z_2 : Int32).toInt := by rw [ez_3]; exact iv_mulE (iv_k (by decide) : iv 8 8 8) hz_2 (by decide)
        refine lv_isub hx hb dX13_type_218 ?_
        refine lv_topi (fun z_4 ez_4 => ?_)
        have hz_4 : iv 0 24 z_4 := iv_of ez_4 (iv_sub (iv_k (by decide) : iv 24 24 24) hz_3 (by decide))
        have tz_4 : z_4.toInt = 24 - (z_3 : Int32).toInt := by rw [ez_4]; exact iv_subE (iv_k (by decide) : iv 24 24 24) hz_3 (by decide)
        refine lv_ishr hx hb dX13_type_219 ?_
        refine lv_topi (fun z_5 ez_5 => ?_)
        refine lv_sipush (v := 255) hx hb dX13_type_220 (by decide) ?_
        refine lv_iand hx hb dX13_type_223 ?_
        refine lv_topi (fun z_6 ez_6 => ?_)
        have hz_6 : iv 0 255 z_6 := iv_of ez_6 (iv_255 _)
        have hs : z_6 = tyS p1 p2 p3 p4 p5 x7_152 := by unfold tyS; rw [ez_6, ez_5, ez_4, ez_3, ez_2, hw]
        refine lv_istore (lv' := [(9, .int z_6), (8, .int y0_205), (7, .int x7_152), (6, .int x6_152), (0, .ref h0), (1, .int p1), (2, .int p2), (3, .int p3), (4, .int p4), (5, .int p5)]) hx hb dX13_type_224 hl (by decide) rfl (fun ls hl => ?_)
        refine lv_iload hx hb dX13_type_226 (lv_at hl 0 rfl) ?_
        refine lv_if_eq (tgt := 253) hx hb dX13_type_228 (by decide) (fun c_7 => ?_) (fun c_7 => ?_)
        · have h_8 : iv 0 0 z_6 := iv_eq c_7 hz_6 (iv_k (by decide) : iv 0 0 0) (by decide)
          exact hj253 sg_j205 gm_j205 z_6 y0_205 (iv_w h_8 (by decide)) hsx7_205 hsx6_205 (KS_tr (L := [5, 20]) KS_rf hks_j205 (by decide)) (KS_tr (L := [19]) KS_rf hkg_j205 (by decide)) hI_j205 ((TYX_z hsx7_205 hX hs c_7)) (by rw [ty_0 hsx7_205 hs c_7]; exact hz2) _ _ _ hP hD hS (lv_sub hl [0, 1, 2, 3, 4, 5, 6, 7, 8, 9] rfl)
        · have h_9 : iv 1 255 z_6 := iv_neL c_7 hz_6 (by decide)
          have hx9 : iv 1 126 z_6 := ⟨(h_9).1, ty_in hsx7_205 hall hs⟩
          obtain ⟨k91, k92⟩ := ty_1 hsx7_205 hs c_7
          have hsz : iv 0 1199 (sg_j205 20) := ⟨(show iv 0 1200 (sg_j205 20) from MI_s hI_j205 20).1, by omega⟩
          refine lv_aload_n hx hb dX13_type_231 rfl (lv_at hl 4 rfl) ?_
          refine mr_get (v := .ref (ad 19)) hx hb htb inX13 hown hK hP 19 (by decide) (htb _ kw_180) rfl dX13_type_232 ?_
          refine lv_aload_n hx hb dX13_type_235 rfl (lv_at hl 4 rfl) ?_
          refine mr_get (v := .int (sg_j205 20)) hx hb htb inX13 hown hK hP 20 (by decide) (htb _ kw_301) rfl dX13_type_236 ?_
          refine lv_iload hx hb dX13_type_239 (lv_at hl 0 rfl) ?_
          refine lv_i2b (v := (z_6 : Int32).toInt8.toInt32) hx hb dX13_type_241 rfl ?_
          refine lv_topi (fun z_10 ez_10 => ?_)
          have hz_10 : iv (-128) 127 z_10 := iv_of ez_10 (iv_byte _)
          have fz_10 : z_6 = z_10 := (ez_10.trans ((vp_nar_byte _).symm.trans (iv_vbz hx9 (by decide)))).symm
          subst fz_10
          refine ma_bast (x := z_6) hx hb hK hP hD hS 18 (k := 19) rfl rfl rfl (show vp_in (sg_j205 20) 1200 from (iv_in hsz (by decide))) dX13_type_242 (fun gm_11 H locs egm_11 hP hD hS => ?_)
          have hI_gm_11 := MI_st hI_j205 egm_11 (iv_of (iv_vbz hx9 (by decide)) hx9) (by decide)
          refine lv_aload_n hx hb dX13_type_243 rfl (lv_at hl 4 rfl) ?_
          refine lv_dup hx hb dX13_type_244 rfl ?_
          refine mr_get (v := .int (sg_j205 20)) hx hb htb inX13 hown hK hP 20 (by decide) (htb _ kw_301) rfl dX13_type_245 ?_
          refine lv_iconst (v := 1) hx hb dX13_type_248 (by decide) ?_
          refine lv_iadd hx hb dX13_type_249 ?_
          refine lv_topi (fun z_12 ez_12 => ?_)
          have hz_12 : iv 1 1200 z_12 := iv_of ez_12 (iv_add hsz (iv_k (by decide) : iv 1 1 1) (by decide))
          have tz_12 : z_12.toInt = ((sg_j205 20) : Int32).toInt + 1 := by rw [ez_12]; exact iv_addE hsz (iv_k (by decide) : iv 1 1 1) (by decide)
          refine ma_put (x := z_12) hx hb htb inX13 hown hK hP hD hS 20 (by decide) (by decide) (htb _ kw_301) rfl rfl rfl dX13_type_250 (fun sg_13 H locs esg_13 hP hD hS => ?_)
          have hI_sg_13 := MI_put hI_gm_11 esg_13 hz_12 (by decide)
          exact hj253 sg_13 gm_11 z_6 y0_205 (iv_w hx9 (by decide)) hsx7_205 hsx6_205 (KS_up (KS_tr (L := [5, 20]) KS_rf hks_j205 (by decide)) esg_13 (by decide)) (KS_up (KS_tr (L := [19]) KS_rf hkg_j205 (by decide)) egm_11 (by decide)) hI_sg_13 ((TYX_p (z := sg_j205 20) hsx7_205 (show iv 0 1200 (sg 20) from MI_s hI 20).1 hX hs c_7 hz2 ((show gm_11 19 = upd (gm_j205 19) (sg_j205 20).toNatClampNeg (vp_nar .byte z_6) from up_at egm_11).trans (by rw [iv_vbz hx9 (by decide)])))) (by have := i32_0; have := i32_1; have := i32_2; have := i32_m1; have := congrArg Int32.toInt (show sg_13 20 = z_12 from up_at esg_13); have := (hz_12).1; have := (hz_12).2; have := (show iv 0 1200 (sg_j152 20) from MI_s hI_j152 20).1; have := (show iv 0 1200 (sg_j152 20) from MI_s hI_j152 20).2; have := (hsx7_205).1; have := (hsx7_205).2; have := (hsx6_205).1; have := (hsx6_205).2; have := (hz_2).1; have := (hz_2).2; have := (hz_3).1; have := (hz_3).2; have := (hz_4).1; have := (hz_4).2; have := (hx9).1; have := (hx9).2; have := (hsz).1; have := (hsz).2; have := (hz_10).1; have := (hz_10).2; omega) _ _ _ hP hD hS (lv_sub hl [0, 1, 2, 3, 4, 5, 6, 7, 8, 9] rfl)
      refine lv_iload hx hb dX13_type_152 (lv_at hl 0 rfl) ?_
      refine lv_bipush (v := 20) hx hb dX13_type_154 (by decide) ?_
      refine lv_icmp_ge (tgt := 259) hx hb dX13_type_156 (by decide) (fun c_14 => ?_) (fun c_14 => ?_)
      · have h_15 : iv 20 20 x7_152 := iv_leR c_14 (iv_k (by decide) : iv 20 20 20) hx7_152 (by decide)
        refine lv_aload_n hx hb dX13_type_259 rfl (lv_at hl 2 rfl) ?_
        refine mr_get (v := .int (sg_j152 20)) hx hb htb inX13 hown hK hP 20 (by decide) (htb _ kw_301) rfl dX13_type_260 ?_
        exact W.iret (v := (sg_j152 20)) hx hb hr (fun t ht hW => ⟨⟨(sg_j152 20), (sg_j152, gm_j152, lg), rfl, ⟨sg_j152, gm_j152, lg, rfl, hI_j152, (KS_tr (L := [5, 20]) KS_rf hks_j152 (by decide)), (KS_tr (L := [19]) KS_rf hkg_j152 (by decide)), KS_rf, (Or.inr (by have q9 : x7_152.toNatClampNeg = 20 := (by have := iv_cl h_15 (by decide); have := (h_15).1; have := (h_15).2; omega); rw [q9] at hX; exact hX)), (Or.inr ⟨(by { have q9 : x7_152.toNatClampNeg = 20 := by { have := iv_cl h_15 (by decide); have := (h_15).1; have := (h_15).2; omega }; rw [q9] at hz2; exact hz2 }), hok, hle, rfl⟩)⟩, by rw [ht]; exact hP, va_K.moved hW.alike hK, hD⟩, hS.F ht⟩) hS.2.2 dX13_type_263
      · have h_16 : iv 0 19 x7_152 := iv_ltL (i32_lt c_14) hx7_152 (iv_k (by decide) : iv 20 20 20) (by decide)
        refine lv_iload hx hb dX13_type_159 (lv_at hl 0 rfl) ?_
        refine lv_iconst (v := 4) hx hb dX13_type_161 (by decide) ?_
        refine lv_icmp_ge (tgt := 169) hx hb dX13_type_162 (by decide) (fun c_17 => ?_) (fun c_17 => ?_)
        · have h_18 : iv 4 19 x7_152 := iv_leR c_17 (iv_k (by decide) : iv 4 4 4) h_16 (by decide)
          refine lv_iload hx hb dX13_type_169 (lv_at hl 0 rfl) ?_
          refine lv_bipush (v := 8) hx hb dX13_type_171 (by decide) ?_
          refine lv_icmp_ge (tgt := 180) hx hb dX13_type_173 (by decide) (fun c_19 => ?_) (fun c_19 => ?_)
          · have h_20 : iv 8 19 x7_152 := iv_leR c_19 (iv_k (by decide) : iv 8 8 8) h_18 (by decide)
            refine lv_iload hx hb dX13_type_180 (lv_at hl 0 rfl) ?_
            refine lv_bipush (v := 12) hx hb dX13_type_182 (by decide) ?_
            refine lv_icmp_ge (tgt := 191) hx hb dX13_type_184 (by decide) (fun c_21 => ?_) (fun c_21 => ?_)
            · have h_22 : iv 12 19 x7_152 := iv_leR c_21 (iv_k (by decide) : iv 12 12 12) h_20 (by decide)
              refine lv_iload hx hb dX13_type_191 (lv_at hl 0 rfl) ?_
              refine lv_bipush (v := 16) hx hb dX13_type_193 (by decide) ?_
              refine lv_icmp_ge (tgt := 203) hx hb dX13_type_195 (by decide) (fun c_23 => ?_) (fun c_23 => ?_)
              · have h_24 : iv 16 19 x7_152 := iv_leR c_23 (iv_k (by decide) : iv 16 16 16) h_22 (by decide)
                refine lv_iload hx hb dX13_type_203 (lv_at hl 7 rfl) ?_
                exact hj205 sg_j152 gm_j152 p5 (iv_w h_24 (by decide)) hx6_152 (KS_tr (L := [5, 20]) KS_rf hks_j152 (by decide)) (KS_tr (L := [19]) KS_rf hkg_j152 (by decide)) hI_j152 (hX) (by have := (h_24).1; have := (h_24).2; unfold tyW; repeat (first | rw [if_pos (by omega)] | rw [if_neg (by omega)])) (hz2) _ _ _ hP hD hS (lv_sub hl [0, 1, 2, 3, 4, 5, 6, 7] rfl)
              · have h_25 : iv 12 15 x7_152 := iv_ltL (i32_lt c_23) h_22 (iv_k (by decide) : iv 16 16 16) (by decide)
                refine lv_iload hx hb dX13_type_198 (lv_at hl 6 rfl) ?_
                refine lv_goto (tgt := 205) hx hb dX13_type_200 (by decide) ?_
                exact hj205 sg_j152 gm_j152 p4 (iv_w h_25 (by decide)) hx6_152 (KS_tr (L := [5, 20]) KS_rf hks_j152 (by decide)) (KS_tr (L := [19]) KS_rf hkg_j152 (by decide)) hI_j152 (hX) (by have := (h_25).1; have := (h_25).2; unfold tyW; repeat (first | rw [if_pos (by omega)] | rw [if_neg (by omega)])) (hz2) _ _ _ hP hD hS (lv_sub hl [0, 1, 2, 3, 4, 5, 6, 7] rfl)
            · have h_26 : iv 8 11 x7_152 := iv_ltL (i32_lt c_21) h_20 (iv_k (by decide) : iv 12 12 12) (by decide)
              refine lv_iload_n hx hb dX13_type_187 rfl (lv_at hl 5 rfl) ?_
              refine lv_goto (tgt := 205) hx hb dX13_type_188 (by decide) ?_
              exact hj205 sg_j152 gm_j152 p3 (iv_w h_26 (by decide)) hx6_152 (KS_tr (L := [5, 20]) KS_rf hks_j152 (by decide)) (KS_tr (L := [19]) KS_rf hkg_j152 (by decide)) hI_j152 (hX) (by have := (h_26).1; have := (h_26).2; unfold tyW; repeat (first | rw [if_pos (by omega)] | rw [if_neg (by omega)])) (hz2) _ _ _ hP hD hS (lv_sub hl [0, 1, 2, 3, 4, 5, 6, 7] rfl)
          · have h_27 : iv 4 7 x7_152 := iv_ltL (i32_lt c_19) h_18 (iv_k (by decide) : iv 8 8 8) (by decide)
            refine lv_iload_n hx hb dX13_type_176 rfl (lv_at hl 4 rfl) ?_
            refine lv_goto (tgt := 205) hx hb dX13_type_177 (by decide) ?_
            exact hj205 sg_j152 gm_j152 p2 (iv_w h_27 (by decide)) hx6_152 (KS_tr (L := [5, 20]) KS_rf hks_j152 (by decide)) (KS_tr (L := [19]) KS_rf hkg_j152 (by decide)) hI_j152 (hX) (by have := (h_27).1; have := (h_27).2; unfold tyW; repeat (first | rw [if_pos (by omega)] | rw [if_neg (by omega)])) (hz2) _ _ _ hP hD hS (lv_sub hl [0, 1, 2, 3, 4, 5, 6, 7] rfl)
        · have h_28 : iv 0 3 x7_152 := iv_ltL (i32_lt c_17) h_16 (iv_k (by decide) : iv 4 4 4) (by decide)
          refine lv_iload_n hx hb dX13_type_165 rfl (lv_at hl 3 rfl) ?_
          refine lv_goto (tgt := 205) hx hb dX13_type_166 (by decide) ?_
          exact hj205 sg_j152 gm_j152 p1 (iv_w h_28 (by decide)) hx6_152 (KS_tr (L := [5, 20]) KS_rf hks_j152 (by decide)) (KS_tr (L := [19]) KS_rf hkg_j152 (by decide)) hI_j152 (hX) (by have := (h_28).1; have := (h_28).2; unfold tyW; repeat (first | rw [if_pos (by omega)] | rw [if_neg (by omega)])) (hz2) _ _ _ hP hD hS (lv_sub hl [0, 1, 2, 3, 4, 5, 6, 7] rfl)
  have hj111 : ∀ (sg_j111 : Nat → Int32) (x9_111 : Int32) (x8_111 : Int32) (x7_111 : Int32) (x6_111 : Int32) (_ : iv 1 255 x9_111) (_ : iv 0 19 x7_111) (_ : iv 0 20 x6_111) (_ : KS [5] sg sg_j111) (_ : MI sg_j111 gm) (_ : ¬ TYK p1 p2 p3 p4 p5 20) (H : Heap) (locs : List Loc) (ls : Array Slot), va_P (dC, dI) vwCl (mW h0 ad cid sg_j111 gm lg) H → va_D A (mW h0 ad cid sg_j111 gm lg) → va_S A s.heap H locs → lv_has ls 10 [(9, .int x9_111), (8, .int x8_111), (7, .int x7_111), (6, .int x6_111), (0, .ref h0), (1, .int p1), (2, .int p2), (3, .int p3), (4, .int p4), (5, .int p5)] → W p l e (headSpec wm_X13_type ({ frames := 0, cells := 0, slots := 0, locals := 0 })).room s m ([.ref h0, .int p1, .int p2, .int p3, .int p4, .int p5] : List Value).toArray below meth c H locs 0 0 (MQ below (va_Qi (fun r v => ∃ (sg2 : Nat → Int32) (gm2 : Nat → Nat → Int32) (lg2 : Nat → Nat → Int64), v = (sg2, gm2, lg2) ∧ MI sg2 gm2 ∧ KS [5, 20] sg sg2 ∧ KS [19] gm gm2 ∧ KS [] lg lg2 ∧ (r.toInt = -1 ∧ gm2 19 = gm 19 ∨ TYX p1 p2 p3 p4 p5 (sg 20).toInt (gm2 19) (gm 19) 20) ∧ (TYR p1 p2 p3 p4 p5 r (sg 20) (sg2 20))) (MB dC dI h0 ad cid A) A) ([.ref h0, .int p1, .int p2, .int p3, .int p4, .int p5] : List Value).toArray s 0 0 A) (F0 m 111 ls []) := by
    intro sg_j111 x9_111 x8_111 x7_111 x6_111 hx9_111 hx7_111 hx6_111 hks_j111 hI_j111 hbad H locs ls hP hD hS hl
    refine lv_iconst (v := (-1)) hx hb dX13_type_111 (by decide) ?_
    exact W.iret (v := (-1)) hx hb hr (fun t ht hW => ⟨⟨(-1), (sg_j111, gm, lg), rfl, ⟨sg_j111, gm, lg, rfl, hI_j111, (KS_tr (L := [5, 20]) KS_rf hks_j111 (by decide)), KS_rf, KS_rf, (Or.inl ⟨rfl, rfl⟩), (Or.inl ⟨rfl, Or.inl hbad, (show sg_j111 20 = sg 20 from (hks_j111 20 (by decide)))⟩)⟩, by rw [ht]; exact hP, va_K.moved hW.alike hK, hD⟩, hS.F ht⟩) hS.2.2 dX13_type_112
  have hj11 : ∀ (n : Nat) (sg_j11 : Nat → Int32) (x7_11 : Int32) (x6_11 : Int32) (_ : (20 - x7_11.toInt).toNat = n) (_ : iv 0 20 x7_11) (_ : iv 0 20 x6_11) (_ : KS [5] sg sg_j11) (_ : MI sg_j11 gm) (_ : x6_11.toInt = (tyN p1 p2 p3 p4 p5 x7_11.toNatClampNeg : Int)) (_ : TYA p1 p2 p3 p4 p5 x7_11.toNatClampNeg) (_ : TYK p1 p2 p3 p4 p5 x7_11.toNatClampNeg) (H : Heap) (locs : List Loc) (ls : Array Slot), va_P (dC, dI) vwCl (mW h0 ad cid sg_j11 gm lg) H → va_D A (mW h0 ad cid sg_j11 gm lg) → va_S A s.heap H locs → lv_has ls 10 [(7, .int x7_11), (6, .int x6_11), (0, .ref h0), (1, .int p1), (2, .int p2), (3, .int p3), (4, .int p4), (5, .int p5)] → W p l e (headSpec wm_X13_type ({ frames := 0, cells := 0, slots := 0, locals := 0 })).room s m ([.ref h0, .int p1, .int p2, .int p3, .int p4, .int p5] : List Value).toArray below meth c H locs 0 0 (MQ below (va_Qi (fun r v => ∃ (sg2 : Nat → Int32) (gm2 : Nat → Nat → Int32) (lg2 : Nat → Nat → Int64), v = (sg2, gm2, lg2) ∧ MI sg2 gm2 ∧ KS [5, 20] sg sg2 ∧ KS [19] gm gm2 ∧ KS [] lg lg2 ∧ (r.toInt = -1 ∧ gm2 19 = gm 19 ∨ TYX p1 p2 p3 p4 p5 (sg 20).toInt (gm2 19) (gm 19) 20) ∧ (TYR p1 p2 p3 p4 p5 r (sg 20) (sg2 20))) (MB dC dI h0 ad cid A) A) ([.ref h0, .int p1, .int p2, .int p3, .int p4, .int p5] : List Value).toArray s 0 0 A) (F0 m 11 ls []) := by
    intro n
    induction n using Nat.strongRecOn with
    | ind n ih11 =>
      intro sg_j11 x7_11 x6_11 hn11 hx7_11 hx6_11 hks_j11 hI_j11 hn hall hok H locs ls hP hD hS hl
      have hj125 : ∀ (sg_j125 : Nat → Int32) (x9_125 : Int32) (x8_125 : Int32) (y0_125 : Int32) (_ : iv 0 126 x9_125) (_ : iv 0 19 x7_11) (_ : iv 0 20 x6_11) (_ : iv 0 1 y0_125) (_ : iv 0 20 x6_11) (_ : KS [5] sg sg_j125) (_ : MI sg_j125 gm) (_ : x9_125 = tyS p1 p2 p3 p4 p5 x7_11) (_ : x9_125.toInt ≤ 126) (_ : (x9_125 = 0 ∧ y0_125 = 0) ∨ (¬ x9_125 = 0 ∧ y0_125 = 1)) (_ : (x9_125.toInt = 0 ∨ x9_125.toInt = 10 ∨ 32 ≤ x9_125.toInt ∧ x9_125.toInt ≤ 126)) (H : Heap) (locs : List Loc) (ls : Array Slot), va_P (dC, dI) vwCl (mW h0 ad cid sg_j125 gm lg) H → va_D A (mW h0 ad cid sg_j125 gm lg) → va_S A s.heap H locs → lv_has ls 10 [(9, .int x9_125), (8, .int x8_125), (7, .int x7_11), (6, .int x6_11), (0, .ref h0), (1, .int p1), (2, .int p2), (3, .int p3), (4, .int p4), (5, .int p5)] → W p l e (headSpec wm_X13_type ({ frames := 0, cells := 0, slots := 0, locals := 0 })).room s m ([.ref h0, .int p1, .int p2, .int p3, .int p4, .int p5] : List Value).toArray below meth c H locs 0 0 (MQ below (va_Qi (fun r v => ∃ (sg2 : Nat → Int32) (gm2 : Nat → Nat → Int32) (lg2 : Nat → Nat → Int64), v = (sg2, gm2, lg2) ∧ MI sg2 gm2 ∧ KS [5, 20] sg sg2 ∧ KS [19] gm gm2 ∧ KS [] lg lg2 ∧ (r.toInt = -1 ∧ gm2 19 = gm 19 ∨ TYX p1 p2 p3 p4 p5 (sg 20).toInt (gm2 19) (gm 19) 20) ∧ (TYR p1 p2 p3 p4 p5 r (sg 20) (sg2 20))) (MB dC dI h0 ad cid A) A) ([.ref h0, .int p1, .int p2, .int p3, .int p4, .int p5] : List Value).toArray s 0 0 A) (F0 m 125 ls [.int y0_125, .int x6_11]) := by
        intro sg_j125 x9_125 x8_125 y0_125 hx9_125 hsx7_125 hsx6_125 hy0_125 hsy1_125 hks_j125 hI_j125 hs h126 ht hk H locs ls hP hD hS hl
        refine lv_iadd hx hb dX13_type_125 ?_
        refine lv_topi (fun z_29 ez_29 => ?_)
        have hz_29 : iv 0 21 z_29 := iv_of ez_29 (iv_add hsy1_125 hy0_125 (by decide))
        have tz_29 : z_29.toInt = (x6_11 : Int32).toInt + (y0_125 : Int32).toInt := by rw [ez_29]; exact iv_addE hsy1_125 hy0_125 (by decide)
        obtain ⟨hn9, hz9⟩ := ty_z hsx7_125 tz_29 hn hs ht
        refine lv_istore (lv' := [(6, .int z_29), (9, .int x9_125), (8, .int x8_125), (7, .int x7_11), (0, .ref h0), (1, .int p1), (2, .int p2), (3, .int p3), (4, .int p4), (5, .int p5)]) hx hb dX13_type_126 hl (by decide) rfl (fun ls hl => ?_)
        obtain ⟨z_30, ez_30⟩ : ∃ z : Int32, z = x7_11 + 1 := ⟨_, rfl⟩
        have hz_30 : iv 1 20 z_30 := iv_of ez_30 (iv_add hsx7_125 (iv_k (by decide) : iv 1 1 1) (by decide))
        have tz_30 : z_30.toInt = x7_11.toInt + 1 := by rw [ez_30]; exact iv_addE hsx7_125 (iv_k (by decide) : iv 1 1 1) (by decide)
        refine lv_iinc (v := z_30) (lv' := [(7, .int z_30), (6, .int z_29), (9, .int x9_125), (8, .int x8_125), (0, .ref h0), (1, .int p1), (2, .int p2), (3, .int p3), (4, .int p4), (5, .int p5)]) hx hb dX13_type_128 hl (k := 3) rfl ez_30.symm (by decide) rfl (fun ls hl => ?_)
        refine lv_goto (tgt := 11) hx hb dX13_type_131 (by decide) ?_
        exact ih11 _ (by rw [← hn11]; exact (iv_meas tz_30 hsx7_125 (by decide))) sg_j125 z_30 z_29 rfl (iv_w hz_30 (by decide)) hz9 (KS_tr (L := [5]) KS_rf hks_j125 (by decide)) hI_j125 (by rw [cl_s hsx7_125 tz_30]; exact hn9) (by rw [cl_s hsx7_125 tz_30]; exact ty_a hsx7_125 hall hs h126) (by rw [cl_s hsx7_125 tz_30]; exact ty_k hsx7_125 hok hs hk) _ _ _ hP hD hS (lv_sub hl [0, 1, 4, 5, 6, 7, 8, 9] rfl)
      have hj113 : ∀ (sg_j113 : Nat → Int32) (x9_113 : Int32) (x8_113 : Int32) (_ : iv 0 126 x9_113) (_ : iv 0 19 x7_11) (_ : iv 0 20 x6_11) (_ : KS [5] sg sg_j113) (_ : MI sg_j113 gm) (_ : x9_113 = tyS p1 p2 p3 p4 p5 x7_11) (_ : x9_113.toInt ≤ 126) (_ : (x9_113.toInt = 0 ∨ x9_113.toInt = 10 ∨ 32 ≤ x9_113.toInt ∧ x9_113.toInt ≤ 126)) (H : Heap) (locs : List Loc) (ls : Array Slot), va_P (dC, dI) vwCl (mW h0 ad cid sg_j113 gm lg) H → va_D A (mW h0 ad cid sg_j113 gm lg) → va_S A s.heap H locs → lv_has ls 10 [(9, .int x9_113), (8, .int x8_113), (7, .int x7_11), (6, .int x6_11), (0, .ref h0), (1, .int p1), (2, .int p2), (3, .int p3), (4, .int p4), (5, .int p5)] → W p l e (headSpec wm_X13_type ({ frames := 0, cells := 0, slots := 0, locals := 0 })).room s m ([.ref h0, .int p1, .int p2, .int p3, .int p4, .int p5] : List Value).toArray below meth c H locs 0 0 (MQ below (va_Qi (fun r v => ∃ (sg2 : Nat → Int32) (gm2 : Nat → Nat → Int32) (lg2 : Nat → Nat → Int64), v = (sg2, gm2, lg2) ∧ MI sg2 gm2 ∧ KS [5, 20] sg sg2 ∧ KS [19] gm gm2 ∧ KS [] lg lg2 ∧ (r.toInt = -1 ∧ gm2 19 = gm 19 ∨ TYX p1 p2 p3 p4 p5 (sg 20).toInt (gm2 19) (gm 19) 20) ∧ (TYR p1 p2 p3 p4 p5 r (sg 20) (sg2 20))) (MB dC dI h0 ad cid A) A) ([.ref h0, .int p1, .int p2, .int p3, .int p4, .int p5] : List Value).toArray s 0 0 A) (F0 m 113 ls []) := by
        intro sg_j113 x9_113 x8_113 hx9_113 hsx7_113 hsx6_113 hks_j113 hI_j113 hs h126 hk H locs ls hP hD hS hl
        refine lv_iload hx hb dX13_type_113 (lv_at hl 3 rfl) ?_
        refine lv_iload hx hb dX13_type_115 (lv_at hl 0 rfl) ?_
        refine lv_if_eq (tgt := 124) hx hb dX13_type_117 (by decide) (fun c_31 => ?_) (fun c_31 => ?_)
        · have h_32 : iv 0 0 x9_113 := iv_eq c_31 hx9_113 (iv_k (by decide) : iv 0 0 0) (by decide)
          refine lv_iconst (v := 0) hx hb dX13_type_124 (by decide) ?_
          exact hj125 sg_j113 x9_113 x8_113 0 (iv_w h_32 (by decide)) hsx7_113 hsx6_113 (iv_w (iv_k (by decide) : iv 0 0 0) (by decide)) hsx6_113 (KS_tr (L := [5]) KS_rf hks_j113 (by decide)) hI_j113 (hs) (h126) (Or.inl ⟨c_31, rfl⟩) (hk) _ _ _ hP hD hS (lv_sub hl [0, 1, 2, 3, 4, 5, 6, 7, 8, 9] rfl)
        · have h_33 : iv 1 126 x9_113 := iv_neL c_31 hx9_113 (by decide)
          refine lv_iconst (v := 1) hx hb dX13_type_120 (by decide) ?_
          refine lv_goto (tgt := 125) hx hb dX13_type_121 (by decide) ?_
          exact hj125 sg_j113 x9_113 x8_113 1 (iv_w h_33 (by decide)) hsx7_113 hsx6_113 (iv_w (iv_k (by decide) : iv 1 1 1) (by decide)) hsx6_113 (KS_tr (L := [5]) KS_rf hks_j113 (by decide)) hI_j113 (hs) (h126) (Or.inr ⟨c_31, rfl⟩) (hk) _ _ _ hP hD hS (lv_sub hl [0, 1, 2, 3, 4, 5, 6, 7, 8, 9] rfl)
      have hj64 : ∀ (sg_j64 : Nat → Int32) (y0_64 : Int32) (_ : iv 0 19 x7_11) (_ : iv 0 20 x6_11) (_ : KS [5] sg sg_j64) (_ : MI sg_j64 gm) (_ : y0_64 = tyW p1 p2 p3 p4 p5 x7_11.toInt) (H : Heap) (locs : List Loc) (ls : Array Slot), va_P (dC, dI) vwCl (mW h0 ad cid sg_j64 gm lg) H → va_D A (mW h0 ad cid sg_j64 gm lg) → va_S A s.heap H locs → lv_has ls 10 [(7, .int x7_11), (6, .int x6_11), (0, .ref h0), (1, .int p1), (2, .int p2), (3, .int p3), (4, .int p4), (5, .int p5)] → W p l e (headSpec wm_X13_type ({ frames := 0, cells := 0, slots := 0, locals := 0 })).room s m ([.ref h0, .int p1, .int p2, .int p3, .int p4, .int p5] : List Value).toArray below meth c H locs 0 0 (MQ below (va_Qi (fun r v => ∃ (sg2 : Nat → Int32) (gm2 : Nat → Nat → Int32) (lg2 : Nat → Nat → Int64), v = (sg2, gm2, lg2) ∧ MI sg2 gm2 ∧ KS [5, 20] sg sg2 ∧ KS [19] gm gm2 ∧ KS [] lg lg2 ∧ (r.toInt = -1 ∧ gm2 19 = gm 19 ∨ TYX p1 p2 p3 p4 p5 (sg 20).toInt (gm2 19) (gm 19) 20) ∧ (TYR p1 p2 p3 p4 p5 r (sg 20) (sg2 20))) (MB dC dI h0 ad cid A) A) ([.ref h0, .int p1, .int p2, .int p3, .int p4, .int p5] : List Value).toArray s 0 0 A) (F0 m 64 ls [.int y0_64]) := by
        intro sg_j64 y0_64 hsx7_64 hsx6_64 hks_j64 hI_j64 hw H locs ls hP hD hS hl
        refine lv_istore (lv' := [(8, .int y0_64), (7, .int x7_11), (6, .int x6_11), (0, .ref h0), (1, .int p1), (2, .int p2), (3, .int p3), (4, .int p4), (5, .int p5)]) hx hb dX13_type_64 hl (by decide) rfl (fun ls hl => ?_)
        refine lv_iload hx hb dX13_type_66 (lv_at hl 0 rfl) ?_
        refine lv_bipush (v := 24) hx hb dX13_type_68 (by decide) ?_
        refine lv_bipush (v := 8) hx hb dX13_type_70 (by decide) ?_
        refine lv_iload hx hb dX13_type_72 (lv_at hl 1 rfl) ?_
        refine lv_iconst (v := 4) hx hb dX13_type_74 (by decide) ?_
        refine lv_irem hx hb dX13_type_75 (by decide) ?_
        refine lv_topi (fun z_34 ez_34 => ?_)
        have hz_34 : iv 0 3 z_34 := iv_of ez_34 (iv_rem hsx7_64 (by decide) (by decide))
        refine lv_imul hx hb dX13_type_76 ?_
        refine lv_topi (fun z_35 ez_35 => ?_)
        have hz_35 : iv 0 24 z_35 := iv_of ez_35 (iv_mul (iv_k (by decide) : iv 8 8 8) hz_34 (by decide))
        have tz_35 : z_35.toInt = 8 * (z_34 : Int32).toInt := by rw [ez_35]; exact iv_mulE (iv_k (by decide) : iv 8 8 8) hz_34 (by decide)
        refine lv_isub hx hb dX13_type_77 ?_
        refine lv_topi (fun z_36 ez_36 => ?_)
        have hz_36 : iv 0 24 z_36 := iv_of ez_36 (iv_sub (iv_k (by decide) : iv 24 24 24) hz_35 (by decide))
        have tz_36 : z_36.toInt = 24 - (z_35 : Int32).toInt := by rw [ez_36]; exact iv_subE (iv_k (by decide) : iv 24 24 24) hz_35 (by decide)
        refine lv_ishr hx hb dX13_type_78 ?_
        refine lv_topi (fun z_37 ez_37 => ?_)
        refine lv_sipush (v := 255) hx hb dX13_type_79 (by decide) ?_
        refine lv_iand hx hb dX13_type_82 ?_
        refine lv_topi (fun z_38 ez_38 => ?_)
        have hz_38 : iv 0 255 z_38 := iv_of ez_38 (iv_255 _)
        have hs : z_38 = tyS p1 p2 p3 p4 p5 x7_11 := by unfold tyS; rw [ez_38, ez_37, ez_36, ez_35, ez_34, hw]
        refine lv_istore (lv' := [(9, .int z_38), (8, .int y0_64), (7, .int x7_11), (6, .int x6_11), (0, .ref h0), (1, .int p1), (2, .int p2), (3, .int p3), (4, .int p4), (5, .int p5)]) hx hb dX13_type_83 hl (by decide) rfl (fun ls hl => ?_)
        refine lv_iload hx hb dX13_type_85 (lv_at hl 0 rfl) ?_
        refine lv_if_eq (tgt := 113) hx hb dX13_type_87 (by decide) (fun c_39 => ?_) (fun c_39 => ?_)
        · have h_40 : iv 0 0 z_38 := iv_eq c_39 hz_38 (iv_k (by decide) : iv 0 0 0) (by decide)
          exact hj113 sg_j64 z_38 y0_64 (iv_w h_40 (by decide)) hsx7_64 hsx6_64 (KS_tr (L := [5]) KS_rf hks_j64 (by decide)) hI_j64 (hs) (by have := i32_0; have := i32_1; have := i32_2; have := i32_m1; have := (hsx7_64).1; have := (hsx7_64).2; have := (hsx6_64).1; have := (hsx6_64).2; have := (hz_34).1; have := (hz_34).2; have := (hz_35).1; have := (hz_35).2; have := (hz_36).1; have := (hz_36).2; have := (h_40).1; have := (h_40).2; omega) (by have := i32_0; have := i32_1; have := i32_2; have := i32_m1; have := (hsx7_64).1; have := (hsx7_64).2; have := (hsx6_64).1; have := (hsx6_64).2; have := (hz_34).1; have := (hz_34).2; have := (hz_35).1; have := (hz_35).2; have := (hz_36).1; have := (hz_36).2; have := (h_40).1; have := (h_40).2; omega) _ _ _ hP hD hS (lv_sub hl [0, 1, 2, 3, 4, 5, 6, 7, 8, 9] rfl)
        · have h_41 : iv 1 255 z_38 := iv_neL c_39 hz_38 (by decide)
          refine lv_iload hx hb dX13_type_90 (lv_at hl 0 rfl) ?_
          refine lv_bipush (v := 10) hx hb dX13_type_92 (by decide) ?_
          refine lv_icmp_eq (tgt := 113) hx hb dX13_type_94 (by decide) (fun c_42 => ?_) (fun c_42 => ?_)
          · have h_43 : iv 10 10 z_38 := iv_eq c_42 h_41 (iv_k (by decide) : iv 10 10 10) (by decide)
            exact hj113 sg_j64 z_38 y0_64 (iv_w h_43 (by decide)) hsx7_64 hsx6_64 (KS_tr (L := [5]) KS_rf hks_j64 (by decide)) hI_j64 (hs) (by have := i32_0; have := i32_1; have := i32_2; have := i32_m1; have := (hsx7_64).1; have := (hsx7_64).2; have := (hsx6_64).1; have := (hsx6_64).2; have := (hz_34).1; have := (hz_34).2; have := (hz_35).1; have := (hz_35).2; have := (hz_36).1; have := (hz_36).2; have := (h_43).1; have := (h_43).2; omega) (by have := i32_0; have := i32_1; have := i32_2; have := i32_m1; have := (hsx7_64).1; have := (hsx7_64).2; have := (hsx6_64).1; have := (hsx6_64).2; have := (hz_34).1; have := (hz_34).2; have := (hz_35).1; have := (hz_35).2; have := (hz_36).1; have := (hz_36).2; have := (h_43).1; have := (h_43).2; omega) _ _ _ hP hD hS (lv_sub hl [0, 1, 2, 3, 4, 5, 6, 7, 8, 9] rfl)
          · have d_44 : ¬ (z_38 : Int32).toInt = 10 := lv_neT c_42 rfl
            refine lv_iload hx hb dX13_type_97 (lv_at hl 0 rfl) ?_
            refine lv_bipush (v := 32) hx hb dX13_type_99 (by decide) ?_
            refine lv_icmp_lt (tgt := 111) hx hb dX13_type_101 (by decide) (fun c_45 => ?_) (fun c_45 => ?_)
            · have h_46 : iv 1 31 z_38 := iv_ltL c_45 h_41 (iv_k (by decide) : iv 32 32 32) (by decide)
              exact hj111 sg_j64 z_38 y0_64 x7_11 x6_11 (iv_w h_46 (by decide)) hsx7_64 hsx6_64 (KS_tr (L := [5]) KS_rf hks_j64 (by decide)) hI_j64 ((ty_bad hsx7_64 hs (by { have n10 : ¬ z_38.toInt = 10 := fun q => c_42 (Int32.toInt_inj.mp q); have := i32_0; have := i32_1; have := i32_2; have := i32_m1; have := (hsx7_64).1; have := (hsx7_64).2; have := (hsx6_64).1; have := (hsx6_64).2; have := (hz_34).1; have := (hz_34).2; have := (hz_35).1; have := (hz_35).2; have := (hz_36).1; have := (hz_36).2; have := (h_46).1; have := (h_46).2; omega }))) _ _ _ hP hD hS (lv_sub hl [0, 1, 2, 3, 4, 5, 6, 7, 8, 9] rfl)
            · have h_47 : iv 32 255 z_38 := iv_leR (i32_ge c_45) (iv_k (by decide) : iv 32 32 32) h_41 (by decide)
              refine lv_iload hx hb dX13_type_104 (lv_at hl 0 rfl) ?_
              refine lv_bipush (v := 126) hx hb dX13_type_106 (by decide) ?_
              refine lv_icmp_le (tgt := 113) hx hb dX13_type_108 (by decide) (fun c_48 => ?_) (fun c_48 => ?_)
              · have h_49 : iv 32 126 z_38 := iv_leL c_48 h_47 (iv_k (by decide) : iv 126 126 126) (by decide)
                exact hj113 sg_j64 z_38 y0_64 (iv_w h_49 (by decide)) hsx7_64 hsx6_64 (KS_tr (L := [5]) KS_rf hks_j64 (by decide)) hI_j64 (hs) (by have := i32_0; have := i32_1; have := i32_2; have := i32_m1; have := (hsx7_64).1; have := (hsx7_64).2; have := (hsx6_64).1; have := (hsx6_64).2; have := (hz_34).1; have := (hz_34).2; have := (hz_35).1; have := (hz_35).2; have := (hz_36).1; have := (hz_36).2; have := (h_49).1; have := (h_49).2; omega) (by have := i32_0; have := i32_1; have := i32_2; have := i32_m1; have := (hsx7_64).1; have := (hsx7_64).2; have := (hsx6_64).1; have := (hsx6_64).2; have := (hz_34).1; have := (hz_34).2; have := (hz_35).1; have := (hz_35).2; have := (hz_36).1; have := (hz_36).2; have := (h_49).1; have := (h_49).2; omega) _ _ _ hP hD hS (lv_sub hl [0, 1, 2, 3, 4, 5, 6, 7, 8, 9] rfl)
              · have h_50 : iv 127 255 z_38 := iv_ltR (i32_lt c_48) (iv_k (by decide) : iv 126 126 126) h_47 (by decide)
                exact hj111 sg_j64 z_38 y0_64 x7_11 x6_11 (iv_w h_50 (by decide)) hsx7_64 hsx6_64 (KS_tr (L := [5]) KS_rf hks_j64 (by decide)) hI_j64 ((ty_bad hsx7_64 hs (by { have n10 : ¬ z_38.toInt = 10 := fun q => c_42 (Int32.toInt_inj.mp q); have := i32_0; have := i32_1; have := i32_2; have := i32_m1; have := (hsx7_64).1; have := (hsx7_64).2; have := (hsx6_64).1; have := (hsx6_64).2; have := (hz_34).1; have := (hz_34).2; have := (hz_35).1; have := (hz_35).2; have := (hz_36).1; have := (hz_36).2; have := (h_50).1; have := (h_50).2; omega }))) _ _ _ hP hD hS (lv_sub hl [0, 1, 2, 3, 4, 5, 6, 7, 8, 9] rfl)
      refine lv_iload hx hb dX13_type_11 (lv_at hl 0 rfl) ?_
      refine lv_bipush (v := 20) hx hb dX13_type_13 (by decide) ?_
      refine lv_icmp_ge (tgt := 134) hx hb dX13_type_15 (by decide) (fun c_51 => ?_) (fun c_51 => ?_)
      · have h_52 : iv 20 20 x7_11 := iv_leR c_51 (iv_k (by decide) : iv 20 20 20) hx7_11 (by decide)
        refine lv_aload_n hx hb dX13_type_134 rfl (lv_at hl 2 rfl) ?_
        refine mr_get (v := .int (sg_j11 20)) hx hb htb inX13 hown hK hP 20 (by decide) (htb _ kw_301) rfl dX13_type_135 ?_
        refine lv_topi (fun z_53 ez_53 => ?_)
        obtain rfl : (sg 20) = z_53 := (ez_53.trans (hks_j11 20 (by decide))).symm
        refine lv_iload hx hb dX13_type_138 (lv_at hl 1 rfl) ?_
        refine lv_iadd hx hb dX13_type_140 ?_
        refine lv_topi (fun z_54 ez_54 => ?_)
        have hz_54 : iv 0 1220 z_54 := iv_of ez_54 (iv_add (show iv 0 1200 (sg 20) from MI_s hI 20) hx6_11 (by decide))
        have tz_54 : z_54.toInt = ((sg 20) : Int32).toInt + (x6_11 : Int32).toInt := by rw [ez_54]; exact iv_addE (show iv 0 1200 (sg 20) from MI_s hI 20) hx6_11 (by decide)
        refine lv_sipush (v := 1200) hx hb dX13_type_141 (by decide) ?_
        refine lv_icmp_le (tgt := 149) hx hb dX13_type_144 (by decide) (fun c_55 => ?_) (fun c_55 => ?_)
        · have h_56 : iv 0 1200 z_54 := iv_leL c_55 hz_54 (iv_k (by decide) : iv 1200 1200 1200) (by decide)
          refine lv_iconst (v := 0) hx hb dX13_type_149 (by decide) ?_
          refine lv_istore (lv' := [(7, .int 0), (6, .int x6_11), (0, .ref h0), (1, .int p1), (2, .int p2), (3, .int p3), (4, .int p4), (5, .int p5)]) hx hb dX13_type_150 hl (by decide) rfl (fun ls hl => ?_)
          exact hj152 _ sg_j11 gm 0 x6_11 rfl (iv_w (iv_k (by decide) : iv 0 0 0) (by decide)) hx6_11 (KS_tr (L := [5, 20]) KS_rf hks_j11 (by decide)) KS_rf hI_j11 (TYX_0) ((by { have q8 := congrArg Int32.toInt (show sg_j11 20 = sg 20 from (hks_j11 20 (by decide))); show _ = _ + ((0 : Nat) : Int); omega })) ((by { have q9 : x7_11.toNatClampNeg = 20 := by { have := iv_cl h_52 (by decide); have := (h_52).1; have := (h_52).2; omega }; rw [q9] at hn; have q8 := congrArg Int32.toInt (show sg_j11 20 = sg 20 from (hks_j11 20 (by decide))); have := tz_54; have := (h_56).2; have := i32_0; have := i32_1; have := i32_2; have := i32_m1; have := (h_52).1; have := (h_52).2; have := (hx6_11).1; have := (hx6_11).2; have := ((show iv 0 1200 (sg 20) from MI_s hI 20)).1; have := ((show iv 0 1200 (sg 20) from MI_s hI 20)).2; have := (h_56).1; have := (h_56).2; omega })) (by have q9 : x7_11.toNatClampNeg = 20 := by { have := iv_cl h_52 (by decide); have := (h_52).1; have := (h_52).2; omega }; rw [q9] at hall; exact hall) (by have q9 : x7_11.toNatClampNeg = 20 := by { have := iv_cl h_52 (by decide); have := (h_52).1; have := (h_52).2; omega }; rw [q9] at hok; exact hok) _ _ _ hP hD hS (lv_sub hl [0, 1, 2, 3, 4, 5, 6, 7] rfl)
        · have h_57 : iv 1201 1220 z_54 := iv_ltR (i32_lt c_55) (iv_k (by decide) : iv 1200 1200 1200) hz_54 (by decide)
          refine lv_iconst (v := (-1)) hx hb dX13_type_147 (by decide) ?_
          exact W.iret (v := (-1)) hx hb hr (fun t ht hW => ⟨⟨(-1), (sg_j11, gm, lg), rfl, ⟨sg_j11, gm, lg, rfl, hI_j11, (KS_tr (L := [5, 20]) KS_rf hks_j11 (by decide)), KS_rf, KS_rf, (Or.inl ⟨rfl, rfl⟩), (Or.inl ⟨rfl, Or.inr (by { have q9 : x7_11.toNatClampNeg = 20 := by { have := iv_cl h_52 (by decide); have := (h_52).1; have := (h_52).2; omega }; rw [q9] at hn; have q8 := congrArg Int32.toInt (show sg_j11 20 = sg 20 from (hks_j11 20 (by decide))); have := tz_54; have := (h_57).1; have := i32_0; have := i32_1; have := i32_2; have := i32_m1; have := (h_52).1; have := (h_52).2; have := (hx6_11).1; have := (hx6_11).2; have := ((show iv 0 1200 (sg 20) from MI_s hI 20)).1; have := ((show iv 0 1200 (sg 20) from MI_s hI 20)).2; have := (h_57).1; have := (h_57).2; omega }), (show sg_j11 20 = sg 20 from (hks_j11 20 (by decide)))⟩)⟩, by rw [ht]; exact hP, va_K.moved hW.alike hK, hD⟩, hS.F ht⟩) hS.2.2 dX13_type_148
      · have h_58 : iv 0 19 x7_11 := iv_ltL (i32_lt c_51) hx7_11 (iv_k (by decide) : iv 20 20 20) (by decide)
        refine lv_iload hx hb dX13_type_18 (lv_at hl 0 rfl) ?_
        refine lv_iconst (v := 4) hx hb dX13_type_20 (by decide) ?_
        refine lv_icmp_ge (tgt := 28) hx hb dX13_type_21 (by decide) (fun c_59 => ?_) (fun c_59 => ?_)
        · have h_60 : iv 4 19 x7_11 := iv_leR c_59 (iv_k (by decide) : iv 4 4 4) h_58 (by decide)
          refine lv_iload hx hb dX13_type_28 (lv_at hl 0 rfl) ?_
          refine lv_bipush (v := 8) hx hb dX13_type_30 (by decide) ?_
          refine lv_icmp_ge (tgt := 39) hx hb dX13_type_32 (by decide) (fun c_61 => ?_) (fun c_61 => ?_)
          · have h_62 : iv 8 19 x7_11 := iv_leR c_61 (iv_k (by decide) : iv 8 8 8) h_60 (by decide)
            refine lv_iload hx hb dX13_type_39 (lv_at hl 0 rfl) ?_
            refine lv_bipush (v := 12) hx hb dX13_type_41 (by decide) ?_
            refine lv_icmp_ge (tgt := 50) hx hb dX13_type_43 (by decide) (fun c_63 => ?_) (fun c_63 => ?_)
            · have h_64 : iv 12 19 x7_11 := iv_leR c_63 (iv_k (by decide) : iv 12 12 12) h_62 (by decide)
              refine lv_iload hx hb dX13_type_50 (lv_at hl 0 rfl) ?_
              refine lv_bipush (v := 16) hx hb dX13_type_52 (by decide) ?_
              refine lv_icmp_ge (tgt := 62) hx hb dX13_type_54 (by decide) (fun c_65 => ?_) (fun c_65 => ?_)
              · have h_66 : iv 16 19 x7_11 := iv_leR c_65 (iv_k (by decide) : iv 16 16 16) h_64 (by decide)
                refine lv_iload hx hb dX13_type_62 (lv_at hl 7 rfl) ?_
                exact hj64 sg_j11 p5 (iv_w h_66 (by decide)) hx6_11 (KS_tr (L := [5]) KS_rf hks_j11 (by decide)) hI_j11 (by have := (h_66).1; have := (h_66).2; unfold tyW; repeat (first | rw [if_pos (by omega)] | rw [if_neg (by omega)])) _ _ _ hP hD hS (lv_sub hl [0, 1, 2, 3, 4, 5, 6, 7] rfl)
              · have h_67 : iv 12 15 x7_11 := iv_ltL (i32_lt c_65) h_64 (iv_k (by decide) : iv 16 16 16) (by decide)
                refine lv_iload hx hb dX13_type_57 (lv_at hl 6 rfl) ?_
                refine lv_goto (tgt := 64) hx hb dX13_type_59 (by decide) ?_
                exact hj64 sg_j11 p4 (iv_w h_67 (by decide)) hx6_11 (KS_tr (L := [5]) KS_rf hks_j11 (by decide)) hI_j11 (by have := (h_67).1; have := (h_67).2; unfold tyW; repeat (first | rw [if_pos (by omega)] | rw [if_neg (by omega)])) _ _ _ hP hD hS (lv_sub hl [0, 1, 2, 3, 4, 5, 6, 7] rfl)
            · have h_68 : iv 8 11 x7_11 := iv_ltL (i32_lt c_63) h_62 (iv_k (by decide) : iv 12 12 12) (by decide)
              refine lv_iload_n hx hb dX13_type_46 rfl (lv_at hl 5 rfl) ?_
              refine lv_goto (tgt := 64) hx hb dX13_type_47 (by decide) ?_
              exact hj64 sg_j11 p3 (iv_w h_68 (by decide)) hx6_11 (KS_tr (L := [5]) KS_rf hks_j11 (by decide)) hI_j11 (by have := (h_68).1; have := (h_68).2; unfold tyW; repeat (first | rw [if_pos (by omega)] | rw [if_neg (by omega)])) _ _ _ hP hD hS (lv_sub hl [0, 1, 2, 3, 4, 5, 6, 7] rfl)
          · have h_69 : iv 4 7 x7_11 := iv_ltL (i32_lt c_61) h_60 (iv_k (by decide) : iv 8 8 8) (by decide)
            refine lv_iload_n hx hb dX13_type_35 rfl (lv_at hl 4 rfl) ?_
            refine lv_goto (tgt := 64) hx hb dX13_type_36 (by decide) ?_
            exact hj64 sg_j11 p2 (iv_w h_69 (by decide)) hx6_11 (KS_tr (L := [5]) KS_rf hks_j11 (by decide)) hI_j11 (by have := (h_69).1; have := (h_69).2; unfold tyW; repeat (first | rw [if_pos (by omega)] | rw [if_neg (by omega)])) _ _ _ hP hD hS (lv_sub hl [0, 1, 2, 3, 4, 5, 6, 7] rfl)
        · have h_70 : iv 0 3 x7_11 := iv_ltL (i32_lt c_59) h_58 (iv_k (by decide) : iv 4 4 4) (by decide)
          refine lv_iload_n hx hb dX13_type_24 rfl (lv_at hl 3 rfl) ?_
          refine lv_goto (tgt := 64) hx hb dX13_type_25 (by decide) ?_
          exact hj64 sg_j11 p1 (iv_w h_70 (by decide)) hx6_11 (KS_tr (L := [5]) KS_rf hks_j11 (by decide)) hI_j11 (by have := (h_70).1; have := (h_70).2; unfold tyW; repeat (first | rw [if_pos (by omega)] | rw [if_neg (by omega)])) _ _ _ hP hD hS (lv_sub hl [0, 1, 2, 3, 4, 5, 6, 7] rfl)
  refine lv_aload_n hx hb dX13_type_0 rfl (lv_at hl 0 rfl) ?_
  refine lv_iconst (v := 0) hx hb dX13_type_1 (by decide) ?_
  refine ma_put (x := 0) hx hb htb inX13 hown hK hP hD hS 5 (by decide) (by decide) (htb _ kw_239) rfl rfl rfl dX13_type_2 (fun sg_71 H locs esg_71 hP hD hS => ?_)
  have hI_sg_71 := MI_put hI esg_71 (iv_k (by decide) : iv 0 0 0) (by decide)
  refine lv_iconst (v := 0) hx hb dX13_type_5 (by decide) ?_
  refine lv_istore (lv' := [(6, .int 0), (0, .ref h0), (1, .int p1), (2, .int p2), (3, .int p3), (4, .int p4), (5, .int p5)]) hx hb dX13_type_6 hl (by decide) rfl (fun ls hl => ?_)
  refine lv_iconst (v := 0) hx hb dX13_type_8 (by decide) ?_
  refine lv_istore (lv' := [(7, .int 0), (6, .int 0), (0, .ref h0), (1, .int p1), (2, .int p2), (3, .int p3), (4, .int p4), (5, .int p5)]) hx hb dX13_type_9 hl (by decide) rfl (fun ls hl => ?_)
  exact hj11 _ sg_71 0 0 rfl (iv_w (iv_k (by decide) : iv 0 0 0) (by decide)) (iv_w (iv_k (by decide) : iv 0 0 0) (by decide)) (KS_up KS_rf esg_71 (by decide)) hI_sg_71 (rfl) (fun j9 h9 => absurd h9 (Nat.not_lt_zero _)) (fun j9 h9 => absurd h9 (Nat.not_lt_zero _)) _ _ _ hP hD hS (lv_sub hl [0, 1, 2, 3, 4, 5, 6, 7] rfl)
end
section
theorem bN_lt (fo : Int32) {k : Nat} : ∀ n, k < n → ¬ bS fo k = 0 → bN fo k < bN fo n := by
  intro n
  induction n with
  | zero => intro h; exact absurd h (Nat.not_lt_zero k)
  | succ n ih =>
    intro h hz
    show _ < bN fo n + (if bS fo n = 0 then 0 else 1)
    by_cases e : k = n
    · subst e; rw [if_neg hz]; omega
    · have := ih (by omega) hz; omega
def TBX (fo : Int32) (s0 : Int) (f f0 : Nat → Int32) (n : Nat) : Prop := (∀ i : Nat, (i : Int) < s0 → f i = f0 i) ∧ ∀ k, k < n → ¬ bS fo k = 0 → f (s0.toNat + bN fo k) = bS fo k
theorem TBX_0 {fo : Int32} {s0 : Int} {f : Nat → Int32} : TBX fo s0 f f 0 := ⟨fun _ _ => rfl, fun k hk => absurd hk (Nat.not_lt_zero k)⟩
theorem TBX_z {fo x : Int32} {s0 : Int} {f f0 : Nat → Int32} (hi : iv 0 24 x) (hd : x.toInt % 8 = 0) (h : TBX fo s0 f f0 ((24 - x.toInt) / 8).toNat) (hx : byC fo x = 0) : TBX fo s0 f f0 (((24 - x.toInt) / 8).toNat + 1) := by
  refine ⟨h.1, fun k hk hz => ?_⟩
  by_cases e : k = ((24 - x.toInt) / 8).toNat
  · rw [e, ← by_i hi hd] at hz; exact absurd hx hz
  · exact h.2 k (by omega) hz
theorem TBX_p {fo x z v : Int32} {s0 : Int} {f f0 g : Nat → Int32} (hi : iv 0 24 x) (hd : x.toInt % 8 = 0) (h0 : 0 ≤ s0) (h : TBX fo s0 f f0 ((24 - x.toInt) / 8).toNat) (hv : v = byC fo x) (hz : z.toInt = s0 + (bN fo ((24 - x.toInt) / 8).toNat : Int)) (hg : g = upd f z.toNatClampNeg v) : TBX fo s0 g f0 (((24 - x.toInt) / 8).toNat + 1) := by
  have q : z.toNatClampNeg = s0.toNat + bN fo ((24 - x.toInt) / 8).toNat := by show z.toInt.toNat = _; omega
  rw [hg, q]
  refine ⟨fun j hj => by rw [upd_ne (by omega)]; exact h.1 j hj, fun k hk hz => ?_⟩
  by_cases e : k = ((24 - x.toInt) / 8).toNat
  · rw [e, upd_at, ← by_i hi hd]; exact hv
  · have := bN_lt fo ((24 - x.toInt) / 8).toNat (show k < ((24 - x.toInt) / 8).toNat by omega) hz
    rw [upd_ne (by omega)]
    exact h.2 k (by omega) hz
theorem tyN_0 (p1 p2 p3 p4 p5 : Int32) : tyN p1 p2 p3 p4 p5 0 = bN p1 0 := rfl
theorem tyN_1 (p1 p2 p3 p4 p5 : Int32) : tyN p1 p2 p3 p4 p5 1 = bN p1 1 := by
  simp only [tyN, bN, tyS_0]
  try omega
theorem tyN_2 (p1 p2 p3 p4 p5 : Int32) : tyN p1 p2 p3 p4 p5 2 = bN p1 2 := by
  simp only [tyN, bN, tyS_0, tyS_1]
  try omega
theorem tyN_3 (p1 p2 p3 p4 p5 : Int32) : tyN p1 p2 p3 p4 p5 3 = bN p1 3 := by
  simp only [tyN, bN, tyS_0, tyS_1, tyS_2]
  try omega
theorem tyN_4 (p1 p2 p3 p4 p5 : Int32) : tyN p1 p2 p3 p4 p5 4 = bN p1 4 + bN p2 0 := by
  simp only [tyN, bN, tyS_0, tyS_1, tyS_2, tyS_3]
  try omega
theorem tyN_5 (p1 p2 p3 p4 p5 : Int32) : tyN p1 p2 p3 p4 p5 5 = bN p1 4 + bN p2 1 := by
  simp only [tyN, bN, tyS_0, tyS_1, tyS_2, tyS_3, tyS_4]
  try omega
theorem tyN_6 (p1 p2 p3 p4 p5 : Int32) : tyN p1 p2 p3 p4 p5 6 = bN p1 4 + bN p2 2 := by
  simp only [tyN, bN, tyS_0, tyS_1, tyS_2, tyS_3, tyS_4, tyS_5]
  try omega
theorem tyN_7 (p1 p2 p3 p4 p5 : Int32) : tyN p1 p2 p3 p4 p5 7 = bN p1 4 + bN p2 3 := by
  simp only [tyN, bN, tyS_0, tyS_1, tyS_2, tyS_3, tyS_4, tyS_5, tyS_6]
  try omega
theorem tyN_8 (p1 p2 p3 p4 p5 : Int32) : tyN p1 p2 p3 p4 p5 8 = bN p1 4 + bN p2 4 + bN p3 0 := by
  simp only [tyN, bN, tyS_0, tyS_1, tyS_2, tyS_3, tyS_4, tyS_5, tyS_6, tyS_7]
  try omega
theorem tyN_9 (p1 p2 p3 p4 p5 : Int32) : tyN p1 p2 p3 p4 p5 9 = bN p1 4 + bN p2 4 + bN p3 1 := by
  simp only [tyN, bN, tyS_0, tyS_1, tyS_2, tyS_3, tyS_4, tyS_5, tyS_6, tyS_7, tyS_8]
  try omega
theorem tyN_10 (p1 p2 p3 p4 p5 : Int32) : tyN p1 p2 p3 p4 p5 10 = bN p1 4 + bN p2 4 + bN p3 2 := by
  simp only [tyN, bN, tyS_0, tyS_1, tyS_2, tyS_3, tyS_4, tyS_5, tyS_6, tyS_7, tyS_8, tyS_9]
  try omega
theorem tyN_11 (p1 p2 p3 p4 p5 : Int32) : tyN p1 p2 p3 p4 p5 11 = bN p1 4 + bN p2 4 + bN p3 3 := by
  simp only [tyN, bN, tyS_0, tyS_1, tyS_2, tyS_3, tyS_4, tyS_5, tyS_6, tyS_7, tyS_8, tyS_9, tyS_10]
  try omega
theorem tyN_12 (p1 p2 p3 p4 p5 : Int32) : tyN p1 p2 p3 p4 p5 12 = bN p1 4 + bN p2 4 + bN p3 4 + bN p4 0 := by
  simp only [tyN, bN, tyS_0, tyS_1, tyS_2, tyS_3, tyS_4, tyS_5, tyS_6, tyS_7, tyS_8, tyS_9, tyS_10, tyS_11]
  try omega
theorem tyN_13 (p1 p2 p3 p4 p5 : Int32) : tyN p1 p2 p3 p4 p5 13 = bN p1 4 + bN p2 4 + bN p3 4 + bN p4 1 := by
  simp only [tyN, bN, tyS_0, tyS_1, tyS_2, tyS_3, tyS_4, tyS_5, tyS_6, tyS_7, tyS_8, tyS_9, tyS_10, tyS_11, tyS_12]
  try omega
theorem tyN_14 (p1 p2 p3 p4 p5 : Int32) : tyN p1 p2 p3 p4 p5 14 = bN p1 4 + bN p2 4 + bN p3 4 + bN p4 2 := by
  simp only [tyN, bN, tyS_0, tyS_1, tyS_2, tyS_3, tyS_4, tyS_5, tyS_6, tyS_7, tyS_8, tyS_9, tyS_10, tyS_11, tyS_12, tyS_13]
  try omega
theorem tyN_15 (p1 p2 p3 p4 p5 : Int32) : tyN p1 p2 p3 p4 p5 15 = bN p1 4 + bN p2 4 + bN p3 4 + bN p4 3 := by
  simp only [tyN, bN, tyS_0, tyS_1, tyS_2, tyS_3, tyS_4, tyS_5, tyS_6, tyS_7, tyS_8, tyS_9, tyS_10, tyS_11, tyS_12, tyS_13, tyS_14]
  try omega
theorem tyN_16 (p1 p2 p3 p4 p5 : Int32) : tyN p1 p2 p3 p4 p5 16 = bN p1 4 + bN p2 4 + bN p3 4 + bN p4 4 + bN p5 0 := by
  simp only [tyN, bN, tyS_0, tyS_1, tyS_2, tyS_3, tyS_4, tyS_5, tyS_6, tyS_7, tyS_8, tyS_9, tyS_10, tyS_11, tyS_12, tyS_13, tyS_14, tyS_15]
  try omega
theorem tyN_17 (p1 p2 p3 p4 p5 : Int32) : tyN p1 p2 p3 p4 p5 17 = bN p1 4 + bN p2 4 + bN p3 4 + bN p4 4 + bN p5 1 := by
  simp only [tyN, bN, tyS_0, tyS_1, tyS_2, tyS_3, tyS_4, tyS_5, tyS_6, tyS_7, tyS_8, tyS_9, tyS_10, tyS_11, tyS_12, tyS_13, tyS_14, tyS_15, tyS_16]
  try omega
theorem tyN_18 (p1 p2 p3 p4 p5 : Int32) : tyN p1 p2 p3 p4 p5 18 = bN p1 4 + bN p2 4 + bN p3 4 + bN p4 4 + bN p5 2 := by
  simp only [tyN, bN, tyS_0, tyS_1, tyS_2, tyS_3, tyS_4, tyS_5, tyS_6, tyS_7, tyS_8, tyS_9, tyS_10, tyS_11, tyS_12, tyS_13, tyS_14, tyS_15, tyS_16, tyS_17]
  try omega
theorem tyN_19 (p1 p2 p3 p4 p5 : Int32) : tyN p1 p2 p3 p4 p5 19 = bN p1 4 + bN p2 4 + bN p3 4 + bN p4 4 + bN p5 3 := by
  simp only [tyN, bN, tyS_0, tyS_1, tyS_2, tyS_3, tyS_4, tyS_5, tyS_6, tyS_7, tyS_8, tyS_9, tyS_10, tyS_11, tyS_12, tyS_13, tyS_14, tyS_15, tyS_16, tyS_17, tyS_18]
  try omega
/-- the five words together -/
theorem TYX_of {p1 p2 p3 p4 p5 s0 r1 r2 r3 r4 r5 : Int32} {f0 f1 f2 f3 f4 f5 : Nat → Int32} (h0 : 0 ≤ s0.toInt) (t1 : TBH s0 p1 r1) (t2 : TBH r1 p2 r2) (t3 : TBH r2 p3 r3) (t4 : TBH r3 p4 r4) (t5 : TBH r4 p5 r5) (x1 : r1.toInt = -1 ∨ TBX p1 s0.toInt f1 f0 4) (x2 : r2.toInt = -1 ∨ TBX p2 r1.toInt f2 f1 4) (x3 : r3.toInt = -1 ∨ TBX p3 r2.toInt f3 f2 4) (x4 : r4.toInt = -1 ∨ TBX p4 r3.toInt f4 f3 4) (x5 : r5.toInt = -1 ∨ TBX p5 r4.toInt f5 f4 4) (hr : ¬ r5.toInt = -1) : TYX p1 p2 p3 p4 p5 s0.toInt f5 f0 20 := by
  have q5 : 0 ≤ r4.toInt ∧ r5.toInt = r4.toInt + (bN p5 4 : Int) := by
    rcases t5 with a | ⟨a, b | b⟩
    · exact absurd a.2 hr
    · exact absurd b.1 hr
    · exact ⟨a, b.1⟩
  have q4 : 0 ≤ r3.toInt ∧ r4.toInt = r3.toInt + (bN p4 4 : Int) := by
    rcases t4 with a | ⟨a, b | b⟩
    · have := a.2; omega
    · have := b.1; omega
    · exact ⟨a, b.1⟩
  have q3 : 0 ≤ r2.toInt ∧ r3.toInt = r2.toInt + (bN p3 4 : Int) := by
    rcases t3 with a | ⟨a, b | b⟩
    · have := a.2; omega
    · have := b.1; omega
    · exact ⟨a, b.1⟩
  have q2 : 0 ≤ r1.toInt ∧ r2.toInt = r1.toInt + (bN p2 4 : Int) := by
    rcases t2 with a | ⟨a, b | b⟩
    · have := a.2; omega
    · have := b.1; omega
    · exact ⟨a, b.1⟩
  have q1 : r1.toInt = s0.toInt + (bN p1 4 : Int) := by
    rcases t1 with a | ⟨a, b | b⟩
    · have := a.2; omega
    · have := b.1; omega
    · exact b.1
  have x1 := x1.resolve_left (by omega)
  have x2 := x2.resolve_left (by omega)
  have x3 := x3.resolve_left (by omega)
  have x4 := x4.resolve_left (by omega)
  have x5 := x5.resolve_left (by omega)
  have g4 : ∀ i : Nat, (i : Int) < r4.toInt → f5 i = f4 i := x5.1
  have g3 : ∀ i : Nat, (i : Int) < r3.toInt → f5 i = f3 i := fun i hi => (g4 i (by omega)).trans (x4.1 i hi)
  have g2 : ∀ i : Nat, (i : Int) < r2.toInt → f5 i = f2 i := fun i hi => (g3 i (by omega)).trans (x3.1 i hi)
  have g1 : ∀ i : Nat, (i : Int) < r1.toInt → f5 i = f1 i := fun i hi => (g2 i (by omega)).trans (x2.1 i hi)
  refine ⟨fun i hi => (g1 i (by omega)).trans (x1.1 i hi), fun k hk hz => ?_⟩
  rcases (show k = 0 ∨ k = 1 ∨ k = 2 ∨ k = 3 ∨ k = 4 ∨ k = 5 ∨ k = 6 ∨ k = 7 ∨ k = 8 ∨ k = 9 ∨ k = 10 ∨ k = 11 ∨ k = 12 ∨ k = 13 ∨ k = 14 ∨ k = 15 ∨ k = 16 ∨ k = 17 ∨ k = 18 ∨ k = 19 by omega) with rfl | rfl | rfl | rfl | rfl | rfl | rfl | rfl | rfl | rfl | rfl | rfl | rfl | rfl | rfl | rfl | rfl | rfl | rfl | rfl
  · rw [tyS_0] at hz ⊢
    have b9 := bN_lt p1 (k := 0) 4 (by decide) hz
    have e9 : s0.toInt.toNat + tyN p1 p2 p3 p4 p5 0 = s0.toInt.toNat + bN p1 0 := by rw [tyN_0]; try omega
    rw [e9]
    rw [g1 _ (by omega)]
    exact x1.2 0 (by decide) hz
  · rw [tyS_1] at hz ⊢
    have b9 := bN_lt p1 (k := 1) 4 (by decide) hz
    have e9 : s0.toInt.toNat + tyN p1 p2 p3 p4 p5 1 = s0.toInt.toNat + bN p1 1 := by rw [tyN_1]; try omega
    rw [e9]
    rw [g1 _ (by omega)]
    exact x1.2 1 (by decide) hz
  · rw [tyS_2] at hz ⊢
    have b9 := bN_lt p1 (k := 2) 4 (by decide) hz
    have e9 : s0.toInt.toNat + tyN p1 p2 p3 p4 p5 2 = s0.toInt.toNat + bN p1 2 := by rw [tyN_2]; try omega
    rw [e9]
    rw [g1 _ (by omega)]
    exact x1.2 2 (by decide) hz
  · rw [tyS_3] at hz ⊢
    have b9 := bN_lt p1 (k := 3) 4 (by decide) hz
    have e9 : s0.toInt.toNat + tyN p1 p2 p3 p4 p5 3 = s0.toInt.toNat + bN p1 3 := by rw [tyN_3]; try omega
    rw [e9]
    rw [g1 _ (by omega)]
    exact x1.2 3 (by decide) hz
  · rw [tyS_4] at hz ⊢
    have b9 := bN_lt p2 (k := 0) 4 (by decide) hz
    have e9 : s0.toInt.toNat + tyN p1 p2 p3 p4 p5 4 = r1.toInt.toNat + bN p2 0 := by rw [tyN_4]; try omega
    rw [e9]
    rw [g2 _ (by omega)]
    exact x2.2 0 (by decide) hz
  · rw [tyS_5] at hz ⊢
    have b9 := bN_lt p2 (k := 1) 4 (by decide) hz
    have e9 : s0.toInt.toNat + tyN p1 p2 p3 p4 p5 5 = r1.toInt.toNat + bN p2 1 := by rw [tyN_5]; try omega
    rw [e9]
    rw [g2 _ (by omega)]
    exact x2.2 1 (by decide) hz
  · rw [tyS_6] at hz ⊢
    have b9 := bN_lt p2 (k := 2) 4 (by decide) hz
    have e9 : s0.toInt.toNat + tyN p1 p2 p3 p4 p5 6 = r1.toInt.toNat + bN p2 2 := by rw [tyN_6]; try omega
    rw [e9]
    rw [g2 _ (by omega)]
    exact x2.2 2 (by decide) hz
  · rw [tyS_7] at hz ⊢
    have b9 := bN_lt p2 (k := 3) 4 (by decide) hz
    have e9 : s0.toInt.toNat + tyN p1 p2 p3 p4 p5 7 = r1.toInt.toNat + bN p2 3 := by rw [tyN_7]; try omega
    rw [e9]
    rw [g2 _ (by omega)]
    exact x2.2 3 (by decide) hz
  · rw [tyS_8] at hz ⊢
    have b9 := bN_lt p3 (k := 0) 4 (by decide) hz
    have e9 : s0.toInt.toNat + tyN p1 p2 p3 p4 p5 8 = r2.toInt.toNat + bN p3 0 := by rw [tyN_8]; try omega
    rw [e9]
    rw [g3 _ (by omega)]
    exact x3.2 0 (by decide) hz
  · rw [tyS_9] at hz ⊢
    have b9 := bN_lt p3 (k := 1) 4 (by decide) hz
    have e9 : s0.toInt.toNat + tyN p1 p2 p3 p4 p5 9 = r2.toInt.toNat + bN p3 1 := by rw [tyN_9]; try omega
    rw [e9]
    rw [g3 _ (by omega)]
    exact x3.2 1 (by decide) hz
  · rw [tyS_10] at hz ⊢
    have b9 := bN_lt p3 (k := 2) 4 (by decide) hz
    have e9 : s0.toInt.toNat + tyN p1 p2 p3 p4 p5 10 = r2.toInt.toNat + bN p3 2 := by rw [tyN_10]; try omega
    rw [e9]
    rw [g3 _ (by omega)]
    exact x3.2 2 (by decide) hz
  · rw [tyS_11] at hz ⊢
    have b9 := bN_lt p3 (k := 3) 4 (by decide) hz
    have e9 : s0.toInt.toNat + tyN p1 p2 p3 p4 p5 11 = r2.toInt.toNat + bN p3 3 := by rw [tyN_11]; try omega
    rw [e9]
    rw [g3 _ (by omega)]
    exact x3.2 3 (by decide) hz
  · rw [tyS_12] at hz ⊢
    have b9 := bN_lt p4 (k := 0) 4 (by decide) hz
    have e9 : s0.toInt.toNat + tyN p1 p2 p3 p4 p5 12 = r3.toInt.toNat + bN p4 0 := by rw [tyN_12]; try omega
    rw [e9]
    rw [g4 _ (by omega)]
    exact x4.2 0 (by decide) hz
  · rw [tyS_13] at hz ⊢
    have b9 := bN_lt p4 (k := 1) 4 (by decide) hz
    have e9 : s0.toInt.toNat + tyN p1 p2 p3 p4 p5 13 = r3.toInt.toNat + bN p4 1 := by rw [tyN_13]; try omega
    rw [e9]
    rw [g4 _ (by omega)]
    exact x4.2 1 (by decide) hz
  · rw [tyS_14] at hz ⊢
    have b9 := bN_lt p4 (k := 2) 4 (by decide) hz
    have e9 : s0.toInt.toNat + tyN p1 p2 p3 p4 p5 14 = r3.toInt.toNat + bN p4 2 := by rw [tyN_14]; try omega
    rw [e9]
    rw [g4 _ (by omega)]
    exact x4.2 2 (by decide) hz
  · rw [tyS_15] at hz ⊢
    have b9 := bN_lt p4 (k := 3) 4 (by decide) hz
    have e9 : s0.toInt.toNat + tyN p1 p2 p3 p4 p5 15 = r3.toInt.toNat + bN p4 3 := by rw [tyN_15]; try omega
    rw [e9]
    rw [g4 _ (by omega)]
    exact x4.2 3 (by decide) hz
  · rw [tyS_16] at hz ⊢
    have b9 := bN_lt p5 (k := 0) 4 (by decide) hz
    have e9 : s0.toInt.toNat + tyN p1 p2 p3 p4 p5 16 = r4.toInt.toNat + bN p5 0 := by rw [tyN_16]; try omega
    rw [e9]
    exact x5.2 0 (by decide) hz
  · rw [tyS_17] at hz ⊢
    have b9 := bN_lt p5 (k := 1) 4 (by decide) hz
    have e9 : s0.toInt.toNat + tyN p1 p2 p3 p4 p5 17 = r4.toInt.toNat + bN p5 1 := by rw [tyN_17]; try omega
    rw [e9]
    exact x5.2 1 (by decide) hz
  · rw [tyS_18] at hz ⊢
    have b9 := bN_lt p5 (k := 2) 4 (by decide) hz
    have e9 : s0.toInt.toNat + tyN p1 p2 p3 p4 p5 18 = r4.toInt.toNat + bN p5 2 := by rw [tyN_18]; try omega
    rw [e9]
    exact x5.2 2 (by decide) hz
  · rw [tyS_19] at hz ⊢
    have b9 := bN_lt p5 (k := 3) 4 (by decide) hz
    have e9 : s0.toInt.toNat + tyN p1 p2 p3 p4 p5 19 = r4.toInt.toNat + bN p5 3 := by rw [tyN_19]; try omega
    rw [e9]
    exact x5.2 3 (by decide) hz

set_option maxHeartbeats 4000000 in
set_option maxRecDepth 100000 in
theorem d_typedBehind3 (l : Launch) (dC : Nat → ClassId) (dI : Nat → Nat → Nat) (ad : Nat → Nat → Nat) (cid : Nat → ClassId) (a2 : Nat → Nat) (lx : List Nat) (sg : Nat → Int32) (gm : Nat → Nat → Int32) (lg : Nat → Nat → Int64) (x : Int32) (st : Int32) (fo : Int32) (hI : CI sg gm) (hvx : iv 0 0 x) (hvst : iv (-1) 1200 st) : CMt dC dI ad cid a2 lx l yX12_typedBehind wm_X12_typedBehind ({ frames := 0, cells := 1, slots := 6, locals := 0 }) [eV (ad 0) x, .int st, .int fo] sg gm lg (fun v u => ∃ r : Int32, v = some (.int r) ∧ ∃ (sg2 : Nat → Int32) (gm2 : Nat → Nat → Int32) (lg2 : Nat → Nat → Int64), u = (sg2, gm2, lg2) ∧ CI sg2 gm2 ∧ KS [] sg sg2 ∧ KS [43] gm gm2 ∧ KS [] lg lg2 ∧ (iv (-1) 1200 r) ∧ (st.toInt = -1 → gm2 43 = gm 43) ∧ (r.toInt = -1 ∨ TBX fo st.toInt (gm2 43) (gm 43) 4) ∧ (0 ≤ st.toInt → ∀ i : Nat, (i : Int) < st.toInt → gm2 43 i = gm 43 i) ∧ (TBH st fo r)) (fun _ _ => False) := by
  intro sz
  refine vx_ofW (cc := cX12_typedBehind) (maxL := 6) (ret := (some .int)) (by decide) rfl ?_
  intro p e s m args below meth c s₁ B hml hxt hv
  obtain ⟨rfl, hsz, hP, hK, hD0, hG⟩ := hv
  have hx := B.exec
  have hb := B.bytes
  have hr := B.returns
  have hts := atoms_spec (ws := wm_X12_typedBehind) B.pre
  have htb := fun (w : Cond) (h : w ∈ tb) => hts w (List.mem_cons_of_mem _ h)
  have hown : s.vm.findClass RX12 = some m.cls := findClass_of_methodNamed B.named
  have hlocks := B.notSynchronized
  subst hsz
  have hD := hD0.self (sz := s.heap.size)
  generalize hAe : va_A (cW ad cid a2 lx sg gm lg) s.heap.size = A at hD hG ⊢
  have hA : ∀ q : Nat, s.heap.size ≤ q → A q := fun q h => by rw [← hAe]; exact Or.inr h
  have hS : va_S A s.heap s.heap [] := va_S.rf
  have hl := lv_entry ([eV (ad 0) x, .int st, .int fo]) (n := 6) (by rw [show (lg_sl ([eV (ad 0) x, .int st, .int fo])).length = 3 from by simp [lg_sl, eV_cat, cat_i, cat_l]]; exact Nat.le_of_ble_eq_true rfl)
  rw [lg_entry_eq]
  generalize (lg_sl ([eV (ad 0) x, .int st, .int fo]) ++ List.replicate (6 - (lg_sl ([eV (ad 0) x, .int st, .int fo])).length) Slot.unset).toArray = ls at hl ⊢
  have hl : lv_has ls 6 [(0, eV (ad 0) x), (1, .int st), (2, .int fo)] := by simp [lv_args, eV_cat, cat_i, cat_l] at hl; exact hl
  have hj66 : ∀ (gm_j66 : Nat → Nat → Int32) (x5_66 : Int32) (x4_66 : Int32) (x3_66 : Int32) (_ : iv 1 255 x5_66) (_ : iv 0 24 x4_66) (_ : iv 0 1200 x3_66) (_ : iv 0 0 x) (_ : iv 0 1200 st) (_ : KS [43] gm gm_j66) (_ : CI sg gm_j66) (_ : ∀ i : Nat, (i : Int) < st.toInt → gm_j66 43 i = gm 43 i) (_ : ¬ BK fo 4 ∨ 1200 < st.toInt + (bN fo 4 : Int)) (H : Heap) (locs : List Loc) (ls : Array Slot), va_P (dC, dI) vwCl (cW ad cid a2 lx sg gm_j66 lg) H → va_D A (cW ad cid a2 lx sg gm_j66 lg) → va_S A s.heap H locs → lv_has ls 6 [(5, .int x5_66), (4, .int x4_66), (3, .int x3_66), (0, eV (ad 0) x), (1, .int st), (2, .int fo)] → W p l e (headSpec wm_X12_typedBehind ({ frames := 0, cells := 1, slots := 6, locals := 0 })).room s m ([eV (ad 0) x, .int st, .int fo] : List Value).toArray below meth c H locs 0 0 (vx_MQ below (cQx dC dI ad cid a2 lx (fun v u => ∃ r : Int32, v = some (.int r) ∧ ∃ (sg2 : Nat → Int32) (gm2 : Nat → Nat → Int32) (lg2 : Nat → Nat → Int64), u = (sg2, gm2, lg2) ∧ CI sg2 gm2 ∧ KS [] sg sg2 ∧ KS [43] gm gm2 ∧ KS [] lg lg2 ∧ (iv (-1) 1200 r) ∧ (st.toInt = -1 → gm2 43 = gm 43) ∧ (r.toInt = -1 ∨ TBX fo st.toInt (gm2 43) (gm 43) 4) ∧ (0 ≤ st.toInt → ∀ i : Nat, (i : Int) < st.toInt → gm2 43 i = gm 43 i) ∧ (TBH st fo r)) A) (cX dC dI ad cid a2 lx (fun _ _ => False) A) ([eV (ad 0) x, .int st, .int fo] : List Value).toArray s 1 6 A) (F0 m 66 ls []) := by
    intro gm_j66 x5_66 x4_66 x3_66 hx5_66 hx4_66 hx3_66 hsx0_66 hsx1_66 hkg_j66 hI_j66 hX hbad H locs ls hP hD hS hl
    refine lv_iconst (v := (-1)) hx hb dX12_typedBehind_66 (by decide) ?_
    exact W.nb (fun hN => W.widen (k := 1) (n := 6) (by decide) (by decide) (vx_ret (W.iret (v := (-1)) hx hb hr (fun t ht hW => ⟨⟨some (.int (-1)), (sg, gm_j66, lg), rfl, ⟨(-1), rfl, sg, gm_j66, lg, rfl, hI_j66, KS_rf, (KS_tr (L := [43]) KS_rf hkg_j66 (by decide)), KS_rf, (iv_w (iv_k (by decide) : iv (-1) (-1) (-1)) (by decide)), (fun q9 => absurd q9 (by have := i32_0; have := i32_1; have := i32_2; have := i32_m1; have := (hsx0_66).1; have := (hsx0_66).2; have := (hsx1_66).1; have := (hsx1_66).2; have := (hx5_66).1; have := (hx5_66).2; have := (hx4_66).1; have := (hx4_66).2; have := (hx3_66).1; have := (hx3_66).2; omega)), (Or.inl rfl), (fun _ => hX), (Or.inr ⟨by have := i32_0; have := i32_1; have := i32_2; have := i32_m1; have := (hsx0_66).1; have := (hsx0_66).2; have := (hsx1_66).1; have := (hsx1_66).2; have := (hx5_66).1; have := (hx5_66).2; have := (hx4_66).1; have := (hx4_66).2; have := (hx3_66).1; have := (hx3_66).2; omega, Or.inl ⟨rfl, hbad⟩⟩)⟩, by rw [ht]; exact hP, va_K.moved hW.alike hK, hD⟩, hS.F ht, by rw [ht]; exact hN⟩) hS.2.2 dX12_typedBehind_67)))
  have hj13 : ∀ (n : Nat) (gm_j13 : Nat → Nat → Int32) (x4_13 : Int32) (x3_13 : Int32) (_ : (x4_13.toInt + 8).toNat = n) (_ : iv (-8) 24 x4_13) (_ : iv 0 1200 x3_13) (_ : iv 0 0 x) (_ : iv 0 1200 st) (_ : KS [43] gm gm_j13) (_ : CI sg gm_j13) (_ : TBX fo st.toInt (gm_j13 43) (gm 43) (((24 - x4_13.toInt) / 8).toNat)) (_ : x4_13.toInt % 8 = 0) (_ : x3_13.toInt = st.toInt + (bN fo ((24 - x4_13.toInt) / 8).toNat : Int)) (_ : BK fo ((24 - x4_13.toInt) / 8).toNat) (H : Heap) (locs : List Loc) (ls : Array Slot), va_P (dC, dI) vwCl (cW ad cid a2 lx sg gm_j13 lg) H → va_D A (cW ad cid a2 lx sg gm_j13 lg) → va_S A s.heap H locs → lv_has ls 6 [(4, .int x4_13), (3, .int x3_13), (0, eV (ad 0) x), (1, .int st), (2, .int fo)] → W p l e (headSpec wm_X12_typedBehind ({ frames := 0, cells := 1, slots := 6, locals := 0 })).room s m ([eV (ad 0) x, .int st, .int fo] : List Value).toArray below meth c H locs 0 0 (vx_MQ below (cQx dC dI ad cid a2 lx (fun v u => ∃ r : Int32, v = some (.int r) ∧ ∃ (sg2 : Nat → Int32) (gm2 : Nat → Nat → Int32) (lg2 : Nat → Nat → Int64), u = (sg2, gm2, lg2) ∧ CI sg2 gm2 ∧ KS [] sg sg2 ∧ KS [43] gm gm2 ∧ KS [] lg lg2 ∧ (iv (-1) 1200 r) ∧ (st.toInt = -1 → gm2 43 = gm 43) ∧ (r.toInt = -1 ∨ TBX fo st.toInt (gm2 43) (gm 43) 4) ∧ (0 ≤ st.toInt → ∀ i : Nat, (i : Int) < st.toInt → gm2 43 i = gm 43 i) ∧ (TBH st fo r)) A) (cX dC dI ad cid a2 lx (fun _ _ => False) A) ([eV (ad 0) x, .int st, .int fo] : List Value).toArray s 1 6 A) (F0 m 13 ls []) := by
    intro n
    induction n using Nat.strongRecOn with
    | ind n ih13 =>
      intro gm_j13 x4_13 x3_13 hn13 hx4_13 hx3_13 hsx0_13 hsx1_13 hkg_j13 hI_j13 hX hd hc hkb H locs ls hP hD hS hl
      have hj80 : ∀ (gm_j80 : Nat → Nat → Int32) (x5_80 : Int32) (x3_80 : Int32) (_ : iv 0 126 x5_80) (_ : iv 0 24 x4_13) (_ : iv 0 1200 x3_80) (_ : iv 0 0 x) (_ : iv 0 1200 st) (_ : KS [43] gm gm_j80) (_ : CI sg gm_j80) (_ : TBX fo st.toInt (gm_j80 43) (gm 43) (((24 - x4_13.toInt) / 8).toNat + 1)) (_ : x5_80 = byC fo x4_13) (_ : (x5_80.toInt = 0 ∨ x5_80.toInt = 10 ∨ 32 ≤ x5_80.toInt ∧ x5_80.toInt ≤ 126)) (_ : x3_80.toInt = st.toInt + (bN fo (((24 - x4_13.toInt) / 8).toNat + 1) : Int)) (H : Heap) (locs : List Loc) (ls : Array Slot), va_P (dC, dI) vwCl (cW ad cid a2 lx sg gm_j80 lg) H → va_D A (cW ad cid a2 lx sg gm_j80 lg) → va_S A s.heap H locs → lv_has ls 6 [(5, .int x5_80), (4, .int x4_13), (3, .int x3_80), (0, eV (ad 0) x), (1, .int st), (2, .int fo)] → W p l e (headSpec wm_X12_typedBehind ({ frames := 0, cells := 1, slots := 6, locals := 0 })).room s m ([eV (ad 0) x, .int st, .int fo] : List Value).toArray below meth c H locs 0 0 (vx_MQ below (cQx dC dI ad cid a2 lx (fun v u => ∃ r : Int32, v = some (.int r) ∧ ∃ (sg2 : Nat → Int32) (gm2 : Nat → Nat → Int32) (lg2 : Nat → Nat → Int64), u = (sg2, gm2, lg2) ∧ CI sg2 gm2 ∧ KS [] sg sg2 ∧ KS [43] gm gm2 ∧ KS [] lg lg2 ∧ (iv (-1) 1200 r) ∧ (st.toInt = -1 → gm2 43 = gm 43) ∧ (r.toInt = -1 ∨ TBX fo st.toInt (gm2 43) (gm 43) 4) ∧ (0 ≤ st.toInt → ∀ i : Nat, (i : Int) < st.toInt → gm2 43 i = gm 43 i) ∧ (TBH st fo r)) A) (cX dC dI ad cid a2 lx (fun _ _ => False) A) ([eV (ad 0) x, .int st, .int fo] : List Value).toArray s 1 6 A) (F0 m 80 ls []) := by
        intro gm_j80 x5_80 x3_80 hx5_80 hsx4_80 hx3_80 hsx0_80 hsx1_80 hkg_j80 hI_j80 hX h5 hk8 hc8 H locs ls hP hD hS hl
        obtain ⟨z_1, ez_1⟩ : ∃ z : Int32, z = x4_13 + (-8) := ⟨_, rfl⟩
        have hz_1 : iv (-8) 16 z_1 := iv_of ez_1 (iv_add hsx4_80 (iv_k (by decide) : iv (-8) (-8) (-8)) (by decide))
        have tz_1 : z_1.toInt = x4_13.toInt - 8 := by rw [ez_1]; exact iv_addE hsx4_80 (iv_k (by decide) : iv (-8) (-8) (-8)) (by decide)
        refine lv_iinc (v := z_1) (lv' := [(4, .int z_1), (5, .int x5_80), (3, .int x3_80), (0, eV (ad 0) x), (1, .int st), (2, .int fo)]) hx hb dX12_typedBehind_80 hl (k := 1) rfl ez_1.symm (by decide) rfl (fun ls hl => ?_)
        refine lv_goto (tgt := 13) hx hb dX12_typedBehind_83 (by decide) ?_
        exact ih13 _ (by rw [← hn13]; exact (by have := i32_0; have := i32_1; have := i32_2; have := i32_m1; have := (hsx0_80).1; have := (hsx0_80).2; have := (hsx1_80).1; have := (hsx1_80).2; have := (hsx4_80).1; have := (hsx4_80).2; have := (hx3_13).1; have := (hx3_13).2; have := (hx5_80).1; have := (hx5_80).2; have := (hx3_80).1; have := (hx3_80).2; have := (hz_1).1; have := (hz_1).2; omega)) gm_j80 z_1 x3_80 rfl (iv_w hz_1 (by decide)) hx3_80 hsx0_80 hsx1_80 (KS_tr (L := [43]) KS_rf hkg_j80 (by decide)) hI_j80 ((by { rw [show ((24 - z_1.toInt) / 8).toNat = ((24 - x4_13.toInt) / 8).toNat + 1 from (by { have q1 := tz_1; have := i32_0; have := i32_1; have := i32_2; have := i32_m1; have := (hsx0_80).1; have := (hsx0_80).2; have := (hsx1_80).1; have := (hsx1_80).2; have := (hsx4_80).1; have := (hsx4_80).2; have := (hx3_13).1; have := (hx3_13).2; have := (hx5_80).1; have := (hx5_80).2; have := (hx3_80).1; have := (hx3_80).2; have := (hz_1).1; have := (hz_1).2; omega })]; exact hX })) ((by { have q1 := tz_1; have := i32_0; have := i32_1; have := i32_2; have := i32_m1; have := (hsx0_80).1; have := (hsx0_80).2; have := (hsx1_80).1; have := (hsx1_80).2; have := (hsx4_80).1; have := (hsx4_80).2; have := (hx3_13).1; have := (hx3_13).2; have := (hx5_80).1; have := (hx5_80).2; have := (hx3_80).1; have := (hx3_80).2; have := (hz_1).1; have := (hz_1).2; omega })) ((by { rw [show ((24 - z_1.toInt) / 8).toNat = ((24 - x4_13.toInt) / 8).toNat + 1 from (by { have q1 := tz_1; have := i32_0; have := i32_1; have := i32_2; have := i32_m1; have := (hsx0_80).1; have := (hsx0_80).2; have := (hsx1_80).1; have := (hsx1_80).2; have := (hsx4_80).1; have := (hsx4_80).2; have := (hx3_13).1; have := (hx3_13).2; have := (hx5_80).1; have := (hx5_80).2; have := (hx3_80).1; have := (hx3_80).2; have := (hz_1).1; have := (hz_1).2; omega })]; exact hc8 })) ((by { rw [show ((24 - z_1.toInt) / 8).toNat = ((24 - x4_13.toInt) / 8).toNat + 1 from (by { have q1 := tz_1; have := i32_0; have := i32_1; have := i32_2; have := i32_m1; have := (hsx0_80).1; have := (hsx0_80).2; have := (hsx1_80).1; have := (hsx1_80).2; have := (hsx4_80).1; have := (hsx4_80).2; have := (hx3_13).1; have := (hx3_13).2; have := (hx5_80).1; have := (hx5_80).2; have := (hx3_80).1; have := (hx3_80).2; have := (hz_1).1; have := (hz_1).2; omega })]; exact by_k hsx4_80 hd hkb (by rw [← h5]; exact hk8) })) _ _ _ hP hD hS (lv_sub hl [0, 2, 3, 4, 5] rfl)
      have hj57 : ∀ (gm_j57 : Nat → Nat → Int32) (x5_57 : Int32) (_ : iv 10 126 x5_57) (_ : iv 0 24 x4_13) (_ : iv 0 1200 x3_13) (_ : iv 0 0 x) (_ : iv 0 1200 st) (_ : KS [43] gm gm_j57) (_ : CI sg gm_j57) (_ : TBX fo st.toInt (gm_j57 43) (gm 43) (((24 - x4_13.toInt) / 8).toNat)) (_ : x5_57 = byC fo x4_13) (_ : (x5_57.toInt = 0 ∨ x5_57.toInt = 10 ∨ 32 ≤ x5_57.toInt ∧ x5_57.toInt ≤ 126)) (_ : ¬ x5_57 = 0) (H : Heap) (locs : List Loc) (ls : Array Slot), va_P (dC, dI) vwCl (cW ad cid a2 lx sg gm_j57 lg) H → va_D A (cW ad cid a2 lx sg gm_j57 lg) → va_S A s.heap H locs → lv_has ls 6 [(5, .int x5_57), (4, .int x4_13), (3, .int x3_13), (0, eV (ad 0) x), (1, .int st), (2, .int fo)] → W p l e (headSpec wm_X12_typedBehind ({ frames := 0, cells := 1, slots := 6, locals := 0 })).room s m ([eV (ad 0) x, .int st, .int fo] : List Value).toArray below meth c H locs 0 0 (vx_MQ below (cQx dC dI ad cid a2 lx (fun v u => ∃ r : Int32, v = some (.int r) ∧ ∃ (sg2 : Nat → Int32) (gm2 : Nat → Nat → Int32) (lg2 : Nat → Nat → Int64), u = (sg2, gm2, lg2) ∧ CI sg2 gm2 ∧ KS [] sg sg2 ∧ KS [43] gm gm2 ∧ KS [] lg lg2 ∧ (iv (-1) 1200 r) ∧ (st.toInt = -1 → gm2 43 = gm 43) ∧ (r.toInt = -1 ∨ TBX fo st.toInt (gm2 43) (gm 43) 4) ∧ (0 ≤ st.toInt → ∀ i : Nat, (i : Int) < st.toInt → gm2 43 i = gm 43 i) ∧ (TBH st fo r)) A) (cX dC dI ad cid a2 lx (fun _ _ => False) A) ([eV (ad 0) x, .int st, .int fo] : List Value).toArray s 1 6 A) (F0 m 57 ls []) := by
        intro gm_j57 x5_57 hx5_57 hsx4_57 hsx3_57 hsx0_57 hsx1_57 hkg_j57 hI_j57 hX h5 hk8 hnz H locs ls hP hD hS hl
        refine lv_iload_n hx hb dX12_typedBehind_57 rfl (lv_at hl 2 rfl) ?_
        refine ec_aload_n hx hb dX12_typedBehind_58 rfl (lv_at hl 3 rfl) ?_
        refine cr_get (t := 0) (j := 1) (C := RX12) (T := TX12) (N := 12) (v := eV (ad 13) 0) hx hb htb inX12 hown hK hP hsx0_57 (by decide) (by decide) (by decide) rfl (by decide) (htb _ kw_17) (cV_c rfl (by decide) (by rw [show cMu 0 1 = 0 from rfl, Nat.zero_mul]; rfl)) dX12_typedBehind_59 ?_
        refine cr_alen (t := 13) (z := 1200) hx hb hK hP (iv_k (by decide) : iv 0 0 0) (by decide) (by decide) (by decide) rfl dX12_typedBehind_62 ?_
        refine lv_icmp_lt (tgt := 68) hx hb dX12_typedBehind_63 (by decide) (fun c_2 => ?_) (fun c_2 => ?_)
        · have h_3 : iv 0 1199 x3_13 := iv_ltL c_2 hsx3_57 (iv_k (by decide) : iv 1200 1200 1200) (by decide)
          refine ec_aload_n hx hb dX12_typedBehind_68 rfl (lv_at hl 3 rfl) ?_
          refine cr_get (t := 0) (j := 1) (C := RX12) (T := TX12) (N := 12) (v := eV (ad 13) 0) hx hb htb inX12 hown hK hP hsx0_57 (by decide) (by decide) (by decide) rfl (by decide) (htb _ kw_17) (cV_c rfl (by decide) (by rw [show cMu 0 1 = 0 from rfl, Nat.zero_mul]; rfl)) dX12_typedBehind_69 ?_
          refine lv_iload_n hx hb dX12_typedBehind_72 rfl (lv_at hl 2 rfl) ?_
          refine lv_iload hx hb dX12_typedBehind_73 (lv_at hl 0 rfl) ?_
          refine lv_i2c (v := ((x5_57 : Int32).toUInt32 % 65536).toInt32) hx hb dX12_typedBehind_75 rfl ?_
          refine lv_topi (fun z_4 ez_4 => ?_)
          have hz_4 : iv 0 65535 z_4 := iv_of ez_4 (iv_i2c x5_57)
          refine cr_cast (t := 13) (k := 43) (n9 := (x3_13 : Int32).toNatClampNeg) (z := z_4) hx hb hK hP hD hS (iv_k (by decide) : iv 0 0 0) (by decide) (by decide) (by decide) rfl rfl rfl (show vp_in x3_13 (cLen 13) from (show vp_in x3_13 1200 from (iv_in h_3 (by decide)))) (Or.inl rfl) (by rw [show cAw 13 = 0 from rfl, Nat.zero_mul, Nat.zero_add]) dX12_typedBehind_76 (fun gm_5 H locs egm_5 hP hD hS => ?_)
          rw [vnc hz_4] at egm_5
          have hI_gm_5 := CI_st hI_j57 egm_5 hz_4 (by decide)
          obtain ⟨z_6, ez_6⟩ : ∃ z : Int32, z = x3_13 + 1 := ⟨_, rfl⟩
          have hz_6 : iv 1 1200 z_6 := iv_of ez_6 (iv_add h_3 (iv_k (by decide) : iv 1 1 1) (by decide))
          have tz_6 : z_6.toInt = x3_13.toInt + 1 := by rw [ez_6]; exact iv_addE h_3 (iv_k (by decide) : iv 1 1 1) (by decide)
          refine lv_iinc (v := z_6) (lv' := [(3, .int z_6), (5, .int x5_57), (4, .int x4_13), (0, eV (ad 0) x), (1, .int st), (2, .int fo)]) hx hb dX12_typedBehind_77 hl (k := 2) rfl ez_6.symm (by decide) rfl (fun ls hl => ?_)
          exact hj80 gm_5 x5_57 z_6 (iv_w hx5_57 (by decide)) hsx4_57 (iv_w hz_6 (by decide)) hsx0_57 hsx1_57 (KS_up (KS_tr (L := [43]) KS_rf hkg_j57 (by decide)) egm_5 (by decide)) hI_gm_5 ((TBX_p (z := x3_13) (v := z_4) hsx4_57 hd (by have := i32_0; have := i32_1; have := i32_2; have := i32_m1; have := (hsx0_57).1; have := (hsx0_57).2; have := (hsx1_57).1; have := (hsx1_57).2; have := (hsx4_57).1; have := (hsx4_57).2; have := (h_3).1; have := (h_3).2; have := (hx5_57).1; have := (hx5_57).2; have := (hz_4).1; have := (hz_4).2; have := (hz_6).1; have := (hz_6).2; omega) hX (by rw [i2c_e (show iv 0 65535 x5_57 from (iv_w hx5_57 (by decide))) ez_4]; exact h5) hc (show gm_5 43 = upd (gm_j57 43) (x3_13 : Int32).toNatClampNeg z_4 from ((up_at egm_5).trans (by rw [show gm_j57 43 = gm_j57 43 from rfl]))))) (h5) (hk8) ((by { obtain ⟨q1, q2⟩ := by_s (fo := fo) hsx4_57 hd; rw [← h5] at q2; rw [if_neg hnz] at q2; have := tz_6; have := i32_0; have := i32_1; have := i32_2; have := i32_m1; have := (hsx0_57).1; have := (hsx0_57).2; have := (hsx1_57).1; have := (hsx1_57).2; have := (hsx4_57).1; have := (hsx4_57).2; have := (h_3).1; have := (h_3).2; have := (hx5_57).1; have := (hx5_57).2; have := (hz_4).1; have := (hz_4).2; have := (hz_6).1; have := (hz_6).2; omega })) _ _ _ hP hD hS (lv_sub hl [1, 2, 0, 3, 4, 5] rfl)
        · have h_7 : iv 1200 1200 x3_13 := iv_leR (i32_ge c_2) (iv_k (by decide) : iv 1200 1200 1200) hsx3_57 (by decide)
          exact hj66 gm_j57 x5_57 x4_13 x3_13 (iv_w hx5_57 (by decide)) hsx4_57 (iv_w h_7 (by decide)) hsx0_57 hsx1_57 (KS_tr (L := [43]) KS_rf hkg_j57 (by decide)) hI_j57 (hX.1) ((Or.inr (by { obtain ⟨q1, q2⟩ := by_s (fo := fo) hsx4_57 hd; rw [← h5, if_neg hnz] at q2; have q3 := bN_mono fo _ 4 (show ((24 - x4_13.toInt) / 8).toNat + 1 ≤ 4 from q1); have := i32_0; have := i32_1; have := i32_2; have := i32_m1; have := (hsx0_57).1; have := (hsx0_57).2; have := (hsx1_57).1; have := (hsx1_57).2; have := (hsx4_57).1; have := (hsx4_57).2; have := (h_7).1; have := (h_7).2; have := (hx5_57).1; have := (hx5_57).2; omega }))) _ _ _ hP hD hS (lv_sub hl [0, 1, 2, 3, 4, 5] rfl)
      refine lv_iload hx hb dX12_typedBehind_13 (lv_at hl 0 rfl) ?_
      refine lv_if_lt (tgt := 86) hx hb dX12_typedBehind_15 (by decide) (fun c_8 => ?_) (fun c_8 => ?_)
      · have h_9 : iv (-8) (-1) x4_13 := iv_ltL c_8 hx4_13 (iv_k (by decide) : iv 0 0 0) (by decide)
        refine lv_iload_n hx hb dX12_typedBehind_86 rfl (lv_at hl 1 rfl) ?_
        exact W.nb (fun hN => W.widen (k := 1) (n := 6) (by decide) (by decide) (vx_ret (W.iret (v := x3_13) hx hb hr (fun t ht hW => ⟨⟨some (.int x3_13), (sg, gm_j13, lg), rfl, ⟨x3_13, rfl, sg, gm_j13, lg, rfl, hI_j13, KS_rf, (KS_tr (L := [43]) KS_rf hkg_j13 (by decide)), KS_rf, (iv_w hx3_13 (by decide)), (fun q9 => absurd q9 (by have := i32_0; have := i32_1; have := i32_2; have := i32_m1; have := (hsx0_13).1; have := (hsx0_13).2; have := (hsx1_13).1; have := (hsx1_13).2; have := (h_9).1; have := (h_9).2; have := (hx3_13).1; have := (hx3_13).2; omega)), (Or.inr (by { rw [show ((24 - x4_13.toInt) / 8).toNat = 4 from (by { have := i32_0; have := i32_1; have := i32_2; have := i32_m1; have := (hsx0_13).1; have := (hsx0_13).2; have := (hsx1_13).1; have := (hsx1_13).2; have := (h_9).1; have := (h_9).2; have := (hx3_13).1; have := (hx3_13).2; omega })] at hX; exact hX })), (fun _ => hX.1), (Or.inr ⟨by have := i32_0; have := i32_1; have := i32_2; have := i32_m1; have := (hsx0_13).1; have := (hsx0_13).2; have := (hsx1_13).1; have := (hsx1_13).2; have := (h_9).1; have := (h_9).2; have := (hx3_13).1; have := (hx3_13).2; omega, Or.inr (by { rw [show ((24 - x4_13.toInt) / 8).toNat = 4 from (by { have := i32_0; have := i32_1; have := i32_2; have := i32_m1; have := (hsx0_13).1; have := (hsx0_13).2; have := (hsx1_13).1; have := (hsx1_13).2; have := (h_9).1; have := (h_9).2; have := (hx3_13).1; have := (hx3_13).2; omega })] at hc hkb; exact ⟨hc, hkb, (by { have := i32_0; have := i32_1; have := i32_2; have := i32_m1; have := (hsx0_13).1; have := (hsx0_13).2; have := (hsx1_13).1; have := (hsx1_13).2; have := (h_9).1; have := (h_9).2; have := (hx3_13).1; have := (hx3_13).2; omega })⟩ })⟩)⟩, by rw [ht]; exact hP, va_K.moved hW.alike hK, hD⟩, hS.F ht, by rw [ht]; exact hN⟩) hS.2.2 dX12_typedBehind_87)))
      · have h_10 : iv 0 24 x4_13 := iv_leR (i32_ge c_8) (iv_k (by decide) : iv 0 0 0) hx4_13 (by decide)
        refine lv_iload_n hx hb dX12_typedBehind_18 rfl (lv_at hl 4 rfl) ?_
        refine lv_iload hx hb dX12_typedBehind_19 (lv_at hl 0 rfl) ?_
        refine lv_iushr (v := ((fo).toUInt32 >>> ((x4_13 : Int32).toUInt32 &&& Int32.toUInt32 31)).toInt32) hx hb dX12_typedBehind_21 rfl ?_
        refine lv_topi (fun z_11 ez_11 => ?_)
        refine lv_sipush (v := 255) hx hb dX12_typedBehind_22 (by decide) ?_
        refine lv_iand hx hb dX12_typedBehind_25 ?_
        refine lv_topi (fun z_12 ez_12 => ?_)
        have hz_12 : iv 0 255 z_12 := iv_of ez_12 (iv_255 _)
        have h5 : z_12 = byC fo x4_13 := by unfold byC; rw [ez_12, ez_11]
        refine lv_istore (i := 5) (lv' := [(5, .int z_12), (4, .int x4_13), (3, .int x3_13), (0, eV (ad 0) x), (1, .int st), (2, .int fo)]) hx hb dX12_typedBehind_26 hl (by decide) rfl (fun ls hl => ?_)
        refine lv_iload hx hb dX12_typedBehind_28 (lv_at hl 0 rfl) ?_
        refine lv_if_ne (tgt := 36) hx hb dX12_typedBehind_30 (by decide) (fun c_13 => ?_) (fun c_13 => ?_)
        · have h_14 : iv 1 255 z_12 := iv_neL c_13 hz_12 (by decide)
          refine lv_iload hx hb dX12_typedBehind_36 (lv_at hl 0 rfl) ?_
          refine lv_bipush (v := 10) hx hb dX12_typedBehind_38 (by decide) ?_
          refine lv_icmp_eq (tgt := 57) hx hb dX12_typedBehind_40 (by decide) (fun c_15 => ?_) (fun c_15 => ?_)
          · have h_16 : iv 10 10 z_12 := iv_eq c_15 h_14 (iv_k (by decide) : iv 10 10 10) (by decide)
            exact hj57 gm_j13 z_12 (iv_w h_16 (by decide)) h_10 hx3_13 hsx0_13 hsx1_13 (KS_tr (L := [43]) KS_rf hkg_j13 (by decide)) hI_j13 (hX) (h5) (by have := i32_0; have := i32_1; have := i32_2; have := i32_m1; have := (hsx0_13).1; have := (hsx0_13).2; have := (hsx1_13).1; have := (hsx1_13).2; have := (h_10).1; have := (h_10).2; have := (hx3_13).1; have := (hx3_13).2; have := (h_16).1; have := (h_16).2; omega) (c_13) _ _ _ hP hD hS (lv_sub hl [0, 1, 2, 3, 4, 5] rfl)
          · have d_17 : ¬ (z_12 : Int32).toInt = 10 := lv_neT c_15 rfl
            refine lv_iload hx hb dX12_typedBehind_43 (lv_at hl 0 rfl) ?_
            refine lv_bipush (v := 32) hx hb dX12_typedBehind_45 (by decide) ?_
            refine lv_icmp_lt (tgt := 66) hx hb dX12_typedBehind_47 (by decide) (fun c_18 => ?_) (fun c_18 => ?_)
            · have h_19 : iv 1 31 z_12 := iv_ltL c_18 h_14 (iv_k (by decide) : iv 32 32 32) (by decide)
              exact hj66 gm_j13 z_12 x4_13 x3_13 (iv_w h_19 (by decide)) h_10 hx3_13 hsx0_13 hsx1_13 (KS_tr (L := [43]) KS_rf hkg_j13 (by decide)) hI_j13 (hX.1) ((Or.inl (by_bad h_10 hd (by { rw [← h5]; have n10 : ¬ z_12.toInt = 10 := fun q => c_15 (Int32.toInt_inj.mp q); have := i32_0; have := i32_1; have := i32_2; have := i32_m1; have := (hsx0_13).1; have := (hsx0_13).2; have := (hsx1_13).1; have := (hsx1_13).2; have := (h_10).1; have := (h_10).2; have := (hx3_13).1; have := (hx3_13).2; have := (h_19).1; have := (h_19).2; omega })))) _ _ _ hP hD hS (lv_sub hl [0, 1, 2, 3, 4, 5] rfl)
            · have h_20 : iv 32 255 z_12 := iv_leR (i32_ge c_18) (iv_k (by decide) : iv 32 32 32) h_14 (by decide)
              refine lv_iload hx hb dX12_typedBehind_50 (lv_at hl 0 rfl) ?_
              refine lv_bipush (v := 126) hx hb dX12_typedBehind_52 (by decide) ?_
              refine lv_icmp_gt (tgt := 66) hx hb dX12_typedBehind_54 (by decide) (fun c_21 => ?_) (fun c_21 => ?_)
              · have h_22 : iv 127 255 z_12 := iv_ltR c_21 (iv_k (by decide) : iv 126 126 126) h_20 (by decide)
                exact hj66 gm_j13 z_12 x4_13 x3_13 (iv_w h_22 (by decide)) h_10 hx3_13 hsx0_13 hsx1_13 (KS_tr (L := [43]) KS_rf hkg_j13 (by decide)) hI_j13 (hX.1) ((Or.inl (by_bad h_10 hd (by { rw [← h5]; have n10 : ¬ z_12.toInt = 10 := fun q => c_15 (Int32.toInt_inj.mp q); have := i32_0; have := i32_1; have := i32_2; have := i32_m1; have := (hsx0_13).1; have := (hsx0_13).2; have := (hsx1_13).1; have := (hsx1_13).2; have := (h_10).1; have := (h_10).2; have := (hx3_13).1; have := (hx3_13).2; have := (h_22).1; have := (h_22).2; omega })))) _ _ _ hP hD hS (lv_sub hl [0, 1, 2, 3, 4, 5] rfl)
              · have h_23 : iv 32 126 z_12 := iv_leL (i32_ge c_21) h_20 (iv_k (by decide) : iv 126 126 126) (by decide)
                exact hj57 gm_j13 z_12 (iv_w h_23 (by decide)) h_10 hx3_13 hsx0_13 hsx1_13 (KS_tr (L := [43]) KS_rf hkg_j13 (by decide)) hI_j13 (hX) (h5) (by have := i32_0; have := i32_1; have := i32_2; have := i32_m1; have := (hsx0_13).1; have := (hsx0_13).2; have := (hsx1_13).1; have := (hsx1_13).2; have := (h_10).1; have := (h_10).2; have := (hx3_13).1; have := (hx3_13).2; have := (h_23).1; have := (h_23).2; omega) (c_13) _ _ _ hP hD hS (lv_sub hl [0, 1, 2, 3, 4, 5] rfl)
        · have h_24 : iv 0 0 z_12 := iv_eq c_13 hz_12 (iv_k (by decide) : iv 0 0 0) (by decide)
          have hzz : z_12 = 0 := c_13
          refine lv_goto (tgt := 80) hx hb dX12_typedBehind_33 (by decide) ?_
          exact hj80 gm_j13 z_12 x3_13 (iv_w h_24 (by decide)) h_10 hx3_13 hsx0_13 hsx1_13 (KS_tr (L := [43]) KS_rf hkg_j13 (by decide)) hI_j13 ((TBX_z h_10 hd hX (by rw [← h5]; exact hzz))) (h5) (by have := i32_0; have := i32_1; have := i32_2; have := i32_m1; have := (hsx0_13).1; have := (hsx0_13).2; have := (hsx1_13).1; have := (hsx1_13).2; have := (h_10).1; have := (h_10).2; have := (hx3_13).1; have := (hx3_13).2; have := (h_24).1; have := (h_24).2; omega) ((by { obtain ⟨q1, q2⟩ := by_s (fo := fo) h_10 hd; rw [← h5] at q2; rw [if_pos (by exact hzz)] at q2; have := i32_0; have := i32_1; have := i32_2; have := i32_m1; have := (hsx0_13).1; have := (hsx0_13).2; have := (hsx1_13).1; have := (hsx1_13).2; have := (h_10).1; have := (h_10).2; have := (hx3_13).1; have := (hx3_13).2; have := (h_24).1; have := (h_24).2; omega })) _ _ _ hP hD hS (lv_sub hl [0, 1, 2, 3, 4, 5] rfl)
  refine lv_iload_n hx hb dX12_typedBehind_0 rfl (lv_at hl 1 rfl) ?_
  refine lv_iconst (v := (-1)) hx hb dX12_typedBehind_1 (by decide) ?_
  refine lv_icmp_ne (tgt := 7) hx hb dX12_typedBehind_2 (by decide) (fun c_25 => ?_) (fun c_25 => ?_)
  · have h_26 : iv 0 1200 st := iv_neL c_25 hvst (by decide)
    refine lv_iload_n hx hb dX12_typedBehind_7 rfl (lv_at hl 1 rfl) ?_
    refine lv_istore_n (i := 3) (lv' := [(3, .int st), (0, eV (ad 0) x), (1, .int st), (2, .int fo)]) hx hb dX12_typedBehind_8 rfl hl (by decide) rfl (fun ls hl => ?_)
    refine lv_bipush (v := 24) hx hb dX12_typedBehind_9 (by decide) ?_
    refine lv_istore (i := 4) (lv' := [(4, .int 24), (3, .int st), (0, eV (ad 0) x), (1, .int st), (2, .int fo)]) hx hb dX12_typedBehind_11 hl (by decide) rfl (fun ls hl => ?_)
    exact hj13 _ gm 24 st rfl (iv_w (iv_k (by decide) : iv 24 24 24) (by decide)) h_26 hvx h_26 KS_rf hI (TBX_0) ((by decide)) ((by { show _ = _ + ((0 : Nat) : Int); omega })) ((fun j hj => absurd hj (Nat.not_lt_zero j))) _ _ _ hP hD hS (lv_sub hl [0, 1, 2, 3, 4] rfl)
  · have h_27 : iv (-1) (-1) st := iv_eq c_25 hvst (iv_k (by decide) : iv (-1) (-1) (-1)) (by decide)
    refine lv_iconst (v := (-1)) hx hb dX12_typedBehind_5 (by decide) ?_
    exact W.nb (fun hN => W.widen (k := 1) (n := 6) (by decide) (by decide) (vx_ret (W.iret (v := (-1)) hx hb hr (fun t ht hW => ⟨⟨some (.int (-1)), (sg, gm, lg), rfl, ⟨(-1), rfl, sg, gm, lg, rfl, hI, KS_rf, KS_rf, KS_rf, (iv_w (iv_k (by decide) : iv (-1) (-1) (-1)) (by decide)), (fun _ => rfl), (Or.inl rfl), (fun q9 => absurd q9 (by have := i32_0; have := i32_1; have := i32_2; have := i32_m1; have := (hvx).1; have := (hvx).2; have := (h_27).1; have := (h_27).2; omega)), (Or.inl ⟨by have := i32_0; have := i32_1; have := i32_2; have := i32_m1; have := (hvx).1; have := (hvx).2; have := (h_27).1; have := (h_27).2; omega, rfl⟩)⟩, by rw [ht]; exact hP, va_K.moved hW.alike hK, hD⟩, hS.F ht, by rw [ht]; exact hN⟩) hS.2.2 dX12_typedBehind_6)))

theorem KP5 {p1 p2 p3 p4 s0 r1 r2 r3 r4 : Int32} {f0 f1 f2 f3 f4 f5 : Nat → Int32} (h0 : 0 ≤ s0.toInt) (t1 : TBH s0 p1 r1) (t2 : TBH r1 p2 r2) (t3 : TBH r2 p3 r3) (t4 : TBH r3 p4 r4) (e1 : ∀ i : Nat, (i : Int) < s0.toInt → f1 i = f0 i) (e2 : (r1.toInt = -1 → f2 = f1) ∧ (0 ≤ r1.toInt → ∀ i : Nat, (i : Int) < r1.toInt → f2 i = f1 i)) (e3 : (r2.toInt = -1 → f3 = f2) ∧ (0 ≤ r2.toInt → ∀ i : Nat, (i : Int) < r2.toInt → f3 i = f2 i)) (e4 : (r3.toInt = -1 → f4 = f3) ∧ (0 ≤ r3.toInt → ∀ i : Nat, (i : Int) < r3.toInt → f4 i = f3 i)) (e5 : (r4.toInt = -1 → f5 = f4) ∧ (0 ≤ r4.toInt → ∀ i : Nat, (i : Int) < r4.toInt → f5 i = f4 i)) : ∀ i : Nat, (i : Int) < s0.toInt → f5 i = f0 i := by
  have k : ∀ {a b fo : Int32}, TBH a fo b → (s0.toInt ≤ a.toInt ∨ a.toInt = -1) → (s0.toInt ≤ b.toInt ∨ b.toInt = -1) := by
    intro a b fo t h
    rcases t with c | ⟨c, d | d⟩
    · exact Or.inr c.2
    · exact Or.inr d.1
    · have := d.1; omega
  have k1 := k t1 (Or.inl (Int.le_refl _))
  have k2 := k t2 k1
  have k3 := k t3 k2
  have k4 := k t4 k3
  have st : ∀ {a : Int32} {f g : Nat → Int32}, (s0.toInt ≤ a.toInt ∨ a.toInt = -1) → ((a.toInt = -1 → g = f) ∧ (0 ≤ a.toInt → ∀ i : Nat, (i : Int) < a.toInt → g i = f i)) → ∀ i : Nat, (i : Int) < s0.toInt → g i = f i := by
    intro a f g h e i hi
    rcases h with h | h
    · exact e.2 (by omega) i (by omega)
    · rw [e.1 h]
  intro i hi
  exact (st k4 e5 i hi).trans ((st k3 e4 i hi).trans ((st k2 e3 i hi).trans ((st k1 e2 i hi).trans (e1 i hi))))

set_option maxHeartbeats 4000000 in
set_option maxRecDepth 100000 in
theorem d_type3 (l : Launch) (dC : Nat → ClassId) (dI : Nat → Nat → Nat) (ad : Nat → Nat → Nat) (cid : Nat → ClassId) (a2 : Nat → Nat) (lx : List Nat) (sg : Nat → Int32) (gm : Nat → Nat → Int32) (lg : Nat → Nat → Int64) (x : Int32) (fa : Int32) (fb : Int32) (fc9 : Int32) (fd9 : Int32) (fe9 : Int32) (hI : CI sg gm) (hvx : iv 0 0 x) : CMt dC dI ad cid a2 lx l yX12_type wm_X12_type ({ frames := 1, cells := 1, slots := 6, locals := 25 }) [eV (ad 0) x, .int fa, .int fb, .int fc9, .int fd9, .int fe9] sg gm lg (fun v u => ∃ r : Int32, v = some (.int r) ∧ ∃ (sg2 : Nat → Int32) (gm2 : Nat → Nat → Int32) (lg2 : Nat → Nat → Int64), u = (sg2, gm2, lg2) ∧ CI sg2 gm2 ∧ KS [0] sg sg2 ∧ KS [43] gm gm2 ∧ KS [] lg lg2 ∧ (iv (-1) 1200 r) ∧ (r.toInt = -1 ∨ TYX fa fb fc9 fd9 fe9 (sg 0).toInt (gm2 43) (gm 43) 20) ∧ (∀ i : Nat, (i : Int) < (sg 0).toInt → gm2 43 i = gm 43 i) ∧ (TYR fa fb fc9 fd9 fe9 r (sg 0) (sg2 0))) (fun _ _ => False) := by
  intro sz
  refine vx_ofW (cc := cX12_type) (maxL := 7) (ret := (some .int)) (by decide) rfl ?_
  intro p e s m args below meth c s₁ B hml hxt hv
  obtain ⟨rfl, hsz, hP, hK, hD0, hG⟩ := hv
  have hx := B.exec
  have hb := B.bytes
  have hr := B.returns
  have hts := atoms_spec (ws := wm_X12_type) B.pre
  have htb := fun (w : Cond) (h : w ∈ tb) => hts w (List.mem_cons_of_mem _ h)
  have hown : s.vm.findClass RX12 = some m.cls := findClass_of_methodNamed B.named
  have hlocks := B.notSynchronized
  subst hsz
  have hD := hD0.self (sz := s.heap.size)
  generalize hAe : va_A (cW ad cid a2 lx sg gm lg) s.heap.size = A at hD hG ⊢
  have hA : ∀ q : Nat, s.heap.size ≤ q → A q := fun q h => by rw [← hAe]; exact Or.inr h
  have hS : va_S A s.heap s.heap [] := va_S.rf
  have hl := lv_entry ([eV (ad 0) x, .int fa, .int fb, .int fc9, .int fd9, .int fe9]) (n := 7) (by rw [show (lg_sl ([eV (ad 0) x, .int fa, .int fb, .int fc9, .int fd9, .int fe9])).length = 6 from by simp [lg_sl, eV_cat, cat_i, cat_l]]; exact Nat.le_of_ble_eq_true rfl)
  rw [lg_entry_eq]
  generalize (lg_sl ([eV (ad 0) x, .int fa, .int fb, .int fc9, .int fd9, .int fe9]) ++ List.replicate (7 - (lg_sl ([eV (ad 0) x, .int fa, .int fb, .int fc9, .int fd9, .int fe9])).length) Slot.unset).toArray = ls at hl ⊢
  have hl : lv_has ls 7 [(0, eV (ad 0) x), (1, .int fa), (2, .int fb), (3, .int fc9), (4, .int fd9), (5, .int fe9)] := by simp [lv_args, eV_cat, cat_i, cat_l] at hl; exact hl
  have hj61 : ∀ (sg_j61 : Nat → Int32) (gm_j61 : Nat → Nat → Int32) (x6_61 : Int32) (_ : iv (-1) 1200 x6_61) (_ : iv 0 0 x) (_ : KS [0] sg sg_j61) (_ : KS [43] gm gm_j61) (_ : CI sg_j61 gm_j61) (_ : x6_61.toInt = -1 ∨ TYX fa fb fc9 fd9 fe9 (sg 0).toInt (gm_j61 43) (gm 43) 20) (_ : ∀ i : Nat, (i : Int) < (sg 0).toInt → gm_j61 43 i = gm 43 i) (_ : TYR fa fb fc9 fd9 fe9 x6_61 (sg 0) (sg_j61 0)) (H : Heap) (locs : List Loc) (ls : Array Slot), va_P (dC, dI) vwCl (cW ad cid a2 lx sg_j61 gm_j61 lg) H → va_D A (cW ad cid a2 lx sg_j61 gm_j61 lg) → va_S A s.heap H locs → lv_has ls 7 [(6, .int x6_61), (0, eV (ad 0) x), (1, .int fa), (2, .int fb), (3, .int fc9), (4, .int fd9), (5, .int fe9)] → W p l e (headSpec wm_X12_type ({ frames := 1, cells := 1, slots := 6, locals := 25 })).room s m ([eV (ad 0) x, .int fa, .int fb, .int fc9, .int fd9, .int fe9] : List Value).toArray below meth c H locs 0 0 (vx_MQ below (cQx dC dI ad cid a2 lx (fun v u => ∃ r : Int32, v = some (.int r) ∧ ∃ (sg2 : Nat → Int32) (gm2 : Nat → Nat → Int32) (lg2 : Nat → Nat → Int64), u = (sg2, gm2, lg2) ∧ CI sg2 gm2 ∧ KS [0] sg sg2 ∧ KS [43] gm gm2 ∧ KS [] lg lg2 ∧ (iv (-1) 1200 r) ∧ (r.toInt = -1 ∨ TYX fa fb fc9 fd9 fe9 (sg 0).toInt (gm2 43) (gm 43) 20) ∧ (∀ i : Nat, (i : Int) < (sg 0).toInt → gm2 43 i = gm 43 i) ∧ (TYR fa fb fc9 fd9 fe9 r (sg 0) (sg2 0))) A) (cX dC dI ad cid a2 lx (fun _ _ => False) A) ([eV (ad 0) x, .int fa, .int fb, .int fc9, .int fd9, .int fe9] : List Value).toArray s 1 6 A) (F0 m 61 ls []) := by
    intro sg_j61 gm_j61 x6_61 hx6_61 hsx0_61 hks_j61 hkg_j61 hI_j61 hX hKp hT H locs ls hP hD hS hl
    refine lv_iload hx hb dX12_type_61 (lv_at hl 0 rfl) ?_
    exact W.nb (fun hN => W.widen (k := 1) (n := 6) (by decide) (by decide) (vx_ret (W.iret (v := x6_61) hx hb hr (fun t ht hW => ⟨⟨some (.int x6_61), (sg_j61, gm_j61, lg), rfl, ⟨x6_61, rfl, sg_j61, gm_j61, lg, rfl, hI_j61, (KS_tr (L := [0]) KS_rf hks_j61 (by decide)), (KS_tr (L := [43]) KS_rf hkg_j61 (by decide)), KS_rf, hx6_61, (hX), (hKp), (hT)⟩, by rw [ht]; exact hP, va_K.moved hW.alike hK, hD⟩, hS.F ht, by rw [ht]; exact hN⟩) hS.2.2 dX12_type_63)))
  refine ec_aload_n hx hb dX12_type_0 rfl (lv_at hl 0 rfl) ?_
  refine ec_aload_n hx hb dX12_type_1 rfl (lv_at hl 0 rfl) ?_
  refine cr_get (t := 0) (j := 8) (C := RX12) (T := TX12) (N := 12) (v := .int (sg 0)) hx hb htb inX12 hown hK hP hvx (by decide) (by decide) (by decide) rfl (by decide) (htb _ kw_294) rfl dX12_type_2 ?_
  refine lv_iload_n hx hb dX12_type_5 rfl (lv_at hl 1 rfl) ?_
  refine cm_callV (t := 0) (C := RX12) (T := TX12) (N := 12) (rest := []) (as := [.int (sg 0), .int fa]) ⟨hx, hb, hml, hown, htb⟩ (d_typedBehind3 l dC dI ad cid a2 lx sg gm lg x (sg 0) fa hI hvx (iv_w (show iv 0 1200 (sg 0) from CI_s hI 0) (by decide))) (cwV 2 htb (gd_V kw_295 kw_296 kw_297 kw_2 kw_1407) rfl rfl rfl (by decide +kernel) ⟨Nat.le_of_ble_eq_true rfl, Nat.le_of_ble_eq_true rfl⟩) hvx (by decide) (by decide) rfl rfl hl.1 rfl (Nat.le_trans cs_n (by decide)) dX12_type_6 ⟨Nat.le_of_ble_eq_true rfl, Nat.le_of_ble_eq_true rfl⟩ hK hP hD hS hA hG (fun E ce q9 u_2 H locs hw hP hD hS hce hcv hcl => ?_) (fun v9 u_2 H locs hw hP hD hS => ?_)
  · exact hw.elim
  obtain ⟨r_1, rfl, sgv_3, gmv_3, lgv_3, rfl, hIv_3, ksv_3, kgv_3, klv_3, hr_1, f1_r_1, fX_r_1, fK_r_1, fB_r_1⟩ := hw
  obtain rfl := KS_nil ksv_3
  obtain rfl := KS_nil klv_3
  have hP : va_P (dC, dI) vwCl (cW ad cid a2 lx sg gmv_3 lg) H := hP
  have hD : va_D A (cW ad cid a2 lx sg gmv_3 lg) := hD
  refine W.eq (g2 := F0 m 9 ls [.int r_1]) rfl ?_
  refine lv_istore (i := 6) (lv' := [(6, .int r_1), (0, eV (ad 0) x), (1, .int fa), (2, .int fb), (3, .int fc9), (4, .int fd9), (5, .int fe9)]) hx hb dX12_type_9 hl (by decide) rfl (fun ls hl => ?_)
  refine ec_aload_n hx hb dX12_type_11 rfl (lv_at hl 1 rfl) ?_
  refine lv_iload hx hb dX12_type_12 (lv_at hl 0 rfl) ?_
  refine lv_iload_n hx hb dX12_type_14 rfl (lv_at hl 3 rfl) ?_
  refine cm_callV (t := 0) (C := RX12) (T := TX12) (N := 12) (rest := []) (as := [.int r_1, .int fb]) ⟨hx, hb, hml, hown, htb⟩ (d_typedBehind3 l dC dI ad cid a2 lx sg gmv_3 lg x r_1 fb hIv_3 hvx hr_1) (cwV 2 htb (gd_V kw_295 kw_296 kw_297 kw_2 kw_1407) rfl rfl rfl (by decide +kernel) ⟨Nat.le_of_ble_eq_true rfl, Nat.le_of_ble_eq_true rfl⟩) hvx (by decide) (by decide) rfl rfl hl.1 rfl (Nat.le_trans cs_n (by decide)) dX12_type_15 ⟨Nat.le_of_ble_eq_true rfl, Nat.le_of_ble_eq_true rfl⟩ hK hP hD hS hA hG (fun E ce q9 u_5 H locs hw hP hD hS hce hcv hcl => ?_) (fun v9 u_5 H locs hw hP hD hS => ?_)
  · exact hw.elim
  obtain ⟨r_4, rfl, sgv_6, gmv_6, lgv_6, rfl, hIv_6, ksv_6, kgv_6, klv_6, hr_4, f1_r_4, fX_r_4, fK_r_4, fB_r_4⟩ := hw
  obtain rfl := KS_nil ksv_6
  obtain rfl := KS_nil klv_6
  have hP : va_P (dC, dI) vwCl (cW ad cid a2 lx sg gmv_6 lg) H := hP
  have hD : va_D A (cW ad cid a2 lx sg gmv_6 lg) := hD
  refine W.eq (g2 := F0 m 18 ls [.int r_4]) rfl ?_
  refine lv_istore (i := 6) (lv' := [(6, .int r_4), (0, eV (ad 0) x), (1, .int fa), (2, .int fb), (3, .int fc9), (4, .int fd9), (5, .int fe9)]) hx hb dX12_type_18 hl (by decide) rfl (fun ls hl => ?_)
  refine ec_aload_n hx hb dX12_type_20 rfl (lv_at hl 1 rfl) ?_
  refine lv_iload hx hb dX12_type_21 (lv_at hl 0 rfl) ?_
  refine lv_iload_n hx hb dX12_type_23 rfl (lv_at hl 4 rfl) ?_
  refine cm_callV (t := 0) (C := RX12) (T := TX12) (N := 12) (rest := []) (as := [.int r_4, .int fc9]) ⟨hx, hb, hml, hown, htb⟩ (d_typedBehind3 l dC dI ad cid a2 lx sg gmv_6 lg x r_4 fc9 hIv_6 hvx hr_4) (cwV 2 htb (gd_V kw_295 kw_296 kw_297 kw_2 kw_1407) rfl rfl rfl (by decide +kernel) ⟨Nat.le_of_ble_eq_true rfl, Nat.le_of_ble_eq_true rfl⟩) hvx (by decide) (by decide) rfl rfl hl.1 rfl (Nat.le_trans cs_n (by decide)) dX12_type_24 ⟨Nat.le_of_ble_eq_true rfl, Nat.le_of_ble_eq_true rfl⟩ hK hP hD hS hA hG (fun E ce q9 u_8 H locs hw hP hD hS hce hcv hcl => ?_) (fun v9 u_8 H locs hw hP hD hS => ?_)
  · exact hw.elim
  obtain ⟨r_7, rfl, sgv_9, gmv_9, lgv_9, rfl, hIv_9, ksv_9, kgv_9, klv_9, hr_7, f1_r_7, fX_r_7, fK_r_7, fB_r_7⟩ := hw
  obtain rfl := KS_nil ksv_9
  obtain rfl := KS_nil klv_9
  have hP : va_P (dC, dI) vwCl (cW ad cid a2 lx sg gmv_9 lg) H := hP
  have hD : va_D A (cW ad cid a2 lx sg gmv_9 lg) := hD
  refine W.eq (g2 := F0 m 27 ls [.int r_7]) rfl ?_
  refine lv_istore (i := 6) (lv' := [(6, .int r_7), (0, eV (ad 0) x), (1, .int fa), (2, .int fb), (3, .int fc9), (4, .int fd9), (5, .int fe9)]) hx hb dX12_type_27 hl (by decide) rfl (fun ls hl => ?_)
  refine ec_aload_n hx hb dX12_type_29 rfl (lv_at hl 1 rfl) ?_
  refine lv_iload hx hb dX12_type_30 (lv_at hl 0 rfl) ?_
  refine lv_iload hx hb dX12_type_32 (lv_at hl 5 rfl) ?_
  refine cm_callV (t := 0) (C := RX12) (T := TX12) (N := 12) (rest := []) (as := [.int r_7, .int fd9]) ⟨hx, hb, hml, hown, htb⟩ (d_typedBehind3 l dC dI ad cid a2 lx sg gmv_9 lg x r_7 fd9 hIv_9 hvx hr_7) (cwV 2 htb (gd_V kw_295 kw_296 kw_297 kw_2 kw_1407) rfl rfl rfl (by decide +kernel) ⟨Nat.le_of_ble_eq_true rfl, Nat.le_of_ble_eq_true rfl⟩) hvx (by decide) (by decide) rfl rfl hl.1 rfl (Nat.le_trans cs_n (by decide)) dX12_type_34 ⟨Nat.le_of_ble_eq_true rfl, Nat.le_of_ble_eq_true rfl⟩ hK hP hD hS hA hG (fun E ce q9 u_11 H locs hw hP hD hS hce hcv hcl => ?_) (fun v9 u_11 H locs hw hP hD hS => ?_)
  · exact hw.elim
  obtain ⟨r_10, rfl, sgv_12, gmv_12, lgv_12, rfl, hIv_12, ksv_12, kgv_12, klv_12, hr_10, f1_r_10, fX_r_10, fK_r_10, fB_r_10⟩ := hw
  obtain rfl := KS_nil ksv_12
  obtain rfl := KS_nil klv_12
  have hP : va_P (dC, dI) vwCl (cW ad cid a2 lx sg gmv_12 lg) H := hP
  have hD : va_D A (cW ad cid a2 lx sg gmv_12 lg) := hD
  refine W.eq (g2 := F0 m 37 ls [.int r_10]) rfl ?_
  refine lv_istore (i := 6) (lv' := [(6, .int r_10), (0, eV (ad 0) x), (1, .int fa), (2, .int fb), (3, .int fc9), (4, .int fd9), (5, .int fe9)]) hx hb dX12_type_37 hl (by decide) rfl (fun ls hl => ?_)
  refine ec_aload_n hx hb dX12_type_39 rfl (lv_at hl 1 rfl) ?_
  refine lv_iload hx hb dX12_type_40 (lv_at hl 0 rfl) ?_
  refine lv_iload hx hb dX12_type_42 (lv_at hl 6 rfl) ?_
  refine cm_callV (t := 0) (C := RX12) (T := TX12) (N := 12) (rest := []) (as := [.int r_10, .int fe9]) ⟨hx, hb, hml, hown, htb⟩ (d_typedBehind3 l dC dI ad cid a2 lx sg gmv_12 lg x r_10 fe9 hIv_12 hvx hr_10) (cwV 2 htb (gd_V kw_295 kw_296 kw_297 kw_2 kw_1407) rfl rfl rfl (by decide +kernel) ⟨Nat.le_of_ble_eq_true rfl, Nat.le_of_ble_eq_true rfl⟩) hvx (by decide) (by decide) rfl rfl hl.1 rfl (Nat.le_trans cs_n (by decide)) dX12_type_44 ⟨Nat.le_of_ble_eq_true rfl, Nat.le_of_ble_eq_true rfl⟩ hK hP hD hS hA hG (fun E ce q9 u_14 H locs hw hP hD hS hce hcv hcl => ?_) (fun v9 u_14 H locs hw hP hD hS => ?_)
  · exact hw.elim
  obtain ⟨r_13, rfl, sgv_15, gmv_15, lgv_15, rfl, hIv_15, ksv_15, kgv_15, klv_15, hr_13, f1_r_13, fX_r_13, fK_r_13, fB_r_13⟩ := hw
  obtain rfl := KS_nil ksv_15
  obtain rfl := KS_nil klv_15
  have hP : va_P (dC, dI) vwCl (cW ad cid a2 lx sg gmv_15 lg) H := hP
  have hD : va_D A (cW ad cid a2 lx sg gmv_15 lg) := hD
  refine W.eq (g2 := F0 m 47 ls [.int r_13]) rfl ?_
  refine lv_istore (i := 6) (lv' := [(6, .int r_13), (0, eV (ad 0) x), (1, .int fa), (2, .int fb), (3, .int fc9), (4, .int fd9), (5, .int fe9)]) hx hb dX12_type_47 hl (by decide) rfl (fun ls hl => ?_)
  refine lv_iload hx hb dX12_type_49 (lv_at hl 0 rfl) ?_
  refine lv_iconst (v := (-1)) hx hb dX12_type_51 (by decide) ?_
  refine lv_icmp_eq (tgt := 61) hx hb dX12_type_52 (by decide) (fun c_16 => ?_) (fun c_16 => ?_)
  · have h_17 : iv (-1) (-1) r_13 := iv_eq c_16 hr_13 (iv_k (by decide) : iv (-1) (-1) (-1)) (by decide)
    exact hj61 sg gmv_15 r_13 (iv_w h_17 (by decide)) hvx KS_rf (KS_tr (L := [43]) (KS_tr (L := [43]) (KS_tr (L := [43]) (KS_tr (L := [43]) (KS_tr (L := [43]) KS_rf kgv_3 (by decide)) kgv_6 (by decide)) kgv_9 (by decide)) kgv_12 (by decide)) kgv_15 (by decide)) hIv_15 (Or.inl (by have := i32_0; have := i32_1; have := i32_2; have := i32_m1; have := (hvx).1; have := (hvx).2; have := ((show iv 0 1200 (sg 0) from CI_s hI 0)).1; have := ((show iv 0 1200 (sg 0) from CI_s hI 0)).2; have := (hr_1).1; have := (hr_1).2; have := (hr_4).1; have := (hr_4).2; have := (hr_7).1; have := (hr_7).2; have := (hr_10).1; have := (hr_10).2; have := (h_17).1; have := (h_17).2; omega)) ((KP5 (show iv 0 1200 (sg 0) from CI_s hI 0).1 fB_r_1 fB_r_4 fB_r_7 fB_r_10 (fK_r_1 (show iv 0 1200 (sg 0) from CI_s hI 0).1) ⟨f1_r_4, fK_r_4⟩ ⟨f1_r_7, fK_r_7⟩ ⟨f1_r_10, fK_r_10⟩ ⟨f1_r_13, fK_r_13⟩)) ((TYR_of (show iv 0 1200 (sg 0) from CI_s hI 0).1 fB_r_1 fB_r_4 fB_r_7 fB_r_10 fB_r_13 (Or.inl ⟨(by have := i32_0; have := i32_1; have := i32_2; have := i32_m1; have := (hvx).1; have := (hvx).2; have := ((show iv 0 1200 (sg 0) from CI_s hI 0)).1; have := ((show iv 0 1200 (sg 0) from CI_s hI 0)).2; have := (hr_1).1; have := (hr_1).2; have := (hr_4).1; have := (hr_4).2; have := (hr_7).1; have := (hr_7).2; have := (hr_10).1; have := (hr_10).2; have := (h_17).1; have := (h_17).2; omega), rfl⟩))) _ _ _ hP hD hS (lv_sub hl [0, 1, 2, 3, 4, 5, 6] rfl)
  · have h_18 : iv 0 1200 r_13 := iv_neL c_16 hr_13 (by decide)
    refine ec_aload_n hx hb dX12_type_55 rfl (lv_at hl 1 rfl) ?_
    refine lv_iload hx hb dX12_type_56 (lv_at hl 0 rfl) ?_
    refine cr_puts (t := 0) (j := 8) (C := RX12) (T := TX12) (N := 12) (ty0 := tyX12) (k := 0) (y := r_13) hx hb htb inX12 tyX12_ok nmX12 hown hK hP hD hS hvx (by decide) (by decide) (by decide) (by decide) rfl rfl rfl (by decide) (htb _ kw_294) rfl (by show Value.int r_13 = Value.int (va_up sg 0 r_13 0); rw [va_up_self]) rfl rfl dX12_type_58 (fun sg_19 H locs esg_19 hP hD hS => ?_)
    have hI_sg_19 := CI_put hIv_15 esg_19 h_18 (by decide)
    exact hj61 sg_19 gmv_15 r_13 (iv_w h_18 (by decide)) hvx (KS_up KS_rf esg_19 (by decide)) (KS_tr (L := [43]) (KS_tr (L := [43]) (KS_tr (L := [43]) (KS_tr (L := [43]) (KS_tr (L := [43]) KS_rf kgv_3 (by decide)) kgv_6 (by decide)) kgv_9 (by decide)) kgv_12 (by decide)) kgv_15 (by decide)) hI_sg_19 (Or.inr (TYX_of (show iv 0 1200 (sg 0) from CI_s hI 0).1 fB_r_1 fB_r_4 fB_r_7 fB_r_10 fB_r_13 fX_r_1 fX_r_4 fX_r_7 fX_r_10 fX_r_13 (by have := i32_0; have := i32_1; have := i32_2; have := i32_m1; have := (hvx).1; have := (hvx).2; have := ((show iv 0 1200 (sg 0) from CI_s hI 0)).1; have := ((show iv 0 1200 (sg 0) from CI_s hI 0)).2; have := (hr_1).1; have := (hr_1).2; have := (hr_4).1; have := (hr_4).2; have := (hr_7).1; have := (hr_7).2; have := (hr_10).1; have := (hr_10).2; have := (h_18).1; have := (h_18).2; omega))) ((KP5 (show iv 0 1200 (sg 0) from CI_s hI 0).1 fB_r_1 fB_r_4 fB_r_7 fB_r_10 (fK_r_1 (show iv 0 1200 (sg 0) from CI_s hI 0).1) ⟨f1_r_4, fK_r_4⟩ ⟨f1_r_7, fK_r_7⟩ ⟨f1_r_10, fK_r_10⟩ ⟨f1_r_13, fK_r_13⟩)) ((TYR_of (show iv 0 1200 (sg 0) from CI_s hI 0).1 fB_r_1 fB_r_4 fB_r_7 fB_r_10 fB_r_13 (Or.inr ⟨(by have := i32_0; have := i32_1; have := i32_2; have := i32_m1; have := (hvx).1; have := (hvx).2; have := ((show iv 0 1200 (sg 0) from CI_s hI 0)).1; have := ((show iv 0 1200 (sg 0) from CI_s hI 0)).2; have := (hr_1).1; have := (hr_1).2; have := (hr_4).1; have := (hr_4).2; have := (hr_7).1; have := (hr_7).2; have := (hr_10).1; have := (hr_10).2; have := (h_18).1; have := (h_18).2; omega), (up_at esg_19)⟩))) _ _ _ hP hD hS (lv_sub hl [0, 1, 2, 3, 4, 5, 6] rfl)
end
section
/-- an object: its class, its bean; an event; the state of the making: objects, events, what is being made (1) or made (2), the object of each bean, the finished ones -/
abbrev Ob9 := Int × Int
abbrev Ev9 := Int × Int × Int × Int
abbrev S9 := List Ob9 × List Ev9 × (Nat → Nat) × (Nat → Int) × List Nat
def zO (S : S9) : List Ob9 := S.1
def zE (S : S9) : List Ev9 := S.2.1
def zS (S : S9) : Nat → Nat := S.2.2.1
def zW (S : S9) : Nat → Int := S.2.2.2.1
def zF (S : S9) : List Nat := S.2.2.2.2
def fu9 {α : Type} (f : Nat → α) (k : Nat) (v : α) : Nat → α := fun j => if j = k then v else f j
theorem fu9_at {α : Type} {f : Nat → α} {k : Nat} {v : α} : fu9 f k v k = v := if_pos rfl
theorem fu9_ne {α : Type} {f : Nat → α} {k j : Nat} {v : α} (h : ¬ j = k) : fu9 f k v j = f j := if_neg h
def zAdd (S : S9) (e : Ev9) : S9 := if 400 ≤ (zE S).length then S else (zO S, zE S ++ [e], zS S, zW S, zF S)
theorem zAdd_O (S : S9) (e : Ev9) : zO (zAdd S e) = zO S := by unfold zAdd; split <;> rfl
theorem zAdd_S (S : S9) (e : Ev9) : zS (zAdd S e) = zS S := by unfold zAdd; split <;> rfl
theorem zAdd_W (S : S9) (e : Ev9) : zW (zAdd S e) = zW S := by unfold zAdd; split <;> rfl
theorem zAdd_F (S : S9) (e : Ev9) : zF (zAdd S e) = zF S := by unfold zAdd; split <;> rfl
def bd9 {α β : Type} (x : Option α × S9) (f : α → S9 → Option β × S9) : Option β × S9 := match x with
  | (some a, S) => f a S
  | (none, S) => (none, S)
theorem bd9_a {α β γ : Type} (x : Option α × S9) (f : α → S9 → Option β × S9) (g : β → S9 → Option γ × S9) : bd9 (bd9 x f) g = bd9 x (fun a S => bd9 (f a S) g) := by
  obtain ⟨o, S⟩ := x
  cases o <;> rfl
section MK9
variable (ws : Nat → Int32) (wg : Nat → Nat → Int32) (wl : Nat → Nat → Int64)
/-- the alias with a name: what it calls; 0 without -/
def alF (to : Int64) : Nat → Nat → Int64
  | 0, _ => 0
  | f + 1, i => if (wg 14 i).toInt = 1 ∧ wl 1 i = to then wl 2 i else alF to f (i + 1)
def alN (to : Int64) : Int64 := alF wg wl to (ws 4).toNatClampNeg 0
/-- the bean that a name calls -/
def caF : Nat → Int64 → Int32
  | 0, _ => -1
  | f + 1, v => if v = 0 then -1 else if cWid ws wl v = -1 then caF f (alN ws wg wl v) else cWid ws wl v
def caN (v : Int64) : Int := (caF ws wg wl 21 v).toInt
/-- to get -/
def oGet (mk : Nat → S9 → Option Int × S9) (t : Int) (S : S9) : Option Int × S9 :=
  if t < 0 then (none, S) else if ¬ wg 34 t.toNat = 0 then (none, S)
  else if wg 35 t.toNat = 0 ∧ (zS S t.toNat = 2 ∨ (zS S t.toNat = 1 ∧ ¬ zW S t.toNat = -1)) then (some (zW S t.toNat), S)
  else mk t.toNat S
def oObj (mk : Nat → S9 → Option Int × S9) (e : Nat) (S : S9) : Option Int × S9 :=
  if (wg 27 e).toInt < 0 then oGet wg mk (caN ws wg wl (wl 2 e)) S else mk (wg 27 e).toInt.toNat S
def oItm (mk : Nat → S9 → Option Int × S9) (e : Nat) (S : S9) : Option Int × S9 :=
  if (wg 25 e).toInt = 7 then (some (1000 + (wg 11 e).toInt), S) else if (wg 25 e).toInt = 9 then (some (-1), S)
  else bd9 (oObj ws wg wl mk e S) (fun o S => (some (3000 + o), S))
def itL : Nat → Int → List Nat
  | 0, _ => []
  | f + 1, x => if x < 0 then [] else x.toNat :: itL f (wg 17 x.toNat).toInt
def oIts (mk : Nat → S9 → Option Int × S9) : List Nat → List Int → S9 → Option (List Int) × S9
  | [], acc, S => (some acc, S)
  | e :: l, acc, S => bd9 (oItm ws wg wl mk e S) (fun v S => oIts mk l (acc ++ [v]) S)
def itC (c : Nat) : List Nat := itL wg 6 (wg 16 c).toInt
def oCon (mk : Nat → S9 → Option Int × S9) (c : Nat) (S : S9) : Option (List Int) × S9 :=
  if (wg 25 c).toInt = 6 then oIts ws wg wl mk (itC wg c) [] S
  else if (wg 25 c).toInt = 8 ∨ (wg 25 c).toInt = 2 then bd9 (oObj ws wg wl mk c S) (fun o S => (some [o], S))
  else (some [], S)
/-- the elements of a list -/
def liL (q : Nat) : List Nat := (List.range (wg 41 q).toNatClampNeg).map (fun i => (wg 57 (128 * q + i)).toNatClampNeg)
def ctE (h : Nat) : Nat := (wg 26 h).toNatClampNeg
def oArs (mk : Nat → S9 → Option Int × S9) : List Nat → List (List Int) → S9 → Option (List (List Int)) × S9
  | [], acc, S => (some acc, S)
  | a :: l, acc, S => bd9 (oCon ws wg wl mk (ctE wg a) S) (fun v S => oArs mk l (acc ++ [v]) S)
/-- weights -/
def wTx (c : Nat) (t : Int) : Int := if t = 0 then (if (wl 3 c).toInt = 1099511627776 then -1 else 1) else if t = 1 then (if (wg 21 c).toInt = -1 then -1 else 1)
  else if t = 2 then (if (wg 11 c).toInt = 1 then 2 else -1) else if t = 3 then 3 else -1
def stF (other : Int) : Nat → Int → Int → Int
  | 0, _, _ => -1
  | f + 1, c, u => if c < 0 then -1 else if (wg 2 c.toNat).toInt = other then u else stF other f (wg 4 c.toNat).toInt (u + 1)
def wOb (ob : List Ob9) (o t : Int) : Int := if t < 8 then -1 else (if stF wg (t - 8) 8 ((ob[o.toNat]?).getD (0, 0)).1 0 = -1 then -1 else 2 * stF wg (t - 8) 8 ((ob[o.toNat]?).getD (0, 0)).1 0)
def wCo (ob : List Ob9) (c : Nat) (V : List Int) (t : Int) : Int :=
  if (wg 25 c).toInt = 7 then wTx wg wl c t else if (wg 25 c).toInt = 9 then (if 3 ≤ t then 0 else -1) else if (wg 25 c).toInt = 6 then (if t = 4 then 0 else -1)
  else wOb wg ob ((V[0]?).getD 0) t
/-- where the args go -/
def pl1 (n : Int) : List Int → Nat → (Nat → Int) → Option (Nat → Int)
  | [], _, f => some f
  | t :: r, i, f => if t = -1 then pl1 n r (i + 1) f else if n ≤ t ∨ ¬ f t.toNat = -1 then none else pl1 n r (i + 1) (fu9 f t.toNat (i : Int))
def nx9 (f : Nat → Int) (p : Nat) : Nat := if p = 0 then (if f 0 = -1 then 0 else if f 1 = -1 then 1 else 2) else if p = 1 then (if f 1 = -1 then 1 else 2) else p
def pl2 : List Int → Nat → Nat → (Nat → Int) → (Nat → Int)
  | [], _, _, f => f
  | t :: r, i, p, f => if t = -1 then pl2 r (i + 1) (nx9 f p) (fu9 f (nx9 f p) (i : Int)) else pl2 r (i + 1) p f
def plA (ats : List Int) : Option (Nat → Int) := if 3 < ats.length then none else match pl1 (ats.length : Int) ats 0 (fun _ => -1) with
  | none => none
  | some f => some (pl2 ats 0 0 f)
def atL (b : Nat) : List Int := (liL wg (3 * b)).map (fun a => (wg 23 a).toInt)
/-- the sum of weights of a signature, from a place on -/
def suF (ob : List Ob9) (b : Nat) (vs : List (List Int)) (f : Nat → Int) (s : Nat) : Nat → Nat → Int → Int
  | 0, _, acc => acc
  | k + 1, p, acc =>
    let i := (f p).toNat
    let a := ((liL wg (3 * b))[i]?).getD 0
    let t := (wg 54 (3 * s + p)).toInt
    if ¬ (wg 24 a).toInt = -1 ∧ ¬ (wg 24 a).toInt = t then -1
    else if wCo wg wl ob (ctE wg a) ((vs[i]?).getD []) t = -1 then -1
    else suF ob b vs f s k (p + 1) (acc + wCo wg wl ob (ctE wg a) ((vs[i]?).getD []) t)
def suS (ob : List Ob9) (b : Nat) (vs : List (List Int)) (f : Nat → Int) (s : Nat) : Int :=
  if ¬ (wg 7 s).toInt = (wg 41 (3 * b)).toInt then -1 else suF wg wl ob b vs f s (wg 7 s).toNatClampNeg 0 0
abbrev cdS (m st : Int) (s : Nat) : Prop := (wg 8 s).toInt = m ∧ (wg 9 s).toInt = st
def chF9 (w : Nat → Int) : List Nat → Option (Nat × Int) → Option (Nat × Int)
  | [], b => b
  | s :: r, b => chF9 w r (match b with
    | none => if w s = -1 then none else some (s, w s)
    | some (s0, w0) => if ¬ w s = -1 ∧ w s < w0 then some (s, w s) else some (s0, w0))
/-- the nearest with a factory of that name -/
def owB (m st : Int) (c : Nat) : Bool := (List.range (wg 1 c).toNatClampNeg).any (fun i => decide (cdS wg m st (8 * c + 4 + i)))
def wfF (m st : Int) : Nat → Int → Int
  | 0, _ => -1
  | f + 1, c => if c < 0 then -1 else if owB wg m st c.toNat = true then c else wfF m st f (wg 4 c.toNat).toInt
/-- the signatures among which one is chosen -/
def clsF (b : Nat) (fo : Int) (ob : List Ob9) : Int := if fo = -1 then (wg 30 b).toInt else ((ob[fo.toNat]?).getD (0, 0)).1
def isS (b : Nat) (fo : Int) : Int := if ¬ (wg 31 b).toInt = -1 ∧ fo = -1 then 1 else 0
def hasF (b : Nat) (fo : Int) (ob : List Ob9) : Int := wfF wg (wg 31 b).toInt (isS wg b fo) 8 (clsF wg b fo ob)
def cnd (b : Nat) (fo : Int) (ob : List Ob9) : List Nat :=
  if (wg 31 b).toInt = -1 then (List.range (wg 0 (clsF wg b fo ob).toNat).toNatClampNeg).map (fun i => 8 * (clsF wg b fo ob).toNat + i)
  else if hasF wg b fo ob < 0 then [] else (List.range (wg 1 (hasF wg b fo ob).toNat).toNatClampNeg).map (fun i => 8 * (hasF wg b fo ob).toNat + 4 + i)
def suC (b : Nat) (fo : Int) (ob : List Ob9) (vs : List (List Int)) (f : Nat → Int) (s : Nat) : Int := if cdS wg (wg 31 b).toInt (isS wg b fo) s then suS wg wl ob b vs f s else -1
def chS (b : Nat) (fo : Int) (ob : List Ob9) (vs : List (List Int)) : Option (Nat × (Nat → Int)) := match plA (atL wg b) with
  | none => none
  | some f => match chF9 (suC wg wl b fo ob vs f) (cnd wg b fo ob) none with
    | none => none
    | some (s, _) => some (s, f)
/-- a value in an event -/
def vTx (c : Nat) (t : Int) : Int := if t = 0 then (Int32.ofInt (wl 3 c).toInt).toInt else if t = 1 then (wg 21 c).toInt else if t = 2 then (wg 56 (24 * c)).toInt else 1000 + (wg 11 c).toInt
def vCo (c : Nat) (V : List Int) (t : Int) : Int :=
  if (wg 25 c).toInt = 7 then vTx wg wl c t else if (wg 25 c).toInt = 9 then -1 else if (wg 25 c).toInt = 6 then 2000 + (wg 18 c).toInt else 3000 + (V[0]?).getD 0
def tlI (V : List Int) : Nat → Nat → S9 → S9
  | 0, _, S => S
  | k + 1, i, S => tlI V k (i + 1) (zAdd S (6, -1, (i : Int), (V[i]?).getD 0))
def tlV (wh ab sc : Int) (c : Nat) (V : List Int) (t : Int) (S : S9) : S9 :=
  let S1 := zAdd S (wh, ab, sc, vCo wg wl c V t)
  if (wg 25 c).toInt = 6 then tlI V (wg 18 c).toNatClampNeg 0 S1 else S1
def tlA (b : Nat) (o : Int) (vs : List (List Int)) (f : Nat → Int) (s : Nat) : Nat → Nat → S9 → S9
  | 0, _, S => S
  | k + 1, p, S => tlA b o vs f s k (p + 1) (tlV wg wl 3 o (p : Int) (ctE wg (((liL wg (3 * b))[(f p).toNat]?).getD 0)) ((vs[(f p).toNat]?).getD []) (wg 54 (3 * s + p)).toInt S)
/-- the object comes to be -/
def oB1 (b s : Nat) (S : S9) : S9 := (zO S ++ [((wg 10 s).toInt, (wg 28 b).toInt)], zE S, zS S, fu9 (zW S) b ((zO S).length : Int), zF S)
def oB2 (b s : Nat) (S : S9) : S9 := if (wg 8 s).toInt = -1 then zAdd (oB1 wg b s S) (1, ((zO S).length : Int), (wg 10 s).toInt, (wg 6 s).toInt) else zAdd (oB1 wg b s S) (2, ((zO S).length : Int), (wg 10 s).toInt, 8 * (wg 5 s).toInt + (wg 6 s).toInt)
def oBr (b : Nat) (fo : Int) (vs : List (List Int)) (S : S9) : Option Int × S9 := match chS wg wl b fo (zO S) vs with
  | none => (none, S)
  | some (s, f) => if 60 ≤ (zO S).length then (none, S) else (some ((zO S).length : Int), tlA wg wl b ((zO S).length : Int) vs f s (wg 7 s).toNatClampNeg 0 (oB2 wg b s S))
/-- the type of a setter, from a class up -/
def sgF (nm : Nat) : Nat → Int → Int
  | 0, _ => -1
  | f + 1, c => if c < 0 then -1 else if ¬ (wg 55 (26 * c.toNat + nm)).toInt = -1 then (wg 55 (26 * c.toNat + nm)).toInt else sgF nm f (wg 4 c.toNat).toInt
/-- one set that is worked out -/
def oSe (o : Int) (h : Nat) (V : List Int) (S : S9) : Option Int × S9 :=
  let t := sgF wg (wg 22 h).toNatClampNeg 8 (((zO S)[o.toNat]?).getD (0, 0)).1
  if t = -1 then (none, S) else if wCo wg wl (zO S) (ctE wg h) V t = -1 then (none, S) else (some 0, tlV wg wl 4 o (wg 22 h).toInt (ctE wg h) V t S)
def oSts (mk : Nat → S9 → Option Int × S9) (o : Int) : List Nat → S9 → Option Int × S9
  | [], S => (some 0, S)
  | h :: l, S => bd9 (oCon ws wg wl mk (ctE wg h) S) (fun V S => bd9 (oSe wg wl o h V S) (fun _ S => oSts mk o l S))
def oF1 (b : Nat) (o : Int) (S : S9) : S9 := if (wg 32 b).toInt = -1 then S else zAdd S (5, o, (wg 32 b).toInt, 0)
def oF2 (b : Nat) (S : S9) : S9 := if ¬ wl 4 b = 0 ∧ wg 35 b = 0 then (zO S, zE S, fu9 (zS S) b 2, zW S, zF S ++ [b]) else (zO S, zE S, fu9 (zS S) b 0, zW S, zF S)
def oFi (b : Nat) (o : Int) (S : S9) : S9 := oF2 wg wl b (oF1 wg b o S)
/-- what is left behind each stage -/
def r4 (mk : Nat → S9 → Option Int × S9) (b : Nat) (o : Int) (l : List Nat) (S : S9) : Option Int × S9 := bd9 (oSts ws wg wl mk o l S) (fun _ S => (some o, oFi wg wl b o S))
def r3 (mk : Nat → S9 → Option Int × S9) (b : Nat) (fo : Int) (vs : List (List Int)) (S : S9) : Option Int × S9 := bd9 (oBr wg wl b fo vs S) (fun o S => r4 ws wg wl mk b o (liL wg (3 * b + 1)) S)
def r2 (mk : Nat → S9 → Option Int × S9) (b : Nat) (fo : Int) (l : List Nat) (acc : List (List Int)) (S : S9) : Option Int × S9 := bd9 (oArs ws wg wl mk l acc S) (fun vs S => r3 ws wg wl mk b fo vs S)
def oFa (mk : Nat → S9 → Option Int × S9) (b : Nat) (S : S9) : Option Int × S9 := if wl 7 b = 0 then (some (-1), S) else oGet wg mk (caN ws wg wl (wl 7 b)) S
def r1 (mk : Nat → S9 → Option Int × S9) (b : Nat) (S : S9) : Option Int × S9 :=
  if (wg 30 b).toInt = -1 ∧ wl 7 b = 0 then (none, S) else bd9 (oFa ws wg wl mk b S) (fun fo S => r2 ws wg wl mk b fo (liL wg (3 * b)) [] S)
def oDe (mk : Nat → S9 → Option Int × S9) (b : Nat) (S : S9) : Option Int × S9 := if wl 6 b = 0 then (some (-1), S) else oGet wg mk (caN ws wg wl (wl 6 b)) S
def oBe (b : Nat) (S : S9) : S9 := (zO S, zE S, fu9 (zS S) b 1, fu9 (zW S) b (-1), zF S)
def oMB (mk : Nat → S9 → Option Int × S9) (b : Nat) (S : S9) : Option Int × S9 := bd9 (oDe ws wg wl mk b (oBe b S)) (fun _ S => r1 ws wg wl mk b S)
def oMK : Nat → Nat → S9 → Option Int × S9
  | 0, _, S => (none, S)
  | n + 1, b, S => if zS S b = 1 then (none, S) else oMB ws wg wl (oMK n) b S
/-- what was being made is not being made any more -/
def zSt (S : S9) : S9 := (zO S, zE S, fun b => if zS S b = 1 then 0 else zS S b, zW S, zF S)
def zRn (x : Option Int × S9) : Option Int × S9 := match x with
  | (some o, S) => (some o, S)
  | (none, S) => (none, zSt S)
/-- to close -/
def dsL (l : List Nat) (S : S9) : S9 := l.foldl (fun S b => if (wg 33 b).toInt = -1 then S else zAdd S (7, zW S b, (wg 33 b).toInt, 0)) S
def zFo (S : S9) : S9 := (zO S, zE S, fun b => if zS S b = 2 then 0 else zS S b, zW S, [])
def zCl (S : S9) : S9 := zFo (dsL wg (zF S).reverse S)
/-- to refresh: the beans from one on -/
def rfW (b : Nat) : Prop := ¬ wl 4 b = 0 ∧ wg 34 b = 0 ∧ wg 35 b = 0 ∧ wg 36 b = 0
def rfL (n : Nat) : Nat → Nat → S9 → Option Int × S9
  | 0, _, S => (some 0, S)
  | k + 1, b, S => if ¬ wl 4 b = 0 ∧ wg 34 b = 0 ∧ wg 35 b = 0 ∧ wg 36 b = 0 then bd9 (oGet wg (oMK ws wg wl n) (b : Int) S) (fun _ S => rfL n k (b + 1) S) else rfL n k (b + 1) S
def zCe (S : S9) : S9 := (zO S, [], zS S, zW S, zF S)
def zRf (n : Nat) (S : S9) : Option Int × S9 := match rfL ws wg wl n (ws 12).toNatClampNeg 0 (zCe (zFo S)) with
  | (some _, S) => (some ((zO S).length : Int), S)
  | (none, S) => (none, zCl wg (zSt S))
/-- the lookup of a list with a name -/
def lkL (nm : Int) : List Nat → Int
  | [] => -1
  | e :: l => if (wg 22 e).toInt = nm then (e : Int) else lkL nm l
def zLk (k nm : Int) (S : S9) : Int := if k < 0 then -1 else match (zO S)[k.toNat]? with
  | none => -1
  | some o => lkL wg nm (liL wg (3 * o.2.toNat + 2))
def zGt (n : Nat) (v : Int64) (S : S9) : Option Int × S9 := zRn (oGet wg (oMK ws wg wl n) (caN ws wg wl v) S)
end MK9
/-- what is told of an object, of an event -/
def zOb (k w : Int) (S : S9) : Int := if k < 0 then -1 else match (zO S)[k.toNat]? with
  | none => -1
  | some o => if w = 0 then o.1 else if w = 1 then o.2 else -1
def zEv (k w : Int) (S : S9) : Int := if k < 0 then -1 else match (zE S)[k.toNat]? with
  | none => -1
  | some e => if w = 0 then e.1 else if w = 1 then e.2.1 else if w = 2 then e.2.2.1 else if w = 3 then e.2.2.2 else -1
/-- a name without its zeros -/
def by9 (v : Int64) (s : Int32) : Int64 := ((v.toUInt64 >>> ((s : Int32).toInt64.toUInt64 &&& Int64.toUInt64 63)).toInt64) &&& 255
def wzG (v : Int64) : Nat → Int32 → Int64 → Int64
  | 0, _, a => a
  | f + 1, s, a => if s.toInt < 0 then a else wzG v f (s + (-8)) (if by9 v s = 0 then a else (a <<< ((8 : Int32).toInt64 &&& 63)) ||| by9 v s)
def wz9 (v : Int64) : Int64 := wzG v 8 56 0
end
section
/-- the class's rows that making leaves as they are -/
def dyn9 : List Nat := [37, 38, 39, 48, 49, 50, 51, 52, 53]
def st9 (gm : Nat → Nat → Int32) : Nat → Nat → Int32 := fun k => if dyn9.contains k = true then (fun _ => 0) else gm k
def ss9 (sg : Nat → Int32) : Nat → Int32 := fun k => if k = 4 ∨ k = 12 then sg k else 0
theorem st9_e {gm : Nat → Nat → Int32} {k : Nat} (h : dyn9.contains k = false) : st9 gm k = gm k := by unfold st9; rw [h]; rfl
theorem st9_ks {gm gm2 : Nat → Nat → Int32} {L : List Nat} (h : KS L gm gm2) (hL : L.all (fun k => dyn9.contains k) = true) : st9 gm2 = st9 gm := by
  funext k
  unfold st9
  by_cases q : dyn9.contains k = true
  · rw [if_pos q, if_pos q]
  · rw [if_neg q, if_neg q]
    refine h k ?_
    cases hk : L.contains k with
    | false => rfl
    | true => exact absurd (List.all_eq_true.mp hL k (List.contains_iff_mem.mp hk)) q
theorem ss9_ks {sg sg2 : Nat → Int32} {L : List Nat} (h : KS L sg sg2) (h4 : L.contains 4 = false) (h12 : L.contains 12 = false) : ss9 sg2 = ss9 sg := by
  funext k
  unfold ss9
  by_cases q : k = 4 ∨ k = 12
  · rw [if_pos q, if_pos q]
    rcases q with rfl | rfl
    · exact h 4 h4
    · exact h 12 h12
  · rw [if_neg q, if_neg q]
/-- what the class's rows tell of the making -/
def RCo (S : S9) (sg : Nat → Int32) (gm : Nat → Nat → Int32) : Prop := (sg 14).toInt = ((zO S).length : Int) ∧ ∀ k o, (zO S)[k]? = some o → (gm 49 k).toInt = o.1 ∧ (gm 50 k).toInt = o.2
def RCe (S : S9) (sg : Nat → Int32) (gm : Nat → Nat → Int32) : Prop := (sg 13).toInt = ((zE S).length : Int) ∧ ∀ k e, (zE S)[k]? = some e → (gm 48 (4 * k)).toInt = e.1 ∧ (gm 48 (4 * k + 1)).toInt = e.2.1 ∧ (gm 48 (4 * k + 2)).toInt = e.2.2.1 ∧ (gm 48 (4 * k + 3)).toInt = e.2.2.2
def RCb (wg : Nat → Nat → Int32) (lg : Nat → Nat → Int64) (S : S9) (sg : Nat → Int32) (gm : Nat → Nat → Int32) : Prop := ∀ b, b < (sg 12).toNatClampNeg → (zS S b = 1 ↔ ¬ gm 37 b = 0) ∧ (¬ lg 4 b = 0 → wg 35 b = 0 → (zS S b = 2 ↔ ¬ gm 38 b = 0) ∧ (¬ zS S b = 0 → (gm 39 b).toInt = zW S b ∧ zW S b < ((zO S).length : Int))) ∧ zS S b ≤ 2
def RCf (wg : Nat → Nat → Int32) (lg : Nat → Nat → Int64) (S : S9) (sg : Nat → Int32) (gm : Nat → Nat → Int32) : Prop := (sg 15).toInt = ((zF S).length : Int) ∧ (∀ (k b : Nat), (zF S)[k]? = some b → (gm 51 k).toInt = (b : Int) ∧ b < (sg 12).toNatClampNeg ∧ ¬ lg 4 b = 0 ∧ wg 35 b = 0 ∧ zS S b = 2) ∧ (zF S).Nodup
def RC (wg : Nat → Nat → Int32) (lg : Nat → Nat → Int64) (S : S9) (sg : Nat → Int32) (gm : Nat → Nat → Int32) : Prop := RCo S sg gm ∧ RCe S sg gm ∧ RCb wg lg S sg gm ∧ RCf wg lg S sg gm
/-- nothing of what RC speaks of has changed -/
theorem RC_k {wg : Nat → Nat → Int32} {lg : Nat → Nat → Int64} {S : S9} {sg sg2 : Nat → Int32} {gm gm2 : Nat → Nat → Int32} (h : RC wg lg S sg gm) (h12 : sg2 12 = sg 12) (h13 : sg2 13 = sg 13) (h14 : sg2 14 = sg 14) (h15 : sg2 15 = sg 15) (g37 : gm2 37 = gm 37) (g38 : gm2 38 = gm 38) (g39 : gm2 39 = gm 39) (g48 : gm2 48 = gm 48) (g49 : gm2 49 = gm 49) (g50 : gm2 50 = gm 50) (g51 : gm2 51 = gm 51) : RC wg lg S sg2 gm2 := by
  obtain ⟨a, b, c, d⟩ := h
  unfold RCo at a; unfold RCe at b; unfold RCb at c; unfold RCf at d
  unfold RC RCo RCe RCb RCf
  rw [h12, h13, h14, h15, g37, g38, g39, g48, g49, g50, g51]
  exact ⟨a, b, c, d⟩
def rk9 : List Nat := [37, 38, 39, 48, 49, 50, 51]
theorem RC_ks {wg : Nat → Nat → Int32} {lg : Nat → Nat → Int64} {S : S9} {sg sg2 : Nat → Int32} {gm gm2 : Nat → Nat → Int32} {L M : List Nat} (h : RC wg lg S sg gm) (hs : KS L sg sg2) (hg : KS M gm gm2) (hL : [12, 13, 14, 15].all (fun k => !L.contains k) = true) (hM : rk9.all (fun k => !M.contains k) = true) : RC wg lg S sg2 gm2 := by
  have f : ∀ k, k ∈ [12, 13, 14, 15] → sg2 k = sg k := fun k hk => hs k (by
    have := List.all_eq_true.mp hL k hk
    simpa using this)
  have g : ∀ k, k ∈ rk9 → gm2 k = gm k := fun k hk => hg k (by
    have := List.all_eq_true.mp hM k hk
    simpa using this)
  exact RC_k h (f 12 (by decide)) (f 13 (by decide)) (f 14 (by decide)) (f 15 (by decide)) (g 37 (by decide)) (g 38 (by decide)) (g 39 (by decide)) (g 48 (by decide)) (g 49 (by decide)) (g 50 (by decide)) (g 51 (by decide))
theorem ga9 {α : Type} {l : List α} {x y : α} {k : Nat} (h : (l ++ [x])[k]? = some y) : (k < l.length ∧ l[k]? = some y) ∨ (k = l.length ∧ x = y) := by
  by_cases hk : k < l.length
  · rw [List.getElem?_append_left hk] at h; exact Or.inl ⟨hk, h⟩
  · rw [List.getElem?_append_right (by omega)] at h
    by_cases e : k = l.length
    · refine Or.inr ⟨e, ?_⟩
      rw [e, Nat.sub_self] at h
      exact Option.some.inj h
    · obtain ⟨j, hj⟩ : ∃ j, k - l.length = j + 1 := ⟨k - l.length - 1, by omega⟩
      rw [hj] at h; cases h
theorem gl9 {α : Type} {l : List α} {y : α} {k : Nat} (h : l[k]? = some y) : k < l.length := by
  by_cases hk : k < l.length
  · exact hk
  · rw [List.getElem?_eq_none (by omega)] at h; cases h
theorem RC_full {wg : Nat → Nat → Int32} {lg : Nat → Nat → Int64} {S : S9} {sg : Nat → Int32} {gm : Nat → Nat → Int32} {e : Ev9} (h : RC wg lg S sg gm) (hf : 400 ≤ (sg 13).toInt) : RC wg lg (zAdd S e) sg gm := by
  have h1 := h.2.1.1
  have : zAdd S e = S := by unfold zAdd; rw [if_pos (by omega)]
  rw [this]; exact h
theorem RC_ev {wg : Nat → Nat → Int32} {lg : Nat → Nat → Int64} {S : S9} {sg sg2 : Nat → Int32} {gm gm2 : Nat → Nat → Int32} {a b c d : Int32} {i0 i1 i2 i3 : Nat} (h : RC wg lg S sg gm) (hs : KS [13] sg sg2) (hg : KS [48] gm gm2) (hlt : (sg 13).toInt < 400) (h13 : (sg2 13).toInt = (sg 13).toInt + 1) (h48 : gm2 48 = upd (upd (upd (upd (gm 48) i0 a) i1 b) i2 c) i3 d) (e0 : (i0 : Int) = 4 * (sg 13).toInt) (e1 : i1 = i0 + 1) (e2 : i2 = i0 + 2) (e3 : i3 = i0 + 3) : RC wg lg (zAdd S (a.toInt, b.toInt, c.toInt, d.toInt)) sg2 gm2 := by
  obtain ⟨ho, he, hb, hf⟩ := h
  have h1 := he.1
  have hz : zAdd S (a.toInt, b.toInt, c.toInt, d.toInt) = (zO S, zE S ++ [(a.toInt, b.toInt, c.toInt, d.toInt)], zS S, zW S, zF S) := by unfold zAdd; rw [if_neg (by omega)]
  rw [hz]
  have s12 := hs 12 (by decide); have s14 := hs 14 (by decide); have s15 := hs 15 (by decide)
  have g37 := hg 37 (by decide); have g38 := hg 38 (by decide); have g39 := hg 39 (by decide); have g49 := hg 49 (by decide); have g50 := hg 50 (by decide); have g51 := hg 51 (by decide)
  refine ⟨?_, ?_, ?_, ?_⟩
  · unfold RCo; rw [s14, g49, g50]; exact ho
  · refine ⟨by rw [h13, h1]; show _ = ((zE S ++ [_]).length : Int); rw [List.length_append]; rfl, ?_⟩
    intro k e hk
    have hk : (zE S ++ [(a.toInt, b.toInt, c.toInt, d.toInt)])[k]? = some e := hk
    rw [h48]
    rcases ga9 hk with ⟨hl, hk⟩ | ⟨hl, hk⟩
    · have q := he.2 k e hk
      have n : ∀ j, j < 4 → upd (upd (upd (upd (gm 48) i0 a) i1 b) i2 c) i3 d (4 * k + j) = gm 48 (4 * k + j) := fun j hj => by
        rw [upd_ne (by omega), upd_ne (by omega), upd_ne (by omega), upd_ne (by omega)]
      rw [show 4 * k = 4 * k + 0 from rfl, n 0 (by omega), n 1 (by omega), n 2 (by omega), n 3 (by omega)]
      exact q
    · subst hk
      have e9 : i0 = 4 * k := by omega
      subst e1; subst e2; subst e3; subst e9
      refine ⟨?_, ?_, ?_, ?_⟩
      · rw [upd_ne (by omega), upd_ne (by omega), upd_ne (by omega), upd_at]
      · rw [upd_ne (by omega), upd_ne (by omega), upd_at]
      · rw [upd_ne (by omega), upd_at]
      · rw [upd_at]
  · unfold RCb; rw [s12, g37, g38, g39]; exact hb
  · unfold RCf; rw [s12, s15, g51]; exact hf
theorem sw9 {gm wg : Nat → Nat → Int32} (h : st9 gm = wg) (k : Nat) (hk : dyn9.contains k = false) (i : Nat) : wg k i = gm k i := by rw [← h, st9_e hk]
theorem swt9 {gm wg : Nat → Nat → Int32} (h : st9 gm = wg) {k i : Nat} {z : Int32} (e : z = gm k i) (hk : dyn9.contains k = false) : wg k i = z := (sw9 h k hk i).trans e.symm
end
section
theorem cln9 {u : Int32} (h : 0 ≤ u.toInt) : (u.toNatClampNeg : Int) = u.toInt := by
  have : u.toNatClampNeg = u.toInt.toNat := rfl
  omega
theorem stF_o {wg : Nat → Nat → Int32} {k c u : Int} {f : Nat} (h : c < 0) : stF wg k f c u = -1 := by
  cases f with
  | zero => rfl
  | succ f => show (if c < 0 then (-1 : Int) else _) = -1; rw [if_pos h]
theorem stF_y {wg : Nat → Nat → Int32} {k c u : Int} {f : Nat} (hf : 0 < f) (h : 0 ≤ c) (he : (wg 2 c.toNat).toInt = k) : stF wg k f c u = u := by
  obtain ⟨g, rfl⟩ : ∃ g, f = g + 1 := ⟨f - 1, by omega⟩
  show (if c < 0 then (-1 : Int) else if (wg 2 c.toNat).toInt = k then u else _) = u
  rw [if_neg (by omega), if_pos he]
theorem stF_s {wg : Nat → Nat → Int32} {k c u : Int} {f : Nat} (h : 0 ≤ c) (hn : ¬ (wg 2 c.toNat).toInt = k) : stF wg k (f + 1) c u = stF wg k f (wg 4 c.toNat).toInt (u + 1) := by
  show (if c < 0 then (-1 : Int) else if (wg 2 c.toNat).toInt = k then u else _) = _
  rw [if_neg (by omega), if_neg hn]
theorem stF_st {wg : Nat → Nat → Int32} {k R : Int} {x u u2 y : Int32} (h : R = stF wg k (8 - u.toNatClampNeg) x.toInt u.toInt) (hu : iv 0 7 u) (hx : 0 ≤ x.toInt) (hn : ¬ (wg 2 x.toNatClampNeg).toInt = k) (hy : y = wg 4 x.toNatClampNeg) (hu2 : u2.toInt = u.toInt + 1) : R = stF wg k (8 - u2.toNatClampNeg) y.toInt u2.toInt := by
  have a := cln9 hu.1
  have b := cln9 (u := u2) (by have := hu.1; omega)
  have c := hu.2
  rw [show 8 - u.toNatClampNeg = (8 - u2.toNatClampNeg) + 1 by omega, stF_s hx hn] at h
  rw [h, hy, hu2]; rfl
theorem stF_e {wg : Nat → Nat → Int32} {k R : Int} {x u : Int32} (h : R = stF wg k (8 - u.toNatClampNeg) x.toInt u.toInt) (hx : x.toInt < 0 ∨ 8 ≤ u.toInt) : R = -1 := by
  rcases hx with hx | hx
  · rw [h, stF_o hx]
  · have a := cln9 (u := u) (by omega)
    rw [h, show 8 - u.toNatClampNeg = 0 by omega]; rfl
theorem stF_h {wg : Nat → Nat → Int32} {k R : Int} {x u : Int32} (h : R = stF wg k (8 - u.toNatClampNeg) x.toInt u.toInt) (hu : iv 0 7 u) (hx : 0 ≤ x.toInt) (he : (wg 2 x.toNatClampNeg).toInt = k) : R = u.toInt := by
  have a := cln9 hu.1
  have c := hu.2
  rw [h, stF_y (by omega) hx he]
theorem sgF_o {wg : Nat → Nat → Int32} {nm f : Nat} {c : Int} (h : c < 0) : sgF wg nm f c = -1 := by
  cases f with
  | zero => rfl
  | succ f => show (if c < 0 then (-1 : Int) else _) = -1; rw [if_pos h]
theorem sgF_st {wg : Nat → Nat → Int32} {nm : Nat} {R : Int} {x u u2 y : Int32} (h : R = sgF wg nm (8 - u.toNatClampNeg) x.toInt) (hu : iv 0 7 u) (hx : 0 ≤ x.toInt) (hn : (wg 55 (26 * x.toNatClampNeg + nm)).toInt = -1) (hy : y = wg 4 x.toNatClampNeg) (hu2 : u2.toInt = u.toInt + 1) : R = sgF wg nm (8 - u2.toNatClampNeg) y.toInt := by
  have a := cln9 hu.1
  have b := cln9 (u := u2) (by have := hu.1; omega)
  have c := hu.2
  rw [show 8 - u.toNatClampNeg = (8 - u2.toNatClampNeg) + 1 by omega] at h
  rw [h, hy]
  show (if x.toInt < 0 then (-1 : Int) else if ¬ (wg 55 (26 * x.toNatClampNeg + nm)).toInt = -1 then _ else _) = _
  rw [if_neg (by omega), if_neg (by omega)]; rfl
theorem sgF_e {wg : Nat → Nat → Int32} {nm : Nat} {R : Int} {x u : Int32} (h : R = sgF wg nm (8 - u.toNatClampNeg) x.toInt) (hx : x.toInt < 0 ∨ 8 ≤ u.toInt) : R = -1 := by
  rcases hx with hx | hx
  · rw [h, sgF_o hx]
  · have a := cln9 (u := u) (by omega)
    rw [h, show 8 - u.toNatClampNeg = 0 by omega]; rfl
theorem sgF_h {wg : Nat → Nat → Int32} {nm : Nat} {R : Int} {x u : Int32} (h : R = sgF wg nm (8 - u.toNatClampNeg) x.toInt) (hu : iv 0 7 u) (hx : 0 ≤ x.toInt) (he : ¬ (wg 55 (26 * x.toNatClampNeg + nm)).toInt = -1) : R = (wg 55 (26 * x.toNatClampNeg + nm)).toInt := by
  have a := cln9 hu.1
  have c := hu.2
  obtain ⟨g, hg⟩ : ∃ g, 8 - u.toNatClampNeg = g + 1 := ⟨7 - u.toNatClampNeg, by omega⟩
  rw [h, hg]
  show (if x.toInt < 0 then (-1 : Int) else if ¬ (wg 55 (26 * x.toNatClampNeg + nm)).toInt = -1 then _ else _) = _
  rw [if_neg (by omega), if_pos he]; rfl
theorem owB_t {wg : Nat → Nat → Int32} {m st : Int} {c i : Nat} (h : i < (wg 1 c).toNatClampNeg) (hc : cdS wg m st (8 * c + 4 + i)) : owB wg m st c = true :=
  List.any_eq_true.mpr ⟨i, List.mem_range.mpr h, decide_eq_true hc⟩
theorem owB_f {wg : Nat → Nat → Int32} {m st : Int} {c : Nat} (h : ∀ i, i < (wg 1 c).toNatClampNeg → ¬ cdS wg m st (8 * c + 4 + i)) : owB wg m st c = false := by
  cases q : owB wg m st c with
  | false => rfl
  | true =>
    obtain ⟨i, hi, hc⟩ := List.any_eq_true.mp q
    exact absurd (of_decide_eq_true hc) (h i (List.mem_range.mp hi))
theorem wfF_o {wg : Nat → Nat → Int32} {m st : Int} {f : Nat} {c : Int} (h : c < 0) : wfF wg m st f c = -1 := by
  cases f with
  | zero => rfl
  | succ f => show (if c < 0 then (-1 : Int) else _) = -1; rw [if_pos h]
theorem wfF_st {wg : Nat → Nat → Int32} {m st : Int} {R : Int} {x u u2 y : Int32} (h : R = wfF wg m st (8 - u.toNatClampNeg) x.toInt) (hu : iv 0 7 u) (hx : 0 ≤ x.toInt) (hn : owB wg m st x.toNatClampNeg = false) (hy : y = wg 4 x.toNatClampNeg) (hu2 : u2.toInt = u.toInt + 1) : R = wfF wg m st (8 - u2.toNatClampNeg) y.toInt := by
  have a := cln9 hu.1
  have b := cln9 (u := u2) (by have := hu.1; omega)
  have c := hu.2
  rw [show 8 - u.toNatClampNeg = (8 - u2.toNatClampNeg) + 1 by omega] at h
  rw [h, hy]
  show (if x.toInt < 0 then (-1 : Int) else if owB wg m st x.toNatClampNeg = true then _ else _) = _
  rw [if_neg (by omega), if_neg (by rw [hn]; decide)]; rfl
theorem wfF_e {wg : Nat → Nat → Int32} {m st : Int} {R : Int} {x u : Int32} (h : R = wfF wg m st (8 - u.toNatClampNeg) x.toInt) (hx : x.toInt < 0 ∨ 8 ≤ u.toInt) : R = -1 := by
  rcases hx with hx | hx
  · rw [h, wfF_o hx]
  · have a := cln9 (u := u) (by omega)
    rw [h, show 8 - u.toNatClampNeg = 0 by omega]; rfl
theorem wfF_h {wg : Nat → Nat → Int32} {m st : Int} {R : Int} {x u : Int32} (h : R = wfF wg m st (8 - u.toNatClampNeg) x.toInt) (hu : iv 0 7 u) (hx : 0 ≤ x.toInt) (he : owB wg m st x.toNatClampNeg = true) : R = x.toInt := by
  have a := cln9 hu.1
  have c := hu.2
  obtain ⟨g, hg⟩ : ∃ g, 8 - u.toNatClampNeg = g + 1 := ⟨7 - u.toNatClampNeg, by omega⟩
  rw [h, hg]
  show (if x.toInt < 0 then (-1 : Int) else if owB wg m st x.toNatClampNeg = true then _ else _) = _
  rw [if_neg (by omega), if_pos he]
end
