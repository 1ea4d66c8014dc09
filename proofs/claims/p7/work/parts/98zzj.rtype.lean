theorem tyN_lt (p1 p2 p3 p4 p5 : Int32) {k : Nat} : ∀ n, k < n → ¬ tyS p1 p2 p3 p4 p5 (nI k) = 0 → tyN p1 p2 p3 p4 p5 k < tyN p1 p2 p3 p4 p5 n := by
  intro n
  induction n with
  | zero => intro h; exact absurd h (Nat.not_lt_zero k)
  | succ n ih =>
    intro h hz
    show _ < tyN p1 p2 p3 p4 p5 n + (if tyS p1 p2 p3 p4 p5 (nI n) = 0 then 0 else 1)
    by_cases e : k = n
    · subst e; rw [if_neg hz]; omega
    · have := ih (by omega) hz; omega
/-- the letters typed so far stand behind what stood there -/
def TYX (p1 p2 p3 p4 p5 : Int32) (s0 : Int) (f f0 : Nat → Int32) (n : Nat) : Prop := (∀ i : Nat, (i : Int) < s0 → f i = f0 i) ∧ ∀ k, k < n → ¬ tyS p1 p2 p3 p4 p5 (nI k) = 0 → f (s0.toNat + tyN p1 p2 p3 p4 p5 k) = tyS p1 p2 p3 p4 p5 (nI k)
theorem TYX_0 {p1 p2 p3 p4 p5 : Int32} {s0 : Int} {f : Nat → Int32} : TYX p1 p2 p3 p4 p5 s0 f f 0 := ⟨fun _ _ => rfl, fun k hk => absurd hk (Nat.not_lt_zero k)⟩
theorem TYX_z {p1 p2 p3 p4 p5 x i : Int32} {s0 : Int} {f f0 : Nat → Int32} (hi : iv 0 19 i) (h : TYX p1 p2 p3 p4 p5 s0 f f0 i.toNatClampNeg) (hs : x = tyS p1 p2 p3 p4 p5 i) (hx : x = 0) : TYX p1 p2 p3 p4 p5 s0 f f0 (i.toNatClampNeg + 1) := by
  refine ⟨h.1, fun k hk hz => ?_⟩
  by_cases e : k = i.toNatClampNeg
  · rw [e, iv_nI hi (by decide), ← hs] at hz; exact absurd hx hz
  · exact h.2 k (by omega) hz
theorem TYX_p {p1 p2 p3 p4 p5 x i z : Int32} {s0 : Int} {f f0 g : Nat → Int32} (hi : iv 0 19 i) (h0 : 0 ≤ s0) (h : TYX p1 p2 p3 p4 p5 s0 f f0 i.toNatClampNeg) (hs : x = tyS p1 p2 p3 p4 p5 i) (hx : ¬ x = 0) (hz : z.toInt = s0 + (tyN p1 p2 p3 p4 p5 i.toNatClampNeg : Int)) (hg : g = upd f z.toNatClampNeg x) : TYX p1 p2 p3 p4 p5 s0 g f0 (i.toNatClampNeg + 1) := by
  have q : z.toNatClampNeg = s0.toNat + tyN p1 p2 p3 p4 p5 i.toNatClampNeg := by show z.toInt.toNat = _; omega
  rw [hg, q]
  refine ⟨fun j hj => by rw [upd_ne (by omega)]; exact h.1 j hj, fun k hk hz => ?_⟩
  by_cases e : k = i.toNatClampNeg
  · rw [e, upd_at, iv_nI hi (by decide)]; exact hs
  · have := tyN_lt p1 p2 p3 p4 p5 i.toNatClampNeg (show k < i.toNatClampNeg by omega) hz
    rw [upd_ne (by omega)]
    exact h.2 k (by omega) hz

set_option maxHeartbeats 4000000 in
set_option maxRecDepth 100000 in
theorem a_type3 (l : Launch) (dC : Nat → ClassId) (dI : Nat → Nat → Nat) (h0 : Nat) (ad : Nat → Nat) (cid : Nat → ClassId) (sg : Nat → Int32) (gm : Nat → Nat → Int32) (lg : Nat → Nat → Int64) (p1 : Int32) (p2 : Int32) (p3 : Int32) (p4 : Int32) (p5 : Int32) (hI : MI sg gm) : MMi l dC dI yX13_type wm_X13_type ({ frames := 0, cells := 0, slots := 0, locals := 0 }) h0 ad cid [.int p1, .int p2, .int p3, .int p4, .int p5] sg gm lg (fun r v => ∃ (sg2 : Nat → Int32) (gm2 : Nat → Nat → Int32) (lg2 : Nat → Nat → Int64), v = (sg2, gm2, lg2) ∧ MI sg2 gm2 ∧ KS [5, 20] sg sg2 ∧ KS [19] gm gm2 ∧ KS [] lg lg2 ∧ (r.toInt = -1 ∧ gm2 19 = gm 19 ∨ TYX p1 p2 p3 p4 p5 (sg 20).toInt (gm2 19) (gm 19) 20) ∧ (TYR p1 p2 p3 p4 p5 r (sg 20) (sg2 20))) := by
  intro sz
  refine Met.ofW (cc := cX13_type) (maxL := 10) (ret := (some .int)) (by decide) rfl ?_
  intro p e s m args below meth c s₁ B hml hv
  obtain ⟨rfl, hsz, hP, hK, hD0⟩ := hv
  have hx := B.exec
  have hb := B.bytes
  have hr := B.returns
  have hts := atoms_spec (ws := wm_X13_type) B.pre
  have htb := fun (w : Cond) (h : w ∈ tb) => hts w (List.mem_cons_of_mem _ h)
  have hown : s.vm.findClass RX13 = some m.cls := findClass_of_methodNamed B.named
  have hlocks := B.notSynchronized
  subst hsz
  have hD := hD0.self (sz := s.heap.size)
  generalize hAe : va_A (mW h0 ad cid sg gm lg) s.heap.size = A at hD ⊢
  have hA : ∀ q : Nat, s.heap.size ≤ q → A q := fun q h => by rw [← hAe]; exact Or.inr h
  have hS : va_S A s.heap s.heap [] := va_S.rf
  have hl := lv_entry ([.ref h0, .int p1, .int p2, .int p3, .int p4, .int p5]) (n := 10) (Nat.le_of_ble_eq_true rfl)
  rw [lg_entry_eq]
  generalize (lg_sl ([.ref h0, .int p1, .int p2, .int p3, .int p4, .int p5]) ++ List.replicate (10 - (lg_sl ([.ref h0, .int p1, .int p2, .int p3, .int p4, .int p5])).length) Slot.unset).toArray = ls at hl ⊢
  have hl : lv_has ls 10 [(0, .ref h0), (1, .int p1), (2, .int p2), (3, .int p3), (4, .int p4), (5, .int p5)] := hl
  have hj152 : ∀ (n : Nat) (sg_j152 : Nat → Int32) (gm_j152 : Nat → Nat → Int32) (x7_152 : Int32) (x6_152 : Int32) (_ : (20 - x7_152.toInt).toNat = n) (_ : iv 0 20 x7_152) (_ : iv 0 20 x6_152) (_ : KS [5, 20] sg sg_j152) (_ : KS [19] gm gm_j152) (_ : MI sg_j152 gm_j152) (_ : TYX p1 p2 p3 p4 p5 (sg 20).toInt (gm_j152 19) (gm 19) x7_152.toNatClampNeg) (_ : (sg_j152 20).toInt = (sg 20).toInt + (tyN p1 p2 p3 p4 p5 x7_152.toNatClampNeg : Int)) (_ : (sg 20).toInt + (tyN p1 p2 p3 p4 p5 20 : Int) ≤ 1200) (_ : TYA p1 p2 p3 p4 p5 20) (_ : TYK p1 p2 p3 p4 p5 20) (H : Heap) (locs : List Loc) (ls : Array Slot), va_P (dC, dI) vwCl (mW h0 ad cid sg_j152 gm_j152 lg) H → va_D A (mW h0 ad cid sg_j152 gm_j152 lg) → va_S A s.heap H locs → lv_has ls 10 [(7, .int x7_152), (6, .int x6_152), (0, .ref h0), (1, .int p1), (2, .int p2), (3, .int p3), (4, .int p4), (5, .int p5)] → W p l e (headSpec wm_X13_type ({ frames := 0, cells := 0, slots := 0, locals := 0 })).room s m ([.ref h0, .int p1, .int p2, .int p3, .int p4, .int p5] : List Value).toArray below meth c H locs 0 0 (MQ below (va_Qi (fun r v => ∃ (sg2 : Nat → Int32) (gm2 : Nat → Nat → Int32) (lg2 : Nat → Nat → Int64), v = (sg2, gm2, lg2) ∧ MI sg2 gm2 ∧ KS [5, 20] sg sg2 ∧ KS [19] gm gm2 ∧ KS [] lg lg2 ∧ (r.toInt = -1 ∧ gm2 19 = gm 19 ∨ TYX p1 p2 p3 p4 p5 (sg 20).toInt (gm2 19) (gm 19) 20) ∧ (TYR p1 p2 p3 p4 p5 r (sg 20) (sg2 20))) (MB dC dI h0 ad cid A) A) ([.ref h0, .int p1, .int p2, .int p3, .int p4, .int p5] : List Value).toArray s 0 0 A) (F0 m 152 ls []) := by
    intro n
    induction n using Nat.strongRecOn with
    | ind n ih152 =>
      intro sg_j152 gm_j152 x7_152 x6_152 hn152 hx7_152 hx6_152 hks_j152 hkg_j152 hI_j152 hX hz2 hle hall hok H locs ls hP hD hS hl
      have hj253 : ∀ (sg_j253 : Nat → Int32) (gm_j253 : Nat → Nat → Int32) (x9_253 : Int32) (x8_253 : Int32) (_ : iv 0 126 x9_253) (_ : iv 0 19 x7_152) (_ : iv 0 20 x6_152) (_ : KS [5, 20] sg sg_j253) (_ : KS [19] gm gm_j253) (_ : MI sg_j253 gm_j253) (_ : TYX p1 p2 p3 p4 p5 (sg 20).toInt (gm_j253 19) (gm 19) (x7_152.toNatClampNeg + 1)) (_ : (sg_j253 20).toInt = (sg 20).toInt + (tyN p1 p2 p3 p4 p5 (x7_152.toNatClampNeg + 1) : Int)) (H : Heap) (locs : List Loc) (ls : Array Slot), va_P (dC, dI) vwCl (mW h0 ad cid sg_j253 gm_j253 lg) H → va_D A (mW h0 ad cid sg_j253 gm_j253 lg) → va_S A s.heap H locs → lv_has ls 10 [(9, .int x9_253), (8, .int x8_253), (7, .int x7_152), (6, .int x6_152), (0, .ref h0), (1, .int p1), (2, .int p2), (3, .int p3), (4, .int p4), (5, .int p5)] → W p l e (headSpec wm_X13_type ({ frames := 0, cells := 0, slots := 0, locals := 0 })).room s m ([.ref h0, .int p1, .int p2, .int p3, .int p4, .int p5] : List Value).toArray below meth c H locs 0 0 (MQ below (va_Qi (fun r v => ∃ (sg2 : Nat → Int32) (gm2 : Nat → Nat → Int32) (lg2 : Nat → Nat → Int64), v = (sg2, gm2, lg2) ∧ MI sg2 gm2 ∧ KS [5, 20] sg sg2 ∧ KS [19] gm gm2 ∧ KS [] lg lg2 ∧ (r.toInt = -1 ∧ gm2 19 = gm 19 ∨ TYX p1 p2 p3 p4 p5 (sg 20).toInt (gm2 19) (gm 19) 20) ∧ (TYR p1 p2 p3 p4 p5 r (sg 20) (sg2 20))) (MB dC dI h0 ad cid A) A) ([.ref h0, .int p1, .int p2, .int p3, .int p4, .int p5] : List Value).toArray s 0 0 A) (F0 m 253 ls []) := by
        intro sg_j253 gm_j253 x9_253 x8_253 hx9_253 hsx7_253 hsx6_253 hks_j253 hkg_j253 hI_j253 hX hz3 H locs ls hP hD hS hl
        obtain ⟨z_1, ez_1⟩ : ∃ z : Int32, z = x7_152 + 1 := ⟨_, rfl⟩
        have hz_1 : iv 1 20 z_1 := iv_of ez_1 (iv_add hsx7_253 (iv_k (by decide) : iv 1 1 1) (by decide))
        have tz_1 : z_1.toInt = x7_152.toInt + 1 := by rw [ez_1]; exact iv_addE hsx7_253 (iv_k (by decide) : iv 1 1 1) (by decide)
        refine lv_iinc (v := z_1) (lv' := [(7, .int z_1), (9, .int x9_253), (8, .int x8_253), (6, .int x6_152), (0, .ref h0), (1, .int p1), (2, .int p2), (3, .int p3), (4, .int p4), (5, .int p5)]) hx hb dX13_type_253 hl (k := 2) rfl ez_1.symm (by decide) rfl (fun ls hl => ?_)
        refine lv_goto (tgt := 152) hx hb dX13_type_256 (by decide) ?_
        exact ih152 _ (by rw [← hn152]; exact (iv_meas tz_1 hsx7_253 (by decide))) sg_j253 gm_j253 z_1 x6_152 rfl (iv_w hz_1 (by decide)) hsx6_253 (KS_tr (L := [5, 20]) KS_rf hks_j253 (by decide)) (KS_tr (L := [19]) KS_rf hkg_j253 (by decide)) hI_j253 (by rw [cl_s hsx7_253 tz_1]; exact hX) (by rw [cl_s hsx7_253 tz_1]; exact hz3) (hle) (hall) (hok) _ _ _ hP hD hS (lv_sub hl [0, 3, 4, 5, 6, 7, 8, 9] rfl)
      have hj205 : ∀ (sg_j205 : Nat → Int32) (gm_j205 : Nat → Nat → Int32) (y0_205 : Int32) (_ : iv 0 19 x7_152) (_ : iv 0 20 x6_152) (_ : KS [5, 20] sg sg_j205) (_ : KS [19] gm gm_j205) (_ : MI sg_j205 gm_j205) (_ : TYX p1 p2 p3 p4 p5 (sg 20).toInt (gm_j205 19) (gm 19) x7_152.toNatClampNeg) (_ : y0_205 = tyW p1 p2 p3 p4 p5 x7_152.toInt) (_ : (sg_j205 20).toInt = (sg 20).toInt + (tyN p1 p2 p3 p4 p5 x7_152.toNatClampNeg : Int)) (H : Heap) (locs : List Loc) (ls : Array Slot), va_P (dC, dI) vwCl (mW h0 ad cid sg_j205 gm_j205 lg) H → va_D A (mW h0 ad cid sg_j205 gm_j205 lg) → va_S A s.heap H locs → lv_has ls 10 [(7, .int x7_152), (6, .int x6_152), (0, .ref h0), (1, .int p1), (2, .int p2), (3, .int p3), (4, .int p4), (5, .int p5)] → W p l e (headSpec wm_X13_type ({ frames := 0, cells := 0, slots := 0, locals := 0 })).room s m ([.ref h0, .int p1, .int p2, .int p3, .int p4, .int p5] : List Value).toArray below meth c H locs 0 0 (MQ below (va_Qi (fun r v => ∃ (sg2 : Nat → Int32) (gm2 : Nat → Nat → Int32) (lg2 : Nat → Nat → Int64), v = (sg2, gm2, lg2) ∧ MI sg2 gm2 ∧ KS [5, 20] sg sg2 ∧ KS [19] gm gm2 ∧ KS [] lg lg2 ∧ (r.toInt = -1 ∧ gm2 19 = gm 19 ∨ TYX p1 p2 p3 p4 p5 (sg 20).toInt (gm2 19) (gm 19) 20) ∧ (TYR p1 p2 p3 p4 p5 r (sg 20) (sg2 20))) (MB dC dI h0 ad cid A) A) ([.ref h0, .int p1, .int p2, .int p3, .int p4, .int p5] : List Value).toArray s 0 0 A) (F0 m 205 ls [.int y0_205]) := by
        intro sg_j205 gm_j205 y0_205 hsx7_205 hsx6_205 hks_j205 hkg_j205 hI_j205 hX hw hz2 H locs ls hP hD hS hl
        refine lv_istore (lv' := [(8, .int y0_205), (7, .int x7_152), (6, .int x6_152), (0, .ref h0), (1, .int p1), (2, .int p2), (3, .int p3), (4, .int p4), (5, .int p5)]) hx hb dX13_type_205 hl (by decide) rfl (fun ls hl => ?_)
        refine lv_iload hx hb dX13_type_207 (lv_at hl 0 rfl) ?_
        refine lv_bipush (v := 24) hx hb dX13_type_209 (by decide) ?_
        refine lv_bipush (v := 8) hx hb dX13_type_211 (by decide) ?_
        refine lv_iload hx hb dX13_type_213 (lv_at hl 1 rfl) ?_
        refine lv_iconst (v := 4) hx hb dX13_type_215 (by decide) ?_
        refine lv_irem hx hb dX13_type_216 (by decide) ?_
        refine lv_topi (fun z_2 ez_2 => ?_)
        have hz_2 : iv 0 3 z_2 := iv_of ez_2 (iv_rem hsx7_205 (by decide) (by decide))
        refine lv_imul hx hb dX13_type_217 ?_
        refine lv_topi (fun z_3 ez_3 => ?_)
        have hz_3 : iv 0 24 z_3 := iv_of ez_3 (iv_mul (iv_k (by decide) : iv 8 8 8) hz_2 (by decide))
        have tz_3 : z_3.toInt = 8 * (z_2 : Int32).toInt := by rw [ez_3]; exact iv_mulE (iv_k (by decide) : iv 8 8 8) hz_2 (by decide)
        refine lv_isub hx hb dX13_type_218 ?_
        refine lv_topi (fun z_4 ez_4 => ?_)
        have hz_4 : iv 0 24 z_4 := iv_of ez_4 (iv_sub (iv_k (by decide) : iv 24 24 24) hz_3 (by decide))
        have tz_4 : z_4.toInt = 24 - (z_3 : Int32).toInt := by rw [ez_4]; exact iv_subE (iv_k (by decide) : iv 24 24 24) hz_3 (by decide)
        refine lv_ishr hx hb dX13_type_219 ?_
        refine lv_topi (fun z_5 ez_5 => ?_)
        refine lv_sipush (v := 255) hx hb dX13_type_220 (by decide) ?_
        refine lv_iand hx hb dX13_type_223 ?_
        refine lv_topi (fun z_6 ez_6 => ?_)
        have hz_6 : iv 0 255 z_6 := iv_of ez_6 (iv_255 _)
        have hs : z_6 = tyS p1 p2 p3 p4 p5 x7_152 := by unfold tyS; rw [ez_6, ez_5, ez_4, ez_3, ez_2, hw]
        refine lv_istore (lv' := [(9, .int z_6), (8, .int y0_205), (7, .int x7_152), (6, .int x6_152), (0, .ref h0), (1, .int p1), (2, .int p2), (3, .int p3), (4, .int p4), (5, .int p5)]) hx hb dX13_type_224 hl (by decide) rfl (fun ls hl => ?_)
        refine lv_iload hx hb dX13_type_226 (lv_at hl 0 rfl) ?_
        refine lv_if_eq (tgt := 253) hx hb dX13_type_228 (by decide) (fun c_7 => ?_) (fun c_7 => ?_)
        · have h_8 : iv 0 0 z_6 := iv_eq c_7 hz_6 (iv_k (by decide) : iv 0 0 0) (by decide)
          exact hj253 sg_j205 gm_j205 z_6 y0_205 (iv_w h_8 (by decide)) hsx7_205 hsx6_205 (KS_tr (L := [5, 20]) KS_rf hks_j205 (by decide)) (KS_tr (L := [19]) KS_rf hkg_j205 (by decide)) hI_j205 ((TYX_z hsx7_205 hX hs c_7)) (by rw [ty_0 hsx7_205 hs c_7]; exact hz2) _ _ _ hP hD hS (lv_sub hl [0, 1, 2, 3, 4, 5, 6, 7, 8, 9] rfl)
        · have h_9 : iv 1 255 z_6 := iv_neL c_7 hz_6 (by decide)
          have hx9 : iv 1 126 z_6 := ⟨(h_9).1, ty_in hsx7_205 hall hs⟩
          obtain ⟨k91, k92⟩ := ty_1 hsx7_205 hs c_7
          have hsz : iv 0 1199 (sg_j205 20) := ⟨(show iv 0 1200 (sg_j205 20) from MI_s hI_j205 20).1, by omega⟩
          refine lv_aload_n hx hb dX13_type_231 rfl (lv_at hl 4 rfl) ?_
          refine mr_get (v := .ref (ad 19)) hx hb htb inX13 hown hK hP 19 (by decide) (htb _ kw_180) rfl dX13_type_232 ?_
          refine lv_aload_n hx hb dX13_type_235 rfl (lv_at hl 4 rfl) ?_
          refine mr_get (v := .int (sg_j205 20)) hx hb htb inX13 hown hK hP 20 (by decide) (htb _ kw_301) rfl dX13_type_236 ?_
          refine lv_iload hx hb dX13_type_239 (lv_at hl 0 rfl) ?_
          refine lv_i2b (v := (z_6 : Int32).toInt8.toInt32) hx hb dX13_type_241 rfl ?_
          refine lv_topi (fun z_10 ez_10 => ?_)
          have hz_10 : iv (-128) 127 z_10 := iv_of ez_10 (iv_byte _)
          have fz_10 : z_6 = z_10 := (ez_10.trans ((vp_nar_byte _).symm.trans (iv_vbz hx9 (by decide)))).symm
          subst fz_10
          refine ma_bast (x := z_6) hx hb hK hP hD hS 18 (k := 19) rfl rfl rfl (show vp_in (sg_j205 20) 1200 from (iv_in hsz (by decide))) dX13_type_242 (fun gm_11 H locs egm_11 hP hD hS => ?_)
          have hI_gm_11 := MI_st hI_j205 egm_11 (iv_of (iv_vbz hx9 (by decide)) hx9) (by decide)
          refine lv_aload_n hx hb dX13_type_243 rfl (lv_at hl 4 rfl) ?_
          refine lv_dup hx hb dX13_type_244 rfl ?_
          refine mr_get (v := .int (sg_j205 20)) hx hb htb inX13 hown hK hP 20 (by decide) (htb _ kw_301) rfl dX13_type_245 ?_
          refine lv_iconst (v := 1) hx hb dX13_type_248 (by decide) ?_
          refine lv_iadd hx hb dX13_type_249 ?_
          refine lv_topi (fun z_12 ez_12 => ?_)
          have hz_12 : iv 1 1200 z_12 := iv_of ez_12 (iv_add hsz (iv_k (by decide) : iv 1 1 1) (by decide))
          have tz_12 : z_12.toInt = ((sg_j205 20) : Int32).toInt + 1 := by rw [ez_12]; exact iv_addE hsz (iv_k (by decide) : iv 1 1 1) (by decide)
          refine ma_put (x := z_12) hx hb htb inX13 hown hK hP hD hS 20 (by decide) (by decide) (htb _ kw_301) rfl rfl rfl dX13_type_250 (fun sg_13 H locs esg_13 hP hD hS => ?_)
          have hI_sg_13 := MI_put hI_gm_11 esg_13 hz_12 (by decide)
          exact hj253 sg_13 gm_11 z_6 y0_205 (iv_w hx9 (by decide)) hsx7_205 hsx6_205 (KS_up (KS_tr (L := [5, 20]) KS_rf hks_j205 (by decide)) esg_13 (by decide)) (KS_up (KS_tr (L := [19]) KS_rf hkg_j205 (by decide)) egm_11 (by decide)) hI_sg_13 ((TYX_p (z := sg_j205 20) hsx7_205 (show iv 0 1200 (sg 20) from MI_s hI 20).1 hX hs c_7 hz2 ((show gm_11 19 = upd (gm_j205 19) (sg_j205 20).toNatClampNeg (vp_nar .byte z_6) from up_at egm_11).trans (by rw [iv_vbz hx9 (by decide)])))) (by have := i32_0; have := i32_1; have := i32_2; have := i32_m1; have := congrArg Int32.toInt (show sg_13 20 = z_12 from up_at esg_13); have := (hz_12).1; have := (hz_12).2; have := (show iv 0 1200 (sg_j152 20) from MI_s hI_j152 20).1; have := (show iv 0 1200 (sg_j152 20) from MI_s hI_j152 20).2; have := (hsx7_205).1; have := (hsx7_205).2; have := (hsx6_205).1; have := (hsx6_205).2; have := (hz_2).1; have := (hz_2).2; have := (hz_3).1; have := (hz_3).2; have := (hz_4).1; have := (hz_4).2; have := (hx9).1; have := (hx9).2; have := (hsz).1; have := (hsz).2; have := (hz_10).1; have := (hz_10).2; omega) _ _ _ hP hD hS (lv_sub hl [0, 1, 2, 3, 4, 5, 6, 7, 8, 9] rfl)
      refine lv_iload hx hb dX13_type_152 (lv_at hl 0 rfl) ?_
      refine lv_bipush (v := 20) hx hb dX13_type_154 (by decide) ?_
      refine lv_icmp_ge (tgt := 259) hx hb dX13_type_156 (by decide) (fun c_14 => ?_) (fun c_14 => ?_)
      · have h_15 : iv 20 20 x7_152 := iv_leR c_14 (iv_k (by decide) : iv 20 20 20) hx7_152 (by decide)
        refine lv_aload_n hx hb dX13_type_259 rfl (lv_at hl 2 rfl) ?_
        refine mr_get (v := .int (sg_j152 20)) hx hb htb inX13 hown hK hP 20 (by decide) (htb _ kw_301) rfl dX13_type_260 ?_
        exact W.iret (v := (sg_j152 20)) hx hb hr (fun t ht hW => ⟨⟨(sg_j152 20), (sg_j152, gm_j152, lg), rfl, ⟨sg_j152, gm_j152, lg, rfl, hI_j152, (KS_tr (L := [5, 20]) KS_rf hks_j152 (by decide)), (KS_tr (L := [19]) KS_rf hkg_j152 (by decide)), KS_rf, (Or.inr (by have q9 : x7_152.toNatClampNeg = 20 := (by have := iv_cl h_15 (by decide); have := (h_15).1; have := (h_15).2; omega); rw [q9] at hX; exact hX)), (Or.inr ⟨(by { have q9 : x7_152.toNatClampNeg = 20 := by { have := iv_cl h_15 (by decide); have := (h_15).1; have := (h_15).2; omega }; rw [q9] at hz2; exact hz2 }), hok, hle, rfl⟩)⟩, by rw [ht]; exact hP, va_K.moved hW.alike hK, hD⟩, hS.F ht⟩) hS.2.2 dX13_type_263
      · have h_16 : iv 0 19 x7_152 := iv_ltL (i32_lt c_14) hx7_152 (iv_k (by decide) : iv 20 20 20) (by decide)
        refine lv_iload hx hb dX13_type_159 (lv_at hl 0 rfl) ?_
        refine lv_iconst (v := 4) hx hb dX13_type_161 (by decide) ?_
        refine lv_icmp_ge (tgt := 169) hx hb dX13_type_162 (by decide) (fun c_17 => ?_) (fun c_17 => ?_)
        · have h_18 : iv 4 19 x7_152 := iv_leR c_17 (iv_k (by decide) : iv 4 4 4) h_16 (by decide)
          refine lv_iload hx hb dX13_type_169 (lv_at hl 0 rfl) ?_
          refine lv_bipush (v := 8) hx hb dX13_type_171 (by decide) ?_
          refine lv_icmp_ge (tgt := 180) hx hb dX13_type_173 (by decide) (fun c_19 => ?_) (fun c_19 => ?_)
          · have h_20 : iv 8 19 x7_152 := iv_leR c_19 (iv_k (by decide) : iv 8 8 8) h_18 (by decide)
            refine lv_iload hx hb dX13_type_180 (lv_at hl 0 rfl) ?_
            refine lv_bipush (v := 12) hx hb dX13_type_182 (by decide) ?_
            refine lv_icmp_ge (tgt := 191) hx hb dX13_type_184 (by decide) (fun c_21 => ?_) (fun c_21 => ?_)
            · have h_22 : iv 12 19 x7_152 := iv_leR c_21 (iv_k (by decide) : iv 12 12 12) h_20 (by decide)
              refine lv_iload hx hb dX13_type_191 (lv_at hl 0 rfl) ?_
              refine lv_bipush (v := 16) hx hb dX13_type_193 (by decide) ?_
              refine lv_icmp_ge (tgt := 203) hx hb dX13_type_195 (by decide) (fun c_23 => ?_) (fun c_23 => ?_)
              · have h_24 : iv 16 19 x7_152 := iv_leR c_23 (iv_k (by decide) : iv 16 16 16) h_22 (by decide)
                refine lv_iload hx hb dX13_type_203 (lv_at hl 7 rfl) ?_
                exact hj205 sg_j152 gm_j152 p5 (iv_w h_24 (by decide)) hx6_152 (KS_tr (L := [5, 20]) KS_rf hks_j152 (by decide)) (KS_tr (L := [19]) KS_rf hkg_j152 (by decide)) hI_j152 (hX) (by have := (h_24).1; have := (h_24).2; unfold tyW; repeat (first | rw [if_pos (by omega)] | rw [if_neg (by omega)])) (hz2) _ _ _ hP hD hS (lv_sub hl [0, 1, 2, 3, 4, 5, 6, 7] rfl)
              · have h_25 : iv 12 15 x7_152 := iv_ltL (i32_lt c_23) h_22 (iv_k (by decide) : iv 16 16 16) (by decide)
                refine lv_iload hx hb dX13_type_198 (lv_at hl 6 rfl) ?_
                refine lv_goto (tgt := 205) hx hb dX13_type_200 (by decide) ?_
                exact hj205 sg_j152 gm_j152 p4 (iv_w h_25 (by decide)) hx6_152 (KS_tr (L := [5, 20]) KS_rf hks_j152 (by decide)) (KS_tr (L := [19]) KS_rf hkg_j152 (by decide)) hI_j152 (hX) (by have := (h_25).1; have := (h_25).2; unfold tyW; repeat (first | rw [if_pos (by omega)] | rw [if_neg (by omega)])) (hz2) _ _ _ hP hD hS (lv_sub hl [0, 1, 2, 3, 4, 5, 6, 7] rfl)
            · have h_26 : iv 8 11 x7_152 := iv_ltL (i32_lt c_21) h_20 (iv_k (by decide) : iv 12 12 12) (by decide)
              refine lv_iload_n hx hb dX13_type_187 rfl (lv_at hl 5 rfl) ?_
              refine lv_goto (tgt := 205) hx hb dX13_type_188 (by decide) ?_
              exact hj205 sg_j152 gm_j152 p3 (iv_w h_26 (by decide)) hx6_152 (KS_tr (L := [5, 20]) KS_rf hks_j152 (by decide)) (KS_tr (L := [19]) KS_rf hkg_j152 (by decide)) hI_j152 (hX) (by have := (h_26).1; have := (h_26).2; unfold tyW; repeat (first | rw [if_pos (by omega)] | rw [if_neg (by omega)])) (hz2) _ _ _ hP hD hS (lv_sub hl [0, 1, 2, 3, 4, 5, 6, 7] rfl)
          · have h_27 : iv 4 7 x7_152 := iv_ltL (i32_lt c_19) h_18 (iv_k (by decide) : iv 8 8 8) (by decide)
            refine lv_iload_n hx hb dX13_type_176 rfl (lv_at hl 4 rfl) ?_
            refine lv_goto (tgt := 205) hx hb dX13_type_177 (by decide) ?_
            exact hj205 sg_j152 gm_j152 p2 (iv_w h_27 (by decide)) hx6_152 (KS_tr (L := [5, 20]) KS_rf hks_j152 (by decide)) (KS_tr (L := [19]) KS_rf hkg_j152 (by decide)) hI_j152 (hX) (by have := (h_27).1; have := (h_27).2; unfold tyW; repeat (first | rw [if_pos (by omega)] | rw [if_neg (by omega)])) (hz2) _ _ _ hP hD hS (lv_sub hl [0, 1, 2, 3, 4, 5, 6, 7] rfl)
        · have h_28 : iv 0 3 x7_152 := iv_ltL (i32_lt c_17) h_16 (iv_k (by decide) : iv 4 4 4) (by decide)
          refine lv_iload_n hx hb dX13_type_165 rfl (lv_at hl 3 rfl) ?_
          refine lv_goto (tgt := 205) hx hb dX13_type_166 (by decide) ?_
          exact hj205 sg_j152 gm_j152 p1 (iv_w h_28 (by decide)) hx6_152 (KS_tr (L := [5, 20]) KS_rf hks_j152 (by decide)) (KS_tr (L := [19]) KS_rf hkg_j152 (by decide)) hI_j152 (hX) (by have := (h_28).1; have := (h_28).2; unfold tyW; repeat (first | rw [if_pos (by omega)] | rw [if_neg (by omega)])) (hz2) _ _ _ hP hD hS (lv_sub hl [0, 1, 2, 3, 4, 5, 6, 7] rfl)
  have hj111 : ∀ (sg_j111 : Nat → Int32) (x9_111 : Int32) (x8_111 : Int32) (x7_111 : Int32) (x6_111 : Int32) (_ : iv 1 255 x9_111) (_ : iv 0 19 x7_111) (_ : iv 0 20 x6_111) (_ : KS [5] sg sg_j111) (_ : MI sg_j111 gm) (_ : ¬ TYK p1 p2 p3 p4 p5 20) (H : Heap) (locs : List Loc) (ls : Array Slot), va_P (dC, dI) vwCl (mW h0 ad cid sg_j111 gm lg) H → va_D A (mW h0 ad cid sg_j111 gm lg) → va_S A s.heap H locs → lv_has ls 10 [(9, .int x9_111), (8, .int x8_111), (7, .int x7_111), (6, .int x6_111), (0, .ref h0), (1, .int p1), (2, .int p2), (3, .int p3), (4, .int p4), (5, .int p5)] → W p l e (headSpec wm_X13_type ({ frames := 0, cells := 0, slots := 0, locals := 0 })).room s m ([.ref h0, .int p1, .int p2, .int p3, .int p4, .int p5] : List Value).toArray below meth c H locs 0 0 (MQ below (va_Qi (fun r v => ∃ (sg2 : Nat → Int32) (gm2 : Nat → Nat → Int32) (lg2 : Nat → Nat → Int64), v = (sg2, gm2, lg2) ∧ MI sg2 gm2 ∧ KS [5, 20] sg sg2 ∧ KS [19] gm gm2 ∧ KS [] lg lg2 ∧ (r.toInt = -1 ∧ gm2 19 = gm 19 ∨ TYX p1 p2 p3 p4 p5 (sg 20).toInt (gm2 19) (gm 19) 20) ∧ (TYR p1 p2 p3 p4 p5 r (sg 20) (sg2 20))) (MB dC dI h0 ad cid A) A) ([.ref h0, .int p1, .int p2, .int p3, .int p4, .int p5] : List Value).toArray s 0 0 A) (F0 m 111 ls []) := by
    intro sg_j111 x9_111 x8_111 x7_111 x6_111 hx9_111 hx7_111 hx6_111 hks_j111 hI_j111 hbad H locs ls hP hD hS hl
    refine lv_iconst (v := (-1)) hx hb dX13_type_111 (by decide) ?_
    exact W.iret (v := (-1)) hx hb hr (fun t ht hW => ⟨⟨(-1), (sg_j111, gm, lg), rfl, ⟨sg_j111, gm, lg, rfl, hI_j111, (KS_tr (L := [5, 20]) KS_rf hks_j111 (by decide)), KS_rf, KS_rf, (Or.inl ⟨rfl, rfl⟩), (Or.inl ⟨rfl, Or.inl hbad, (show sg_j111 20 = sg 20 from (hks_j111 20 (by decide)))⟩)⟩, by rw [ht]; exact hP, va_K.moved hW.alike hK, hD⟩, hS.F ht⟩) hS.2.2 dX13_type_112
  have hj11 : ∀ (n : Nat) (sg_j11 : Nat → Int32) (x7_11 : Int32) (x6_11 : Int32) (_ : (20 - x7_11.toInt).toNat = n) (_ : iv 0 20 x7_11) (_ : iv 0 20 x6_11) (_ : KS [5] sg sg_j11) (_ : MI sg_j11 gm) (_ : x6_11.toInt = (tyN p1 p2 p3 p4 p5 x7_11.toNatClampNeg : Int)) (_ : TYA p1 p2 p3 p4 p5 x7_11.toNatClampNeg) (_ : TYK p1 p2 p3 p4 p5 x7_11.toNatClampNeg) (H : Heap) (locs : List Loc) (ls : Array Slot), va_P (dC, dI) vwCl (mW h0 ad cid sg_j11 gm lg) H → va_D A (mW h0 ad cid sg_j11 gm lg) → va_S A s.heap H locs → lv_has ls 10 [(7, .int x7_11), (6, .int x6_11), (0, .ref h0), (1, .int p1), (2, .int p2), (3, .int p3), (4, .int p4), (5, .int p5)] → W p l e (headSpec wm_X13_type ({ frames := 0, cells := 0, slots := 0, locals := 0 })).room s m ([.ref h0, .int p1, .int p2, .int p3, .int p4, .int p5] : List Value).toArray below meth c H locs 0 0 (MQ below (va_Qi (fun r v => ∃ (sg2 : Nat → Int32) (gm2 : Nat → Nat → Int32) (lg2 : Nat → Nat → Int64), v = (sg2, gm2, lg2) ∧ MI sg2 gm2 ∧ KS [5, 20] sg sg2 ∧ KS [19] gm gm2 ∧ KS [] lg lg2 ∧ (r.toInt = -1 ∧ gm2 19 = gm 19 ∨ TYX p1 p2 p3 p4 p5 (sg 20).toInt (gm2 19) (gm 19) 20) ∧ (TYR p1 p2 p3 p4 p5 r (sg 20) (sg2 20))) (MB dC dI h0 ad cid A) A) ([.ref h0, .int p1, .int p2, .int p3, .int p4, .int p5] : List Value).toArray s 0 0 A) (F0 m 11 ls []) := by
    intro n
    induction n using Nat.strongRecOn with
    | ind n ih11 =>
      intro sg_j11 x7_11 x6_11 hn11 hx7_11 hx6_11 hks_j11 hI_j11 hn hall hok H locs ls hP hD hS hl
      have hj125 : ∀ (sg_j125 : Nat → Int32) (x9_125 : Int32) (x8_125 : Int32) (y0_125 : Int32) (_ : iv 0 126 x9_125) (_ : iv 0 19 x7_11) (_ : iv 0 20 x6_11) (_ : iv 0 1 y0_125) (_ : iv 0 20 x6_11) (_ : KS [5] sg sg_j125) (_ : MI sg_j125 gm) (_ : x9_125 = tyS p1 p2 p3 p4 p5 x7_11) (_ : x9_125.toInt ≤ 126) (_ : (x9_125 = 0 ∧ y0_125 = 0) ∨ (¬ x9_125 = 0 ∧ y0_125 = 1)) (_ : (x9_125.toInt = 0 ∨ x9_125.toInt = 10 ∨ 32 ≤ x9_125.toInt ∧ x9_125.toInt ≤ 126)) (H : Heap) (locs : List Loc) (ls : Array Slot), va_P (dC, dI) vwCl (mW h0 ad cid sg_j125 gm lg) H → va_D A (mW h0 ad cid sg_j125 gm lg) → va_S A s.heap H locs → lv_has ls 10 [(9, .int x9_125), (8, .int x8_125), (7, .int x7_11), (6, .int x6_11), (0, .ref h0), (1, .int p1), (2, .int p2), (3, .int p3), (4, .int p4), (5, .int p5)] → W p l e (headSpec wm_X13_type ({ frames := 0, cells := 0, slots := 0, locals := 0 })).room s m ([.ref h0, .int p1, .int p2, .int p3, .int p4, .int p5] : List Value).toArray below meth c H locs 0 0 (MQ below (va_Qi (fun r v => ∃ (sg2 : Nat → Int32) (gm2 : Nat → Nat → Int32) (lg2 : Nat → Nat → Int64), v = (sg2, gm2, lg2) ∧ MI sg2 gm2 ∧ KS [5, 20] sg sg2 ∧ KS [19] gm gm2 ∧ KS [] lg lg2 ∧ (r.toInt = -1 ∧ gm2 19 = gm 19 ∨ TYX p1 p2 p3 p4 p5 (sg 20).toInt (gm2 19) (gm 19) 20) ∧ (TYR p1 p2 p3 p4 p5 r (sg 20) (sg2 20))) (MB dC dI h0 ad cid A) A) ([.ref h0, .int p1, .int p2, .int p3, .int p4, .int p5] : List Value).toArray s 0 0 A) (F0 m 125 ls [.int y0_125, .int x6_11]) := by
        intro sg_j125 x9_125 x8_125 y0_125 hx9_125 hsx7_125 hsx6_125 hy0_125 hsy1_125 hks_j125 hI_j125 hs h126 ht hk H locs ls hP hD hS hl
        refine lv_iadd hx hb dX13_type_125 ?_
        refine lv_topi (fun z_29 ez_29 => ?_)
        have hz_29 : iv 0 21 z_29 := iv_of ez_29 (iv_add hsy1_125 hy0_125 (by decide))
        have tz_29 : z_29.toInt = (x6_11 : Int32).toInt + (y0_125 : Int32).toInt := by rw [ez_29]; exact iv_addE hsy1_125 hy0_125 (by decide)
        obtain ⟨hn9, hz9⟩ := ty_z hsx7_125 tz_29 hn hs ht
        refine lv_istore (lv' := [(6, .int z_29), (9, .int x9_125), (8, .int x8_125), (7, .int x7_11), (0, .ref h0), (1, .int p1), (2, .int p2), (3, .int p3), (4, .int p4), (5, .int p5)]) hx hb dX13_type_126 hl (by decide) rfl (fun ls hl => ?_)
        obtain ⟨z_30, ez_30⟩ : ∃ z : Int32, z = x7_11 + 1 := ⟨_, rfl⟩
        have hz_30 : iv 1 20 z_30 := iv_of ez_30 (iv_add hsx7_125 (iv_k (by decide) : iv 1 1 1) (by decide))
        have tz_30 : z_30.toInt = x7_11.toInt + 1 := by rw [ez_30]; exact iv_addE hsx7_125 (iv_k (by decide) : iv 1 1 1) (by decide)
        refine lv_iinc (v := z_30) (lv' := [(7, .int z_30), (6, .int z_29), (9, .int x9_125), (8, .int x8_125), (0, .ref h0), (1, .int p1), (2, .int p2), (3, .int p3), (4, .int p4), (5, .int p5)]) hx hb dX13_type_128 hl (k := 3) rfl ez_30.symm (by decide) rfl (fun ls hl => ?_)
        refine lv_goto (tgt := 11) hx hb dX13_type_131 (by decide) ?_
        exact ih11 _ (by rw [← hn11]; exact (iv_meas tz_30 hsx7_125 (by decide))) sg_j125 z_30 z_29 rfl (iv_w hz_30 (by decide)) hz9 (KS_tr (L := [5]) KS_rf hks_j125 (by decide)) hI_j125 (by rw [cl_s hsx7_125 tz_30]; exact hn9) (by rw [cl_s hsx7_125 tz_30]; exact ty_a hsx7_125 hall hs h126) (by rw [cl_s hsx7_125 tz_30]; exact ty_k hsx7_125 hok hs hk) _ _ _ hP hD hS (lv_sub hl [0, 1, 4, 5, 6, 7, 8, 9] rfl)
      have hj113 : ∀ (sg_j113 : Nat → Int32) (x9_113 : Int32) (x8_113 : Int32) (_ : iv 0 126 x9_113) (_ : iv 0 19 x7_11) (_ : iv 0 20 x6_11) (_ : KS [5] sg sg_j113) (_ : MI sg_j113 gm) (_ : x9_113 = tyS p1 p2 p3 p4 p5 x7_11) (_ : x9_113.toInt ≤ 126) (_ : (x9_113.toInt = 0 ∨ x9_113.toInt = 10 ∨ 32 ≤ x9_113.toInt ∧ x9_113.toInt ≤ 126)) (H : Heap) (locs : List Loc) (ls : Array Slot), va_P (dC, dI) vwCl (mW h0 ad cid sg_j113 gm lg) H → va_D A (mW h0 ad cid sg_j113 gm lg) → va_S A s.heap H locs → lv_has ls 10 [(9, .int x9_113), (8, .int x8_113), (7, .int x7_11), (6, .int x6_11), (0, .ref h0), (1, .int p1), (2, .int p2), (3, .int p3), (4, .int p4), (5, .int p5)] → W p l e (headSpec wm_X13_type ({ frames := 0, cells := 0, slots := 0, locals := 0 })).room s m ([.ref h0, .int p1, .int p2, .int p3, .int p4, .int p5] : List Value).toArray below meth c H locs 0 0 (MQ below (va_Qi (fun r v => ∃ (sg2 : Nat → Int32) (gm2 : Nat → Nat → Int32) (lg2 : Nat → Nat → Int64), v = (sg2, gm2, lg2) ∧ MI sg2 gm2 ∧ KS [5, 20] sg sg2 ∧ KS [19] gm gm2 ∧ KS [] lg lg2 ∧ (r.toInt = -1 ∧ gm2 19 = gm 19 ∨ TYX p1 p2 p3 p4 p5 (sg 20).toInt (gm2 19) (gm 19) 20) ∧ (TYR p1 p2 p3 p4 p5 r (sg 20) (sg2 20))) (MB dC dI h0 ad cid A) A) ([.ref h0, .int p1, .int p2, .int p3, .int p4, .int p5] : List Value).toArray s 0 0 A) (F0 m 113 ls []) := by
        intro sg_j113 x9_113 x8_113 hx9_113 hsx7_113 hsx6_113 hks_j113 hI_j113 hs h126 hk H locs ls hP hD hS hl
        refine lv_iload hx hb dX13_type_113 (lv_at hl 3 rfl) ?_
        refine lv_iload hx hb dX13_type_115 (lv_at hl 0 rfl) ?_
        refine lv_if_eq (tgt := 124) hx hb dX13_type_117 (by decide) (fun c_31 => ?_) (fun c_31 => ?_)
        · have h_32 : iv 0 0 x9_113 := iv_eq c_31 hx9_113 (iv_k (by decide) : iv 0 0 0) (by decide)
          refine lv_iconst (v := 0) hx hb dX13_type_124 (by decide) ?_
          exact hj125 sg_j113 x9_113 x8_113 0 (iv_w h_32 (by decide)) hsx7_113 hsx6_113 (iv_w (iv_k (by decide) : iv 0 0 0) (by decide)) hsx6_113 (KS_tr (L := [5]) KS_rf hks_j113 (by decide)) hI_j113 (hs) (h126) (Or.inl ⟨c_31, rfl⟩) (hk) _ _ _ hP hD hS (lv_sub hl [0, 1, 2, 3, 4, 5, 6, 7, 8, 9] rfl)
        · have h_33 : iv 1 126 x9_113 := iv_neL c_31 hx9_113 (by decide)
          refine lv_iconst (v := 1) hx hb dX13_type_120 (by decide) ?_
          refine lv_goto (tgt := 125) hx hb dX13_type_121 (by decide) ?_
          exact hj125 sg_j113 x9_113 x8_113 1 (iv_w h_33 (by decide)) hsx7_113 hsx6_113 (iv_w (iv_k (by decide) : iv 1 1 1) (by decide)) hsx6_113 (KS_tr (L := [5]) KS_rf hks_j113 (by decide)) hI_j113 (hs) (h126) (Or.inr ⟨c_31, rfl⟩) (hk) _ _ _ hP hD hS (lv_sub hl [0, 1, 2, 3, 4, 5, 6, 7, 8, 9] rfl)
      have hj64 : ∀ (sg_j64 : Nat → Int32) (y0_64 : Int32) (_ : iv 0 19 x7_11) (_ : iv 0 20 x6_11) (_ : KS [5] sg sg_j64) (_ : MI sg_j64 gm) (_ : y0_64 = tyW p1 p2 p3 p4 p5 x7_11.toInt) (H : Heap) (locs : List Loc) (ls : Array Slot), va_P (dC, dI) vwCl (mW h0 ad cid sg_j64 gm lg) H → va_D A (mW h0 ad cid sg_j64 gm lg) → va_S A s.heap H locs → lv_has ls 10 [(7, .int x7_11), (6, .int x6_11), (0, .ref h0), (1, .int p1), (2, .int p2), (3, .int p3), (4, .int p4), (5, .int p5)] → W p l e (headSpec wm_X13_type ({ frames := 0, cells := 0, slots := 0, locals := 0 })).room s m ([.ref h0, .int p1, .int p2, .int p3, .int p4, .int p5] : List Value).toArray below meth c H locs 0 0 (MQ below (va_Qi (fun r v => ∃ (sg2 : Nat → Int32) (gm2 : Nat → Nat → Int32) (lg2 : Nat → Nat → Int64), v = (sg2, gm2, lg2) ∧ MI sg2 gm2 ∧ KS [5, 20] sg sg2 ∧ KS [19] gm gm2 ∧ KS [] lg lg2 ∧ (r.toInt = -1 ∧ gm2 19 = gm 19 ∨ TYX p1 p2 p3 p4 p5 (sg 20).toInt (gm2 19) (gm 19) 20) ∧ (TYR p1 p2 p3 p4 p5 r (sg 20) (sg2 20))) (MB dC dI h0 ad cid A) A) ([.ref h0, .int p1, .int p2, .int p3, .int p4, .int p5] : List Value).toArray s 0 0 A) (F0 m 64 ls [.int y0_64]) := by
        intro sg_j64 y0_64 hsx7_64 hsx6_64 hks_j64 hI_j64 hw H locs ls hP hD hS hl
        refine lv_istore (lv' := [(8, .int y0_64), (7, .int x7_11), (6, .int x6_11), (0, .ref h0), (1, .int p1), (2, .int p2), (3, .int p3), (4, .int p4), (5, .int p5)]) hx hb dX13_type_64 hl (by decide) rfl (fun ls hl => ?_)
        refine lv_iload hx hb dX13_type_66 (lv_at hl 0 rfl) ?_
        refine lv_bipush (v := 24) hx hb dX13_type_68 (by decide) ?_
        refine lv_bipush (v := 8) hx hb dX13_type_70 (by decide) ?_
        refine lv_iload hx hb dX13_type_72 (lv_at hl 1 rfl) ?_
        refine lv_iconst (v := 4) hx hb dX13_type_74 (by decide) ?_
        refine lv_irem hx hb dX13_type_75 (by decide) ?_
        refine lv_topi (fun z_34 ez_34 => ?_)
        have hz_34 : iv 0 3 z_34 := iv_of ez_34 (iv_rem hsx7_64 (by decide) (by decide))
        refine lv_imul hx hb dX13_type_76 ?_
        refine lv_topi (fun z_35 ez_35 => ?_)
        have hz_35 : iv 0 24 z_35 := iv_of ez_35 (iv_mul (iv_k (by decide) : iv 8 8 8) hz_34 (by decide))
        have tz_35 : z_35.toInt = 8 * (z_34 : Int32).toInt := by rw [ez_35]; exact iv_mulE (iv_k (by decide) : iv 8 8 8) hz_34 (by decide)
        refine lv_isub hx hb dX13_type_77 ?_
        refine lv_topi (fun z_36 ez_36 => ?_)
        have hz_36 : iv 0 24 z_36 := iv_of ez_36 (iv_sub (iv_k (by decide) : iv 24 24 24) hz_35 (by decide))
        have tz_36 : z_36.toInt = 24 - (z_35 : Int32).toInt := by rw [ez_36]; exact iv_subE (iv_k (by decide) : iv 24 24 24) hz_35 (by decide)
        refine lv_ishr hx hb dX13_type_78 ?_
        refine lv_topi (fun z_37 ez_37 => ?_)
        refine lv_sipush (v := 255) hx hb dX13_type_79 (by decide) ?_
        refine lv_iand hx hb dX13_type_82 ?_
        refine lv_topi (fun z_38 ez_38 => ?_)
        have hz_38 : iv 0 255 z_38 := iv_of ez_38 (iv_255 _)
        have hs : z_38 = tyS p1 p2 p3 p4 p5 x7_11 := by unfold tyS; rw [ez_38, ez_37, ez_36, ez_35, ez_34, hw]
        refine lv_istore (lv' := [(9, .int z_38), (8, .int y0_64), (7, .int x7_11), (6, .int x6_11), (0, .ref h0), (1, .int p1), (2, .int p2), (3, .int p3), (4, .int p4), (5, .int p5)]) hx hb dX13_type_83 hl (by decide) rfl (fun ls hl => ?_)
        refine lv_iload hx hb dX13_type_85 (lv_at hl 0 rfl) ?_
        refine lv_if_eq (tgt := 113) hx hb dX13_type_87 (by decide) (fun c_39 => ?_) (fun c_39 => ?_)
        · have h_40 : iv 0 0 z_38 := iv_eq c_39 hz_38 (iv_k (by decide) : iv 0 0 0) (by decide)
          exact hj113 sg_j64 z_38 y0_64 (iv_w h_40 (by decide)) hsx7_64 hsx6_64 (KS_tr (L := [5]) KS_rf hks_j64 (by decide)) hI_j64 (hs) (by have := i32_0; have := i32_1; have := i32_2; have := i32_m1; have := (hsx7_64).1; have := (hsx7_64).2; have := (hsx6_64).1; have := (hsx6_64).2; have := (hz_34).1; have := (hz_34).2; have := (hz_35).1; have := (hz_35).2; have := (hz_36).1; have := (hz_36).2; have := (h_40).1; have := (h_40).2; omega) (by have := i32_0; have := i32_1; have := i32_2; have := i32_m1; have := (hsx7_64).1; have := (hsx7_64).2; have := (hsx6_64).1; have := (hsx6_64).2; have := (hz_34).1; have := (hz_34).2; have := (hz_35).1; have := (hz_35).2; have := (hz_36).1; have := (hz_36).2; have := (h_40).1; have := (h_40).2; omega) _ _ _ hP hD hS (lv_sub hl [0, 1, 2, 3, 4, 5, 6, 7, 8, 9] rfl)
        · have h_41 : iv 1 255 z_38 := iv_neL c_39 hz_38 (by decide)
          refine lv_iload hx hb dX13_type_90 (lv_at hl 0 rfl) ?_
          refine lv_bipush (v := 10) hx hb dX13_type_92 (by decide) ?_
          refine lv_icmp_eq (tgt := 113) hx hb dX13_type_94 (by decide) (fun c_42 => ?_) (fun c_42 => ?_)
          · have h_43 : iv 10 10 z_38 := iv_eq c_42 h_41 (iv_k (by decide) : iv 10 10 10) (by decide)
            exact hj113 sg_j64 z_38 y0_64 (iv_w h_43 (by decide)) hsx7_64 hsx6_64 (KS_tr (L := [5]) KS_rf hks_j64 (by decide)) hI_j64 (hs) (by have := i32_0; have := i32_1; have := i32_2; have := i32_m1; have := (hsx7_64).1; have := (hsx7_64).2; have := (hsx6_64).1; have := (hsx6_64).2; have := (hz_34).1; have := (hz_34).2; have := (hz_35).1; have := (hz_35).2; have := (hz_36).1; have := (hz_36).2; have := (h_43).1; have := (h_43).2; omega) (by have := i32_0; have := i32_1; have := i32_2; have := i32_m1; have := (hsx7_64).1; have := (hsx7_64).2; have := (hsx6_64).1; have := (hsx6_64).2; have := (hz_34).1; have := (hz_34).2; have := (hz_35).1; have := (hz_35).2; have := (hz_36).1; have := (hz_36).2; have := (h_43).1; have := (h_43).2; omega) _ _ _ hP hD hS (lv_sub hl [0, 1, 2, 3, 4, 5, 6, 7, 8, 9] rfl)
          · have d_44 : ¬ (z_38 : Int32).toInt = 10 := lv_neT c_42 rfl
            refine lv_iload hx hb dX13_type_97 (lv_at hl 0 rfl) ?_
            refine lv_bipush (v := 32) hx hb dX13_type_99 (by decide) ?_
            refine lv_icmp_lt (tgt := 111) hx hb dX13_type_101 (by decide) (fun c_45 => ?_) (fun c_45 => ?_)
            · have h_46 : iv 1 31 z_38 := iv_ltL c_45 h_41 (iv_k (by decide) : iv 32 32 32) (by decide)
              exact hj111 sg_j64 z_38 y0_64 x7_11 x6_11 (iv_w h_46 (by decide)) hsx7_64 hsx6_64 (KS_tr (L := [5]) KS_rf hks_j64 (by decide)) hI_j64 ((ty_bad hsx7_64 hs (by { have n10 : ¬ z_38.toInt = 10 := fun q => c_42 (Int32.toInt_inj.mp q); have := i32_0; have := i32_1; have := i32_2; have := i32_m1; have := (hsx7_64).1; have := (hsx7_64).2; have := (hsx6_64).1; have := (hsx6_64).2; have := (hz_34).1; have := (hz_34).2; have := (hz_35).1; have := (hz_35).2; have := (hz_36).1; have := (hz_36).2; have := (h_46).1; have := (h_46).2; omega }))) _ _ _ hP hD hS (lv_sub hl [0, 1, 2, 3, 4, 5, 6, 7, 8, 9] rfl)
            · have h_47 : iv 32 255 z_38 := iv_leR (i32_ge c_45) (iv_k (by decide) : iv 32 32 32) h_41 (by decide)
              refine lv_iload hx hb dX13_type_104 (lv_at hl 0 rfl) ?_
              refine lv_bipush (v := 126) hx hb dX13_type_106 (by decide) ?_
              refine lv_icmp_le (tgt := 113) hx hb dX13_type_108 (by decide) (fun c_48 => ?_) (fun c_48 => ?_)
              · have h_49 : iv 32 126 z_38 := iv_leL c_48 h_47 (iv_k (by decide) : iv 126 126 126) (by decide)
                exact hj113 sg_j64 z_38 y0_64 (iv_w h_49 (by decide)) hsx7_64 hsx6_64 (KS_tr (L := [5]) KS_rf hks_j64 (by decide)) hI_j64 (hs) (by have := i32_0; have := i32_1; have := i32_2; have := i32_m1; have := (hsx7_64).1; have := (hsx7_64).2; have := (hsx6_64).1; have := (hsx6_64).2; have := (hz_34).1; have := (hz_34).2; have := (hz_35).1; have := (hz_35).2; have := (hz_36).1; have := (hz_36).2; have := (h_49).1; have := (h_49).2; omega) (by have := i32_0; have := i32_1; have := i32_2; have := i32_m1; have := (hsx7_64).1; have := (hsx7_64).2; have := (hsx6_64).1; have := (hsx6_64).2; have := (hz_34).1; have := (hz_34).2; have := (hz_35).1; have := (hz_35).2; have := (hz_36).1; have := (hz_36).2; have := (h_49).1; have := (h_49).2; omega) _ _ _ hP hD hS (lv_sub hl [0, 1, 2, 3, 4, 5, 6, 7, 8, 9] rfl)
              · have h_50 : iv 127 255 z_38 := iv_ltR (i32_lt c_48) (iv_k (by decide) : iv 126 126 126) h_47 (by decide)
                exact hj111 sg_j64 z_38 y0_64 x7_11 x6_11 (iv_w h_50 (by decide)) hsx7_64 hsx6_64 (KS_tr (L := [5]) KS_rf hks_j64 (by decide)) hI_j64 ((ty_bad hsx7_64 hs (by { have n10 : ¬ z_38.toInt = 10 := fun q => c_42 (Int32.toInt_inj.mp q); have := i32_0; have := i32_1; have := i32_2; have := i32_m1; have := (hsx7_64).1; have := (hsx7_64).2; have := (hsx6_64).1; have := (hsx6_64).2; have := (hz_34).1; have := (hz_34).2; have := (hz_35).1; have := (hz_35).2; have := (hz_36).1; have := (hz_36).2; have := (h_50).1; have := (h_50).2; omega }))) _ _ _ hP hD hS (lv_sub hl [0, 1, 2, 3, 4, 5, 6, 7, 8, 9] rfl)
      refine lv_iload hx hb dX13_type_11 (lv_at hl 0 rfl) ?_
      refine lv_bipush (v := 20) hx hb dX13_type_13 (by decide) ?_
      refine lv_icmp_ge (tgt := 134) hx hb dX13_type_15 (by decide) (fun c_51 => ?_) (fun c_51 => ?_)
      · have h_52 : iv 20 20 x7_11 := iv_leR c_51 (iv_k (by decide) : iv 20 20 20) hx7_11 (by decide)
        refine lv_aload_n hx hb dX13_type_134 rfl (lv_at hl 2 rfl) ?_
        refine mr_get (v := .int (sg_j11 20)) hx hb htb inX13 hown hK hP 20 (by decide) (htb _ kw_301) rfl dX13_type_135 ?_
        refine lv_topi (fun z_53 ez_53 => ?_)
        obtain rfl : (sg 20) = z_53 := (ez_53.trans (hks_j11 20 (by decide))).symm
        refine lv_iload hx hb dX13_type_138 (lv_at hl 1 rfl) ?_
        refine lv_iadd hx hb dX13_type_140 ?_
        refine lv_topi (fun z_54 ez_54 => ?_)
        have hz_54 : iv 0 1220 z_54 := iv_of ez_54 (iv_add (show iv 0 1200 (sg 20) from MI_s hI 20) hx6_11 (by decide))
        have tz_54 : z_54.toInt = ((sg 20) : Int32).toInt + (x6_11 : Int32).toInt := by rw [ez_54]; exact iv_addE (show iv 0 1200 (sg 20) from MI_s hI 20) hx6_11 (by decide)
        refine lv_sipush (v := 1200) hx hb dX13_type_141 (by decide) ?_
        refine lv_icmp_le (tgt := 149) hx hb dX13_type_144 (by decide) (fun c_55 => ?_) (fun c_55 => ?_)
        · have h_56 : iv 0 1200 z_54 := iv_leL c_55 hz_54 (iv_k (by decide) : iv 1200 1200 1200) (by decide)
          refine lv_iconst (v := 0) hx hb dX13_type_149 (by decide) ?_
          refine lv_istore (lv' := [(7, .int 0), (6, .int x6_11), (0, .ref h0), (1, .int p1), (2, .int p2), (3, .int p3), (4, .int p4), (5, .int p5)]) hx hb dX13_type_150 hl (by decide) rfl (fun ls hl => ?_)
          exact hj152 _ sg_j11 gm 0 x6_11 rfl (iv_w (iv_k (by decide) : iv 0 0 0) (by decide)) hx6_11 (KS_tr (L := [5, 20]) KS_rf hks_j11 (by decide)) KS_rf hI_j11 (TYX_0) ((by { have q8 := congrArg Int32.toInt (show sg_j11 20 = sg 20 from (hks_j11 20 (by decide))); show _ = _ + ((0 : Nat) : Int); omega })) ((by { have q9 : x7_11.toNatClampNeg = 20 := by { have := iv_cl h_52 (by decide); have := (h_52).1; have := (h_52).2; omega }; rw [q9] at hn; have q8 := congrArg Int32.toInt (show sg_j11 20 = sg 20 from (hks_j11 20 (by decide))); have := tz_54; have := (h_56).2; have := i32_0; have := i32_1; have := i32_2; have := i32_m1; have := (h_52).1; have := (h_52).2; have := (hx6_11).1; have := (hx6_11).2; have := ((show iv 0 1200 (sg 20) from MI_s hI 20)).1; have := ((show iv 0 1200 (sg 20) from MI_s hI 20)).2; have := (h_56).1; have := (h_56).2; omega })) (by have q9 : x7_11.toNatClampNeg = 20 := by { have := iv_cl h_52 (by decide); have := (h_52).1; have := (h_52).2; omega }; rw [q9] at hall; exact hall) (by have q9 : x7_11.toNatClampNeg = 20 := by { have := iv_cl h_52 (by decide); have := (h_52).1; have := (h_52).2; omega }; rw [q9] at hok; exact hok) _ _ _ hP hD hS (lv_sub hl [0, 1, 2, 3, 4, 5, 6, 7] rfl)
        · have h_57 : iv 1201 1220 z_54 := iv_ltR (i32_lt c_55) (iv_k (by decide) : iv 1200 1200 1200) hz_54 (by decide)
          refine lv_iconst (v := (-1)) hx hb dX13_type_147 (by decide) ?_
          exact W.iret (v := (-1)) hx hb hr (fun t ht hW => ⟨⟨(-1), (sg_j11, gm, lg), rfl, ⟨sg_j11, gm, lg, rfl, hI_j11, (KS_tr (L := [5, 20]) KS_rf hks_j11 (by decide)), KS_rf, KS_rf, (Or.inl ⟨rfl, rfl⟩), (Or.inl ⟨rfl, Or.inr (by { have q9 : x7_11.toNatClampNeg = 20 := by { have := iv_cl h_52 (by decide); have := (h_52).1; have := (h_52).2; omega }; rw [q9] at hn; have q8 := congrArg Int32.toInt (show sg_j11 20 = sg 20 from (hks_j11 20 (by decide))); have := tz_54; have := (h_57).1; have := i32_0; have := i32_1; have := i32_2; have := i32_m1; have := (h_52).1; have := (h_52).2; have := (hx6_11).1; have := (hx6_11).2; have := ((show iv 0 1200 (sg 20) from MI_s hI 20)).1; have := ((show iv 0 1200 (sg 20) from MI_s hI 20)).2; have := (h_57).1; have := (h_57).2; omega }), (show sg_j11 20 = sg 20 from (hks_j11 20 (by decide)))⟩)⟩, by rw [ht]; exact hP, va_K.moved hW.alike hK, hD⟩, hS.F ht⟩) hS.2.2 dX13_type_148
      · have h_58 : iv 0 19 x7_11 := iv_ltL (i32_lt c_51) hx7_11 (iv_k (by decide) : iv 20 20 20) (by decide)
        refine lv_iload hx hb dX13_type_18 (lv_at hl 0 rfl) ?_
        refine lv_iconst (v := 4) hx hb dX13_type_20 (by decide) ?_
        refine lv_icmp_ge (tgt := 28) hx hb dX13_type_21 (by decide) (fun c_59 => ?_) (fun c_59 => ?_)
        · have h_60 : iv 4 19 x7_11 := iv_leR c_59 (iv_k (by decide) : iv 4 4 4) h_58 (by decide)
          refine lv_iload hx hb dX13_type_28 (lv_at hl 0 rfl) ?_
          refine lv_bipush (v := 8) hx hb dX13_type_30 (by decide) ?_
          refine lv_icmp_ge (tgt := 39) hx hb dX13_type_32 (by decide) (fun c_61 => ?_) (fun c_61 => ?_)
          · have h_62 : iv 8 19 x7_11 := iv_leR c_61 (iv_k (by decide) : iv 8 8 8) h_60 (by decide)
            refine lv_iload hx hb dX13_type_39 (lv_at hl 0 rfl) ?_
            refine lv_bipush (v := 12) hx hb dX13_type_41 (by decide) ?_
            refine lv_icmp_ge (tgt := 50) hx hb dX13_type_43 (by decide) (fun c_63 => ?_) (fun c_63 => ?_)
            · have h_64 : iv 12 19 x7_11 := iv_leR c_63 (iv_k (by decide) : iv 12 12 12) h_62 (by decide)
              refine lv_iload hx hb dX13_type_50 (lv_at hl 0 rfl) ?_
              refine lv_bipush (v := 16) hx hb dX13_type_52 (by decide) ?_
              refine lv_icmp_ge (tgt := 62) hx hb dX13_type_54 (by decide) (fun c_65 => ?_) (fun c_65 => ?_)
              · have h_66 : iv 16 19 x7_11 := iv_leR c_65 (iv_k (by decide) : iv 16 16 16) h_64 (by decide)
                refine lv_iload hx hb dX13_type_62 (lv_at hl 7 rfl) ?_
                exact hj64 sg_j11 p5 (iv_w h_66 (by decide)) hx6_11 (KS_tr (L := [5]) KS_rf hks_j11 (by decide)) hI_j11 (by have := (h_66).1; have := (h_66).2; unfold tyW; repeat (first | rw [if_pos (by omega)] | rw [if_neg (by omega)])) _ _ _ hP hD hS (lv_sub hl [0, 1, 2, 3, 4, 5, 6, 7] rfl)
              · have h_67 : iv 12 15 x7_11 := iv_ltL (i32_lt c_65) h_64 (iv_k (by decide) : iv 16 16 16) (by decide)
                refine lv_iload hx hb dX13_type_57 (lv_at hl 6 rfl) ?_
                refine lv_goto (tgt := 64) hx hb dX13_type_59 (by decide) ?_
                exact hj64 sg_j11 p4 (iv_w h_67 (by decide)) hx6_11 (KS_tr (L := [5]) KS_rf hks_j11 (by decide)) hI_j11 (by have := (h_67).1; have := (h_67).2; unfold tyW; repeat (first | rw [if_pos (by omega)] | rw [if_neg (by omega)])) _ _ _ hP hD hS (lv_sub hl [0, 1, 2, 3, 4, 5, 6, 7] rfl)
            · have h_68 : iv 8 11 x7_11 := iv_ltL (i32_lt c_63) h_62 (iv_k (by decide) : iv 12 12 12) (by decide)
              refine lv_iload_n hx hb dX13_type_46 rfl (lv_at hl 5 rfl) ?_
              refine lv_goto (tgt := 64) hx hb dX13_type_47 (by decide) ?_
              exact hj64 sg_j11 p3 (iv_w h_68 (by decide)) hx6_11 (KS_tr (L := [5]) KS_rf hks_j11 (by decide)) hI_j11 (by have := (h_68).1; have := (h_68).2; unfold tyW; repeat (first | rw [if_pos (by omega)] | rw [if_neg (by omega)])) _ _ _ hP hD hS (lv_sub hl [0, 1, 2, 3, 4, 5, 6, 7] rfl)
          · have h_69 : iv 4 7 x7_11 := iv_ltL (i32_lt c_61) h_60 (iv_k (by decide) : iv 8 8 8) (by decide)
            refine lv_iload_n hx hb dX13_type_35 rfl (lv_at hl 4 rfl) ?_
            refine lv_goto (tgt := 64) hx hb dX13_type_36 (by decide) ?_
            exact hj64 sg_j11 p2 (iv_w h_69 (by decide)) hx6_11 (KS_tr (L := [5]) KS_rf hks_j11 (by decide)) hI_j11 (by have := (h_69).1; have := (h_69).2; unfold tyW; repeat (first | rw [if_pos (by omega)] | rw [if_neg (by omega)])) _ _ _ hP hD hS (lv_sub hl [0, 1, 2, 3, 4, 5, 6, 7] rfl)
        · have h_70 : iv 0 3 x7_11 := iv_ltL (i32_lt c_59) h_58 (iv_k (by decide) : iv 4 4 4) (by decide)
          refine lv_iload_n hx hb dX13_type_24 rfl (lv_at hl 3 rfl) ?_
          refine lv_goto (tgt := 64) hx hb dX13_type_25 (by decide) ?_
          exact hj64 sg_j11 p1 (iv_w h_70 (by decide)) hx6_11 (KS_tr (L := [5]) KS_rf hks_j11 (by decide)) hI_j11 (by have := (h_70).1; have := (h_70).2; unfold tyW; repeat (first | rw [if_pos (by omega)] | rw [if_neg (by omega)])) _ _ _ hP hD hS (lv_sub hl [0, 1, 2, 3, 4, 5, 6, 7] rfl)
  refine lv_aload_n hx hb dX13_type_0 rfl (lv_at hl 0 rfl) ?_
  refine lv_iconst (v := 0) hx hb dX13_type_1 (by decide) ?_
  refine ma_put (x := 0) hx hb htb inX13 hown hK hP hD hS 5 (by decide) (by decide) (htb _ kw_239) rfl rfl rfl dX13_type_2 (fun sg_71 H locs esg_71 hP hD hS => ?_)
  have hI_sg_71 := MI_put hI esg_71 (iv_k (by decide) : iv 0 0 0) (by decide)
  refine lv_iconst (v := 0) hx hb dX13_type_5 (by decide) ?_
  refine lv_istore (lv' := [(6, .int 0), (0, .ref h0), (1, .int p1), (2, .int p2), (3, .int p3), (4, .int p4), (5, .int p5)]) hx hb dX13_type_6 hl (by decide) rfl (fun ls hl => ?_)
  refine lv_iconst (v := 0) hx hb dX13_type_8 (by decide) ?_
  refine lv_istore (lv' := [(7, .int 0), (6, .int 0), (0, .ref h0), (1, .int p1), (2, .int p2), (3, .int p3), (4, .int p4), (5, .int p5)]) hx hb dX13_type_9 hl (by decide) rfl (fun ls hl => ?_)
  exact hj11 _ sg_71 0 0 rfl (iv_w (iv_k (by decide) : iv 0 0 0) (by decide)) (iv_w (iv_k (by decide) : iv 0 0 0) (by decide)) (KS_up KS_rf esg_71 (by decide)) hI_sg_71 (rfl) (fun j9 h9 => absurd h9 (Nat.not_lt_zero _)) (fun j9 h9 => absurd h9 (Nat.not_lt_zero _)) _ _ _ hP hD hS (lv_sub hl [0, 1, 2, 3, 4, 5, 6, 7] rfl)
