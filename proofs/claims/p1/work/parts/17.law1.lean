set_option maxHeartbeats 4000000 in
set_option maxRecDepth 100000 in
theorem law_case_0 {p : Program} {l : Launch} {e : Env} {s : State} {m : MethodId} {below : List Frame} {meth : Method} {c : Code} {b : Nat} {xs : Nat → Int32} {dC : Nat → ClassId} {dI : Nat → Nat → Nat} {A : Nat → Prop} (hl9 : l.stackTraces = false) (C0 : lw_At p s m meth c b 9 xs) (hA : ∀ q : Nat, s.heap.size ≤ q → A q) (hAi : ∀ q : Nat, A q → s.heap.size ≤ q) (hbA : ¬ A b) (hG : GE A s) (x0 : Nat) (a1 : Nat) (a2 : Nat) (a3 : Nat) (a4 : Nat) (a5 : Nat) (a6 : Nat) (a7 : Nat) (a8 : Nat) (cC1 : ClassId) (f0 : Nat → Option Nat) (d0 : Nat) (q1 : Nat) (q2 : Nat) (k : Nat) (q3 : Nat) (cB3 : ClassId) (g3 : Nat → Int32) (y0 : Nat) (m0 : Nat) (m1 : Nat) (m2 : Nat) (m3 : Nat) (m4 : Nat) (m6 : Nat) (m7 : Nat) (m8 : Nat) (m9 : Nat) (m10 : Nat) (m11 : Nat) (m12 : Nat) (m13 : Nat) (m14 : Nat) (m15 : Nat) (m16 : Nat) (m17 : Nat) (m18 : Nat) (m19 : Nat) (m26 : Nat) (m27 : Nat) (m28 : Nat) (m29 : Nat) (m30 : Nat) (m31 : Nat) (m32 : Nat) (m33 : Nat) (m34 : Nat) (m35 : Nat) (m36 : Nat) (m37 : Nat) (m38 : Nat) (m39 : Nat) (m42 : Nat) (m43 : Nat) (m44 : Nat) (m45 : Nat) (m46 : Nat) (m47 : Nat) (m53 : Nat) (m54 : Nat) (m55 : Nat) (m56 : Nat) (m57 : Nat) (m58 : Nat) (m59 : Nat) (m60 : Nat) (m61 : Nat) (m62 : Nat) (m64 : Nat) (m65 : Nat) (m66 : Nat) (m67 : Nat) (m68 : Nat) (m69 : Nat) (m70 : Nat) (m71 : Nat) (m72 : Nat) (m73 : Nat) (m75 : Nat) (cM6 : ClassId) (fP : Nat → Int32) (cM7 : ClassId) (cM10 : ClassId) (cM13 : ClassId) (o3 : Nat) (hf0 : ¬ zCls (xs 1) = 0 → f0 ((xs 1) : Int32).toNatClampNeg = some d0) (H : Heap) (locs : List Loc) (ls : Array Slot) (hK : va_K (dC, dI) vwCl [(cC1, .object RX2), (cB3, .int), (cM6, .int), (cM7, .int), (cM10, .int), (cM13, .int)] s) (hP : va_P (dC, dI) vwCl [(x0, .inr (11, [.ref a1, .ref a2, .ref a3, .ref a4, .ref a5, .ref a6, .ref a7, .ref a8, .int 0, .int 0, .int 0, .int (-1)])), (a1, .inl (cC1, 8, .inr (.inr (.inr (.inr f0))))), (d0, .inr (2, [.ref q1, .ref q2, .int 0, .int 0, .int (nI k), .ref q3, .int 0, .null])), (q3, .inl (cB3, 26, .inl g3)), (y0, .inr (12, [.ref m0, .ref m1, .ref m2, .ref m3, .ref m4, .int 0, .ref m6, .ref m7, .ref m8, .ref m9, .ref m10, .ref m11, .ref m12, .ref m13, .ref m14, .ref m15, .ref m16, .ref m17, .ref m18, .ref m19, .int 0, .int 0, .int 0, .int (-1), .int 0, .int 0, .ref m26, .ref m27, .ref m28, .ref m29, .ref m30, .ref m31, .ref m32, .ref m33, .ref m34, .ref m35, .ref m36, .ref m37, .ref m38, .ref m39, .int 0, .int 0, .ref m42, .ref m43, .ref m44, .ref m45, .ref m46, .ref m47, .int 0, .int 0, .int 0, .int 0, .int (-1), .ref m53, .ref m54, .ref m55, .ref m56, .ref m57, .ref m58, .ref m59, .ref m60, .ref m61, .ref m62, .int 0, .ref m64, .ref m65, .ref m66, .ref m67, .ref m68, .ref m69, .ref m70, .ref m71, .ref m72, .ref m73, .int 0, .ref m75, .int 0])), (m6, .inl (cM6, 8, .inl fP)), (m7, .inl (cM7, 8, .inl (fun _ => 0))), (m10, .inl (cM10, 8, .inl (fun _ => 0))), (m13, .inl (cM13, 8, .inl (fun _ => 0)))] H) (hD : va_D A [(x0, .inr (11, [.ref a1, .ref a2, .ref a3, .ref a4, .ref a5, .ref a6, .ref a7, .ref a8, .int 0, .int 0, .int 0, .int (-1)])), (a1, .inl (cC1, 8, .inr (.inr (.inr (.inr f0))))), (d0, .inr (2, [.ref q1, .ref q2, .int 0, .int 0, .int (nI k), .ref q3, .int 0, .null])), (q3, .inl (cB3, 26, .inl g3)), (y0, .inr (12, [.ref m0, .ref m1, .ref m2, .ref m3, .ref m4, .int 0, .ref m6, .ref m7, .ref m8, .ref m9, .ref m10, .ref m11, .ref m12, .ref m13, .ref m14, .ref m15, .ref m16, .ref m17, .ref m18, .ref m19, .int 0, .int 0, .int 0, .int (-1), .int 0, .int 0, .ref m26, .ref m27, .ref m28, .ref m29, .ref m30, .ref m31, .ref m32, .ref m33, .ref m34, .ref m35, .ref m36, .ref m37, .ref m38, .ref m39, .int 0, .int 0, .ref m42, .ref m43, .ref m44, .ref m45, .ref m46, .ref m47, .int 0, .int 0, .int 0, .int 0, .int (-1), .ref m53, .ref m54, .ref m55, .ref m56, .ref m57, .ref m58, .ref m59, .ref m60, .ref m61, .ref m62, .int 0, .ref m64, .ref m65, .ref m66, .ref m67, .ref m68, .ref m69, .ref m70, .ref m71, .ref m72, .ref m73, .int 0, .ref m75, .int 0])), (m6, .inl (cM6, 8, .inl fP)), (m7, .inl (cM7, 8, .inl (fun _ => 0))), (m10, .inl (cM10, 8, .inl (fun _ => 0))), (m13, .inl (cM13, 8, .inl (fun _ => 0)))]) (hS : va_S A s.heap H locs) (hl : lv_has ls 7 [(4, .int 0), (3, .ref o3), (2, .ref y0), (1, .ref x0), (0, .ref b)]) : W p l e room_1 s m #[Value.ref b] below meth c H locs 724 35019 (lw_Z below #[Value.ref b] s) (F0 m 116 ls []) := by
  obtain ⟨hx, hb, hr, hml, hown, hts, hX, hbl, hlocks, hgv⟩ := C0
  have hown : s.vm.findClass RL = some m.cls := hown
  have htb := fun (w : Cond) (h : w ∈ tb) => hts w (tb_in w h)
  refine lv_aload_n hx hb dL_law_116 rfl (lv_at hl 3 rfl) ?_
  refine lv_aload_n hx hb dL_law_117 rfl (lv_at hl 4 rfl) ?_
  refine lv_iload hx hb dL_law_118 (lv_at hl 0 rfl) ?_
  refine lv_iconst (v := 1) hx hb dL_law_120 (by decide) ?_
  refine lv_iadd hx hb dL_law_121 ?_
  refine lv_topi (fun z_1 ez_1 => ?_)
  obtain rfl : z_1 = 1 := ez_1.trans (by decide)
  refine va_sld hx hb hX hbl hbA hS (by unfold vp_in; decide) dL_law_122 ?_
  refine lv_topi (fun z_2 ez_2 => ?_)
  obtain rfl : z_2 = xs 1 := ez_2
  refine lv_aload_n hx hb dL_law_123 rfl (lv_at hl 4 rfl) ?_
  refine lv_iload hx hb dL_law_124 (lv_at hl 0 rfl) ?_
  refine lv_iconst (v := 2) hx hb dL_law_126 (by decide) ?_
  refine lv_iadd hx hb dL_law_127 ?_
  refine lv_topi (fun z_3 ez_3 => ?_)
  obtain rfl : z_3 = 2 := ez_3.trans (by decide)
  refine va_sld hx hb hX hbl hbA hS (by unfold vp_in; decide) dL_law_128 ?_
  refine lv_topi (fun z_4 ez_4 => ?_)
  obtain rfl : z_4 = xs 2 := ez_4
  have hPc := hP.sub (ws' := [(x0, .inr (11, [.ref a1, .ref a2, .ref a3, .ref a4, .ref a5, .ref a6, .ref a7, .ref a8, .int 0, .int 0, .int 0, .int (-1)])), (a1, .inl (cC1, 8, .inr (.inr (.inr (.inr f0))))), (d0, .inr (2, [.ref q1, .ref q2, .int 0, .int 0, .int (nI k), .ref q3, .int 0, .null])), (q3, .inl (cB3, 26, .inl g3))]) [0, 1, 2, 3] rfl
  have hDc := hD.sub (ws' := [(x0, .inr (11, [.ref a1, .ref a2, .ref a3, .ref a4, .ref a5, .ref a6, .ref a7, .ref a8, .int 0, .int 0, .int 0, .int (-1)])), (a1, .inl (cC1, 8, .inr (.inr (.inr (.inr f0))))), (d0, .inr (2, [.ref q1, .ref q2, .int 0, .int 0, .int (nI k), .ref q3, .int 0, .null])), (q3, .inl (cB3, 26, .inl g3))]) [0, 1, 2, 3] (by decide) rfl
  have hKc := hK.sub (tys' := [(cC1, .object RX2), (cB3, .int)]) [0, 1] rfl
  have hFc := va_free (wc := [(x0, .inr (11, [.ref a1, .ref a2, .ref a3, .ref a4, .ref a5, .ref a6, .ref a7, .ref a8, .int 0, .int 0, .int 0, .int (-1)])), (a1, .inl (cC1, 8, .inr (.inr (.inr (.inr f0))))), (d0, .inr (2, [.ref q1, .ref q2, .int 0, .int 0, .int (nI k), .ref q3, .int 0, .null])), (q3, .inl (cB3, 26, .inl g3))]) hD hS hA [0, 1, 2, 3] rfl
  refine va_calli (va_runV (As := [.int (xs 1), .int (xs 2)]) (rest := []) ⟨hx, hb, hml, hown, htb⟩ (c_X12_declare l dC dI H.size x0 (xs 1) (xs 2) a1 a2 a3 a4 a5 a6 a7 a8 cC1 f0 d0 q1 q2 (nI k) q3 cB3 g3 hf0) (cwV 2 htb (gd_V kw_403 kw_404 kw_405 kw_49 kw_587) rfl rfl rfl (by decide +kernel) ⟨Nat.le_of_ble_eq_true rfl, Nat.le_of_ble_eq_true rfl⟩) ⟨fun a U g mk q => by obtain ⟨q0, q1, qP, qK, qD⟩ := q; exact ⟨q0, q1, qP, va_K.moved (u := U) (U := U.calling g mk a) (Vm.Alike.refl U.vm) qK, qD⟩, va_recv hKc hPc (ci := 11) (q0 := 0) rfl rfl, fun U hU hW => ⟨rfl, by rw [hU], by rw [hU]; exact hPc, va_K.moved hW.alike hKc, hDc.weaken (fun _ _ _ _ => trivial)⟩⟩ rfl rfl hl.1 rfl (lv_room (Nat.le_of_ble_eq_true rfl)) dL_law_129 ⟨(Nat.le_of_ble_eq_true rfl), (Nat.le_of_ble_eq_true rfl)⟩) hS (fun q _ h => hFc q h) hFc (fun r u t H1 locs ht hvm hw hB hz1 hk1 hS => ?_)
  subst hw
  obtain ⟨hP1, hK1, hD1⟩ := hB
  rw [ht] at hP1
  have hK1 := va_K.moved hvm.symm hK1
  obtain ⟨hP, hD⟩ := va_join (wr := [(y0, .inr (12, [.ref m0, .ref m1, .ref m2, .ref m3, .ref m4, .int 0, .ref m6, .ref m7, .ref m8, .ref m9, .ref m10, .ref m11, .ref m12, .ref m13, .ref m14, .ref m15, .ref m16, .ref m17, .ref m18, .ref m19, .int 0, .int 0, .int 0, .int (-1), .int 0, .int 0, .ref m26, .ref m27, .ref m28, .ref m29, .ref m30, .ref m31, .ref m32, .ref m33, .ref m34, .ref m35, .ref m36, .ref m37, .ref m38, .ref m39, .int 0, .int 0, .ref m42, .ref m43, .ref m44, .ref m45, .ref m46, .ref m47, .int 0, .int 0, .int 0, .int 0, .int (-1), .ref m53, .ref m54, .ref m55, .ref m56, .ref m57, .ref m58, .ref m59, .ref m60, .ref m61, .ref m62, .int 0, .ref m64, .ref m65, .ref m66, .ref m67, .ref m68, .ref m69, .ref m70, .ref m71, .ref m72, .ref m73, .int 0, .ref m75, .int 0])), (m6, .inl (cM6, 8, .inl fP)), (m7, .inl (cM7, 8, .inl (fun _ => 0))), (m10, .inl (cM10, 8, .inl (fun _ => 0))), (m13, .inl (cM13, 8, .inl (fun _ => 0)))]) (w1 := []) hP hD [0, 1, 2, 3] [4, 5, 6, 7, 8] rfl rfl (by decide) (by decide) hk1 hFc hP1 hD1
  have hK := hK.app hK1
  generalize H1 = H at hP hS ⊢
  have hP : va_P (dC, dI) vwCl [(y0, .inr (12, [.ref m0, .ref m1, .ref m2, .ref m3, .ref m4, .int 0, .ref m6, .ref m7, .ref m8, .ref m9, .ref m10, .ref m11, .ref m12, .ref m13, .ref m14, .ref m15, .ref m16, .ref m17, .ref m18, .ref m19, .int 0, .int 0, .int 0, .int (-1), .int 0, .int 0, .ref m26, .ref m27, .ref m28, .ref m29, .ref m30, .ref m31, .ref m32, .ref m33, .ref m34, .ref m35, .ref m36, .ref m37, .ref m38, .ref m39, .int 0, .int 0, .ref m42, .ref m43, .ref m44, .ref m45, .ref m46, .ref m47, .int 0, .int 0, .int 0, .int 0, .int (-1), .ref m53, .ref m54, .ref m55, .ref m56, .ref m57, .ref m58, .ref m59, .ref m60, .ref m61, .ref m62, .int 0, .ref m64, .ref m65, .ref m66, .ref m67, .ref m68, .ref m69, .ref m70, .ref m71, .ref m72, .ref m73, .int 0, .ref m75, .int 0])), (m6, .inl (cM6, 8, .inl fP)), (m7, .inl (cM7, 8, .inl (fun _ => 0))), (m10, .inl (cM10, 8, .inl (fun _ => 0))), (m13, .inl (cM13, 8, .inl (fun _ => 0)))] H := hP
  have hD : va_D A [(y0, .inr (12, [.ref m0, .ref m1, .ref m2, .ref m3, .ref m4, .int 0, .ref m6, .ref m7, .ref m8, .ref m9, .ref m10, .ref m11, .ref m12, .ref m13, .ref m14, .ref m15, .ref m16, .ref m17, .ref m18, .ref m19, .int 0, .int 0, .int 0, .int (-1), .int 0, .int 0, .ref m26, .ref m27, .ref m28, .ref m29, .ref m30, .ref m31, .ref m32, .ref m33, .ref m34, .ref m35, .ref m36, .ref m37, .ref m38, .ref m39, .int 0, .int 0, .ref m42, .ref m43, .ref m44, .ref m45, .ref m46, .ref m47, .int 0, .int 0, .int 0, .int 0, .int (-1), .ref m53, .ref m54, .ref m55, .ref m56, .ref m57, .ref m58, .ref m59, .ref m60, .ref m61, .ref m62, .int 0, .ref m64, .ref m65, .ref m66, .ref m67, .ref m68, .ref m69, .ref m70, .ref m71, .ref m72, .ref m73, .int 0, .ref m75, .int 0])), (m6, .inl (cM6, 8, .inl fP)), (m7, .inl (cM7, 8, .inl (fun _ => 0))), (m10, .inl (cM10, 8, .inl (fun _ => 0))), (m13, .inl (cM13, 8, .inl (fun _ => 0)))] := hD
  have hK : va_K (dC, dI) vwCl [(cC1, .object RX2), (cB3, .int), (cM6, .int), (cM7, .int), (cM10, .int), (cM13, .int)] s := hK
  refine W.widen (k := 724) (n := 35019) (Nat.le_of_ble_eq_true rfl) (Nat.le_of_ble_eq_true rfl) ?_
  refine lv_aload_n hx hb dL_law_132 rfl (lv_at hl 2 rfl) ?_
  refine lv_aload_n hx hb dL_law_133 rfl (lv_at hl 4 rfl) ?_
  refine lv_iload hx hb dL_law_134 (lv_at hl 0 rfl) ?_
  refine lv_iconst (v := 1) hx hb dL_law_136 (by decide) ?_
  refine lv_iadd hx hb dL_law_137 ?_
  refine lv_topi (fun z_5 ez_5 => ?_)
  obtain rfl : z_5 = 1 := ez_5.trans (by decide)
  refine va_sld hx hb hX hbl hbA hS (by unfold vp_in; decide) dL_law_138 ?_
  refine lv_topi (fun z_6 ez_6 => ?_)
  obtain rfl : z_6 = xs 1 := ez_6
  refine lv_aload_n hx hb dL_law_139 rfl (lv_at hl 4 rfl) ?_
  refine lv_iload hx hb dL_law_140 (lv_at hl 0 rfl) ?_
  refine lv_iconst (v := 2) hx hb dL_law_142 (by decide) ?_
  refine lv_iadd hx hb dL_law_143 ?_
  refine lv_topi (fun z_7 ez_7 => ?_)
  obtain rfl : z_7 = 2 := ez_7.trans (by decide)
  refine va_sld hx hb hX hbl hbA hS (by unfold vp_in; decide) dL_law_144 ?_
  refine lv_topi (fun z_8 ez_8 => ?_)
  obtain rfl : z_8 = xs 2 := ez_8
  have hPc := hP.sub (ws' := [(y0, .inr (12, [.ref m0, .ref m1, .ref m2, .ref m3, .ref m4, .int 0, .ref m6, .ref m7, .ref m8, .ref m9, .ref m10, .ref m11, .ref m12, .ref m13, .ref m14, .ref m15, .ref m16, .ref m17, .ref m18, .ref m19, .int 0, .int 0, .int 0, .int (-1), .int 0, .int 0, .ref m26, .ref m27, .ref m28, .ref m29, .ref m30, .ref m31, .ref m32, .ref m33, .ref m34, .ref m35, .ref m36, .ref m37, .ref m38, .ref m39, .int 0, .int 0, .ref m42, .ref m43, .ref m44, .ref m45, .ref m46, .ref m47, .int 0, .int 0, .int 0, .int 0, .int (-1), .ref m53, .ref m54, .ref m55, .ref m56, .ref m57, .ref m58, .ref m59, .ref m60, .ref m61, .ref m62, .int 0, .ref m64, .ref m65, .ref m66, .ref m67, .ref m68, .ref m69, .ref m70, .ref m71, .ref m72, .ref m73, .int 0, .ref m75, .int 0])), (m6, .inl (cM6, 8, .inl fP)), (m7, .inl (cM7, 8, .inl (fun _ => 0))), (m10, .inl (cM10, 8, .inl (fun _ => 0))), (m13, .inl (cM13, 8, .inl (fun _ => 0)))]) [0, 1, 2, 3, 4] rfl
  have hDc := hD.sub (ws' := [(y0, .inr (12, [.ref m0, .ref m1, .ref m2, .ref m3, .ref m4, .int 0, .ref m6, .ref m7, .ref m8, .ref m9, .ref m10, .ref m11, .ref m12, .ref m13, .ref m14, .ref m15, .ref m16, .ref m17, .ref m18, .ref m19, .int 0, .int 0, .int 0, .int (-1), .int 0, .int 0, .ref m26, .ref m27, .ref m28, .ref m29, .ref m30, .ref m31, .ref m32, .ref m33, .ref m34, .ref m35, .ref m36, .ref m37, .ref m38, .ref m39, .int 0, .int 0, .ref m42, .ref m43, .ref m44, .ref m45, .ref m46, .ref m47, .int 0, .int 0, .int 0, .int 0, .int (-1), .ref m53, .ref m54, .ref m55, .ref m56, .ref m57, .ref m58, .ref m59, .ref m60, .ref m61, .ref m62, .int 0, .ref m64, .ref m65, .ref m66, .ref m67, .ref m68, .ref m69, .ref m70, .ref m71, .ref m72, .ref m73, .int 0, .ref m75, .int 0])), (m6, .inl (cM6, 8, .inl fP)), (m7, .inl (cM7, 8, .inl (fun _ => 0))), (m10, .inl (cM10, 8, .inl (fun _ => 0))), (m13, .inl (cM13, 8, .inl (fun _ => 0)))]) [0, 1, 2, 3, 4] (by decide) rfl
  have hKc := hK.sub (tys' := [(cM6, .int), (cM7, .int), (cM10, .int), (cM13, .int)]) [2, 3, 4, 5] rfl
  have hFc := va_free (wc := [(y0, .inr (12, [.ref m0, .ref m1, .ref m2, .ref m3, .ref m4, .int 0, .ref m6, .ref m7, .ref m8, .ref m9, .ref m10, .ref m11, .ref m12, .ref m13, .ref m14, .ref m15, .ref m16, .ref m17, .ref m18, .ref m19, .int 0, .int 0, .int 0, .int (-1), .int 0, .int 0, .ref m26, .ref m27, .ref m28, .ref m29, .ref m30, .ref m31, .ref m32, .ref m33, .ref m34, .ref m35, .ref m36, .ref m37, .ref m38, .ref m39, .int 0, .int 0, .ref m42, .ref m43, .ref m44, .ref m45, .ref m46, .ref m47, .int 0, .int 0, .int 0, .int 0, .int (-1), .ref m53, .ref m54, .ref m55, .ref m56, .ref m57, .ref m58, .ref m59, .ref m60, .ref m61, .ref m62, .int 0, .ref m64, .ref m65, .ref m66, .ref m67, .ref m68, .ref m69, .ref m70, .ref m71, .ref m72, .ref m73, .int 0, .ref m75, .int 0])), (m6, .inl (cM6, 8, .inl fP)), (m7, .inl (cM7, 8, .inl (fun _ => 0))), (m10, .inl (cM10, 8, .inl (fun _ => 0))), (m13, .inl (cM13, 8, .inl (fun _ => 0)))]) hD hS hA [0, 1, 2, 3, 4] rfl
  refine va_calli (va_runV (As := [.int (xs 1), .int (xs 2)]) (rest := [.int (zDec (xs 1) (xs 2))]) ⟨hx, hb, hml, hown, htb⟩ (c_X13_declare l dC dI H.size y0 (xs 1) (xs 2) m0 m1 m2 m3 m4 m6 m7 m8 m9 m10 m11 m12 m13 m14 m15 m16 m17 m18 m19 m26 m27 m28 m29 m30 m31 m32 m33 m34 m35 m36 m37 m38 m39 m42 m43 m44 m45 m46 m47 m53 m54 m55 m56 m57 m58 m59 m60 m61 m62 m64 m65 m66 m67 m68 m69 m70 m71 m72 m73 m75 cM6 fP cM7 cM10 cM13) (cwV 2 htb (gd_V kw_406 kw_407 kw_408 kw_345 kw_588) rfl rfl rfl (by decide +kernel) ⟨Nat.le_of_ble_eq_true rfl, Nat.le_of_ble_eq_true rfl⟩) ⟨fun a U g mk q => by obtain ⟨q0, q1, qP, qK, qD⟩ := q; exact ⟨q0, q1, qP, va_K.moved (u := U) (U := U.calling g mk a) (Vm.Alike.refl U.vm) qK, qD⟩, va_recv hKc hPc (ci := 12) (q0 := 0) rfl rfl, fun U hU hW => ⟨rfl, by rw [hU], by rw [hU]; exact hPc, va_K.moved hW.alike hKc, hDc.weaken (fun _ _ _ _ => trivial)⟩⟩ rfl rfl hl.1 rfl (lv_room (Nat.le_of_ble_eq_true rfl)) dL_law_145 ⟨(Nat.le_of_ble_eq_true rfl), (Nat.le_of_ble_eq_true rfl)⟩) hS (fun q _ h => hFc q h) hFc (fun r u t H1 locs ht hvm hw hB hz1 hk1 hS => ?_)
  subst hw
  obtain ⟨hP1, hK1, hD1⟩ := hB
  rw [ht] at hP1
  have hK1 := va_K.moved hvm.symm hK1
  obtain ⟨hP, hD⟩ := va_join (wr := []) (w1 := []) hP hD [0, 1, 2, 3, 4] [] rfl rfl (by decide) (by decide) hk1 hFc hP1 hD1
  have hK := hK.app hK1
  generalize H1 = H at hP hS ⊢
  have hP : va_P (dC, dI) vwCl [] H := hP
  have hD : va_D A [] := hD
  have hK : va_K (dC, dI) vwCl [(cC1, .object RX2), (cB3, .int), (cM6, .int), (cM7, .int), (cM10, .int), (cM13, .int)] s := hK
  refine W.widen (k := 724) (n := 35019) (Nat.le_of_ble_eq_true rfl) (Nat.le_of_ble_eq_true rfl) ?_
  refine lv_icmp_eq (tgt := 885) hx hb dL_law_148 (by decide) (fun _ => ?_) (fun c_9 => absurd rfl c_9)
  refine lv_iinc (v := 9) (lv' := [(4, .int 9), (3, .ref o3), (2, .ref y0), (1, .ref x0), (0, .ref b)]) hx hb dL_law_885 hl (k := 0) rfl (by decide) (by decide) rfl (fun ls hl => ?_)
  refine lv_goto (tgt := 23) hx hb dL_law_888 (by decide) ?_
  refine lv_iload hx hb dL_law_23 (lv_at hl 0 rfl) ?_
  refine lv_aload_n hx hb dL_law_25 rfl (lv_at hl 4 rfl) ?_
  refine va_slen hx hb hX hbl hbA hS dL_law_26 ?_
  refine lv_topi (fun z_10 ez_10 => ?_)
  obtain rfl : z_10 = 9 := ez_10.trans (by decide)
  refine lv_bipush (v := 9) hx hb dL_law_27 (by decide) ?_
  refine lv_isub hx hb dL_law_29 ?_
  refine lv_topi (fun z_11 ez_11 => ?_)
  obtain rfl : z_11 = 0 := ez_11.trans (by decide)
  refine lv_icmp_gt (tgt := 891) hx hb dL_law_30 (by decide) (fun _ => ?_) (fun c_12 => absurd (by decide) c_12)
  refine lv_iconst (v := 1) hx hb dL_law_891 (by decide) ?_
  refine va_forget (fun q hq => hAi _ (hS.2.2 q hq)) ?_
  refine W.widen (k := 600002) (n := 7302232) (Nat.le_of_ble_eq_true rfl) (Nat.le_of_ble_eq_true rfl) ?_
  exact lw_ret hx hb hr hlocks dL_law_892

set_option maxHeartbeats 4000000 in
set_option maxRecDepth 100000 in
theorem law_case_1 {p : Program} {l : Launch} {e : Env} {s : State} {m : MethodId} {below : List Frame} {meth : Method} {c : Code} {b : Nat} {xs : Nat → Int32} {dC : Nat → ClassId} {dI : Nat → Nat → Nat} {A : Nat → Prop} (hl9 : l.stackTraces = false) (C0 : lw_At p s m meth c b 9 xs) (hA : ∀ q : Nat, s.heap.size ≤ q → A q) (hAi : ∀ q : Nat, A q → s.heap.size ≤ q) (hbA : ¬ A b) (hG : GE A s) (x0 : Nat) (a1 : Nat) (a2 : Nat) (a3 : Nat) (a4 : Nat) (a5 : Nat) (a6 : Nat) (a7 : Nat) (a8 : Nat) (cC1 : ClassId) (f0 : Nat → Option Nat) (d0 : Nat) (q1 : Nat) (q2 : Nat) (k : Nat) (q3 : Nat) (cB1 : ClassId) (g1 : Nat → Option Nat) (q4 : Nat) (q5 : Nat) (cB5 : ClassId) (y0 : Nat) (m0 : Nat) (m1 : Nat) (m2 : Nat) (m3 : Nat) (m4 : Nat) (m6 : Nat) (m7 : Nat) (m8 : Nat) (m9 : Nat) (m10 : Nat) (m11 : Nat) (m12 : Nat) (m13 : Nat) (m14 : Nat) (m15 : Nat) (m16 : Nat) (m17 : Nat) (m18 : Nat) (m19 : Nat) (m26 : Nat) (m27 : Nat) (m28 : Nat) (m29 : Nat) (m30 : Nat) (m31 : Nat) (m32 : Nat) (m33 : Nat) (m34 : Nat) (m35 : Nat) (m36 : Nat) (m37 : Nat) (m38 : Nat) (m39 : Nat) (m42 : Nat) (m43 : Nat) (m44 : Nat) (m45 : Nat) (m46 : Nat) (m47 : Nat) (m53 : Nat) (m54 : Nat) (m55 : Nat) (m56 : Nat) (m57 : Nat) (m58 : Nat) (m59 : Nat) (m60 : Nat) (m61 : Nat) (m62 : Nat) (m64 : Nat) (m65 : Nat) (m66 : Nat) (m67 : Nat) (m68 : Nat) (m69 : Nat) (m70 : Nat) (m71 : Nat) (m72 : Nat) (m73 : Nat) (m75 : Nat) (cM7 : ClassId) (cM8 : ClassId) (cM9 : ClassId) (o3 : Nat) (hf0 : ¬ zCls (xs 1) = 0 → f0 ((xs 1) : Int32).toNatClampNeg = some d0) (hg1 : g1 0 = some q4) (H : Heap) (locs : List Loc) (ls : Array Slot) (hK : va_K (dC, dI) vwCl [(cC1, .object RX2), (cB1, .object RX8), (cB5, .int), (cM7, .int), (cM8, .int), (cM9, .int)] s) (hP : va_P (dC, dI) vwCl [(x0, .inr (11, [.ref a1, .ref a2, .ref a3, .ref a4, .ref a5, .ref a6, .ref a7, .ref a8, .int 0, .int 0, .int 0, .int (-1)])), (a1, .inl (cC1, 8, .inr (.inr (.inr (.inr f0))))), (d0, .inr (2, [.ref q1, .ref q2, .int 0, .int 0, .int (nI k), .ref q3, .int 0, .null])), (q1, .inl (cB1, 4, .inr (.inr (.inr (.inr g1))))), (q4, .inr (8, [.int (nI k), .int 0, .ref q5, .int 0, .int 0, .int 0, .int 0])), (q5, .inl (cB5, 3, .inl (fun _ => 0))), (y0, .inr (12, [.ref m0, .ref m1, .ref m2, .ref m3, .ref m4, .int 0, .ref m6, .ref m7, .ref m8, .ref m9, .ref m10, .ref m11, .ref m12, .ref m13, .ref m14, .ref m15, .ref m16, .ref m17, .ref m18, .ref m19, .int 0, .int 0, .int 0, .int (-1), .int 0, .int 0, .ref m26, .ref m27, .ref m28, .ref m29, .ref m30, .ref m31, .ref m32, .ref m33, .ref m34, .ref m35, .ref m36, .ref m37, .ref m38, .ref m39, .int 0, .int 0, .ref m42, .ref m43, .ref m44, .ref m45, .ref m46, .ref m47, .int 0, .int 0, .int 0, .int 0, .int (-1), .ref m53, .ref m54, .ref m55, .ref m56, .ref m57, .ref m58, .ref m59, .ref m60, .ref m61, .ref m62, .int 0, .ref m64, .ref m65, .ref m66, .ref m67, .ref m68, .ref m69, .ref m70, .ref m71, .ref m72, .ref m73, .int 0, .ref m75, .int 0])), (m7, .inl (cM7, 8, .inl (fun _ => 0))), (m8, .inl (cM8, 32, .inl (fun _ => 0))), (m9, .inl (cM9, 96, .inl (fun _ => 0)))] H) (hD : va_D A [(x0, .inr (11, [.ref a1, .ref a2, .ref a3, .ref a4, .ref a5, .ref a6, .ref a7, .ref a8, .int 0, .int 0, .int 0, .int (-1)])), (a1, .inl (cC1, 8, .inr (.inr (.inr (.inr f0))))), (d0, .inr (2, [.ref q1, .ref q2, .int 0, .int 0, .int (nI k), .ref q3, .int 0, .null])), (q1, .inl (cB1, 4, .inr (.inr (.inr (.inr g1))))), (q4, .inr (8, [.int (nI k), .int 0, .ref q5, .int 0, .int 0, .int 0, .int 0])), (q5, .inl (cB5, 3, .inl (fun _ => 0))), (y0, .inr (12, [.ref m0, .ref m1, .ref m2, .ref m3, .ref m4, .int 0, .ref m6, .ref m7, .ref m8, .ref m9, .ref m10, .ref m11, .ref m12, .ref m13, .ref m14, .ref m15, .ref m16, .ref m17, .ref m18, .ref m19, .int 0, .int 0, .int 0, .int (-1), .int 0, .int 0, .ref m26, .ref m27, .ref m28, .ref m29, .ref m30, .ref m31, .ref m32, .ref m33, .ref m34, .ref m35, .ref m36, .ref m37, .ref m38, .ref m39, .int 0, .int 0, .ref m42, .ref m43, .ref m44, .ref m45, .ref m46, .ref m47, .int 0, .int 0, .int 0, .int 0, .int (-1), .ref m53, .ref m54, .ref m55, .ref m56, .ref m57, .ref m58, .ref m59, .ref m60, .ref m61, .ref m62, .int 0, .ref m64, .ref m65, .ref m66, .ref m67, .ref m68, .ref m69, .ref m70, .ref m71, .ref m72, .ref m73, .int 0, .ref m75, .int 0])), (m7, .inl (cM7, 8, .inl (fun _ => 0))), (m8, .inl (cM8, 32, .inl (fun _ => 0))), (m9, .inl (cM9, 96, .inl (fun _ => 0)))]) (hS : va_S A s.heap H locs) (hl : lv_has ls 7 [(4, .int 0), (3, .ref o3), (2, .ref y0), (1, .ref x0), (0, .ref b)]) : W p l e room_1 s m #[Value.ref b] below meth c H locs 724 35019 (lw_Z below #[Value.ref b] s) (F0 m 153 ls []) := by
  obtain ⟨hx, hb, hr, hml, hown, hts, hX, hbl, hlocks, hgv⟩ := C0
  have hown : s.vm.findClass RL = some m.cls := hown
  have htb := fun (w : Cond) (h : w ∈ tb) => hts w (tb_in w h)
  refine lv_aload_n hx hb dL_law_153 rfl (lv_at hl 3 rfl) ?_
  refine lv_aload_n hx hb dL_law_154 rfl (lv_at hl 4 rfl) ?_
  refine lv_iload hx hb dL_law_155 (lv_at hl 0 rfl) ?_
  refine lv_iconst (v := 1) hx hb dL_law_157 (by decide) ?_
  refine lv_iadd hx hb dL_law_158 ?_
  refine lv_topi (fun z_1 ez_1 => ?_)
  obtain rfl : z_1 = 1 := ez_1.trans (by decide)
  refine va_sld hx hb hX hbl hbA hS (by unfold vp_in; decide) dL_law_159 ?_
  refine lv_topi (fun z_2 ez_2 => ?_)
  obtain rfl : z_2 = xs 1 := ez_2
  refine lv_aload_n hx hb dL_law_160 rfl (lv_at hl 4 rfl) ?_
  refine lv_iload hx hb dL_law_161 (lv_at hl 0 rfl) ?_
  refine lv_iconst (v := 2) hx hb dL_law_163 (by decide) ?_
  refine lv_iadd hx hb dL_law_164 ?_
  refine lv_topi (fun z_3 ez_3 => ?_)
  obtain rfl : z_3 = 2 := ez_3.trans (by decide)
  refine va_sld hx hb hX hbl hbA hS (by unfold vp_in; decide) dL_law_165 ?_
  refine lv_topi (fun z_4 ez_4 => ?_)
  obtain rfl : z_4 = xs 2 := ez_4
  refine lv_aload_n hx hb dL_law_166 rfl (lv_at hl 4 rfl) ?_
  refine lv_iload hx hb dL_law_167 (lv_at hl 0 rfl) ?_
  refine lv_iconst (v := 3) hx hb dL_law_169 (by decide) ?_
  refine lv_iadd hx hb dL_law_170 ?_
  refine lv_topi (fun z_5 ez_5 => ?_)
  obtain rfl : z_5 = 3 := ez_5.trans (by decide)
  refine va_sld hx hb hX hbl hbA hS (by unfold vp_in; decide) dL_law_171 ?_
  refine lv_topi (fun z_6 ez_6 => ?_)
  obtain rfl : z_6 = xs 3 := ez_6
  refine lv_aload_n hx hb dL_law_172 rfl (lv_at hl 4 rfl) ?_
  refine lv_iload hx hb dL_law_173 (lv_at hl 0 rfl) ?_
  refine lv_iconst (v := 4) hx hb dL_law_175 (by decide) ?_
  refine lv_iadd hx hb dL_law_176 ?_
  refine lv_topi (fun z_7 ez_7 => ?_)
  obtain rfl : z_7 = 4 := ez_7.trans (by decide)
  refine va_sld hx hb hX hbl hbA hS (by unfold vp_in; decide) dL_law_177 ?_
  refine lv_topi (fun z_8 ez_8 => ?_)
  obtain rfl : z_8 = xs 4 := ez_8
  refine lv_aload_n hx hb dL_law_178 rfl (lv_at hl 4 rfl) ?_
  refine lv_iload hx hb dL_law_179 (lv_at hl 0 rfl) ?_
  refine lv_iconst (v := 5) hx hb dL_law_181 (by decide) ?_
  refine lv_iadd hx hb dL_law_182 ?_
  refine lv_topi (fun z_9 ez_9 => ?_)
  obtain rfl : z_9 = 5 := ez_9.trans (by decide)
  refine va_sld hx hb hX hbl hbA hS (by unfold vp_in; decide) dL_law_183 ?_
  refine lv_topi (fun z_10 ez_10 => ?_)
  obtain rfl : z_10 = xs 5 := ez_10
  have hPc := hP.sub (ws' := [(x0, .inr (11, [.ref a1, .ref a2, .ref a3, .ref a4, .ref a5, .ref a6, .ref a7, .ref a8, .int 0, .int 0, .int 0, .int (-1)])), (a1, .inl (cC1, 8, .inr (.inr (.inr (.inr f0))))), (d0, .inr (2, [.ref q1, .ref q2, .int 0, .int 0, .int (nI k), .ref q3, .int 0, .null])), (q1, .inl (cB1, 4, .inr (.inr (.inr (.inr g1))))), (q4, .inr (8, [.int (nI k), .int 0, .ref q5, .int 0, .int 0, .int 0, .int 0])), (q5, .inl (cB5, 3, .inl (fun _ => 0)))]) [0, 1, 2, 3, 4, 5] rfl
  have hDc := hD.sub (ws' := [(x0, .inr (11, [.ref a1, .ref a2, .ref a3, .ref a4, .ref a5, .ref a6, .ref a7, .ref a8, .int 0, .int 0, .int 0, .int (-1)])), (a1, .inl (cC1, 8, .inr (.inr (.inr (.inr f0))))), (d0, .inr (2, [.ref q1, .ref q2, .int 0, .int 0, .int (nI k), .ref q3, .int 0, .null])), (q1, .inl (cB1, 4, .inr (.inr (.inr (.inr g1))))), (q4, .inr (8, [.int (nI k), .int 0, .ref q5, .int 0, .int 0, .int 0, .int 0])), (q5, .inl (cB5, 3, .inl (fun _ => 0)))]) [0, 1, 2, 3, 4, 5] (by decide) rfl
  have hKc := hK.sub (tys' := [(cC1, .object RX2), (cB1, .object RX8), (cB5, .int)]) [0, 1, 2] rfl
  have hFc := va_free (wc := [(x0, .inr (11, [.ref a1, .ref a2, .ref a3, .ref a4, .ref a5, .ref a6, .ref a7, .ref a8, .int 0, .int 0, .int 0, .int (-1)])), (a1, .inl (cC1, 8, .inr (.inr (.inr (.inr f0))))), (d0, .inr (2, [.ref q1, .ref q2, .int 0, .int 0, .int (nI k), .ref q3, .int 0, .null])), (q1, .inl (cB1, 4, .inr (.inr (.inr (.inr g1))))), (q4, .inr (8, [.int (nI k), .int 0, .ref q5, .int 0, .int 0, .int 0, .int 0])), (q5, .inl (cB5, 3, .inl (fun _ => 0)))]) hD hS hA [0, 1, 2, 3, 4, 5] rfl
  refine va_calli (va_runV (As := [.int (xs 1), .int (xs 2), .int (xs 3), .int (xs 4), .int (xs 5)]) (rest := []) ⟨hx, hb, hml, hown, htb⟩ (c_X12_constructor l dC dI H.size x0 (xs 1) (xs 2) (xs 3) (xs 4) (xs 5) a1 a2 a3 a4 a5 a6 a7 a8 cC1 f0 d0 q1 q2 (nI k) q3 cB1 g1 q4 q5 cB5 hf0 hg1) (cwV 5 htb (gd_V kw_409 kw_410 kw_411 kw_49 kw_589) rfl rfl rfl (by decide +kernel) ⟨Nat.le_of_ble_eq_true rfl, Nat.le_of_ble_eq_true rfl⟩) ⟨fun a U g mk q => by obtain ⟨q0, q1, qP, qK, qD⟩ := q; exact ⟨q0, q1, qP, va_K.moved (u := U) (U := U.calling g mk a) (Vm.Alike.refl U.vm) qK, qD⟩, va_recv hKc hPc (ci := 11) (q0 := 0) rfl rfl, fun U hU hW => ⟨rfl, by rw [hU], by rw [hU]; exact hPc, va_K.moved hW.alike hKc, hDc.weaken (fun _ _ _ _ => trivial)⟩⟩ rfl rfl hl.1 rfl (lv_room (Nat.le_of_ble_eq_true rfl)) dL_law_184 ⟨(Nat.le_of_ble_eq_true rfl), (Nat.le_of_ble_eq_true rfl)⟩) hS (fun q _ h => hFc q h) hFc (fun r u t H1 locs ht hvm hw hB hz1 hk1 hS => ?_)
  subst hw
  obtain ⟨hP1, hK1, hD1⟩ := hB
  rw [ht] at hP1
  have hK1 := va_K.moved hvm.symm hK1
  obtain ⟨hP, hD⟩ := va_join (wr := [(y0, .inr (12, [.ref m0, .ref m1, .ref m2, .ref m3, .ref m4, .int 0, .ref m6, .ref m7, .ref m8, .ref m9, .ref m10, .ref m11, .ref m12, .ref m13, .ref m14, .ref m15, .ref m16, .ref m17, .ref m18, .ref m19, .int 0, .int 0, .int 0, .int (-1), .int 0, .int 0, .ref m26, .ref m27, .ref m28, .ref m29, .ref m30, .ref m31, .ref m32, .ref m33, .ref m34, .ref m35, .ref m36, .ref m37, .ref m38, .ref m39, .int 0, .int 0, .ref m42, .ref m43, .ref m44, .ref m45, .ref m46, .ref m47, .int 0, .int 0, .int 0, .int 0, .int (-1), .ref m53, .ref m54, .ref m55, .ref m56, .ref m57, .ref m58, .ref m59, .ref m60, .ref m61, .ref m62, .int 0, .ref m64, .ref m65, .ref m66, .ref m67, .ref m68, .ref m69, .ref m70, .ref m71, .ref m72, .ref m73, .int 0, .ref m75, .int 0])), (m7, .inl (cM7, 8, .inl (fun _ => 0))), (m8, .inl (cM8, 32, .inl (fun _ => 0))), (m9, .inl (cM9, 96, .inl (fun _ => 0)))]) (w1 := []) hP hD [0, 1, 2, 3, 4, 5] [6, 7, 8, 9] rfl rfl (by decide) (by decide) hk1 hFc hP1 hD1
  have hK := hK.app hK1
  generalize H1 = H at hP hS ⊢
  have hP : va_P (dC, dI) vwCl [(y0, .inr (12, [.ref m0, .ref m1, .ref m2, .ref m3, .ref m4, .int 0, .ref m6, .ref m7, .ref m8, .ref m9, .ref m10, .ref m11, .ref m12, .ref m13, .ref m14, .ref m15, .ref m16, .ref m17, .ref m18, .ref m19, .int 0, .int 0, .int 0, .int (-1), .int 0, .int 0, .ref m26, .ref m27, .ref m28, .ref m29, .ref m30, .ref m31, .ref m32, .ref m33, .ref m34, .ref m35, .ref m36, .ref m37, .ref m38, .ref m39, .int 0, .int 0, .ref m42, .ref m43, .ref m44, .ref m45, .ref m46, .ref m47, .int 0, .int 0, .int 0, .int 0, .int (-1), .ref m53, .ref m54, .ref m55, .ref m56, .ref m57, .ref m58, .ref m59, .ref m60, .ref m61, .ref m62, .int 0, .ref m64, .ref m65, .ref m66, .ref m67, .ref m68, .ref m69, .ref m70, .ref m71, .ref m72, .ref m73, .int 0, .ref m75, .int 0])), (m7, .inl (cM7, 8, .inl (fun _ => 0))), (m8, .inl (cM8, 32, .inl (fun _ => 0))), (m9, .inl (cM9, 96, .inl (fun _ => 0)))] H := hP
  have hD : va_D A [(y0, .inr (12, [.ref m0, .ref m1, .ref m2, .ref m3, .ref m4, .int 0, .ref m6, .ref m7, .ref m8, .ref m9, .ref m10, .ref m11, .ref m12, .ref m13, .ref m14, .ref m15, .ref m16, .ref m17, .ref m18, .ref m19, .int 0, .int 0, .int 0, .int (-1), .int 0, .int 0, .ref m26, .ref m27, .ref m28, .ref m29, .ref m30, .ref m31, .ref m32, .ref m33, .ref m34, .ref m35, .ref m36, .ref m37, .ref m38, .ref m39, .int 0, .int 0, .ref m42, .ref m43, .ref m44, .ref m45, .ref m46, .ref m47, .int 0, .int 0, .int 0, .int 0, .int (-1), .ref m53, .ref m54, .ref m55, .ref m56, .ref m57, .ref m58, .ref m59, .ref m60, .ref m61, .ref m62, .int 0, .ref m64, .ref m65, .ref m66, .ref m67, .ref m68, .ref m69, .ref m70, .ref m71, .ref m72, .ref m73, .int 0, .ref m75, .int 0])), (m7, .inl (cM7, 8, .inl (fun _ => 0))), (m8, .inl (cM8, 32, .inl (fun _ => 0))), (m9, .inl (cM9, 96, .inl (fun _ => 0)))] := hD
  have hK : va_K (dC, dI) vwCl [(cC1, .object RX2), (cB1, .object RX8), (cB5, .int), (cM7, .int), (cM8, .int), (cM9, .int)] s := hK
  refine W.widen (k := 724) (n := 35019) (Nat.le_of_ble_eq_true rfl) (Nat.le_of_ble_eq_true rfl) ?_
  refine lv_aload_n hx hb dL_law_187 rfl (lv_at hl 2 rfl) ?_
  refine lv_aload_n hx hb dL_law_188 rfl (lv_at hl 4 rfl) ?_
  refine lv_iload hx hb dL_law_189 (lv_at hl 0 rfl) ?_
  refine lv_iconst (v := 1) hx hb dL_law_191 (by decide) ?_
  refine lv_iadd hx hb dL_law_192 ?_
  refine lv_topi (fun z_11 ez_11 => ?_)
  obtain rfl : z_11 = 1 := ez_11.trans (by decide)
  refine va_sld hx hb hX hbl hbA hS (by unfold vp_in; decide) dL_law_193 ?_
  refine lv_topi (fun z_12 ez_12 => ?_)
  obtain rfl : z_12 = xs 1 := ez_12
  refine lv_aload_n hx hb dL_law_194 rfl (lv_at hl 4 rfl) ?_
  refine lv_iload hx hb dL_law_195 (lv_at hl 0 rfl) ?_
  refine lv_iconst (v := 2) hx hb dL_law_197 (by decide) ?_
  refine lv_iadd hx hb dL_law_198 ?_
  refine lv_topi (fun z_13 ez_13 => ?_)
  obtain rfl : z_13 = 2 := ez_13.trans (by decide)
  refine va_sld hx hb hX hbl hbA hS (by unfold vp_in; decide) dL_law_199 ?_
  refine lv_topi (fun z_14 ez_14 => ?_)
  obtain rfl : z_14 = xs 2 := ez_14
  refine lv_aload_n hx hb dL_law_200 rfl (lv_at hl 4 rfl) ?_
  refine lv_iload hx hb dL_law_201 (lv_at hl 0 rfl) ?_
  refine lv_iconst (v := 3) hx hb dL_law_203 (by decide) ?_
  refine lv_iadd hx hb dL_law_204 ?_
  refine lv_topi (fun z_15 ez_15 => ?_)
  obtain rfl : z_15 = 3 := ez_15.trans (by decide)
  refine va_sld hx hb hX hbl hbA hS (by unfold vp_in; decide) dL_law_205 ?_
  refine lv_topi (fun z_16 ez_16 => ?_)
  obtain rfl : z_16 = xs 3 := ez_16
  refine lv_aload_n hx hb dL_law_206 rfl (lv_at hl 4 rfl) ?_
  refine lv_iload hx hb dL_law_207 (lv_at hl 0 rfl) ?_
  refine lv_iconst (v := 4) hx hb dL_law_209 (by decide) ?_
  refine lv_iadd hx hb dL_law_210 ?_
  refine lv_topi (fun z_17 ez_17 => ?_)
  obtain rfl : z_17 = 4 := ez_17.trans (by decide)
  refine va_sld hx hb hX hbl hbA hS (by unfold vp_in; decide) dL_law_211 ?_
  refine lv_topi (fun z_18 ez_18 => ?_)
  obtain rfl : z_18 = xs 4 := ez_18
  refine lv_aload_n hx hb dL_law_212 rfl (lv_at hl 4 rfl) ?_
  refine lv_iload hx hb dL_law_213 (lv_at hl 0 rfl) ?_
  refine lv_iconst (v := 5) hx hb dL_law_215 (by decide) ?_
  refine lv_iadd hx hb dL_law_216 ?_
  refine lv_topi (fun z_19 ez_19 => ?_)
  obtain rfl : z_19 = 5 := ez_19.trans (by decide)
  refine va_sld hx hb hX hbl hbA hS (by unfold vp_in; decide) dL_law_217 ?_
  refine lv_topi (fun z_20 ez_20 => ?_)
  obtain rfl : z_20 = xs 5 := ez_20
  have hPc := hP.sub (ws' := [(y0, .inr (12, [.ref m0, .ref m1, .ref m2, .ref m3, .ref m4, .int 0, .ref m6, .ref m7, .ref m8, .ref m9, .ref m10, .ref m11, .ref m12, .ref m13, .ref m14, .ref m15, .ref m16, .ref m17, .ref m18, .ref m19, .int 0, .int 0, .int 0, .int (-1), .int 0, .int 0, .ref m26, .ref m27, .ref m28, .ref m29, .ref m30, .ref m31, .ref m32, .ref m33, .ref m34, .ref m35, .ref m36, .ref m37, .ref m38, .ref m39, .int 0, .int 0, .ref m42, .ref m43, .ref m44, .ref m45, .ref m46, .ref m47, .int 0, .int 0, .int 0, .int 0, .int (-1), .ref m53, .ref m54, .ref m55, .ref m56, .ref m57, .ref m58, .ref m59, .ref m60, .ref m61, .ref m62, .int 0, .ref m64, .ref m65, .ref m66, .ref m67, .ref m68, .ref m69, .ref m70, .ref m71, .ref m72, .ref m73, .int 0, .ref m75, .int 0])), (m7, .inl (cM7, 8, .inl (fun _ => 0))), (m8, .inl (cM8, 32, .inl (fun _ => 0))), (m9, .inl (cM9, 96, .inl (fun _ => 0)))]) [0, 1, 2, 3] rfl
  have hDc := hD.sub (ws' := [(y0, .inr (12, [.ref m0, .ref m1, .ref m2, .ref m3, .ref m4, .int 0, .ref m6, .ref m7, .ref m8, .ref m9, .ref m10, .ref m11, .ref m12, .ref m13, .ref m14, .ref m15, .ref m16, .ref m17, .ref m18, .ref m19, .int 0, .int 0, .int 0, .int (-1), .int 0, .int 0, .ref m26, .ref m27, .ref m28, .ref m29, .ref m30, .ref m31, .ref m32, .ref m33, .ref m34, .ref m35, .ref m36, .ref m37, .ref m38, .ref m39, .int 0, .int 0, .ref m42, .ref m43, .ref m44, .ref m45, .ref m46, .ref m47, .int 0, .int 0, .int 0, .int 0, .int (-1), .ref m53, .ref m54, .ref m55, .ref m56, .ref m57, .ref m58, .ref m59, .ref m60, .ref m61, .ref m62, .int 0, .ref m64, .ref m65, .ref m66, .ref m67, .ref m68, .ref m69, .ref m70, .ref m71, .ref m72, .ref m73, .int 0, .ref m75, .int 0])), (m7, .inl (cM7, 8, .inl (fun _ => 0))), (m8, .inl (cM8, 32, .inl (fun _ => 0))), (m9, .inl (cM9, 96, .inl (fun _ => 0)))]) [0, 1, 2, 3] (by decide) rfl
  have hKc := hK.sub (tys' := [(cM7, .int), (cM8, .int), (cM9, .int)]) [3, 4, 5] rfl
  have hFc := va_free (wc := [(y0, .inr (12, [.ref m0, .ref m1, .ref m2, .ref m3, .ref m4, .int 0, .ref m6, .ref m7, .ref m8, .ref m9, .ref m10, .ref m11, .ref m12, .ref m13, .ref m14, .ref m15, .ref m16, .ref m17, .ref m18, .ref m19, .int 0, .int 0, .int 0, .int (-1), .int 0, .int 0, .ref m26, .ref m27, .ref m28, .ref m29, .ref m30, .ref m31, .ref m32, .ref m33, .ref m34, .ref m35, .ref m36, .ref m37, .ref m38, .ref m39, .int 0, .int 0, .ref m42, .ref m43, .ref m44, .ref m45, .ref m46, .ref m47, .int 0, .int 0, .int 0, .int 0, .int (-1), .ref m53, .ref m54, .ref m55, .ref m56, .ref m57, .ref m58, .ref m59, .ref m60, .ref m61, .ref m62, .int 0, .ref m64, .ref m65, .ref m66, .ref m67, .ref m68, .ref m69, .ref m70, .ref m71, .ref m72, .ref m73, .int 0, .ref m75, .int 0])), (m7, .inl (cM7, 8, .inl (fun _ => 0))), (m8, .inl (cM8, 32, .inl (fun _ => 0))), (m9, .inl (cM9, 96, .inl (fun _ => 0)))]) hD hS hA [0, 1, 2, 3] rfl
  refine va_calli (va_runV (As := [.int (xs 1), .int (xs 2), .int (xs 3), .int (xs 4), .int (xs 5)]) (rest := [.int (zCon (xs 1) (xs 2) (xs 3) (xs 4) (xs 5))]) ⟨hx, hb, hml, hown, htb⟩ (c_X13_constructor l dC dI H.size y0 (xs 1) (xs 2) (xs 3) (xs 4) (xs 5) m0 m1 m2 m3 m4 m6 m7 m8 m9 m10 m11 m12 m13 m14 m15 m16 m17 m18 m19 m26 m27 m28 m29 m30 m31 m32 m33 m34 m35 m36 m37 m38 m39 m42 m43 m44 m45 m46 m47 m53 m54 m55 m56 m57 m58 m59 m60 m61 m62 m64 m65 m66 m67 m68 m69 m70 m71 m72 m73 m75 cM7 cM8 cM9) (cwV 5 htb (gd_V kw_412 kw_413 kw_414 kw_345 kw_590) rfl rfl rfl (by decide +kernel) ⟨Nat.le_of_ble_eq_true rfl, Nat.le_of_ble_eq_true rfl⟩) ⟨fun a U g mk q => by obtain ⟨q0, q1, qP, qK, qD⟩ := q; exact ⟨q0, q1, qP, va_K.moved (u := U) (U := U.calling g mk a) (Vm.Alike.refl U.vm) qK, qD⟩, va_recv hKc hPc (ci := 12) (q0 := 0) rfl rfl, fun U hU hW => ⟨rfl, by rw [hU], by rw [hU]; exact hPc, va_K.moved hW.alike hKc, hDc.weaken (fun _ _ _ _ => trivial)⟩⟩ rfl rfl hl.1 rfl (lv_room (Nat.le_of_ble_eq_true rfl)) dL_law_218 ⟨(Nat.le_of_ble_eq_true rfl), (Nat.le_of_ble_eq_true rfl)⟩) hS (fun q _ h => hFc q h) hFc (fun r u t H1 locs ht hvm hw hB hz1 hk1 hS => ?_)
  subst hw
  obtain ⟨hP1, hK1, hD1⟩ := hB
  rw [ht] at hP1
  have hK1 := va_K.moved hvm.symm hK1
  obtain ⟨hP, hD⟩ := va_join (wr := []) (w1 := []) hP hD [0, 1, 2, 3] [] rfl rfl (by decide) (by decide) hk1 hFc hP1 hD1
  have hK := hK.app hK1
  generalize H1 = H at hP hS ⊢
  have hP : va_P (dC, dI) vwCl [] H := hP
  have hD : va_D A [] := hD
  have hK : va_K (dC, dI) vwCl [(cC1, .object RX2), (cB1, .object RX8), (cB5, .int), (cM7, .int), (cM8, .int), (cM9, .int)] s := hK
  refine W.widen (k := 724) (n := 35019) (Nat.le_of_ble_eq_true rfl) (Nat.le_of_ble_eq_true rfl) ?_
  refine lv_icmp_eq (tgt := 885) hx hb dL_law_221 (by decide) (fun _ => ?_) (fun c_21 => absurd rfl c_21)
  refine lv_iinc (v := 9) (lv' := [(4, .int 9), (3, .ref o3), (2, .ref y0), (1, .ref x0), (0, .ref b)]) hx hb dL_law_885 hl (k := 0) rfl (by decide) (by decide) rfl (fun ls hl => ?_)
  refine lv_goto (tgt := 23) hx hb dL_law_888 (by decide) ?_
  refine lv_iload hx hb dL_law_23 (lv_at hl 0 rfl) ?_
  refine lv_aload_n hx hb dL_law_25 rfl (lv_at hl 4 rfl) ?_
  refine va_slen hx hb hX hbl hbA hS dL_law_26 ?_
  refine lv_topi (fun z_22 ez_22 => ?_)
  obtain rfl : z_22 = 9 := ez_22.trans (by decide)
  refine lv_bipush (v := 9) hx hb dL_law_27 (by decide) ?_
  refine lv_isub hx hb dL_law_29 ?_
  refine lv_topi (fun z_23 ez_23 => ?_)
  obtain rfl : z_23 = 0 := ez_23.trans (by decide)
  refine lv_icmp_gt (tgt := 891) hx hb dL_law_30 (by decide) (fun _ => ?_) (fun c_24 => absurd (by decide) c_24)
  refine lv_iconst (v := 1) hx hb dL_law_891 (by decide) ?_
  refine va_forget (fun q hq => hAi _ (hS.2.2 q hq)) ?_
  refine W.widen (k := 600002) (n := 7302232) (Nat.le_of_ble_eq_true rfl) (Nat.le_of_ble_eq_true rfl) ?_
  exact lw_ret hx hb hr hlocks dL_law_892

set_option maxHeartbeats 4000000 in
set_option maxRecDepth 100000 in
theorem law_case_2 {p : Program} {l : Launch} {e : Env} {s : State} {m : MethodId} {below : List Frame} {meth : Method} {c : Code} {b : Nat} {xs : Nat → Int32} {dC : Nat → ClassId} {dI : Nat → Nat → Nat} {A : Nat → Prop} (hl9 : l.stackTraces = false) (C0 : lw_At p s m meth c b 9 xs) (hA : ∀ q : Nat, s.heap.size ≤ q → A q) (hAi : ∀ q : Nat, A q → s.heap.size ≤ q) (hbA : ¬ A b) (hG : GE A s) (x0 : Nat) (a1 : Nat) (a2 : Nat) (a3 : Nat) (a4 : Nat) (a5 : Nat) (a6 : Nat) (a7 : Nat) (a8 : Nat) (cC1 : ClassId) (f0 : Nat → Option Nat) (d0 : Nat) (q1 : Nat) (q2 : Nat) (k : Nat) (q3 : Nat) (cB3 : ClassId) (g3 : Nat → Int32) (y0 : Nat) (m0 : Nat) (m1 : Nat) (m2 : Nat) (m3 : Nat) (m4 : Nat) (m6 : Nat) (m7 : Nat) (m8 : Nat) (m9 : Nat) (m10 : Nat) (m11 : Nat) (m12 : Nat) (m13 : Nat) (m14 : Nat) (m15 : Nat) (m16 : Nat) (m17 : Nat) (m18 : Nat) (m19 : Nat) (m26 : Nat) (m27 : Nat) (m28 : Nat) (m29 : Nat) (m30 : Nat) (m31 : Nat) (m32 : Nat) (m33 : Nat) (m34 : Nat) (m35 : Nat) (m36 : Nat) (m37 : Nat) (m38 : Nat) (m39 : Nat) (m42 : Nat) (m43 : Nat) (m44 : Nat) (m45 : Nat) (m46 : Nat) (m47 : Nat) (m53 : Nat) (m54 : Nat) (m55 : Nat) (m56 : Nat) (m57 : Nat) (m58 : Nat) (m59 : Nat) (m60 : Nat) (m61 : Nat) (m62 : Nat) (m64 : Nat) (m65 : Nat) (m66 : Nat) (m67 : Nat) (m68 : Nat) (m69 : Nat) (m70 : Nat) (m71 : Nat) (m72 : Nat) (m73 : Nat) (m75 : Nat) (cM10 : ClassId) (cM11 : ClassId) (cM12 : ClassId) (o3 : Nat) (hf0 : ¬ zCls (xs 1) = 0 → f0 ((xs 1) : Int32).toNatClampNeg = some d0) (hg3 : (∀ j, j < 26 → g3 j = -1)) (H : Heap) (locs : List Loc) (ls : Array Slot) (hK : va_K (dC, dI) vwCl [(cC1, .object RX2), (cB3, .int), (cM10, .int), (cM11, .int), (cM12, .int)] s) (hP : va_P (dC, dI) vwCl [(x0, .inr (11, [.ref a1, .ref a2, .ref a3, .ref a4, .ref a5, .ref a6, .ref a7, .ref a8, .int 0, .int 0, .int 0, .int (-1)])), (a1, .inl (cC1, 8, .inr (.inr (.inr (.inr f0))))), (d0, .inr (2, [.ref q1, .ref q2, .int 0, .int 0, .int (nI k), .ref q3, .int 0, .null])), (q3, .inl (cB3, 26, .inl g3)), (y0, .inr (12, [.ref m0, .ref m1, .ref m2, .ref m3, .ref m4, .int 0, .ref m6, .ref m7, .ref m8, .ref m9, .ref m10, .ref m11, .ref m12, .ref m13, .ref m14, .ref m15, .ref m16, .ref m17, .ref m18, .ref m19, .int 0, .int 0, .int 0, .int (-1), .int 0, .int 0, .ref m26, .ref m27, .ref m28, .ref m29, .ref m30, .ref m31, .ref m32, .ref m33, .ref m34, .ref m35, .ref m36, .ref m37, .ref m38, .ref m39, .int 0, .int 0, .ref m42, .ref m43, .ref m44, .ref m45, .ref m46, .ref m47, .int 0, .int 0, .int 0, .int 0, .int (-1), .ref m53, .ref m54, .ref m55, .ref m56, .ref m57, .ref m58, .ref m59, .ref m60, .ref m61, .ref m62, .int 0, .ref m64, .ref m65, .ref m66, .ref m67, .ref m68, .ref m69, .ref m70, .ref m71, .ref m72, .ref m73, .int 0, .ref m75, .int 0])), (m10, .inl (cM10, 8, .inl (fun _ => 0))), (m11, .inl (cM11, 64, .inl (fun _ => 0))), (m12, .inl (cM12, 64, .inl (fun _ => 0)))] H) (hD : va_D A [(x0, .inr (11, [.ref a1, .ref a2, .ref a3, .ref a4, .ref a5, .ref a6, .ref a7, .ref a8, .int 0, .int 0, .int 0, .int (-1)])), (a1, .inl (cC1, 8, .inr (.inr (.inr (.inr f0))))), (d0, .inr (2, [.ref q1, .ref q2, .int 0, .int 0, .int (nI k), .ref q3, .int 0, .null])), (q3, .inl (cB3, 26, .inl g3)), (y0, .inr (12, [.ref m0, .ref m1, .ref m2, .ref m3, .ref m4, .int 0, .ref m6, .ref m7, .ref m8, .ref m9, .ref m10, .ref m11, .ref m12, .ref m13, .ref m14, .ref m15, .ref m16, .ref m17, .ref m18, .ref m19, .int 0, .int 0, .int 0, .int (-1), .int 0, .int 0, .ref m26, .ref m27, .ref m28, .ref m29, .ref m30, .ref m31, .ref m32, .ref m33, .ref m34, .ref m35, .ref m36, .ref m37, .ref m38, .ref m39, .int 0, .int 0, .ref m42, .ref m43, .ref m44, .ref m45, .ref m46, .ref m47, .int 0, .int 0, .int 0, .int 0, .int (-1), .ref m53, .ref m54, .ref m55, .ref m56, .ref m57, .ref m58, .ref m59, .ref m60, .ref m61, .ref m62, .int 0, .ref m64, .ref m65, .ref m66, .ref m67, .ref m68, .ref m69, .ref m70, .ref m71, .ref m72, .ref m73, .int 0, .ref m75, .int 0])), (m10, .inl (cM10, 8, .inl (fun _ => 0))), (m11, .inl (cM11, 64, .inl (fun _ => 0))), (m12, .inl (cM12, 64, .inl (fun _ => 0)))]) (hS : va_S A s.heap H locs) (hl : lv_has ls 7 [(4, .int 0), (3, .ref o3), (2, .ref y0), (1, .ref x0), (0, .ref b)]) : W p l e room_1 s m #[Value.ref b] below meth c H locs 724 35019 (lw_Z below #[Value.ref b] s) (F0 m 226 ls []) := by
  obtain ⟨hx, hb, hr, hml, hown, hts, hX, hbl, hlocks, hgv⟩ := C0
  have hown : s.vm.findClass RL = some m.cls := hown
  have htb := fun (w : Cond) (h : w ∈ tb) => hts w (tb_in w h)
  refine lv_aload_n hx hb dL_law_226 rfl (lv_at hl 3 rfl) ?_
  refine lv_aload_n hx hb dL_law_227 rfl (lv_at hl 4 rfl) ?_
  refine lv_iload hx hb dL_law_228 (lv_at hl 0 rfl) ?_
  refine lv_iconst (v := 1) hx hb dL_law_230 (by decide) ?_
  refine lv_iadd hx hb dL_law_231 ?_
  refine lv_topi (fun z_1 ez_1 => ?_)
  obtain rfl : z_1 = 1 := ez_1.trans (by decide)
  refine va_sld hx hb hX hbl hbA hS (by unfold vp_in; decide) dL_law_232 ?_
  refine lv_topi (fun z_2 ez_2 => ?_)
  obtain rfl : z_2 = xs 1 := ez_2
  refine lv_aload_n hx hb dL_law_233 rfl (lv_at hl 4 rfl) ?_
  refine lv_iload hx hb dL_law_234 (lv_at hl 0 rfl) ?_
  refine lv_iconst (v := 2) hx hb dL_law_236 (by decide) ?_
  refine lv_iadd hx hb dL_law_237 ?_
  refine lv_topi (fun z_3 ez_3 => ?_)
  obtain rfl : z_3 = 2 := ez_3.trans (by decide)
  refine va_sld hx hb hX hbl hbA hS (by unfold vp_in; decide) dL_law_238 ?_
  refine lv_topi (fun z_4 ez_4 => ?_)
  obtain rfl : z_4 = xs 2 := ez_4
  refine lv_aload_n hx hb dL_law_239 rfl (lv_at hl 4 rfl) ?_
  refine lv_iload hx hb dL_law_240 (lv_at hl 0 rfl) ?_
  refine lv_iconst (v := 3) hx hb dL_law_242 (by decide) ?_
  refine lv_iadd hx hb dL_law_243 ?_
  refine lv_topi (fun z_5 ez_5 => ?_)
  obtain rfl : z_5 = 3 := ez_5.trans (by decide)
  refine va_sld hx hb hX hbl hbA hS (by unfold vp_in; decide) dL_law_244 ?_
  refine lv_topi (fun z_6 ez_6 => ?_)
  obtain rfl : z_6 = xs 3 := ez_6
  have hPc := hP.sub (ws' := [(x0, .inr (11, [.ref a1, .ref a2, .ref a3, .ref a4, .ref a5, .ref a6, .ref a7, .ref a8, .int 0, .int 0, .int 0, .int (-1)])), (a1, .inl (cC1, 8, .inr (.inr (.inr (.inr f0))))), (d0, .inr (2, [.ref q1, .ref q2, .int 0, .int 0, .int (nI k), .ref q3, .int 0, .null])), (q3, .inl (cB3, 26, .inl g3))]) [0, 1, 2, 3] rfl
  have hDc := hD.sub (ws' := [(x0, .inr (11, [.ref a1, .ref a2, .ref a3, .ref a4, .ref a5, .ref a6, .ref a7, .ref a8, .int 0, .int 0, .int 0, .int (-1)])), (a1, .inl (cC1, 8, .inr (.inr (.inr (.inr f0))))), (d0, .inr (2, [.ref q1, .ref q2, .int 0, .int 0, .int (nI k), .ref q3, .int 0, .null])), (q3, .inl (cB3, 26, .inl g3))]) [0, 1, 2, 3] (by decide) rfl
  have hKc := hK.sub (tys' := [(cC1, .object RX2), (cB3, .int)]) [0, 1] rfl
  have hFc := va_free (wc := [(x0, .inr (11, [.ref a1, .ref a2, .ref a3, .ref a4, .ref a5, .ref a6, .ref a7, .ref a8, .int 0, .int 0, .int 0, .int (-1)])), (a1, .inl (cC1, 8, .inr (.inr (.inr (.inr f0))))), (d0, .inr (2, [.ref q1, .ref q2, .int 0, .int 0, .int (nI k), .ref q3, .int 0, .null])), (q3, .inl (cB3, 26, .inl g3))]) hD hS hA [0, 1, 2, 3] rfl
  refine va_calli (va_runV (As := [.int (xs 1), .int (xs 2), .int (xs 3)]) (rest := []) ⟨hx, hb, hml, hown, htb⟩ (c_X12_setter l dC dI H.size x0 (xs 1) (xs 2) (xs 3) a1 a2 a3 a4 a5 a6 a7 a8 cC1 f0 d0 q1 q2 (nI k) q3 cB3 g3 hf0 hg3) (cwV 3 htb (gd_V kw_415 kw_416 kw_417 kw_49 kw_591) rfl rfl rfl (by decide +kernel) ⟨Nat.le_of_ble_eq_true rfl, Nat.le_of_ble_eq_true rfl⟩) ⟨fun a U g mk q => by obtain ⟨q0, q1, qP, qK, qD⟩ := q; exact ⟨q0, q1, qP, va_K.moved (u := U) (U := U.calling g mk a) (Vm.Alike.refl U.vm) qK, qD⟩, va_recv hKc hPc (ci := 11) (q0 := 0) rfl rfl, fun U hU hW => ⟨rfl, by rw [hU], by rw [hU]; exact hPc, va_K.moved hW.alike hKc, hDc.weaken (fun _ _ _ _ => trivial)⟩⟩ rfl rfl hl.1 rfl (lv_room (Nat.le_of_ble_eq_true rfl)) dL_law_245 ⟨(Nat.le_of_ble_eq_true rfl), (Nat.le_of_ble_eq_true rfl)⟩) hS (fun q _ h => hFc q h) hFc (fun r u t H1 locs ht hvm hw hB hz1 hk1 hS => ?_)
  subst hw
  obtain ⟨hP1, hK1, hD1⟩ := hB
  rw [ht] at hP1
  have hK1 := va_K.moved hvm.symm hK1
  obtain ⟨hP, hD⟩ := va_join (wr := [(y0, .inr (12, [.ref m0, .ref m1, .ref m2, .ref m3, .ref m4, .int 0, .ref m6, .ref m7, .ref m8, .ref m9, .ref m10, .ref m11, .ref m12, .ref m13, .ref m14, .ref m15, .ref m16, .ref m17, .ref m18, .ref m19, .int 0, .int 0, .int 0, .int (-1), .int 0, .int 0, .ref m26, .ref m27, .ref m28, .ref m29, .ref m30, .ref m31, .ref m32, .ref m33, .ref m34, .ref m35, .ref m36, .ref m37, .ref m38, .ref m39, .int 0, .int 0, .ref m42, .ref m43, .ref m44, .ref m45, .ref m46, .ref m47, .int 0, .int 0, .int 0, .int 0, .int (-1), .ref m53, .ref m54, .ref m55, .ref m56, .ref m57, .ref m58, .ref m59, .ref m60, .ref m61, .ref m62, .int 0, .ref m64, .ref m65, .ref m66, .ref m67, .ref m68, .ref m69, .ref m70, .ref m71, .ref m72, .ref m73, .int 0, .ref m75, .int 0])), (m10, .inl (cM10, 8, .inl (fun _ => 0))), (m11, .inl (cM11, 64, .inl (fun _ => 0))), (m12, .inl (cM12, 64, .inl (fun _ => 0)))]) (w1 := []) hP hD [0, 1, 2, 3] [4, 5, 6, 7] rfl rfl (by decide) (by decide) hk1 hFc hP1 hD1
  have hK := hK.app hK1
  generalize H1 = H at hP hS ⊢
  have hP : va_P (dC, dI) vwCl [(y0, .inr (12, [.ref m0, .ref m1, .ref m2, .ref m3, .ref m4, .int 0, .ref m6, .ref m7, .ref m8, .ref m9, .ref m10, .ref m11, .ref m12, .ref m13, .ref m14, .ref m15, .ref m16, .ref m17, .ref m18, .ref m19, .int 0, .int 0, .int 0, .int (-1), .int 0, .int 0, .ref m26, .ref m27, .ref m28, .ref m29, .ref m30, .ref m31, .ref m32, .ref m33, .ref m34, .ref m35, .ref m36, .ref m37, .ref m38, .ref m39, .int 0, .int 0, .ref m42, .ref m43, .ref m44, .ref m45, .ref m46, .ref m47, .int 0, .int 0, .int 0, .int 0, .int (-1), .ref m53, .ref m54, .ref m55, .ref m56, .ref m57, .ref m58, .ref m59, .ref m60, .ref m61, .ref m62, .int 0, .ref m64, .ref m65, .ref m66, .ref m67, .ref m68, .ref m69, .ref m70, .ref m71, .ref m72, .ref m73, .int 0, .ref m75, .int 0])), (m10, .inl (cM10, 8, .inl (fun _ => 0))), (m11, .inl (cM11, 64, .inl (fun _ => 0))), (m12, .inl (cM12, 64, .inl (fun _ => 0)))] H := hP
  have hD : va_D A [(y0, .inr (12, [.ref m0, .ref m1, .ref m2, .ref m3, .ref m4, .int 0, .ref m6, .ref m7, .ref m8, .ref m9, .ref m10, .ref m11, .ref m12, .ref m13, .ref m14, .ref m15, .ref m16, .ref m17, .ref m18, .ref m19, .int 0, .int 0, .int 0, .int (-1), .int 0, .int 0, .ref m26, .ref m27, .ref m28, .ref m29, .ref m30, .ref m31, .ref m32, .ref m33, .ref m34, .ref m35, .ref m36, .ref m37, .ref m38, .ref m39, .int 0, .int 0, .ref m42, .ref m43, .ref m44, .ref m45, .ref m46, .ref m47, .int 0, .int 0, .int 0, .int 0, .int (-1), .ref m53, .ref m54, .ref m55, .ref m56, .ref m57, .ref m58, .ref m59, .ref m60, .ref m61, .ref m62, .int 0, .ref m64, .ref m65, .ref m66, .ref m67, .ref m68, .ref m69, .ref m70, .ref m71, .ref m72, .ref m73, .int 0, .ref m75, .int 0])), (m10, .inl (cM10, 8, .inl (fun _ => 0))), (m11, .inl (cM11, 64, .inl (fun _ => 0))), (m12, .inl (cM12, 64, .inl (fun _ => 0)))] := hD
  have hK : va_K (dC, dI) vwCl [(cC1, .object RX2), (cB3, .int), (cM10, .int), (cM11, .int), (cM12, .int)] s := hK
  refine W.widen (k := 724) (n := 35019) (Nat.le_of_ble_eq_true rfl) (Nat.le_of_ble_eq_true rfl) ?_
  refine lv_aload_n hx hb dL_law_248 rfl (lv_at hl 2 rfl) ?_
  refine lv_aload_n hx hb dL_law_249 rfl (lv_at hl 4 rfl) ?_
  refine lv_iload hx hb dL_law_250 (lv_at hl 0 rfl) ?_
  refine lv_iconst (v := 1) hx hb dL_law_252 (by decide) ?_
  refine lv_iadd hx hb dL_law_253 ?_
  refine lv_topi (fun z_7 ez_7 => ?_)
  obtain rfl : z_7 = 1 := ez_7.trans (by decide)
  refine va_sld hx hb hX hbl hbA hS (by unfold vp_in; decide) dL_law_254 ?_
  refine lv_topi (fun z_8 ez_8 => ?_)
  obtain rfl : z_8 = xs 1 := ez_8
  refine lv_aload_n hx hb dL_law_255 rfl (lv_at hl 4 rfl) ?_
  refine lv_iload hx hb dL_law_256 (lv_at hl 0 rfl) ?_
  refine lv_iconst (v := 2) hx hb dL_law_258 (by decide) ?_
  refine lv_iadd hx hb dL_law_259 ?_
  refine lv_topi (fun z_9 ez_9 => ?_)
  obtain rfl : z_9 = 2 := ez_9.trans (by decide)
  refine va_sld hx hb hX hbl hbA hS (by unfold vp_in; decide) dL_law_260 ?_
  refine lv_topi (fun z_10 ez_10 => ?_)
  obtain rfl : z_10 = xs 2 := ez_10
  refine lv_aload_n hx hb dL_law_261 rfl (lv_at hl 4 rfl) ?_
  refine lv_iload hx hb dL_law_262 (lv_at hl 0 rfl) ?_
  refine lv_iconst (v := 3) hx hb dL_law_264 (by decide) ?_
  refine lv_iadd hx hb dL_law_265 ?_
  refine lv_topi (fun z_11 ez_11 => ?_)
  obtain rfl : z_11 = 3 := ez_11.trans (by decide)
  refine va_sld hx hb hX hbl hbA hS (by unfold vp_in; decide) dL_law_266 ?_
  refine lv_topi (fun z_12 ez_12 => ?_)
  obtain rfl : z_12 = xs 3 := ez_12
  have hPc := hP.sub (ws' := [(y0, .inr (12, [.ref m0, .ref m1, .ref m2, .ref m3, .ref m4, .int 0, .ref m6, .ref m7, .ref m8, .ref m9, .ref m10, .ref m11, .ref m12, .ref m13, .ref m14, .ref m15, .ref m16, .ref m17, .ref m18, .ref m19, .int 0, .int 0, .int 0, .int (-1), .int 0, .int 0, .ref m26, .ref m27, .ref m28, .ref m29, .ref m30, .ref m31, .ref m32, .ref m33, .ref m34, .ref m35, .ref m36, .ref m37, .ref m38, .ref m39, .int 0, .int 0, .ref m42, .ref m43, .ref m44, .ref m45, .ref m46, .ref m47, .int 0, .int 0, .int 0, .int 0, .int (-1), .ref m53, .ref m54, .ref m55, .ref m56, .ref m57, .ref m58, .ref m59, .ref m60, .ref m61, .ref m62, .int 0, .ref m64, .ref m65, .ref m66, .ref m67, .ref m68, .ref m69, .ref m70, .ref m71, .ref m72, .ref m73, .int 0, .ref m75, .int 0])), (m10, .inl (cM10, 8, .inl (fun _ => 0))), (m11, .inl (cM11, 64, .inl (fun _ => 0))), (m12, .inl (cM12, 64, .inl (fun _ => 0)))]) [0, 1, 2, 3] rfl
  have hDc := hD.sub (ws' := [(y0, .inr (12, [.ref m0, .ref m1, .ref m2, .ref m3, .ref m4, .int 0, .ref m6, .ref m7, .ref m8, .ref m9, .ref m10, .ref m11, .ref m12, .ref m13, .ref m14, .ref m15, .ref m16, .ref m17, .ref m18, .ref m19, .int 0, .int 0, .int 0, .int (-1), .int 0, .int 0, .ref m26, .ref m27, .ref m28, .ref m29, .ref m30, .ref m31, .ref m32, .ref m33, .ref m34, .ref m35, .ref m36, .ref m37, .ref m38, .ref m39, .int 0, .int 0, .ref m42, .ref m43, .ref m44, .ref m45, .ref m46, .ref m47, .int 0, .int 0, .int 0, .int 0, .int (-1), .ref m53, .ref m54, .ref m55, .ref m56, .ref m57, .ref m58, .ref m59, .ref m60, .ref m61, .ref m62, .int 0, .ref m64, .ref m65, .ref m66, .ref m67, .ref m68, .ref m69, .ref m70, .ref m71, .ref m72, .ref m73, .int 0, .ref m75, .int 0])), (m10, .inl (cM10, 8, .inl (fun _ => 0))), (m11, .inl (cM11, 64, .inl (fun _ => 0))), (m12, .inl (cM12, 64, .inl (fun _ => 0)))]) [0, 1, 2, 3] (by decide) rfl
  have hKc := hK.sub (tys' := [(cM10, .int), (cM11, .int), (cM12, .int)]) [2, 3, 4] rfl
  have hFc := va_free (wc := [(y0, .inr (12, [.ref m0, .ref m1, .ref m2, .ref m3, .ref m4, .int 0, .ref m6, .ref m7, .ref m8, .ref m9, .ref m10, .ref m11, .ref m12, .ref m13, .ref m14, .ref m15, .ref m16, .ref m17, .ref m18, .ref m19, .int 0, .int 0, .int 0, .int (-1), .int 0, .int 0, .ref m26, .ref m27, .ref m28, .ref m29, .ref m30, .ref m31, .ref m32, .ref m33, .ref m34, .ref m35, .ref m36, .ref m37, .ref m38, .ref m39, .int 0, .int 0, .ref m42, .ref m43, .ref m44, .ref m45, .ref m46, .ref m47, .int 0, .int 0, .int 0, .int 0, .int (-1), .ref m53, .ref m54, .ref m55, .ref m56, .ref m57, .ref m58, .ref m59, .ref m60, .ref m61, .ref m62, .int 0, .ref m64, .ref m65, .ref m66, .ref m67, .ref m68, .ref m69, .ref m70, .ref m71, .ref m72, .ref m73, .int 0, .ref m75, .int 0])), (m10, .inl (cM10, 8, .inl (fun _ => 0))), (m11, .inl (cM11, 64, .inl (fun _ => 0))), (m12, .inl (cM12, 64, .inl (fun _ => 0)))]) hD hS hA [0, 1, 2, 3] rfl
  refine va_calli (va_runV (As := [.int (xs 1), .int (xs 2), .int (xs 3)]) (rest := [.int (zSet (xs 1) (xs 2) (xs 3))]) ⟨hx, hb, hml, hown, htb⟩ (c_X13_setter l dC dI H.size y0 (xs 1) (xs 2) (xs 3) m0 m1 m2 m3 m4 m6 m7 m8 m9 m10 m11 m12 m13 m14 m15 m16 m17 m18 m19 m26 m27 m28 m29 m30 m31 m32 m33 m34 m35 m36 m37 m38 m39 m42 m43 m44 m45 m46 m47 m53 m54 m55 m56 m57 m58 m59 m60 m61 m62 m64 m65 m66 m67 m68 m69 m70 m71 m72 m73 m75 cM10 cM11 cM12) (cwV 3 htb (gd_V kw_418 kw_419 kw_420 kw_345 kw_592) rfl rfl rfl (by decide +kernel) ⟨Nat.le_of_ble_eq_true rfl, Nat.le_of_ble_eq_true rfl⟩) ⟨fun a U g mk q => by obtain ⟨q0, q1, qP, qK, qD⟩ := q; exact ⟨q0, q1, qP, va_K.moved (u := U) (U := U.calling g mk a) (Vm.Alike.refl U.vm) qK, qD⟩, va_recv hKc hPc (ci := 12) (q0 := 0) rfl rfl, fun U hU hW => ⟨rfl, by rw [hU], by rw [hU]; exact hPc, va_K.moved hW.alike hKc, hDc.weaken (fun _ _ _ _ => trivial)⟩⟩ rfl rfl hl.1 rfl (lv_room (Nat.le_of_ble_eq_true rfl)) dL_law_267 ⟨(Nat.le_of_ble_eq_true rfl), (Nat.le_of_ble_eq_true rfl)⟩) hS (fun q _ h => hFc q h) hFc (fun r u t H1 locs ht hvm hw hB hz1 hk1 hS => ?_)
  subst hw
  obtain ⟨hP1, hK1, hD1⟩ := hB
  rw [ht] at hP1
  have hK1 := va_K.moved hvm.symm hK1
  obtain ⟨hP, hD⟩ := va_join (wr := []) (w1 := []) hP hD [0, 1, 2, 3] [] rfl rfl (by decide) (by decide) hk1 hFc hP1 hD1
  have hK := hK.app hK1
  generalize H1 = H at hP hS ⊢
  have hP : va_P (dC, dI) vwCl [] H := hP
  have hD : va_D A [] := hD
  have hK : va_K (dC, dI) vwCl [(cC1, .object RX2), (cB3, .int), (cM10, .int), (cM11, .int), (cM12, .int)] s := hK
  refine W.widen (k := 724) (n := 35019) (Nat.le_of_ble_eq_true rfl) (Nat.le_of_ble_eq_true rfl) ?_
  refine lv_icmp_eq (tgt := 885) hx hb dL_law_270 (by decide) (fun _ => ?_) (fun c_13 => absurd rfl c_13)
  refine lv_iinc (v := 9) (lv' := [(4, .int 9), (3, .ref o3), (2, .ref y0), (1, .ref x0), (0, .ref b)]) hx hb dL_law_885 hl (k := 0) rfl (by decide) (by decide) rfl (fun ls hl => ?_)
  refine lv_goto (tgt := 23) hx hb dL_law_888 (by decide) ?_
  refine lv_iload hx hb dL_law_23 (lv_at hl 0 rfl) ?_
  refine lv_aload_n hx hb dL_law_25 rfl (lv_at hl 4 rfl) ?_
  refine va_slen hx hb hX hbl hbA hS dL_law_26 ?_
  refine lv_topi (fun z_14 ez_14 => ?_)
  obtain rfl : z_14 = 9 := ez_14.trans (by decide)
  refine lv_bipush (v := 9) hx hb dL_law_27 (by decide) ?_
  refine lv_isub hx hb dL_law_29 ?_
  refine lv_topi (fun z_15 ez_15 => ?_)
  obtain rfl : z_15 = 0 := ez_15.trans (by decide)
  refine lv_icmp_gt (tgt := 891) hx hb dL_law_30 (by decide) (fun _ => ?_) (fun c_16 => absurd (by decide) c_16)
  refine lv_iconst (v := 1) hx hb dL_law_891 (by decide) ?_
  refine va_forget (fun q hq => hAi _ (hS.2.2 q hq)) ?_
  refine W.widen (k := 600002) (n := 7302232) (Nat.le_of_ble_eq_true rfl) (Nat.le_of_ble_eq_true rfl) ?_
  exact lw_ret hx hb hr hlocks dL_law_892

set_option maxHeartbeats 4000000 in
set_option maxRecDepth 100000 in
theorem law_case_3 {p : Program} {l : Launch} {e : Env} {s : State} {m : MethodId} {below : List Frame} {meth : Method} {c : Code} {b : Nat} {xs : Nat → Int32} {dC : Nat → ClassId} {dI : Nat → Nat → Nat} {A : Nat → Prop} (hl9 : l.stackTraces = false) (C0 : lw_At p s m meth c b 9 xs) (hA : ∀ q : Nat, s.heap.size ≤ q → A q) (hAi : ∀ q : Nat, A q → s.heap.size ≤ q) (hbA : ¬ A b) (hG : GE A s) (x0 : Nat) (a1 : Nat) (a2 : Nat) (a3 : Nat) (a4 : Nat) (a5 : Nat) (a6 : Nat) (a7 : Nat) (a8 : Nat) (cC1 : ClassId) (f0 : Nat → Option Nat) (d0 : Nat) (q1 : Nat) (q2 : Nat) (k : Nat) (q3 : Nat) (cB2 : ClassId) (g2 : Nat → Option Nat) (q6 : Nat) (q7 : Nat) (cB7 : ClassId) (y0 : Nat) (m0 : Nat) (m1 : Nat) (m2 : Nat) (m3 : Nat) (m4 : Nat) (m6 : Nat) (m7 : Nat) (m8 : Nat) (m9 : Nat) (m10 : Nat) (m11 : Nat) (m12 : Nat) (m13 : Nat) (m14 : Nat) (m15 : Nat) (m16 : Nat) (m17 : Nat) (m18 : Nat) (m19 : Nat) (m26 : Nat) (m27 : Nat) (m28 : Nat) (m29 : Nat) (m30 : Nat) (m31 : Nat) (m32 : Nat) (m33 : Nat) (m34 : Nat) (m35 : Nat) (m36 : Nat) (m37 : Nat) (m38 : Nat) (m39 : Nat) (m42 : Nat) (m43 : Nat) (m44 : Nat) (m45 : Nat) (m46 : Nat) (m47 : Nat) (m53 : Nat) (m54 : Nat) (m55 : Nat) (m56 : Nat) (m57 : Nat) (m58 : Nat) (m59 : Nat) (m60 : Nat) (m61 : Nat) (m62 : Nat) (m64 : Nat) (m65 : Nat) (m66 : Nat) (m67 : Nat) (m68 : Nat) (m69 : Nat) (m70 : Nat) (m71 : Nat) (m72 : Nat) (m73 : Nat) (m75 : Nat) (cM13 : ClassId) (cM14 : ClassId) (cM18 : ClassId) (cM15 : ClassId) (cM16 : ClassId) (cM17 : ClassId) (o3 : Nat) (hf0 : ¬ zCls (xs 1) = 0 → f0 ((xs 1) : Int32).toNatClampNeg = some d0) (hg2 : g2 0 = some q6) (H : Heap) (locs : List Loc) (ls : Array Slot) (hK : va_K (dC, dI) vwCl [(cC1, .object RX2), (cB2, .object RX8), (cB7, .int), (cM13, .int), (cM14, .int), (cM18, .boolean), (cM15, .int), (cM16, .int), (cM17, .int)] s) (hP : va_P (dC, dI) vwCl [(x0, .inr (11, [.ref a1, .ref a2, .ref a3, .ref a4, .ref a5, .ref a6, .ref a7, .ref a8, .int 0, .int 0, .int 0, .int (-1)])), (a1, .inl (cC1, 8, .inr (.inr (.inr (.inr f0))))), (d0, .inr (2, [.ref q1, .ref q2, .int 0, .int 0, .int (nI k), .ref q3, .int 0, .null])), (q2, .inl (cB2, 4, .inr (.inr (.inr (.inr g2))))), (q6, .inr (8, [.int (nI k), .int 0, .ref q7, .int 0, .int 0, .int 0, .int 0])), (q7, .inl (cB7, 3, .inl (fun _ => 0))), (y0, .inr (12, [.ref m0, .ref m1, .ref m2, .ref m3, .ref m4, .int 0, .ref m6, .ref m7, .ref m8, .ref m9, .ref m10, .ref m11, .ref m12, .ref m13, .ref m14, .ref m15, .ref m16, .ref m17, .ref m18, .ref m19, .int 0, .int 0, .int 0, .int (-1), .int 0, .int 0, .ref m26, .ref m27, .ref m28, .ref m29, .ref m30, .ref m31, .ref m32, .ref m33, .ref m34, .ref m35, .ref m36, .ref m37, .ref m38, .ref m39, .int 0, .int 0, .ref m42, .ref m43, .ref m44, .ref m45, .ref m46, .ref m47, .int 0, .int 0, .int 0, .int 0, .int (-1), .ref m53, .ref m54, .ref m55, .ref m56, .ref m57, .ref m58, .ref m59, .ref m60, .ref m61, .ref m62, .int 0, .ref m64, .ref m65, .ref m66, .ref m67, .ref m68, .ref m69, .ref m70, .ref m71, .ref m72, .ref m73, .int 0, .ref m75, .int 0])), (m13, .inl (cM13, 8, .inl (fun _ => 0))), (m14, .inl (cM14, 32, .inl (fun _ => 0))), (m18, .inl (cM18, 32, .inl (fun _ => 0))), (m15, .inl (cM15, 32, .inl (fun _ => 0))), (m16, .inl (cM16, 32, .inl (fun _ => 0))), (m17, .inl (cM17, 96, .inl (fun _ => 0)))] H) (hD : va_D A [(x0, .inr (11, [.ref a1, .ref a2, .ref a3, .ref a4, .ref a5, .ref a6, .ref a7, .ref a8, .int 0, .int 0, .int 0, .int (-1)])), (a1, .inl (cC1, 8, .inr (.inr (.inr (.inr f0))))), (d0, .inr (2, [.ref q1, .ref q2, .int 0, .int 0, .int (nI k), .ref q3, .int 0, .null])), (q2, .inl (cB2, 4, .inr (.inr (.inr (.inr g2))))), (q6, .inr (8, [.int (nI k), .int 0, .ref q7, .int 0, .int 0, .int 0, .int 0])), (q7, .inl (cB7, 3, .inl (fun _ => 0))), (y0, .inr (12, [.ref m0, .ref m1, .ref m2, .ref m3, .ref m4, .int 0, .ref m6, .ref m7, .ref m8, .ref m9, .ref m10, .ref m11, .ref m12, .ref m13, .ref m14, .ref m15, .ref m16, .ref m17, .ref m18, .ref m19, .int 0, .int 0, .int 0, .int (-1), .int 0, .int 0, .ref m26, .ref m27, .ref m28, .ref m29, .ref m30, .ref m31, .ref m32, .ref m33, .ref m34, .ref m35, .ref m36, .ref m37, .ref m38, .ref m39, .int 0, .int 0, .ref m42, .ref m43, .ref m44, .ref m45, .ref m46, .ref m47, .int 0, .int 0, .int 0, .int 0, .int (-1), .ref m53, .ref m54, .ref m55, .ref m56, .ref m57, .ref m58, .ref m59, .ref m60, .ref m61, .ref m62, .int 0, .ref m64, .ref m65, .ref m66, .ref m67, .ref m68, .ref m69, .ref m70, .ref m71, .ref m72, .ref m73, .int 0, .ref m75, .int 0])), (m13, .inl (cM13, 8, .inl (fun _ => 0))), (m14, .inl (cM14, 32, .inl (fun _ => 0))), (m18, .inl (cM18, 32, .inl (fun _ => 0))), (m15, .inl (cM15, 32, .inl (fun _ => 0))), (m16, .inl (cM16, 32, .inl (fun _ => 0))), (m17, .inl (cM17, 96, .inl (fun _ => 0)))]) (hS : va_S A s.heap H locs) (hl : lv_has ls 7 [(4, .int 0), (3, .ref o3), (2, .ref y0), (1, .ref x0), (0, .ref b)]) : W p l e room_1 s m #[Value.ref b] below meth c H locs 724 35019 (lw_Z below #[Value.ref b] s) (F0 m 275 ls []) := by
  obtain ⟨hx, hb, hr, hml, hown, hts, hX, hbl, hlocks, hgv⟩ := C0
  have hown : s.vm.findClass RL = some m.cls := hown
  have htb := fun (w : Cond) (h : w ∈ tb) => hts w (tb_in w h)
  refine lv_aload_n hx hb dL_law_275 rfl (lv_at hl 3 rfl) ?_
  refine lv_aload_n hx hb dL_law_276 rfl (lv_at hl 4 rfl) ?_
  refine lv_iload hx hb dL_law_277 (lv_at hl 0 rfl) ?_
  refine lv_iconst (v := 1) hx hb dL_law_279 (by decide) ?_
  refine lv_iadd hx hb dL_law_280 ?_
  refine lv_topi (fun z_1 ez_1 => ?_)
  obtain rfl : z_1 = 1 := ez_1.trans (by decide)
  refine va_sld hx hb hX hbl hbA hS (by unfold vp_in; decide) dL_law_281 ?_
  refine lv_topi (fun z_2 ez_2 => ?_)
  obtain rfl : z_2 = xs 1 := ez_2
  refine lv_aload_n hx hb dL_law_282 rfl (lv_at hl 4 rfl) ?_
  refine lv_iload hx hb dL_law_283 (lv_at hl 0 rfl) ?_
  refine lv_iconst (v := 2) hx hb dL_law_285 (by decide) ?_
  refine lv_iadd hx hb dL_law_286 ?_
  refine lv_topi (fun z_3 ez_3 => ?_)
  obtain rfl : z_3 = 2 := ez_3.trans (by decide)
  refine va_sld hx hb hX hbl hbA hS (by unfold vp_in; decide) dL_law_287 ?_
  refine lv_topi (fun z_4 ez_4 => ?_)
  obtain rfl : z_4 = xs 2 := ez_4
  refine lv_aload_n hx hb dL_law_288 rfl (lv_at hl 4 rfl) ?_
  refine lv_iload hx hb dL_law_289 (lv_at hl 0 rfl) ?_
  refine lv_iconst (v := 3) hx hb dL_law_291 (by decide) ?_
  refine lv_iadd hx hb dL_law_292 ?_
  refine lv_topi (fun z_5 ez_5 => ?_)
  obtain rfl : z_5 = 3 := ez_5.trans (by decide)
  refine va_sld hx hb hX hbl hbA hS (by unfold vp_in; decide) dL_law_293 ?_
  refine lv_topi (fun z_6 ez_6 => ?_)
  obtain rfl : z_6 = xs 3 := ez_6
  refine lv_if_eq (tgt := 301) hx hb dL_law_294 (by decide) (fun c_7 => ?_) (fun c_7 => ?_)
  · refine lv_iconst (v := 0) hx hb dL_law_301 (by decide) ?_
    refine lv_aload_n hx hb dL_law_302 rfl (lv_at hl 4 rfl) ?_
    refine lv_iload hx hb dL_law_303 (lv_at hl 0 rfl) ?_
    refine lv_iconst (v := 4) hx hb dL_law_305 (by decide) ?_
    refine lv_iadd hx hb dL_law_306 ?_
    refine lv_topi (fun z_8 ez_8 => ?_)
    obtain rfl : z_8 = 4 := ez_8.trans (by decide)
    refine va_sld hx hb hX hbl hbA hS (by unfold vp_in; decide) dL_law_307 ?_
    refine lv_topi (fun z_9 ez_9 => ?_)
    obtain rfl : z_9 = xs 4 := ez_9
    refine lv_aload_n hx hb dL_law_308 rfl (lv_at hl 4 rfl) ?_
    refine lv_iload hx hb dL_law_309 (lv_at hl 0 rfl) ?_
    refine lv_iconst (v := 5) hx hb dL_law_311 (by decide) ?_
    refine lv_iadd hx hb dL_law_312 ?_
    refine lv_topi (fun z_10 ez_10 => ?_)
    obtain rfl : z_10 = 5 := ez_10.trans (by decide)
    refine va_sld hx hb hX hbl hbA hS (by unfold vp_in; decide) dL_law_313 ?_
    refine lv_topi (fun z_11 ez_11 => ?_)
    obtain rfl : z_11 = xs 5 := ez_11
    refine lv_aload_n hx hb dL_law_314 rfl (lv_at hl 4 rfl) ?_
    refine lv_iload hx hb dL_law_315 (lv_at hl 0 rfl) ?_
    refine lv_bipush (v := 6) hx hb dL_law_317 (by decide) ?_
    refine lv_iadd hx hb dL_law_319 ?_
    refine lv_topi (fun z_12 ez_12 => ?_)
    obtain rfl : z_12 = 6 := ez_12.trans (by decide)
    refine va_sld hx hb hX hbl hbA hS (by unfold vp_in; decide) dL_law_320 ?_
    refine lv_topi (fun z_13 ez_13 => ?_)
    obtain rfl : z_13 = xs 6 := ez_13
    refine lv_aload_n hx hb dL_law_321 rfl (lv_at hl 4 rfl) ?_
    refine lv_iload hx hb dL_law_322 (lv_at hl 0 rfl) ?_
    refine lv_bipush (v := 7) hx hb dL_law_324 (by decide) ?_
    refine lv_iadd hx hb dL_law_326 ?_
    refine lv_topi (fun z_14 ez_14 => ?_)
    obtain rfl : z_14 = 7 := ez_14.trans (by decide)
    refine va_sld hx hb hX hbl hbA hS (by unfold vp_in; decide) dL_law_327 ?_
    refine lv_topi (fun z_15 ez_15 => ?_)
    obtain rfl : z_15 = xs 7 := ez_15
    refine lv_aload_n hx hb dL_law_328 rfl (lv_at hl 4 rfl) ?_
    refine lv_iload hx hb dL_law_329 (lv_at hl 0 rfl) ?_
    refine lv_bipush (v := 8) hx hb dL_law_331 (by decide) ?_
    refine lv_iadd hx hb dL_law_333 ?_
    refine lv_topi (fun z_16 ez_16 => ?_)
    obtain rfl : z_16 = 8 := ez_16.trans (by decide)
    refine va_sld hx hb hX hbl hbA hS (by unfold vp_in; decide) dL_law_334 ?_
    refine lv_topi (fun z_17 ez_17 => ?_)
    obtain rfl : z_17 = xs 8 := ez_17
    have hPc := hP.sub (ws' := [(x0, .inr (11, [.ref a1, .ref a2, .ref a3, .ref a4, .ref a5, .ref a6, .ref a7, .ref a8, .int 0, .int 0, .int 0, .int (-1)])), (a1, .inl (cC1, 8, .inr (.inr (.inr (.inr f0))))), (d0, .inr (2, [.ref q1, .ref q2, .int 0, .int 0, .int (nI k), .ref q3, .int 0, .null])), (q2, .inl (cB2, 4, .inr (.inr (.inr (.inr g2))))), (q6, .inr (8, [.int (nI k), .int 0, .ref q7, .int 0, .int 0, .int 0, .int 0])), (q7, .inl (cB7, 3, .inl (fun _ => 0)))]) [0, 1, 2, 3, 4, 5] rfl
    have hDc := hD.sub (ws' := [(x0, .inr (11, [.ref a1, .ref a2, .ref a3, .ref a4, .ref a5, .ref a6, .ref a7, .ref a8, .int 0, .int 0, .int 0, .int (-1)])), (a1, .inl (cC1, 8, .inr (.inr (.inr (.inr f0))))), (d0, .inr (2, [.ref q1, .ref q2, .int 0, .int 0, .int (nI k), .ref q3, .int 0, .null])), (q2, .inl (cB2, 4, .inr (.inr (.inr (.inr g2))))), (q6, .inr (8, [.int (nI k), .int 0, .ref q7, .int 0, .int 0, .int 0, .int 0])), (q7, .inl (cB7, 3, .inl (fun _ => 0)))]) [0, 1, 2, 3, 4, 5] (by decide) rfl
    have hKc := hK.sub (tys' := [(cC1, .object RX2), (cB2, .object RX8), (cB7, .int)]) [0, 1, 2] rfl
    have hFc := va_free (wc := [(x0, .inr (11, [.ref a1, .ref a2, .ref a3, .ref a4, .ref a5, .ref a6, .ref a7, .ref a8, .int 0, .int 0, .int 0, .int (-1)])), (a1, .inl (cC1, 8, .inr (.inr (.inr (.inr f0))))), (d0, .inr (2, [.ref q1, .ref q2, .int 0, .int 0, .int (nI k), .ref q3, .int 0, .null])), (q2, .inl (cB2, 4, .inr (.inr (.inr (.inr g2))))), (q6, .inr (8, [.int (nI k), .int 0, .ref q7, .int 0, .int 0, .int 0, .int 0])), (q7, .inl (cB7, 3, .inl (fun _ => 0)))]) hD hS hA [0, 1, 2, 3, 4, 5] rfl
    refine va_calli (va_runV (As := [.int (xs 1), .int (xs 2), .int 0, .int (xs 4), .int (xs 5), .int (xs 6), .int (xs 7), .int (xs 8)]) (rest := []) ⟨hx, hb, hml, hown, htb⟩ (c_X12_factory l dC dI H.size x0 (xs 1) (xs 2) 0 (xs 4) (xs 5) (xs 6) (xs 7) (xs 8) a1 a2 a3 a4 a5 a6 a7 a8 cC1 f0 d0 q1 q2 (nI k) q3 cB2 g2 q6 q7 cB7 hf0 hg2 rfl rfl) (cwV 8 htb (gd_V kw_421 kw_422 kw_423 kw_49 kw_593) rfl rfl rfl (by decide +kernel) ⟨Nat.le_of_ble_eq_true rfl, Nat.le_of_ble_eq_true rfl⟩) ⟨fun a U g mk q => by obtain ⟨q0, q1, qP, qK, qD⟩ := q; exact ⟨q0, q1, qP, va_K.moved (u := U) (U := U.calling g mk a) (Vm.Alike.refl U.vm) qK, qD⟩, va_recv hKc hPc (ci := 11) (q0 := 0) rfl rfl, fun U hU hW => ⟨rfl, by rw [hU], by rw [hU]; exact hPc, va_K.moved hW.alike hKc, hDc.weaken (fun _ _ _ _ => trivial)⟩⟩ rfl rfl hl.1 rfl (lv_room (Nat.le_of_ble_eq_true rfl)) dL_law_335 ⟨(Nat.le_of_ble_eq_true rfl), (Nat.le_of_ble_eq_true rfl)⟩) hS (fun q _ h => hFc q h) hFc (fun r u t H1 locs ht hvm hw hB hz1 hk1 hS => ?_)
    subst hw
    obtain ⟨hP1, hK1, hD1⟩ := hB
    rw [ht] at hP1
    have hK1 := va_K.moved hvm.symm hK1
    obtain ⟨hP, hD⟩ := va_join (wr := [(y0, .inr (12, [.ref m0, .ref m1, .ref m2, .ref m3, .ref m4, .int 0, .ref m6, .ref m7, .ref m8, .ref m9, .ref m10, .ref m11, .ref m12, .ref m13, .ref m14, .ref m15, .ref m16, .ref m17, .ref m18, .ref m19, .int 0, .int 0, .int 0, .int (-1), .int 0, .int 0, .ref m26, .ref m27, .ref m28, .ref m29, .ref m30, .ref m31, .ref m32, .ref m33, .ref m34, .ref m35, .ref m36, .ref m37, .ref m38, .ref m39, .int 0, .int 0, .ref m42, .ref m43, .ref m44, .ref m45, .ref m46, .ref m47, .int 0, .int 0, .int 0, .int 0, .int (-1), .ref m53, .ref m54, .ref m55, .ref m56, .ref m57, .ref m58, .ref m59, .ref m60, .ref m61, .ref m62, .int 0, .ref m64, .ref m65, .ref m66, .ref m67, .ref m68, .ref m69, .ref m70, .ref m71, .ref m72, .ref m73, .int 0, .ref m75, .int 0])), (m13, .inl (cM13, 8, .inl (fun _ => 0))), (m14, .inl (cM14, 32, .inl (fun _ => 0))), (m18, .inl (cM18, 32, .inl (fun _ => 0))), (m15, .inl (cM15, 32, .inl (fun _ => 0))), (m16, .inl (cM16, 32, .inl (fun _ => 0))), (m17, .inl (cM17, 96, .inl (fun _ => 0)))]) (w1 := []) hP hD [0, 1, 2, 3, 4, 5] [6, 7, 8, 9, 10, 11, 12] rfl rfl (by decide) (by decide) hk1 hFc hP1 hD1
    have hK := hK.app hK1
    generalize H1 = H at hP hS ⊢
    have hP : va_P (dC, dI) vwCl [(y0, .inr (12, [.ref m0, .ref m1, .ref m2, .ref m3, .ref m4, .int 0, .ref m6, .ref m7, .ref m8, .ref m9, .ref m10, .ref m11, .ref m12, .ref m13, .ref m14, .ref m15, .ref m16, .ref m17, .ref m18, .ref m19, .int 0, .int 0, .int 0, .int (-1), .int 0, .int 0, .ref m26, .ref m27, .ref m28, .ref m29, .ref m30, .ref m31, .ref m32, .ref m33, .ref m34, .ref m35, .ref m36, .ref m37, .ref m38, .ref m39, .int 0, .int 0, .ref m42, .ref m43, .ref m44, .ref m45, .ref m46, .ref m47, .int 0, .int 0, .int 0, .int 0, .int (-1), .ref m53, .ref m54, .ref m55, .ref m56, .ref m57, .ref m58, .ref m59, .ref m60, .ref m61, .ref m62, .int 0, .ref m64, .ref m65, .ref m66, .ref m67, .ref m68, .ref m69, .ref m70, .ref m71, .ref m72, .ref m73, .int 0, .ref m75, .int 0])), (m13, .inl (cM13, 8, .inl (fun _ => 0))), (m14, .inl (cM14, 32, .inl (fun _ => 0))), (m18, .inl (cM18, 32, .inl (fun _ => 0))), (m15, .inl (cM15, 32, .inl (fun _ => 0))), (m16, .inl (cM16, 32, .inl (fun _ => 0))), (m17, .inl (cM17, 96, .inl (fun _ => 0)))] H := hP
    have hD : va_D A [(y0, .inr (12, [.ref m0, .ref m1, .ref m2, .ref m3, .ref m4, .int 0, .ref m6, .ref m7, .ref m8, .ref m9, .ref m10, .ref m11, .ref m12, .ref m13, .ref m14, .ref m15, .ref m16, .ref m17, .ref m18, .ref m19, .int 0, .int 0, .int 0, .int (-1), .int 0, .int 0, .ref m26, .ref m27, .ref m28, .ref m29, .ref m30, .ref m31, .ref m32, .ref m33, .ref m34, .ref m35, .ref m36, .ref m37, .ref m38, .ref m39, .int 0, .int 0, .ref m42, .ref m43, .ref m44, .ref m45, .ref m46, .ref m47, .int 0, .int 0, .int 0, .int 0, .int (-1), .ref m53, .ref m54, .ref m55, .ref m56, .ref m57, .ref m58, .ref m59, .ref m60, .ref m61, .ref m62, .int 0, .ref m64, .ref m65, .ref m66, .ref m67, .ref m68, .ref m69, .ref m70, .ref m71, .ref m72, .ref m73, .int 0, .ref m75, .int 0])), (m13, .inl (cM13, 8, .inl (fun _ => 0))), (m14, .inl (cM14, 32, .inl (fun _ => 0))), (m18, .inl (cM18, 32, .inl (fun _ => 0))), (m15, .inl (cM15, 32, .inl (fun _ => 0))), (m16, .inl (cM16, 32, .inl (fun _ => 0))), (m17, .inl (cM17, 96, .inl (fun _ => 0)))] := hD
    have hK : va_K (dC, dI) vwCl [(cC1, .object RX2), (cB2, .object RX8), (cB7, .int), (cM13, .int), (cM14, .int), (cM18, .boolean), (cM15, .int), (cM16, .int), (cM17, .int)] s := hK
    refine W.widen (k := 724) (n := 35019) (Nat.le_of_ble_eq_true rfl) (Nat.le_of_ble_eq_true rfl) ?_
    refine lv_aload_n hx hb dL_law_338 rfl (lv_at hl 2 rfl) ?_
    refine lv_aload_n hx hb dL_law_339 rfl (lv_at hl 4 rfl) ?_
    refine lv_iload hx hb dL_law_340 (lv_at hl 0 rfl) ?_
    refine lv_iconst (v := 1) hx hb dL_law_342 (by decide) ?_
    refine lv_iadd hx hb dL_law_343 ?_
    refine lv_topi (fun z_18 ez_18 => ?_)
    obtain rfl : z_18 = 1 := ez_18.trans (by decide)
    refine va_sld hx hb hX hbl hbA hS (by unfold vp_in; decide) dL_law_344 ?_
    refine lv_topi (fun z_19 ez_19 => ?_)
    obtain rfl : z_19 = xs 1 := ez_19
    refine lv_aload_n hx hb dL_law_345 rfl (lv_at hl 4 rfl) ?_
    refine lv_iload hx hb dL_law_346 (lv_at hl 0 rfl) ?_
    refine lv_iconst (v := 2) hx hb dL_law_348 (by decide) ?_
    refine lv_iadd hx hb dL_law_349 ?_
    refine lv_topi (fun z_20 ez_20 => ?_)
    obtain rfl : z_20 = 2 := ez_20.trans (by decide)
    refine va_sld hx hb hX hbl hbA hS (by unfold vp_in; decide) dL_law_350 ?_
    refine lv_topi (fun z_21 ez_21 => ?_)
    obtain rfl : z_21 = xs 2 := ez_21
    refine lv_aload_n hx hb dL_law_351 rfl (lv_at hl 4 rfl) ?_
    refine lv_iload hx hb dL_law_352 (lv_at hl 0 rfl) ?_
    refine lv_iconst (v := 3) hx hb dL_law_354 (by decide) ?_
    refine lv_iadd hx hb dL_law_355 ?_
    refine lv_topi (fun z_22 ez_22 => ?_)
    obtain rfl : z_22 = 3 := ez_22.trans (by decide)
    refine va_sld hx hb hX hbl hbA hS (by unfold vp_in; decide) dL_law_356 ?_
    refine lv_topi (fun z_23 ez_23 => ?_)
    obtain rfl : z_23 = xs 3 := ez_23
    refine lv_if_eq (tgt := 364) hx hb dL_law_357 (by decide) (fun _ => ?_) (fun c_24 => absurd c_7 c_24)
    refine lv_iconst (v := 0) hx hb dL_law_364 (by decide) ?_
    refine lv_aload_n hx hb dL_law_365 rfl (lv_at hl 4 rfl) ?_
    refine lv_iload hx hb dL_law_366 (lv_at hl 0 rfl) ?_
    refine lv_iconst (v := 4) hx hb dL_law_368 (by decide) ?_
    refine lv_iadd hx hb dL_law_369 ?_
    refine lv_topi (fun z_25 ez_25 => ?_)
    obtain rfl : z_25 = 4 := ez_25.trans (by decide)
    refine va_sld hx hb hX hbl hbA hS (by unfold vp_in; decide) dL_law_370 ?_
    refine lv_topi (fun z_26 ez_26 => ?_)
    obtain rfl : z_26 = xs 4 := ez_26
    refine lv_aload_n hx hb dL_law_371 rfl (lv_at hl 4 rfl) ?_
    refine lv_iload hx hb dL_law_372 (lv_at hl 0 rfl) ?_
    refine lv_iconst (v := 5) hx hb dL_law_374 (by decide) ?_
    refine lv_iadd hx hb dL_law_375 ?_
    refine lv_topi (fun z_27 ez_27 => ?_)
    obtain rfl : z_27 = 5 := ez_27.trans (by decide)
    refine va_sld hx hb hX hbl hbA hS (by unfold vp_in; decide) dL_law_376 ?_
    refine lv_topi (fun z_28 ez_28 => ?_)
    obtain rfl : z_28 = xs 5 := ez_28
    refine lv_aload_n hx hb dL_law_377 rfl (lv_at hl 4 rfl) ?_
    refine lv_iload hx hb dL_law_378 (lv_at hl 0 rfl) ?_
    refine lv_bipush (v := 6) hx hb dL_law_380 (by decide) ?_
    refine lv_iadd hx hb dL_law_382 ?_
    refine lv_topi (fun z_29 ez_29 => ?_)
    obtain rfl : z_29 = 6 := ez_29.trans (by decide)
    refine va_sld hx hb hX hbl hbA hS (by unfold vp_in; decide) dL_law_383 ?_
    refine lv_topi (fun z_30 ez_30 => ?_)
    obtain rfl : z_30 = xs 6 := ez_30
    refine lv_aload_n hx hb dL_law_384 rfl (lv_at hl 4 rfl) ?_
    refine lv_iload hx hb dL_law_385 (lv_at hl 0 rfl) ?_
    refine lv_bipush (v := 7) hx hb dL_law_387 (by decide) ?_
    refine lv_iadd hx hb dL_law_389 ?_
    refine lv_topi (fun z_31 ez_31 => ?_)
    obtain rfl : z_31 = 7 := ez_31.trans (by decide)
    refine va_sld hx hb hX hbl hbA hS (by unfold vp_in; decide) dL_law_390 ?_
    refine lv_topi (fun z_32 ez_32 => ?_)
    obtain rfl : z_32 = xs 7 := ez_32
    refine lv_aload_n hx hb dL_law_391 rfl (lv_at hl 4 rfl) ?_
    refine lv_iload hx hb dL_law_392 (lv_at hl 0 rfl) ?_
    refine lv_bipush (v := 8) hx hb dL_law_394 (by decide) ?_
    refine lv_iadd hx hb dL_law_396 ?_
    refine lv_topi (fun z_33 ez_33 => ?_)
    obtain rfl : z_33 = 8 := ez_33.trans (by decide)
    refine va_sld hx hb hX hbl hbA hS (by unfold vp_in; decide) dL_law_397 ?_
    refine lv_topi (fun z_34 ez_34 => ?_)
    obtain rfl : z_34 = xs 8 := ez_34
    have hPc := hP.sub (ws' := [(y0, .inr (12, [.ref m0, .ref m1, .ref m2, .ref m3, .ref m4, .int 0, .ref m6, .ref m7, .ref m8, .ref m9, .ref m10, .ref m11, .ref m12, .ref m13, .ref m14, .ref m15, .ref m16, .ref m17, .ref m18, .ref m19, .int 0, .int 0, .int 0, .int (-1), .int 0, .int 0, .ref m26, .ref m27, .ref m28, .ref m29, .ref m30, .ref m31, .ref m32, .ref m33, .ref m34, .ref m35, .ref m36, .ref m37, .ref m38, .ref m39, .int 0, .int 0, .ref m42, .ref m43, .ref m44, .ref m45, .ref m46, .ref m47, .int 0, .int 0, .int 0, .int 0, .int (-1), .ref m53, .ref m54, .ref m55, .ref m56, .ref m57, .ref m58, .ref m59, .ref m60, .ref m61, .ref m62, .int 0, .ref m64, .ref m65, .ref m66, .ref m67, .ref m68, .ref m69, .ref m70, .ref m71, .ref m72, .ref m73, .int 0, .ref m75, .int 0])), (m13, .inl (cM13, 8, .inl (fun _ => 0))), (m14, .inl (cM14, 32, .inl (fun _ => 0))), (m18, .inl (cM18, 32, .inl (fun _ => 0))), (m15, .inl (cM15, 32, .inl (fun _ => 0))), (m16, .inl (cM16, 32, .inl (fun _ => 0))), (m17, .inl (cM17, 96, .inl (fun _ => 0)))]) [0, 1, 2, 3, 4, 5, 6] rfl
    have hDc := hD.sub (ws' := [(y0, .inr (12, [.ref m0, .ref m1, .ref m2, .ref m3, .ref m4, .int 0, .ref m6, .ref m7, .ref m8, .ref m9, .ref m10, .ref m11, .ref m12, .ref m13, .ref m14, .ref m15, .ref m16, .ref m17, .ref m18, .ref m19, .int 0, .int 0, .int 0, .int (-1), .int 0, .int 0, .ref m26, .ref m27, .ref m28, .ref m29, .ref m30, .ref m31, .ref m32, .ref m33, .ref m34, .ref m35, .ref m36, .ref m37, .ref m38, .ref m39, .int 0, .int 0, .ref m42, .ref m43, .ref m44, .ref m45, .ref m46, .ref m47, .int 0, .int 0, .int 0, .int 0, .int (-1), .ref m53, .ref m54, .ref m55, .ref m56, .ref m57, .ref m58, .ref m59, .ref m60, .ref m61, .ref m62, .int 0, .ref m64, .ref m65, .ref m66, .ref m67, .ref m68, .ref m69, .ref m70, .ref m71, .ref m72, .ref m73, .int 0, .ref m75, .int 0])), (m13, .inl (cM13, 8, .inl (fun _ => 0))), (m14, .inl (cM14, 32, .inl (fun _ => 0))), (m18, .inl (cM18, 32, .inl (fun _ => 0))), (m15, .inl (cM15, 32, .inl (fun _ => 0))), (m16, .inl (cM16, 32, .inl (fun _ => 0))), (m17, .inl (cM17, 96, .inl (fun _ => 0)))]) [0, 1, 2, 3, 4, 5, 6] (by decide) rfl
    have hKc := hK.sub (tys' := [(cM13, .int), (cM14, .int), (cM18, .boolean), (cM15, .int), (cM16, .int), (cM17, .int)]) [3, 4, 5, 6, 7, 8] rfl
    have hFc := va_free (wc := [(y0, .inr (12, [.ref m0, .ref m1, .ref m2, .ref m3, .ref m4, .int 0, .ref m6, .ref m7, .ref m8, .ref m9, .ref m10, .ref m11, .ref m12, .ref m13, .ref m14, .ref m15, .ref m16, .ref m17, .ref m18, .ref m19, .int 0, .int 0, .int 0, .int (-1), .int 0, .int 0, .ref m26, .ref m27, .ref m28, .ref m29, .ref m30, .ref m31, .ref m32, .ref m33, .ref m34, .ref m35, .ref m36, .ref m37, .ref m38, .ref m39, .int 0, .int 0, .ref m42, .ref m43, .ref m44, .ref m45, .ref m46, .ref m47, .int 0, .int 0, .int 0, .int 0, .int (-1), .ref m53, .ref m54, .ref m55, .ref m56, .ref m57, .ref m58, .ref m59, .ref m60, .ref m61, .ref m62, .int 0, .ref m64, .ref m65, .ref m66, .ref m67, .ref m68, .ref m69, .ref m70, .ref m71, .ref m72, .ref m73, .int 0, .ref m75, .int 0])), (m13, .inl (cM13, 8, .inl (fun _ => 0))), (m14, .inl (cM14, 32, .inl (fun _ => 0))), (m18, .inl (cM18, 32, .inl (fun _ => 0))), (m15, .inl (cM15, 32, .inl (fun _ => 0))), (m16, .inl (cM16, 32, .inl (fun _ => 0))), (m17, .inl (cM17, 96, .inl (fun _ => 0)))]) hD hS hA [0, 1, 2, 3, 4, 5, 6] rfl
    refine va_calli (va_runV (As := [.int (xs 1), .int (xs 2), .int 0, .int (xs 4), .int (xs 5), .int (xs 6), .int (xs 7), .int (xs 8)]) (rest := [.int (zFac (xs 1) (xs 2) (xs 4) (xs 5) (xs 6) (xs 7) (xs 8))]) ⟨hx, hb, hml, hown, htb⟩ (c_X13_factory l dC dI H.size y0 (xs 1) (xs 2) 0 (xs 4) (xs 5) (xs 6) (xs 7) (xs 8) m0 m1 m2 m3 m4 m6 m7 m8 m9 m10 m11 m12 m13 m14 m15 m16 m17 m18 m19 m26 m27 m28 m29 m30 m31 m32 m33 m34 m35 m36 m37 m38 m39 m42 m43 m44 m45 m46 m47 m53 m54 m55 m56 m57 m58 m59 m60 m61 m62 m64 m65 m66 m67 m68 m69 m70 m71 m72 m73 m75 cM13 cM14 cM18 cM15 cM16 cM17) (cwV 8 htb (gd_V kw_424 kw_425 kw_426 kw_345 kw_594) rfl rfl rfl (by decide +kernel) ⟨Nat.le_of_ble_eq_true rfl, Nat.le_of_ble_eq_true rfl⟩) ⟨fun a U g mk q => by obtain ⟨q0, q1, qP, qK, qD⟩ := q; exact ⟨q0, q1, qP, va_K.moved (u := U) (U := U.calling g mk a) (Vm.Alike.refl U.vm) qK, qD⟩, va_recv hKc hPc (ci := 12) (q0 := 0) rfl rfl, fun U hU hW => ⟨rfl, by rw [hU], by rw [hU]; exact hPc, va_K.moved hW.alike hKc, hDc.weaken (fun _ _ _ _ => trivial)⟩⟩ rfl rfl hl.1 rfl (lv_room (Nat.le_of_ble_eq_true rfl)) dL_law_398 ⟨(Nat.le_of_ble_eq_true rfl), (Nat.le_of_ble_eq_true rfl)⟩) hS (fun q _ h => hFc q h) hFc (fun r u t H1 locs ht hvm hw hB hz1 hk1 hS => ?_)
    subst hw
    obtain ⟨hP1, hK1, hD1⟩ := hB
    rw [ht] at hP1
    have hK1 := va_K.moved hvm.symm hK1
    obtain ⟨hP, hD⟩ := va_join (wr := []) (w1 := []) hP hD [0, 1, 2, 3, 4, 5, 6] [] rfl rfl (by decide) (by decide) hk1 hFc hP1 hD1
    have hK := hK.app hK1
    generalize H1 = H at hP hS ⊢
    have hP : va_P (dC, dI) vwCl [] H := hP
    have hD : va_D A [] := hD
    have hK : va_K (dC, dI) vwCl [(cC1, .object RX2), (cB2, .object RX8), (cB7, .int), (cM13, .int), (cM14, .int), (cM18, .boolean), (cM15, .int), (cM16, .int), (cM17, .int)] s := hK
    refine W.widen (k := 724) (n := 35019) (Nat.le_of_ble_eq_true rfl) (Nat.le_of_ble_eq_true rfl) ?_
    refine lv_icmp_eq (tgt := 885) hx hb dL_law_401 (by decide) (fun _ => ?_) (fun c_35 => absurd rfl c_35)
    refine lv_iinc (v := 9) (lv' := [(4, .int 9), (3, .ref o3), (2, .ref y0), (1, .ref x0), (0, .ref b)]) hx hb dL_law_885 hl (k := 0) rfl (by decide) (by decide) rfl (fun ls hl => ?_)
    refine lv_goto (tgt := 23) hx hb dL_law_888 (by decide) ?_
    refine lv_iload hx hb dL_law_23 (lv_at hl 0 rfl) ?_
    refine lv_aload_n hx hb dL_law_25 rfl (lv_at hl 4 rfl) ?_
    refine va_slen hx hb hX hbl hbA hS dL_law_26 ?_
    refine lv_topi (fun z_36 ez_36 => ?_)
    obtain rfl : z_36 = 9 := ez_36.trans (by decide)
    refine lv_bipush (v := 9) hx hb dL_law_27 (by decide) ?_
    refine lv_isub hx hb dL_law_29 ?_
    refine lv_topi (fun z_37 ez_37 => ?_)
    obtain rfl : z_37 = 0 := ez_37.trans (by decide)
    refine lv_icmp_gt (tgt := 891) hx hb dL_law_30 (by decide) (fun _ => ?_) (fun c_38 => absurd (by decide) c_38)
    refine lv_iconst (v := 1) hx hb dL_law_891 (by decide) ?_
    refine va_forget (fun q hq => hAi _ (hS.2.2 q hq)) ?_
    refine W.widen (k := 600002) (n := 7302232) (Nat.le_of_ble_eq_true rfl) (Nat.le_of_ble_eq_true rfl) ?_
    exact lw_ret hx hb hr hlocks dL_law_892
  · refine lv_iconst (v := 1) hx hb dL_law_297 (by decide) ?_
    refine lv_goto (tgt := 302) hx hb dL_law_298 (by decide) ?_
    refine lv_aload_n hx hb dL_law_302 rfl (lv_at hl 4 rfl) ?_
    refine lv_iload hx hb dL_law_303 (lv_at hl 0 rfl) ?_
    refine lv_iconst (v := 4) hx hb dL_law_305 (by decide) ?_
    refine lv_iadd hx hb dL_law_306 ?_
    refine lv_topi (fun z_39 ez_39 => ?_)
    obtain rfl : z_39 = 4 := ez_39.trans (by decide)
    refine va_sld hx hb hX hbl hbA hS (by unfold vp_in; decide) dL_law_307 ?_
    refine lv_topi (fun z_40 ez_40 => ?_)
    obtain rfl : z_40 = xs 4 := ez_40
    refine lv_aload_n hx hb dL_law_308 rfl (lv_at hl 4 rfl) ?_
    refine lv_iload hx hb dL_law_309 (lv_at hl 0 rfl) ?_
    refine lv_iconst (v := 5) hx hb dL_law_311 (by decide) ?_
    refine lv_iadd hx hb dL_law_312 ?_
    refine lv_topi (fun z_41 ez_41 => ?_)
    obtain rfl : z_41 = 5 := ez_41.trans (by decide)
    refine va_sld hx hb hX hbl hbA hS (by unfold vp_in; decide) dL_law_313 ?_
    refine lv_topi (fun z_42 ez_42 => ?_)
    obtain rfl : z_42 = xs 5 := ez_42
    refine lv_aload_n hx hb dL_law_314 rfl (lv_at hl 4 rfl) ?_
    refine lv_iload hx hb dL_law_315 (lv_at hl 0 rfl) ?_
    refine lv_bipush (v := 6) hx hb dL_law_317 (by decide) ?_
    refine lv_iadd hx hb dL_law_319 ?_
    refine lv_topi (fun z_43 ez_43 => ?_)
    obtain rfl : z_43 = 6 := ez_43.trans (by decide)
    refine va_sld hx hb hX hbl hbA hS (by unfold vp_in; decide) dL_law_320 ?_
    refine lv_topi (fun z_44 ez_44 => ?_)
    obtain rfl : z_44 = xs 6 := ez_44
    refine lv_aload_n hx hb dL_law_321 rfl (lv_at hl 4 rfl) ?_
    refine lv_iload hx hb dL_law_322 (lv_at hl 0 rfl) ?_
    refine lv_bipush (v := 7) hx hb dL_law_324 (by decide) ?_
    refine lv_iadd hx hb dL_law_326 ?_
    refine lv_topi (fun z_45 ez_45 => ?_)
    obtain rfl : z_45 = 7 := ez_45.trans (by decide)
    refine va_sld hx hb hX hbl hbA hS (by unfold vp_in; decide) dL_law_327 ?_
    refine lv_topi (fun z_46 ez_46 => ?_)
    obtain rfl : z_46 = xs 7 := ez_46
    refine lv_aload_n hx hb dL_law_328 rfl (lv_at hl 4 rfl) ?_
    refine lv_iload hx hb dL_law_329 (lv_at hl 0 rfl) ?_
    refine lv_bipush (v := 8) hx hb dL_law_331 (by decide) ?_
    refine lv_iadd hx hb dL_law_333 ?_
    refine lv_topi (fun z_47 ez_47 => ?_)
    obtain rfl : z_47 = 8 := ez_47.trans (by decide)
    refine va_sld hx hb hX hbl hbA hS (by unfold vp_in; decide) dL_law_334 ?_
    refine lv_topi (fun z_48 ez_48 => ?_)
    obtain rfl : z_48 = xs 8 := ez_48
    have hPc := hP.sub (ws' := [(x0, .inr (11, [.ref a1, .ref a2, .ref a3, .ref a4, .ref a5, .ref a6, .ref a7, .ref a8, .int 0, .int 0, .int 0, .int (-1)])), (a1, .inl (cC1, 8, .inr (.inr (.inr (.inr f0))))), (d0, .inr (2, [.ref q1, .ref q2, .int 0, .int 0, .int (nI k), .ref q3, .int 0, .null])), (q2, .inl (cB2, 4, .inr (.inr (.inr (.inr g2))))), (q6, .inr (8, [.int (nI k), .int 0, .ref q7, .int 0, .int 0, .int 0, .int 0])), (q7, .inl (cB7, 3, .inl (fun _ => 0)))]) [0, 1, 2, 3, 4, 5] rfl
    have hDc := hD.sub (ws' := [(x0, .inr (11, [.ref a1, .ref a2, .ref a3, .ref a4, .ref a5, .ref a6, .ref a7, .ref a8, .int 0, .int 0, .int 0, .int (-1)])), (a1, .inl (cC1, 8, .inr (.inr (.inr (.inr f0))))), (d0, .inr (2, [.ref q1, .ref q2, .int 0, .int 0, .int (nI k), .ref q3, .int 0, .null])), (q2, .inl (cB2, 4, .inr (.inr (.inr (.inr g2))))), (q6, .inr (8, [.int (nI k), .int 0, .ref q7, .int 0, .int 0, .int 0, .int 0])), (q7, .inl (cB7, 3, .inl (fun _ => 0)))]) [0, 1, 2, 3, 4, 5] (by decide) rfl
    have hKc := hK.sub (tys' := [(cC1, .object RX2), (cB2, .object RX8), (cB7, .int)]) [0, 1, 2] rfl
    have hFc := va_free (wc := [(x0, .inr (11, [.ref a1, .ref a2, .ref a3, .ref a4, .ref a5, .ref a6, .ref a7, .ref a8, .int 0, .int 0, .int 0, .int (-1)])), (a1, .inl (cC1, 8, .inr (.inr (.inr (.inr f0))))), (d0, .inr (2, [.ref q1, .ref q2, .int 0, .int 0, .int (nI k), .ref q3, .int 0, .null])), (q2, .inl (cB2, 4, .inr (.inr (.inr (.inr g2))))), (q6, .inr (8, [.int (nI k), .int 0, .ref q7, .int 0, .int 0, .int 0, .int 0])), (q7, .inl (cB7, 3, .inl (fun _ => 0)))]) hD hS hA [0, 1, 2, 3, 4, 5] rfl
    refine va_calli (va_runV (As := [.int (xs 1), .int (xs 2), .int 1, .int (xs 4), .int (xs 5), .int (xs 6), .int (xs 7), .int (xs 8)]) (rest := []) ⟨hx, hb, hml, hown, htb⟩ (c_X12_factory l dC dI H.size x0 (xs 1) (xs 2) 1 (xs 4) (xs 5) (xs 6) (xs 7) (xs 8) a1 a2 a3 a4 a5 a6 a7 a8 cC1 f0 d0 q1 q2 (nI k) q3 cB2 g2 q6 q7 cB7 hf0 hg2 rfl rfl) (cwV 8 htb (gd_V kw_421 kw_422 kw_423 kw_49 kw_593) rfl rfl rfl (by decide +kernel) ⟨Nat.le_of_ble_eq_true rfl, Nat.le_of_ble_eq_true rfl⟩) ⟨fun a U g mk q => by obtain ⟨q0, q1, qP, qK, qD⟩ := q; exact ⟨q0, q1, qP, va_K.moved (u := U) (U := U.calling g mk a) (Vm.Alike.refl U.vm) qK, qD⟩, va_recv hKc hPc (ci := 11) (q0 := 0) rfl rfl, fun U hU hW => ⟨rfl, by rw [hU], by rw [hU]; exact hPc, va_K.moved hW.alike hKc, hDc.weaken (fun _ _ _ _ => trivial)⟩⟩ rfl rfl hl.1 rfl (lv_room (Nat.le_of_ble_eq_true rfl)) dL_law_335 ⟨(Nat.le_of_ble_eq_true rfl), (Nat.le_of_ble_eq_true rfl)⟩) hS (fun q _ h => hFc q h) hFc (fun r u t H1 locs ht hvm hw hB hz1 hk1 hS => ?_)
    subst hw
    obtain ⟨hP1, hK1, hD1⟩ := hB
    rw [ht] at hP1
    have hK1 := va_K.moved hvm.symm hK1
    obtain ⟨hP, hD⟩ := va_join (wr := [(y0, .inr (12, [.ref m0, .ref m1, .ref m2, .ref m3, .ref m4, .int 0, .ref m6, .ref m7, .ref m8, .ref m9, .ref m10, .ref m11, .ref m12, .ref m13, .ref m14, .ref m15, .ref m16, .ref m17, .ref m18, .ref m19, .int 0, .int 0, .int 0, .int (-1), .int 0, .int 0, .ref m26, .ref m27, .ref m28, .ref m29, .ref m30, .ref m31, .ref m32, .ref m33, .ref m34, .ref m35, .ref m36, .ref m37, .ref m38, .ref m39, .int 0, .int 0, .ref m42, .ref m43, .ref m44, .ref m45, .ref m46, .ref m47, .int 0, .int 0, .int 0, .int 0, .int (-1), .ref m53, .ref m54, .ref m55, .ref m56, .ref m57, .ref m58, .ref m59, .ref m60, .ref m61, .ref m62, .int 0, .ref m64, .ref m65, .ref m66, .ref m67, .ref m68, .ref m69, .ref m70, .ref m71, .ref m72, .ref m73, .int 0, .ref m75, .int 0])), (m13, .inl (cM13, 8, .inl (fun _ => 0))), (m14, .inl (cM14, 32, .inl (fun _ => 0))), (m18, .inl (cM18, 32, .inl (fun _ => 0))), (m15, .inl (cM15, 32, .inl (fun _ => 0))), (m16, .inl (cM16, 32, .inl (fun _ => 0))), (m17, .inl (cM17, 96, .inl (fun _ => 0)))]) (w1 := []) hP hD [0, 1, 2, 3, 4, 5] [6, 7, 8, 9, 10, 11, 12] rfl rfl (by decide) (by decide) hk1 hFc hP1 hD1
    have hK := hK.app hK1
    generalize H1 = H at hP hS ⊢
    have hP : va_P (dC, dI) vwCl [(y0, .inr (12, [.ref m0, .ref m1, .ref m2, .ref m3, .ref m4, .int 0, .ref m6, .ref m7, .ref m8, .ref m9, .ref m10, .ref m11, .ref m12, .ref m13, .ref m14, .ref m15, .ref m16, .ref m17, .ref m18, .ref m19, .int 0, .int 0, .int 0, .int (-1), .int 0, .int 0, .ref m26, .ref m27, .ref m28, .ref m29, .ref m30, .ref m31, .ref m32, .ref m33, .ref m34, .ref m35, .ref m36, .ref m37, .ref m38, .ref m39, .int 0, .int 0, .ref m42, .ref m43, .ref m44, .ref m45, .ref m46, .ref m47, .int 0, .int 0, .int 0, .int 0, .int (-1), .ref m53, .ref m54, .ref m55, .ref m56, .ref m57, .ref m58, .ref m59, .ref m60, .ref m61, .ref m62, .int 0, .ref m64, .ref m65, .ref m66, .ref m67, .ref m68, .ref m69, .ref m70, .ref m71, .ref m72, .ref m73, .int 0, .ref m75, .int 0])), (m13, .inl (cM13, 8, .inl (fun _ => 0))), (m14, .inl (cM14, 32, .inl (fun _ => 0))), (m18, .inl (cM18, 32, .inl (fun _ => 0))), (m15, .inl (cM15, 32, .inl (fun _ => 0))), (m16, .inl (cM16, 32, .inl (fun _ => 0))), (m17, .inl (cM17, 96, .inl (fun _ => 0)))] H := hP
    have hD : va_D A [(y0, .inr (12, [.ref m0, .ref m1, .ref m2, .ref m3, .ref m4, .int 0, .ref m6, .ref m7, .ref m8, .ref m9, .ref m10, .ref m11, .ref m12, .ref m13, .ref m14, .ref m15, .ref m16, .ref m17, .ref m18, .ref m19, .int 0, .int 0, .int 0, .int (-1), .int 0, .int 0, .ref m26, .ref m27, .ref m28, .ref m29, .ref m30, .ref m31, .ref m32, .ref m33, .ref m34, .ref m35, .ref m36, .ref m37, .ref m38, .ref m39, .int 0, .int 0, .ref m42, .ref m43, .ref m44, .ref m45, .ref m46, .ref m47, .int 0, .int 0, .int 0, .int 0, .int (-1), .ref m53, .ref m54, .ref m55, .ref m56, .ref m57, .ref m58, .ref m59, .ref m60, .ref m61, .ref m62, .int 0, .ref m64, .ref m65, .ref m66, .ref m67, .ref m68, .ref m69, .ref m70, .ref m71, .ref m72, .ref m73, .int 0, .ref m75, .int 0])), (m13, .inl (cM13, 8, .inl (fun _ => 0))), (m14, .inl (cM14, 32, .inl (fun _ => 0))), (m18, .inl (cM18, 32, .inl (fun _ => 0))), (m15, .inl (cM15, 32, .inl (fun _ => 0))), (m16, .inl (cM16, 32, .inl (fun _ => 0))), (m17, .inl (cM17, 96, .inl (fun _ => 0)))] := hD
    have hK : va_K (dC, dI) vwCl [(cC1, .object RX2), (cB2, .object RX8), (cB7, .int), (cM13, .int), (cM14, .int), (cM18, .boolean), (cM15, .int), (cM16, .int), (cM17, .int)] s := hK
    refine W.widen (k := 724) (n := 35019) (Nat.le_of_ble_eq_true rfl) (Nat.le_of_ble_eq_true rfl) ?_
    refine lv_aload_n hx hb dL_law_338 rfl (lv_at hl 2 rfl) ?_
    refine lv_aload_n hx hb dL_law_339 rfl (lv_at hl 4 rfl) ?_
    refine lv_iload hx hb dL_law_340 (lv_at hl 0 rfl) ?_
    refine lv_iconst (v := 1) hx hb dL_law_342 (by decide) ?_
    refine lv_iadd hx hb dL_law_343 ?_
    refine lv_topi (fun z_49 ez_49 => ?_)
    obtain rfl : z_49 = 1 := ez_49.trans (by decide)
    refine va_sld hx hb hX hbl hbA hS (by unfold vp_in; decide) dL_law_344 ?_
    refine lv_topi (fun z_50 ez_50 => ?_)
    obtain rfl : z_50 = xs 1 := ez_50
    refine lv_aload_n hx hb dL_law_345 rfl (lv_at hl 4 rfl) ?_
    refine lv_iload hx hb dL_law_346 (lv_at hl 0 rfl) ?_
    refine lv_iconst (v := 2) hx hb dL_law_348 (by decide) ?_
    refine lv_iadd hx hb dL_law_349 ?_
    refine lv_topi (fun z_51 ez_51 => ?_)
    obtain rfl : z_51 = 2 := ez_51.trans (by decide)
    refine va_sld hx hb hX hbl hbA hS (by unfold vp_in; decide) dL_law_350 ?_
    refine lv_topi (fun z_52 ez_52 => ?_)
    obtain rfl : z_52 = xs 2 := ez_52
    refine lv_aload_n hx hb dL_law_351 rfl (lv_at hl 4 rfl) ?_
    refine lv_iload hx hb dL_law_352 (lv_at hl 0 rfl) ?_
    refine lv_iconst (v := 3) hx hb dL_law_354 (by decide) ?_
    refine lv_iadd hx hb dL_law_355 ?_
    refine lv_topi (fun z_53 ez_53 => ?_)
    obtain rfl : z_53 = 3 := ez_53.trans (by decide)
    refine va_sld hx hb hX hbl hbA hS (by unfold vp_in; decide) dL_law_356 ?_
    refine lv_topi (fun z_54 ez_54 => ?_)
    obtain rfl : z_54 = xs 3 := ez_54
    refine lv_if_eq (tgt := 364) hx hb dL_law_357 (by decide) (fun c_55 => absurd c_55 c_7) (fun _ => ?_)
    refine lv_iconst (v := 1) hx hb dL_law_360 (by decide) ?_
    refine lv_goto (tgt := 365) hx hb dL_law_361 (by decide) ?_
    refine lv_aload_n hx hb dL_law_365 rfl (lv_at hl 4 rfl) ?_
    refine lv_iload hx hb dL_law_366 (lv_at hl 0 rfl) ?_
    refine lv_iconst (v := 4) hx hb dL_law_368 (by decide) ?_
    refine lv_iadd hx hb dL_law_369 ?_
    refine lv_topi (fun z_56 ez_56 => ?_)
    obtain rfl : z_56 = 4 := ez_56.trans (by decide)
    refine va_sld hx hb hX hbl hbA hS (by unfold vp_in; decide) dL_law_370 ?_
    refine lv_topi (fun z_57 ez_57 => ?_)
    obtain rfl : z_57 = xs 4 := ez_57
    refine lv_aload_n hx hb dL_law_371 rfl (lv_at hl 4 rfl) ?_
    refine lv_iload hx hb dL_law_372 (lv_at hl 0 rfl) ?_
    refine lv_iconst (v := 5) hx hb dL_law_374 (by decide) ?_
    refine lv_iadd hx hb dL_law_375 ?_
    refine lv_topi (fun z_58 ez_58 => ?_)
    obtain rfl : z_58 = 5 := ez_58.trans (by decide)
    refine va_sld hx hb hX hbl hbA hS (by unfold vp_in; decide) dL_law_376 ?_
    refine lv_topi (fun z_59 ez_59 => ?_)
    obtain rfl : z_59 = xs 5 := ez_59
    refine lv_aload_n hx hb dL_law_377 rfl (lv_at hl 4 rfl) ?_
    refine lv_iload hx hb dL_law_378 (lv_at hl 0 rfl) ?_
    refine lv_bipush (v := 6) hx hb dL_law_380 (by decide) ?_
    refine lv_iadd hx hb dL_law_382 ?_
    refine lv_topi (fun z_60 ez_60 => ?_)
    obtain rfl : z_60 = 6 := ez_60.trans (by decide)
    refine va_sld hx hb hX hbl hbA hS (by unfold vp_in; decide) dL_law_383 ?_
    refine lv_topi (fun z_61 ez_61 => ?_)
    obtain rfl : z_61 = xs 6 := ez_61
    refine lv_aload_n hx hb dL_law_384 rfl (lv_at hl 4 rfl) ?_
    refine lv_iload hx hb dL_law_385 (lv_at hl 0 rfl) ?_
    refine lv_bipush (v := 7) hx hb dL_law_387 (by decide) ?_
    refine lv_iadd hx hb dL_law_389 ?_
    refine lv_topi (fun z_62 ez_62 => ?_)
    obtain rfl : z_62 = 7 := ez_62.trans (by decide)
    refine va_sld hx hb hX hbl hbA hS (by unfold vp_in; decide) dL_law_390 ?_
    refine lv_topi (fun z_63 ez_63 => ?_)
    obtain rfl : z_63 = xs 7 := ez_63
    refine lv_aload_n hx hb dL_law_391 rfl (lv_at hl 4 rfl) ?_
    refine lv_iload hx hb dL_law_392 (lv_at hl 0 rfl) ?_
    refine lv_bipush (v := 8) hx hb dL_law_394 (by decide) ?_
    refine lv_iadd hx hb dL_law_396 ?_
    refine lv_topi (fun z_64 ez_64 => ?_)
    obtain rfl : z_64 = 8 := ez_64.trans (by decide)
    refine va_sld hx hb hX hbl hbA hS (by unfold vp_in; decide) dL_law_397 ?_
    refine lv_topi (fun z_65 ez_65 => ?_)
    obtain rfl : z_65 = xs 8 := ez_65
    have hPc := hP.sub (ws' := [(y0, .inr (12, [.ref m0, .ref m1, .ref m2, .ref m3, .ref m4, .int 0, .ref m6, .ref m7, .ref m8, .ref m9, .ref m10, .ref m11, .ref m12, .ref m13, .ref m14, .ref m15, .ref m16, .ref m17, .ref m18, .ref m19, .int 0, .int 0, .int 0, .int (-1), .int 0, .int 0, .ref m26, .ref m27, .ref m28, .ref m29, .ref m30, .ref m31, .ref m32, .ref m33, .ref m34, .ref m35, .ref m36, .ref m37, .ref m38, .ref m39, .int 0, .int 0, .ref m42, .ref m43, .ref m44, .ref m45, .ref m46, .ref m47, .int 0, .int 0, .int 0, .int 0, .int (-1), .ref m53, .ref m54, .ref m55, .ref m56, .ref m57, .ref m58, .ref m59, .ref m60, .ref m61, .ref m62, .int 0, .ref m64, .ref m65, .ref m66, .ref m67, .ref m68, .ref m69, .ref m70, .ref m71, .ref m72, .ref m73, .int 0, .ref m75, .int 0])), (m13, .inl (cM13, 8, .inl (fun _ => 0))), (m14, .inl (cM14, 32, .inl (fun _ => 0))), (m18, .inl (cM18, 32, .inl (fun _ => 0))), (m15, .inl (cM15, 32, .inl (fun _ => 0))), (m16, .inl (cM16, 32, .inl (fun _ => 0))), (m17, .inl (cM17, 96, .inl (fun _ => 0)))]) [0, 1, 2, 3, 4, 5, 6] rfl
    have hDc := hD.sub (ws' := [(y0, .inr (12, [.ref m0, .ref m1, .ref m2, .ref m3, .ref m4, .int 0, .ref m6, .ref m7, .ref m8, .ref m9, .ref m10, .ref m11, .ref m12, .ref m13, .ref m14, .ref m15, .ref m16, .ref m17, .ref m18, .ref m19, .int 0, .int 0, .int 0, .int (-1), .int 0, .int 0, .ref m26, .ref m27, .ref m28, .ref m29, .ref m30, .ref m31, .ref m32, .ref m33, .ref m34, .ref m35, .ref m36, .ref m37, .ref m38, .ref m39, .int 0, .int 0, .ref m42, .ref m43, .ref m44, .ref m45, .ref m46, .ref m47, .int 0, .int 0, .int 0, .int 0, .int (-1), .ref m53, .ref m54, .ref m55, .ref m56, .ref m57, .ref m58, .ref m59, .ref m60, .ref m61, .ref m62, .int 0, .ref m64, .ref m65, .ref m66, .ref m67, .ref m68, .ref m69, .ref m70, .ref m71, .ref m72, .ref m73, .int 0, .ref m75, .int 0])), (m13, .inl (cM13, 8, .inl (fun _ => 0))), (m14, .inl (cM14, 32, .inl (fun _ => 0))), (m18, .inl (cM18, 32, .inl (fun _ => 0))), (m15, .inl (cM15, 32, .inl (fun _ => 0))), (m16, .inl (cM16, 32, .inl (fun _ => 0))), (m17, .inl (cM17, 96, .inl (fun _ => 0)))]) [0, 1, 2, 3, 4, 5, 6] (by decide) rfl
    have hKc := hK.sub (tys' := [(cM13, .int), (cM14, .int), (cM18, .boolean), (cM15, .int), (cM16, .int), (cM17, .int)]) [3, 4, 5, 6, 7, 8] rfl
    have hFc := va_free (wc := [(y0, .inr (12, [.ref m0, .ref m1, .ref m2, .ref m3, .ref m4, .int 0, .ref m6, .ref m7, .ref m8, .ref m9, .ref m10, .ref m11, .ref m12, .ref m13, .ref m14, .ref m15, .ref m16, .ref m17, .ref m18, .ref m19, .int 0, .int 0, .int 0, .int (-1), .int 0, .int 0, .ref m26, .ref m27, .ref m28, .ref m29, .ref m30, .ref m31, .ref m32, .ref m33, .ref m34, .ref m35, .ref m36, .ref m37, .ref m38, .ref m39, .int 0, .int 0, .ref m42, .ref m43, .ref m44, .ref m45, .ref m46, .ref m47, .int 0, .int 0, .int 0, .int 0, .int (-1), .ref m53, .ref m54, .ref m55, .ref m56, .ref m57, .ref m58, .ref m59, .ref m60, .ref m61, .ref m62, .int 0, .ref m64, .ref m65, .ref m66, .ref m67, .ref m68, .ref m69, .ref m70, .ref m71, .ref m72, .ref m73, .int 0, .ref m75, .int 0])), (m13, .inl (cM13, 8, .inl (fun _ => 0))), (m14, .inl (cM14, 32, .inl (fun _ => 0))), (m18, .inl (cM18, 32, .inl (fun _ => 0))), (m15, .inl (cM15, 32, .inl (fun _ => 0))), (m16, .inl (cM16, 32, .inl (fun _ => 0))), (m17, .inl (cM17, 96, .inl (fun _ => 0)))]) hD hS hA [0, 1, 2, 3, 4, 5, 6] rfl
    refine va_calli (va_runV (As := [.int (xs 1), .int (xs 2), .int 1, .int (xs 4), .int (xs 5), .int (xs 6), .int (xs 7), .int (xs 8)]) (rest := [.int (zFac (xs 1) (xs 2) (xs 4) (xs 5) (xs 6) (xs 7) (xs 8))]) ⟨hx, hb, hml, hown, htb⟩ (c_X13_factory l dC dI H.size y0 (xs 1) (xs 2) 1 (xs 4) (xs 5) (xs 6) (xs 7) (xs 8) m0 m1 m2 m3 m4 m6 m7 m8 m9 m10 m11 m12 m13 m14 m15 m16 m17 m18 m19 m26 m27 m28 m29 m30 m31 m32 m33 m34 m35 m36 m37 m38 m39 m42 m43 m44 m45 m46 m47 m53 m54 m55 m56 m57 m58 m59 m60 m61 m62 m64 m65 m66 m67 m68 m69 m70 m71 m72 m73 m75 cM13 cM14 cM18 cM15 cM16 cM17) (cwV 8 htb (gd_V kw_424 kw_425 kw_426 kw_345 kw_594) rfl rfl rfl (by decide +kernel) ⟨Nat.le_of_ble_eq_true rfl, Nat.le_of_ble_eq_true rfl⟩) ⟨fun a U g mk q => by obtain ⟨q0, q1, qP, qK, qD⟩ := q; exact ⟨q0, q1, qP, va_K.moved (u := U) (U := U.calling g mk a) (Vm.Alike.refl U.vm) qK, qD⟩, va_recv hKc hPc (ci := 12) (q0 := 0) rfl rfl, fun U hU hW => ⟨rfl, by rw [hU], by rw [hU]; exact hPc, va_K.moved hW.alike hKc, hDc.weaken (fun _ _ _ _ => trivial)⟩⟩ rfl rfl hl.1 rfl (lv_room (Nat.le_of_ble_eq_true rfl)) dL_law_398 ⟨(Nat.le_of_ble_eq_true rfl), (Nat.le_of_ble_eq_true rfl)⟩) hS (fun q _ h => hFc q h) hFc (fun r u t H1 locs ht hvm hw hB hz1 hk1 hS => ?_)
    subst hw
    obtain ⟨hP1, hK1, hD1⟩ := hB
    rw [ht] at hP1
    have hK1 := va_K.moved hvm.symm hK1
    obtain ⟨hP, hD⟩ := va_join (wr := []) (w1 := []) hP hD [0, 1, 2, 3, 4, 5, 6] [] rfl rfl (by decide) (by decide) hk1 hFc hP1 hD1
    have hK := hK.app hK1
    generalize H1 = H at hP hS ⊢
    have hP : va_P (dC, dI) vwCl [] H := hP
    have hD : va_D A [] := hD
    have hK : va_K (dC, dI) vwCl [(cC1, .object RX2), (cB2, .object RX8), (cB7, .int), (cM13, .int), (cM14, .int), (cM18, .boolean), (cM15, .int), (cM16, .int), (cM17, .int)] s := hK
    refine W.widen (k := 724) (n := 35019) (Nat.le_of_ble_eq_true rfl) (Nat.le_of_ble_eq_true rfl) ?_
    refine lv_icmp_eq (tgt := 885) hx hb dL_law_401 (by decide) (fun _ => ?_) (fun c_66 => absurd rfl c_66)
    refine lv_iinc (v := 9) (lv' := [(4, .int 9), (3, .ref o3), (2, .ref y0), (1, .ref x0), (0, .ref b)]) hx hb dL_law_885 hl (k := 0) rfl (by decide) (by decide) rfl (fun ls hl => ?_)
    refine lv_goto (tgt := 23) hx hb dL_law_888 (by decide) ?_
    refine lv_iload hx hb dL_law_23 (lv_at hl 0 rfl) ?_
    refine lv_aload_n hx hb dL_law_25 rfl (lv_at hl 4 rfl) ?_
    refine va_slen hx hb hX hbl hbA hS dL_law_26 ?_
    refine lv_topi (fun z_67 ez_67 => ?_)
    obtain rfl : z_67 = 9 := ez_67.trans (by decide)
    refine lv_bipush (v := 9) hx hb dL_law_27 (by decide) ?_
    refine lv_isub hx hb dL_law_29 ?_
    refine lv_topi (fun z_68 ez_68 => ?_)
    obtain rfl : z_68 = 0 := ez_68.trans (by decide)
    refine lv_icmp_gt (tgt := 891) hx hb dL_law_30 (by decide) (fun _ => ?_) (fun c_69 => absurd (by decide) c_69)
    refine lv_iconst (v := 1) hx hb dL_law_891 (by decide) ?_
    refine va_forget (fun q hq => hAi _ (hS.2.2 q hq)) ?_
    refine W.widen (k := 600002) (n := 7302232) (Nat.le_of_ble_eq_true rfl) (Nat.le_of_ble_eq_true rfl) ?_
    exact lw_ret hx hb hr hlocks dL_law_892

set_option maxHeartbeats 4000000 in
set_option maxRecDepth 100000 in
theorem law_case_4 {p : Program} {l : Launch} {e : Env} {s : State} {m : MethodId} {below : List Frame} {meth : Method} {c : Code} {b : Nat} {xs : Nat → Int32} {dC : Nat → ClassId} {dI : Nat → Nat → Nat} {A : Nat → Prop} (hl9 : l.stackTraces = false) (C0 : lw_At p s m meth c b 9 xs) (hA : ∀ q : Nat, s.heap.size ≤ q → A q) (hAi : ∀ q : Nat, A q → s.heap.size ≤ q) (hbA : ¬ A b) (hG : GE A s) (x0 : Nat) (a1 : Nat) (a2 : Nat) (a3 : Nat) (a4 : Nat) (a5 : Nat) (a6 : Nat) (a7 : Nat) (a8 : Nat) (cC2 : ClassId) (y0 : Nat) (m0 : Nat) (m1 : Nat) (m2 : Nat) (m3 : Nat) (m4 : Nat) (m6 : Nat) (m7 : Nat) (m8 : Nat) (m9 : Nat) (m10 : Nat) (m11 : Nat) (m12 : Nat) (m13 : Nat) (m14 : Nat) (m15 : Nat) (m16 : Nat) (m17 : Nat) (m18 : Nat) (m19 : Nat) (m26 : Nat) (m27 : Nat) (m28 : Nat) (m29 : Nat) (m30 : Nat) (m31 : Nat) (m32 : Nat) (m33 : Nat) (m34 : Nat) (m35 : Nat) (m36 : Nat) (m37 : Nat) (m38 : Nat) (m39 : Nat) (m42 : Nat) (m43 : Nat) (m44 : Nat) (m45 : Nat) (m46 : Nat) (m47 : Nat) (m53 : Nat) (m54 : Nat) (m55 : Nat) (m56 : Nat) (m57 : Nat) (m58 : Nat) (m59 : Nat) (m60 : Nat) (m61 : Nat) (m62 : Nat) (m64 : Nat) (m65 : Nat) (m66 : Nat) (m67 : Nat) (m68 : Nat) (m69 : Nat) (m70 : Nat) (m71 : Nat) (m72 : Nat) (m73 : Nat) (m75 : Nat) (cM19 : ClassId) (o3 : Nat) (H : Heap) (locs : List Loc) (ls : Array Slot) (hK : va_K (dC, dI) vwCl [(cC2, .char), (cM19, .byte)] s) (hP : va_P (dC, dI) vwCl [(x0, .inr (11, [.ref a1, .ref a2, .ref a3, .ref a4, .ref a5, .ref a6, .ref a7, .ref a8, .int 0, .int 0, .int 0, .int (-1)])), (a2, .inl (cC2, 1200, .inl (fun _ => 0))), (y0, .inr (12, [.ref m0, .ref m1, .ref m2, .ref m3, .ref m4, .int 0, .ref m6, .ref m7, .ref m8, .ref m9, .ref m10, .ref m11, .ref m12, .ref m13, .ref m14, .ref m15, .ref m16, .ref m17, .ref m18, .ref m19, .int 0, .int 0, .int 0, .int (-1), .int 0, .int 0, .ref m26, .ref m27, .ref m28, .ref m29, .ref m30, .ref m31, .ref m32, .ref m33, .ref m34, .ref m35, .ref m36, .ref m37, .ref m38, .ref m39, .int 0, .int 0, .ref m42, .ref m43, .ref m44, .ref m45, .ref m46, .ref m47, .int 0, .int 0, .int 0, .int 0, .int (-1), .ref m53, .ref m54, .ref m55, .ref m56, .ref m57, .ref m58, .ref m59, .ref m60, .ref m61, .ref m62, .int 0, .ref m64, .ref m65, .ref m66, .ref m67, .ref m68, .ref m69, .ref m70, .ref m71, .ref m72, .ref m73, .int 0, .ref m75, .int 0])), (m19, .inl (cM19, 1200, .inl (fun _ => 0)))] H) (hD : va_D A [(x0, .inr (11, [.ref a1, .ref a2, .ref a3, .ref a4, .ref a5, .ref a6, .ref a7, .ref a8, .int 0, .int 0, .int 0, .int (-1)])), (a2, .inl (cC2, 1200, .inl (fun _ => 0))), (y0, .inr (12, [.ref m0, .ref m1, .ref m2, .ref m3, .ref m4, .int 0, .ref m6, .ref m7, .ref m8, .ref m9, .ref m10, .ref m11, .ref m12, .ref m13, .ref m14, .ref m15, .ref m16, .ref m17, .ref m18, .ref m19, .int 0, .int 0, .int 0, .int (-1), .int 0, .int 0, .ref m26, .ref m27, .ref m28, .ref m29, .ref m30, .ref m31, .ref m32, .ref m33, .ref m34, .ref m35, .ref m36, .ref m37, .ref m38, .ref m39, .int 0, .int 0, .ref m42, .ref m43, .ref m44, .ref m45, .ref m46, .ref m47, .int 0, .int 0, .int 0, .int 0, .int (-1), .ref m53, .ref m54, .ref m55, .ref m56, .ref m57, .ref m58, .ref m59, .ref m60, .ref m61, .ref m62, .int 0, .ref m64, .ref m65, .ref m66, .ref m67, .ref m68, .ref m69, .ref m70, .ref m71, .ref m72, .ref m73, .int 0, .ref m75, .int 0])), (m19, .inl (cM19, 1200, .inl (fun _ => 0)))]) (hS : va_S A s.heap H locs) (hl : lv_has ls 7 [(4, .int 0), (3, .ref o3), (2, .ref y0), (1, .ref x0), (0, .ref b)]) : W p l e room_1 s m #[Value.ref b] below meth c H locs 724 35019 (lw_Z below #[Value.ref b] s) (F0 m 406 ls []) := by
  obtain ⟨hx, hb, hr, hml, hown, hts, hX, hbl, hlocks, hgv⟩ := C0
  have hown : s.vm.findClass RL = some m.cls := hown
  have htb := fun (w : Cond) (h : w ∈ tb) => hts w (tb_in w h)
  refine lv_aload_n hx hb dL_law_406 rfl (lv_at hl 3 rfl) ?_
  refine lv_aload_n hx hb dL_law_407 rfl (lv_at hl 4 rfl) ?_
  refine lv_iload hx hb dL_law_408 (lv_at hl 0 rfl) ?_
  refine lv_iconst (v := 1) hx hb dL_law_410 (by decide) ?_
  refine lv_iadd hx hb dL_law_411 ?_
  refine lv_topi (fun z_1 ez_1 => ?_)
  obtain rfl : z_1 = 1 := ez_1.trans (by decide)
  refine va_sld hx hb hX hbl hbA hS (by unfold vp_in; decide) dL_law_412 ?_
  refine lv_topi (fun z_2 ez_2 => ?_)
  obtain rfl : z_2 = xs 1 := ez_2
  refine lv_aload_n hx hb dL_law_413 rfl (lv_at hl 4 rfl) ?_
  refine lv_iload hx hb dL_law_414 (lv_at hl 0 rfl) ?_
  refine lv_iconst (v := 2) hx hb dL_law_416 (by decide) ?_
  refine lv_iadd hx hb dL_law_417 ?_
  refine lv_topi (fun z_3 ez_3 => ?_)
  obtain rfl : z_3 = 2 := ez_3.trans (by decide)
  refine va_sld hx hb hX hbl hbA hS (by unfold vp_in; decide) dL_law_418 ?_
  refine lv_topi (fun z_4 ez_4 => ?_)
  obtain rfl : z_4 = xs 2 := ez_4
  refine lv_aload_n hx hb dL_law_419 rfl (lv_at hl 4 rfl) ?_
  refine lv_iload hx hb dL_law_420 (lv_at hl 0 rfl) ?_
  refine lv_iconst (v := 3) hx hb dL_law_422 (by decide) ?_
  refine lv_iadd hx hb dL_law_423 ?_
  refine lv_topi (fun z_5 ez_5 => ?_)
  obtain rfl : z_5 = 3 := ez_5.trans (by decide)
  refine va_sld hx hb hX hbl hbA hS (by unfold vp_in; decide) dL_law_424 ?_
  refine lv_topi (fun z_6 ez_6 => ?_)
  obtain rfl : z_6 = xs 3 := ez_6
  refine lv_aload_n hx hb dL_law_425 rfl (lv_at hl 4 rfl) ?_
  refine lv_iload hx hb dL_law_426 (lv_at hl 0 rfl) ?_
  refine lv_iconst (v := 4) hx hb dL_law_428 (by decide) ?_
  refine lv_iadd hx hb dL_law_429 ?_
  refine lv_topi (fun z_7 ez_7 => ?_)
  obtain rfl : z_7 = 4 := ez_7.trans (by decide)
  refine va_sld hx hb hX hbl hbA hS (by unfold vp_in; decide) dL_law_430 ?_
  refine lv_topi (fun z_8 ez_8 => ?_)
  obtain rfl : z_8 = xs 4 := ez_8
  refine lv_aload_n hx hb dL_law_431 rfl (lv_at hl 4 rfl) ?_
  refine lv_iload hx hb dL_law_432 (lv_at hl 0 rfl) ?_
  refine lv_iconst (v := 5) hx hb dL_law_434 (by decide) ?_
  refine lv_iadd hx hb dL_law_435 ?_
  refine lv_topi (fun z_9 ez_9 => ?_)
  obtain rfl : z_9 = 5 := ez_9.trans (by decide)
  refine va_sld hx hb hX hbl hbA hS (by unfold vp_in; decide) dL_law_436 ?_
  refine lv_topi (fun z_10 ez_10 => ?_)
  obtain rfl : z_10 = xs 5 := ez_10
  have hPc := hP.sub (ws' := [(x0, .inr (11, [.ref a1, .ref a2, .ref a3, .ref a4, .ref a5, .ref a6, .ref a7, .ref a8, .int 0, .int 0, .int 0, .int (-1)])), (a2, .inl (cC2, 1200, .inl (fun _ => 0)))]) [0, 1] rfl
  have hDc := hD.sub (ws' := [(x0, .inr (11, [.ref a1, .ref a2, .ref a3, .ref a4, .ref a5, .ref a6, .ref a7, .ref a8, .int 0, .int 0, .int 0, .int (-1)])), (a2, .inl (cC2, 1200, .inl (fun _ => 0)))]) [0, 1] (by decide) rfl
  have hKc := hK.sub (tys' := [(cC2, .char)]) [0] rfl
  have hFc := va_free (wc := [(x0, .inr (11, [.ref a1, .ref a2, .ref a3, .ref a4, .ref a5, .ref a6, .ref a7, .ref a8, .int 0, .int 0, .int 0, .int (-1)])), (a2, .inl (cC2, 1200, .inl (fun _ => 0)))]) hD hS hA [0, 1] rfl
  refine va_calli (va_runV (As := [.int (xs 1), .int (xs 2), .int (xs 3), .int (xs 4), .int (xs 5)]) (rest := []) ⟨hx, hb, hml, hown, htb⟩ (c_X12_type l dC dI H.size x0 (xs 1) (xs 2) (xs 3) (xs 4) (xs 5) a1 a2 a3 a4 a5 a6 a7 a8 cC2 (fun _ => 0)) (cwV 5 htb (gd_V kw_427 kw_428 kw_429 kw_49 kw_595) rfl rfl rfl (by decide +kernel) ⟨Nat.le_of_ble_eq_true rfl, Nat.le_of_ble_eq_true rfl⟩) ⟨fun a U g mk q => by obtain ⟨q0, q1, qP, qK, qD⟩ := q; exact ⟨q0, q1, qP, va_K.moved (u := U) (U := U.calling g mk a) (Vm.Alike.refl U.vm) qK, qD⟩, va_recv hKc hPc (ci := 11) (q0 := 0) rfl rfl, fun U hU hW => ⟨rfl, by rw [hU], by rw [hU]; exact hPc, va_K.moved hW.alike hKc, hDc.weaken (fun _ _ _ _ => trivial)⟩⟩ rfl rfl hl.1 rfl (lv_room (Nat.le_of_ble_eq_true rfl)) dL_law_437 ⟨(Nat.le_of_ble_eq_true rfl), (Nat.le_of_ble_eq_true rfl)⟩) hS (fun q _ h => hFc q h) hFc (fun r_11 u t H1 locs ht hvm hw hB hz1 hk1 hS => ?_)
  have hr_11 := hw
  obtain ⟨hP1, hK1, hD1⟩ := hB
  rw [ht] at hP1
  have hK1 := va_K.moved hvm.symm hK1
  obtain ⟨hP, hD⟩ := va_join (wr := [(y0, .inr (12, [.ref m0, .ref m1, .ref m2, .ref m3, .ref m4, .int 0, .ref m6, .ref m7, .ref m8, .ref m9, .ref m10, .ref m11, .ref m12, .ref m13, .ref m14, .ref m15, .ref m16, .ref m17, .ref m18, .ref m19, .int 0, .int 0, .int 0, .int (-1), .int 0, .int 0, .ref m26, .ref m27, .ref m28, .ref m29, .ref m30, .ref m31, .ref m32, .ref m33, .ref m34, .ref m35, .ref m36, .ref m37, .ref m38, .ref m39, .int 0, .int 0, .ref m42, .ref m43, .ref m44, .ref m45, .ref m46, .ref m47, .int 0, .int 0, .int 0, .int 0, .int (-1), .ref m53, .ref m54, .ref m55, .ref m56, .ref m57, .ref m58, .ref m59, .ref m60, .ref m61, .ref m62, .int 0, .ref m64, .ref m65, .ref m66, .ref m67, .ref m68, .ref m69, .ref m70, .ref m71, .ref m72, .ref m73, .int 0, .ref m75, .int 0])), (m19, .inl (cM19, 1200, .inl (fun _ => 0)))]) (w1 := []) hP hD [0, 1] [2, 3] rfl rfl (by decide) (by decide) hk1 hFc hP1 hD1
  have hK := hK.app hK1
  generalize H1 = H at hP hS ⊢
  have hP : va_P (dC, dI) vwCl [(y0, .inr (12, [.ref m0, .ref m1, .ref m2, .ref m3, .ref m4, .int 0, .ref m6, .ref m7, .ref m8, .ref m9, .ref m10, .ref m11, .ref m12, .ref m13, .ref m14, .ref m15, .ref m16, .ref m17, .ref m18, .ref m19, .int 0, .int 0, .int 0, .int (-1), .int 0, .int 0, .ref m26, .ref m27, .ref m28, .ref m29, .ref m30, .ref m31, .ref m32, .ref m33, .ref m34, .ref m35, .ref m36, .ref m37, .ref m38, .ref m39, .int 0, .int 0, .ref m42, .ref m43, .ref m44, .ref m45, .ref m46, .ref m47, .int 0, .int 0, .int 0, .int 0, .int (-1), .ref m53, .ref m54, .ref m55, .ref m56, .ref m57, .ref m58, .ref m59, .ref m60, .ref m61, .ref m62, .int 0, .ref m64, .ref m65, .ref m66, .ref m67, .ref m68, .ref m69, .ref m70, .ref m71, .ref m72, .ref m73, .int 0, .ref m75, .int 0])), (m19, .inl (cM19, 1200, .inl (fun _ => 0)))] H := hP
  have hD : va_D A [(y0, .inr (12, [.ref m0, .ref m1, .ref m2, .ref m3, .ref m4, .int 0, .ref m6, .ref m7, .ref m8, .ref m9, .ref m10, .ref m11, .ref m12, .ref m13, .ref m14, .ref m15, .ref m16, .ref m17, .ref m18, .ref m19, .int 0, .int 0, .int 0, .int (-1), .int 0, .int 0, .ref m26, .ref m27, .ref m28, .ref m29, .ref m30, .ref m31, .ref m32, .ref m33, .ref m34, .ref m35, .ref m36, .ref m37, .ref m38, .ref m39, .int 0, .int 0, .ref m42, .ref m43, .ref m44, .ref m45, .ref m46, .ref m47, .int 0, .int 0, .int 0, .int 0, .int (-1), .ref m53, .ref m54, .ref m55, .ref m56, .ref m57, .ref m58, .ref m59, .ref m60, .ref m61, .ref m62, .int 0, .ref m64, .ref m65, .ref m66, .ref m67, .ref m68, .ref m69, .ref m70, .ref m71, .ref m72, .ref m73, .int 0, .ref m75, .int 0])), (m19, .inl (cM19, 1200, .inl (fun _ => 0)))] := hD
  have hK : va_K (dC, dI) vwCl [(cC2, .char), (cM19, .byte)] s := hK
  refine W.widen (k := 724) (n := 35019) (Nat.le_of_ble_eq_true rfl) (Nat.le_of_ble_eq_true rfl) ?_
  refine lv_aload_n hx hb dL_law_440 rfl (lv_at hl 2 rfl) ?_
  refine lv_aload_n hx hb dL_law_441 rfl (lv_at hl 4 rfl) ?_
  refine lv_iload hx hb dL_law_442 (lv_at hl 0 rfl) ?_
  refine lv_iconst (v := 1) hx hb dL_law_444 (by decide) ?_
  refine lv_iadd hx hb dL_law_445 ?_
  refine lv_topi (fun z_12 ez_12 => ?_)
  obtain rfl : z_12 = 1 := ez_12.trans (by decide)
  refine va_sld hx hb hX hbl hbA hS (by unfold vp_in; decide) dL_law_446 ?_
  refine lv_topi (fun z_13 ez_13 => ?_)
  obtain rfl : z_13 = xs 1 := ez_13
  refine lv_aload_n hx hb dL_law_447 rfl (lv_at hl 4 rfl) ?_
  refine lv_iload hx hb dL_law_448 (lv_at hl 0 rfl) ?_
  refine lv_iconst (v := 2) hx hb dL_law_450 (by decide) ?_
  refine lv_iadd hx hb dL_law_451 ?_
  refine lv_topi (fun z_14 ez_14 => ?_)
  obtain rfl : z_14 = 2 := ez_14.trans (by decide)
  refine va_sld hx hb hX hbl hbA hS (by unfold vp_in; decide) dL_law_452 ?_
  refine lv_topi (fun z_15 ez_15 => ?_)
  obtain rfl : z_15 = xs 2 := ez_15
  refine lv_aload_n hx hb dL_law_453 rfl (lv_at hl 4 rfl) ?_
  refine lv_iload hx hb dL_law_454 (lv_at hl 0 rfl) ?_
  refine lv_iconst (v := 3) hx hb dL_law_456 (by decide) ?_
  refine lv_iadd hx hb dL_law_457 ?_
  refine lv_topi (fun z_16 ez_16 => ?_)
  obtain rfl : z_16 = 3 := ez_16.trans (by decide)
  refine va_sld hx hb hX hbl hbA hS (by unfold vp_in; decide) dL_law_458 ?_
  refine lv_topi (fun z_17 ez_17 => ?_)
  obtain rfl : z_17 = xs 3 := ez_17
  refine lv_aload_n hx hb dL_law_459 rfl (lv_at hl 4 rfl) ?_
  refine lv_iload hx hb dL_law_460 (lv_at hl 0 rfl) ?_
  refine lv_iconst (v := 4) hx hb dL_law_462 (by decide) ?_
  refine lv_iadd hx hb dL_law_463 ?_
  refine lv_topi (fun z_18 ez_18 => ?_)
  obtain rfl : z_18 = 4 := ez_18.trans (by decide)
  refine va_sld hx hb hX hbl hbA hS (by unfold vp_in; decide) dL_law_464 ?_
  refine lv_topi (fun z_19 ez_19 => ?_)
  obtain rfl : z_19 = xs 4 := ez_19
  refine lv_aload_n hx hb dL_law_465 rfl (lv_at hl 4 rfl) ?_
  refine lv_iload hx hb dL_law_466 (lv_at hl 0 rfl) ?_
  refine lv_iconst (v := 5) hx hb dL_law_468 (by decide) ?_
  refine lv_iadd hx hb dL_law_469 ?_
  refine lv_topi (fun z_20 ez_20 => ?_)
  obtain rfl : z_20 = 5 := ez_20.trans (by decide)
  refine va_sld hx hb hX hbl hbA hS (by unfold vp_in; decide) dL_law_470 ?_
  refine lv_topi (fun z_21 ez_21 => ?_)
  obtain rfl : z_21 = xs 5 := ez_21
  have hPc := hP.sub (ws' := [(y0, .inr (12, [.ref m0, .ref m1, .ref m2, .ref m3, .ref m4, .int 0, .ref m6, .ref m7, .ref m8, .ref m9, .ref m10, .ref m11, .ref m12, .ref m13, .ref m14, .ref m15, .ref m16, .ref m17, .ref m18, .ref m19, .int 0, .int 0, .int 0, .int (-1), .int 0, .int 0, .ref m26, .ref m27, .ref m28, .ref m29, .ref m30, .ref m31, .ref m32, .ref m33, .ref m34, .ref m35, .ref m36, .ref m37, .ref m38, .ref m39, .int 0, .int 0, .ref m42, .ref m43, .ref m44, .ref m45, .ref m46, .ref m47, .int 0, .int 0, .int 0, .int 0, .int (-1), .ref m53, .ref m54, .ref m55, .ref m56, .ref m57, .ref m58, .ref m59, .ref m60, .ref m61, .ref m62, .int 0, .ref m64, .ref m65, .ref m66, .ref m67, .ref m68, .ref m69, .ref m70, .ref m71, .ref m72, .ref m73, .int 0, .ref m75, .int 0])), (m19, .inl (cM19, 1200, .inl (fun _ => 0)))]) [0, 1] rfl
  have hDc := hD.sub (ws' := [(y0, .inr (12, [.ref m0, .ref m1, .ref m2, .ref m3, .ref m4, .int 0, .ref m6, .ref m7, .ref m8, .ref m9, .ref m10, .ref m11, .ref m12, .ref m13, .ref m14, .ref m15, .ref m16, .ref m17, .ref m18, .ref m19, .int 0, .int 0, .int 0, .int (-1), .int 0, .int 0, .ref m26, .ref m27, .ref m28, .ref m29, .ref m30, .ref m31, .ref m32, .ref m33, .ref m34, .ref m35, .ref m36, .ref m37, .ref m38, .ref m39, .int 0, .int 0, .ref m42, .ref m43, .ref m44, .ref m45, .ref m46, .ref m47, .int 0, .int 0, .int 0, .int 0, .int (-1), .ref m53, .ref m54, .ref m55, .ref m56, .ref m57, .ref m58, .ref m59, .ref m60, .ref m61, .ref m62, .int 0, .ref m64, .ref m65, .ref m66, .ref m67, .ref m68, .ref m69, .ref m70, .ref m71, .ref m72, .ref m73, .int 0, .ref m75, .int 0])), (m19, .inl (cM19, 1200, .inl (fun _ => 0)))]) [0, 1] (by decide) rfl
  have hKc := hK.sub (tys' := [(cM19, .byte)]) [1] rfl
  have hFc := va_free (wc := [(y0, .inr (12, [.ref m0, .ref m1, .ref m2, .ref m3, .ref m4, .int 0, .ref m6, .ref m7, .ref m8, .ref m9, .ref m10, .ref m11, .ref m12, .ref m13, .ref m14, .ref m15, .ref m16, .ref m17, .ref m18, .ref m19, .int 0, .int 0, .int 0, .int (-1), .int 0, .int 0, .ref m26, .ref m27, .ref m28, .ref m29, .ref m30, .ref m31, .ref m32, .ref m33, .ref m34, .ref m35, .ref m36, .ref m37, .ref m38, .ref m39, .int 0, .int 0, .ref m42, .ref m43, .ref m44, .ref m45, .ref m46, .ref m47, .int 0, .int 0, .int 0, .int 0, .int (-1), .ref m53, .ref m54, .ref m55, .ref m56, .ref m57, .ref m58, .ref m59, .ref m60, .ref m61, .ref m62, .int 0, .ref m64, .ref m65, .ref m66, .ref m67, .ref m68, .ref m69, .ref m70, .ref m71, .ref m72, .ref m73, .int 0, .ref m75, .int 0])), (m19, .inl (cM19, 1200, .inl (fun _ => 0)))]) hD hS hA [0, 1] rfl
  refine va_calli (va_runV (As := [.int (xs 1), .int (xs 2), .int (xs 3), .int (xs 4), .int (xs 5)]) (rest := [.int r_11]) ⟨hx, hb, hml, hown, htb⟩ (c_X13_type l dC dI H.size y0 (xs 1) (xs 2) (xs 3) (xs 4) (xs 5) m0 m1 m2 m3 m4 m6 m7 m8 m9 m10 m11 m12 m13 m14 m15 m16 m17 m18 m19 m26 m27 m28 m29 m30 m31 m32 m33 m34 m35 m36 m37 m38 m39 m42 m43 m44 m45 m46 m47 m53 m54 m55 m56 m57 m58 m59 m60 m61 m62 m64 m65 m66 m67 m68 m69 m70 m71 m72 m73 m75 cM19) (cwV 5 htb (gd_V kw_430 kw_431 kw_432 kw_345 kw_596) rfl rfl rfl (by decide +kernel) ⟨Nat.le_of_ble_eq_true rfl, Nat.le_of_ble_eq_true rfl⟩) ⟨fun a U g mk q => by obtain ⟨q0, q1, qP, qK, qD⟩ := q; exact ⟨q0, q1, qP, va_K.moved (u := U) (U := U.calling g mk a) (Vm.Alike.refl U.vm) qK, qD⟩, va_recv hKc hPc (ci := 12) (q0 := 0) rfl rfl, fun U hU hW => ⟨rfl, by rw [hU], by rw [hU]; exact hPc, va_K.moved hW.alike hKc, hDc.weaken (fun _ _ _ _ => trivial)⟩⟩ rfl rfl hl.1 rfl (lv_room (Nat.le_of_ble_eq_true rfl)) dL_law_471 ⟨(Nat.le_of_ble_eq_true rfl), (Nat.le_of_ble_eq_true rfl)⟩) hS (fun q _ h => hFc q h) hFc (fun r_22 u t H1 locs ht hvm hw hB hz1 hk1 hS => ?_)
  have hr_22 := hw
  obtain ⟨hP1, hK1, hD1⟩ := hB
  rw [ht] at hP1
  have hK1 := va_K.moved hvm.symm hK1
  obtain ⟨hP, hD⟩ := va_join (wr := []) (w1 := []) hP hD [0, 1] [] rfl rfl (by decide) (by decide) hk1 hFc hP1 hD1
  have hK := hK.app hK1
  generalize H1 = H at hP hS ⊢
  have hP : va_P (dC, dI) vwCl [] H := hP
  have hD : va_D A [] := hD
  have hK : va_K (dC, dI) vwCl [(cC2, .char), (cM19, .byte)] s := hK
  refine W.widen (k := 724) (n := 35019) (Nat.le_of_ble_eq_true rfl) (Nat.le_of_ble_eq_true rfl) ?_
  refine lv_icmp_eq (tgt := 885) hx hb dL_law_474 (by decide) (fun _ => ?_) (fun c_23 => absurd (hr_11.trans ((type_eq (xs 1) (xs 2) (xs 3) (xs 4) (xs 5)).symm.trans hr_22.symm)) c_23)
  refine lv_iinc (v := 9) (lv' := [(4, .int 9), (3, .ref o3), (2, .ref y0), (1, .ref x0), (0, .ref b)]) hx hb dL_law_885 hl (k := 0) rfl (by decide) (by decide) rfl (fun ls hl => ?_)
  refine lv_goto (tgt := 23) hx hb dL_law_888 (by decide) ?_
  refine lv_iload hx hb dL_law_23 (lv_at hl 0 rfl) ?_
  refine lv_aload_n hx hb dL_law_25 rfl (lv_at hl 4 rfl) ?_
  refine va_slen hx hb hX hbl hbA hS dL_law_26 ?_
  refine lv_topi (fun z_24 ez_24 => ?_)
  obtain rfl : z_24 = 9 := ez_24.trans (by decide)
  refine lv_bipush (v := 9) hx hb dL_law_27 (by decide) ?_
  refine lv_isub hx hb dL_law_29 ?_
  refine lv_topi (fun z_25 ez_25 => ?_)
  obtain rfl : z_25 = 0 := ez_25.trans (by decide)
  refine lv_icmp_gt (tgt := 891) hx hb dL_law_30 (by decide) (fun _ => ?_) (fun c_26 => absurd (by decide) c_26)
  refine lv_iconst (v := 1) hx hb dL_law_891 (by decide) ?_
  refine va_forget (fun q hq => hAi _ (hS.2.2 q hq)) ?_
  refine W.widen (k := 600002) (n := 7302232) (Nat.le_of_ble_eq_true rfl) (Nat.le_of_ble_eq_true rfl) ?_
  exact lw_ret hx hb hr hlocks dL_law_892
