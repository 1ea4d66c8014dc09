set_option maxHeartbeats 4000000 in
set_option maxRecDepth 100000 in
theorem law_case_5 {p : Program} {l : Launch} {e : Env} {s : State} {m : MethodId} {below : List Frame} {meth : Method} {c : Code} {b : Nat} {xs : Nat → Int32} {dC : Nat → ClassId} {dI : Nat → Nat → Nat} {A : Nat → Prop} (hl9 : l.stackTraces = false) (C0 : lw_At p s m meth c b 9 xs) (hA : ∀ q : Nat, s.heap.size ≤ q → A q) (hAi : ∀ q : Nat, A q → s.heap.size ≤ q) (hbA : ¬ A b) (hG : GE A s) (x0 : Nat) (a1 : Nat) (a2 : Nat) (a3 : Nat) (a4 : Nat) (a5 : Nat) (a6 : Nat) (a7 : Nat) (a8 : Nat) (mk1 : Nat) (mk2 : Nat) (mk3 : Nat) (mk4 : Nat) (mk5 : Nat) (wb : Nat) (wc : Nat) (rn : Nat) (pe1 : Nat) (pe2 : Nat) (pe3 : Nat) (pe4 : Nat) (pe5 : Nat) (y0 : Nat) (m0 : Nat) (m1 : Nat) (m2 : Nat) (m3 : Nat) (m4 : Nat) (m6 : Nat) (m7 : Nat) (m8 : Nat) (m9 : Nat) (m10 : Nat) (m11 : Nat) (m12 : Nat) (m13 : Nat) (m14 : Nat) (m15 : Nat) (m16 : Nat) (m17 : Nat) (m18 : Nat) (m19 : Nat) (m26 : Nat) (m27 : Nat) (m28 : Nat) (m29 : Nat) (m30 : Nat) (m31 : Nat) (m32 : Nat) (m33 : Nat) (m34 : Nat) (m35 : Nat) (m36 : Nat) (m37 : Nat) (m38 : Nat) (m39 : Nat) (m42 : Nat) (m43 : Nat) (m44 : Nat) (m45 : Nat) (m46 : Nat) (m47 : Nat) (m53 : Nat) (m54 : Nat) (m55 : Nat) (m56 : Nat) (m57 : Nat) (m58 : Nat) (m59 : Nat) (m60 : Nat) (m61 : Nat) (m62 : Nat) (m64 : Nat) (m65 : Nat) (m66 : Nat) (m67 : Nat) (m68 : Nat) (m69 : Nat) (m70 : Nat) (m71 : Nat) (m72 : Nat) (m73 : Nat) (m75 : Nat) (cM61 : ClassId) (cM62 : ClassId) (cM60 : ClassId) (o3 : Nat) (H : Heap) (locs : List Loc) (ls : Array Slot) (hK : va_K (dC, dI) vwCl [(cM61, .boolean), (cM62, .boolean), (cM60, .int)] s) (hP : va_P (dC, dI) vwCl [(x0, .inr (11, [.ref a1, .ref a2, .ref a3, .ref a4, .ref a5, .ref a6, .ref a7, .ref a8, .int 0, .int 0, .int 0, .int (-1)])), (a8, .inr (5, [.ref a6, .ref a1, .ref a7, .ref mk1, .ref mk2, .int 0, .ref mk3, .int 0, .ref mk4, .ref mk5, .null, .int 0, .int (-1)])), (a6, .inr (10, [.ref a3, .ref wb, .ref wc, .int 0])), (a7, .inr (4, [.ref rn, .int 0])), (a4, .inr (7, [.ref a3, .null, .int 0, .int 0, .int 0, .null])), (a3, .inr (6, [.ref pe1, .ref pe2, .ref pe3, .ref pe4, .ref pe5, .int 0, .int 0, .int 0])), (y0, .inr (12, [.ref m0, .ref m1, .ref m2, .ref m3, .ref m4, .int 0, .ref m6, .ref m7, .ref m8, .ref m9, .ref m10, .ref m11, .ref m12, .ref m13, .ref m14, .ref m15, .ref m16, .ref m17, .ref m18, .ref m19, .int 0, .int 0, .int 0, .int (-1), .int 0, .int 0, .ref m26, .ref m27, .ref m28, .ref m29, .ref m30, .ref m31, .ref m32, .ref m33, .ref m34, .ref m35, .ref m36, .ref m37, .ref m38, .ref m39, .int 0, .int 0, .ref m42, .ref m43, .ref m44, .ref m45, .ref m46, .ref m47, .int 0, .int 0, .int 0, .int 0, .int (-1), .ref m53, .ref m54, .ref m55, .ref m56, .ref m57, .ref m58, .ref m59, .ref m60, .ref m61, .ref m62, .int 0, .ref m64, .ref m65, .ref m66, .ref m67, .ref m68, .ref m69, .ref m70, .ref m71, .ref m72, .ref m73, .int 0, .ref m75, .int 0])), (m61, .inl (cM61, 80, .inl (fun _ => 0))), (m62, .inl (cM62, 80, .inl (fun _ => 0))), (m60, .inl (cM60, 80, .inl (fun _ => 0)))] H) (hD : va_D A [(x0, .inr (11, [.ref a1, .ref a2, .ref a3, .ref a4, .ref a5, .ref a6, .ref a7, .ref a8, .int 0, .int 0, .int 0, .int (-1)])), (a8, .inr (5, [.ref a6, .ref a1, .ref a7, .ref mk1, .ref mk2, .int 0, .ref mk3, .int 0, .ref mk4, .ref mk5, .null, .int 0, .int (-1)])), (a6, .inr (10, [.ref a3, .ref wb, .ref wc, .int 0])), (a7, .inr (4, [.ref rn, .int 0])), (a4, .inr (7, [.ref a3, .null, .int 0, .int 0, .int 0, .null])), (a3, .inr (6, [.ref pe1, .ref pe2, .ref pe3, .ref pe4, .ref pe5, .int 0, .int 0, .int 0])), (y0, .inr (12, [.ref m0, .ref m1, .ref m2, .ref m3, .ref m4, .int 0, .ref m6, .ref m7, .ref m8, .ref m9, .ref m10, .ref m11, .ref m12, .ref m13, .ref m14, .ref m15, .ref m16, .ref m17, .ref m18, .ref m19, .int 0, .int 0, .int 0, .int (-1), .int 0, .int 0, .ref m26, .ref m27, .ref m28, .ref m29, .ref m30, .ref m31, .ref m32, .ref m33, .ref m34, .ref m35, .ref m36, .ref m37, .ref m38, .ref m39, .int 0, .int 0, .ref m42, .ref m43, .ref m44, .ref m45, .ref m46, .ref m47, .int 0, .int 0, .int 0, .int 0, .int (-1), .ref m53, .ref m54, .ref m55, .ref m56, .ref m57, .ref m58, .ref m59, .ref m60, .ref m61, .ref m62, .int 0, .ref m64, .ref m65, .ref m66, .ref m67, .ref m68, .ref m69, .ref m70, .ref m71, .ref m72, .ref m73, .int 0, .ref m75, .int 0])), (m61, .inl (cM61, 80, .inl (fun _ => 0))), (m62, .inl (cM62, 80, .inl (fun _ => 0))), (m60, .inl (cM60, 80, .inl (fun _ => 0)))]) (hS : va_S A s.heap H locs) (hl : lv_has ls 7 [(4, .int 0), (3, .ref o3), (2, .ref y0), (1, .ref x0), (0, .ref b)]) : W p l e room_1 s m #[Value.ref b] below meth c H locs 724 35019 (lw_Z below #[Value.ref b] s) (F0 m 479 ls []) := by
  obtain ⟨hx, hb, hr, hml, hown, hts, hX, hbl, hlocks, hgv⟩ := C0
  have hown : s.vm.findClass RL = some m.cls := hown
  have htb := fun (w : Cond) (h : w ∈ tb) => hts w (tb_in w h)
  refine lv_aload_n hx hb dL_law_479 rfl (lv_at hl 3 rfl) ?_
  refine lv_aload_n hx hb dL_law_480 rfl (lv_at hl 1 rfl) ?_
  have hPc := hP.sub (ws' := [(x0, .inr (11, [.ref a1, .ref a2, .ref a3, .ref a4, .ref a5, .ref a6, .ref a7, .ref a8, .int 0, .int 0, .int 0, .int (-1)])), (a8, .inr (5, [.ref a6, .ref a1, .ref a7, .ref mk1, .ref mk2, .int 0, .ref mk3, .int 0, .ref mk4, .ref mk5, .null, .int 0, .int (-1)])), (a6, .inr (10, [.ref a3, .ref wb, .ref wc, .int 0])), (a7, .inr (4, [.ref rn, .int 0])), (a4, .inr (7, [.ref a3, .null, .int 0, .int 0, .int 0, .null])), (a3, .inr (6, [.ref pe1, .ref pe2, .ref pe3, .ref pe4, .ref pe5, .int 0, .int 0, .int 0]))]) [0, 1, 2, 3, 4, 5] rfl
  have hDc := hD.sub (ws' := [(x0, .inr (11, [.ref a1, .ref a2, .ref a3, .ref a4, .ref a5, .ref a6, .ref a7, .ref a8, .int 0, .int 0, .int 0, .int (-1)])), (a8, .inr (5, [.ref a6, .ref a1, .ref a7, .ref mk1, .ref mk2, .int 0, .ref mk3, .int 0, .ref mk4, .ref mk5, .null, .int 0, .int (-1)])), (a6, .inr (10, [.ref a3, .ref wb, .ref wc, .int 0])), (a7, .inr (4, [.ref rn, .int 0])), (a4, .inr (7, [.ref a3, .null, .int 0, .int 0, .int 0, .null])), (a3, .inr (6, [.ref pe1, .ref pe2, .ref pe3, .ref pe4, .ref pe5, .int 0, .int 0, .int 0]))]) [0, 1, 2, 3, 4, 5] (by decide) rfl
  have hKc := hK.sub (tys' := []) [] rfl
  have hFc := va_free (wc := [(x0, .inr (11, [.ref a1, .ref a2, .ref a3, .ref a4, .ref a5, .ref a6, .ref a7, .ref a8, .int 0, .int 0, .int 0, .int (-1)])), (a8, .inr (5, [.ref a6, .ref a1, .ref a7, .ref mk1, .ref mk2, .int 0, .ref mk3, .int 0, .ref mk4, .ref mk5, .null, .int 0, .int (-1)])), (a6, .inr (10, [.ref a3, .ref wb, .ref wc, .int 0])), (a7, .inr (4, [.ref rn, .int 0])), (a4, .inr (7, [.ref a3, .null, .int 0, .int 0, .int 0, .null])), (a3, .inr (6, [.ref pe1, .ref pe2, .ref pe3, .ref pe4, .ref pe5, .int 0, .int 0, .int 0]))]) hD hS hA [0, 1, 2, 3, 4, 5] rfl
  refine vx_calli (vx_runSX (As := [.ref x0, .ref o3]) (rest := []) ⟨hx, hb, hml, hown, htb⟩ (c_L_read l dC dI H.size x0 o3 a1 a2 a3 a4 a5 a6 a7 a8 mk1 mk2 mk3 mk4 mk5 wb wc rn pe1 pe2 pe3 pe4 pe5 hl9) (vx_cwSW 2 htb (gd_S kw_433 kw_434 kw_435 kw_597) rfl rfl rfl (by decide +kernel) ⟨Nat.le_of_ble_eq_true rfl, Nat.le_of_ble_eq_true rfl⟩) ⟨fun a U g mk q => by obtain ⟨q0, q1, qP, qK, qD, qG⟩ := q; exact ⟨q0, q1, qP, va_K.moved (u := U) (U := U.calling g mk a) (Vm.Alike.refl U.vm) qK, qD, GE.call g mk a qG⟩, fun U hU hW => ⟨rfl, by rw [hU], by rw [hU]; exact hPc, va_K.moved hW.alike hKc, hDc.weaken (fun _ _ _ _ => trivial), hG.go hS hFc hU hW⟩⟩ rfl rfl hl.1 rfl (lv_room (Nat.le_of_ble_eq_true rfl)) dL_law_481 ⟨(Nat.le_of_ble_eq_true rfl), (Nat.le_of_ble_eq_true rfl)⟩) hS (fun q _ h => hFc q h) hFc (fun q _ h => hFc q h) (fun E ce q9 u t H1 locs ht hvm hw hB hz1 hk1 hS hce hcv hcl => ?_) (fun r u t H1 locs ht hvm hw hB hz1 hk1 hS => ?_)
  · exact hw.elim
  subst hw
  obtain ⟨hP1, hK1, hD1⟩ := hB
  rw [ht] at hP1
  have hK1 := va_K.moved hvm.symm hK1
  obtain ⟨hP, hD⟩ := va_join (wr := [(y0, .inr (12, [.ref m0, .ref m1, .ref m2, .ref m3, .ref m4, .int 0, .ref m6, .ref m7, .ref m8, .ref m9, .ref m10, .ref m11, .ref m12, .ref m13, .ref m14, .ref m15, .ref m16, .ref m17, .ref m18, .ref m19, .int 0, .int 0, .int 0, .int (-1), .int 0, .int 0, .ref m26, .ref m27, .ref m28, .ref m29, .ref m30, .ref m31, .ref m32, .ref m33, .ref m34, .ref m35, .ref m36, .ref m37, .ref m38, .ref m39, .int 0, .int 0, .ref m42, .ref m43, .ref m44, .ref m45, .ref m46, .ref m47, .int 0, .int 0, .int 0, .int 0, .int (-1), .ref m53, .ref m54, .ref m55, .ref m56, .ref m57, .ref m58, .ref m59, .ref m60, .ref m61, .ref m62, .int 0, .ref m64, .ref m65, .ref m66, .ref m67, .ref m68, .ref m69, .ref m70, .ref m71, .ref m72, .ref m73, .int 0, .ref m75, .int 0])), (m61, .inl (cM61, 80, .inl (fun _ => 0))), (m62, .inl (cM62, 80, .inl (fun _ => 0))), (m60, .inl (cM60, 80, .inl (fun _ => 0)))]) (w1 := []) hP hD [0, 1, 2, 3, 4, 5] [6, 7, 8, 9] rfl rfl (by decide) (by decide) hk1 hFc hP1 hD1
  have hK := hK.app hK1
  generalize H1 = H at hP hS ⊢
  have hP : va_P (dC, dI) vwCl [(y0, .inr (12, [.ref m0, .ref m1, .ref m2, .ref m3, .ref m4, .int 0, .ref m6, .ref m7, .ref m8, .ref m9, .ref m10, .ref m11, .ref m12, .ref m13, .ref m14, .ref m15, .ref m16, .ref m17, .ref m18, .ref m19, .int 0, .int 0, .int 0, .int (-1), .int 0, .int 0, .ref m26, .ref m27, .ref m28, .ref m29, .ref m30, .ref m31, .ref m32, .ref m33, .ref m34, .ref m35, .ref m36, .ref m37, .ref m38, .ref m39, .int 0, .int 0, .ref m42, .ref m43, .ref m44, .ref m45, .ref m46, .ref m47, .int 0, .int 0, .int 0, .int 0, .int (-1), .ref m53, .ref m54, .ref m55, .ref m56, .ref m57, .ref m58, .ref m59, .ref m60, .ref m61, .ref m62, .int 0, .ref m64, .ref m65, .ref m66, .ref m67, .ref m68, .ref m69, .ref m70, .ref m71, .ref m72, .ref m73, .int 0, .ref m75, .int 0])), (m61, .inl (cM61, 80, .inl (fun _ => 0))), (m62, .inl (cM62, 80, .inl (fun _ => 0))), (m60, .inl (cM60, 80, .inl (fun _ => 0)))] H := hP
  have hD : va_D A [(y0, .inr (12, [.ref m0, .ref m1, .ref m2, .ref m3, .ref m4, .int 0, .ref m6, .ref m7, .ref m8, .ref m9, .ref m10, .ref m11, .ref m12, .ref m13, .ref m14, .ref m15, .ref m16, .ref m17, .ref m18, .ref m19, .int 0, .int 0, .int 0, .int (-1), .int 0, .int 0, .ref m26, .ref m27, .ref m28, .ref m29, .ref m30, .ref m31, .ref m32, .ref m33, .ref m34, .ref m35, .ref m36, .ref m37, .ref m38, .ref m39, .int 0, .int 0, .ref m42, .ref m43, .ref m44, .ref m45, .ref m46, .ref m47, .int 0, .int 0, .int 0, .int 0, .int (-1), .ref m53, .ref m54, .ref m55, .ref m56, .ref m57, .ref m58, .ref m59, .ref m60, .ref m61, .ref m62, .int 0, .ref m64, .ref m65, .ref m66, .ref m67, .ref m68, .ref m69, .ref m70, .ref m71, .ref m72, .ref m73, .int 0, .ref m75, .int 0])), (m61, .inl (cM61, 80, .inl (fun _ => 0))), (m62, .inl (cM62, 80, .inl (fun _ => 0))), (m60, .inl (cM60, 80, .inl (fun _ => 0)))] := hD
  have hK : va_K (dC, dI) vwCl [(cM61, .boolean), (cM62, .boolean), (cM60, .int)] s := hK
  refine W.widen (k := 726) (n := 35031) (Nat.le_of_ble_eq_true rfl) (Nat.le_of_ble_eq_true rfl) ?_
  refine lv_istore (lv' := [(5, .int 1), (4, .int 0), (3, .ref o3), (2, .ref y0), (1, .ref x0), (0, .ref b)]) hx hb dL_law_484 hl (by decide) rfl (fun ls hl => ?_)
  refine lv_aload_n hx hb dL_law_486 rfl (lv_at hl 3 rfl) ?_
  have hPc := hP.sub (ws' := [(y0, .inr (12, [.ref m0, .ref m1, .ref m2, .ref m3, .ref m4, .int 0, .ref m6, .ref m7, .ref m8, .ref m9, .ref m10, .ref m11, .ref m12, .ref m13, .ref m14, .ref m15, .ref m16, .ref m17, .ref m18, .ref m19, .int 0, .int 0, .int 0, .int (-1), .int 0, .int 0, .ref m26, .ref m27, .ref m28, .ref m29, .ref m30, .ref m31, .ref m32, .ref m33, .ref m34, .ref m35, .ref m36, .ref m37, .ref m38, .ref m39, .int 0, .int 0, .ref m42, .ref m43, .ref m44, .ref m45, .ref m46, .ref m47, .int 0, .int 0, .int 0, .int 0, .int (-1), .ref m53, .ref m54, .ref m55, .ref m56, .ref m57, .ref m58, .ref m59, .ref m60, .ref m61, .ref m62, .int 0, .ref m64, .ref m65, .ref m66, .ref m67, .ref m68, .ref m69, .ref m70, .ref m71, .ref m72, .ref m73, .int 0, .ref m75, .int 0])), (m61, .inl (cM61, 80, .inl (fun _ => 0))), (m62, .inl (cM62, 80, .inl (fun _ => 0))), (m60, .inl (cM60, 80, .inl (fun _ => 0)))]) [0, 1, 2, 3] rfl
  have hDc := hD.sub (ws' := [(y0, .inr (12, [.ref m0, .ref m1, .ref m2, .ref m3, .ref m4, .int 0, .ref m6, .ref m7, .ref m8, .ref m9, .ref m10, .ref m11, .ref m12, .ref m13, .ref m14, .ref m15, .ref m16, .ref m17, .ref m18, .ref m19, .int 0, .int 0, .int 0, .int (-1), .int 0, .int 0, .ref m26, .ref m27, .ref m28, .ref m29, .ref m30, .ref m31, .ref m32, .ref m33, .ref m34, .ref m35, .ref m36, .ref m37, .ref m38, .ref m39, .int 0, .int 0, .ref m42, .ref m43, .ref m44, .ref m45, .ref m46, .ref m47, .int 0, .int 0, .int 0, .int 0, .int (-1), .ref m53, .ref m54, .ref m55, .ref m56, .ref m57, .ref m58, .ref m59, .ref m60, .ref m61, .ref m62, .int 0, .ref m64, .ref m65, .ref m66, .ref m67, .ref m68, .ref m69, .ref m70, .ref m71, .ref m72, .ref m73, .int 0, .ref m75, .int 0])), (m61, .inl (cM61, 80, .inl (fun _ => 0))), (m62, .inl (cM62, 80, .inl (fun _ => 0))), (m60, .inl (cM60, 80, .inl (fun _ => 0)))]) [0, 1, 2, 3] (by decide) rfl
  have hKc := hK.sub (tys' := [(cM61, .boolean), (cM62, .boolean), (cM60, .int)]) [0, 1, 2] rfl
  have hFc := va_free (wc := [(y0, .inr (12, [.ref m0, .ref m1, .ref m2, .ref m3, .ref m4, .int 0, .ref m6, .ref m7, .ref m8, .ref m9, .ref m10, .ref m11, .ref m12, .ref m13, .ref m14, .ref m15, .ref m16, .ref m17, .ref m18, .ref m19, .int 0, .int 0, .int 0, .int (-1), .int 0, .int 0, .ref m26, .ref m27, .ref m28, .ref m29, .ref m30, .ref m31, .ref m32, .ref m33, .ref m34, .ref m35, .ref m36, .ref m37, .ref m38, .ref m39, .int 0, .int 0, .ref m42, .ref m43, .ref m44, .ref m45, .ref m46, .ref m47, .int 0, .int 0, .int 0, .int 0, .int (-1), .ref m53, .ref m54, .ref m55, .ref m56, .ref m57, .ref m58, .ref m59, .ref m60, .ref m61, .ref m62, .int 0, .ref m64, .ref m65, .ref m66, .ref m67, .ref m68, .ref m69, .ref m70, .ref m71, .ref m72, .ref m73, .int 0, .ref m75, .int 0])), (m61, .inl (cM61, 80, .inl (fun _ => 0))), (m62, .inl (cM62, 80, .inl (fun _ => 0))), (m60, .inl (cM60, 80, .inl (fun _ => 0)))]) hD hS hA [0, 1, 2, 3] rfl
  refine va_calli (va_runV (As := []) (rest := []) ⟨hx, hb, hml, hown, htb⟩ (c_X13_read l dC dI H.size y0 m0 m1 m2 m3 m4 m6 m7 m8 m9 m10 m11 m12 m13 m14 m15 m16 m17 m18 m19 m26 m27 m28 m29 m30 m31 m32 m33 m34 m35 m36 m37 m38 m39 m42 m43 m44 m45 m46 m47 m53 m54 m55 m56 m57 m58 m59 m60 m61 m62 m64 m65 m66 m67 m68 m69 m70 m71 m72 m73 m75 cM61 cM62 cM60) (cwV 0 htb (gd_V kw_436 kw_437 kw_438 kw_345 kw_598) rfl rfl rfl (by decide +kernel) ⟨Nat.le_of_ble_eq_true rfl, Nat.le_of_ble_eq_true rfl⟩) ⟨fun a U g mk q => by obtain ⟨q0, q1, qP, qK, qD⟩ := q; exact ⟨q0, q1, qP, va_K.moved (u := U) (U := U.calling g mk a) (Vm.Alike.refl U.vm) qK, qD⟩, va_recv hKc hPc (ci := 12) (q0 := 0) rfl rfl, fun U hU hW => ⟨rfl, by rw [hU], by rw [hU]; exact hPc, va_K.moved hW.alike hKc, hDc.weaken (fun _ _ _ _ => trivial)⟩⟩ rfl rfl hl.1 rfl (lv_room (Nat.le_of_ble_eq_true rfl)) dL_law_487 ⟨(Nat.le_of_ble_eq_true rfl), (Nat.le_of_ble_eq_true rfl)⟩) hS (fun q _ h => hFc q h) hFc (fun r u t H1 locs ht hvm hw hB hz1 hk1 hS => ?_)
  subst hw
  obtain ⟨hP1, hK1, hD1⟩ := hB
  rw [ht] at hP1
  have hK1 := va_K.moved hvm.symm hK1
  obtain ⟨hP, hD⟩ := va_join (wr := []) (w1 := [(y0, .inr (12, [.ref m0, .ref m1, .ref m2, .ref m3, .ref m4, .int 1, .ref m6, .ref m7, .ref m8, .ref m9, .ref m10, .ref m11, .ref m12, .ref m13, .ref m14, .ref m15, .ref m16, .ref m17, .ref m18, .ref m19, .int 0, .int 0, .int 1, .int 0, .int 0, .int 0, .ref m26, .ref m27, .ref m28, .ref m29, .ref m30, .ref m31, .ref m32, .ref m33, .ref m34, .ref m35, .ref m36, .ref m37, .ref m38, .ref m39, .int 0, .int 0, .ref m42, .ref m43, .ref m44, .ref m45, .ref m46, .ref m47, .int 0, .int 0, .int 0, .int 0, .int (-1), .ref m53, .ref m54, .ref m55, .ref m56, .ref m57, .ref m58, .ref m59, .ref m60, .ref m61, .ref m62, .int 0, .ref m64, .ref m65, .ref m66, .ref m67, .ref m68, .ref m69, .ref m70, .ref m71, .ref m72, .ref m73, .int 0, .ref m75, .int 0]))]) hP hD [0, 1, 2, 3] [] rfl rfl (by decide) (by decide) hk1 hFc hP1 hD1
  have hK := hK.app hK1
  generalize H1 = H at hP hS ⊢
  have hP : va_P (dC, dI) vwCl [(y0, .inr (12, [.ref m0, .ref m1, .ref m2, .ref m3, .ref m4, .int 1, .ref m6, .ref m7, .ref m8, .ref m9, .ref m10, .ref m11, .ref m12, .ref m13, .ref m14, .ref m15, .ref m16, .ref m17, .ref m18, .ref m19, .int 0, .int 0, .int 1, .int 0, .int 0, .int 0, .ref m26, .ref m27, .ref m28, .ref m29, .ref m30, .ref m31, .ref m32, .ref m33, .ref m34, .ref m35, .ref m36, .ref m37, .ref m38, .ref m39, .int 0, .int 0, .ref m42, .ref m43, .ref m44, .ref m45, .ref m46, .ref m47, .int 0, .int 0, .int 0, .int 0, .int (-1), .ref m53, .ref m54, .ref m55, .ref m56, .ref m57, .ref m58, .ref m59, .ref m60, .ref m61, .ref m62, .int 0, .ref m64, .ref m65, .ref m66, .ref m67, .ref m68, .ref m69, .ref m70, .ref m71, .ref m72, .ref m73, .int 0, .ref m75, .int 0]))] H := hP
  have hD : va_D A [(y0, .inr (12, [.ref m0, .ref m1, .ref m2, .ref m3, .ref m4, .int 1, .ref m6, .ref m7, .ref m8, .ref m9, .ref m10, .ref m11, .ref m12, .ref m13, .ref m14, .ref m15, .ref m16, .ref m17, .ref m18, .ref m19, .int 0, .int 0, .int 1, .int 0, .int 0, .int 0, .ref m26, .ref m27, .ref m28, .ref m29, .ref m30, .ref m31, .ref m32, .ref m33, .ref m34, .ref m35, .ref m36, .ref m37, .ref m38, .ref m39, .int 0, .int 0, .ref m42, .ref m43, .ref m44, .ref m45, .ref m46, .ref m47, .int 0, .int 0, .int 0, .int 0, .int (-1), .ref m53, .ref m54, .ref m55, .ref m56, .ref m57, .ref m58, .ref m59, .ref m60, .ref m61, .ref m62, .int 0, .ref m64, .ref m65, .ref m66, .ref m67, .ref m68, .ref m69, .ref m70, .ref m71, .ref m72, .ref m73, .int 0, .ref m75, .int 0]))] := hD
  have hK : va_K (dC, dI) vwCl [(cM61, .boolean), (cM62, .boolean), (cM60, .int)] s := hK
  refine W.widen (k := 726) (n := 35031) (Nat.le_of_ble_eq_true rfl) (Nat.le_of_ble_eq_true rfl) ?_
  refine lv_istore (lv' := [(6, .int 0), (5, .int 1), (4, .int 0), (3, .ref o3), (2, .ref y0), (1, .ref x0), (0, .ref b)]) hx hb dL_law_490 hl (by decide) rfl (fun ls hl => ?_)
  refine lv_aload_n hx hb dL_law_492 rfl (lv_at hl 4 rfl) ?_
  have hPc := hP.sub (ws' := [(y0, .inr (12, [.ref m0, .ref m1, .ref m2, .ref m3, .ref m4, .int 1, .ref m6, .ref m7, .ref m8, .ref m9, .ref m10, .ref m11, .ref m12, .ref m13, .ref m14, .ref m15, .ref m16, .ref m17, .ref m18, .ref m19, .int 0, .int 0, .int 1, .int 0, .int 0, .int 0, .ref m26, .ref m27, .ref m28, .ref m29, .ref m30, .ref m31, .ref m32, .ref m33, .ref m34, .ref m35, .ref m36, .ref m37, .ref m38, .ref m39, .int 0, .int 0, .ref m42, .ref m43, .ref m44, .ref m45, .ref m46, .ref m47, .int 0, .int 0, .int 0, .int 0, .int (-1), .ref m53, .ref m54, .ref m55, .ref m56, .ref m57, .ref m58, .ref m59, .ref m60, .ref m61, .ref m62, .int 0, .ref m64, .ref m65, .ref m66, .ref m67, .ref m68, .ref m69, .ref m70, .ref m71, .ref m72, .ref m73, .int 0, .ref m75, .int 0]))]) [0] rfl
  have hDc := hD.sub (ws' := [(y0, .inr (12, [.ref m0, .ref m1, .ref m2, .ref m3, .ref m4, .int 1, .ref m6, .ref m7, .ref m8, .ref m9, .ref m10, .ref m11, .ref m12, .ref m13, .ref m14, .ref m15, .ref m16, .ref m17, .ref m18, .ref m19, .int 0, .int 0, .int 1, .int 0, .int 0, .int 0, .ref m26, .ref m27, .ref m28, .ref m29, .ref m30, .ref m31, .ref m32, .ref m33, .ref m34, .ref m35, .ref m36, .ref m37, .ref m38, .ref m39, .int 0, .int 0, .ref m42, .ref m43, .ref m44, .ref m45, .ref m46, .ref m47, .int 0, .int 0, .int 0, .int 0, .int (-1), .ref m53, .ref m54, .ref m55, .ref m56, .ref m57, .ref m58, .ref m59, .ref m60, .ref m61, .ref m62, .int 0, .ref m64, .ref m65, .ref m66, .ref m67, .ref m68, .ref m69, .ref m70, .ref m71, .ref m72, .ref m73, .int 0, .ref m75, .int 0]))]) [0] (by decide) rfl
  have hKc := hK.sub (tys' := []) [] rfl
  have hFc := va_free (wc := [(y0, .inr (12, [.ref m0, .ref m1, .ref m2, .ref m3, .ref m4, .int 1, .ref m6, .ref m7, .ref m8, .ref m9, .ref m10, .ref m11, .ref m12, .ref m13, .ref m14, .ref m15, .ref m16, .ref m17, .ref m18, .ref m19, .int 0, .int 0, .int 1, .int 0, .int 0, .int 0, .ref m26, .ref m27, .ref m28, .ref m29, .ref m30, .ref m31, .ref m32, .ref m33, .ref m34, .ref m35, .ref m36, .ref m37, .ref m38, .ref m39, .int 0, .int 0, .ref m42, .ref m43, .ref m44, .ref m45, .ref m46, .ref m47, .int 0, .int 0, .int 0, .int 0, .int (-1), .ref m53, .ref m54, .ref m55, .ref m56, .ref m57, .ref m58, .ref m59, .ref m60, .ref m61, .ref m62, .int 0, .ref m64, .ref m65, .ref m66, .ref m67, .ref m68, .ref m69, .ref m70, .ref m71, .ref m72, .ref m73, .int 0, .ref m75, .int 0]))]) hD hS hA [0] rfl
  refine va_calli (va_runV (As := []) (rest := []) ⟨hx, hb, hml, hown, htb⟩ (c_X13_thrown2 l dC dI H.size y0 m0 m1 m2 m3 m4 m6 m7 m8 m9 m10 m11 m12 m13 m14 m15 m16 m17 m18 m19 m26 m27 m28 m29 m30 m31 m32 m33 m34 m35 m36 m37 m38 m39 m42 m43 m44 m45 m46 m47 m53 m54 m55 m56 m57 m58 m59 m60 m61 m62 m64 m65 m66 m67 m68 m69 m70 m71 m72 m73 m75) (cwV 0 htb (gd_V kw_439 kw_440 kw_441 kw_345 kw_599) rfl rfl rfl (by decide +kernel) ⟨Nat.le_of_ble_eq_true rfl, Nat.le_of_ble_eq_true rfl⟩) ⟨fun a U g mk q => by obtain ⟨q0, q1, qP, qK, qD⟩ := q; exact ⟨q0, q1, qP, va_K.moved (u := U) (U := U.calling g mk a) (Vm.Alike.refl U.vm) qK, qD⟩, va_recv hKc hPc (ci := 12) (q0 := 0) rfl rfl, fun U hU hW => ⟨rfl, by rw [hU], by rw [hU]; exact hPc, va_K.moved hW.alike hKc, hDc.weaken (fun _ _ _ _ => trivial)⟩⟩ rfl rfl hl.1 rfl (lv_room (Nat.le_of_ble_eq_true rfl)) dL_law_493 ⟨(Nat.le_of_ble_eq_true rfl), (Nat.le_of_ble_eq_true rfl)⟩) hS (fun q _ h => hFc q h) hFc (fun r u t H1 locs ht hvm hw hB hz1 hk1 hS => ?_)
  subst hw
  obtain ⟨hP1, hK1, hD1⟩ := hB
  rw [ht] at hP1
  have hK1 := va_K.moved hvm.symm hK1
  obtain ⟨hP, hD⟩ := va_join (wr := []) (w1 := []) hP hD [0] [] rfl rfl (by decide) (by decide) hk1 hFc hP1 hD1
  have hK := hK.app hK1
  generalize H1 = H at hP hS ⊢
  have hP : va_P (dC, dI) vwCl [] H := hP
  have hD : va_D A [] := hD
  have hK : va_K (dC, dI) vwCl [(cM61, .boolean), (cM62, .boolean), (cM60, .int)] s := hK
  refine W.widen (k := 726) (n := 35031) (Nat.le_of_ble_eq_true rfl) (Nat.le_of_ble_eq_true rfl) ?_
  refine lv_iload hx hb dL_law_496 (lv_at hl 1 rfl) ?_
  refine lv_icmp_eq (tgt := 503) hx hb dL_law_498 (by decide) (fun _ => ?_) (fun c_1 => absurd (by decide) c_1)
  refine lv_iload hx hb dL_law_503 (lv_at hl 1 rfl) ?_
  refine lv_if_ne (tgt := 520) hx hb dL_law_505 (by decide) (fun _ => ?_) (fun c_2 => absurd c_2 (by decide))
  refine lv_goto (tgt := 885) hx hb dL_law_520 (by decide) ?_
  refine lv_iinc (v := 9) (lv' := [(4, .int 9), (6, .int 0), (5, .int 1), (3, .ref o3), (2, .ref y0), (1, .ref x0), (0, .ref b)]) hx hb dL_law_885 hl (k := 2) rfl (by decide) (by decide) rfl (fun ls hl => ?_)
  refine lv_goto (tgt := 23) hx hb dL_law_888 (by decide) ?_
  refine lv_iload hx hb dL_law_23 (lv_at hl 0 rfl) ?_
  refine lv_aload_n hx hb dL_law_25 rfl (lv_at hl 6 rfl) ?_
  refine va_slen hx hb hX hbl hbA hS dL_law_26 ?_
  refine lv_topi (fun z_3 ez_3 => ?_)
  obtain rfl : z_3 = 9 := ez_3.trans (by decide)
  refine lv_bipush (v := 9) hx hb dL_law_27 (by decide) ?_
  refine lv_isub hx hb dL_law_29 ?_
  refine lv_topi (fun z_4 ez_4 => ?_)
  obtain rfl : z_4 = 0 := ez_4.trans (by decide)
  refine lv_icmp_gt (tgt := 891) hx hb dL_law_30 (by decide) (fun _ => ?_) (fun c_5 => absurd (by decide) c_5)
  refine lv_iconst (v := 1) hx hb dL_law_891 (by decide) ?_
  refine va_forget (fun q hq => hAi _ (hS.2.2 q hq)) ?_
  refine W.widen (k := 600002) (n := 7302232) (Nat.le_of_ble_eq_true rfl) (Nat.le_of_ble_eq_true rfl) ?_
  exact lw_ret hx hb hr hlocks dL_law_892

set_option maxHeartbeats 4000000 in
set_option maxRecDepth 100000 in
theorem law_case_6 {p : Program} {l : Launch} {e : Env} {s : State} {m : MethodId} {below : List Frame} {meth : Method} {c : Code} {b : Nat} {xs : Nat → Int32} {dC : Nat → ClassId} {dI : Nat → Nat → Nat} {A : Nat → Prop} (hl9 : l.stackTraces = false) (C0 : lw_At p s m meth c b 9 xs) (hA : ∀ q : Nat, s.heap.size ≤ q → A q) (hAi : ∀ q : Nat, A q → s.heap.size ≤ q) (hbA : ¬ A b) (hG : GE A s) (x0 : Nat) (a1 : Nat) (a2 : Nat) (a3 : Nat) (a4 : Nat) (a5 : Nat) (a6 : Nat) (a7 : Nat) (a8 : Nat) (mk1 : Nat) (mk2 : Nat) (mk3 : Nat) (mk4 : Nat) (mk5 : Nat) (y0 : Nat) (m0 : Nat) (m1 : Nat) (m2 : Nat) (m3 : Nat) (m4 : Nat) (m6 : Nat) (m7 : Nat) (m8 : Nat) (m9 : Nat) (m10 : Nat) (m11 : Nat) (m12 : Nat) (m13 : Nat) (m14 : Nat) (m15 : Nat) (m16 : Nat) (m17 : Nat) (m18 : Nat) (m19 : Nat) (m26 : Nat) (m27 : Nat) (m28 : Nat) (m29 : Nat) (m30 : Nat) (m31 : Nat) (m32 : Nat) (m33 : Nat) (m34 : Nat) (m35 : Nat) (m36 : Nat) (m37 : Nat) (m38 : Nat) (m39 : Nat) (m42 : Nat) (m43 : Nat) (m44 : Nat) (m45 : Nat) (m46 : Nat) (m47 : Nat) (m53 : Nat) (m54 : Nat) (m55 : Nat) (m56 : Nat) (m57 : Nat) (m58 : Nat) (m59 : Nat) (m60 : Nat) (m61 : Nat) (m62 : Nat) (m64 : Nat) (m65 : Nat) (m66 : Nat) (m67 : Nat) (m68 : Nat) (m69 : Nat) (m70 : Nat) (m71 : Nat) (m72 : Nat) (m73 : Nat) (m75 : Nat) (o3 : Nat) (H : Heap) (locs : List Loc) (ls : Array Slot) (hK : va_K (dC, dI) vwCl [] s) (hP : va_P (dC, dI) vwCl [(x0, .inr (11, [.ref a1, .ref a2, .ref a3, .ref a4, .ref a5, .ref a6, .ref a7, .ref a8, .int 0, .int 0, .int 0, .int (-1)])), (a8, .inr (5, [.ref a6, .ref a1, .ref a7, .ref mk1, .ref mk2, .int 0, .ref mk3, .int 0, .ref mk4, .ref mk5, .null, .int 0, .int (-1)])), (y0, .inr (12, [.ref m0, .ref m1, .ref m2, .ref m3, .ref m4, .int 0, .ref m6, .ref m7, .ref m8, .ref m9, .ref m10, .ref m11, .ref m12, .ref m13, .ref m14, .ref m15, .ref m16, .ref m17, .ref m18, .ref m19, .int 0, .int 0, .int 0, .int (-1), .int 0, .int 0, .ref m26, .ref m27, .ref m28, .ref m29, .ref m30, .ref m31, .ref m32, .ref m33, .ref m34, .ref m35, .ref m36, .ref m37, .ref m38, .ref m39, .int 0, .int 0, .ref m42, .ref m43, .ref m44, .ref m45, .ref m46, .ref m47, .int 0, .int 0, .int 0, .int 0, .int (-1), .ref m53, .ref m54, .ref m55, .ref m56, .ref m57, .ref m58, .ref m59, .ref m60, .ref m61, .ref m62, .int 0, .ref m64, .ref m65, .ref m66, .ref m67, .ref m68, .ref m69, .ref m70, .ref m71, .ref m72, .ref m73, .int 0, .ref m75, .int 0]))] H) (hD : va_D A [(x0, .inr (11, [.ref a1, .ref a2, .ref a3, .ref a4, .ref a5, .ref a6, .ref a7, .ref a8, .int 0, .int 0, .int 0, .int (-1)])), (a8, .inr (5, [.ref a6, .ref a1, .ref a7, .ref mk1, .ref mk2, .int 0, .ref mk3, .int 0, .ref mk4, .ref mk5, .null, .int 0, .int (-1)])), (y0, .inr (12, [.ref m0, .ref m1, .ref m2, .ref m3, .ref m4, .int 0, .ref m6, .ref m7, .ref m8, .ref m9, .ref m10, .ref m11, .ref m12, .ref m13, .ref m14, .ref m15, .ref m16, .ref m17, .ref m18, .ref m19, .int 0, .int 0, .int 0, .int (-1), .int 0, .int 0, .ref m26, .ref m27, .ref m28, .ref m29, .ref m30, .ref m31, .ref m32, .ref m33, .ref m34, .ref m35, .ref m36, .ref m37, .ref m38, .ref m39, .int 0, .int 0, .ref m42, .ref m43, .ref m44, .ref m45, .ref m46, .ref m47, .int 0, .int 0, .int 0, .int 0, .int (-1), .ref m53, .ref m54, .ref m55, .ref m56, .ref m57, .ref m58, .ref m59, .ref m60, .ref m61, .ref m62, .int 0, .ref m64, .ref m65, .ref m66, .ref m67, .ref m68, .ref m69, .ref m70, .ref m71, .ref m72, .ref m73, .int 0, .ref m75, .int 0]))]) (hS : va_S A s.heap H locs) (hl : lv_has ls 7 [(4, .int 0), (3, .ref o3), (2, .ref y0), (1, .ref x0), (0, .ref b)]) : W p l e room_1 s m #[Value.ref b] below meth c H locs 724 35019 (lw_Z below #[Value.ref b] s) (F0 m 523 ls []) := by
  obtain ⟨hx, hb, hr, hml, hown, hts, hX, hbl, hlocks, hgv⟩ := C0
  have hown : s.vm.findClass RL = some m.cls := hown
  have htb := fun (w : Cond) (h : w ∈ tb) => hts w (tb_in w h)
  refine lv_aload_n hx hb dL_law_523 rfl (lv_at hl 3 rfl) ?_
  refine lv_aload_n hx hb dL_law_524 rfl (lv_at hl 4 rfl) ?_
  refine lv_iload hx hb dL_law_525 (lv_at hl 0 rfl) ?_
  refine lv_iconst (v := 1) hx hb dL_law_527 (by decide) ?_
  refine lv_iadd hx hb dL_law_528 ?_
  refine lv_topi (fun z_1 ez_1 => ?_)
  obtain rfl : z_1 = 1 := ez_1.trans (by decide)
  refine va_sld hx hb hX hbl hbA hS (by unfold vp_in; decide) dL_law_529 ?_
  refine lv_topi (fun z_2 ez_2 => ?_)
  obtain rfl : z_2 = xs 1 := ez_2
  have hPc := hP.sub (ws' := [(x0, .inr (11, [.ref a1, .ref a2, .ref a3, .ref a4, .ref a5, .ref a6, .ref a7, .ref a8, .int 0, .int 0, .int 0, .int (-1)])), (a8, .inr (5, [.ref a6, .ref a1, .ref a7, .ref mk1, .ref mk2, .int 0, .ref mk3, .int 0, .ref mk4, .ref mk5, .null, .int 0, .int (-1)]))]) [0, 1] rfl
  have hDc := hD.sub (ws' := [(x0, .inr (11, [.ref a1, .ref a2, .ref a3, .ref a4, .ref a5, .ref a6, .ref a7, .ref a8, .int 0, .int 0, .int 0, .int (-1)])), (a8, .inr (5, [.ref a6, .ref a1, .ref a7, .ref mk1, .ref mk2, .int 0, .ref mk3, .int 0, .ref mk4, .ref mk5, .null, .int 0, .int (-1)]))]) [0, 1] (by decide) rfl
  have hKc := hK.sub (tys' := []) [] rfl
  have hFc := va_free (wc := [(x0, .inr (11, [.ref a1, .ref a2, .ref a3, .ref a4, .ref a5, .ref a6, .ref a7, .ref a8, .int 0, .int 0, .int 0, .int (-1)])), (a8, .inr (5, [.ref a6, .ref a1, .ref a7, .ref mk1, .ref mk2, .int 0, .ref mk3, .int 0, .ref mk4, .ref mk5, .null, .int 0, .int (-1)]))]) hD hS hA [0, 1] rfl
  refine va_calli (va_runV (As := [.int (xs 1)]) (rest := []) ⟨hx, hb, hml, hown, htb⟩ (c_X12_fault l dC dI H.size x0 (xs 1) a1 a2 a3 a4 a5 a6 a7 a8 mk1 mk2 mk3 mk4 mk5) (cwV 1 htb (gd_V kw_442 kw_443 kw_444 kw_49 kw_600) rfl rfl rfl (by decide +kernel) ⟨Nat.le_of_ble_eq_true rfl, Nat.le_of_ble_eq_true rfl⟩) ⟨fun a U g mk q => by obtain ⟨q0, q1, qP, qK, qD⟩ := q; exact ⟨q0, q1, qP, va_K.moved (u := U) (U := U.calling g mk a) (Vm.Alike.refl U.vm) qK, qD⟩, va_recv hKc hPc (ci := 11) (q0 := 0) rfl rfl, fun U hU hW => ⟨rfl, by rw [hU], by rw [hU]; exact hPc, va_K.moved hW.alike hKc, hDc.weaken (fun _ _ _ _ => trivial)⟩⟩ rfl rfl hl.1 rfl (lv_room (Nat.le_of_ble_eq_true rfl)) dL_law_530 ⟨(Nat.le_of_ble_eq_true rfl), (Nat.le_of_ble_eq_true rfl)⟩) hS (fun q _ h => hFc q h) hFc (fun r u t H1 locs ht hvm hw hB hz1 hk1 hS => ?_)
  subst hw
  obtain ⟨hP1, hK1, hD1⟩ := hB
  rw [ht] at hP1
  have hK1 := va_K.moved hvm.symm hK1
  obtain ⟨hP, hD⟩ := va_join (wr := [(y0, .inr (12, [.ref m0, .ref m1, .ref m2, .ref m3, .ref m4, .int 0, .ref m6, .ref m7, .ref m8, .ref m9, .ref m10, .ref m11, .ref m12, .ref m13, .ref m14, .ref m15, .ref m16, .ref m17, .ref m18, .ref m19, .int 0, .int 0, .int 0, .int (-1), .int 0, .int 0, .ref m26, .ref m27, .ref m28, .ref m29, .ref m30, .ref m31, .ref m32, .ref m33, .ref m34, .ref m35, .ref m36, .ref m37, .ref m38, .ref m39, .int 0, .int 0, .ref m42, .ref m43, .ref m44, .ref m45, .ref m46, .ref m47, .int 0, .int 0, .int 0, .int 0, .int (-1), .ref m53, .ref m54, .ref m55, .ref m56, .ref m57, .ref m58, .ref m59, .ref m60, .ref m61, .ref m62, .int 0, .ref m64, .ref m65, .ref m66, .ref m67, .ref m68, .ref m69, .ref m70, .ref m71, .ref m72, .ref m73, .int 0, .ref m75, .int 0]))]) (w1 := []) hP hD [0, 1] [2] rfl rfl (by decide) (by decide) hk1 hFc hP1 hD1
  have hK := hK.app hK1
  generalize H1 = H at hP hS ⊢
  have hP : va_P (dC, dI) vwCl [(y0, .inr (12, [.ref m0, .ref m1, .ref m2, .ref m3, .ref m4, .int 0, .ref m6, .ref m7, .ref m8, .ref m9, .ref m10, .ref m11, .ref m12, .ref m13, .ref m14, .ref m15, .ref m16, .ref m17, .ref m18, .ref m19, .int 0, .int 0, .int 0, .int (-1), .int 0, .int 0, .ref m26, .ref m27, .ref m28, .ref m29, .ref m30, .ref m31, .ref m32, .ref m33, .ref m34, .ref m35, .ref m36, .ref m37, .ref m38, .ref m39, .int 0, .int 0, .ref m42, .ref m43, .ref m44, .ref m45, .ref m46, .ref m47, .int 0, .int 0, .int 0, .int 0, .int (-1), .ref m53, .ref m54, .ref m55, .ref m56, .ref m57, .ref m58, .ref m59, .ref m60, .ref m61, .ref m62, .int 0, .ref m64, .ref m65, .ref m66, .ref m67, .ref m68, .ref m69, .ref m70, .ref m71, .ref m72, .ref m73, .int 0, .ref m75, .int 0]))] H := hP
  have hD : va_D A [(y0, .inr (12, [.ref m0, .ref m1, .ref m2, .ref m3, .ref m4, .int 0, .ref m6, .ref m7, .ref m8, .ref m9, .ref m10, .ref m11, .ref m12, .ref m13, .ref m14, .ref m15, .ref m16, .ref m17, .ref m18, .ref m19, .int 0, .int 0, .int 0, .int (-1), .int 0, .int 0, .ref m26, .ref m27, .ref m28, .ref m29, .ref m30, .ref m31, .ref m32, .ref m33, .ref m34, .ref m35, .ref m36, .ref m37, .ref m38, .ref m39, .int 0, .int 0, .ref m42, .ref m43, .ref m44, .ref m45, .ref m46, .ref m47, .int 0, .int 0, .int 0, .int 0, .int (-1), .ref m53, .ref m54, .ref m55, .ref m56, .ref m57, .ref m58, .ref m59, .ref m60, .ref m61, .ref m62, .int 0, .ref m64, .ref m65, .ref m66, .ref m67, .ref m68, .ref m69, .ref m70, .ref m71, .ref m72, .ref m73, .int 0, .ref m75, .int 0]))] := hD
  have hK : va_K (dC, dI) vwCl [] s := hK
  refine W.widen (k := 724) (n := 35019) (Nat.le_of_ble_eq_true rfl) (Nat.le_of_ble_eq_true rfl) ?_
  refine lv_aload_n hx hb dL_law_533 rfl (lv_at hl 2 rfl) ?_
  refine lv_aload_n hx hb dL_law_534 rfl (lv_at hl 4 rfl) ?_
  refine lv_iload hx hb dL_law_535 (lv_at hl 0 rfl) ?_
  refine lv_iconst (v := 1) hx hb dL_law_537 (by decide) ?_
  refine lv_iadd hx hb dL_law_538 ?_
  refine lv_topi (fun z_3 ez_3 => ?_)
  obtain rfl : z_3 = 1 := ez_3.trans (by decide)
  refine va_sld hx hb hX hbl hbA hS (by unfold vp_in; decide) dL_law_539 ?_
  refine lv_topi (fun z_4 ez_4 => ?_)
  obtain rfl : z_4 = xs 1 := ez_4
  have hPc := hP.sub (ws' := [(y0, .inr (12, [.ref m0, .ref m1, .ref m2, .ref m3, .ref m4, .int 0, .ref m6, .ref m7, .ref m8, .ref m9, .ref m10, .ref m11, .ref m12, .ref m13, .ref m14, .ref m15, .ref m16, .ref m17, .ref m18, .ref m19, .int 0, .int 0, .int 0, .int (-1), .int 0, .int 0, .ref m26, .ref m27, .ref m28, .ref m29, .ref m30, .ref m31, .ref m32, .ref m33, .ref m34, .ref m35, .ref m36, .ref m37, .ref m38, .ref m39, .int 0, .int 0, .ref m42, .ref m43, .ref m44, .ref m45, .ref m46, .ref m47, .int 0, .int 0, .int 0, .int 0, .int (-1), .ref m53, .ref m54, .ref m55, .ref m56, .ref m57, .ref m58, .ref m59, .ref m60, .ref m61, .ref m62, .int 0, .ref m64, .ref m65, .ref m66, .ref m67, .ref m68, .ref m69, .ref m70, .ref m71, .ref m72, .ref m73, .int 0, .ref m75, .int 0]))]) [0] rfl
  have hDc := hD.sub (ws' := [(y0, .inr (12, [.ref m0, .ref m1, .ref m2, .ref m3, .ref m4, .int 0, .ref m6, .ref m7, .ref m8, .ref m9, .ref m10, .ref m11, .ref m12, .ref m13, .ref m14, .ref m15, .ref m16, .ref m17, .ref m18, .ref m19, .int 0, .int 0, .int 0, .int (-1), .int 0, .int 0, .ref m26, .ref m27, .ref m28, .ref m29, .ref m30, .ref m31, .ref m32, .ref m33, .ref m34, .ref m35, .ref m36, .ref m37, .ref m38, .ref m39, .int 0, .int 0, .ref m42, .ref m43, .ref m44, .ref m45, .ref m46, .ref m47, .int 0, .int 0, .int 0, .int 0, .int (-1), .ref m53, .ref m54, .ref m55, .ref m56, .ref m57, .ref m58, .ref m59, .ref m60, .ref m61, .ref m62, .int 0, .ref m64, .ref m65, .ref m66, .ref m67, .ref m68, .ref m69, .ref m70, .ref m71, .ref m72, .ref m73, .int 0, .ref m75, .int 0]))]) [0] (by decide) rfl
  have hKc := hK.sub (tys' := []) [] rfl
  have hFc := va_free (wc := [(y0, .inr (12, [.ref m0, .ref m1, .ref m2, .ref m3, .ref m4, .int 0, .ref m6, .ref m7, .ref m8, .ref m9, .ref m10, .ref m11, .ref m12, .ref m13, .ref m14, .ref m15, .ref m16, .ref m17, .ref m18, .ref m19, .int 0, .int 0, .int 0, .int (-1), .int 0, .int 0, .ref m26, .ref m27, .ref m28, .ref m29, .ref m30, .ref m31, .ref m32, .ref m33, .ref m34, .ref m35, .ref m36, .ref m37, .ref m38, .ref m39, .int 0, .int 0, .ref m42, .ref m43, .ref m44, .ref m45, .ref m46, .ref m47, .int 0, .int 0, .int 0, .int 0, .int (-1), .ref m53, .ref m54, .ref m55, .ref m56, .ref m57, .ref m58, .ref m59, .ref m60, .ref m61, .ref m62, .int 0, .ref m64, .ref m65, .ref m66, .ref m67, .ref m68, .ref m69, .ref m70, .ref m71, .ref m72, .ref m73, .int 0, .ref m75, .int 0]))]) hD hS hA [0] rfl
  refine va_calli (va_runV (As := [.int (xs 1)]) (rest := [.int (zFau (xs 1))]) ⟨hx, hb, hml, hown, htb⟩ (c_X13_fault l dC dI H.size y0 (xs 1) m0 m1 m2 m3 m4 m6 m7 m8 m9 m10 m11 m12 m13 m14 m15 m16 m17 m18 m19 m26 m27 m28 m29 m30 m31 m32 m33 m34 m35 m36 m37 m38 m39 m42 m43 m44 m45 m46 m47 m53 m54 m55 m56 m57 m58 m59 m60 m61 m62 m64 m65 m66 m67 m68 m69 m70 m71 m72 m73 m75) (cwV 1 htb (gd_V kw_445 kw_446 kw_447 kw_345 kw_601) rfl rfl rfl (by decide +kernel) ⟨Nat.le_of_ble_eq_true rfl, Nat.le_of_ble_eq_true rfl⟩) ⟨fun a U g mk q => by obtain ⟨q0, q1, qP, qK, qD⟩ := q; exact ⟨q0, q1, qP, va_K.moved (u := U) (U := U.calling g mk a) (Vm.Alike.refl U.vm) qK, qD⟩, va_recv hKc hPc (ci := 12) (q0 := 0) rfl rfl, fun U hU hW => ⟨rfl, by rw [hU], by rw [hU]; exact hPc, va_K.moved hW.alike hKc, hDc.weaken (fun _ _ _ _ => trivial)⟩⟩ rfl rfl hl.1 rfl (lv_room (Nat.le_of_ble_eq_true rfl)) dL_law_540 ⟨(Nat.le_of_ble_eq_true rfl), (Nat.le_of_ble_eq_true rfl)⟩) hS (fun q _ h => hFc q h) hFc (fun r u t H1 locs ht hvm hw hB hz1 hk1 hS => ?_)
  subst hw
  obtain ⟨hP1, hK1, hD1⟩ := hB
  rw [ht] at hP1
  have hK1 := va_K.moved hvm.symm hK1
  obtain ⟨hP, hD⟩ := va_join (wr := []) (w1 := []) hP hD [0] [] rfl rfl (by decide) (by decide) hk1 hFc hP1 hD1
  have hK := hK.app hK1
  generalize H1 = H at hP hS ⊢
  have hP : va_P (dC, dI) vwCl [] H := hP
  have hD : va_D A [] := hD
  have hK : va_K (dC, dI) vwCl [] s := hK
  refine W.widen (k := 724) (n := 35019) (Nat.le_of_ble_eq_true rfl) (Nat.le_of_ble_eq_true rfl) ?_
  refine lv_icmp_eq (tgt := 885) hx hb dL_law_543 (by decide) (fun _ => ?_) (fun c_5 => absurd rfl c_5)
  refine lv_iinc (v := 9) (lv' := [(4, .int 9), (3, .ref o3), (2, .ref y0), (1, .ref x0), (0, .ref b)]) hx hb dL_law_885 hl (k := 0) rfl (by decide) (by decide) rfl (fun ls hl => ?_)
  refine lv_goto (tgt := 23) hx hb dL_law_888 (by decide) ?_
  refine lv_iload hx hb dL_law_23 (lv_at hl 0 rfl) ?_
  refine lv_aload_n hx hb dL_law_25 rfl (lv_at hl 4 rfl) ?_
  refine va_slen hx hb hX hbl hbA hS dL_law_26 ?_
  refine lv_topi (fun z_6 ez_6 => ?_)
  obtain rfl : z_6 = 9 := ez_6.trans (by decide)
  refine lv_bipush (v := 9) hx hb dL_law_27 (by decide) ?_
  refine lv_isub hx hb dL_law_29 ?_
  refine lv_topi (fun z_7 ez_7 => ?_)
  obtain rfl : z_7 = 0 := ez_7.trans (by decide)
  refine lv_icmp_gt (tgt := 891) hx hb dL_law_30 (by decide) (fun _ => ?_) (fun c_8 => absurd (by decide) c_8)
  refine lv_iconst (v := 1) hx hb dL_law_891 (by decide) ?_
  refine va_forget (fun q hq => hAi _ (hS.2.2 q hq)) ?_
  refine W.widen (k := 600002) (n := 7302232) (Nat.le_of_ble_eq_true rfl) (Nat.le_of_ble_eq_true rfl) ?_
  exact lw_ret hx hb hr hlocks dL_law_892

set_option maxHeartbeats 4000000 in
set_option maxRecDepth 100000 in
theorem law_case_7 {p : Program} {l : Launch} {e : Env} {s : State} {m : MethodId} {below : List Frame} {meth : Method} {c : Code} {b : Nat} {xs : Nat → Int32} {dC : Nat → ClassId} {dI : Nat → Nat → Nat} {A : Nat → Prop} (hl9 : l.stackTraces = false) (C0 : lw_At p s m meth c b 9 xs) (hA : ∀ q : Nat, s.heap.size ≤ q → A q) (hAi : ∀ q : Nat, A q → s.heap.size ≤ q) (hbA : ¬ A b) (hG : GE A s) (x0 : Nat) (a1 : Nat) (a2 : Nat) (a3 : Nat) (a4 : Nat) (a5 : Nat) (a6 : Nat) (a7 : Nat) (a8 : Nat) (mk1 : Nat) (mk2 : Nat) (mk3 : Nat) (mk4 : Nat) (mk5 : Nat) (y0 : Nat) (m0 : Nat) (m1 : Nat) (m2 : Nat) (m3 : Nat) (m4 : Nat) (m6 : Nat) (m7 : Nat) (m8 : Nat) (m9 : Nat) (m10 : Nat) (m11 : Nat) (m12 : Nat) (m13 : Nat) (m14 : Nat) (m15 : Nat) (m16 : Nat) (m17 : Nat) (m18 : Nat) (m19 : Nat) (m26 : Nat) (m27 : Nat) (m28 : Nat) (m29 : Nat) (m30 : Nat) (m31 : Nat) (m32 : Nat) (m33 : Nat) (m34 : Nat) (m35 : Nat) (m36 : Nat) (m37 : Nat) (m38 : Nat) (m39 : Nat) (m42 : Nat) (m43 : Nat) (m44 : Nat) (m45 : Nat) (m46 : Nat) (m47 : Nat) (m53 : Nat) (m54 : Nat) (m55 : Nat) (m56 : Nat) (m57 : Nat) (m58 : Nat) (m59 : Nat) (m60 : Nat) (m61 : Nat) (m62 : Nat) (m64 : Nat) (m65 : Nat) (m66 : Nat) (m67 : Nat) (m68 : Nat) (m69 : Nat) (m70 : Nat) (m71 : Nat) (m72 : Nat) (m73 : Nat) (m75 : Nat) (o3 : Nat) (H : Heap) (locs : List Loc) (ls : Array Slot) (hK : va_K (dC, dI) vwCl [] s) (hP : va_P (dC, dI) vwCl [(x0, .inr (11, [.ref a1, .ref a2, .ref a3, .ref a4, .ref a5, .ref a6, .ref a7, .ref a8, .int 0, .int 0, .int 0, .int (-1)])), (a8, .inr (5, [.ref a6, .ref a1, .ref a7, .ref mk1, .ref mk2, .int 0, .ref mk3, .int 0, .ref mk4, .ref mk5, .null, .int 0, .int (-1)])), (y0, .inr (12, [.ref m0, .ref m1, .ref m2, .ref m3, .ref m4, .int 0, .ref m6, .ref m7, .ref m8, .ref m9, .ref m10, .ref m11, .ref m12, .ref m13, .ref m14, .ref m15, .ref m16, .ref m17, .ref m18, .ref m19, .int 0, .int 0, .int 0, .int (-1), .int 0, .int 0, .ref m26, .ref m27, .ref m28, .ref m29, .ref m30, .ref m31, .ref m32, .ref m33, .ref m34, .ref m35, .ref m36, .ref m37, .ref m38, .ref m39, .int 0, .int 0, .ref m42, .ref m43, .ref m44, .ref m45, .ref m46, .ref m47, .int 0, .int 0, .int 0, .int 0, .int (-1), .ref m53, .ref m54, .ref m55, .ref m56, .ref m57, .ref m58, .ref m59, .ref m60, .ref m61, .ref m62, .int 0, .ref m64, .ref m65, .ref m66, .ref m67, .ref m68, .ref m69, .ref m70, .ref m71, .ref m72, .ref m73, .int 0, .ref m75, .int 0]))] H) (hD : va_D A [(x0, .inr (11, [.ref a1, .ref a2, .ref a3, .ref a4, .ref a5, .ref a6, .ref a7, .ref a8, .int 0, .int 0, .int 0, .int (-1)])), (a8, .inr (5, [.ref a6, .ref a1, .ref a7, .ref mk1, .ref mk2, .int 0, .ref mk3, .int 0, .ref mk4, .ref mk5, .null, .int 0, .int (-1)])), (y0, .inr (12, [.ref m0, .ref m1, .ref m2, .ref m3, .ref m4, .int 0, .ref m6, .ref m7, .ref m8, .ref m9, .ref m10, .ref m11, .ref m12, .ref m13, .ref m14, .ref m15, .ref m16, .ref m17, .ref m18, .ref m19, .int 0, .int 0, .int 0, .int (-1), .int 0, .int 0, .ref m26, .ref m27, .ref m28, .ref m29, .ref m30, .ref m31, .ref m32, .ref m33, .ref m34, .ref m35, .ref m36, .ref m37, .ref m38, .ref m39, .int 0, .int 0, .ref m42, .ref m43, .ref m44, .ref m45, .ref m46, .ref m47, .int 0, .int 0, .int 0, .int 0, .int (-1), .ref m53, .ref m54, .ref m55, .ref m56, .ref m57, .ref m58, .ref m59, .ref m60, .ref m61, .ref m62, .int 0, .ref m64, .ref m65, .ref m66, .ref m67, .ref m68, .ref m69, .ref m70, .ref m71, .ref m72, .ref m73, .int 0, .ref m75, .int 0]))]) (hS : va_S A s.heap H locs) (hl : lv_has ls 7 [(4, .int 0), (3, .ref o3), (2, .ref y0), (1, .ref x0), (0, .ref b)]) : W p l e room_1 s m #[Value.ref b] below meth c H locs 724 35019 (lw_Z below #[Value.ref b] s) (F0 m 548 ls []) := by
  obtain ⟨hx, hb, hr, hml, hown, hts, hX, hbl, hlocks, hgv⟩ := C0
  have hown : s.vm.findClass RL = some m.cls := hown
  have htb := fun (w : Cond) (h : w ∈ tb) => hts w (tb_in w h)
  refine lv_aload_n hx hb dL_law_548 rfl (lv_at hl 3 rfl) ?_
  refine lv_aload_n hx hb dL_law_549 rfl (lv_at hl 1 rfl) ?_
  have hPc := hP.sub (ws' := [(x0, .inr (11, [.ref a1, .ref a2, .ref a3, .ref a4, .ref a5, .ref a6, .ref a7, .ref a8, .int 0, .int 0, .int 0, .int (-1)])), (a8, .inr (5, [.ref a6, .ref a1, .ref a7, .ref mk1, .ref mk2, .int 0, .ref mk3, .int 0, .ref mk4, .ref mk5, .null, .int 0, .int (-1)]))]) [0, 1] rfl
  have hDc := hD.sub (ws' := [(x0, .inr (11, [.ref a1, .ref a2, .ref a3, .ref a4, .ref a5, .ref a6, .ref a7, .ref a8, .int 0, .int 0, .int 0, .int (-1)])), (a8, .inr (5, [.ref a6, .ref a1, .ref a7, .ref mk1, .ref mk2, .int 0, .ref mk3, .int 0, .ref mk4, .ref mk5, .null, .int 0, .int (-1)]))]) [0, 1] (by decide) rfl
  have hKc := hK.sub (tys' := []) [] rfl
  have hFc := va_free (wc := [(x0, .inr (11, [.ref a1, .ref a2, .ref a3, .ref a4, .ref a5, .ref a6, .ref a7, .ref a8, .int 0, .int 0, .int 0, .int (-1)])), (a8, .inr (5, [.ref a6, .ref a1, .ref a7, .ref mk1, .ref mk2, .int 0, .ref mk3, .int 0, .ref mk4, .ref mk5, .null, .int 0, .int (-1)]))]) hD hS hA [0, 1] rfl
  refine vx_calli (vx_runSX (As := [.ref x0, .ref o3]) (rest := []) ⟨hx, hb, hml, hown, htb⟩ (c_L_refresh l dC dI H.size x0 o3 a1 a2 a3 a4 a5 a6 a7 a8 mk1 mk2 mk3 mk4 mk5 hl9) (vx_cwSW 2 htb (gd_S kw_448 kw_449 kw_435 kw_602) rfl rfl rfl (by decide +kernel) ⟨Nat.le_of_ble_eq_true rfl, Nat.le_of_ble_eq_true rfl⟩) ⟨fun a U g mk q => by obtain ⟨q0, q1, qP, qK, qD, qG⟩ := q; exact ⟨q0, q1, qP, va_K.moved (u := U) (U := U.calling g mk a) (Vm.Alike.refl U.vm) qK, qD, GE.call g mk a qG⟩, fun U hU hW => ⟨rfl, by rw [hU], by rw [hU]; exact hPc, va_K.moved hW.alike hKc, hDc.weaken (fun _ _ _ _ => trivial), hG.go hS hFc hU hW⟩⟩ rfl rfl hl.1 rfl (lv_room (Nat.le_of_ble_eq_true rfl)) dL_law_550 ⟨(Nat.le_of_ble_eq_true rfl), (Nat.le_of_ble_eq_true rfl)⟩) hS (fun q _ h => hFc q h) hFc (fun q _ h => hFc q h) (fun E ce q9 u t H1 locs ht hvm hw hB hz1 hk1 hS hce hcv hcl => ?_) (fun r u t H1 locs ht hvm hw hB hz1 hk1 hS => ?_)
  · exact hw.elim
  subst hw
  obtain ⟨hP1, hK1, hD1⟩ := hB
  rw [ht] at hP1
  have hK1 := va_K.moved hvm.symm hK1
  obtain ⟨hP, hD⟩ := va_join (wr := [(y0, .inr (12, [.ref m0, .ref m1, .ref m2, .ref m3, .ref m4, .int 0, .ref m6, .ref m7, .ref m8, .ref m9, .ref m10, .ref m11, .ref m12, .ref m13, .ref m14, .ref m15, .ref m16, .ref m17, .ref m18, .ref m19, .int 0, .int 0, .int 0, .int (-1), .int 0, .int 0, .ref m26, .ref m27, .ref m28, .ref m29, .ref m30, .ref m31, .ref m32, .ref m33, .ref m34, .ref m35, .ref m36, .ref m37, .ref m38, .ref m39, .int 0, .int 0, .ref m42, .ref m43, .ref m44, .ref m45, .ref m46, .ref m47, .int 0, .int 0, .int 0, .int 0, .int (-1), .ref m53, .ref m54, .ref m55, .ref m56, .ref m57, .ref m58, .ref m59, .ref m60, .ref m61, .ref m62, .int 0, .ref m64, .ref m65, .ref m66, .ref m67, .ref m68, .ref m69, .ref m70, .ref m71, .ref m72, .ref m73, .int 0, .ref m75, .int 0]))]) (w1 := []) hP hD [0, 1] [2] rfl rfl (by decide) (by decide) hk1 hFc hP1 hD1
  have hK := hK.app hK1
  generalize H1 = H at hP hS ⊢
  have hP : va_P (dC, dI) vwCl [(y0, .inr (12, [.ref m0, .ref m1, .ref m2, .ref m3, .ref m4, .int 0, .ref m6, .ref m7, .ref m8, .ref m9, .ref m10, .ref m11, .ref m12, .ref m13, .ref m14, .ref m15, .ref m16, .ref m17, .ref m18, .ref m19, .int 0, .int 0, .int 0, .int (-1), .int 0, .int 0, .ref m26, .ref m27, .ref m28, .ref m29, .ref m30, .ref m31, .ref m32, .ref m33, .ref m34, .ref m35, .ref m36, .ref m37, .ref m38, .ref m39, .int 0, .int 0, .ref m42, .ref m43, .ref m44, .ref m45, .ref m46, .ref m47, .int 0, .int 0, .int 0, .int 0, .int (-1), .ref m53, .ref m54, .ref m55, .ref m56, .ref m57, .ref m58, .ref m59, .ref m60, .ref m61, .ref m62, .int 0, .ref m64, .ref m65, .ref m66, .ref m67, .ref m68, .ref m69, .ref m70, .ref m71, .ref m72, .ref m73, .int 0, .ref m75, .int 0]))] H := hP
  have hD : va_D A [(y0, .inr (12, [.ref m0, .ref m1, .ref m2, .ref m3, .ref m4, .int 0, .ref m6, .ref m7, .ref m8, .ref m9, .ref m10, .ref m11, .ref m12, .ref m13, .ref m14, .ref m15, .ref m16, .ref m17, .ref m18, .ref m19, .int 0, .int 0, .int 0, .int (-1), .int 0, .int 0, .ref m26, .ref m27, .ref m28, .ref m29, .ref m30, .ref m31, .ref m32, .ref m33, .ref m34, .ref m35, .ref m36, .ref m37, .ref m38, .ref m39, .int 0, .int 0, .ref m42, .ref m43, .ref m44, .ref m45, .ref m46, .ref m47, .int 0, .int 0, .int 0, .int 0, .int (-1), .ref m53, .ref m54, .ref m55, .ref m56, .ref m57, .ref m58, .ref m59, .ref m60, .ref m61, .ref m62, .int 0, .ref m64, .ref m65, .ref m66, .ref m67, .ref m68, .ref m69, .ref m70, .ref m71, .ref m72, .ref m73, .int 0, .ref m75, .int 0]))] := hD
  have hK : va_K (dC, dI) vwCl [] s := hK
  refine W.widen (k := 725) (n := 35025) (Nat.le_of_ble_eq_true rfl) (Nat.le_of_ble_eq_true rfl) ?_
  refine lv_istore (lv' := [(5, .int 1), (4, .int 0), (3, .ref o3), (2, .ref y0), (1, .ref x0), (0, .ref b)]) hx hb dL_law_553 hl (by decide) rfl (fun ls hl => ?_)
  refine lv_aload_n hx hb dL_law_555 rfl (lv_at hl 3 rfl) ?_
  have hPc := hP.sub (ws' := [(y0, .inr (12, [.ref m0, .ref m1, .ref m2, .ref m3, .ref m4, .int 0, .ref m6, .ref m7, .ref m8, .ref m9, .ref m10, .ref m11, .ref m12, .ref m13, .ref m14, .ref m15, .ref m16, .ref m17, .ref m18, .ref m19, .int 0, .int 0, .int 0, .int (-1), .int 0, .int 0, .ref m26, .ref m27, .ref m28, .ref m29, .ref m30, .ref m31, .ref m32, .ref m33, .ref m34, .ref m35, .ref m36, .ref m37, .ref m38, .ref m39, .int 0, .int 0, .ref m42, .ref m43, .ref m44, .ref m45, .ref m46, .ref m47, .int 0, .int 0, .int 0, .int 0, .int (-1), .ref m53, .ref m54, .ref m55, .ref m56, .ref m57, .ref m58, .ref m59, .ref m60, .ref m61, .ref m62, .int 0, .ref m64, .ref m65, .ref m66, .ref m67, .ref m68, .ref m69, .ref m70, .ref m71, .ref m72, .ref m73, .int 0, .ref m75, .int 0]))]) [0] rfl
  have hDc := hD.sub (ws' := [(y0, .inr (12, [.ref m0, .ref m1, .ref m2, .ref m3, .ref m4, .int 0, .ref m6, .ref m7, .ref m8, .ref m9, .ref m10, .ref m11, .ref m12, .ref m13, .ref m14, .ref m15, .ref m16, .ref m17, .ref m18, .ref m19, .int 0, .int 0, .int 0, .int (-1), .int 0, .int 0, .ref m26, .ref m27, .ref m28, .ref m29, .ref m30, .ref m31, .ref m32, .ref m33, .ref m34, .ref m35, .ref m36, .ref m37, .ref m38, .ref m39, .int 0, .int 0, .ref m42, .ref m43, .ref m44, .ref m45, .ref m46, .ref m47, .int 0, .int 0, .int 0, .int 0, .int (-1), .ref m53, .ref m54, .ref m55, .ref m56, .ref m57, .ref m58, .ref m59, .ref m60, .ref m61, .ref m62, .int 0, .ref m64, .ref m65, .ref m66, .ref m67, .ref m68, .ref m69, .ref m70, .ref m71, .ref m72, .ref m73, .int 0, .ref m75, .int 0]))]) [0] (by decide) rfl
  have hKc := hK.sub (tys' := []) [] rfl
  have hFc := va_free (wc := [(y0, .inr (12, [.ref m0, .ref m1, .ref m2, .ref m3, .ref m4, .int 0, .ref m6, .ref m7, .ref m8, .ref m9, .ref m10, .ref m11, .ref m12, .ref m13, .ref m14, .ref m15, .ref m16, .ref m17, .ref m18, .ref m19, .int 0, .int 0, .int 0, .int (-1), .int 0, .int 0, .ref m26, .ref m27, .ref m28, .ref m29, .ref m30, .ref m31, .ref m32, .ref m33, .ref m34, .ref m35, .ref m36, .ref m37, .ref m38, .ref m39, .int 0, .int 0, .ref m42, .ref m43, .ref m44, .ref m45, .ref m46, .ref m47, .int 0, .int 0, .int 0, .int 0, .int (-1), .ref m53, .ref m54, .ref m55, .ref m56, .ref m57, .ref m58, .ref m59, .ref m60, .ref m61, .ref m62, .int 0, .ref m64, .ref m65, .ref m66, .ref m67, .ref m68, .ref m69, .ref m70, .ref m71, .ref m72, .ref m73, .int 0, .ref m75, .int 0]))]) hD hS hA [0] rfl
  refine va_calli (va_runV (As := []) (rest := []) ⟨hx, hb, hml, hown, htb⟩ (c_X13_refresh l dC dI H.size y0 m0 m1 m2 m3 m4 m6 m7 m8 m9 m10 m11 m12 m13 m14 m15 m16 m17 m18 m19 m26 m27 m28 m29 m30 m31 m32 m33 m34 m35 m36 m37 m38 m39 m42 m43 m44 m45 m46 m47 m53 m54 m55 m56 m57 m58 m59 m60 m61 m62 m64 m65 m66 m67 m68 m69 m70 m71 m72 m73 m75) (cwV 0 htb (gd_V kw_450 kw_451 kw_452 kw_345 kw_603) rfl rfl rfl (by decide +kernel) ⟨Nat.le_of_ble_eq_true rfl, Nat.le_of_ble_eq_true rfl⟩) ⟨fun a U g mk q => by obtain ⟨q0, q1, qP, qK, qD⟩ := q; exact ⟨q0, q1, qP, va_K.moved (u := U) (U := U.calling g mk a) (Vm.Alike.refl U.vm) qK, qD⟩, va_recv hKc hPc (ci := 12) (q0 := 0) rfl rfl, fun U hU hW => ⟨rfl, by rw [hU], by rw [hU]; exact hPc, va_K.moved hW.alike hKc, hDc.weaken (fun _ _ _ _ => trivial)⟩⟩ rfl rfl hl.1 rfl (lv_room (Nat.le_of_ble_eq_true rfl)) dL_law_556 ⟨(Nat.le_of_ble_eq_true rfl), (Nat.le_of_ble_eq_true rfl)⟩) hS (fun q _ h => hFc q h) hFc (fun r u t H1 locs ht hvm hw hB hz1 hk1 hS => ?_)
  subst hw
  obtain ⟨hP1, hK1, hD1⟩ := hB
  rw [ht] at hP1
  have hK1 := va_K.moved hvm.symm hK1
  obtain ⟨hP, hD⟩ := va_join (wr := []) (w1 := [(y0, .inr (12, [.ref m0, .ref m1, .ref m2, .ref m3, .ref m4, .int 1, .ref m6, .ref m7, .ref m8, .ref m9, .ref m10, .ref m11, .ref m12, .ref m13, .ref m14, .ref m15, .ref m16, .ref m17, .ref m18, .ref m19, .int 0, .int 0, .int 0, .int (-1), .int 0, .int 0, .ref m26, .ref m27, .ref m28, .ref m29, .ref m30, .ref m31, .ref m32, .ref m33, .ref m34, .ref m35, .ref m36, .ref m37, .ref m38, .ref m39, .int 0, .int 0, .ref m42, .ref m43, .ref m44, .ref m45, .ref m46, .ref m47, .int 0, .int 0, .int 0, .int 0, .int (-1), .ref m53, .ref m54, .ref m55, .ref m56, .ref m57, .ref m58, .ref m59, .ref m60, .ref m61, .ref m62, .int 0, .ref m64, .ref m65, .ref m66, .ref m67, .ref m68, .ref m69, .ref m70, .ref m71, .ref m72, .ref m73, .int 0, .ref m75, .int 0]))]) hP hD [0] [] rfl rfl (by decide) (by decide) hk1 hFc hP1 hD1
  have hK := hK.app hK1
  generalize H1 = H at hP hS ⊢
  have hP : va_P (dC, dI) vwCl [(y0, .inr (12, [.ref m0, .ref m1, .ref m2, .ref m3, .ref m4, .int 1, .ref m6, .ref m7, .ref m8, .ref m9, .ref m10, .ref m11, .ref m12, .ref m13, .ref m14, .ref m15, .ref m16, .ref m17, .ref m18, .ref m19, .int 0, .int 0, .int 0, .int (-1), .int 0, .int 0, .ref m26, .ref m27, .ref m28, .ref m29, .ref m30, .ref m31, .ref m32, .ref m33, .ref m34, .ref m35, .ref m36, .ref m37, .ref m38, .ref m39, .int 0, .int 0, .ref m42, .ref m43, .ref m44, .ref m45, .ref m46, .ref m47, .int 0, .int 0, .int 0, .int 0, .int (-1), .ref m53, .ref m54, .ref m55, .ref m56, .ref m57, .ref m58, .ref m59, .ref m60, .ref m61, .ref m62, .int 0, .ref m64, .ref m65, .ref m66, .ref m67, .ref m68, .ref m69, .ref m70, .ref m71, .ref m72, .ref m73, .int 0, .ref m75, .int 0]))] H := hP
  have hD : va_D A [(y0, .inr (12, [.ref m0, .ref m1, .ref m2, .ref m3, .ref m4, .int 1, .ref m6, .ref m7, .ref m8, .ref m9, .ref m10, .ref m11, .ref m12, .ref m13, .ref m14, .ref m15, .ref m16, .ref m17, .ref m18, .ref m19, .int 0, .int 0, .int 0, .int (-1), .int 0, .int 0, .ref m26, .ref m27, .ref m28, .ref m29, .ref m30, .ref m31, .ref m32, .ref m33, .ref m34, .ref m35, .ref m36, .ref m37, .ref m38, .ref m39, .int 0, .int 0, .ref m42, .ref m43, .ref m44, .ref m45, .ref m46, .ref m47, .int 0, .int 0, .int 0, .int 0, .int (-1), .ref m53, .ref m54, .ref m55, .ref m56, .ref m57, .ref m58, .ref m59, .ref m60, .ref m61, .ref m62, .int 0, .ref m64, .ref m65, .ref m66, .ref m67, .ref m68, .ref m69, .ref m70, .ref m71, .ref m72, .ref m73, .int 0, .ref m75, .int 0]))] := hD
  have hK : va_K (dC, dI) vwCl [] s := hK
  refine W.widen (k := 725) (n := 35025) (Nat.le_of_ble_eq_true rfl) (Nat.le_of_ble_eq_true rfl) ?_
  refine lv_istore (lv' := [(6, .int 0), (5, .int 1), (4, .int 0), (3, .ref o3), (2, .ref y0), (1, .ref x0), (0, .ref b)]) hx hb dL_law_559 hl (by decide) rfl (fun ls hl => ?_)
  refine lv_aload_n hx hb dL_law_561 rfl (lv_at hl 4 rfl) ?_
  have hPc := hP.sub (ws' := [(y0, .inr (12, [.ref m0, .ref m1, .ref m2, .ref m3, .ref m4, .int 1, .ref m6, .ref m7, .ref m8, .ref m9, .ref m10, .ref m11, .ref m12, .ref m13, .ref m14, .ref m15, .ref m16, .ref m17, .ref m18, .ref m19, .int 0, .int 0, .int 0, .int (-1), .int 0, .int 0, .ref m26, .ref m27, .ref m28, .ref m29, .ref m30, .ref m31, .ref m32, .ref m33, .ref m34, .ref m35, .ref m36, .ref m37, .ref m38, .ref m39, .int 0, .int 0, .ref m42, .ref m43, .ref m44, .ref m45, .ref m46, .ref m47, .int 0, .int 0, .int 0, .int 0, .int (-1), .ref m53, .ref m54, .ref m55, .ref m56, .ref m57, .ref m58, .ref m59, .ref m60, .ref m61, .ref m62, .int 0, .ref m64, .ref m65, .ref m66, .ref m67, .ref m68, .ref m69, .ref m70, .ref m71, .ref m72, .ref m73, .int 0, .ref m75, .int 0]))]) [0] rfl
  have hDc := hD.sub (ws' := [(y0, .inr (12, [.ref m0, .ref m1, .ref m2, .ref m3, .ref m4, .int 1, .ref m6, .ref m7, .ref m8, .ref m9, .ref m10, .ref m11, .ref m12, .ref m13, .ref m14, .ref m15, .ref m16, .ref m17, .ref m18, .ref m19, .int 0, .int 0, .int 0, .int (-1), .int 0, .int 0, .ref m26, .ref m27, .ref m28, .ref m29, .ref m30, .ref m31, .ref m32, .ref m33, .ref m34, .ref m35, .ref m36, .ref m37, .ref m38, .ref m39, .int 0, .int 0, .ref m42, .ref m43, .ref m44, .ref m45, .ref m46, .ref m47, .int 0, .int 0, .int 0, .int 0, .int (-1), .ref m53, .ref m54, .ref m55, .ref m56, .ref m57, .ref m58, .ref m59, .ref m60, .ref m61, .ref m62, .int 0, .ref m64, .ref m65, .ref m66, .ref m67, .ref m68, .ref m69, .ref m70, .ref m71, .ref m72, .ref m73, .int 0, .ref m75, .int 0]))]) [0] (by decide) rfl
  have hKc := hK.sub (tys' := []) [] rfl
  have hFc := va_free (wc := [(y0, .inr (12, [.ref m0, .ref m1, .ref m2, .ref m3, .ref m4, .int 1, .ref m6, .ref m7, .ref m8, .ref m9, .ref m10, .ref m11, .ref m12, .ref m13, .ref m14, .ref m15, .ref m16, .ref m17, .ref m18, .ref m19, .int 0, .int 0, .int 0, .int (-1), .int 0, .int 0, .ref m26, .ref m27, .ref m28, .ref m29, .ref m30, .ref m31, .ref m32, .ref m33, .ref m34, .ref m35, .ref m36, .ref m37, .ref m38, .ref m39, .int 0, .int 0, .ref m42, .ref m43, .ref m44, .ref m45, .ref m46, .ref m47, .int 0, .int 0, .int 0, .int 0, .int (-1), .ref m53, .ref m54, .ref m55, .ref m56, .ref m57, .ref m58, .ref m59, .ref m60, .ref m61, .ref m62, .int 0, .ref m64, .ref m65, .ref m66, .ref m67, .ref m68, .ref m69, .ref m70, .ref m71, .ref m72, .ref m73, .int 0, .ref m75, .int 0]))]) hD hS hA [0] rfl
  refine va_calli (va_runV (As := []) (rest := []) ⟨hx, hb, hml, hown, htb⟩ (c_X13_thrown l dC dI H.size y0 m0 m1 m2 m3 m4 m6 m7 m8 m9 m10 m11 m12 m13 m14 m15 m16 m17 m18 m19 m26 m27 m28 m29 m30 m31 m32 m33 m34 m35 m36 m37 m38 m39 m42 m43 m44 m45 m46 m47 m53 m54 m55 m56 m57 m58 m59 m60 m61 m62 m64 m65 m66 m67 m68 m69 m70 m71 m72 m73 m75) (cwV 0 htb (gd_V kw_439 kw_440 kw_441 kw_345 kw_599) rfl rfl rfl (by decide +kernel) ⟨Nat.le_of_ble_eq_true rfl, Nat.le_of_ble_eq_true rfl⟩) ⟨fun a U g mk q => by obtain ⟨q0, q1, qP, qK, qD⟩ := q; exact ⟨q0, q1, qP, va_K.moved (u := U) (U := U.calling g mk a) (Vm.Alike.refl U.vm) qK, qD⟩, va_recv hKc hPc (ci := 12) (q0 := 0) rfl rfl, fun U hU hW => ⟨rfl, by rw [hU], by rw [hU]; exact hPc, va_K.moved hW.alike hKc, hDc.weaken (fun _ _ _ _ => trivial)⟩⟩ rfl rfl hl.1 rfl (lv_room (Nat.le_of_ble_eq_true rfl)) dL_law_562 ⟨(Nat.le_of_ble_eq_true rfl), (Nat.le_of_ble_eq_true rfl)⟩) hS (fun q _ h => hFc q h) hFc (fun r u t H1 locs ht hvm hw hB hz1 hk1 hS => ?_)
  subst hw
  obtain ⟨hP1, hK1, hD1⟩ := hB
  rw [ht] at hP1
  have hK1 := va_K.moved hvm.symm hK1
  obtain ⟨hP, hD⟩ := va_join (wr := []) (w1 := []) hP hD [0] [] rfl rfl (by decide) (by decide) hk1 hFc hP1 hD1
  have hK := hK.app hK1
  generalize H1 = H at hP hS ⊢
  have hP : va_P (dC, dI) vwCl [] H := hP
  have hD : va_D A [] := hD
  have hK : va_K (dC, dI) vwCl [] s := hK
  refine W.widen (k := 725) (n := 35025) (Nat.le_of_ble_eq_true rfl) (Nat.le_of_ble_eq_true rfl) ?_
  refine lv_iload hx hb dL_law_565 (lv_at hl 1 rfl) ?_
  refine lv_icmp_eq (tgt := 572) hx hb dL_law_567 (by decide) (fun _ => ?_) (fun c_1 => absurd (by decide) c_1)
  refine lv_iload hx hb dL_law_572 (lv_at hl 1 rfl) ?_
  refine lv_if_ne (tgt := 589) hx hb dL_law_574 (by decide) (fun _ => ?_) (fun c_2 => absurd c_2 (by decide))
  refine lv_goto (tgt := 885) hx hb dL_law_589 (by decide) ?_
  refine lv_iinc (v := 9) (lv' := [(4, .int 9), (6, .int 0), (5, .int 1), (3, .ref o3), (2, .ref y0), (1, .ref x0), (0, .ref b)]) hx hb dL_law_885 hl (k := 2) rfl (by decide) (by decide) rfl (fun ls hl => ?_)
  refine lv_goto (tgt := 23) hx hb dL_law_888 (by decide) ?_
  refine lv_iload hx hb dL_law_23 (lv_at hl 0 rfl) ?_
  refine lv_aload_n hx hb dL_law_25 rfl (lv_at hl 6 rfl) ?_
  refine va_slen hx hb hX hbl hbA hS dL_law_26 ?_
  refine lv_topi (fun z_3 ez_3 => ?_)
  obtain rfl : z_3 = 9 := ez_3.trans (by decide)
  refine lv_bipush (v := 9) hx hb dL_law_27 (by decide) ?_
  refine lv_isub hx hb dL_law_29 ?_
  refine lv_topi (fun z_4 ez_4 => ?_)
  obtain rfl : z_4 = 0 := ez_4.trans (by decide)
  refine lv_icmp_gt (tgt := 891) hx hb dL_law_30 (by decide) (fun _ => ?_) (fun c_5 => absurd (by decide) c_5)
  refine lv_iconst (v := 1) hx hb dL_law_891 (by decide) ?_
  refine va_forget (fun q hq => hAi _ (hS.2.2 q hq)) ?_
  refine W.widen (k := 600002) (n := 7302232) (Nat.le_of_ble_eq_true rfl) (Nat.le_of_ble_eq_true rfl) ?_
  exact lw_ret hx hb hr hlocks dL_law_892

set_option maxHeartbeats 4000000 in
set_option maxRecDepth 100000 in
theorem law_case_8 {p : Program} {l : Launch} {e : Env} {s : State} {m : MethodId} {below : List Frame} {meth : Method} {c : Code} {b : Nat} {xs : Nat → Int32} {dC : Nat → ClassId} {dI : Nat → Nat → Nat} {A : Nat → Prop} (hl9 : l.stackTraces = false) (C0 : lw_At p s m meth c b 9 xs) (hA : ∀ q : Nat, s.heap.size ≤ q → A q) (hAi : ∀ q : Nat, A q → s.heap.size ≤ q) (hbA : ¬ A b) (hG : GE A s) (x0 : Nat) (a1 : Nat) (a2 : Nat) (a3 : Nat) (a4 : Nat) (a5 : Nat) (a6 : Nat) (a7 : Nat) (a8 : Nat) (mk1 : Nat) (mk2 : Nat) (mk3 : Nat) (mk4 : Nat) (mk5 : Nat) (y0 : Nat) (m0 : Nat) (m1 : Nat) (m2 : Nat) (m3 : Nat) (m4 : Nat) (m6 : Nat) (m7 : Nat) (m8 : Nat) (m9 : Nat) (m10 : Nat) (m11 : Nat) (m12 : Nat) (m13 : Nat) (m14 : Nat) (m15 : Nat) (m16 : Nat) (m17 : Nat) (m18 : Nat) (m19 : Nat) (m26 : Nat) (m27 : Nat) (m28 : Nat) (m29 : Nat) (m30 : Nat) (m31 : Nat) (m32 : Nat) (m33 : Nat) (m34 : Nat) (m35 : Nat) (m36 : Nat) (m37 : Nat) (m38 : Nat) (m39 : Nat) (m42 : Nat) (m43 : Nat) (m44 : Nat) (m45 : Nat) (m46 : Nat) (m47 : Nat) (m53 : Nat) (m54 : Nat) (m55 : Nat) (m56 : Nat) (m57 : Nat) (m58 : Nat) (m59 : Nat) (m60 : Nat) (m61 : Nat) (m62 : Nat) (m64 : Nat) (m65 : Nat) (m66 : Nat) (m67 : Nat) (m68 : Nat) (m69 : Nat) (m70 : Nat) (m71 : Nat) (m72 : Nat) (m73 : Nat) (m75 : Nat) (o3 : Nat) (H : Heap) (locs : List Loc) (ls : Array Slot) (hK : va_K (dC, dI) vwCl [] s) (hP : va_P (dC, dI) vwCl [(x0, .inr (11, [.ref a1, .ref a2, .ref a3, .ref a4, .ref a5, .ref a6, .ref a7, .ref a8, .int 0, .int 0, .int 0, .int (-1)])), (a8, .inr (5, [.ref a6, .ref a1, .ref a7, .ref mk1, .ref mk2, .int 0, .ref mk3, .int 0, .ref mk4, .ref mk5, .null, .int 0, .int (-1)])), (y0, .inr (12, [.ref m0, .ref m1, .ref m2, .ref m3, .ref m4, .int 0, .ref m6, .ref m7, .ref m8, .ref m9, .ref m10, .ref m11, .ref m12, .ref m13, .ref m14, .ref m15, .ref m16, .ref m17, .ref m18, .ref m19, .int 0, .int 0, .int 0, .int (-1), .int 0, .int 0, .ref m26, .ref m27, .ref m28, .ref m29, .ref m30, .ref m31, .ref m32, .ref m33, .ref m34, .ref m35, .ref m36, .ref m37, .ref m38, .ref m39, .int 0, .int 0, .ref m42, .ref m43, .ref m44, .ref m45, .ref m46, .ref m47, .int 0, .int 0, .int 0, .int 0, .int (-1), .ref m53, .ref m54, .ref m55, .ref m56, .ref m57, .ref m58, .ref m59, .ref m60, .ref m61, .ref m62, .int 0, .ref m64, .ref m65, .ref m66, .ref m67, .ref m68, .ref m69, .ref m70, .ref m71, .ref m72, .ref m73, .int 0, .ref m75, .int 0]))] H) (hD : va_D A [(x0, .inr (11, [.ref a1, .ref a2, .ref a3, .ref a4, .ref a5, .ref a6, .ref a7, .ref a8, .int 0, .int 0, .int 0, .int (-1)])), (a8, .inr (5, [.ref a6, .ref a1, .ref a7, .ref mk1, .ref mk2, .int 0, .ref mk3, .int 0, .ref mk4, .ref mk5, .null, .int 0, .int (-1)])), (y0, .inr (12, [.ref m0, .ref m1, .ref m2, .ref m3, .ref m4, .int 0, .ref m6, .ref m7, .ref m8, .ref m9, .ref m10, .ref m11, .ref m12, .ref m13, .ref m14, .ref m15, .ref m16, .ref m17, .ref m18, .ref m19, .int 0, .int 0, .int 0, .int (-1), .int 0, .int 0, .ref m26, .ref m27, .ref m28, .ref m29, .ref m30, .ref m31, .ref m32, .ref m33, .ref m34, .ref m35, .ref m36, .ref m37, .ref m38, .ref m39, .int 0, .int 0, .ref m42, .ref m43, .ref m44, .ref m45, .ref m46, .ref m47, .int 0, .int 0, .int 0, .int 0, .int (-1), .ref m53, .ref m54, .ref m55, .ref m56, .ref m57, .ref m58, .ref m59, .ref m60, .ref m61, .ref m62, .int 0, .ref m64, .ref m65, .ref m66, .ref m67, .ref m68, .ref m69, .ref m70, .ref m71, .ref m72, .ref m73, .int 0, .ref m75, .int 0]))]) (hS : va_S A s.heap H locs) (hl : lv_has ls 7 [(4, .int 0), (3, .ref o3), (2, .ref y0), (1, .ref x0), (0, .ref b)]) : W p l e room_1 s m #[Value.ref b] below meth c H locs 724 35019 (lw_Z below #[Value.ref b] s) (F0 m 592 ls []) := by
  obtain ⟨hx, hb, hr, hml, hown, hts, hX, hbl, hlocks, hgv⟩ := C0
  have hown : s.vm.findClass RL = some m.cls := hown
  have htb := fun (w : Cond) (h : w ∈ tb) => hts w (tb_in w h)
  refine lv_aload_n hx hb dL_law_592 rfl (lv_at hl 3 rfl) ?_
  refine lv_aload_n hx hb dL_law_593 rfl (lv_at hl 4 rfl) ?_
  refine lv_iload hx hb dL_law_594 (lv_at hl 0 rfl) ?_
  refine lv_iconst (v := 1) hx hb dL_law_596 (by decide) ?_
  refine lv_iadd hx hb dL_law_597 ?_
  refine lv_topi (fun z_1 ez_1 => ?_)
  obtain rfl : z_1 = 1 := ez_1.trans (by decide)
  refine va_sld hx hb hX hbl hbA hS (by unfold vp_in; decide) dL_law_598 ?_
  refine lv_topi (fun z_2 ez_2 => ?_)
  obtain rfl : z_2 = xs 1 := ez_2
  refine lv_i2l (v := ((xs 1) : Int32).toInt64) hx hb dL_law_599 rfl ?_
  refine lv_bipush (v := 32) hx hb dL_law_600 (by decide) ?_
  refine lv_lshl (v := (((xs 1) : Int32).toInt64) <<< ((32 : Int32).toInt64 &&& 63)) hx hb dL_law_602 rfl ?_
  refine lv_aload_n hx hb dL_law_603 rfl (lv_at hl 4 rfl) ?_
  refine lv_iload hx hb dL_law_604 (lv_at hl 0 rfl) ?_
  refine lv_iconst (v := 2) hx hb dL_law_606 (by decide) ?_
  refine lv_iadd hx hb dL_law_607 ?_
  refine lv_topi (fun z_3 ez_3 => ?_)
  obtain rfl : z_3 = 2 := ez_3.trans (by decide)
  refine va_sld hx hb hX hbl hbA hS (by unfold vp_in; decide) dL_law_608 ?_
  refine lv_topi (fun z_4 ez_4 => ?_)
  obtain rfl : z_4 = xs 2 := ez_4
  refine lv_i2l (v := ((xs 2) : Int32).toInt64) hx hb dL_law_609 rfl ?_
  refine lv_ldc2 (own := RL) (v := 4294967295) hx hb hown (htb _ kw_453) dL_law_610 ?_
  refine lv_land hx hb dL_law_613 ?_
  refine lv_lor hx hb dL_law_614 ?_
  refine lv_aload_n hx hb dL_law_615 rfl (lv_at hl 1 rfl) ?_
  have hPc := hP.sub (ws' := [(x0, .inr (11, [.ref a1, .ref a2, .ref a3, .ref a4, .ref a5, .ref a6, .ref a7, .ref a8, .int 0, .int 0, .int 0, .int (-1)])), (a8, .inr (5, [.ref a6, .ref a1, .ref a7, .ref mk1, .ref mk2, .int 0, .ref mk3, .int 0, .ref mk4, .ref mk5, .null, .int 0, .int (-1)]))]) [0, 1] rfl
  have hDc := hD.sub (ws' := [(x0, .inr (11, [.ref a1, .ref a2, .ref a3, .ref a4, .ref a5, .ref a6, .ref a7, .ref a8, .int 0, .int 0, .int 0, .int (-1)])), (a8, .inr (5, [.ref a6, .ref a1, .ref a7, .ref mk1, .ref mk2, .int 0, .ref mk3, .int 0, .ref mk4, .ref mk5, .null, .int 0, .int (-1)]))]) [0, 1] (by decide) rfl
  have hKc := hK.sub (tys' := []) [] rfl
  have hFc := va_free (wc := [(x0, .inr (11, [.ref a1, .ref a2, .ref a3, .ref a4, .ref a5, .ref a6, .ref a7, .ref a8, .int 0, .int 0, .int 0, .int (-1)])), (a8, .inr (5, [.ref a6, .ref a1, .ref a7, .ref mk1, .ref mk2, .int 0, .ref mk3, .int 0, .ref mk4, .ref mk5, .null, .int 0, .int (-1)]))]) hD hS hA [0, 1] rfl
  refine vx_calli (vx_runSX (As := [.ref x0, .long (((((xs 1) : Int32).toInt64) <<< ((32 : Int32).toInt64 &&& 63)) ||| ((((xs 2) : Int32).toInt64) &&& 4294967295)), .ref o3]) (rest := []) ⟨hx, hb, hml, hown, htb⟩ (c_L_get l dC dI H.size x0 (((((xs 1) : Int32).toInt64) <<< ((32 : Int32).toInt64 &&& 63)) ||| ((((xs 2) : Int32).toInt64) &&& 4294967295)) o3 a1 a2 a3 a4 a5 a6 a7 a8 mk1 mk2 mk3 mk4 mk5 hl9) (vx_cwSW 3 htb (gd_S kw_454 kw_455 kw_435 kw_604) rfl rfl rfl (by decide +kernel) ⟨Nat.le_of_ble_eq_true rfl, Nat.le_of_ble_eq_true rfl⟩) ⟨fun a U g mk q => by obtain ⟨q0, q1, qP, qK, qD, qG⟩ := q; exact ⟨q0, q1, qP, va_K.moved (u := U) (U := U.calling g mk a) (Vm.Alike.refl U.vm) qK, qD, GE.call g mk a qG⟩, fun U hU hW => ⟨rfl, by rw [hU], by rw [hU]; exact hPc, va_K.moved hW.alike hKc, hDc.weaken (fun _ _ _ _ => trivial), hG.go hS hFc hU hW⟩⟩ rfl rfl hl.1 rfl (lv_room (Nat.le_of_ble_eq_true rfl)) dL_law_616 ⟨(Nat.le_of_ble_eq_true rfl), (Nat.le_of_ble_eq_true rfl)⟩) hS (fun q _ h => hFc q h) hFc (fun q _ h => hFc q h) (fun E ce q9 u t H1 locs ht hvm hw hB hz1 hk1 hS hce hcv hcl => ?_) (fun r u t H1 locs ht hvm hw hB hz1 hk1 hS => ?_)
  · exact hw.elim
  subst hw
  obtain ⟨hP1, hK1, hD1⟩ := hB
  rw [ht] at hP1
  have hK1 := va_K.moved hvm.symm hK1
  obtain ⟨hP, hD⟩ := va_join (wr := [(y0, .inr (12, [.ref m0, .ref m1, .ref m2, .ref m3, .ref m4, .int 0, .ref m6, .ref m7, .ref m8, .ref m9, .ref m10, .ref m11, .ref m12, .ref m13, .ref m14, .ref m15, .ref m16, .ref m17, .ref m18, .ref m19, .int 0, .int 0, .int 0, .int (-1), .int 0, .int 0, .ref m26, .ref m27, .ref m28, .ref m29, .ref m30, .ref m31, .ref m32, .ref m33, .ref m34, .ref m35, .ref m36, .ref m37, .ref m38, .ref m39, .int 0, .int 0, .ref m42, .ref m43, .ref m44, .ref m45, .ref m46, .ref m47, .int 0, .int 0, .int 0, .int 0, .int (-1), .ref m53, .ref m54, .ref m55, .ref m56, .ref m57, .ref m58, .ref m59, .ref m60, .ref m61, .ref m62, .int 0, .ref m64, .ref m65, .ref m66, .ref m67, .ref m68, .ref m69, .ref m70, .ref m71, .ref m72, .ref m73, .int 0, .ref m75, .int 0]))]) (w1 := []) hP hD [0, 1] [2] rfl rfl (by decide) (by decide) hk1 hFc hP1 hD1
  have hK := hK.app hK1
  generalize H1 = H at hP hS ⊢
  have hP : va_P (dC, dI) vwCl [(y0, .inr (12, [.ref m0, .ref m1, .ref m2, .ref m3, .ref m4, .int 0, .ref m6, .ref m7, .ref m8, .ref m9, .ref m10, .ref m11, .ref m12, .ref m13, .ref m14, .ref m15, .ref m16, .ref m17, .ref m18, .ref m19, .int 0, .int 0, .int 0, .int (-1), .int 0, .int 0, .ref m26, .ref m27, .ref m28, .ref m29, .ref m30, .ref m31, .ref m32, .ref m33, .ref m34, .ref m35, .ref m36, .ref m37, .ref m38, .ref m39, .int 0, .int 0, .ref m42, .ref m43, .ref m44, .ref m45, .ref m46, .ref m47, .int 0, .int 0, .int 0, .int 0, .int (-1), .ref m53, .ref m54, .ref m55, .ref m56, .ref m57, .ref m58, .ref m59, .ref m60, .ref m61, .ref m62, .int 0, .ref m64, .ref m65, .ref m66, .ref m67, .ref m68, .ref m69, .ref m70, .ref m71, .ref m72, .ref m73, .int 0, .ref m75, .int 0]))] H := hP
  have hD : va_D A [(y0, .inr (12, [.ref m0, .ref m1, .ref m2, .ref m3, .ref m4, .int 0, .ref m6, .ref m7, .ref m8, .ref m9, .ref m10, .ref m11, .ref m12, .ref m13, .ref m14, .ref m15, .ref m16, .ref m17, .ref m18, .ref m19, .int 0, .int 0, .int 0, .int (-1), .int 0, .int 0, .ref m26, .ref m27, .ref m28, .ref m29, .ref m30, .ref m31, .ref m32, .ref m33, .ref m34, .ref m35, .ref m36, .ref m37, .ref m38, .ref m39, .int 0, .int 0, .ref m42, .ref m43, .ref m44, .ref m45, .ref m46, .ref m47, .int 0, .int 0, .int 0, .int 0, .int (-1), .ref m53, .ref m54, .ref m55, .ref m56, .ref m57, .ref m58, .ref m59, .ref m60, .ref m61, .ref m62, .int 0, .ref m64, .ref m65, .ref m66, .ref m67, .ref m68, .ref m69, .ref m70, .ref m71, .ref m72, .ref m73, .int 0, .ref m75, .int 0]))] := hD
  have hK : va_K (dC, dI) vwCl [] s := hK
  refine W.widen (k := 725) (n := 35025) (Nat.le_of_ble_eq_true rfl) (Nat.le_of_ble_eq_true rfl) ?_
  refine lv_istore (lv' := [(5, .int 1), (4, .int 0), (3, .ref o3), (2, .ref y0), (1, .ref x0), (0, .ref b)]) hx hb dL_law_619 hl (by decide) rfl (fun ls hl => ?_)
  refine lv_aload_n hx hb dL_law_621 rfl (lv_at hl 3 rfl) ?_
  refine lv_aload_n hx hb dL_law_622 rfl (lv_at hl 5 rfl) ?_
  refine lv_iload hx hb dL_law_623 (lv_at hl 1 rfl) ?_
  refine lv_iconst (v := 1) hx hb dL_law_625 (by decide) ?_
  refine lv_iadd hx hb dL_law_626 ?_
  refine lv_topi (fun z_5 ez_5 => ?_)
  obtain rfl : z_5 = 1 := ez_5.trans (by decide)
  refine va_sld hx hb hX hbl hbA hS (by unfold vp_in; decide) dL_law_627 ?_
  refine lv_topi (fun z_6 ez_6 => ?_)
  obtain rfl : z_6 = xs 1 := ez_6
  refine lv_i2l (v := ((xs 1) : Int32).toInt64) hx hb dL_law_628 rfl ?_
  refine lv_bipush (v := 32) hx hb dL_law_629 (by decide) ?_
  refine lv_lshl (v := (((xs 1) : Int32).toInt64) <<< ((32 : Int32).toInt64 &&& 63)) hx hb dL_law_631 rfl ?_
  refine lv_aload_n hx hb dL_law_632 rfl (lv_at hl 5 rfl) ?_
  refine lv_iload hx hb dL_law_633 (lv_at hl 1 rfl) ?_
  refine lv_iconst (v := 2) hx hb dL_law_635 (by decide) ?_
  refine lv_iadd hx hb dL_law_636 ?_
  refine lv_topi (fun z_7 ez_7 => ?_)
  obtain rfl : z_7 = 2 := ez_7.trans (by decide)
  refine va_sld hx hb hX hbl hbA hS (by unfold vp_in; decide) dL_law_637 ?_
  refine lv_topi (fun z_8 ez_8 => ?_)
  obtain rfl : z_8 = xs 2 := ez_8
  refine lv_i2l (v := ((xs 2) : Int32).toInt64) hx hb dL_law_638 rfl ?_
  refine lv_ldc2 (own := RL) (v := 4294967295) hx hb hown (htb _ kw_453) dL_law_639 ?_
  refine lv_land hx hb dL_law_642 ?_
  refine lv_lor hx hb dL_law_643 ?_
  have hPc := hP.sub (ws' := [(y0, .inr (12, [.ref m0, .ref m1, .ref m2, .ref m3, .ref m4, .int 0, .ref m6, .ref m7, .ref m8, .ref m9, .ref m10, .ref m11, .ref m12, .ref m13, .ref m14, .ref m15, .ref m16, .ref m17, .ref m18, .ref m19, .int 0, .int 0, .int 0, .int (-1), .int 0, .int 0, .ref m26, .ref m27, .ref m28, .ref m29, .ref m30, .ref m31, .ref m32, .ref m33, .ref m34, .ref m35, .ref m36, .ref m37, .ref m38, .ref m39, .int 0, .int 0, .ref m42, .ref m43, .ref m44, .ref m45, .ref m46, .ref m47, .int 0, .int 0, .int 0, .int 0, .int (-1), .ref m53, .ref m54, .ref m55, .ref m56, .ref m57, .ref m58, .ref m59, .ref m60, .ref m61, .ref m62, .int 0, .ref m64, .ref m65, .ref m66, .ref m67, .ref m68, .ref m69, .ref m70, .ref m71, .ref m72, .ref m73, .int 0, .ref m75, .int 0]))]) [0] rfl
  have hDc := hD.sub (ws' := [(y0, .inr (12, [.ref m0, .ref m1, .ref m2, .ref m3, .ref m4, .int 0, .ref m6, .ref m7, .ref m8, .ref m9, .ref m10, .ref m11, .ref m12, .ref m13, .ref m14, .ref m15, .ref m16, .ref m17, .ref m18, .ref m19, .int 0, .int 0, .int 0, .int (-1), .int 0, .int 0, .ref m26, .ref m27, .ref m28, .ref m29, .ref m30, .ref m31, .ref m32, .ref m33, .ref m34, .ref m35, .ref m36, .ref m37, .ref m38, .ref m39, .int 0, .int 0, .ref m42, .ref m43, .ref m44, .ref m45, .ref m46, .ref m47, .int 0, .int 0, .int 0, .int 0, .int (-1), .ref m53, .ref m54, .ref m55, .ref m56, .ref m57, .ref m58, .ref m59, .ref m60, .ref m61, .ref m62, .int 0, .ref m64, .ref m65, .ref m66, .ref m67, .ref m68, .ref m69, .ref m70, .ref m71, .ref m72, .ref m73, .int 0, .ref m75, .int 0]))]) [0] (by decide) rfl
  have hKc := hK.sub (tys' := []) [] rfl
  have hFc := va_free (wc := [(y0, .inr (12, [.ref m0, .ref m1, .ref m2, .ref m3, .ref m4, .int 0, .ref m6, .ref m7, .ref m8, .ref m9, .ref m10, .ref m11, .ref m12, .ref m13, .ref m14, .ref m15, .ref m16, .ref m17, .ref m18, .ref m19, .int 0, .int 0, .int 0, .int (-1), .int 0, .int 0, .ref m26, .ref m27, .ref m28, .ref m29, .ref m30, .ref m31, .ref m32, .ref m33, .ref m34, .ref m35, .ref m36, .ref m37, .ref m38, .ref m39, .int 0, .int 0, .ref m42, .ref m43, .ref m44, .ref m45, .ref m46, .ref m47, .int 0, .int 0, .int 0, .int 0, .int (-1), .ref m53, .ref m54, .ref m55, .ref m56, .ref m57, .ref m58, .ref m59, .ref m60, .ref m61, .ref m62, .int 0, .ref m64, .ref m65, .ref m66, .ref m67, .ref m68, .ref m69, .ref m70, .ref m71, .ref m72, .ref m73, .int 0, .ref m75, .int 0]))]) hD hS hA [0] rfl
  refine va_calli (va_runV (As := [.long (((((xs 1) : Int32).toInt64) <<< ((32 : Int32).toInt64 &&& 63)) ||| ((((xs 2) : Int32).toInt64) &&& 4294967295))]) (rest := []) ⟨hx, hb, hml, hown, htb⟩ (c_X13_get l dC dI H.size y0 (((((xs 1) : Int32).toInt64) <<< ((32 : Int32).toInt64 &&& 63)) ||| ((((xs 2) : Int32).toInt64) &&& 4294967295)) m0 m1 m2 m3 m4 m6 m7 m8 m9 m10 m11 m12 m13 m14 m15 m16 m17 m18 m19 m26 m27 m28 m29 m30 m31 m32 m33 m34 m35 m36 m37 m38 m39 m42 m43 m44 m45 m46 m47 m53 m54 m55 m56 m57 m58 m59 m60 m61 m62 m64 m65 m66 m67 m68 m69 m70 m71 m72 m73 m75) (cwV 1 htb (gd_V kw_456 kw_457 kw_458 kw_345 kw_605) rfl rfl rfl (by decide +kernel) ⟨Nat.le_of_ble_eq_true rfl, Nat.le_of_ble_eq_true rfl⟩) ⟨fun a U g mk q => by obtain ⟨q0, q1, qP, qK, qD⟩ := q; exact ⟨q0, q1, qP, va_K.moved (u := U) (U := U.calling g mk a) (Vm.Alike.refl U.vm) qK, qD⟩, va_recv hKc hPc (ci := 12) (q0 := 0) rfl rfl, fun U hU hW => ⟨rfl, by rw [hU], by rw [hU]; exact hPc, va_K.moved hW.alike hKc, hDc.weaken (fun _ _ _ _ => trivial)⟩⟩ rfl rfl hl.1 rfl (lv_room (Nat.le_of_ble_eq_true rfl)) dL_law_644 ⟨(Nat.le_of_ble_eq_true rfl), (Nat.le_of_ble_eq_true rfl)⟩) hS (fun q _ h => hFc q h) hFc (fun r u t H1 locs ht hvm hw hB hz1 hk1 hS => ?_)
  subst hw
  obtain ⟨hP1, hK1, hD1⟩ := hB
  rw [ht] at hP1
  have hK1 := va_K.moved hvm.symm hK1
  obtain ⟨hP, hD⟩ := va_join (wr := []) (w1 := [(y0, .inr (12, [.ref m0, .ref m1, .ref m2, .ref m3, .ref m4, .int 1, .ref m6, .ref m7, .ref m8, .ref m9, .ref m10, .ref m11, .ref m12, .ref m13, .ref m14, .ref m15, .ref m16, .ref m17, .ref m18, .ref m19, .int 0, .int 0, .int 0, .int (-1), .int 0, .int 0, .ref m26, .ref m27, .ref m28, .ref m29, .ref m30, .ref m31, .ref m32, .ref m33, .ref m34, .ref m35, .ref m36, .ref m37, .ref m38, .ref m39, .int 0, .int 0, .ref m42, .ref m43, .ref m44, .ref m45, .ref m46, .ref m47, .int 0, .int 0, .int 0, .int 0, .int (-1), .ref m53, .ref m54, .ref m55, .ref m56, .ref m57, .ref m58, .ref m59, .ref m60, .ref m61, .ref m62, .int 0, .ref m64, .ref m65, .ref m66, .ref m67, .ref m68, .ref m69, .ref m70, .ref m71, .ref m72, .ref m73, .int 0, .ref m75, .int 0]))]) hP hD [0] [] rfl rfl (by decide) (by decide) hk1 hFc hP1 hD1
  have hK := hK.app hK1
  generalize H1 = H at hP hS ⊢
  have hP : va_P (dC, dI) vwCl [(y0, .inr (12, [.ref m0, .ref m1, .ref m2, .ref m3, .ref m4, .int 1, .ref m6, .ref m7, .ref m8, .ref m9, .ref m10, .ref m11, .ref m12, .ref m13, .ref m14, .ref m15, .ref m16, .ref m17, .ref m18, .ref m19, .int 0, .int 0, .int 0, .int (-1), .int 0, .int 0, .ref m26, .ref m27, .ref m28, .ref m29, .ref m30, .ref m31, .ref m32, .ref m33, .ref m34, .ref m35, .ref m36, .ref m37, .ref m38, .ref m39, .int 0, .int 0, .ref m42, .ref m43, .ref m44, .ref m45, .ref m46, .ref m47, .int 0, .int 0, .int 0, .int 0, .int (-1), .ref m53, .ref m54, .ref m55, .ref m56, .ref m57, .ref m58, .ref m59, .ref m60, .ref m61, .ref m62, .int 0, .ref m64, .ref m65, .ref m66, .ref m67, .ref m68, .ref m69, .ref m70, .ref m71, .ref m72, .ref m73, .int 0, .ref m75, .int 0]))] H := hP
  have hD : va_D A [(y0, .inr (12, [.ref m0, .ref m1, .ref m2, .ref m3, .ref m4, .int 1, .ref m6, .ref m7, .ref m8, .ref m9, .ref m10, .ref m11, .ref m12, .ref m13, .ref m14, .ref m15, .ref m16, .ref m17, .ref m18, .ref m19, .int 0, .int 0, .int 0, .int (-1), .int 0, .int 0, .ref m26, .ref m27, .ref m28, .ref m29, .ref m30, .ref m31, .ref m32, .ref m33, .ref m34, .ref m35, .ref m36, .ref m37, .ref m38, .ref m39, .int 0, .int 0, .ref m42, .ref m43, .ref m44, .ref m45, .ref m46, .ref m47, .int 0, .int 0, .int 0, .int 0, .int (-1), .ref m53, .ref m54, .ref m55, .ref m56, .ref m57, .ref m58, .ref m59, .ref m60, .ref m61, .ref m62, .int 0, .ref m64, .ref m65, .ref m66, .ref m67, .ref m68, .ref m69, .ref m70, .ref m71, .ref m72, .ref m73, .int 0, .ref m75, .int 0]))] := hD
  have hK : va_K (dC, dI) vwCl [] s := hK
  refine W.widen (k := 725) (n := 35025) (Nat.le_of_ble_eq_true rfl) (Nat.le_of_ble_eq_true rfl) ?_
  refine lv_istore (lv' := [(6, .int 0), (5, .int 1), (4, .int 0), (3, .ref o3), (2, .ref y0), (1, .ref x0), (0, .ref b)]) hx hb dL_law_647 hl (by decide) rfl (fun ls hl => ?_)
  refine lv_aload_n hx hb dL_law_649 rfl (lv_at hl 4 rfl) ?_
  have hPc := hP.sub (ws' := [(y0, .inr (12, [.ref m0, .ref m1, .ref m2, .ref m3, .ref m4, .int 1, .ref m6, .ref m7, .ref m8, .ref m9, .ref m10, .ref m11, .ref m12, .ref m13, .ref m14, .ref m15, .ref m16, .ref m17, .ref m18, .ref m19, .int 0, .int 0, .int 0, .int (-1), .int 0, .int 0, .ref m26, .ref m27, .ref m28, .ref m29, .ref m30, .ref m31, .ref m32, .ref m33, .ref m34, .ref m35, .ref m36, .ref m37, .ref m38, .ref m39, .int 0, .int 0, .ref m42, .ref m43, .ref m44, .ref m45, .ref m46, .ref m47, .int 0, .int 0, .int 0, .int 0, .int (-1), .ref m53, .ref m54, .ref m55, .ref m56, .ref m57, .ref m58, .ref m59, .ref m60, .ref m61, .ref m62, .int 0, .ref m64, .ref m65, .ref m66, .ref m67, .ref m68, .ref m69, .ref m70, .ref m71, .ref m72, .ref m73, .int 0, .ref m75, .int 0]))]) [0] rfl
  have hDc := hD.sub (ws' := [(y0, .inr (12, [.ref m0, .ref m1, .ref m2, .ref m3, .ref m4, .int 1, .ref m6, .ref m7, .ref m8, .ref m9, .ref m10, .ref m11, .ref m12, .ref m13, .ref m14, .ref m15, .ref m16, .ref m17, .ref m18, .ref m19, .int 0, .int 0, .int 0, .int (-1), .int 0, .int 0, .ref m26, .ref m27, .ref m28, .ref m29, .ref m30, .ref m31, .ref m32, .ref m33, .ref m34, .ref m35, .ref m36, .ref m37, .ref m38, .ref m39, .int 0, .int 0, .ref m42, .ref m43, .ref m44, .ref m45, .ref m46, .ref m47, .int 0, .int 0, .int 0, .int 0, .int (-1), .ref m53, .ref m54, .ref m55, .ref m56, .ref m57, .ref m58, .ref m59, .ref m60, .ref m61, .ref m62, .int 0, .ref m64, .ref m65, .ref m66, .ref m67, .ref m68, .ref m69, .ref m70, .ref m71, .ref m72, .ref m73, .int 0, .ref m75, .int 0]))]) [0] (by decide) rfl
  have hKc := hK.sub (tys' := []) [] rfl
  have hFc := va_free (wc := [(y0, .inr (12, [.ref m0, .ref m1, .ref m2, .ref m3, .ref m4, .int 1, .ref m6, .ref m7, .ref m8, .ref m9, .ref m10, .ref m11, .ref m12, .ref m13, .ref m14, .ref m15, .ref m16, .ref m17, .ref m18, .ref m19, .int 0, .int 0, .int 0, .int (-1), .int 0, .int 0, .ref m26, .ref m27, .ref m28, .ref m29, .ref m30, .ref m31, .ref m32, .ref m33, .ref m34, .ref m35, .ref m36, .ref m37, .ref m38, .ref m39, .int 0, .int 0, .ref m42, .ref m43, .ref m44, .ref m45, .ref m46, .ref m47, .int 0, .int 0, .int 0, .int 0, .int (-1), .ref m53, .ref m54, .ref m55, .ref m56, .ref m57, .ref m58, .ref m59, .ref m60, .ref m61, .ref m62, .int 0, .ref m64, .ref m65, .ref m66, .ref m67, .ref m68, .ref m69, .ref m70, .ref m71, .ref m72, .ref m73, .int 0, .ref m75, .int 0]))]) hD hS hA [0] rfl
  refine va_calli (va_runV (As := []) (rest := []) ⟨hx, hb, hml, hown, htb⟩ (c_X13_thrown l dC dI H.size y0 m0 m1 m2 m3 m4 m6 m7 m8 m9 m10 m11 m12 m13 m14 m15 m16 m17 m18 m19 m26 m27 m28 m29 m30 m31 m32 m33 m34 m35 m36 m37 m38 m39 m42 m43 m44 m45 m46 m47 m53 m54 m55 m56 m57 m58 m59 m60 m61 m62 m64 m65 m66 m67 m68 m69 m70 m71 m72 m73 m75) (cwV 0 htb (gd_V kw_439 kw_440 kw_441 kw_345 kw_599) rfl rfl rfl (by decide +kernel) ⟨Nat.le_of_ble_eq_true rfl, Nat.le_of_ble_eq_true rfl⟩) ⟨fun a U g mk q => by obtain ⟨q0, q1, qP, qK, qD⟩ := q; exact ⟨q0, q1, qP, va_K.moved (u := U) (U := U.calling g mk a) (Vm.Alike.refl U.vm) qK, qD⟩, va_recv hKc hPc (ci := 12) (q0 := 0) rfl rfl, fun U hU hW => ⟨rfl, by rw [hU], by rw [hU]; exact hPc, va_K.moved hW.alike hKc, hDc.weaken (fun _ _ _ _ => trivial)⟩⟩ rfl rfl hl.1 rfl (lv_room (Nat.le_of_ble_eq_true rfl)) dL_law_650 ⟨(Nat.le_of_ble_eq_true rfl), (Nat.le_of_ble_eq_true rfl)⟩) hS (fun q _ h => hFc q h) hFc (fun r u t H1 locs ht hvm hw hB hz1 hk1 hS => ?_)
  subst hw
  obtain ⟨hP1, hK1, hD1⟩ := hB
  rw [ht] at hP1
  have hK1 := va_K.moved hvm.symm hK1
  obtain ⟨hP, hD⟩ := va_join (wr := []) (w1 := []) hP hD [0] [] rfl rfl (by decide) (by decide) hk1 hFc hP1 hD1
  have hK := hK.app hK1
  generalize H1 = H at hP hS ⊢
  have hP : va_P (dC, dI) vwCl [] H := hP
  have hD : va_D A [] := hD
  have hK : va_K (dC, dI) vwCl [] s := hK
  refine W.widen (k := 725) (n := 35025) (Nat.le_of_ble_eq_true rfl) (Nat.le_of_ble_eq_true rfl) ?_
  refine lv_iload hx hb dL_law_653 (lv_at hl 1 rfl) ?_
  refine lv_icmp_eq (tgt := 660) hx hb dL_law_655 (by decide) (fun _ => ?_) (fun c_9 => absurd (by decide) c_9)
  refine lv_iload hx hb dL_law_660 (lv_at hl 1 rfl) ?_
  refine lv_if_ne (tgt := 677) hx hb dL_law_662 (by decide) (fun _ => ?_) (fun c_10 => absurd c_10 (by decide))
  refine lv_goto (tgt := 885) hx hb dL_law_677 (by decide) ?_
  refine lv_iinc (v := 9) (lv' := [(4, .int 9), (6, .int 0), (5, .int 1), (3, .ref o3), (2, .ref y0), (1, .ref x0), (0, .ref b)]) hx hb dL_law_885 hl (k := 2) rfl (by decide) (by decide) rfl (fun ls hl => ?_)
  refine lv_goto (tgt := 23) hx hb dL_law_888 (by decide) ?_
  refine lv_iload hx hb dL_law_23 (lv_at hl 0 rfl) ?_
  refine lv_aload_n hx hb dL_law_25 rfl (lv_at hl 6 rfl) ?_
  refine va_slen hx hb hX hbl hbA hS dL_law_26 ?_
  refine lv_topi (fun z_11 ez_11 => ?_)
  obtain rfl : z_11 = 9 := ez_11.trans (by decide)
  refine lv_bipush (v := 9) hx hb dL_law_27 (by decide) ?_
  refine lv_isub hx hb dL_law_29 ?_
  refine lv_topi (fun z_12 ez_12 => ?_)
  obtain rfl : z_12 = 0 := ez_12.trans (by decide)
  refine lv_icmp_gt (tgt := 891) hx hb dL_law_30 (by decide) (fun _ => ?_) (fun c_13 => absurd (by decide) c_13)
  refine lv_iconst (v := 1) hx hb dL_law_891 (by decide) ?_
  refine va_forget (fun q hq => hAi _ (hS.2.2 q hq)) ?_
  refine W.widen (k := 600002) (n := 7302232) (Nat.le_of_ble_eq_true rfl) (Nat.le_of_ble_eq_true rfl) ?_
  exact lw_ret hx hb hr hlocks dL_law_892

set_option maxHeartbeats 4000000 in
set_option maxRecDepth 100000 in
theorem law_case_9 {p : Program} {l : Launch} {e : Env} {s : State} {m : MethodId} {below : List Frame} {meth : Method} {c : Code} {b : Nat} {xs : Nat → Int32} {dC : Nat → ClassId} {dI : Nat → Nat → Nat} {A : Nat → Prop} (hl9 : l.stackTraces = false) (C0 : lw_At p s m meth c b 9 xs) (hA : ∀ q : Nat, s.heap.size ≤ q → A q) (hAi : ∀ q : Nat, A q → s.heap.size ≤ q) (hbA : ¬ A b) (hG : GE A s) (x0 : Nat) (a1 : Nat) (a2 : Nat) (a3 : Nat) (a4 : Nat) (a5 : Nat) (a6 : Nat) (a7 : Nat) (a8 : Nat) (mk1 : Nat) (mk2 : Nat) (mk3 : Nat) (mk4 : Nat) (mk5 : Nat) (y0 : Nat) (m0 : Nat) (m1 : Nat) (m2 : Nat) (m3 : Nat) (m4 : Nat) (m6 : Nat) (m7 : Nat) (m8 : Nat) (m9 : Nat) (m10 : Nat) (m11 : Nat) (m12 : Nat) (m13 : Nat) (m14 : Nat) (m15 : Nat) (m16 : Nat) (m17 : Nat) (m18 : Nat) (m19 : Nat) (m26 : Nat) (m27 : Nat) (m28 : Nat) (m29 : Nat) (m30 : Nat) (m31 : Nat) (m32 : Nat) (m33 : Nat) (m34 : Nat) (m35 : Nat) (m36 : Nat) (m37 : Nat) (m38 : Nat) (m39 : Nat) (m42 : Nat) (m43 : Nat) (m44 : Nat) (m45 : Nat) (m46 : Nat) (m47 : Nat) (m53 : Nat) (m54 : Nat) (m55 : Nat) (m56 : Nat) (m57 : Nat) (m58 : Nat) (m59 : Nat) (m60 : Nat) (m61 : Nat) (m62 : Nat) (m64 : Nat) (m65 : Nat) (m66 : Nat) (m67 : Nat) (m68 : Nat) (m69 : Nat) (m70 : Nat) (m71 : Nat) (m72 : Nat) (m73 : Nat) (m75 : Nat) (o3 : Nat) (H : Heap) (locs : List Loc) (ls : Array Slot) (hK : va_K (dC, dI) vwCl [] s) (hP : va_P (dC, dI) vwCl [(x0, .inr (11, [.ref a1, .ref a2, .ref a3, .ref a4, .ref a5, .ref a6, .ref a7, .ref a8, .int 0, .int 0, .int 0, .int (-1)])), (a8, .inr (5, [.ref a6, .ref a1, .ref a7, .ref mk1, .ref mk2, .int 0, .ref mk3, .int 0, .ref mk4, .ref mk5, .null, .int 0, .int (-1)])), (y0, .inr (12, [.ref m0, .ref m1, .ref m2, .ref m3, .ref m4, .int 0, .ref m6, .ref m7, .ref m8, .ref m9, .ref m10, .ref m11, .ref m12, .ref m13, .ref m14, .ref m15, .ref m16, .ref m17, .ref m18, .ref m19, .int 0, .int 0, .int 0, .int (-1), .int 0, .int 0, .ref m26, .ref m27, .ref m28, .ref m29, .ref m30, .ref m31, .ref m32, .ref m33, .ref m34, .ref m35, .ref m36, .ref m37, .ref m38, .ref m39, .int 0, .int 0, .ref m42, .ref m43, .ref m44, .ref m45, .ref m46, .ref m47, .int 0, .int 0, .int 0, .int 0, .int (-1), .ref m53, .ref m54, .ref m55, .ref m56, .ref m57, .ref m58, .ref m59, .ref m60, .ref m61, .ref m62, .int 0, .ref m64, .ref m65, .ref m66, .ref m67, .ref m68, .ref m69, .ref m70, .ref m71, .ref m72, .ref m73, .int 0, .ref m75, .int 0]))] H) (hD : va_D A [(x0, .inr (11, [.ref a1, .ref a2, .ref a3, .ref a4, .ref a5, .ref a6, .ref a7, .ref a8, .int 0, .int 0, .int 0, .int (-1)])), (a8, .inr (5, [.ref a6, .ref a1, .ref a7, .ref mk1, .ref mk2, .int 0, .ref mk3, .int 0, .ref mk4, .ref mk5, .null, .int 0, .int (-1)])), (y0, .inr (12, [.ref m0, .ref m1, .ref m2, .ref m3, .ref m4, .int 0, .ref m6, .ref m7, .ref m8, .ref m9, .ref m10, .ref m11, .ref m12, .ref m13, .ref m14, .ref m15, .ref m16, .ref m17, .ref m18, .ref m19, .int 0, .int 0, .int 0, .int (-1), .int 0, .int 0, .ref m26, .ref m27, .ref m28, .ref m29, .ref m30, .ref m31, .ref m32, .ref m33, .ref m34, .ref m35, .ref m36, .ref m37, .ref m38, .ref m39, .int 0, .int 0, .ref m42, .ref m43, .ref m44, .ref m45, .ref m46, .ref m47, .int 0, .int 0, .int 0, .int 0, .int (-1), .ref m53, .ref m54, .ref m55, .ref m56, .ref m57, .ref m58, .ref m59, .ref m60, .ref m61, .ref m62, .int 0, .ref m64, .ref m65, .ref m66, .ref m67, .ref m68, .ref m69, .ref m70, .ref m71, .ref m72, .ref m73, .int 0, .ref m75, .int 0]))]) (hS : va_S A s.heap H locs) (hl : lv_has ls 7 [(4, .int 0), (3, .ref o3), (2, .ref y0), (1, .ref x0), (0, .ref b)]) : W p l e room_1 s m #[Value.ref b] below meth c H locs 724 35019 (lw_Z below #[Value.ref b] s) (F0 m 680 ls []) := by
  obtain ⟨hx, hb, hr, hml, hown, hts, hX, hbl, hlocks, hgv⟩ := C0
  have hown : s.vm.findClass RL = some m.cls := hown
  have htb := fun (w : Cond) (h : w ∈ tb) => hts w (tb_in w h)
  refine lv_aload_n hx hb dL_law_680 rfl (lv_at hl 3 rfl) ?_
  refine lv_aload_n hx hb dL_law_681 rfl (lv_at hl 4 rfl) ?_
  refine lv_iload hx hb dL_law_682 (lv_at hl 0 rfl) ?_
  refine lv_iconst (v := 1) hx hb dL_law_684 (by decide) ?_
  refine lv_iadd hx hb dL_law_685 ?_
  refine lv_topi (fun z_1 ez_1 => ?_)
  obtain rfl : z_1 = 1 := ez_1.trans (by decide)
  refine va_sld hx hb hX hbl hbA hS (by unfold vp_in; decide) dL_law_686 ?_
  refine lv_topi (fun z_2 ez_2 => ?_)
  obtain rfl : z_2 = xs 1 := ez_2
  refine lv_aload_n hx hb dL_law_687 rfl (lv_at hl 4 rfl) ?_
  refine lv_iload hx hb dL_law_688 (lv_at hl 0 rfl) ?_
  refine lv_iconst (v := 2) hx hb dL_law_690 (by decide) ?_
  refine lv_iadd hx hb dL_law_691 ?_
  refine lv_topi (fun z_3 ez_3 => ?_)
  obtain rfl : z_3 = 2 := ez_3.trans (by decide)
  refine va_sld hx hb hX hbl hbA hS (by unfold vp_in; decide) dL_law_692 ?_
  refine lv_topi (fun z_4 ez_4 => ?_)
  obtain rfl : z_4 = xs 2 := ez_4
  refine lv_aload_n hx hb dL_law_693 rfl (lv_at hl 1 rfl) ?_
  have hPc := hP.sub (ws' := [(x0, .inr (11, [.ref a1, .ref a2, .ref a3, .ref a4, .ref a5, .ref a6, .ref a7, .ref a8, .int 0, .int 0, .int 0, .int (-1)])), (a8, .inr (5, [.ref a6, .ref a1, .ref a7, .ref mk1, .ref mk2, .int 0, .ref mk3, .int 0, .ref mk4, .ref mk5, .null, .int 0, .int (-1)]))]) [0, 1] rfl
  have hDc := hD.sub (ws' := [(x0, .inr (11, [.ref a1, .ref a2, .ref a3, .ref a4, .ref a5, .ref a6, .ref a7, .ref a8, .int 0, .int 0, .int 0, .int (-1)])), (a8, .inr (5, [.ref a6, .ref a1, .ref a7, .ref mk1, .ref mk2, .int 0, .ref mk3, .int 0, .ref mk4, .ref mk5, .null, .int 0, .int (-1)]))]) [0, 1] (by decide) rfl
  have hKc := hK.sub (tys' := []) [] rfl
  have hFc := va_free (wc := [(x0, .inr (11, [.ref a1, .ref a2, .ref a3, .ref a4, .ref a5, .ref a6, .ref a7, .ref a8, .int 0, .int 0, .int 0, .int (-1)])), (a8, .inr (5, [.ref a6, .ref a1, .ref a7, .ref mk1, .ref mk2, .int 0, .ref mk3, .int 0, .ref mk4, .ref mk5, .null, .int 0, .int (-1)]))]) hD hS hA [0, 1] rfl
  refine vx_calli (vx_runSX (As := [.ref x0, .int (xs 1), .int (xs 2), .ref o3]) (rest := []) ⟨hx, hb, hml, hown, htb⟩ (c_L_call l dC dI H.size x0 (xs 1) (xs 2) o3 a1 a2 a3 a4 a5 a6 a7 a8 mk1 mk2 mk3 mk4 mk5 hl9) (vx_cwSW 4 htb (gd_S kw_459 kw_460 kw_435 kw_606) rfl rfl rfl (by decide +kernel) ⟨Nat.le_of_ble_eq_true rfl, Nat.le_of_ble_eq_true rfl⟩) ⟨fun a U g mk q => by obtain ⟨q0, q1, qP, qK, qD, qG⟩ := q; exact ⟨q0, q1, qP, va_K.moved (u := U) (U := U.calling g mk a) (Vm.Alike.refl U.vm) qK, qD, GE.call g mk a qG⟩, fun U hU hW => ⟨rfl, by rw [hU], by rw [hU]; exact hPc, va_K.moved hW.alike hKc, hDc.weaken (fun _ _ _ _ => trivial), hG.go hS hFc hU hW⟩⟩ rfl rfl hl.1 rfl (lv_room (Nat.le_of_ble_eq_true rfl)) dL_law_694 ⟨(Nat.le_of_ble_eq_true rfl), (Nat.le_of_ble_eq_true rfl)⟩) hS (fun q _ h => hFc q h) hFc (fun q _ h => hFc q h) (fun E ce q9 u t H1 locs ht hvm hw hB hz1 hk1 hS hce hcv hcl => ?_) (fun r u t H1 locs ht hvm hw hB hz1 hk1 hS => ?_)
  · exact hw.elim
  subst hw
  obtain ⟨hP1, hK1, hD1⟩ := hB
  rw [ht] at hP1
  have hK1 := va_K.moved hvm.symm hK1
  obtain ⟨hP, hD⟩ := va_join (wr := [(y0, .inr (12, [.ref m0, .ref m1, .ref m2, .ref m3, .ref m4, .int 0, .ref m6, .ref m7, .ref m8, .ref m9, .ref m10, .ref m11, .ref m12, .ref m13, .ref m14, .ref m15, .ref m16, .ref m17, .ref m18, .ref m19, .int 0, .int 0, .int 0, .int (-1), .int 0, .int 0, .ref m26, .ref m27, .ref m28, .ref m29, .ref m30, .ref m31, .ref m32, .ref m33, .ref m34, .ref m35, .ref m36, .ref m37, .ref m38, .ref m39, .int 0, .int 0, .ref m42, .ref m43, .ref m44, .ref m45, .ref m46, .ref m47, .int 0, .int 0, .int 0, .int 0, .int (-1), .ref m53, .ref m54, .ref m55, .ref m56, .ref m57, .ref m58, .ref m59, .ref m60, .ref m61, .ref m62, .int 0, .ref m64, .ref m65, .ref m66, .ref m67, .ref m68, .ref m69, .ref m70, .ref m71, .ref m72, .ref m73, .int 0, .ref m75, .int 0]))]) (w1 := []) hP hD [0, 1] [2] rfl rfl (by decide) (by decide) hk1 hFc hP1 hD1
  have hK := hK.app hK1
  generalize H1 = H at hP hS ⊢
  have hP : va_P (dC, dI) vwCl [(y0, .inr (12, [.ref m0, .ref m1, .ref m2, .ref m3, .ref m4, .int 0, .ref m6, .ref m7, .ref m8, .ref m9, .ref m10, .ref m11, .ref m12, .ref m13, .ref m14, .ref m15, .ref m16, .ref m17, .ref m18, .ref m19, .int 0, .int 0, .int 0, .int (-1), .int 0, .int 0, .ref m26, .ref m27, .ref m28, .ref m29, .ref m30, .ref m31, .ref m32, .ref m33, .ref m34, .ref m35, .ref m36, .ref m37, .ref m38, .ref m39, .int 0, .int 0, .ref m42, .ref m43, .ref m44, .ref m45, .ref m46, .ref m47, .int 0, .int 0, .int 0, .int 0, .int (-1), .ref m53, .ref m54, .ref m55, .ref m56, .ref m57, .ref m58, .ref m59, .ref m60, .ref m61, .ref m62, .int 0, .ref m64, .ref m65, .ref m66, .ref m67, .ref m68, .ref m69, .ref m70, .ref m71, .ref m72, .ref m73, .int 0, .ref m75, .int 0]))] H := hP
  have hD : va_D A [(y0, .inr (12, [.ref m0, .ref m1, .ref m2, .ref m3, .ref m4, .int 0, .ref m6, .ref m7, .ref m8, .ref m9, .ref m10, .ref m11, .ref m12, .ref m13, .ref m14, .ref m15, .ref m16, .ref m17, .ref m18, .ref m19, .int 0, .int 0, .int 0, .int (-1), .int 0, .int 0, .ref m26, .ref m27, .ref m28, .ref m29, .ref m30, .ref m31, .ref m32, .ref m33, .ref m34, .ref m35, .ref m36, .ref m37, .ref m38, .ref m39, .int 0, .int 0, .ref m42, .ref m43, .ref m44, .ref m45, .ref m46, .ref m47, .int 0, .int 0, .int 0, .int 0, .int (-1), .ref m53, .ref m54, .ref m55, .ref m56, .ref m57, .ref m58, .ref m59, .ref m60, .ref m61, .ref m62, .int 0, .ref m64, .ref m65, .ref m66, .ref m67, .ref m68, .ref m69, .ref m70, .ref m71, .ref m72, .ref m73, .int 0, .ref m75, .int 0]))] := hD
  have hK : va_K (dC, dI) vwCl [] s := hK
  refine W.widen (k := 725) (n := 35025) (Nat.le_of_ble_eq_true rfl) (Nat.le_of_ble_eq_true rfl) ?_
  refine lv_istore (lv' := [(5, .int 1), (4, .int 0), (3, .ref o3), (2, .ref y0), (1, .ref x0), (0, .ref b)]) hx hb dL_law_697 hl (by decide) rfl (fun ls hl => ?_)
  refine lv_aload_n hx hb dL_law_699 rfl (lv_at hl 3 rfl) ?_
  refine lv_aload_n hx hb dL_law_700 rfl (lv_at hl 5 rfl) ?_
  refine lv_iload hx hb dL_law_701 (lv_at hl 1 rfl) ?_
  refine lv_iconst (v := 1) hx hb dL_law_703 (by decide) ?_
  refine lv_iadd hx hb dL_law_704 ?_
  refine lv_topi (fun z_5 ez_5 => ?_)
  obtain rfl : z_5 = 1 := ez_5.trans (by decide)
  refine va_sld hx hb hX hbl hbA hS (by unfold vp_in; decide) dL_law_705 ?_
  refine lv_topi (fun z_6 ez_6 => ?_)
  obtain rfl : z_6 = xs 1 := ez_6
  refine lv_aload_n hx hb dL_law_706 rfl (lv_at hl 5 rfl) ?_
  refine lv_iload hx hb dL_law_707 (lv_at hl 1 rfl) ?_
  refine lv_iconst (v := 2) hx hb dL_law_709 (by decide) ?_
  refine lv_iadd hx hb dL_law_710 ?_
  refine lv_topi (fun z_7 ez_7 => ?_)
  obtain rfl : z_7 = 2 := ez_7.trans (by decide)
  refine va_sld hx hb hX hbl hbA hS (by unfold vp_in; decide) dL_law_711 ?_
  refine lv_topi (fun z_8 ez_8 => ?_)
  obtain rfl : z_8 = xs 2 := ez_8
  have hPc := hP.sub (ws' := [(y0, .inr (12, [.ref m0, .ref m1, .ref m2, .ref m3, .ref m4, .int 0, .ref m6, .ref m7, .ref m8, .ref m9, .ref m10, .ref m11, .ref m12, .ref m13, .ref m14, .ref m15, .ref m16, .ref m17, .ref m18, .ref m19, .int 0, .int 0, .int 0, .int (-1), .int 0, .int 0, .ref m26, .ref m27, .ref m28, .ref m29, .ref m30, .ref m31, .ref m32, .ref m33, .ref m34, .ref m35, .ref m36, .ref m37, .ref m38, .ref m39, .int 0, .int 0, .ref m42, .ref m43, .ref m44, .ref m45, .ref m46, .ref m47, .int 0, .int 0, .int 0, .int 0, .int (-1), .ref m53, .ref m54, .ref m55, .ref m56, .ref m57, .ref m58, .ref m59, .ref m60, .ref m61, .ref m62, .int 0, .ref m64, .ref m65, .ref m66, .ref m67, .ref m68, .ref m69, .ref m70, .ref m71, .ref m72, .ref m73, .int 0, .ref m75, .int 0]))]) [0] rfl
  have hDc := hD.sub (ws' := [(y0, .inr (12, [.ref m0, .ref m1, .ref m2, .ref m3, .ref m4, .int 0, .ref m6, .ref m7, .ref m8, .ref m9, .ref m10, .ref m11, .ref m12, .ref m13, .ref m14, .ref m15, .ref m16, .ref m17, .ref m18, .ref m19, .int 0, .int 0, .int 0, .int (-1), .int 0, .int 0, .ref m26, .ref m27, .ref m28, .ref m29, .ref m30, .ref m31, .ref m32, .ref m33, .ref m34, .ref m35, .ref m36, .ref m37, .ref m38, .ref m39, .int 0, .int 0, .ref m42, .ref m43, .ref m44, .ref m45, .ref m46, .ref m47, .int 0, .int 0, .int 0, .int 0, .int (-1), .ref m53, .ref m54, .ref m55, .ref m56, .ref m57, .ref m58, .ref m59, .ref m60, .ref m61, .ref m62, .int 0, .ref m64, .ref m65, .ref m66, .ref m67, .ref m68, .ref m69, .ref m70, .ref m71, .ref m72, .ref m73, .int 0, .ref m75, .int 0]))]) [0] (by decide) rfl
  have hKc := hK.sub (tys' := []) [] rfl
  have hFc := va_free (wc := [(y0, .inr (12, [.ref m0, .ref m1, .ref m2, .ref m3, .ref m4, .int 0, .ref m6, .ref m7, .ref m8, .ref m9, .ref m10, .ref m11, .ref m12, .ref m13, .ref m14, .ref m15, .ref m16, .ref m17, .ref m18, .ref m19, .int 0, .int 0, .int 0, .int (-1), .int 0, .int 0, .ref m26, .ref m27, .ref m28, .ref m29, .ref m30, .ref m31, .ref m32, .ref m33, .ref m34, .ref m35, .ref m36, .ref m37, .ref m38, .ref m39, .int 0, .int 0, .ref m42, .ref m43, .ref m44, .ref m45, .ref m46, .ref m47, .int 0, .int 0, .int 0, .int 0, .int (-1), .ref m53, .ref m54, .ref m55, .ref m56, .ref m57, .ref m58, .ref m59, .ref m60, .ref m61, .ref m62, .int 0, .ref m64, .ref m65, .ref m66, .ref m67, .ref m68, .ref m69, .ref m70, .ref m71, .ref m72, .ref m73, .int 0, .ref m75, .int 0]))]) hD hS hA [0] rfl
  refine va_calli (va_runV (As := [.int (xs 1), .int (xs 2)]) (rest := []) ⟨hx, hb, hml, hown, htb⟩ (c_X13_call l dC dI H.size y0 (xs 1) (xs 2) m0 m1 m2 m3 m4 m6 m7 m8 m9 m10 m11 m12 m13 m14 m15 m16 m17 m18 m19 m26 m27 m28 m29 m30 m31 m32 m33 m34 m35 m36 m37 m38 m39 m42 m43 m44 m45 m46 m47 m53 m54 m55 m56 m57 m58 m59 m60 m61 m62 m64 m65 m66 m67 m68 m69 m70 m71 m72 m73 m75) (cwV 2 htb (gd_V kw_461 kw_462 kw_463 kw_345 kw_607) rfl rfl rfl (by decide +kernel) ⟨Nat.le_of_ble_eq_true rfl, Nat.le_of_ble_eq_true rfl⟩) ⟨fun a U g mk q => by obtain ⟨q0, q1, qP, qK, qD⟩ := q; exact ⟨q0, q1, qP, va_K.moved (u := U) (U := U.calling g mk a) (Vm.Alike.refl U.vm) qK, qD⟩, va_recv hKc hPc (ci := 12) (q0 := 0) rfl rfl, fun U hU hW => ⟨rfl, by rw [hU], by rw [hU]; exact hPc, va_K.moved hW.alike hKc, hDc.weaken (fun _ _ _ _ => trivial)⟩⟩ rfl rfl hl.1 rfl (lv_room (Nat.le_of_ble_eq_true rfl)) dL_law_712 ⟨(Nat.le_of_ble_eq_true rfl), (Nat.le_of_ble_eq_true rfl)⟩) hS (fun q _ h => hFc q h) hFc (fun r u t H1 locs ht hvm hw hB hz1 hk1 hS => ?_)
  subst hw
  obtain ⟨hP1, hK1, hD1⟩ := hB
  rw [ht] at hP1
  have hK1 := va_K.moved hvm.symm hK1
  obtain ⟨hP, hD⟩ := va_join (wr := []) (w1 := [(y0, .inr (12, [.ref m0, .ref m1, .ref m2, .ref m3, .ref m4, .int 1, .ref m6, .ref m7, .ref m8, .ref m9, .ref m10, .ref m11, .ref m12, .ref m13, .ref m14, .ref m15, .ref m16, .ref m17, .ref m18, .ref m19, .int 0, .int 0, .int 0, .int (-1), .int 0, .int 0, .ref m26, .ref m27, .ref m28, .ref m29, .ref m30, .ref m31, .ref m32, .ref m33, .ref m34, .ref m35, .ref m36, .ref m37, .ref m38, .ref m39, .int 0, .int 0, .ref m42, .ref m43, .ref m44, .ref m45, .ref m46, .ref m47, .int 0, .int 0, .int 0, .int 0, .int (-1), .ref m53, .ref m54, .ref m55, .ref m56, .ref m57, .ref m58, .ref m59, .ref m60, .ref m61, .ref m62, .int 0, .ref m64, .ref m65, .ref m66, .ref m67, .ref m68, .ref m69, .ref m70, .ref m71, .ref m72, .ref m73, .int 0, .ref m75, .int 0]))]) hP hD [0] [] rfl rfl (by decide) (by decide) hk1 hFc hP1 hD1
  have hK := hK.app hK1
  generalize H1 = H at hP hS ⊢
  have hP : va_P (dC, dI) vwCl [(y0, .inr (12, [.ref m0, .ref m1, .ref m2, .ref m3, .ref m4, .int 1, .ref m6, .ref m7, .ref m8, .ref m9, .ref m10, .ref m11, .ref m12, .ref m13, .ref m14, .ref m15, .ref m16, .ref m17, .ref m18, .ref m19, .int 0, .int 0, .int 0, .int (-1), .int 0, .int 0, .ref m26, .ref m27, .ref m28, .ref m29, .ref m30, .ref m31, .ref m32, .ref m33, .ref m34, .ref m35, .ref m36, .ref m37, .ref m38, .ref m39, .int 0, .int 0, .ref m42, .ref m43, .ref m44, .ref m45, .ref m46, .ref m47, .int 0, .int 0, .int 0, .int 0, .int (-1), .ref m53, .ref m54, .ref m55, .ref m56, .ref m57, .ref m58, .ref m59, .ref m60, .ref m61, .ref m62, .int 0, .ref m64, .ref m65, .ref m66, .ref m67, .ref m68, .ref m69, .ref m70, .ref m71, .ref m72, .ref m73, .int 0, .ref m75, .int 0]))] H := hP
  have hD : va_D A [(y0, .inr (12, [.ref m0, .ref m1, .ref m2, .ref m3, .ref m4, .int 1, .ref m6, .ref m7, .ref m8, .ref m9, .ref m10, .ref m11, .ref m12, .ref m13, .ref m14, .ref m15, .ref m16, .ref m17, .ref m18, .ref m19, .int 0, .int 0, .int 0, .int (-1), .int 0, .int 0, .ref m26, .ref m27, .ref m28, .ref m29, .ref m30, .ref m31, .ref m32, .ref m33, .ref m34, .ref m35, .ref m36, .ref m37, .ref m38, .ref m39, .int 0, .int 0, .ref m42, .ref m43, .ref m44, .ref m45, .ref m46, .ref m47, .int 0, .int 0, .int 0, .int 0, .int (-1), .ref m53, .ref m54, .ref m55, .ref m56, .ref m57, .ref m58, .ref m59, .ref m60, .ref m61, .ref m62, .int 0, .ref m64, .ref m65, .ref m66, .ref m67, .ref m68, .ref m69, .ref m70, .ref m71, .ref m72, .ref m73, .int 0, .ref m75, .int 0]))] := hD
  have hK : va_K (dC, dI) vwCl [] s := hK
  refine W.widen (k := 725) (n := 35025) (Nat.le_of_ble_eq_true rfl) (Nat.le_of_ble_eq_true rfl) ?_
  refine lv_istore (lv' := [(6, .int 0), (5, .int 1), (4, .int 0), (3, .ref o3), (2, .ref y0), (1, .ref x0), (0, .ref b)]) hx hb dL_law_715 hl (by decide) rfl (fun ls hl => ?_)
  refine lv_aload_n hx hb dL_law_717 rfl (lv_at hl 4 rfl) ?_
  have hPc := hP.sub (ws' := [(y0, .inr (12, [.ref m0, .ref m1, .ref m2, .ref m3, .ref m4, .int 1, .ref m6, .ref m7, .ref m8, .ref m9, .ref m10, .ref m11, .ref m12, .ref m13, .ref m14, .ref m15, .ref m16, .ref m17, .ref m18, .ref m19, .int 0, .int 0, .int 0, .int (-1), .int 0, .int 0, .ref m26, .ref m27, .ref m28, .ref m29, .ref m30, .ref m31, .ref m32, .ref m33, .ref m34, .ref m35, .ref m36, .ref m37, .ref m38, .ref m39, .int 0, .int 0, .ref m42, .ref m43, .ref m44, .ref m45, .ref m46, .ref m47, .int 0, .int 0, .int 0, .int 0, .int (-1), .ref m53, .ref m54, .ref m55, .ref m56, .ref m57, .ref m58, .ref m59, .ref m60, .ref m61, .ref m62, .int 0, .ref m64, .ref m65, .ref m66, .ref m67, .ref m68, .ref m69, .ref m70, .ref m71, .ref m72, .ref m73, .int 0, .ref m75, .int 0]))]) [0] rfl
  have hDc := hD.sub (ws' := [(y0, .inr (12, [.ref m0, .ref m1, .ref m2, .ref m3, .ref m4, .int 1, .ref m6, .ref m7, .ref m8, .ref m9, .ref m10, .ref m11, .ref m12, .ref m13, .ref m14, .ref m15, .ref m16, .ref m17, .ref m18, .ref m19, .int 0, .int 0, .int 0, .int (-1), .int 0, .int 0, .ref m26, .ref m27, .ref m28, .ref m29, .ref m30, .ref m31, .ref m32, .ref m33, .ref m34, .ref m35, .ref m36, .ref m37, .ref m38, .ref m39, .int 0, .int 0, .ref m42, .ref m43, .ref m44, .ref m45, .ref m46, .ref m47, .int 0, .int 0, .int 0, .int 0, .int (-1), .ref m53, .ref m54, .ref m55, .ref m56, .ref m57, .ref m58, .ref m59, .ref m60, .ref m61, .ref m62, .int 0, .ref m64, .ref m65, .ref m66, .ref m67, .ref m68, .ref m69, .ref m70, .ref m71, .ref m72, .ref m73, .int 0, .ref m75, .int 0]))]) [0] (by decide) rfl
  have hKc := hK.sub (tys' := []) [] rfl
  have hFc := va_free (wc := [(y0, .inr (12, [.ref m0, .ref m1, .ref m2, .ref m3, .ref m4, .int 1, .ref m6, .ref m7, .ref m8, .ref m9, .ref m10, .ref m11, .ref m12, .ref m13, .ref m14, .ref m15, .ref m16, .ref m17, .ref m18, .ref m19, .int 0, .int 0, .int 0, .int (-1), .int 0, .int 0, .ref m26, .ref m27, .ref m28, .ref m29, .ref m30, .ref m31, .ref m32, .ref m33, .ref m34, .ref m35, .ref m36, .ref m37, .ref m38, .ref m39, .int 0, .int 0, .ref m42, .ref m43, .ref m44, .ref m45, .ref m46, .ref m47, .int 0, .int 0, .int 0, .int 0, .int (-1), .ref m53, .ref m54, .ref m55, .ref m56, .ref m57, .ref m58, .ref m59, .ref m60, .ref m61, .ref m62, .int 0, .ref m64, .ref m65, .ref m66, .ref m67, .ref m68, .ref m69, .ref m70, .ref m71, .ref m72, .ref m73, .int 0, .ref m75, .int 0]))]) hD hS hA [0] rfl
  refine va_calli (va_runV (As := []) (rest := []) ⟨hx, hb, hml, hown, htb⟩ (c_X13_thrown l dC dI H.size y0 m0 m1 m2 m3 m4 m6 m7 m8 m9 m10 m11 m12 m13 m14 m15 m16 m17 m18 m19 m26 m27 m28 m29 m30 m31 m32 m33 m34 m35 m36 m37 m38 m39 m42 m43 m44 m45 m46 m47 m53 m54 m55 m56 m57 m58 m59 m60 m61 m62 m64 m65 m66 m67 m68 m69 m70 m71 m72 m73 m75) (cwV 0 htb (gd_V kw_439 kw_440 kw_441 kw_345 kw_599) rfl rfl rfl (by decide +kernel) ⟨Nat.le_of_ble_eq_true rfl, Nat.le_of_ble_eq_true rfl⟩) ⟨fun a U g mk q => by obtain ⟨q0, q1, qP, qK, qD⟩ := q; exact ⟨q0, q1, qP, va_K.moved (u := U) (U := U.calling g mk a) (Vm.Alike.refl U.vm) qK, qD⟩, va_recv hKc hPc (ci := 12) (q0 := 0) rfl rfl, fun U hU hW => ⟨rfl, by rw [hU], by rw [hU]; exact hPc, va_K.moved hW.alike hKc, hDc.weaken (fun _ _ _ _ => trivial)⟩⟩ rfl rfl hl.1 rfl (lv_room (Nat.le_of_ble_eq_true rfl)) dL_law_718 ⟨(Nat.le_of_ble_eq_true rfl), (Nat.le_of_ble_eq_true rfl)⟩) hS (fun q _ h => hFc q h) hFc (fun r u t H1 locs ht hvm hw hB hz1 hk1 hS => ?_)
  subst hw
  obtain ⟨hP1, hK1, hD1⟩ := hB
  rw [ht] at hP1
  have hK1 := va_K.moved hvm.symm hK1
  obtain ⟨hP, hD⟩ := va_join (wr := []) (w1 := []) hP hD [0] [] rfl rfl (by decide) (by decide) hk1 hFc hP1 hD1
  have hK := hK.app hK1
  generalize H1 = H at hP hS ⊢
  have hP : va_P (dC, dI) vwCl [] H := hP
  have hD : va_D A [] := hD
  have hK : va_K (dC, dI) vwCl [] s := hK
  refine W.widen (k := 725) (n := 35025) (Nat.le_of_ble_eq_true rfl) (Nat.le_of_ble_eq_true rfl) ?_
  refine lv_iload hx hb dL_law_721 (lv_at hl 1 rfl) ?_
  refine lv_icmp_eq (tgt := 728) hx hb dL_law_723 (by decide) (fun _ => ?_) (fun c_9 => absurd (by decide) c_9)
  refine lv_iload hx hb dL_law_728 (lv_at hl 1 rfl) ?_
  refine lv_if_ne (tgt := 745) hx hb dL_law_730 (by decide) (fun _ => ?_) (fun c_10 => absurd c_10 (by decide))
  refine lv_goto (tgt := 885) hx hb dL_law_745 (by decide) ?_
  refine lv_iinc (v := 9) (lv' := [(4, .int 9), (6, .int 0), (5, .int 1), (3, .ref o3), (2, .ref y0), (1, .ref x0), (0, .ref b)]) hx hb dL_law_885 hl (k := 2) rfl (by decide) (by decide) rfl (fun ls hl => ?_)
  refine lv_goto (tgt := 23) hx hb dL_law_888 (by decide) ?_
  refine lv_iload hx hb dL_law_23 (lv_at hl 0 rfl) ?_
  refine lv_aload_n hx hb dL_law_25 rfl (lv_at hl 6 rfl) ?_
  refine va_slen hx hb hX hbl hbA hS dL_law_26 ?_
  refine lv_topi (fun z_11 ez_11 => ?_)
  obtain rfl : z_11 = 9 := ez_11.trans (by decide)
  refine lv_bipush (v := 9) hx hb dL_law_27 (by decide) ?_
  refine lv_isub hx hb dL_law_29 ?_
  refine lv_topi (fun z_12 ez_12 => ?_)
  obtain rfl : z_12 = 0 := ez_12.trans (by decide)
  refine lv_icmp_gt (tgt := 891) hx hb dL_law_30 (by decide) (fun _ => ?_) (fun c_13 => absurd (by decide) c_13)
  refine lv_iconst (v := 1) hx hb dL_law_891 (by decide) ?_
  refine va_forget (fun q hq => hAi _ (hS.2.2 q hq)) ?_
  refine W.widen (k := 600002) (n := 7302232) (Nat.le_of_ble_eq_true rfl) (Nat.le_of_ble_eq_true rfl) ?_
  exact lw_ret hx hb hr hlocks dL_law_892

set_option maxHeartbeats 4000000 in
set_option maxRecDepth 100000 in
theorem law_case_10 {p : Program} {l : Launch} {e : Env} {s : State} {m : MethodId} {below : List Frame} {meth : Method} {c : Code} {b : Nat} {xs : Nat → Int32} {dC : Nat → ClassId} {dI : Nat → Nat → Nat} {A : Nat → Prop} (hl9 : l.stackTraces = false) (C0 : lw_At p s m meth c b 9 xs) (hA : ∀ q : Nat, s.heap.size ≤ q → A q) (hAi : ∀ q : Nat, A q → s.heap.size ≤ q) (hbA : ¬ A b) (hG : GE A s) (x0 : Nat) (a1 : Nat) (a2 : Nat) (a3 : Nat) (a4 : Nat) (a5 : Nat) (a6 : Nat) (a7 : Nat) (a8 : Nat) (mk1 : Nat) (mk2 : Nat) (mk3 : Nat) (mk4 : Nat) (mk5 : Nat) (wb : Nat) (wc : Nat) (rn : Nat) (y0 : Nat) (m0 : Nat) (m1 : Nat) (m2 : Nat) (m3 : Nat) (m4 : Nat) (m6 : Nat) (m7 : Nat) (m8 : Nat) (m9 : Nat) (m10 : Nat) (m11 : Nat) (m12 : Nat) (m13 : Nat) (m14 : Nat) (m15 : Nat) (m16 : Nat) (m17 : Nat) (m18 : Nat) (m19 : Nat) (m26 : Nat) (m27 : Nat) (m28 : Nat) (m29 : Nat) (m30 : Nat) (m31 : Nat) (m32 : Nat) (m33 : Nat) (m34 : Nat) (m35 : Nat) (m36 : Nat) (m37 : Nat) (m38 : Nat) (m39 : Nat) (m42 : Nat) (m43 : Nat) (m44 : Nat) (m45 : Nat) (m46 : Nat) (m47 : Nat) (m53 : Nat) (m54 : Nat) (m55 : Nat) (m56 : Nat) (m57 : Nat) (m58 : Nat) (m59 : Nat) (m60 : Nat) (m61 : Nat) (m62 : Nat) (m64 : Nat) (m65 : Nat) (m66 : Nat) (m67 : Nat) (m68 : Nat) (m69 : Nat) (m70 : Nat) (m71 : Nat) (m72 : Nat) (m73 : Nat) (m75 : Nat) (o3 : Nat) (H : Heap) (locs : List Loc) (ls : Array Slot) (hK : va_K (dC, dI) vwCl [] s) (hP : va_P (dC, dI) vwCl [(x0, .inr (11, [.ref a1, .ref a2, .ref a3, .ref a4, .ref a5, .ref a6, .ref a7, .ref a8, .int 0, .int 0, .int 0, .int (-1)])), (a8, .inr (5, [.ref a6, .ref a1, .ref a7, .ref mk1, .ref mk2, .int 0, .ref mk3, .int 0, .ref mk4, .ref mk5, .null, .int 0, .int (-1)])), (a6, .inr (10, [.ref a3, .ref wb, .ref wc, .int 0])), (a7, .inr (4, [.ref rn, .int 0])), (y0, .inr (12, [.ref m0, .ref m1, .ref m2, .ref m3, .ref m4, .int 0, .ref m6, .ref m7, .ref m8, .ref m9, .ref m10, .ref m11, .ref m12, .ref m13, .ref m14, .ref m15, .ref m16, .ref m17, .ref m18, .ref m19, .int 0, .int 0, .int 0, .int (-1), .int 0, .int 0, .ref m26, .ref m27, .ref m28, .ref m29, .ref m30, .ref m31, .ref m32, .ref m33, .ref m34, .ref m35, .ref m36, .ref m37, .ref m38, .ref m39, .int 0, .int 0, .ref m42, .ref m43, .ref m44, .ref m45, .ref m46, .ref m47, .int 0, .int 0, .int 0, .int 0, .int (-1), .ref m53, .ref m54, .ref m55, .ref m56, .ref m57, .ref m58, .ref m59, .ref m60, .ref m61, .ref m62, .int 0, .ref m64, .ref m65, .ref m66, .ref m67, .ref m68, .ref m69, .ref m70, .ref m71, .ref m72, .ref m73, .int 0, .ref m75, .int 0]))] H) (hD : va_D A [(x0, .inr (11, [.ref a1, .ref a2, .ref a3, .ref a4, .ref a5, .ref a6, .ref a7, .ref a8, .int 0, .int 0, .int 0, .int (-1)])), (a8, .inr (5, [.ref a6, .ref a1, .ref a7, .ref mk1, .ref mk2, .int 0, .ref mk3, .int 0, .ref mk4, .ref mk5, .null, .int 0, .int (-1)])), (a6, .inr (10, [.ref a3, .ref wb, .ref wc, .int 0])), (a7, .inr (4, [.ref rn, .int 0])), (y0, .inr (12, [.ref m0, .ref m1, .ref m2, .ref m3, .ref m4, .int 0, .ref m6, .ref m7, .ref m8, .ref m9, .ref m10, .ref m11, .ref m12, .ref m13, .ref m14, .ref m15, .ref m16, .ref m17, .ref m18, .ref m19, .int 0, .int 0, .int 0, .int (-1), .int 0, .int 0, .ref m26, .ref m27, .ref m28, .ref m29, .ref m30, .ref m31, .ref m32, .ref m33, .ref m34, .ref m35, .ref m36, .ref m37, .ref m38, .ref m39, .int 0, .int 0, .ref m42, .ref m43, .ref m44, .ref m45, .ref m46, .ref m47, .int 0, .int 0, .int 0, .int 0, .int (-1), .ref m53, .ref m54, .ref m55, .ref m56, .ref m57, .ref m58, .ref m59, .ref m60, .ref m61, .ref m62, .int 0, .ref m64, .ref m65, .ref m66, .ref m67, .ref m68, .ref m69, .ref m70, .ref m71, .ref m72, .ref m73, .int 0, .ref m75, .int 0]))]) (hS : va_S A s.heap H locs) (hl : lv_has ls 7 [(4, .int 0), (3, .ref o3), (2, .ref y0), (1, .ref x0), (0, .ref b)]) : W p l e room_1 s m #[Value.ref b] below meth c H locs 724 35019 (lw_Z below #[Value.ref b] s) (F0 m 748 ls []) := by
  obtain ⟨hx, hb, hr, hml, hown, hts, hX, hbl, hlocks, hgv⟩ := C0
  have hown : s.vm.findClass RL = some m.cls := hown
  have htb := fun (w : Cond) (h : w ∈ tb) => hts w (tb_in w h)
  refine lv_aload_n hx hb dL_law_748 rfl (lv_at hl 3 rfl) ?_
  have hPc := hP.sub (ws' := [(x0, .inr (11, [.ref a1, .ref a2, .ref a3, .ref a4, .ref a5, .ref a6, .ref a7, .ref a8, .int 0, .int 0, .int 0, .int (-1)])), (a8, .inr (5, [.ref a6, .ref a1, .ref a7, .ref mk1, .ref mk2, .int 0, .ref mk3, .int 0, .ref mk4, .ref mk5, .null, .int 0, .int (-1)])), (a6, .inr (10, [.ref a3, .ref wb, .ref wc, .int 0])), (a7, .inr (4, [.ref rn, .int 0]))]) [0, 1, 2, 3] rfl
  have hDc := hD.sub (ws' := [(x0, .inr (11, [.ref a1, .ref a2, .ref a3, .ref a4, .ref a5, .ref a6, .ref a7, .ref a8, .int 0, .int 0, .int 0, .int (-1)])), (a8, .inr (5, [.ref a6, .ref a1, .ref a7, .ref mk1, .ref mk2, .int 0, .ref mk3, .int 0, .ref mk4, .ref mk5, .null, .int 0, .int (-1)])), (a6, .inr (10, [.ref a3, .ref wb, .ref wc, .int 0])), (a7, .inr (4, [.ref rn, .int 0]))]) [0, 1, 2, 3] (by decide) rfl
  have hKc := hK.sub (tys' := []) [] rfl
  have hFc := va_free (wc := [(x0, .inr (11, [.ref a1, .ref a2, .ref a3, .ref a4, .ref a5, .ref a6, .ref a7, .ref a8, .int 0, .int 0, .int 0, .int (-1)])), (a8, .inr (5, [.ref a6, .ref a1, .ref a7, .ref mk1, .ref mk2, .int 0, .ref mk3, .int 0, .ref mk4, .ref mk5, .null, .int 0, .int (-1)])), (a6, .inr (10, [.ref a3, .ref wb, .ref wc, .int 0])), (a7, .inr (4, [.ref rn, .int 0]))]) hD hS hA [0, 1, 2, 3] rfl
  refine va_calli (va_runV (As := []) (rest := []) ⟨hx, hb, hml, hown, htb⟩ (c_X12_close l dC dI H.size x0 a1 a2 a3 a4 a5 a6 a7 a8 mk1 mk2 mk3 mk4 mk5 wb wc rn) (cwV 0 htb (gd_V kw_464 kw_465 kw_466 kw_49 kw_608) rfl rfl rfl (by decide +kernel) ⟨Nat.le_of_ble_eq_true rfl, Nat.le_of_ble_eq_true rfl⟩) ⟨fun a U g mk q => by obtain ⟨q0, q1, qP, qK, qD⟩ := q; exact ⟨q0, q1, qP, va_K.moved (u := U) (U := U.calling g mk a) (Vm.Alike.refl U.vm) qK, qD⟩, va_recv hKc hPc (ci := 11) (q0 := 0) rfl rfl, fun U hU hW => ⟨rfl, by rw [hU], by rw [hU]; exact hPc, va_K.moved hW.alike hKc, hDc.weaken (fun _ _ _ _ => trivial)⟩⟩ rfl rfl hl.1 rfl (lv_room (Nat.le_of_ble_eq_true rfl)) dL_law_749 ⟨(Nat.le_of_ble_eq_true rfl), (Nat.le_of_ble_eq_true rfl)⟩) hS (fun q _ h => hFc q h) hFc (fun r u t H1 locs ht hvm hw hB hz1 hk1 hS => ?_)
  subst hw
  obtain ⟨hP1, hK1, hD1⟩ := hB
  rw [ht] at hP1
  have hK1 := va_K.moved hvm.symm hK1
  obtain ⟨hP, hD⟩ := va_join (wr := [(y0, .inr (12, [.ref m0, .ref m1, .ref m2, .ref m3, .ref m4, .int 0, .ref m6, .ref m7, .ref m8, .ref m9, .ref m10, .ref m11, .ref m12, .ref m13, .ref m14, .ref m15, .ref m16, .ref m17, .ref m18, .ref m19, .int 0, .int 0, .int 0, .int (-1), .int 0, .int 0, .ref m26, .ref m27, .ref m28, .ref m29, .ref m30, .ref m31, .ref m32, .ref m33, .ref m34, .ref m35, .ref m36, .ref m37, .ref m38, .ref m39, .int 0, .int 0, .ref m42, .ref m43, .ref m44, .ref m45, .ref m46, .ref m47, .int 0, .int 0, .int 0, .int 0, .int (-1), .ref m53, .ref m54, .ref m55, .ref m56, .ref m57, .ref m58, .ref m59, .ref m60, .ref m61, .ref m62, .int 0, .ref m64, .ref m65, .ref m66, .ref m67, .ref m68, .ref m69, .ref m70, .ref m71, .ref m72, .ref m73, .int 0, .ref m75, .int 0]))]) (w1 := []) hP hD [0, 1, 2, 3] [4] rfl rfl (by decide) (by decide) hk1 hFc hP1 hD1
  have hK := hK.app hK1
  generalize H1 = H at hP hS ⊢
  have hP : va_P (dC, dI) vwCl [(y0, .inr (12, [.ref m0, .ref m1, .ref m2, .ref m3, .ref m4, .int 0, .ref m6, .ref m7, .ref m8, .ref m9, .ref m10, .ref m11, .ref m12, .ref m13, .ref m14, .ref m15, .ref m16, .ref m17, .ref m18, .ref m19, .int 0, .int 0, .int 0, .int (-1), .int 0, .int 0, .ref m26, .ref m27, .ref m28, .ref m29, .ref m30, .ref m31, .ref m32, .ref m33, .ref m34, .ref m35, .ref m36, .ref m37, .ref m38, .ref m39, .int 0, .int 0, .ref m42, .ref m43, .ref m44, .ref m45, .ref m46, .ref m47, .int 0, .int 0, .int 0, .int 0, .int (-1), .ref m53, .ref m54, .ref m55, .ref m56, .ref m57, .ref m58, .ref m59, .ref m60, .ref m61, .ref m62, .int 0, .ref m64, .ref m65, .ref m66, .ref m67, .ref m68, .ref m69, .ref m70, .ref m71, .ref m72, .ref m73, .int 0, .ref m75, .int 0]))] H := hP
  have hD : va_D A [(y0, .inr (12, [.ref m0, .ref m1, .ref m2, .ref m3, .ref m4, .int 0, .ref m6, .ref m7, .ref m8, .ref m9, .ref m10, .ref m11, .ref m12, .ref m13, .ref m14, .ref m15, .ref m16, .ref m17, .ref m18, .ref m19, .int 0, .int 0, .int 0, .int (-1), .int 0, .int 0, .ref m26, .ref m27, .ref m28, .ref m29, .ref m30, .ref m31, .ref m32, .ref m33, .ref m34, .ref m35, .ref m36, .ref m37, .ref m38, .ref m39, .int 0, .int 0, .ref m42, .ref m43, .ref m44, .ref m45, .ref m46, .ref m47, .int 0, .int 0, .int 0, .int 0, .int (-1), .ref m53, .ref m54, .ref m55, .ref m56, .ref m57, .ref m58, .ref m59, .ref m60, .ref m61, .ref m62, .int 0, .ref m64, .ref m65, .ref m66, .ref m67, .ref m68, .ref m69, .ref m70, .ref m71, .ref m72, .ref m73, .int 0, .ref m75, .int 0]))] := hD
  have hK : va_K (dC, dI) vwCl [] s := hK
  refine W.widen (k := 724) (n := 35019) (Nat.le_of_ble_eq_true rfl) (Nat.le_of_ble_eq_true rfl) ?_
  refine lv_aload_n hx hb dL_law_752 rfl (lv_at hl 2 rfl) ?_
  have hPc := hP.sub (ws' := [(y0, .inr (12, [.ref m0, .ref m1, .ref m2, .ref m3, .ref m4, .int 0, .ref m6, .ref m7, .ref m8, .ref m9, .ref m10, .ref m11, .ref m12, .ref m13, .ref m14, .ref m15, .ref m16, .ref m17, .ref m18, .ref m19, .int 0, .int 0, .int 0, .int (-1), .int 0, .int 0, .ref m26, .ref m27, .ref m28, .ref m29, .ref m30, .ref m31, .ref m32, .ref m33, .ref m34, .ref m35, .ref m36, .ref m37, .ref m38, .ref m39, .int 0, .int 0, .ref m42, .ref m43, .ref m44, .ref m45, .ref m46, .ref m47, .int 0, .int 0, .int 0, .int 0, .int (-1), .ref m53, .ref m54, .ref m55, .ref m56, .ref m57, .ref m58, .ref m59, .ref m60, .ref m61, .ref m62, .int 0, .ref m64, .ref m65, .ref m66, .ref m67, .ref m68, .ref m69, .ref m70, .ref m71, .ref m72, .ref m73, .int 0, .ref m75, .int 0]))]) [0] rfl
  have hDc := hD.sub (ws' := [(y0, .inr (12, [.ref m0, .ref m1, .ref m2, .ref m3, .ref m4, .int 0, .ref m6, .ref m7, .ref m8, .ref m9, .ref m10, .ref m11, .ref m12, .ref m13, .ref m14, .ref m15, .ref m16, .ref m17, .ref m18, .ref m19, .int 0, .int 0, .int 0, .int (-1), .int 0, .int 0, .ref m26, .ref m27, .ref m28, .ref m29, .ref m30, .ref m31, .ref m32, .ref m33, .ref m34, .ref m35, .ref m36, .ref m37, .ref m38, .ref m39, .int 0, .int 0, .ref m42, .ref m43, .ref m44, .ref m45, .ref m46, .ref m47, .int 0, .int 0, .int 0, .int 0, .int (-1), .ref m53, .ref m54, .ref m55, .ref m56, .ref m57, .ref m58, .ref m59, .ref m60, .ref m61, .ref m62, .int 0, .ref m64, .ref m65, .ref m66, .ref m67, .ref m68, .ref m69, .ref m70, .ref m71, .ref m72, .ref m73, .int 0, .ref m75, .int 0]))]) [0] (by decide) rfl
  have hKc := hK.sub (tys' := []) [] rfl
  have hFc := va_free (wc := [(y0, .inr (12, [.ref m0, .ref m1, .ref m2, .ref m3, .ref m4, .int 0, .ref m6, .ref m7, .ref m8, .ref m9, .ref m10, .ref m11, .ref m12, .ref m13, .ref m14, .ref m15, .ref m16, .ref m17, .ref m18, .ref m19, .int 0, .int 0, .int 0, .int (-1), .int 0, .int 0, .ref m26, .ref m27, .ref m28, .ref m29, .ref m30, .ref m31, .ref m32, .ref m33, .ref m34, .ref m35, .ref m36, .ref m37, .ref m38, .ref m39, .int 0, .int 0, .ref m42, .ref m43, .ref m44, .ref m45, .ref m46, .ref m47, .int 0, .int 0, .int 0, .int 0, .int (-1), .ref m53, .ref m54, .ref m55, .ref m56, .ref m57, .ref m58, .ref m59, .ref m60, .ref m61, .ref m62, .int 0, .ref m64, .ref m65, .ref m66, .ref m67, .ref m68, .ref m69, .ref m70, .ref m71, .ref m72, .ref m73, .int 0, .ref m75, .int 0]))]) hD hS hA [0] rfl
  refine va_calli (va_runV (As := []) (rest := [.int 0]) ⟨hx, hb, hml, hown, htb⟩ (c_X13_close l dC dI H.size y0 m0 m1 m2 m3 m4 m6 m7 m8 m9 m10 m11 m12 m13 m14 m15 m16 m17 m18 m19 m26 m27 m28 m29 m30 m31 m32 m33 m34 m35 m36 m37 m38 m39 m42 m43 m44 m45 m46 m47 m53 m54 m55 m56 m57 m58 m59 m60 m61 m62 m64 m65 m66 m67 m68 m69 m70 m71 m72 m73 m75) (cwV 0 htb (gd_V kw_467 kw_468 kw_469 kw_345 kw_609) rfl rfl rfl (by decide +kernel) ⟨Nat.le_of_ble_eq_true rfl, Nat.le_of_ble_eq_true rfl⟩) ⟨fun a U g mk q => by obtain ⟨q0, q1, qP, qK, qD⟩ := q; exact ⟨q0, q1, qP, va_K.moved (u := U) (U := U.calling g mk a) (Vm.Alike.refl U.vm) qK, qD⟩, va_recv hKc hPc (ci := 12) (q0 := 0) rfl rfl, fun U hU hW => ⟨rfl, by rw [hU], by rw [hU]; exact hPc, va_K.moved hW.alike hKc, hDc.weaken (fun _ _ _ _ => trivial)⟩⟩ rfl rfl hl.1 rfl (lv_room (Nat.le_of_ble_eq_true rfl)) dL_law_753 ⟨(Nat.le_of_ble_eq_true rfl), (Nat.le_of_ble_eq_true rfl)⟩) hS (fun q _ h => hFc q h) hFc (fun r u t H1 locs ht hvm hw hB hz1 hk1 hS => ?_)
  subst hw
  obtain ⟨hP1, hK1, hD1⟩ := hB
  rw [ht] at hP1
  have hK1 := va_K.moved hvm.symm hK1
  obtain ⟨hP, hD⟩ := va_join (wr := []) (w1 := []) hP hD [0] [] rfl rfl (by decide) (by decide) hk1 hFc hP1 hD1
  have hK := hK.app hK1
  generalize H1 = H at hP hS ⊢
  have hP : va_P (dC, dI) vwCl [] H := hP
  have hD : va_D A [] := hD
  have hK : va_K (dC, dI) vwCl [] s := hK
  refine W.widen (k := 724) (n := 35019) (Nat.le_of_ble_eq_true rfl) (Nat.le_of_ble_eq_true rfl) ?_
  refine lv_icmp_eq (tgt := 885) hx hb dL_law_756 (by decide) (fun _ => ?_) (fun c_1 => absurd (by decide) c_1)
  refine lv_iinc (v := 9) (lv' := [(4, .int 9), (3, .ref o3), (2, .ref y0), (1, .ref x0), (0, .ref b)]) hx hb dL_law_885 hl (k := 0) rfl (by decide) (by decide) rfl (fun ls hl => ?_)
  refine lv_goto (tgt := 23) hx hb dL_law_888 (by decide) ?_
  refine lv_iload hx hb dL_law_23 (lv_at hl 0 rfl) ?_
  refine lv_aload_n hx hb dL_law_25 rfl (lv_at hl 4 rfl) ?_
  refine va_slen hx hb hX hbl hbA hS dL_law_26 ?_
  refine lv_topi (fun z_2 ez_2 => ?_)
  obtain rfl : z_2 = 9 := ez_2.trans (by decide)
  refine lv_bipush (v := 9) hx hb dL_law_27 (by decide) ?_
  refine lv_isub hx hb dL_law_29 ?_
  refine lv_topi (fun z_3 ez_3 => ?_)
  obtain rfl : z_3 = 0 := ez_3.trans (by decide)
  refine lv_icmp_gt (tgt := 891) hx hb dL_law_30 (by decide) (fun _ => ?_) (fun c_4 => absurd (by decide) c_4)
  refine lv_iconst (v := 1) hx hb dL_law_891 (by decide) ?_
  refine va_forget (fun q hq => hAi _ (hS.2.2 q hq)) ?_
  refine W.widen (k := 600002) (n := 7302232) (Nat.le_of_ble_eq_true rfl) (Nat.le_of_ble_eq_true rfl) ?_
  exact lw_ret hx hb hr hlocks dL_law_892

set_option maxHeartbeats 4000000 in
set_option maxRecDepth 100000 in
theorem law_case_11 {p : Program} {l : Launch} {e : Env} {s : State} {m : MethodId} {below : List Frame} {meth : Method} {c : Code} {b : Nat} {xs : Nat → Int32} {dC : Nat → ClassId} {dI : Nat → Nat → Nat} {A : Nat → Prop} (hl9 : l.stackTraces = false) (C0 : lw_At p s m meth c b 9 xs) (hA : ∀ q : Nat, s.heap.size ≤ q → A q) (hAi : ∀ q : Nat, A q → s.heap.size ≤ q) (hbA : ¬ A b) (hG : GE A s) (x0 : Nat) (a1 : Nat) (a2 : Nat) (a3 : Nat) (a4 : Nat) (a5 : Nat) (a6 : Nat) (a7 : Nat) (a8 : Nat) (rn : Nat) (y0 : Nat) (m0 : Nat) (m1 : Nat) (m2 : Nat) (m3 : Nat) (m4 : Nat) (m6 : Nat) (m7 : Nat) (m8 : Nat) (m9 : Nat) (m10 : Nat) (m11 : Nat) (m12 : Nat) (m13 : Nat) (m14 : Nat) (m15 : Nat) (m16 : Nat) (m17 : Nat) (m18 : Nat) (m19 : Nat) (m26 : Nat) (m27 : Nat) (m28 : Nat) (m29 : Nat) (m30 : Nat) (m31 : Nat) (m32 : Nat) (m33 : Nat) (m34 : Nat) (m35 : Nat) (m36 : Nat) (m37 : Nat) (m38 : Nat) (m39 : Nat) (m42 : Nat) (m43 : Nat) (m44 : Nat) (m45 : Nat) (m46 : Nat) (m47 : Nat) (m53 : Nat) (m54 : Nat) (m55 : Nat) (m56 : Nat) (m57 : Nat) (m58 : Nat) (m59 : Nat) (m60 : Nat) (m61 : Nat) (m62 : Nat) (m64 : Nat) (m65 : Nat) (m66 : Nat) (m67 : Nat) (m68 : Nat) (m69 : Nat) (m70 : Nat) (m71 : Nat) (m72 : Nat) (m73 : Nat) (m75 : Nat) (o3 : Nat) (H : Heap) (locs : List Loc) (ls : Array Slot) (hK : va_K (dC, dI) vwCl [] s) (hP : va_P (dC, dI) vwCl [(x0, .inr (11, [.ref a1, .ref a2, .ref a3, .ref a4, .ref a5, .ref a6, .ref a7, .ref a8, .int 0, .int 0, .int 0, .int (-1)])), (a7, .inr (4, [.ref rn, .int 0])), (y0, .inr (12, [.ref m0, .ref m1, .ref m2, .ref m3, .ref m4, .int 0, .ref m6, .ref m7, .ref m8, .ref m9, .ref m10, .ref m11, .ref m12, .ref m13, .ref m14, .ref m15, .ref m16, .ref m17, .ref m18, .ref m19, .int 0, .int 0, .int 0, .int (-1), .int 0, .int 0, .ref m26, .ref m27, .ref m28, .ref m29, .ref m30, .ref m31, .ref m32, .ref m33, .ref m34, .ref m35, .ref m36, .ref m37, .ref m38, .ref m39, .int 0, .int 0, .ref m42, .ref m43, .ref m44, .ref m45, .ref m46, .ref m47, .int 0, .int 0, .int 0, .int 0, .int (-1), .ref m53, .ref m54, .ref m55, .ref m56, .ref m57, .ref m58, .ref m59, .ref m60, .ref m61, .ref m62, .int 0, .ref m64, .ref m65, .ref m66, .ref m67, .ref m68, .ref m69, .ref m70, .ref m71, .ref m72, .ref m73, .int 0, .ref m75, .int 0]))] H) (hD : va_D A [(x0, .inr (11, [.ref a1, .ref a2, .ref a3, .ref a4, .ref a5, .ref a6, .ref a7, .ref a8, .int 0, .int 0, .int 0, .int (-1)])), (a7, .inr (4, [.ref rn, .int 0])), (y0, .inr (12, [.ref m0, .ref m1, .ref m2, .ref m3, .ref m4, .int 0, .ref m6, .ref m7, .ref m8, .ref m9, .ref m10, .ref m11, .ref m12, .ref m13, .ref m14, .ref m15, .ref m16, .ref m17, .ref m18, .ref m19, .int 0, .int 0, .int 0, .int (-1), .int 0, .int 0, .ref m26, .ref m27, .ref m28, .ref m29, .ref m30, .ref m31, .ref m32, .ref m33, .ref m34, .ref m35, .ref m36, .ref m37, .ref m38, .ref m39, .int 0, .int 0, .ref m42, .ref m43, .ref m44, .ref m45, .ref m46, .ref m47, .int 0, .int 0, .int 0, .int 0, .int (-1), .ref m53, .ref m54, .ref m55, .ref m56, .ref m57, .ref m58, .ref m59, .ref m60, .ref m61, .ref m62, .int 0, .ref m64, .ref m65, .ref m66, .ref m67, .ref m68, .ref m69, .ref m70, .ref m71, .ref m72, .ref m73, .int 0, .ref m75, .int 0]))]) (hS : va_S A s.heap H locs) (hl : lv_has ls 7 [(4, .int 0), (3, .ref o3), (2, .ref y0), (1, .ref x0), (0, .ref b)]) : W p l e room_1 s m #[Value.ref b] below meth c H locs 724 35019 (lw_Z below #[Value.ref b] s) (F0 m 761 ls []) := by
  obtain ⟨hx, hb, hr, hml, hown, hts, hX, hbl, hlocks, hgv⟩ := C0
  have hown : s.vm.findClass RL = some m.cls := hown
  have htb := fun (w : Cond) (h : w ∈ tb) => hts w (tb_in w h)
  refine lv_aload_n hx hb dL_law_761 rfl (lv_at hl 3 rfl) ?_
  have hPc := hP.sub (ws' := [(x0, .inr (11, [.ref a1, .ref a2, .ref a3, .ref a4, .ref a5, .ref a6, .ref a7, .ref a8, .int 0, .int 0, .int 0, .int (-1)])), (a7, .inr (4, [.ref rn, .int 0]))]) [0, 1] rfl
  have hDc := hD.sub (ws' := [(x0, .inr (11, [.ref a1, .ref a2, .ref a3, .ref a4, .ref a5, .ref a6, .ref a7, .ref a8, .int 0, .int 0, .int 0, .int (-1)])), (a7, .inr (4, [.ref rn, .int 0]))]) [0, 1] (by decide) rfl
  have hKc := hK.sub (tys' := []) [] rfl
  have hFc := va_free (wc := [(x0, .inr (11, [.ref a1, .ref a2, .ref a3, .ref a4, .ref a5, .ref a6, .ref a7, .ref a8, .int 0, .int 0, .int 0, .int (-1)])), (a7, .inr (4, [.ref rn, .int 0]))]) hD hS hA [0, 1] rfl
  refine va_calli (va_runV (As := []) (rest := []) ⟨hx, hb, hml, hown, htb⟩ (c_X12_events l dC dI H.size x0 a1 a2 a3 a4 a5 a6 a7 a8 rn) (cwV 0 htb (gd_V kw_470 kw_471 kw_472 kw_49 kw_610) rfl rfl rfl (by decide +kernel) ⟨Nat.le_of_ble_eq_true rfl, Nat.le_of_ble_eq_true rfl⟩) ⟨fun a U g mk q => by obtain ⟨q0, q1, qP, qK, qD⟩ := q; exact ⟨q0, q1, qP, va_K.moved (u := U) (U := U.calling g mk a) (Vm.Alike.refl U.vm) qK, qD⟩, va_recv hKc hPc (ci := 11) (q0 := 0) rfl rfl, fun U hU hW => ⟨rfl, by rw [hU], by rw [hU]; exact hPc, va_K.moved hW.alike hKc, hDc.weaken (fun _ _ _ _ => trivial)⟩⟩ rfl rfl hl.1 rfl (lv_room (Nat.le_of_ble_eq_true rfl)) dL_law_762 ⟨(Nat.le_of_ble_eq_true rfl), (Nat.le_of_ble_eq_true rfl)⟩) hS (fun q _ h => hFc q h) hFc (fun r u t H1 locs ht hvm hw hB hz1 hk1 hS => ?_)
  subst hw
  obtain ⟨hP1, hK1, hD1⟩ := hB
  rw [ht] at hP1
  have hK1 := va_K.moved hvm.symm hK1
  obtain ⟨hP, hD⟩ := va_join (wr := [(y0, .inr (12, [.ref m0, .ref m1, .ref m2, .ref m3, .ref m4, .int 0, .ref m6, .ref m7, .ref m8, .ref m9, .ref m10, .ref m11, .ref m12, .ref m13, .ref m14, .ref m15, .ref m16, .ref m17, .ref m18, .ref m19, .int 0, .int 0, .int 0, .int (-1), .int 0, .int 0, .ref m26, .ref m27, .ref m28, .ref m29, .ref m30, .ref m31, .ref m32, .ref m33, .ref m34, .ref m35, .ref m36, .ref m37, .ref m38, .ref m39, .int 0, .int 0, .ref m42, .ref m43, .ref m44, .ref m45, .ref m46, .ref m47, .int 0, .int 0, .int 0, .int 0, .int (-1), .ref m53, .ref m54, .ref m55, .ref m56, .ref m57, .ref m58, .ref m59, .ref m60, .ref m61, .ref m62, .int 0, .ref m64, .ref m65, .ref m66, .ref m67, .ref m68, .ref m69, .ref m70, .ref m71, .ref m72, .ref m73, .int 0, .ref m75, .int 0]))]) (w1 := []) hP hD [0, 1] [2] rfl rfl (by decide) (by decide) hk1 hFc hP1 hD1
  have hK := hK.app hK1
  generalize H1 = H at hP hS ⊢
  have hP : va_P (dC, dI) vwCl [(y0, .inr (12, [.ref m0, .ref m1, .ref m2, .ref m3, .ref m4, .int 0, .ref m6, .ref m7, .ref m8, .ref m9, .ref m10, .ref m11, .ref m12, .ref m13, .ref m14, .ref m15, .ref m16, .ref m17, .ref m18, .ref m19, .int 0, .int 0, .int 0, .int (-1), .int 0, .int 0, .ref m26, .ref m27, .ref m28, .ref m29, .ref m30, .ref m31, .ref m32, .ref m33, .ref m34, .ref m35, .ref m36, .ref m37, .ref m38, .ref m39, .int 0, .int 0, .ref m42, .ref m43, .ref m44, .ref m45, .ref m46, .ref m47, .int 0, .int 0, .int 0, .int 0, .int (-1), .ref m53, .ref m54, .ref m55, .ref m56, .ref m57, .ref m58, .ref m59, .ref m60, .ref m61, .ref m62, .int 0, .ref m64, .ref m65, .ref m66, .ref m67, .ref m68, .ref m69, .ref m70, .ref m71, .ref m72, .ref m73, .int 0, .ref m75, .int 0]))] H := hP
  have hD : va_D A [(y0, .inr (12, [.ref m0, .ref m1, .ref m2, .ref m3, .ref m4, .int 0, .ref m6, .ref m7, .ref m8, .ref m9, .ref m10, .ref m11, .ref m12, .ref m13, .ref m14, .ref m15, .ref m16, .ref m17, .ref m18, .ref m19, .int 0, .int 0, .int 0, .int (-1), .int 0, .int 0, .ref m26, .ref m27, .ref m28, .ref m29, .ref m30, .ref m31, .ref m32, .ref m33, .ref m34, .ref m35, .ref m36, .ref m37, .ref m38, .ref m39, .int 0, .int 0, .ref m42, .ref m43, .ref m44, .ref m45, .ref m46, .ref m47, .int 0, .int 0, .int 0, .int 0, .int (-1), .ref m53, .ref m54, .ref m55, .ref m56, .ref m57, .ref m58, .ref m59, .ref m60, .ref m61, .ref m62, .int 0, .ref m64, .ref m65, .ref m66, .ref m67, .ref m68, .ref m69, .ref m70, .ref m71, .ref m72, .ref m73, .int 0, .ref m75, .int 0]))] := hD
  have hK : va_K (dC, dI) vwCl [] s := hK
  refine W.widen (k := 724) (n := 35019) (Nat.le_of_ble_eq_true rfl) (Nat.le_of_ble_eq_true rfl) ?_
  refine lv_aload_n hx hb dL_law_765 rfl (lv_at hl 2 rfl) ?_
  have hPc := hP.sub (ws' := [(y0, .inr (12, [.ref m0, .ref m1, .ref m2, .ref m3, .ref m4, .int 0, .ref m6, .ref m7, .ref m8, .ref m9, .ref m10, .ref m11, .ref m12, .ref m13, .ref m14, .ref m15, .ref m16, .ref m17, .ref m18, .ref m19, .int 0, .int 0, .int 0, .int (-1), .int 0, .int 0, .ref m26, .ref m27, .ref m28, .ref m29, .ref m30, .ref m31, .ref m32, .ref m33, .ref m34, .ref m35, .ref m36, .ref m37, .ref m38, .ref m39, .int 0, .int 0, .ref m42, .ref m43, .ref m44, .ref m45, .ref m46, .ref m47, .int 0, .int 0, .int 0, .int 0, .int (-1), .ref m53, .ref m54, .ref m55, .ref m56, .ref m57, .ref m58, .ref m59, .ref m60, .ref m61, .ref m62, .int 0, .ref m64, .ref m65, .ref m66, .ref m67, .ref m68, .ref m69, .ref m70, .ref m71, .ref m72, .ref m73, .int 0, .ref m75, .int 0]))]) [0] rfl
  have hDc := hD.sub (ws' := [(y0, .inr (12, [.ref m0, .ref m1, .ref m2, .ref m3, .ref m4, .int 0, .ref m6, .ref m7, .ref m8, .ref m9, .ref m10, .ref m11, .ref m12, .ref m13, .ref m14, .ref m15, .ref m16, .ref m17, .ref m18, .ref m19, .int 0, .int 0, .int 0, .int (-1), .int 0, .int 0, .ref m26, .ref m27, .ref m28, .ref m29, .ref m30, .ref m31, .ref m32, .ref m33, .ref m34, .ref m35, .ref m36, .ref m37, .ref m38, .ref m39, .int 0, .int 0, .ref m42, .ref m43, .ref m44, .ref m45, .ref m46, .ref m47, .int 0, .int 0, .int 0, .int 0, .int (-1), .ref m53, .ref m54, .ref m55, .ref m56, .ref m57, .ref m58, .ref m59, .ref m60, .ref m61, .ref m62, .int 0, .ref m64, .ref m65, .ref m66, .ref m67, .ref m68, .ref m69, .ref m70, .ref m71, .ref m72, .ref m73, .int 0, .ref m75, .int 0]))]) [0] (by decide) rfl
  have hKc := hK.sub (tys' := []) [] rfl
  have hFc := va_free (wc := [(y0, .inr (12, [.ref m0, .ref m1, .ref m2, .ref m3, .ref m4, .int 0, .ref m6, .ref m7, .ref m8, .ref m9, .ref m10, .ref m11, .ref m12, .ref m13, .ref m14, .ref m15, .ref m16, .ref m17, .ref m18, .ref m19, .int 0, .int 0, .int 0, .int (-1), .int 0, .int 0, .ref m26, .ref m27, .ref m28, .ref m29, .ref m30, .ref m31, .ref m32, .ref m33, .ref m34, .ref m35, .ref m36, .ref m37, .ref m38, .ref m39, .int 0, .int 0, .ref m42, .ref m43, .ref m44, .ref m45, .ref m46, .ref m47, .int 0, .int 0, .int 0, .int 0, .int (-1), .ref m53, .ref m54, .ref m55, .ref m56, .ref m57, .ref m58, .ref m59, .ref m60, .ref m61, .ref m62, .int 0, .ref m64, .ref m65, .ref m66, .ref m67, .ref m68, .ref m69, .ref m70, .ref m71, .ref m72, .ref m73, .int 0, .ref m75, .int 0]))]) hD hS hA [0] rfl
  refine va_calli (va_runV (As := []) (rest := [.int 0]) ⟨hx, hb, hml, hown, htb⟩ (c_X13_events l dC dI H.size y0 m0 m1 m2 m3 m4 m6 m7 m8 m9 m10 m11 m12 m13 m14 m15 m16 m17 m18 m19 m26 m27 m28 m29 m30 m31 m32 m33 m34 m35 m36 m37 m38 m39 m42 m43 m44 m45 m46 m47 m53 m54 m55 m56 m57 m58 m59 m60 m61 m62 m64 m65 m66 m67 m68 m69 m70 m71 m72 m73 m75) (cwV 0 htb (gd_V kw_473 kw_474 kw_475 kw_345 kw_611) rfl rfl rfl (by decide +kernel) ⟨Nat.le_of_ble_eq_true rfl, Nat.le_of_ble_eq_true rfl⟩) ⟨fun a U g mk q => by obtain ⟨q0, q1, qP, qK, qD⟩ := q; exact ⟨q0, q1, qP, va_K.moved (u := U) (U := U.calling g mk a) (Vm.Alike.refl U.vm) qK, qD⟩, va_recv hKc hPc (ci := 12) (q0 := 0) rfl rfl, fun U hU hW => ⟨rfl, by rw [hU], by rw [hU]; exact hPc, va_K.moved hW.alike hKc, hDc.weaken (fun _ _ _ _ => trivial)⟩⟩ rfl rfl hl.1 rfl (lv_room (Nat.le_of_ble_eq_true rfl)) dL_law_766 ⟨(Nat.le_of_ble_eq_true rfl), (Nat.le_of_ble_eq_true rfl)⟩) hS (fun q _ h => hFc q h) hFc (fun r u t H1 locs ht hvm hw hB hz1 hk1 hS => ?_)
  subst hw
  obtain ⟨hP1, hK1, hD1⟩ := hB
  rw [ht] at hP1
  have hK1 := va_K.moved hvm.symm hK1
  obtain ⟨hP, hD⟩ := va_join (wr := []) (w1 := []) hP hD [0] [] rfl rfl (by decide) (by decide) hk1 hFc hP1 hD1
  have hK := hK.app hK1
  generalize H1 = H at hP hS ⊢
  have hP : va_P (dC, dI) vwCl [] H := hP
  have hD : va_D A [] := hD
  have hK : va_K (dC, dI) vwCl [] s := hK
  refine W.widen (k := 724) (n := 35019) (Nat.le_of_ble_eq_true rfl) (Nat.le_of_ble_eq_true rfl) ?_
  refine lv_icmp_eq (tgt := 885) hx hb dL_law_769 (by decide) (fun _ => ?_) (fun c_1 => absurd (by decide) c_1)
  refine lv_iinc (v := 9) (lv' := [(4, .int 9), (3, .ref o3), (2, .ref y0), (1, .ref x0), (0, .ref b)]) hx hb dL_law_885 hl (k := 0) rfl (by decide) (by decide) rfl (fun ls hl => ?_)
  refine lv_goto (tgt := 23) hx hb dL_law_888 (by decide) ?_
  refine lv_iload hx hb dL_law_23 (lv_at hl 0 rfl) ?_
  refine lv_aload_n hx hb dL_law_25 rfl (lv_at hl 4 rfl) ?_
  refine va_slen hx hb hX hbl hbA hS dL_law_26 ?_
  refine lv_topi (fun z_2 ez_2 => ?_)
  obtain rfl : z_2 = 9 := ez_2.trans (by decide)
  refine lv_bipush (v := 9) hx hb dL_law_27 (by decide) ?_
  refine lv_isub hx hb dL_law_29 ?_
  refine lv_topi (fun z_3 ez_3 => ?_)
  obtain rfl : z_3 = 0 := ez_3.trans (by decide)
  refine lv_icmp_gt (tgt := 891) hx hb dL_law_30 (by decide) (fun _ => ?_) (fun c_4 => absurd (by decide) c_4)
  refine lv_iconst (v := 1) hx hb dL_law_891 (by decide) ?_
  refine va_forget (fun q hq => hAi _ (hS.2.2 q hq)) ?_
  refine W.widen (k := 600002) (n := 7302232) (Nat.le_of_ble_eq_true rfl) (Nat.le_of_ble_eq_true rfl) ?_
  exact lw_ret hx hb hr hlocks dL_law_892

set_option maxHeartbeats 4000000 in
set_option maxRecDepth 100000 in
theorem law_case_12 {p : Program} {l : Launch} {e : Env} {s : State} {m : MethodId} {below : List Frame} {meth : Method} {c : Code} {b : Nat} {xs : Nat → Int32} {dC : Nat → ClassId} {dI : Nat → Nat → Nat} {A : Nat → Prop} (hl9 : l.stackTraces = false) (C0 : lw_At p s m meth c b 9 xs) (hA : ∀ q : Nat, s.heap.size ≤ q → A q) (hAi : ∀ q : Nat, A q → s.heap.size ≤ q) (hbA : ¬ A b) (hG : GE A s) (x0 : Nat) (a1 : Nat) (a2 : Nat) (a3 : Nat) (a4 : Nat) (a5 : Nat) (a6 : Nat) (a7 : Nat) (a8 : Nat) (rn : Nat) (y0 : Nat) (m0 : Nat) (m1 : Nat) (m2 : Nat) (m3 : Nat) (m4 : Nat) (m6 : Nat) (m7 : Nat) (m8 : Nat) (m9 : Nat) (m10 : Nat) (m11 : Nat) (m12 : Nat) (m13 : Nat) (m14 : Nat) (m15 : Nat) (m16 : Nat) (m17 : Nat) (m18 : Nat) (m19 : Nat) (m26 : Nat) (m27 : Nat) (m28 : Nat) (m29 : Nat) (m30 : Nat) (m31 : Nat) (m32 : Nat) (m33 : Nat) (m34 : Nat) (m35 : Nat) (m36 : Nat) (m37 : Nat) (m38 : Nat) (m39 : Nat) (m42 : Nat) (m43 : Nat) (m44 : Nat) (m45 : Nat) (m46 : Nat) (m47 : Nat) (m53 : Nat) (m54 : Nat) (m55 : Nat) (m56 : Nat) (m57 : Nat) (m58 : Nat) (m59 : Nat) (m60 : Nat) (m61 : Nat) (m62 : Nat) (m64 : Nat) (m65 : Nat) (m66 : Nat) (m67 : Nat) (m68 : Nat) (m69 : Nat) (m70 : Nat) (m71 : Nat) (m72 : Nat) (m73 : Nat) (m75 : Nat) (o3 : Nat) (H : Heap) (locs : List Loc) (ls : Array Slot) (hK : va_K (dC, dI) vwCl [] s) (hP : va_P (dC, dI) vwCl [(x0, .inr (11, [.ref a1, .ref a2, .ref a3, .ref a4, .ref a5, .ref a6, .ref a7, .ref a8, .int 0, .int 0, .int 0, .int (-1)])), (a7, .inr (4, [.ref rn, .int 0])), (y0, .inr (12, [.ref m0, .ref m1, .ref m2, .ref m3, .ref m4, .int 0, .ref m6, .ref m7, .ref m8, .ref m9, .ref m10, .ref m11, .ref m12, .ref m13, .ref m14, .ref m15, .ref m16, .ref m17, .ref m18, .ref m19, .int 0, .int 0, .int 0, .int (-1), .int 0, .int 0, .ref m26, .ref m27, .ref m28, .ref m29, .ref m30, .ref m31, .ref m32, .ref m33, .ref m34, .ref m35, .ref m36, .ref m37, .ref m38, .ref m39, .int 0, .int 0, .ref m42, .ref m43, .ref m44, .ref m45, .ref m46, .ref m47, .int 0, .int 0, .int 0, .int 0, .int (-1), .ref m53, .ref m54, .ref m55, .ref m56, .ref m57, .ref m58, .ref m59, .ref m60, .ref m61, .ref m62, .int 0, .ref m64, .ref m65, .ref m66, .ref m67, .ref m68, .ref m69, .ref m70, .ref m71, .ref m72, .ref m73, .int 0, .ref m75, .int 0]))] H) (hD : va_D A [(x0, .inr (11, [.ref a1, .ref a2, .ref a3, .ref a4, .ref a5, .ref a6, .ref a7, .ref a8, .int 0, .int 0, .int 0, .int (-1)])), (a7, .inr (4, [.ref rn, .int 0])), (y0, .inr (12, [.ref m0, .ref m1, .ref m2, .ref m3, .ref m4, .int 0, .ref m6, .ref m7, .ref m8, .ref m9, .ref m10, .ref m11, .ref m12, .ref m13, .ref m14, .ref m15, .ref m16, .ref m17, .ref m18, .ref m19, .int 0, .int 0, .int 0, .int (-1), .int 0, .int 0, .ref m26, .ref m27, .ref m28, .ref m29, .ref m30, .ref m31, .ref m32, .ref m33, .ref m34, .ref m35, .ref m36, .ref m37, .ref m38, .ref m39, .int 0, .int 0, .ref m42, .ref m43, .ref m44, .ref m45, .ref m46, .ref m47, .int 0, .int 0, .int 0, .int 0, .int (-1), .ref m53, .ref m54, .ref m55, .ref m56, .ref m57, .ref m58, .ref m59, .ref m60, .ref m61, .ref m62, .int 0, .ref m64, .ref m65, .ref m66, .ref m67, .ref m68, .ref m69, .ref m70, .ref m71, .ref m72, .ref m73, .int 0, .ref m75, .int 0]))]) (hS : va_S A s.heap H locs) (hl : lv_has ls 7 [(4, .int 0), (3, .ref o3), (2, .ref y0), (1, .ref x0), (0, .ref b)]) : W p l e room_1 s m #[Value.ref b] below meth c H locs 724 35019 (lw_Z below #[Value.ref b] s) (F0 m 774 ls []) := by
  obtain ⟨hx, hb, hr, hml, hown, hts, hX, hbl, hlocks, hgv⟩ := C0
  have hown : s.vm.findClass RL = some m.cls := hown
  have htb := fun (w : Cond) (h : w ∈ tb) => hts w (tb_in w h)
  refine lv_aload_n hx hb dL_law_774 rfl (lv_at hl 3 rfl) ?_
  refine lv_aload_n hx hb dL_law_775 rfl (lv_at hl 4 rfl) ?_
  refine lv_iload hx hb dL_law_776 (lv_at hl 0 rfl) ?_
  refine lv_iconst (v := 1) hx hb dL_law_778 (by decide) ?_
  refine lv_iadd hx hb dL_law_779 ?_
  refine lv_topi (fun z_1 ez_1 => ?_)
  obtain rfl : z_1 = 1 := ez_1.trans (by decide)
  refine va_sld hx hb hX hbl hbA hS (by unfold vp_in; decide) dL_law_780 ?_
  refine lv_topi (fun z_2 ez_2 => ?_)
  obtain rfl : z_2 = xs 1 := ez_2
  refine lv_aload_n hx hb dL_law_781 rfl (lv_at hl 4 rfl) ?_
  refine lv_iload hx hb dL_law_782 (lv_at hl 0 rfl) ?_
  refine lv_iconst (v := 2) hx hb dL_law_784 (by decide) ?_
  refine lv_iadd hx hb dL_law_785 ?_
  refine lv_topi (fun z_3 ez_3 => ?_)
  obtain rfl : z_3 = 2 := ez_3.trans (by decide)
  refine va_sld hx hb hX hbl hbA hS (by unfold vp_in; decide) dL_law_786 ?_
  refine lv_topi (fun z_4 ez_4 => ?_)
  obtain rfl : z_4 = xs 2 := ez_4
  have hPc := hP.sub (ws' := [(x0, .inr (11, [.ref a1, .ref a2, .ref a3, .ref a4, .ref a5, .ref a6, .ref a7, .ref a8, .int 0, .int 0, .int 0, .int (-1)])), (a7, .inr (4, [.ref rn, .int 0]))]) [0, 1] rfl
  have hDc := hD.sub (ws' := [(x0, .inr (11, [.ref a1, .ref a2, .ref a3, .ref a4, .ref a5, .ref a6, .ref a7, .ref a8, .int 0, .int 0, .int 0, .int (-1)])), (a7, .inr (4, [.ref rn, .int 0]))]) [0, 1] (by decide) rfl
  have hKc := hK.sub (tys' := []) [] rfl
  have hFc := va_free (wc := [(x0, .inr (11, [.ref a1, .ref a2, .ref a3, .ref a4, .ref a5, .ref a6, .ref a7, .ref a8, .int 0, .int 0, .int 0, .int (-1)])), (a7, .inr (4, [.ref rn, .int 0]))]) hD hS hA [0, 1] rfl
  refine va_calli (va_runV (As := [.int (xs 1), .int (xs 2)]) (rest := []) ⟨hx, hb, hml, hown, htb⟩ (c_X12_event l dC dI H.size x0 (xs 1) (xs 2) a1 a2 a3 a4 a5 a6 a7 a8 rn) (cwV 2 htb (gd_V kw_476 kw_477 kw_478 kw_49 kw_612) rfl rfl rfl (by decide +kernel) ⟨Nat.le_of_ble_eq_true rfl, Nat.le_of_ble_eq_true rfl⟩) ⟨fun a U g mk q => by obtain ⟨q0, q1, qP, qK, qD⟩ := q; exact ⟨q0, q1, qP, va_K.moved (u := U) (U := U.calling g mk a) (Vm.Alike.refl U.vm) qK, qD⟩, va_recv hKc hPc (ci := 11) (q0 := 0) rfl rfl, fun U hU hW => ⟨rfl, by rw [hU], by rw [hU]; exact hPc, va_K.moved hW.alike hKc, hDc.weaken (fun _ _ _ _ => trivial)⟩⟩ rfl rfl hl.1 rfl (lv_room (Nat.le_of_ble_eq_true rfl)) dL_law_787 ⟨(Nat.le_of_ble_eq_true rfl), (Nat.le_of_ble_eq_true rfl)⟩) hS (fun q _ h => hFc q h) hFc (fun r u t H1 locs ht hvm hw hB hz1 hk1 hS => ?_)
  subst hw
  obtain ⟨hP1, hK1, hD1⟩ := hB
  rw [ht] at hP1
  have hK1 := va_K.moved hvm.symm hK1
  obtain ⟨hP, hD⟩ := va_join (wr := [(y0, .inr (12, [.ref m0, .ref m1, .ref m2, .ref m3, .ref m4, .int 0, .ref m6, .ref m7, .ref m8, .ref m9, .ref m10, .ref m11, .ref m12, .ref m13, .ref m14, .ref m15, .ref m16, .ref m17, .ref m18, .ref m19, .int 0, .int 0, .int 0, .int (-1), .int 0, .int 0, .ref m26, .ref m27, .ref m28, .ref m29, .ref m30, .ref m31, .ref m32, .ref m33, .ref m34, .ref m35, .ref m36, .ref m37, .ref m38, .ref m39, .int 0, .int 0, .ref m42, .ref m43, .ref m44, .ref m45, .ref m46, .ref m47, .int 0, .int 0, .int 0, .int 0, .int (-1), .ref m53, .ref m54, .ref m55, .ref m56, .ref m57, .ref m58, .ref m59, .ref m60, .ref m61, .ref m62, .int 0, .ref m64, .ref m65, .ref m66, .ref m67, .ref m68, .ref m69, .ref m70, .ref m71, .ref m72, .ref m73, .int 0, .ref m75, .int 0]))]) (w1 := []) hP hD [0, 1] [2] rfl rfl (by decide) (by decide) hk1 hFc hP1 hD1
  have hK := hK.app hK1
  generalize H1 = H at hP hS ⊢
  have hP : va_P (dC, dI) vwCl [(y0, .inr (12, [.ref m0, .ref m1, .ref m2, .ref m3, .ref m4, .int 0, .ref m6, .ref m7, .ref m8, .ref m9, .ref m10, .ref m11, .ref m12, .ref m13, .ref m14, .ref m15, .ref m16, .ref m17, .ref m18, .ref m19, .int 0, .int 0, .int 0, .int (-1), .int 0, .int 0, .ref m26, .ref m27, .ref m28, .ref m29, .ref m30, .ref m31, .ref m32, .ref m33, .ref m34, .ref m35, .ref m36, .ref m37, .ref m38, .ref m39, .int 0, .int 0, .ref m42, .ref m43, .ref m44, .ref m45, .ref m46, .ref m47, .int 0, .int 0, .int 0, .int 0, .int (-1), .ref m53, .ref m54, .ref m55, .ref m56, .ref m57, .ref m58, .ref m59, .ref m60, .ref m61, .ref m62, .int 0, .ref m64, .ref m65, .ref m66, .ref m67, .ref m68, .ref m69, .ref m70, .ref m71, .ref m72, .ref m73, .int 0, .ref m75, .int 0]))] H := hP
  have hD : va_D A [(y0, .inr (12, [.ref m0, .ref m1, .ref m2, .ref m3, .ref m4, .int 0, .ref m6, .ref m7, .ref m8, .ref m9, .ref m10, .ref m11, .ref m12, .ref m13, .ref m14, .ref m15, .ref m16, .ref m17, .ref m18, .ref m19, .int 0, .int 0, .int 0, .int (-1), .int 0, .int 0, .ref m26, .ref m27, .ref m28, .ref m29, .ref m30, .ref m31, .ref m32, .ref m33, .ref m34, .ref m35, .ref m36, .ref m37, .ref m38, .ref m39, .int 0, .int 0, .ref m42, .ref m43, .ref m44, .ref m45, .ref m46, .ref m47, .int 0, .int 0, .int 0, .int 0, .int (-1), .ref m53, .ref m54, .ref m55, .ref m56, .ref m57, .ref m58, .ref m59, .ref m60, .ref m61, .ref m62, .int 0, .ref m64, .ref m65, .ref m66, .ref m67, .ref m68, .ref m69, .ref m70, .ref m71, .ref m72, .ref m73, .int 0, .ref m75, .int 0]))] := hD
  have hK : va_K (dC, dI) vwCl [] s := hK
  refine W.widen (k := 724) (n := 35019) (Nat.le_of_ble_eq_true rfl) (Nat.le_of_ble_eq_true rfl) ?_
  refine lv_aload_n hx hb dL_law_790 rfl (lv_at hl 2 rfl) ?_
  refine lv_aload_n hx hb dL_law_791 rfl (lv_at hl 4 rfl) ?_
  refine lv_iload hx hb dL_law_792 (lv_at hl 0 rfl) ?_
  refine lv_iconst (v := 1) hx hb dL_law_794 (by decide) ?_
  refine lv_iadd hx hb dL_law_795 ?_
  refine lv_topi (fun z_5 ez_5 => ?_)
  obtain rfl : z_5 = 1 := ez_5.trans (by decide)
  refine va_sld hx hb hX hbl hbA hS (by unfold vp_in; decide) dL_law_796 ?_
  refine lv_topi (fun z_6 ez_6 => ?_)
  obtain rfl : z_6 = xs 1 := ez_6
  refine lv_aload_n hx hb dL_law_797 rfl (lv_at hl 4 rfl) ?_
  refine lv_iload hx hb dL_law_798 (lv_at hl 0 rfl) ?_
  refine lv_iconst (v := 2) hx hb dL_law_800 (by decide) ?_
  refine lv_iadd hx hb dL_law_801 ?_
  refine lv_topi (fun z_7 ez_7 => ?_)
  obtain rfl : z_7 = 2 := ez_7.trans (by decide)
  refine va_sld hx hb hX hbl hbA hS (by unfold vp_in; decide) dL_law_802 ?_
  refine lv_topi (fun z_8 ez_8 => ?_)
  obtain rfl : z_8 = xs 2 := ez_8
  have hPc := hP.sub (ws' := [(y0, .inr (12, [.ref m0, .ref m1, .ref m2, .ref m3, .ref m4, .int 0, .ref m6, .ref m7, .ref m8, .ref m9, .ref m10, .ref m11, .ref m12, .ref m13, .ref m14, .ref m15, .ref m16, .ref m17, .ref m18, .ref m19, .int 0, .int 0, .int 0, .int (-1), .int 0, .int 0, .ref m26, .ref m27, .ref m28, .ref m29, .ref m30, .ref m31, .ref m32, .ref m33, .ref m34, .ref m35, .ref m36, .ref m37, .ref m38, .ref m39, .int 0, .int 0, .ref m42, .ref m43, .ref m44, .ref m45, .ref m46, .ref m47, .int 0, .int 0, .int 0, .int 0, .int (-1), .ref m53, .ref m54, .ref m55, .ref m56, .ref m57, .ref m58, .ref m59, .ref m60, .ref m61, .ref m62, .int 0, .ref m64, .ref m65, .ref m66, .ref m67, .ref m68, .ref m69, .ref m70, .ref m71, .ref m72, .ref m73, .int 0, .ref m75, .int 0]))]) [0] rfl
  have hDc := hD.sub (ws' := [(y0, .inr (12, [.ref m0, .ref m1, .ref m2, .ref m3, .ref m4, .int 0, .ref m6, .ref m7, .ref m8, .ref m9, .ref m10, .ref m11, .ref m12, .ref m13, .ref m14, .ref m15, .ref m16, .ref m17, .ref m18, .ref m19, .int 0, .int 0, .int 0, .int (-1), .int 0, .int 0, .ref m26, .ref m27, .ref m28, .ref m29, .ref m30, .ref m31, .ref m32, .ref m33, .ref m34, .ref m35, .ref m36, .ref m37, .ref m38, .ref m39, .int 0, .int 0, .ref m42, .ref m43, .ref m44, .ref m45, .ref m46, .ref m47, .int 0, .int 0, .int 0, .int 0, .int (-1), .ref m53, .ref m54, .ref m55, .ref m56, .ref m57, .ref m58, .ref m59, .ref m60, .ref m61, .ref m62, .int 0, .ref m64, .ref m65, .ref m66, .ref m67, .ref m68, .ref m69, .ref m70, .ref m71, .ref m72, .ref m73, .int 0, .ref m75, .int 0]))]) [0] (by decide) rfl
  have hKc := hK.sub (tys' := []) [] rfl
  have hFc := va_free (wc := [(y0, .inr (12, [.ref m0, .ref m1, .ref m2, .ref m3, .ref m4, .int 0, .ref m6, .ref m7, .ref m8, .ref m9, .ref m10, .ref m11, .ref m12, .ref m13, .ref m14, .ref m15, .ref m16, .ref m17, .ref m18, .ref m19, .int 0, .int 0, .int 0, .int (-1), .int 0, .int 0, .ref m26, .ref m27, .ref m28, .ref m29, .ref m30, .ref m31, .ref m32, .ref m33, .ref m34, .ref m35, .ref m36, .ref m37, .ref m38, .ref m39, .int 0, .int 0, .ref m42, .ref m43, .ref m44, .ref m45, .ref m46, .ref m47, .int 0, .int 0, .int 0, .int 0, .int (-1), .ref m53, .ref m54, .ref m55, .ref m56, .ref m57, .ref m58, .ref m59, .ref m60, .ref m61, .ref m62, .int 0, .ref m64, .ref m65, .ref m66, .ref m67, .ref m68, .ref m69, .ref m70, .ref m71, .ref m72, .ref m73, .int 0, .ref m75, .int 0]))]) hD hS hA [0] rfl
  refine va_calli (va_runV (As := [.int (xs 1), .int (xs 2)]) (rest := [.int (-1)]) ⟨hx, hb, hml, hown, htb⟩ (c_X13_event l dC dI H.size y0 (xs 1) (xs 2) m0 m1 m2 m3 m4 m6 m7 m8 m9 m10 m11 m12 m13 m14 m15 m16 m17 m18 m19 m26 m27 m28 m29 m30 m31 m32 m33 m34 m35 m36 m37 m38 m39 m42 m43 m44 m45 m46 m47 m53 m54 m55 m56 m57 m58 m59 m60 m61 m62 m64 m65 m66 m67 m68 m69 m70 m71 m72 m73 m75) (cwV 2 htb (gd_V kw_479 kw_480 kw_481 kw_345 kw_613) rfl rfl rfl (by decide +kernel) ⟨Nat.le_of_ble_eq_true rfl, Nat.le_of_ble_eq_true rfl⟩) ⟨fun a U g mk q => by obtain ⟨q0, q1, qP, qK, qD⟩ := q; exact ⟨q0, q1, qP, va_K.moved (u := U) (U := U.calling g mk a) (Vm.Alike.refl U.vm) qK, qD⟩, va_recv hKc hPc (ci := 12) (q0 := 0) rfl rfl, fun U hU hW => ⟨rfl, by rw [hU], by rw [hU]; exact hPc, va_K.moved hW.alike hKc, hDc.weaken (fun _ _ _ _ => trivial)⟩⟩ rfl rfl hl.1 rfl (lv_room (Nat.le_of_ble_eq_true rfl)) dL_law_803 ⟨(Nat.le_of_ble_eq_true rfl), (Nat.le_of_ble_eq_true rfl)⟩) hS (fun q _ h => hFc q h) hFc (fun r u t H1 locs ht hvm hw hB hz1 hk1 hS => ?_)
  subst hw
  obtain ⟨hP1, hK1, hD1⟩ := hB
  rw [ht] at hP1
  have hK1 := va_K.moved hvm.symm hK1
  obtain ⟨hP, hD⟩ := va_join (wr := []) (w1 := []) hP hD [0] [] rfl rfl (by decide) (by decide) hk1 hFc hP1 hD1
  have hK := hK.app hK1
  generalize H1 = H at hP hS ⊢
  have hP : va_P (dC, dI) vwCl [] H := hP
  have hD : va_D A [] := hD
  have hK : va_K (dC, dI) vwCl [] s := hK
  refine W.widen (k := 724) (n := 35019) (Nat.le_of_ble_eq_true rfl) (Nat.le_of_ble_eq_true rfl) ?_
  refine lv_icmp_eq (tgt := 885) hx hb dL_law_806 (by decide) (fun _ => ?_) (fun c_9 => absurd (by decide) c_9)
  refine lv_iinc (v := 9) (lv' := [(4, .int 9), (3, .ref o3), (2, .ref y0), (1, .ref x0), (0, .ref b)]) hx hb dL_law_885 hl (k := 0) rfl (by decide) (by decide) rfl (fun ls hl => ?_)
  refine lv_goto (tgt := 23) hx hb dL_law_888 (by decide) ?_
  refine lv_iload hx hb dL_law_23 (lv_at hl 0 rfl) ?_
  refine lv_aload_n hx hb dL_law_25 rfl (lv_at hl 4 rfl) ?_
  refine va_slen hx hb hX hbl hbA hS dL_law_26 ?_
  refine lv_topi (fun z_10 ez_10 => ?_)
  obtain rfl : z_10 = 9 := ez_10.trans (by decide)
  refine lv_bipush (v := 9) hx hb dL_law_27 (by decide) ?_
  refine lv_isub hx hb dL_law_29 ?_
  refine lv_topi (fun z_11 ez_11 => ?_)
  obtain rfl : z_11 = 0 := ez_11.trans (by decide)
  refine lv_icmp_gt (tgt := 891) hx hb dL_law_30 (by decide) (fun _ => ?_) (fun c_12 => absurd (by decide) c_12)
  refine lv_iconst (v := 1) hx hb dL_law_891 (by decide) ?_
  refine va_forget (fun q hq => hAi _ (hS.2.2 q hq)) ?_
  refine W.widen (k := 600002) (n := 7302232) (Nat.le_of_ble_eq_true rfl) (Nat.le_of_ble_eq_true rfl) ?_
  exact lw_ret hx hb hr hlocks dL_law_892

set_option maxHeartbeats 4000000 in
set_option maxRecDepth 100000 in
theorem law_case_13 {p : Program} {l : Launch} {e : Env} {s : State} {m : MethodId} {below : List Frame} {meth : Method} {c : Code} {b : Nat} {xs : Nat → Int32} {dC : Nat → ClassId} {dI : Nat → Nat → Nat} {A : Nat → Prop} (hl9 : l.stackTraces = false) (C0 : lw_At p s m meth c b 9 xs) (hA : ∀ q : Nat, s.heap.size ≤ q → A q) (hAi : ∀ q : Nat, A q → s.heap.size ≤ q) (hbA : ¬ A b) (hG : GE A s) (x0 : Nat) (a1 : Nat) (a2 : Nat) (a3 : Nat) (a4 : Nat) (a5 : Nat) (a6 : Nat) (a7 : Nat) (a8 : Nat) (mk1 : Nat) (mk2 : Nat) (mk3 : Nat) (mk4 : Nat) (mk5 : Nat) (y0 : Nat) (m0 : Nat) (m1 : Nat) (m2 : Nat) (m3 : Nat) (m4 : Nat) (m6 : Nat) (m7 : Nat) (m8 : Nat) (m9 : Nat) (m10 : Nat) (m11 : Nat) (m12 : Nat) (m13 : Nat) (m14 : Nat) (m15 : Nat) (m16 : Nat) (m17 : Nat) (m18 : Nat) (m19 : Nat) (m26 : Nat) (m27 : Nat) (m28 : Nat) (m29 : Nat) (m30 : Nat) (m31 : Nat) (m32 : Nat) (m33 : Nat) (m34 : Nat) (m35 : Nat) (m36 : Nat) (m37 : Nat) (m38 : Nat) (m39 : Nat) (m42 : Nat) (m43 : Nat) (m44 : Nat) (m45 : Nat) (m46 : Nat) (m47 : Nat) (m53 : Nat) (m54 : Nat) (m55 : Nat) (m56 : Nat) (m57 : Nat) (m58 : Nat) (m59 : Nat) (m60 : Nat) (m61 : Nat) (m62 : Nat) (m64 : Nat) (m65 : Nat) (m66 : Nat) (m67 : Nat) (m68 : Nat) (m69 : Nat) (m70 : Nat) (m71 : Nat) (m72 : Nat) (m73 : Nat) (m75 : Nat) (o3 : Nat) (H : Heap) (locs : List Loc) (ls : Array Slot) (hK : va_K (dC, dI) vwCl [] s) (hP : va_P (dC, dI) vwCl [(x0, .inr (11, [.ref a1, .ref a2, .ref a3, .ref a4, .ref a5, .ref a6, .ref a7, .ref a8, .int 0, .int 0, .int 0, .int (-1)])), (a8, .inr (5, [.ref a6, .ref a1, .ref a7, .ref mk1, .ref mk2, .int 0, .ref mk3, .int 0, .ref mk4, .ref mk5, .null, .int 0, .int (-1)])), (y0, .inr (12, [.ref m0, .ref m1, .ref m2, .ref m3, .ref m4, .int 0, .ref m6, .ref m7, .ref m8, .ref m9, .ref m10, .ref m11, .ref m12, .ref m13, .ref m14, .ref m15, .ref m16, .ref m17, .ref m18, .ref m19, .int 0, .int 0, .int 0, .int (-1), .int 0, .int 0, .ref m26, .ref m27, .ref m28, .ref m29, .ref m30, .ref m31, .ref m32, .ref m33, .ref m34, .ref m35, .ref m36, .ref m37, .ref m38, .ref m39, .int 0, .int 0, .ref m42, .ref m43, .ref m44, .ref m45, .ref m46, .ref m47, .int 0, .int 0, .int 0, .int 0, .int (-1), .ref m53, .ref m54, .ref m55, .ref m56, .ref m57, .ref m58, .ref m59, .ref m60, .ref m61, .ref m62, .int 0, .ref m64, .ref m65, .ref m66, .ref m67, .ref m68, .ref m69, .ref m70, .ref m71, .ref m72, .ref m73, .int 0, .ref m75, .int 0]))] H) (hD : va_D A [(x0, .inr (11, [.ref a1, .ref a2, .ref a3, .ref a4, .ref a5, .ref a6, .ref a7, .ref a8, .int 0, .int 0, .int 0, .int (-1)])), (a8, .inr (5, [.ref a6, .ref a1, .ref a7, .ref mk1, .ref mk2, .int 0, .ref mk3, .int 0, .ref mk4, .ref mk5, .null, .int 0, .int (-1)])), (y0, .inr (12, [.ref m0, .ref m1, .ref m2, .ref m3, .ref m4, .int 0, .ref m6, .ref m7, .ref m8, .ref m9, .ref m10, .ref m11, .ref m12, .ref m13, .ref m14, .ref m15, .ref m16, .ref m17, .ref m18, .ref m19, .int 0, .int 0, .int 0, .int (-1), .int 0, .int 0, .ref m26, .ref m27, .ref m28, .ref m29, .ref m30, .ref m31, .ref m32, .ref m33, .ref m34, .ref m35, .ref m36, .ref m37, .ref m38, .ref m39, .int 0, .int 0, .ref m42, .ref m43, .ref m44, .ref m45, .ref m46, .ref m47, .int 0, .int 0, .int 0, .int 0, .int (-1), .ref m53, .ref m54, .ref m55, .ref m56, .ref m57, .ref m58, .ref m59, .ref m60, .ref m61, .ref m62, .int 0, .ref m64, .ref m65, .ref m66, .ref m67, .ref m68, .ref m69, .ref m70, .ref m71, .ref m72, .ref m73, .int 0, .ref m75, .int 0]))]) (hS : va_S A s.heap H locs) (hl : lv_has ls 7 [(4, .int 0), (3, .ref o3), (2, .ref y0), (1, .ref x0), (0, .ref b)]) : W p l e room_1 s m #[Value.ref b] below meth c H locs 724 35019 (lw_Z below #[Value.ref b] s) (F0 m 811 ls []) := by
  obtain ⟨hx, hb, hr, hml, hown, hts, hX, hbl, hlocks, hgv⟩ := C0
  have hown : s.vm.findClass RL = some m.cls := hown
  have htb := fun (w : Cond) (h : w ∈ tb) => hts w (tb_in w h)
  refine lv_aload_n hx hb dL_law_811 rfl (lv_at hl 3 rfl) ?_
  refine lv_aload_n hx hb dL_law_812 rfl (lv_at hl 4 rfl) ?_
  refine lv_iload hx hb dL_law_813 (lv_at hl 0 rfl) ?_
  refine lv_iconst (v := 1) hx hb dL_law_815 (by decide) ?_
  refine lv_iadd hx hb dL_law_816 ?_
  refine lv_topi (fun z_1 ez_1 => ?_)
  obtain rfl : z_1 = 1 := ez_1.trans (by decide)
  refine va_sld hx hb hX hbl hbA hS (by unfold vp_in; decide) dL_law_817 ?_
  refine lv_topi (fun z_2 ez_2 => ?_)
  obtain rfl : z_2 = xs 1 := ez_2
  refine lv_aload_n hx hb dL_law_818 rfl (lv_at hl 4 rfl) ?_
  refine lv_iload hx hb dL_law_819 (lv_at hl 0 rfl) ?_
  refine lv_iconst (v := 2) hx hb dL_law_821 (by decide) ?_
  refine lv_iadd hx hb dL_law_822 ?_
  refine lv_topi (fun z_3 ez_3 => ?_)
  obtain rfl : z_3 = 2 := ez_3.trans (by decide)
  refine va_sld hx hb hX hbl hbA hS (by unfold vp_in; decide) dL_law_823 ?_
  refine lv_topi (fun z_4 ez_4 => ?_)
  obtain rfl : z_4 = xs 2 := ez_4
  have hPc := hP.sub (ws' := [(x0, .inr (11, [.ref a1, .ref a2, .ref a3, .ref a4, .ref a5, .ref a6, .ref a7, .ref a8, .int 0, .int 0, .int 0, .int (-1)])), (a8, .inr (5, [.ref a6, .ref a1, .ref a7, .ref mk1, .ref mk2, .int 0, .ref mk3, .int 0, .ref mk4, .ref mk5, .null, .int 0, .int (-1)]))]) [0, 1] rfl
  have hDc := hD.sub (ws' := [(x0, .inr (11, [.ref a1, .ref a2, .ref a3, .ref a4, .ref a5, .ref a6, .ref a7, .ref a8, .int 0, .int 0, .int 0, .int (-1)])), (a8, .inr (5, [.ref a6, .ref a1, .ref a7, .ref mk1, .ref mk2, .int 0, .ref mk3, .int 0, .ref mk4, .ref mk5, .null, .int 0, .int (-1)]))]) [0, 1] (by decide) rfl
  have hKc := hK.sub (tys' := []) [] rfl
  have hFc := va_free (wc := [(x0, .inr (11, [.ref a1, .ref a2, .ref a3, .ref a4, .ref a5, .ref a6, .ref a7, .ref a8, .int 0, .int 0, .int 0, .int (-1)])), (a8, .inr (5, [.ref a6, .ref a1, .ref a7, .ref mk1, .ref mk2, .int 0, .ref mk3, .int 0, .ref mk4, .ref mk5, .null, .int 0, .int (-1)]))]) hD hS hA [0, 1] rfl
  refine va_calli (va_runV (As := [.int (xs 1), .int (xs 2)]) (rest := []) ⟨hx, hb, hml, hown, htb⟩ (c_X12_object l dC dI H.size x0 (xs 1) (xs 2) a1 a2 a3 a4 a5 a6 a7 a8 mk1 mk2 mk3 mk4 mk5) (cwV 2 htb (gd_V kw_482 kw_483 kw_484 kw_49 kw_614) rfl rfl rfl (by decide +kernel) ⟨Nat.le_of_ble_eq_true rfl, Nat.le_of_ble_eq_true rfl⟩) ⟨fun a U g mk q => by obtain ⟨q0, q1, qP, qK, qD⟩ := q; exact ⟨q0, q1, qP, va_K.moved (u := U) (U := U.calling g mk a) (Vm.Alike.refl U.vm) qK, qD⟩, va_recv hKc hPc (ci := 11) (q0 := 0) rfl rfl, fun U hU hW => ⟨rfl, by rw [hU], by rw [hU]; exact hPc, va_K.moved hW.alike hKc, hDc.weaken (fun _ _ _ _ => trivial)⟩⟩ rfl rfl hl.1 rfl (lv_room (Nat.le_of_ble_eq_true rfl)) dL_law_824 ⟨(Nat.le_of_ble_eq_true rfl), (Nat.le_of_ble_eq_true rfl)⟩) hS (fun q _ h => hFc q h) hFc (fun r u t H1 locs ht hvm hw hB hz1 hk1 hS => ?_)
  subst hw
  obtain ⟨hP1, hK1, hD1⟩ := hB
  rw [ht] at hP1
  have hK1 := va_K.moved hvm.symm hK1
  obtain ⟨hP, hD⟩ := va_join (wr := [(y0, .inr (12, [.ref m0, .ref m1, .ref m2, .ref m3, .ref m4, .int 0, .ref m6, .ref m7, .ref m8, .ref m9, .ref m10, .ref m11, .ref m12, .ref m13, .ref m14, .ref m15, .ref m16, .ref m17, .ref m18, .ref m19, .int 0, .int 0, .int 0, .int (-1), .int 0, .int 0, .ref m26, .ref m27, .ref m28, .ref m29, .ref m30, .ref m31, .ref m32, .ref m33, .ref m34, .ref m35, .ref m36, .ref m37, .ref m38, .ref m39, .int 0, .int 0, .ref m42, .ref m43, .ref m44, .ref m45, .ref m46, .ref m47, .int 0, .int 0, .int 0, .int 0, .int (-1), .ref m53, .ref m54, .ref m55, .ref m56, .ref m57, .ref m58, .ref m59, .ref m60, .ref m61, .ref m62, .int 0, .ref m64, .ref m65, .ref m66, .ref m67, .ref m68, .ref m69, .ref m70, .ref m71, .ref m72, .ref m73, .int 0, .ref m75, .int 0]))]) (w1 := []) hP hD [0, 1] [2] rfl rfl (by decide) (by decide) hk1 hFc hP1 hD1
  have hK := hK.app hK1
  generalize H1 = H at hP hS ⊢
  have hP : va_P (dC, dI) vwCl [(y0, .inr (12, [.ref m0, .ref m1, .ref m2, .ref m3, .ref m4, .int 0, .ref m6, .ref m7, .ref m8, .ref m9, .ref m10, .ref m11, .ref m12, .ref m13, .ref m14, .ref m15, .ref m16, .ref m17, .ref m18, .ref m19, .int 0, .int 0, .int 0, .int (-1), .int 0, .int 0, .ref m26, .ref m27, .ref m28, .ref m29, .ref m30, .ref m31, .ref m32, .ref m33, .ref m34, .ref m35, .ref m36, .ref m37, .ref m38, .ref m39, .int 0, .int 0, .ref m42, .ref m43, .ref m44, .ref m45, .ref m46, .ref m47, .int 0, .int 0, .int 0, .int 0, .int (-1), .ref m53, .ref m54, .ref m55, .ref m56, .ref m57, .ref m58, .ref m59, .ref m60, .ref m61, .ref m62, .int 0, .ref m64, .ref m65, .ref m66, .ref m67, .ref m68, .ref m69, .ref m70, .ref m71, .ref m72, .ref m73, .int 0, .ref m75, .int 0]))] H := hP
  have hD : va_D A [(y0, .inr (12, [.ref m0, .ref m1, .ref m2, .ref m3, .ref m4, .int 0, .ref m6, .ref m7, .ref m8, .ref m9, .ref m10, .ref m11, .ref m12, .ref m13, .ref m14, .ref m15, .ref m16, .ref m17, .ref m18, .ref m19, .int 0, .int 0, .int 0, .int (-1), .int 0, .int 0, .ref m26, .ref m27, .ref m28, .ref m29, .ref m30, .ref m31, .ref m32, .ref m33, .ref m34, .ref m35, .ref m36, .ref m37, .ref m38, .ref m39, .int 0, .int 0, .ref m42, .ref m43, .ref m44, .ref m45, .ref m46, .ref m47, .int 0, .int 0, .int 0, .int 0, .int (-1), .ref m53, .ref m54, .ref m55, .ref m56, .ref m57, .ref m58, .ref m59, .ref m60, .ref m61, .ref m62, .int 0, .ref m64, .ref m65, .ref m66, .ref m67, .ref m68, .ref m69, .ref m70, .ref m71, .ref m72, .ref m73, .int 0, .ref m75, .int 0]))] := hD
  have hK : va_K (dC, dI) vwCl [] s := hK
  refine W.widen (k := 724) (n := 35019) (Nat.le_of_ble_eq_true rfl) (Nat.le_of_ble_eq_true rfl) ?_
  refine lv_aload_n hx hb dL_law_827 rfl (lv_at hl 2 rfl) ?_
  refine lv_aload_n hx hb dL_law_828 rfl (lv_at hl 4 rfl) ?_
  refine lv_iload hx hb dL_law_829 (lv_at hl 0 rfl) ?_
  refine lv_iconst (v := 1) hx hb dL_law_831 (by decide) ?_
  refine lv_iadd hx hb dL_law_832 ?_
  refine lv_topi (fun z_5 ez_5 => ?_)
  obtain rfl : z_5 = 1 := ez_5.trans (by decide)
  refine va_sld hx hb hX hbl hbA hS (by unfold vp_in; decide) dL_law_833 ?_
  refine lv_topi (fun z_6 ez_6 => ?_)
  obtain rfl : z_6 = xs 1 := ez_6
  refine lv_aload_n hx hb dL_law_834 rfl (lv_at hl 4 rfl) ?_
  refine lv_iload hx hb dL_law_835 (lv_at hl 0 rfl) ?_
  refine lv_iconst (v := 2) hx hb dL_law_837 (by decide) ?_
  refine lv_iadd hx hb dL_law_838 ?_
  refine lv_topi (fun z_7 ez_7 => ?_)
  obtain rfl : z_7 = 2 := ez_7.trans (by decide)
  refine va_sld hx hb hX hbl hbA hS (by unfold vp_in; decide) dL_law_839 ?_
  refine lv_topi (fun z_8 ez_8 => ?_)
  obtain rfl : z_8 = xs 2 := ez_8
  have hPc := hP.sub (ws' := [(y0, .inr (12, [.ref m0, .ref m1, .ref m2, .ref m3, .ref m4, .int 0, .ref m6, .ref m7, .ref m8, .ref m9, .ref m10, .ref m11, .ref m12, .ref m13, .ref m14, .ref m15, .ref m16, .ref m17, .ref m18, .ref m19, .int 0, .int 0, .int 0, .int (-1), .int 0, .int 0, .ref m26, .ref m27, .ref m28, .ref m29, .ref m30, .ref m31, .ref m32, .ref m33, .ref m34, .ref m35, .ref m36, .ref m37, .ref m38, .ref m39, .int 0, .int 0, .ref m42, .ref m43, .ref m44, .ref m45, .ref m46, .ref m47, .int 0, .int 0, .int 0, .int 0, .int (-1), .ref m53, .ref m54, .ref m55, .ref m56, .ref m57, .ref m58, .ref m59, .ref m60, .ref m61, .ref m62, .int 0, .ref m64, .ref m65, .ref m66, .ref m67, .ref m68, .ref m69, .ref m70, .ref m71, .ref m72, .ref m73, .int 0, .ref m75, .int 0]))]) [0] rfl
  have hDc := hD.sub (ws' := [(y0, .inr (12, [.ref m0, .ref m1, .ref m2, .ref m3, .ref m4, .int 0, .ref m6, .ref m7, .ref m8, .ref m9, .ref m10, .ref m11, .ref m12, .ref m13, .ref m14, .ref m15, .ref m16, .ref m17, .ref m18, .ref m19, .int 0, .int 0, .int 0, .int (-1), .int 0, .int 0, .ref m26, .ref m27, .ref m28, .ref m29, .ref m30, .ref m31, .ref m32, .ref m33, .ref m34, .ref m35, .ref m36, .ref m37, .ref m38, .ref m39, .int 0, .int 0, .ref m42, .ref m43, .ref m44, .ref m45, .ref m46, .ref m47, .int 0, .int 0, .int 0, .int 0, .int (-1), .ref m53, .ref m54, .ref m55, .ref m56, .ref m57, .ref m58, .ref m59, .ref m60, .ref m61, .ref m62, .int 0, .ref m64, .ref m65, .ref m66, .ref m67, .ref m68, .ref m69, .ref m70, .ref m71, .ref m72, .ref m73, .int 0, .ref m75, .int 0]))]) [0] (by decide) rfl
  have hKc := hK.sub (tys' := []) [] rfl
  have hFc := va_free (wc := [(y0, .inr (12, [.ref m0, .ref m1, .ref m2, .ref m3, .ref m4, .int 0, .ref m6, .ref m7, .ref m8, .ref m9, .ref m10, .ref m11, .ref m12, .ref m13, .ref m14, .ref m15, .ref m16, .ref m17, .ref m18, .ref m19, .int 0, .int 0, .int 0, .int (-1), .int 0, .int 0, .ref m26, .ref m27, .ref m28, .ref m29, .ref m30, .ref m31, .ref m32, .ref m33, .ref m34, .ref m35, .ref m36, .ref m37, .ref m38, .ref m39, .int 0, .int 0, .ref m42, .ref m43, .ref m44, .ref m45, .ref m46, .ref m47, .int 0, .int 0, .int 0, .int 0, .int (-1), .ref m53, .ref m54, .ref m55, .ref m56, .ref m57, .ref m58, .ref m59, .ref m60, .ref m61, .ref m62, .int 0, .ref m64, .ref m65, .ref m66, .ref m67, .ref m68, .ref m69, .ref m70, .ref m71, .ref m72, .ref m73, .int 0, .ref m75, .int 0]))]) hD hS hA [0] rfl
  refine va_calli (va_runV (As := [.int (xs 1), .int (xs 2)]) (rest := [.int (-1)]) ⟨hx, hb, hml, hown, htb⟩ (c_X13_object l dC dI H.size y0 (xs 1) (xs 2) m0 m1 m2 m3 m4 m6 m7 m8 m9 m10 m11 m12 m13 m14 m15 m16 m17 m18 m19 m26 m27 m28 m29 m30 m31 m32 m33 m34 m35 m36 m37 m38 m39 m42 m43 m44 m45 m46 m47 m53 m54 m55 m56 m57 m58 m59 m60 m61 m62 m64 m65 m66 m67 m68 m69 m70 m71 m72 m73 m75) (cwV 2 htb (gd_V kw_485 kw_486 kw_487 kw_345 kw_615) rfl rfl rfl (by decide +kernel) ⟨Nat.le_of_ble_eq_true rfl, Nat.le_of_ble_eq_true rfl⟩) ⟨fun a U g mk q => by obtain ⟨q0, q1, qP, qK, qD⟩ := q; exact ⟨q0, q1, qP, va_K.moved (u := U) (U := U.calling g mk a) (Vm.Alike.refl U.vm) qK, qD⟩, va_recv hKc hPc (ci := 12) (q0 := 0) rfl rfl, fun U hU hW => ⟨rfl, by rw [hU], by rw [hU]; exact hPc, va_K.moved hW.alike hKc, hDc.weaken (fun _ _ _ _ => trivial)⟩⟩ rfl rfl hl.1 rfl (lv_room (Nat.le_of_ble_eq_true rfl)) dL_law_840 ⟨(Nat.le_of_ble_eq_true rfl), (Nat.le_of_ble_eq_true rfl)⟩) hS (fun q _ h => hFc q h) hFc (fun r u t H1 locs ht hvm hw hB hz1 hk1 hS => ?_)
  subst hw
  obtain ⟨hP1, hK1, hD1⟩ := hB
  rw [ht] at hP1
  have hK1 := va_K.moved hvm.symm hK1
  obtain ⟨hP, hD⟩ := va_join (wr := []) (w1 := []) hP hD [0] [] rfl rfl (by decide) (by decide) hk1 hFc hP1 hD1
  have hK := hK.app hK1
  generalize H1 = H at hP hS ⊢
  have hP : va_P (dC, dI) vwCl [] H := hP
  have hD : va_D A [] := hD
  have hK : va_K (dC, dI) vwCl [] s := hK
  refine W.widen (k := 724) (n := 35019) (Nat.le_of_ble_eq_true rfl) (Nat.le_of_ble_eq_true rfl) ?_
  refine lv_icmp_eq (tgt := 885) hx hb dL_law_843 (by decide) (fun _ => ?_) (fun c_9 => absurd (by decide) c_9)
  refine lv_iinc (v := 9) (lv' := [(4, .int 9), (3, .ref o3), (2, .ref y0), (1, .ref x0), (0, .ref b)]) hx hb dL_law_885 hl (k := 0) rfl (by decide) (by decide) rfl (fun ls hl => ?_)
  refine lv_goto (tgt := 23) hx hb dL_law_888 (by decide) ?_
  refine lv_iload hx hb dL_law_23 (lv_at hl 0 rfl) ?_
  refine lv_aload_n hx hb dL_law_25 rfl (lv_at hl 4 rfl) ?_
  refine va_slen hx hb hX hbl hbA hS dL_law_26 ?_
  refine lv_topi (fun z_10 ez_10 => ?_)
  obtain rfl : z_10 = 9 := ez_10.trans (by decide)
  refine lv_bipush (v := 9) hx hb dL_law_27 (by decide) ?_
  refine lv_isub hx hb dL_law_29 ?_
  refine lv_topi (fun z_11 ez_11 => ?_)
  obtain rfl : z_11 = 0 := ez_11.trans (by decide)
  refine lv_icmp_gt (tgt := 891) hx hb dL_law_30 (by decide) (fun _ => ?_) (fun c_12 => absurd (by decide) c_12)
  refine lv_iconst (v := 1) hx hb dL_law_891 (by decide) ?_
  refine va_forget (fun q hq => hAi _ (hS.2.2 q hq)) ?_
  refine W.widen (k := 600002) (n := 7302232) (Nat.le_of_ble_eq_true rfl) (Nat.le_of_ble_eq_true rfl) ?_
  exact lw_ret hx hb hr hlocks dL_law_892

set_option maxHeartbeats 4000000 in
set_option maxRecDepth 100000 in
theorem law_case_14 {p : Program} {l : Launch} {e : Env} {s : State} {m : MethodId} {below : List Frame} {meth : Method} {c : Code} {b : Nat} {xs : Nat → Int32} {dC : Nat → ClassId} {dI : Nat → Nat → Nat} {A : Nat → Prop} (hl9 : l.stackTraces = false) (C0 : lw_At p s m meth c b 9 xs) (hA : ∀ q : Nat, s.heap.size ≤ q → A q) (hAi : ∀ q : Nat, A q → s.heap.size ≤ q) (hbA : ¬ A b) (hG : GE A s) (x0 : Nat) (a1 : Nat) (a2 : Nat) (a3 : Nat) (a4 : Nat) (a5 : Nat) (a6 : Nat) (a7 : Nat) (a8 : Nat) (wb : Nat) (wc : Nat) (y0 : Nat) (m0 : Nat) (m1 : Nat) (m2 : Nat) (m3 : Nat) (m4 : Nat) (m6 : Nat) (m7 : Nat) (m8 : Nat) (m9 : Nat) (m10 : Nat) (m11 : Nat) (m12 : Nat) (m13 : Nat) (m14 : Nat) (m15 : Nat) (m16 : Nat) (m17 : Nat) (m18 : Nat) (m19 : Nat) (m26 : Nat) (m27 : Nat) (m28 : Nat) (m29 : Nat) (m30 : Nat) (m31 : Nat) (m32 : Nat) (m33 : Nat) (m34 : Nat) (m35 : Nat) (m36 : Nat) (m37 : Nat) (m38 : Nat) (m39 : Nat) (m42 : Nat) (m43 : Nat) (m44 : Nat) (m45 : Nat) (m46 : Nat) (m47 : Nat) (m53 : Nat) (m54 : Nat) (m55 : Nat) (m56 : Nat) (m57 : Nat) (m58 : Nat) (m59 : Nat) (m60 : Nat) (m61 : Nat) (m62 : Nat) (m64 : Nat) (m65 : Nat) (m66 : Nat) (m67 : Nat) (m68 : Nat) (m69 : Nat) (m70 : Nat) (m71 : Nat) (m72 : Nat) (m73 : Nat) (m75 : Nat) (o3 : Nat) (H : Heap) (locs : List Loc) (ls : Array Slot) (hK : va_K (dC, dI) vwCl [] s) (hP : va_P (dC, dI) vwCl [(x0, .inr (11, [.ref a1, .ref a2, .ref a3, .ref a4, .ref a5, .ref a6, .ref a7, .ref a8, .int 0, .int 0, .int 0, .int (-1)])), (a6, .inr (10, [.ref a3, .ref wb, .ref wc, .int 0])), (y0, .inr (12, [.ref m0, .ref m1, .ref m2, .ref m3, .ref m4, .int 0, .ref m6, .ref m7, .ref m8, .ref m9, .ref m10, .ref m11, .ref m12, .ref m13, .ref m14, .ref m15, .ref m16, .ref m17, .ref m18, .ref m19, .int 0, .int 0, .int 0, .int (-1), .int 0, .int 0, .ref m26, .ref m27, .ref m28, .ref m29, .ref m30, .ref m31, .ref m32, .ref m33, .ref m34, .ref m35, .ref m36, .ref m37, .ref m38, .ref m39, .int 0, .int 0, .ref m42, .ref m43, .ref m44, .ref m45, .ref m46, .ref m47, .int 0, .int 0, .int 0, .int 0, .int (-1), .ref m53, .ref m54, .ref m55, .ref m56, .ref m57, .ref m58, .ref m59, .ref m60, .ref m61, .ref m62, .int 0, .ref m64, .ref m65, .ref m66, .ref m67, .ref m68, .ref m69, .ref m70, .ref m71, .ref m72, .ref m73, .int 0, .ref m75, .int 0]))] H) (hD : va_D A [(x0, .inr (11, [.ref a1, .ref a2, .ref a3, .ref a4, .ref a5, .ref a6, .ref a7, .ref a8, .int 0, .int 0, .int 0, .int (-1)])), (a6, .inr (10, [.ref a3, .ref wb, .ref wc, .int 0])), (y0, .inr (12, [.ref m0, .ref m1, .ref m2, .ref m3, .ref m4, .int 0, .ref m6, .ref m7, .ref m8, .ref m9, .ref m10, .ref m11, .ref m12, .ref m13, .ref m14, .ref m15, .ref m16, .ref m17, .ref m18, .ref m19, .int 0, .int 0, .int 0, .int (-1), .int 0, .int 0, .ref m26, .ref m27, .ref m28, .ref m29, .ref m30, .ref m31, .ref m32, .ref m33, .ref m34, .ref m35, .ref m36, .ref m37, .ref m38, .ref m39, .int 0, .int 0, .ref m42, .ref m43, .ref m44, .ref m45, .ref m46, .ref m47, .int 0, .int 0, .int 0, .int 0, .int (-1), .ref m53, .ref m54, .ref m55, .ref m56, .ref m57, .ref m58, .ref m59, .ref m60, .ref m61, .ref m62, .int 0, .ref m64, .ref m65, .ref m66, .ref m67, .ref m68, .ref m69, .ref m70, .ref m71, .ref m72, .ref m73, .int 0, .ref m75, .int 0]))]) (hS : va_S A s.heap H locs) (hl : lv_has ls 7 [(4, .int 0), (3, .ref o3), (2, .ref y0), (1, .ref x0), (0, .ref b)]) : W p l e room_1 s m #[Value.ref b] below meth c H locs 724 35019 (lw_Z below #[Value.ref b] s) (F0 m 848 ls []) := by
  obtain ⟨hx, hb, hr, hml, hown, hts, hX, hbl, hlocks, hgv⟩ := C0
  have hown : s.vm.findClass RL = some m.cls := hown
  have htb := fun (w : Cond) (h : w ∈ tb) => hts w (tb_in w h)
  refine lv_aload_n hx hb dL_law_848 rfl (lv_at hl 3 rfl) ?_
  refine lv_aload_n hx hb dL_law_849 rfl (lv_at hl 4 rfl) ?_
  refine lv_iload hx hb dL_law_850 (lv_at hl 0 rfl) ?_
  refine lv_iconst (v := 1) hx hb dL_law_852 (by decide) ?_
  refine lv_iadd hx hb dL_law_853 ?_
  refine lv_topi (fun z_1 ez_1 => ?_)
  obtain rfl : z_1 = 1 := ez_1.trans (by decide)
  refine va_sld hx hb hX hbl hbA hS (by unfold vp_in; decide) dL_law_854 ?_
  refine lv_topi (fun z_2 ez_2 => ?_)
  obtain rfl : z_2 = xs 1 := ez_2
  refine lv_aload_n hx hb dL_law_855 rfl (lv_at hl 4 rfl) ?_
  refine lv_iload hx hb dL_law_856 (lv_at hl 0 rfl) ?_
  refine lv_iconst (v := 2) hx hb dL_law_858 (by decide) ?_
  refine lv_iadd hx hb dL_law_859 ?_
  refine lv_topi (fun z_3 ez_3 => ?_)
  obtain rfl : z_3 = 2 := ez_3.trans (by decide)
  refine va_sld hx hb hX hbl hbA hS (by unfold vp_in; decide) dL_law_860 ?_
  refine lv_topi (fun z_4 ez_4 => ?_)
  obtain rfl : z_4 = xs 2 := ez_4
  have hPc := hP.sub (ws' := [(x0, .inr (11, [.ref a1, .ref a2, .ref a3, .ref a4, .ref a5, .ref a6, .ref a7, .ref a8, .int 0, .int 0, .int 0, .int (-1)])), (a6, .inr (10, [.ref a3, .ref wb, .ref wc, .int 0]))]) [0, 1] rfl
  have hDc := hD.sub (ws' := [(x0, .inr (11, [.ref a1, .ref a2, .ref a3, .ref a4, .ref a5, .ref a6, .ref a7, .ref a8, .int 0, .int 0, .int 0, .int (-1)])), (a6, .inr (10, [.ref a3, .ref wb, .ref wc, .int 0]))]) [0, 1] (by decide) rfl
  have hKc := hK.sub (tys' := []) [] rfl
  have hFc := va_free (wc := [(x0, .inr (11, [.ref a1, .ref a2, .ref a3, .ref a4, .ref a5, .ref a6, .ref a7, .ref a8, .int 0, .int 0, .int 0, .int (-1)])), (a6, .inr (10, [.ref a3, .ref wb, .ref wc, .int 0]))]) hD hS hA [0, 1] rfl
  refine va_calli (va_runV (As := [.int (xs 1), .int (xs 2)]) (rest := []) ⟨hx, hb, hml, hown, htb⟩ (c_X12_bean l dC dI H.size x0 (xs 1) (xs 2) a1 a2 a3 a4 a5 a6 a7 a8 wb wc) (cwV 2 htb (gd_V kw_488 kw_489 kw_490 kw_49 kw_616) rfl rfl rfl (by decide +kernel) ⟨Nat.le_of_ble_eq_true rfl, Nat.le_of_ble_eq_true rfl⟩) ⟨fun a U g mk q => by obtain ⟨q0, q1, qP, qK, qD⟩ := q; exact ⟨q0, q1, qP, va_K.moved (u := U) (U := U.calling g mk a) (Vm.Alike.refl U.vm) qK, qD⟩, va_recv hKc hPc (ci := 11) (q0 := 0) rfl rfl, fun U hU hW => ⟨rfl, by rw [hU], by rw [hU]; exact hPc, va_K.moved hW.alike hKc, hDc.weaken (fun _ _ _ _ => trivial)⟩⟩ rfl rfl hl.1 rfl (lv_room (Nat.le_of_ble_eq_true rfl)) dL_law_861 ⟨(Nat.le_of_ble_eq_true rfl), (Nat.le_of_ble_eq_true rfl)⟩) hS (fun q _ h => hFc q h) hFc (fun r u t H1 locs ht hvm hw hB hz1 hk1 hS => ?_)
  subst hw
  obtain ⟨hP1, hK1, hD1⟩ := hB
  rw [ht] at hP1
  have hK1 := va_K.moved hvm.symm hK1
  obtain ⟨hP, hD⟩ := va_join (wr := [(y0, .inr (12, [.ref m0, .ref m1, .ref m2, .ref m3, .ref m4, .int 0, .ref m6, .ref m7, .ref m8, .ref m9, .ref m10, .ref m11, .ref m12, .ref m13, .ref m14, .ref m15, .ref m16, .ref m17, .ref m18, .ref m19, .int 0, .int 0, .int 0, .int (-1), .int 0, .int 0, .ref m26, .ref m27, .ref m28, .ref m29, .ref m30, .ref m31, .ref m32, .ref m33, .ref m34, .ref m35, .ref m36, .ref m37, .ref m38, .ref m39, .int 0, .int 0, .ref m42, .ref m43, .ref m44, .ref m45, .ref m46, .ref m47, .int 0, .int 0, .int 0, .int 0, .int (-1), .ref m53, .ref m54, .ref m55, .ref m56, .ref m57, .ref m58, .ref m59, .ref m60, .ref m61, .ref m62, .int 0, .ref m64, .ref m65, .ref m66, .ref m67, .ref m68, .ref m69, .ref m70, .ref m71, .ref m72, .ref m73, .int 0, .ref m75, .int 0]))]) (w1 := []) hP hD [0, 1] [2] rfl rfl (by decide) (by decide) hk1 hFc hP1 hD1
  have hK := hK.app hK1
  generalize H1 = H at hP hS ⊢
  have hP : va_P (dC, dI) vwCl [(y0, .inr (12, [.ref m0, .ref m1, .ref m2, .ref m3, .ref m4, .int 0, .ref m6, .ref m7, .ref m8, .ref m9, .ref m10, .ref m11, .ref m12, .ref m13, .ref m14, .ref m15, .ref m16, .ref m17, .ref m18, .ref m19, .int 0, .int 0, .int 0, .int (-1), .int 0, .int 0, .ref m26, .ref m27, .ref m28, .ref m29, .ref m30, .ref m31, .ref m32, .ref m33, .ref m34, .ref m35, .ref m36, .ref m37, .ref m38, .ref m39, .int 0, .int 0, .ref m42, .ref m43, .ref m44, .ref m45, .ref m46, .ref m47, .int 0, .int 0, .int 0, .int 0, .int (-1), .ref m53, .ref m54, .ref m55, .ref m56, .ref m57, .ref m58, .ref m59, .ref m60, .ref m61, .ref m62, .int 0, .ref m64, .ref m65, .ref m66, .ref m67, .ref m68, .ref m69, .ref m70, .ref m71, .ref m72, .ref m73, .int 0, .ref m75, .int 0]))] H := hP
  have hD : va_D A [(y0, .inr (12, [.ref m0, .ref m1, .ref m2, .ref m3, .ref m4, .int 0, .ref m6, .ref m7, .ref m8, .ref m9, .ref m10, .ref m11, .ref m12, .ref m13, .ref m14, .ref m15, .ref m16, .ref m17, .ref m18, .ref m19, .int 0, .int 0, .int 0, .int (-1), .int 0, .int 0, .ref m26, .ref m27, .ref m28, .ref m29, .ref m30, .ref m31, .ref m32, .ref m33, .ref m34, .ref m35, .ref m36, .ref m37, .ref m38, .ref m39, .int 0, .int 0, .ref m42, .ref m43, .ref m44, .ref m45, .ref m46, .ref m47, .int 0, .int 0, .int 0, .int 0, .int (-1), .ref m53, .ref m54, .ref m55, .ref m56, .ref m57, .ref m58, .ref m59, .ref m60, .ref m61, .ref m62, .int 0, .ref m64, .ref m65, .ref m66, .ref m67, .ref m68, .ref m69, .ref m70, .ref m71, .ref m72, .ref m73, .int 0, .ref m75, .int 0]))] := hD
  have hK : va_K (dC, dI) vwCl [] s := hK
  refine W.widen (k := 724) (n := 35019) (Nat.le_of_ble_eq_true rfl) (Nat.le_of_ble_eq_true rfl) ?_
  refine lv_aload_n hx hb dL_law_864 rfl (lv_at hl 2 rfl) ?_
  refine lv_aload_n hx hb dL_law_865 rfl (lv_at hl 4 rfl) ?_
  refine lv_iload hx hb dL_law_866 (lv_at hl 0 rfl) ?_
  refine lv_iconst (v := 1) hx hb dL_law_868 (by decide) ?_
  refine lv_iadd hx hb dL_law_869 ?_
  refine lv_topi (fun z_5 ez_5 => ?_)
  obtain rfl : z_5 = 1 := ez_5.trans (by decide)
  refine va_sld hx hb hX hbl hbA hS (by unfold vp_in; decide) dL_law_870 ?_
  refine lv_topi (fun z_6 ez_6 => ?_)
  obtain rfl : z_6 = xs 1 := ez_6
  refine lv_aload_n hx hb dL_law_871 rfl (lv_at hl 4 rfl) ?_
  refine lv_iload hx hb dL_law_872 (lv_at hl 0 rfl) ?_
  refine lv_iconst (v := 2) hx hb dL_law_874 (by decide) ?_
  refine lv_iadd hx hb dL_law_875 ?_
  refine lv_topi (fun z_7 ez_7 => ?_)
  obtain rfl : z_7 = 2 := ez_7.trans (by decide)
  refine va_sld hx hb hX hbl hbA hS (by unfold vp_in; decide) dL_law_876 ?_
  refine lv_topi (fun z_8 ez_8 => ?_)
  obtain rfl : z_8 = xs 2 := ez_8
  have hPc := hP.sub (ws' := [(y0, .inr (12, [.ref m0, .ref m1, .ref m2, .ref m3, .ref m4, .int 0, .ref m6, .ref m7, .ref m8, .ref m9, .ref m10, .ref m11, .ref m12, .ref m13, .ref m14, .ref m15, .ref m16, .ref m17, .ref m18, .ref m19, .int 0, .int 0, .int 0, .int (-1), .int 0, .int 0, .ref m26, .ref m27, .ref m28, .ref m29, .ref m30, .ref m31, .ref m32, .ref m33, .ref m34, .ref m35, .ref m36, .ref m37, .ref m38, .ref m39, .int 0, .int 0, .ref m42, .ref m43, .ref m44, .ref m45, .ref m46, .ref m47, .int 0, .int 0, .int 0, .int 0, .int (-1), .ref m53, .ref m54, .ref m55, .ref m56, .ref m57, .ref m58, .ref m59, .ref m60, .ref m61, .ref m62, .int 0, .ref m64, .ref m65, .ref m66, .ref m67, .ref m68, .ref m69, .ref m70, .ref m71, .ref m72, .ref m73, .int 0, .ref m75, .int 0]))]) [0] rfl
  have hDc := hD.sub (ws' := [(y0, .inr (12, [.ref m0, .ref m1, .ref m2, .ref m3, .ref m4, .int 0, .ref m6, .ref m7, .ref m8, .ref m9, .ref m10, .ref m11, .ref m12, .ref m13, .ref m14, .ref m15, .ref m16, .ref m17, .ref m18, .ref m19, .int 0, .int 0, .int 0, .int (-1), .int 0, .int 0, .ref m26, .ref m27, .ref m28, .ref m29, .ref m30, .ref m31, .ref m32, .ref m33, .ref m34, .ref m35, .ref m36, .ref m37, .ref m38, .ref m39, .int 0, .int 0, .ref m42, .ref m43, .ref m44, .ref m45, .ref m46, .ref m47, .int 0, .int 0, .int 0, .int 0, .int (-1), .ref m53, .ref m54, .ref m55, .ref m56, .ref m57, .ref m58, .ref m59, .ref m60, .ref m61, .ref m62, .int 0, .ref m64, .ref m65, .ref m66, .ref m67, .ref m68, .ref m69, .ref m70, .ref m71, .ref m72, .ref m73, .int 0, .ref m75, .int 0]))]) [0] (by decide) rfl
  have hKc := hK.sub (tys' := []) [] rfl
  have hFc := va_free (wc := [(y0, .inr (12, [.ref m0, .ref m1, .ref m2, .ref m3, .ref m4, .int 0, .ref m6, .ref m7, .ref m8, .ref m9, .ref m10, .ref m11, .ref m12, .ref m13, .ref m14, .ref m15, .ref m16, .ref m17, .ref m18, .ref m19, .int 0, .int 0, .int 0, .int (-1), .int 0, .int 0, .ref m26, .ref m27, .ref m28, .ref m29, .ref m30, .ref m31, .ref m32, .ref m33, .ref m34, .ref m35, .ref m36, .ref m37, .ref m38, .ref m39, .int 0, .int 0, .ref m42, .ref m43, .ref m44, .ref m45, .ref m46, .ref m47, .int 0, .int 0, .int 0, .int 0, .int (-1), .ref m53, .ref m54, .ref m55, .ref m56, .ref m57, .ref m58, .ref m59, .ref m60, .ref m61, .ref m62, .int 0, .ref m64, .ref m65, .ref m66, .ref m67, .ref m68, .ref m69, .ref m70, .ref m71, .ref m72, .ref m73, .int 0, .ref m75, .int 0]))]) hD hS hA [0] rfl
  refine va_calli (va_runV (As := [.int (xs 1), .int (xs 2)]) (rest := [.int (-1)]) ⟨hx, hb, hml, hown, htb⟩ (c_X13_bean l dC dI H.size y0 (xs 1) (xs 2) m0 m1 m2 m3 m4 m6 m7 m8 m9 m10 m11 m12 m13 m14 m15 m16 m17 m18 m19 m26 m27 m28 m29 m30 m31 m32 m33 m34 m35 m36 m37 m38 m39 m42 m43 m44 m45 m46 m47 m53 m54 m55 m56 m57 m58 m59 m60 m61 m62 m64 m65 m66 m67 m68 m69 m70 m71 m72 m73 m75) (cwV 2 htb (gd_V kw_491 kw_492 kw_493 kw_345 kw_617) rfl rfl rfl (by decide +kernel) ⟨Nat.le_of_ble_eq_true rfl, Nat.le_of_ble_eq_true rfl⟩) ⟨fun a U g mk q => by obtain ⟨q0, q1, qP, qK, qD⟩ := q; exact ⟨q0, q1, qP, va_K.moved (u := U) (U := U.calling g mk a) (Vm.Alike.refl U.vm) qK, qD⟩, va_recv hKc hPc (ci := 12) (q0 := 0) rfl rfl, fun U hU hW => ⟨rfl, by rw [hU], by rw [hU]; exact hPc, va_K.moved hW.alike hKc, hDc.weaken (fun _ _ _ _ => trivial)⟩⟩ rfl rfl hl.1 rfl (lv_room (Nat.le_of_ble_eq_true rfl)) dL_law_877 ⟨(Nat.le_of_ble_eq_true rfl), (Nat.le_of_ble_eq_true rfl)⟩) hS (fun q _ h => hFc q h) hFc (fun r u t H1 locs ht hvm hw hB hz1 hk1 hS => ?_)
  subst hw
  obtain ⟨hP1, hK1, hD1⟩ := hB
  rw [ht] at hP1
  have hK1 := va_K.moved hvm.symm hK1
  obtain ⟨hP, hD⟩ := va_join (wr := []) (w1 := []) hP hD [0] [] rfl rfl (by decide) (by decide) hk1 hFc hP1 hD1
  have hK := hK.app hK1
  generalize H1 = H at hP hS ⊢
  have hP : va_P (dC, dI) vwCl [] H := hP
  have hD : va_D A [] := hD
  have hK : va_K (dC, dI) vwCl [] s := hK
  refine W.widen (k := 724) (n := 35019) (Nat.le_of_ble_eq_true rfl) (Nat.le_of_ble_eq_true rfl) ?_
  refine lv_icmp_eq (tgt := 885) hx hb dL_law_880 (by decide) (fun _ => ?_) (fun c_9 => absurd (by decide) c_9)
  refine lv_iinc (v := 9) (lv' := [(4, .int 9), (3, .ref o3), (2, .ref y0), (1, .ref x0), (0, .ref b)]) hx hb dL_law_885 hl (k := 0) rfl (by decide) (by decide) rfl (fun ls hl => ?_)
  refine lv_goto (tgt := 23) hx hb dL_law_888 (by decide) ?_
  refine lv_iload hx hb dL_law_23 (lv_at hl 0 rfl) ?_
  refine lv_aload_n hx hb dL_law_25 rfl (lv_at hl 4 rfl) ?_
  refine va_slen hx hb hX hbl hbA hS dL_law_26 ?_
  refine lv_topi (fun z_10 ez_10 => ?_)
  obtain rfl : z_10 = 9 := ez_10.trans (by decide)
  refine lv_bipush (v := 9) hx hb dL_law_27 (by decide) ?_
  refine lv_isub hx hb dL_law_29 ?_
  refine lv_topi (fun z_11 ez_11 => ?_)
  obtain rfl : z_11 = 0 := ez_11.trans (by decide)
  refine lv_icmp_gt (tgt := 891) hx hb dL_law_30 (by decide) (fun _ => ?_) (fun c_12 => absurd (by decide) c_12)
  refine lv_iconst (v := 1) hx hb dL_law_891 (by decide) ?_
  refine va_forget (fun q hq => hAi _ (hS.2.2 q hq)) ?_
  refine W.widen (k := 600002) (n := 7302232) (Nat.le_of_ble_eq_true rfl) (Nat.le_of_ble_eq_true rfl) ?_
  exact lw_ret hx hb hr hlocks dL_law_892
