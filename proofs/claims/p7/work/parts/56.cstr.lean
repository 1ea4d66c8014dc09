theorem dJ0_coder_7d493_0 : decode cJ0_coder_7d493 0 = .ok (.getstatic 38, 3) := by decide +kernel
theorem dJ0_coder_7d493_3 : decode cJ0_coder_7d493 3 = .ok (.ifCond .eq 10, 3) := by decide +kernel
theorem dJ0_coder_7d493_6 : decode cJ0_coder_7d493 6 = .ok (.aload_n 0, 1) := by decide +kernel
theorem dJ0_coder_7d493_7 : decode cJ0_coder_7d493 7 = .ok (.getfield 15, 3) := by decide +kernel
theorem dJ0_coder_7d493_10 : decode cJ0_coder_7d493 10 = .ok (.goto 4, 3) := by decide +kernel
theorem dJ0_coder_7d493_13 : decode cJ0_coder_7d493 13 = .ok (.iconst 1, 1) := by decide +kernel
theorem dJ0_coder_7d493_14 : decode cJ0_coder_7d493 14 = .ok (.ireturn, 1) := by decide +kernel
theorem dJ0_isLatin1_aae02_0 : decode cJ0_isLatin1_aae02 0 = .ok (.getstatic 38, 3) := by decide +kernel
theorem dJ0_isLatin1_aae02_3 : decode cJ0_isLatin1_aae02 3 = .ok (.ifCond .eq 14, 3) := by decide +kernel
theorem dJ0_isLatin1_aae02_6 : decode cJ0_isLatin1_aae02 6 = .ok (.aload_n 0, 1) := by decide +kernel
theorem dJ0_isLatin1_aae02_7 : decode cJ0_isLatin1_aae02 7 = .ok (.getfield 15, 3) := by decide +kernel
theorem dJ0_isLatin1_aae02_10 : decode cJ0_isLatin1_aae02 10 = .ok (.ifCond .ne 7, 3) := by decide +kernel
theorem dJ0_isLatin1_aae02_13 : decode cJ0_isLatin1_aae02 13 = .ok (.iconst 1, 1) := by decide +kernel
theorem dJ0_isLatin1_aae02_14 : decode cJ0_isLatin1_aae02 14 = .ok (.goto 4, 3) := by decide +kernel
theorem dJ0_isLatin1_aae02_17 : decode cJ0_isLatin1_aae02 17 = .ok (.iconst 0, 1) := by decide +kernel
theorem dJ0_isLatin1_aae02_18 : decode cJ0_isLatin1_aae02 18 = .ok (.ireturn, 1) := by decide +kernel
theorem dJ0_length_8abf5_0 : decode cJ0_length_8abf5 0 = .ok (.aload_n 0, 1) := by decide +kernel
theorem dJ0_length_8abf5_1 : decode cJ0_length_8abf5 1 = .ok (.getfield 9, 3) := by decide +kernel
theorem dJ0_length_8abf5_4 : decode cJ0_length_8abf5 4 = .ok (.arraylength, 1) := by decide +kernel
theorem dJ0_length_8abf5_5 : decode cJ0_length_8abf5 5 = .ok (.aload_n 0, 1) := by decide +kernel
theorem dJ0_length_8abf5_6 : decode cJ0_length_8abf5 6 = .ok (.invokevirtual 335, 3) := by decide +kernel
theorem dJ0_length_8abf5_9 : decode cJ0_length_8abf5 9 = .ok (.ishr, 1) := by decide +kernel
theorem dJ0_length_8abf5_10 : decode cJ0_length_8abf5 10 = .ok (.ireturn, 1) := by decide +kernel
theorem dJ3_checkIndex_8e157_0 : decode cJ3_checkIndex_8e157 0 = .ok (.iload_n 0, 1) := by decide +kernel
theorem dJ3_checkIndex_8e157_1 : decode cJ3_checkIndex_8e157 1 = .ok (.ifCond .lt 8, 3) := by decide +kernel
theorem dJ3_checkIndex_8e157_4 : decode cJ3_checkIndex_8e157 4 = .ok (.iload_n 0, 1) := by decide +kernel
theorem dJ3_checkIndex_8e157_5 : decode cJ3_checkIndex_8e157 5 = .ok (.iload_n 1, 1) := by decide +kernel
theorem dJ3_checkIndex_8e157_6 : decode cJ3_checkIndex_8e157 6 = .ok (.if_icmp .lt 10, 3) := by decide +kernel
theorem dJ3_checkIndex_8e157_9 : decode cJ3_checkIndex_8e157 9 = .ok (.aload_n 2, 1) := by decide +kernel
theorem dJ3_checkIndex_8e157_10 : decode cJ3_checkIndex_8e157 10 = .ok (.iload_n 0, 1) := by decide +kernel
theorem dJ3_checkIndex_8e157_11 : decode cJ3_checkIndex_8e157 11 = .ok (.iload_n 1, 1) := by decide +kernel
theorem dJ3_checkIndex_8e157_12 : decode cJ3_checkIndex_8e157 12 = .ok (.invokestatic 95, 3) := by decide +kernel
theorem dJ3_checkIndex_8e157_15 : decode cJ3_checkIndex_8e157 15 = .ok (.athrow, 1) := by decide +kernel
theorem dJ3_checkIndex_8e157_16 : decode cJ3_checkIndex_8e157 16 = .ok (.iload_n 0, 1) := by decide +kernel
theorem dJ3_checkIndex_8e157_17 : decode cJ3_checkIndex_8e157 17 = .ok (.ireturn, 1) := by decide +kernel
theorem dJ0_checkIndex_df160_0 : decode cJ0_checkIndex_df160 0 = .ok (.iload_n 0, 1) := by decide +kernel
theorem dJ0_checkIndex_df160_1 : decode cJ0_checkIndex_df160 1 = .ok (.iload_n 1, 1) := by decide +kernel
theorem dJ0_checkIndex_df160_2 : decode cJ0_checkIndex_df160 2 = .ok (.getstatic 1053, 3) := by decide +kernel
theorem dJ0_checkIndex_df160_5 : decode cJ0_checkIndex_df160 5 = .ok (.invokestatic 1059, 3) := by decide +kernel
theorem dJ0_checkIndex_df160_8 : decode cJ0_checkIndex_df160 8 = .ok (.pop, 1) := by decide +kernel
theorem dJ0_checkIndex_df160_9 : decode cJ0_checkIndex_df160 9 = .ok (.return_, 1) := by decide +kernel
theorem dJ1_charAt_3b067_0 : decode cJ1_charAt_3b067 0 = .ok (.iload_n 1, 1) := by decide +kernel
theorem dJ1_charAt_3b067_1 : decode cJ1_charAt_3b067 1 = .ok (.aload_n 0, 1) := by decide +kernel
theorem dJ1_charAt_3b067_2 : decode cJ1_charAt_3b067 2 = .ok (.arraylength, 1) := by decide +kernel
theorem dJ1_charAt_3b067_3 : decode cJ1_charAt_3b067 3 = .ok (.invokestatic 9, 3) := by decide +kernel
theorem dJ1_charAt_3b067_6 : decode cJ1_charAt_3b067 6 = .ok (.aload_n 0, 1) := by decide +kernel
theorem dJ1_charAt_3b067_7 : decode cJ1_charAt_3b067 7 = .ok (.iload_n 1, 1) := by decide +kernel
theorem dJ1_charAt_3b067_8 : decode cJ1_charAt_3b067 8 = .ok (.baload, 1) := by decide +kernel
theorem dJ1_charAt_3b067_9 : decode cJ1_charAt_3b067 9 = .ok (.sipush 255, 3) := by decide +kernel
theorem dJ1_charAt_3b067_12 : decode cJ1_charAt_3b067 12 = .ok (.iand, 1) := by decide +kernel
theorem dJ1_charAt_3b067_13 : decode cJ1_charAt_3b067 13 = .ok (.i2c, 1) := by decide +kernel
theorem dJ1_charAt_3b067_14 : decode cJ1_charAt_3b067 14 = .ok (.ireturn, 1) := by decide +kernel
theorem dJ0_charAt_5068e_0 : decode cJ0_charAt_5068e 0 = .ok (.aload_n 0, 1) := by decide +kernel
theorem dJ0_charAt_5068e_1 : decode cJ0_charAt_5068e 1 = .ok (.invokevirtual 492, 3) := by decide +kernel
theorem dJ0_charAt_5068e_4 : decode cJ0_charAt_5068e 4 = .ok (.ifCond .eq 12, 3) := by decide +kernel
theorem dJ0_charAt_5068e_7 : decode cJ0_charAt_5068e 7 = .ok (.aload_n 0, 1) := by decide +kernel
theorem dJ0_charAt_5068e_8 : decode cJ0_charAt_5068e 8 = .ok (.getfield 9, 3) := by decide +kernel
theorem dJ0_charAt_5068e_11 : decode cJ0_charAt_5068e 11 = .ok (.iload_n 1, 1) := by decide +kernel
theorem dJ0_charAt_5068e_12 : decode cJ0_charAt_5068e 12 = .ok (.invokestatic 495, 3) := by decide +kernel
theorem dJ0_charAt_5068e_15 : decode cJ0_charAt_5068e 15 = .ok (.ireturn, 1) := by decide +kernel
theorem dJ0_charAt_5068e_16 : decode cJ0_charAt_5068e 16 = .ok (.aload_n 0, 1) := by decide +kernel
theorem dJ0_charAt_5068e_17 : decode cJ0_charAt_5068e 17 = .ok (.getfield 9, 3) := by decide +kernel
theorem dJ0_charAt_5068e_20 : decode cJ0_charAt_5068e 20 = .ok (.iload_n 1, 1) := by decide +kernel
theorem dJ0_charAt_5068e_21 : decode cJ0_charAt_5068e 21 = .ok (.invokestatic 498, 3) := by decide +kernel
theorem dJ0_charAt_5068e_24 : decode cJ0_charAt_5068e 24 = .ok (.ireturn, 1) := by decide +kernel
theorem SQ.call {q v n : Nat} {f : Nat → Int32} {A : Nat → Prop} {U : State} (g : JFrame) (mk : MethodId) (a : Array Value) (h : SQ q v n f A U U.heap) : SQ q v n f A (U.calling g mk a) (U.calling g mk a).heap := SQ.moved (u := U) (U := U.calling g mk a) (Vm.Alike.refl U.vm) h
/-- what a method on a text meets -/
def SP (q v n : Nat) (f : Nat → Int32) (B : Nat → Prop) (sz : Nat) (U : State) : Prop := U.heap.size = sz ∧ SQ q v n f B U U.heap ∧ ∀ x, sz ≤ x → B x
theorem SP_blind {as : List Value} {q v n : Nat} {f : Nat → Int32} {B : Nat → Prop} {sz : Nat} : FrameBlind (va_Pc as (SP q v n f B sz)) := fun a U g mk z => ⟨z.1, z.2.1, SQ.call g mk a z.2.2.1, z.2.2.2⟩
theorem S_B {B : Nat → Prop} {H0 H : Heap} {locs : List Loc} (hS : va_S (fun x => H0.size ≤ x) H0 H locs) (hB : ∀ x, H0.size ≤ x → B x) : va_S B H0 H locs := ⟨hS.1, fun q h1 h2 => hS.2.1 q h1 (fun z => h2 (hB q z)), fun z hz => hB _ (hS.2.2 z hz)⟩
theorem S_z {B : Nat → Prop} {H0 H : Heap} {locs : List Loc} (hS : va_S (fun x => H0.size ≤ x) H0 H locs) (hB : ∀ x, H0.size ≤ x → B x) : ∀ x, H.size ≤ x → B x := fun x h => hB x (Nat.le_trans hS.1 h)
theorem va_Orc {E : String} {q : Nat} {A : Nat → Prop} {s : State} {H : Heap} {locs : List Loc} (h : va_O E q A s s.heap) (hS : va_S A s.heap H locs) : ∃ cell : Cell, H[q]? = some cell ∧ cell.vm.isStatics = false ∧ s.vm.findClass E = some cell.cls := by
  obtain ⟨cell, h1, h2, h3, _⟩ := h.kept hS.2.1
  exact ⟨cell, h1, h2, h3⟩

set_option maxHeartbeats 4000000 in
set_option maxRecDepth 100000 in
theorem k_coder (l : Launch) (q v n : Nat) (f : Nat → Int32) (B : Nat → Prop) (sz : Nat) : Met l yJ0_coder_7d493 wm_J0_coder_7d493 ({ frames := 0, cells := 0, slots := 0, locals := 0 }) (va_Pc [.ref q] (SP q v n f B sz)) (va_Qi (fun (r : Int32) (_ : Unit) => r = 0) (fun _ _ => True) (fun x => sz ≤ x)) 0 0 (fun x => sz ≤ x) := by
  refine Met.ofW (cc := cJ0_coder_7d493) (maxL := 1) (ret := (some .byte)) (by decide) rfl ?_
  intro p e s m args below meth c s₁ B9 hml hv
  obtain ⟨rfl, hsz, hQ, hB⟩ := hv
  have hx := B9.exec
  have hb := B9.bytes
  have hr := B9.returns
  have hts := atoms_spec (ws := wm_J0_coder_7d493) B9.pre
  have htb := fun (w : Cond) (h : w ∈ tb) => hts w (List.mem_cons_of_mem _ h)
  have hown : s.vm.findClass RJ0 = some m.cls := findClass_of_methodNamed B9.named
  have hlocks := B9.notSynchronized
  subst hsz
  have hS : va_S (fun x => s.heap.size ≤ x) s.heap s.heap [] := va_S.rf
  have hl := lv_entry ([.ref q]) (n := 1) (Nat.le_of_ble_eq_true rfl)
  rw [lg_entry_eq]
  generalize (lg_sl ([.ref q]) ++ List.replicate (1 - (lg_sl ([.ref q])).length) Slot.unset).toArray = ls at hl ⊢
  have hl : lv_has ls 1 [(0, .ref q)] := hl
  refine va_gets hx hb hQ.2.2.2.2.1 (S_B hS hB) hown (htb _ kw_439) (fun _ h9 => h9) dJ0_coder_7d493_0 ?_
  refine lv_if_eq (tgt := 13) hx hb dJ0_coder_7d493_3 (by decide) (fun c1 => absurd c1 (by decide)) (fun _ => ?_)
  refine lv_aload_n hx hb dJ0_coder_7d493_6 rfl (lv_at hl 0 rfl) ?_
  refine vk_getf hx hb hQ.2.1 (S_B hS hB) hown (htb _ kw_440) (fun _ h9 => h9) dJ0_coder_7d493_7 ?_
  refine lv_goto (tgt := 14) hx hb dJ0_coder_7d493_10 (by decide) ?_
  exact W.zret (v := 0) hx hb hr rfl (fun t ht hW => ⟨⟨0, (), rfl, rfl, trivial⟩, hS.F ht⟩) hS.2.2 dJ0_coder_7d493_14

set_option maxHeartbeats 4000000 in
set_option maxRecDepth 100000 in
theorem k_isLatin1 (l : Launch) (q v n : Nat) (f : Nat → Int32) (B : Nat → Prop) (sz : Nat) : Met l yJ0_isLatin1_aae02 wm_J0_isLatin1_aae02 ({ frames := 0, cells := 0, slots := 0, locals := 0 }) (va_Pc [.ref q] (SP q v n f B sz)) (va_Qi (fun (r : Int32) (_ : Unit) => r = 1) (fun _ _ => True) (fun x => sz ≤ x)) 0 0 (fun x => sz ≤ x) := by
  refine Met.ofW (cc := cJ0_isLatin1_aae02) (maxL := 1) (ret := (some .boolean)) (by decide) rfl ?_
  intro p e s m args below meth c s₁ B9 hml hv
  obtain ⟨rfl, hsz, hQ, hB⟩ := hv
  have hx := B9.exec
  have hb := B9.bytes
  have hr := B9.returns
  have hts := atoms_spec (ws := wm_J0_isLatin1_aae02) B9.pre
  have htb := fun (w : Cond) (h : w ∈ tb) => hts w (List.mem_cons_of_mem _ h)
  have hown : s.vm.findClass RJ0 = some m.cls := findClass_of_methodNamed B9.named
  have hlocks := B9.notSynchronized
  subst hsz
  have hS : va_S (fun x => s.heap.size ≤ x) s.heap s.heap [] := va_S.rf
  have hl := lv_entry ([.ref q]) (n := 1) (Nat.le_of_ble_eq_true rfl)
  rw [lg_entry_eq]
  generalize (lg_sl ([.ref q]) ++ List.replicate (1 - (lg_sl ([.ref q])).length) Slot.unset).toArray = ls at hl ⊢
  have hl : lv_has ls 1 [(0, .ref q)] := hl
  refine va_gets hx hb hQ.2.2.2.2.1 (S_B hS hB) hown (htb _ kw_439) (fun _ h9 => h9) dJ0_isLatin1_aae02_0 ?_
  refine lv_if_eq (tgt := 17) hx hb dJ0_isLatin1_aae02_3 (by decide) (fun c1 => absurd c1 (by decide)) (fun _ => ?_)
  refine lv_aload_n hx hb dJ0_isLatin1_aae02_6 rfl (lv_at hl 0 rfl) ?_
  refine vk_getf hx hb hQ.2.1 (S_B hS hB) hown (htb _ kw_440) (fun _ h9 => h9) dJ0_isLatin1_aae02_7 ?_
  refine lv_if_ne (tgt := 17) hx hb dJ0_isLatin1_aae02_10 (by decide) (fun c1 => absurd rfl c1) (fun _ => ?_)
  refine lv_iconst (v := 1) hx hb dJ0_isLatin1_aae02_13 (by decide) ?_
  refine lv_goto (tgt := 18) hx hb dJ0_isLatin1_aae02_14 (by decide) ?_
  exact W.zret (v := 1) hx hb hr rfl (fun t ht hW => ⟨⟨1, (), rfl, rfl, trivial⟩, hS.F ht⟩) hS.2.2 dJ0_isLatin1_aae02_18

set_option maxHeartbeats 4000000 in
set_option maxRecDepth 100000 in
theorem k_slen (l : Launch) (q v n : Nat) (f : Nat → Int32) (B : Nat → Prop) (sz : Nat) : Met l yJ0_length_8abf5 wm_J0_length_8abf5 ({ frames := 1, cells := 0, slots := 0, locals := 20 }) (va_Pc [.ref q] (SP q v n f B sz)) (va_Qi (fun (r : Int32) (_ : Unit) => r = nI n >>> ((0 : Int32) &&& 31)) (fun _ _ => True) (fun x => sz ≤ x)) 0 0 (fun x => sz ≤ x) := by
  refine Met.ofW (cc := cJ0_length_8abf5) (maxL := 1) (ret := (some .int)) (by decide) rfl ?_
  intro p e s m args below meth c s₁ B9 hml hv
  obtain ⟨rfl, hsz, hQ, hB⟩ := hv
  have hx := B9.exec
  have hb := B9.bytes
  have hr := B9.returns
  have hts := atoms_spec (ws := wm_J0_length_8abf5) B9.pre
  have htb := fun (w : Cond) (h : w ∈ tb) => hts w (List.mem_cons_of_mem _ h)
  have hown : s.vm.findClass RJ0 = some m.cls := findClass_of_methodNamed B9.named
  have hlocks := B9.notSynchronized
  subst hsz
  have hS : va_S (fun x => s.heap.size ≤ x) s.heap s.heap [] := va_S.rf
  have hl := lv_entry ([.ref q]) (n := 1) (Nat.le_of_ble_eq_true rfl)
  rw [lg_entry_eq]
  generalize (lg_sl ([.ref q]) ++ List.replicate (1 - (lg_sl ([.ref q])).length) Slot.unset).toArray = ls at hl ⊢
  have hl : lv_has ls 1 [(0, .ref q)] := hl
  refine lv_aload_n hx hb dJ0_length_8abf5_0 rfl (lv_at hl 0 rfl) ?_
  refine vk_getf hx hb hQ.2.2.1 (S_B hS hB) hown (htb _ kw_435) (fun _ h9 => h9) dJ0_length_8abf5_1 ?_
  refine va_tlen hx hb hQ.2.2.2.1 (S_B hS hB) rfl dJ0_length_8abf5_4 ?_
  refine lv_aload_n hx hb dJ0_length_8abf5_5 rfl (lv_at hl 0 rfl) ?_
  refine va_calli (va_runV (As := []) (rest := [.int (Int32.ofNat n)]) ⟨hx, hb, hml, hown, htb⟩ (k_coder l q v n f B s.heap.size) (cwV 0 htb (gd_V kw_436 kw_437 kw_438 kw_434 kw_1438) rfl rfl rfl (by decide +kernel) ⟨Nat.le_of_ble_eq_true rfl, Nat.le_of_ble_eq_true rfl⟩) ⟨SP_blind, va_Orc hQ.1 (S_B hS hB), fun U hU hW => ⟨rfl, by rw [hU], by rw [hU]; exact SQ.moved hW.alike (hQ.kept (S_B hS hB).2.1), S_z hS hB⟩⟩ rfl rfl hl.1 rfl (lv_room (Nat.le_of_ble_eq_true rfl)) dJ0_length_8abf5_6 ⟨Nat.zero_le _, Nat.zero_le _⟩) hS (fun q9 h1 h => Nat.le_trans hS.1 h) (fun q9 h => Nat.le_trans hS.1 h) (fun r u t H1 locs1 ht hvm hw hB9 hz1 hk1 hS => ?_)
  subst hw
  refine lv_ishr hx hb dJ0_length_8abf5_9 ?_
  exact W.iret (v := Int32.ofNat n >>> ((0 : Int32) &&& 31)) hx hb hr (fun t ht hW => ⟨⟨_, (), rfl, rfl, trivial⟩, hS.F ht⟩) hS.2.2 dJ0_length_8abf5_10

set_option maxHeartbeats 4000000 in
set_option maxRecDepth 100000 in
theorem k_pchk (l : Launch) (q v n : Nat) (f : Nat → Int32) (B : Nat → Prop) (sz : Nat) (i j : Int32) (fv : Value) (hf9 : fv = .null ∨ ∃ a, fv = .ref a) (hi : 0 ≤ i.toInt) (hj : i.toInt < j.toInt) : Met l yJ3_checkIndex_8e157 wm_J3_checkIndex_8e157 ({ frames := 0, cells := 0, slots := 0, locals := 0 }) (va_Pc [.int i, .int j, fv] (SP q v n f B sz)) (va_Qi (fun (r : Int32) (_ : Unit) => r = i) (fun _ _ => True) (fun x => sz ≤ x)) 0 0 (fun x => sz ≤ x) := by
  refine Met.ofW (cc := cJ3_checkIndex_8e157) (maxL := 3) (ret := (some .int)) (by decide) rfl ?_
  intro p e s m args below meth c s₁ B9 hml hv
  obtain ⟨rfl, hsz, hQ, hB⟩ := hv
  have hx := B9.exec
  have hb := B9.bytes
  have hr := B9.returns
  have hts := atoms_spec (ws := wm_J3_checkIndex_8e157) B9.pre
  have htb := fun (w : Cond) (h : w ∈ tb) => hts w (List.mem_cons_of_mem _ h)
  have hown : s.vm.findClass RJ3 = some m.cls := findClass_of_methodNamed B9.named
  have hlocks := B9.notSynchronized
  subst hsz
  have hS : va_S (fun x => s.heap.size ≤ x) s.heap s.heap [] := va_S.rf
  have hcat : fv.category = 1 := by rcases hf9 with h | ⟨a, h⟩ <;> rw [h] <;> rfl
  have hl := lv_entry ([.int i, .int j, fv]) (n := 3) (by simp [lg_sl, hcat, cat_i])
  rw [lg_entry_eq]
  generalize (lg_sl ([.int i, .int j, fv]) ++ List.replicate (3 - (lg_sl ([.int i, .int j, fv])).length) Slot.unset).toArray = ls at hl ⊢
  have hl : lv_has ls 3 [(0, .int i), (1, .int j), (2, fv)] := by simp [lv_args, hcat, cat_i] at hl; exact hl
  have hi0 : ¬ i < 0 := fun c1 => by have := Int32.lt_iff_toInt_lt.mp c1; have := i32_0; omega
  have hij : i < j := Int32.lt_iff_toInt_lt.mpr hj
  refine lv_iload_n hx hb dJ3_checkIndex_8e157_0 rfl (lv_at hl 0 rfl) ?_
  refine lv_if_lt (tgt := 9) hx hb dJ3_checkIndex_8e157_1 (by decide) (fun c1 => absurd c1 hi0) (fun _ => ?_)
  refine lv_iload_n hx hb dJ3_checkIndex_8e157_4 rfl (lv_at hl 0 rfl) ?_
  refine lv_iload_n hx hb dJ3_checkIndex_8e157_5 rfl (lv_at hl 1 rfl) ?_
  refine lv_icmp_lt (tgt := 16) hx hb dJ3_checkIndex_8e157_6 (by decide) (fun _ => ?_) (fun c1 => absurd hij c1)
  refine lv_iload_n hx hb dJ3_checkIndex_8e157_16 rfl (lv_at hl 0 rfl) ?_
  exact W.iret (v := i) hx hb hr (fun t ht hW => ⟨⟨_, (), rfl, rfl, trivial⟩, hS.F ht⟩) hS.2.2 dJ3_checkIndex_8e157_17

theorem va_Zq.val {C n d : String} {A : Nat → Prop} {U : State} {H : Heap} (h : va_Zq C n d A U H) : ∃ v : Value, va_Z C n d v A U H ∧ (v = .null ∨ ∃ a, v = .ref a) := by
  rcases h with h | ⟨t, h⟩
  · exact ⟨_, h, Or.inl rfl⟩
  · exact ⟨_, h, Or.inr ⟨t, rfl⟩⟩

set_option maxHeartbeats 4000000 in
set_option maxRecDepth 100000 in
theorem k_schk (l : Launch) (q v n : Nat) (f : Nat → Int32) (B : Nat → Prop) (sz : Nat) (i j : Int32) (hi : 0 ≤ i.toInt) (hj : i.toInt < j.toInt) : Met l yJ0_checkIndex_df160 wm_J0_checkIndex_df160 ({ frames := 1, cells := 0, slots := 0, locals := 22 }) (va_Pc [.int i, .int j] (SP q v n f B sz)) (va_Qv (fun _ : Unit => True) (fun _ _ => True) (fun x => sz ≤ x)) 0 0 (fun x => sz ≤ x) := by
  refine Met.ofW (cc := cJ0_checkIndex_df160) (maxL := 2) (ret := none) (by decide) rfl ?_
  intro p e s m args below meth c s₁ B9 hml hv
  obtain ⟨rfl, hsz, hQ, hB⟩ := hv
  have hx := B9.exec
  have hb := B9.bytes
  have hr := B9.returns
  have hts := atoms_spec (ws := wm_J0_checkIndex_df160) B9.pre
  have htb := fun (w : Cond) (h : w ∈ tb) => hts w (List.mem_cons_of_mem _ h)
  have hown : s.vm.findClass RJ0 = some m.cls := findClass_of_methodNamed B9.named
  have hlocks := B9.notSynchronized
  subst hsz
  have hS : va_S (fun x => s.heap.size ≤ x) s.heap s.heap [] := va_S.rf
  have hl := lv_entry ([.int i, .int j]) (n := 2) (Nat.le_of_ble_eq_true rfl)
  rw [lg_entry_eq]
  generalize (lg_sl ([.int i, .int j]) ++ List.replicate (2 - (lg_sl ([.int i, .int j])).length) Slot.unset).toArray = ls at hl ⊢
  have hl : lv_has ls 2 [(0, .int i), (1, .int j)] := hl
  obtain ⟨fv, hZ, hf9⟩ := hQ.2.2.2.2.2.val
  refine lv_iload_n hx hb dJ0_checkIndex_df160_0 rfl (lv_at hl 0 rfl) ?_
  refine lv_iload_n hx hb dJ0_checkIndex_df160_1 rfl (lv_at hl 1 rfl) ?_
  refine va_gets hx hb hZ (S_B hS hB) hown (htb _ kw_452) (fun _ h9 => h9) dJ0_checkIndex_df160_2 ?_
  refine va_calli (va_runS (As := [.int i, .int j, fv]) (rest := []) ⟨hx, hb, hml, hown, htb⟩ (k_pchk l q v n f B s.heap.size i j fv hf9 hi hj) (va_cwS 3 htb (gd_S kw_453 kw_454 kw_455 kw_1443) rfl rfl rfl (by decide +kernel) ⟨Nat.le_of_ble_eq_true rfl, Nat.le_of_ble_eq_true rfl⟩) ⟨SP_blind, fun U hU hW => ⟨rfl, by rw [hU], by rw [hU]; exact SQ.moved hW.alike (hQ.kept (S_B hS hB).2.1), S_z hS hB⟩⟩ rfl rfl hl.1 rfl (lv_room (Nat.le_of_ble_eq_true rfl)) dJ0_checkIndex_df160_5 ⟨Nat.zero_le _, Nat.zero_le _⟩) hS (fun q9 h1 h => Nat.le_trans hS.1 h) (fun q9 h => Nat.le_trans hS.1 h) (fun r u t H1 locs1 ht hvm hw hB9 hz1 hk1 hS => ?_)
  refine lv_pop hx hb dJ0_checkIndex_df160_8 rfl ?_
  exact W.vret hx hb hr (fun t ht hW => ⟨⟨(), rfl, trivial, trivial⟩, hS.F ht⟩) hS.2.2 dJ0_checkIndex_df160_9

set_option maxHeartbeats 4000000 in
set_option maxRecDepth 100000 in
theorem k_l1char (l : Launch) (q v n : Nat) (f : Nat → Int32) (B : Nat → Prop) (sz : Nat) (i : Int32) (hn : n < 2 ^ 31) (hi : 0 ≤ i.toInt) (hj : i.toInt < (n : Int)) : Met l yJ1_charAt_3b067 wm_J1_charAt_3b067 ({ frames := 2, cells := 0, slots := 0, locals := 43 }) (va_Pc [.ref v, .int i] (SP q v n f B sz)) (va_Qi (fun (r : Int32) (_ : Unit) => iv 0 65535 r) (fun _ _ => True) (fun x => sz ≤ x)) 0 0 (fun x => sz ≤ x) := by
  refine Met.ofW (cc := cJ1_charAt_3b067) (maxL := 2) (ret := (some .char)) (by decide) rfl ?_
  intro p e s m args below meth c s₁ B9 hml hv
  obtain ⟨rfl, hsz, hQ, hB⟩ := hv
  have hx := B9.exec
  have hb := B9.bytes
  have hr := B9.returns
  have hts := atoms_spec (ws := wm_J1_charAt_3b067) B9.pre
  have htb := fun (w : Cond) (h : w ∈ tb) => hts w (List.mem_cons_of_mem _ h)
  have hown : s.vm.findClass RJ1 = some m.cls := findClass_of_methodNamed B9.named
  have hlocks := B9.notSynchronized
  subst hsz
  have hS : va_S (fun x => s.heap.size ≤ x) s.heap s.heap [] := va_S.rf
  have hl := lv_entry ([.ref v, .int i]) (n := 2) (Nat.le_of_ble_eq_true rfl)
  rw [lg_entry_eq]
  generalize (lg_sl ([.ref v, .int i]) ++ List.replicate (2 - (lg_sl ([.ref v, .int i])).length) Slot.unset).toArray = ls at hl ⊢
  have hl : lv_has ls 2 [(0, .ref v), (1, .int i)] := hl
  refine lv_iload_n hx hb dJ1_charAt_3b067_0 rfl (lv_at hl 1 rfl) ?_
  refine lv_aload_n hx hb dJ1_charAt_3b067_1 rfl (lv_at hl 0 rfl) ?_
  refine va_tlen hx hb hQ.2.2.2.1 (S_B hS hB) (v := nI n) rfl dJ1_charAt_3b067_2 ?_
  refine va_callv (va_runS (As := [.int i, .int (nI n)]) (rest := []) ⟨hx, hb, hml, hown, htb⟩ (k_schk l q v n f B s.heap.size i (nI n) hi (by rw [nI_toInt hn]; exact hj)) (va_cwS 2 htb (gd_S kw_450 kw_451 kw_434 kw_1442) rfl rfl rfl (by decide +kernel) ⟨Nat.le_of_ble_eq_true rfl, Nat.le_of_ble_eq_true rfl⟩) ⟨SP_blind, fun U hU hW => ⟨rfl, by rw [hU], by rw [hU]; exact SQ.moved hW.alike (hQ.kept (S_B hS hB).2.1), S_z hS hB⟩⟩ rfl rfl hl.1 rfl (lv_room (Nat.le_of_ble_eq_true rfl)) dJ1_charAt_3b067_3 ⟨Nat.zero_le _, Nat.zero_le _⟩) hS (fun q9 h1 h => Nat.le_trans hS.1 h) (fun q9 h => Nat.le_trans hS.1 h) (fun u t H1 locs1 ht hvm hw hB9 hz1 hk1 hS => ?_)
  refine lv_aload_n hx hb dJ1_charAt_3b067_6 rfl (lv_at hl 0 rfl) ?_
  refine lv_iload_n hx hb dJ1_charAt_3b067_7 rfl (lv_at hl 1 rfl) ?_
  refine va_tb hx hb hQ.2.2.2.1 (S_B hS hB) (vp_in_iff.mpr ⟨hi, hj⟩) rfl dJ1_charAt_3b067_8 ?_
  refine lv_sipush (v := 255) hx hb dJ1_charAt_3b067_9 (by decide) ?_
  refine lv_iand hx hb dJ1_charAt_3b067_12 ?_
  refine lv_i2c (v := (((f i.toNatClampNeg &&& 255) : Int32).toUInt32 % 65536).toInt32) hx hb dJ1_charAt_3b067_13 rfl ?_
  exact W.zret (v := (((f i.toNatClampNeg &&& 255) : Int32).toUInt32 % 65536).toInt32) hx hb hr (iv_ncr (iv_i2c _)) (fun t ht hW => ⟨⟨_, (), rfl, iv_i2c _, trivial⟩, hS.F ht⟩) hS.2.2 dJ1_charAt_3b067_14

set_option maxHeartbeats 4000000 in
set_option maxRecDepth 100000 in
theorem k_schar (l : Launch) (q v n : Nat) (f : Nat → Int32) (B : Nat → Prop) (sz : Nat) (i : Int32) (hn : n < 2 ^ 31) (hi : 0 ≤ i.toInt) (hj : i.toInt < (n : Int)) : Met l yJ0_charAt_5068e wm_J0_charAt_5068e ({ frames := 3, cells := 0, slots := 0, locals := 64 }) (va_Pc [.ref q, .int i] (SP q v n f B sz)) (va_Qi (fun (r : Int32) (_ : Unit) => iv 0 65535 r) (fun _ _ => True) (fun x => sz ≤ x)) 0 0 (fun x => sz ≤ x) := by
  refine Met.ofW (cc := cJ0_charAt_5068e) (maxL := 2) (ret := (some .char)) (by decide) rfl ?_
  intro p e s m args below meth c s₁ B9 hml hv
  obtain ⟨rfl, hsz, hQ, hB⟩ := hv
  have hx := B9.exec
  have hb := B9.bytes
  have hr := B9.returns
  have hts := atoms_spec (ws := wm_J0_charAt_5068e) B9.pre
  have htb := fun (w : Cond) (h : w ∈ tb) => hts w (List.mem_cons_of_mem _ h)
  have hown : s.vm.findClass RJ0 = some m.cls := findClass_of_methodNamed B9.named
  have hlocks := B9.notSynchronized
  subst hsz
  have hS : va_S (fun x => s.heap.size ≤ x) s.heap s.heap [] := va_S.rf
  have hl := lv_entry ([.ref q, .int i]) (n := 2) (Nat.le_of_ble_eq_true rfl)
  rw [lg_entry_eq]
  generalize (lg_sl ([.ref q, .int i]) ++ List.replicate (2 - (lg_sl ([.ref q, .int i])).length) Slot.unset).toArray = ls at hl ⊢
  have hl : lv_has ls 2 [(0, .ref q), (1, .int i)] := hl
  refine lv_aload_n hx hb dJ0_charAt_5068e_0 rfl (lv_at hl 0 rfl) ?_
  refine va_calli (va_runV (As := []) (rest := []) ⟨hx, hb, hml, hown, htb⟩ (k_isLatin1 l q v n f B s.heap.size) (cwV 0 htb (gd_V kw_444 kw_445 kw_446 kw_434 kw_1440) rfl rfl rfl (by decide +kernel) ⟨Nat.le_of_ble_eq_true rfl, Nat.le_of_ble_eq_true rfl⟩) ⟨SP_blind, va_Orc hQ.1 (S_B hS hB), fun U hU hW => ⟨rfl, by rw [hU], by rw [hU]; exact SQ.moved hW.alike (hQ.kept (S_B hS hB).2.1), S_z hS hB⟩⟩ rfl rfl hl.1 rfl (lv_room (Nat.le_of_ble_eq_true rfl)) dJ0_charAt_5068e_1 ⟨Nat.zero_le _, Nat.zero_le _⟩) hS (fun q9 h1 h => Nat.le_trans hS.1 h) (fun q9 h => Nat.le_trans hS.1 h) (fun r u t H1 locs1 ht hvm hw hB9 hz1 hk1 hS => ?_)
  subst hw
  refine lv_if_eq (tgt := 16) hx hb dJ0_charAt_5068e_4 (by decide) (fun c1 => absurd c1 (by decide)) (fun _ => ?_)
  refine lv_aload_n hx hb dJ0_charAt_5068e_7 rfl (lv_at hl 0 rfl) ?_
  refine vk_getf hx hb hQ.2.2.1 (S_B hS hB) hown (htb _ kw_435) (fun _ h9 => h9) dJ0_charAt_5068e_8 ?_
  refine lv_iload_n hx hb dJ0_charAt_5068e_11 rfl (lv_at hl 1 rfl) ?_
  refine va_calli (va_runS (As := [.ref v, .int i]) (rest := []) ⟨hx, hb, hml, hown, htb⟩ (k_l1char l q v n f B H1.size i hn hi hj) (va_cwS 2 htb (gd_S kw_447 kw_448 kw_449 kw_1441) rfl rfl rfl (by decide +kernel) ⟨Nat.le_of_ble_eq_true rfl, Nat.le_of_ble_eq_true rfl⟩) ⟨SP_blind, fun U hU hW => ⟨rfl, by rw [hU], by rw [hU]; exact SQ.moved hW.alike (hQ.kept (S_B hS hB).2.1), S_z hS hB⟩⟩ rfl rfl hl.1 rfl (lv_room (Nat.le_of_ble_eq_true rfl)) dJ0_charAt_5068e_12 ⟨Nat.zero_le _, Nat.zero_le _⟩) hS (fun q9 h1 h => Nat.le_trans hS.1 h) (fun q9 h => Nat.le_trans hS.1 h) (fun r u t H1 locs1 ht hvm hw hB9 hz1 hk1 hS => ?_)
  exact W.zret (v := r) hx hb hr (iv_ncr hw) (fun t ht hW => ⟨⟨_, (), rfl, hw, trivial⟩, hS.F ht⟩) hS.2.2 dJ0_charAt_5068e_15
theorem sb_len : ∀ k, k < 7 → 2 ≤ (sByt.getD k []).length ∧ (sByt.getD k []).length ≤ 5 := by decide
section STRR
variable {p : Program} {l : Launch} {e : Env} {R : Room} {s : State} {m : MethodId} {args : Array Value} {below : List Frame} {meth : Method} {c : Code} {H : Heap} {locs : List Loc} {Q : State → Prop} {cc : ByteArray} {pc : Nat} {ls : Array Slot} {rest : List Value} {A : Nat → Prop}
variable {dC : Nat → ClassId} {dI : Nat → Nat → Nat} {ad : Nat → Nat → Nat} {cid : Nat → ClassId} {a2 : Nat → Nat} {lx : List Nat} {sg : Nat → Int32} {gm : Nat → Nat → Int32} {lg : Nat → Nat → Int64} {own : String} {index nL : Nat} {cells slots : Nat}
theorem c7 {x : Int32} (hx : iv 0 6 x) : x.toNatClampNeg < 7 := by have := iv_cl hx (by decide); have := hx.2; omega
/-- a text as a constant -/
theorem cw_str {k : Nat} {kx : Int32} (hexec : p.tables.exec = Jvm.exec) (hb : c.code = cc) (hG : CE ad A s) (hk : k < 7) (hkx : kx.toNatClampNeg = k ∧ 0 ≤ kx.toInt) (hown : s.vm.findClass (sOwn.getD k "") = some m.cls) (hdg : decode cc pc = .ok (.ldc (sEnt.getD k 0), 2))
    (kk : W p l e R s m args below meth c H locs cells slots Q (F0 m (pc + 2) ls (eV (ad 37) kx :: rest))) : W p l e R s m args below meth c H locs cells slots Q (F0 m pc ls rest) := by
  rw [eV_ref hkx.2, hkx.1] at kk
  exact va_ldcS hexec hb hown (hG.2.2.2.2 k hk) hdg kk
theorem cw_slen {x : Int32} (S : CallFix p m c cc nL s args tb own) (hlk : Cond.methodLink own index yJ0_length_8abf5 ∈ tb) (hx : iv 0 6 x) (hsize : ls.size = nL) (hW : (rest.map fun v => v.category).sum ≤ 8) (hdg : decode cc pc = .ok (.invokevirtual index, 3)) (hf : cells ≤ R.cells ∧ slots ≤ R.slots) (hR : 2 ≤ R.frames ∧ 40 ≤ R.locals) (hP : va_P (dC, dI) vwCl (cW ad cid a2 lx sg gm lg) H) (hS : va_S A s.heap H locs) (hA : ∀ q, s.heap.size ≤ q → A q) (hG : CE ad A s)
    (kk : ∀ (H1 : Heap) (locs1 : List Loc), va_P (dC, dI) vwCl (cW ad cid a2 lx sg gm lg) H1 → va_S A s.heap H1 locs1 → W p l e R s m args below meth c H1 locs1 cells slots Q (F0 m (pc + 3) ls (.int (nI ((sByt.getD x.toNatClampNeg []).length) >>> ((0 : Int32) &&& 31)) :: rest))) : W p l e R s m args below meth c H locs cells slots Q (F0 m pc ls (eV (ad 37) x :: rest)) := by
  have hq9 := hG.2.2.2.1 x.toNatClampNeg (c7 hx)
  rw [eV_ref hx.1]
  have hFc : ∀ q, H.size ≤ q → A q := fun q h => hA q (Nat.le_trans hS.1 h)
  refine va_calli (va_runV (cells := cells) (slots := slots) (As := []) (rest := rest) S (k_slen l (ad 37 x.toNatClampNeg) (ad 38 x.toNatClampNeg) _ _ A H.size) (cwV 0 S.2.2.2.2 (gd_V hlk kw_432 kw_433 kw_434 kw_1437) rfl rfl rfl (by decide +kernel) ⟨hR.1, hR.2⟩) ⟨SP_blind, va_Orc hq9.1 hS, fun U hU hW9 => ⟨rfl, by rw [hU], by rw [hU]; exact SQ.moved hW9.alike (hq9.kept hS.2.1), hFc⟩⟩ rfl rfl hsize rfl (lv_room hW) hdg ⟨by omega, by omega⟩) hS (fun q _ h => hFc q h) hFc (fun r u t H1 locs1 ht hvm hw hB hz1 hk1 hS1 => ?_)
  subst hw
  exact kk H1 locs1 (hP.kept (fun k q hq => hk1 _ (vx_lt hP hq) (Nat.not_le.mpr (vx_lt hP hq)))) hS1
theorem slen_iv {x r : Int32} (hx : iv 0 6 x) (h : r = nI ((sByt.getD x.toNatClampNeg []).length) >>> ((0 : Int32) &&& 31)) : r.toInt = ((sByt.getD x.toNatClampNeg []).length : Int) ∧ iv 2 5 r := by
  have hb := sb_len _ (c7 hx)
  rw [sc_shr0 (by omega)] at h
  have e1 : r.toInt = ((sByt.getD x.toNatClampNeg []).length : Int) := by rw [h, nI_toInt (by omega)]
  exact ⟨e1, by omega, by omega⟩
theorem cw_schr {x i : Int32} (S : CallFix p m c cc nL s args tb own) (hlk : Cond.methodLink own index yJ0_charAt_5068e ∈ tb) (hx : iv 0 6 x) (hi : 0 ≤ i.toInt) (hj : i.toInt < ((sByt.getD x.toNatClampNeg []).length : Int)) (hsize : ls.size = nL) (hW : (rest.map fun v => v.category).sum ≤ 8) (hdg : decode cc pc = .ok (.invokevirtual index, 3)) (hf : cells ≤ R.cells ∧ slots ≤ R.slots) (hR : 4 ≤ R.frames ∧ 90 ≤ R.locals) (hP : va_P (dC, dI) vwCl (cW ad cid a2 lx sg gm lg) H) (hS : va_S A s.heap H locs) (hA : ∀ q, s.heap.size ≤ q → A q) (hG : CE ad A s)
    (kk : ∀ (r : Int32) (H1 : Heap) (locs1 : List Loc), iv 0 65535 r → va_P (dC, dI) vwCl (cW ad cid a2 lx sg gm lg) H1 → va_S A s.heap H1 locs1 → W p l e R s m args below meth c H1 locs1 cells slots Q (F0 m (pc + 3) ls (.int r :: rest))) : W p l e R s m args below meth c H locs cells slots Q (F0 m pc ls (.int i :: eV (ad 37) x :: rest)) := by
  have hq9 := hG.2.2.2.1 x.toNatClampNeg (c7 hx)
  have hb := sb_len _ (c7 hx)
  rw [eV_ref hx.1]
  have hFc : ∀ q, H.size ≤ q → A q := fun q h => hA q (Nat.le_trans hS.1 h)
  refine va_calli (va_runV (cells := cells) (slots := slots) (As := [.int i]) (rest := rest) S (k_schar l (ad 37 x.toNatClampNeg) (ad 38 x.toNatClampNeg) _ _ A H.size i (by omega) hi hj) (cwV 1 S.2.2.2.2 (gd_V hlk kw_442 kw_443 kw_434 kw_1439) rfl rfl rfl (by decide +kernel) ⟨hR.1, by have := hR.2; show 8 + (2 + 11) + 64 ≤ _; omega⟩) ⟨SP_blind, va_Orc hq9.1 hS, fun U hU hW9 => ⟨rfl, by rw [hU], by rw [hU]; exact SQ.moved hW9.alike (hq9.kept hS.2.1), hFc⟩⟩ rfl rfl hsize rfl (lv_room hW) hdg ⟨by omega, by omega⟩) hS (fun q _ h => hFc q h) hFc (fun r u t H1 locs1 ht hvm hw hB hz1 hk1 hS1 => ?_)
  exact kk r H1 locs1 hw (hP.kept (fun k q hq => hk1 _ (vx_lt hP hq) (Nat.not_le.mpr (vx_lt hP hq)))) hS1
end STRR

