theorem nw13 : ∀ j, j < 77 → defaultValue (tyX13 j) = vp_V nv13 j := by
  intro j hj
  match j, hj with
  | 0, _ => rfl
  | 1, _ => rfl
  | 2, _ => rfl
  | 3, _ => rfl
  | 4, _ => rfl
  | 5, _ => rfl
  | 6, _ => rfl
  | 7, _ => rfl
  | 8, _ => rfl
  | 9, _ => rfl
  | 10, _ => rfl
  | 11, _ => rfl
  | 12, _ => rfl
  | 13, _ => rfl
  | 14, _ => rfl
  | 15, _ => rfl
  | 16, _ => rfl
  | 17, _ => rfl
  | 18, _ => rfl
  | 19, _ => rfl
  | 20, _ => rfl
  | 21, _ => rfl
  | 22, _ => rfl
  | 23, _ => rfl
  | 24, _ => rfl
  | 25, _ => rfl
  | 26, _ => rfl
  | 27, _ => rfl
  | 28, _ => rfl
  | 29, _ => rfl
  | 30, _ => rfl
  | 31, _ => rfl
  | 32, _ => rfl
  | 33, _ => rfl
  | 34, _ => rfl
  | 35, _ => rfl
  | 36, _ => rfl
  | 37, _ => rfl
  | 38, _ => rfl
  | 39, _ => rfl
  | 40, _ => rfl
  | 41, _ => rfl
  | 42, _ => rfl
  | 43, _ => rfl
  | 44, _ => rfl
  | 45, _ => rfl
  | 46, _ => rfl
  | 47, _ => rfl
  | 48, _ => rfl
  | 49, _ => rfl
  | 50, _ => rfl
  | 51, _ => rfl
  | 52, _ => rfl
  | 53, _ => rfl
  | 54, _ => rfl
  | 55, _ => rfl
  | 56, _ => rfl
  | 57, _ => rfl
  | 58, _ => rfl
  | 59, _ => rfl
  | 60, _ => rfl
  | 61, _ => rfl
  | 62, _ => rfl
  | 63, _ => rfl
  | 64, _ => rfl
  | 65, _ => rfl
  | 66, _ => rfl
  | 67, _ => rfl
  | 68, _ => rfl
  | 69, _ => rfl
  | 70, _ => rfl
  | 71, _ => rfl
  | 72, _ => rfl
  | 73, _ => rfl
  | 74, _ => rfl
  | 75, _ => rfl
  | 76, _ => rfl
  | n + 77, h => exact absurd h (by omega)
set_option maxHeartbeats 8000000 in
set_option maxRecDepth 100000 in
/-- THE LAW, from its entry -/
theorem whole_start {p : Program} {e : Env} {s : State} {m : MethodId} {below : List Frame} {meth : Method} {c : Code} (l : Launch) (hl9 : l.stackTraces = false) {b L : Nat} {xs : Nat → Int32} (hL : L ≤ 4608) (C0 : lw_At p s m meth c b L xs) : W p l e room_1 s m #[Value.ref b] below meth c s.heap [] 0 0 (lw_Z below #[Value.ref b] s) (entryFrame m ([Value.ref b] : List Value).toArray 7) := by
  obtain ⟨hx, hb, hr, hml, hown, hts, hX, hbl, hlocks, hgv⟩ := id C0
  have hown : s.vm.findClass RL = some m.cls := hown
  have htb := fun (w : Cond) (h : w ∈ tb) => hts w (tb_in w h)
  obtain ⟨A, hAe⟩ : ∃ A : Nat → Prop, A = fun q => s.heap.size ≤ q := ⟨_, rfl⟩
  have hA : ∀ q : Nat, s.heap.size ≤ q → A q := fun q h => by rw [hAe]; exact h
  have hAi : ∀ q : Nat, A q → s.heap.size ≤ q := fun q h => by rw [hAe] at h; exact h
  have hAo : ∀ a : Nat, a < s.heap.size → ¬ A a := fun a h h2 => absurd (hAi a h2) (Nat.not_le.mpr h)
  have hbA : ¬ A b := hAo b hbl
  obtain ⟨c0, iS0, hKn0⟩ := u_known (C := RJx4a65c) (T := TJx4a65c) (N := 3) (n := 3) htb inJx4a65c (htb _ kw_97)
  obtain ⟨c1, iS1, hKn1⟩ := u_known (C := RX1) (T := TX1) (N := 19) (n := 19) htb inX1 (htb _ kw_89)
  obtain ⟨c2, iS2, hKn2⟩ := u_known (C := RX2) (T := TX2) (N := 8) (n := 8) htb inX2 (htb _ kw_14)
  obtain ⟨c3, iS3, hKn3⟩ := u_known (C := RX3) (T := TX3) (N := 21) (n := 21) htb inX3 (htb _ kw_65)
  obtain ⟨c4, iS4, hKn4⟩ := u_known (C := RX4) (T := TX4) (N := 2) (n := 2) htb inX4 (htb _ kw_35)
  obtain ⟨c5, iS5, hKn5⟩ := u_known (C := RX5) (T := TX5) (N := 13) (n := 13) htb inX5 (htb _ kw_39)
  obtain ⟨c6, iS6, hKn6⟩ := u_known (C := RX6) (T := TX6) (N := 8) (n := 8) htb inX6 (htb _ kw_19)
  obtain ⟨c7, iS7, hKn7⟩ := u_known (C := RX7) (T := TX7) (N := 6) (n := 6) htb inX7 (htb _ kw_23)
  obtain ⟨c8, iS8, hKn8⟩ := u_known (C := RX8) (T := TX8) (N := 7) (n := 7) htb inX8 (htb _ kw_50)
  obtain ⟨c9, iS9, hKn9⟩ := u_known (C := RX9) (T := TX9) (N := 1) (n := 1) htb inX9 (htb _ kw_27)
  obtain ⟨c10, iS10, hKn10⟩ := u_known (C := RX10) (T := TX10) (N := 4) (n := 4) htb inX10 (htb _ kw_31)
  obtain ⟨c11, iS11, hKn11⟩ := u_known (C := RX12) (T := TX12) (N := 12) (n := 12) htb inX12 (htb _ kw_1)
  obtain ⟨c12, iS12, hKn12⟩ := u_known (C := RX13) (T := TX13) (N := 77) (n := 77) htb inX13 (htb _ kw_4)
  obtain ⟨dC, dI, hKc⟩ : ∃ (dC : Nat → ClassId) (dI : Nat → Nat → Nat), ∀ (k : Nat) (q : vw_C), vwCl[k]? = some q → u_Kn s q.1 q.2.1 q.2.2 (dC k) (dI k) := by
    refine ⟨fun k => match k with | 0 => c0 | 1 => c1 | 2 => c2 | 3 => c3 | 4 => c4 | 5 => c5 | 6 => c6 | 7 => c7 | 8 => c8 | 9 => c9 | 10 => c10 | 11 => c11 | _ => c12, fun k => match k with | 0 => iS0 | 1 => iS1 | 2 => iS2 | 3 => iS3 | 4 => iS4 | 5 => iS5 | 6 => iS6 | 7 => iS7 | 8 => iS8 | 9 => iS9 | 10 => iS10 | 11 => iS11 | _ => iS12, ?_⟩
    intro k q hq
    match k, hq with
    | 0, hq => cases hq; exact hKn0
    | 1, hq => cases hq; exact hKn1
    | 2, hq => cases hq; exact hKn2
    | 3, hq => cases hq; exact hKn3
    | 4, hq => cases hq; exact hKn4
    | 5, hq => cases hq; exact hKn5
    | 6, hq => cases hq; exact hKn6
    | 7, hq => cases hq; exact hKn7
    | 8, hq => cases hq; exact hKn8
    | 9, hq => cases hq; exact hKn9
    | 10, hq => cases hq; exact hKn10
    | 11, hq => cases hq; exact hKn11
    | 12, hq => cases hq; exact hKn12
    | k + 13, hq => simp [vwCl] at hq
  have hS : va_S A s.heap s.heap [] := va_S.rf
  have hK0 : va_K (dC, dI) vwCl [] s := ⟨hKc, fun k q h => by simp at h⟩
  have hP : va_P (dC, dI) vwCl [] s.heap := fun k q h => by simp at h
  have hD : va_D A [] := ⟨fun i j p q h => by simp at h, fun k q h => by simp at h⟩
  obtain ⟨ad0, hG, hN9⟩ := d_env0 (A := A) hts hgv hAo
  obtain ⟨cid, hcid⟩ := d_cid0 (b := b) hts hG
  have hK : va_K (dC, dI) vwCl (cT cid) s := ⟨hKc, fun k q h => by
    have hk : k < 33 := by have := (List.getElem?_eq_some_iff.mp h).1; rw [cT_len] at this; exact this
    rw [cT_at hk] at h
    cases h
    exact hcid k hk⟩
  have hl := lv_entry ([.ref b]) (n := 7) (Nat.le_of_ble_eq_true rfl)
  rw [lg_entry_eq]
  generalize (lg_sl ([.ref b]) ++ List.replicate (7 - (lg_sl ([.ref b])).length) Slot.unset).toArray = ls at hl ⊢
  have hl : lv_has ls 7 [(0, .ref b)] := hl
  refine va_new (ci := 11) (fs := nvX12) (C := RX12) (T := TX12) (N := 12) hx hb htb inX12 tyX12 tyX12_ok hown (htb _ kw_0) (htb _ kw_1) (htb _ kw_2) hK hP hD hS hA rfl nwX12 (Nat.le_of_ble_eq_true rfl) (Nat.le_of_ble_eq_true rfl) dL_law_0 (fun q1 H hP hD hS => ?_)
  refine W.widen (k := 1) (n := 12) (Nat.le_of_ble_eq_true rfl) (Nat.le_of_ble_eq_true rfl) ?_
  refine lv_dup hx hb dL_law_3 rfl ?_
  refine nw_call (rest := [.ref q1]) (r := []) ⟨hx, hb, hml, hown, htb⟩ (n_X12 l dC dI ad0 cid q1) (cwI 0 htb (gd_c kw_1368) rfl rfl rfl (htb _ kw_2) (htb _ kw_8) (htb _ kw_9) rfl (by decide +kernel) ⟨Nat.le_of_ble_eq_true rfl, Nat.le_of_ble_eq_true rfl⟩) rfl hl.1 rfl (Nat.le_of_ble_eq_true rfl) dL_law_4 ⟨(Nat.le_of_ble_eq_true rfl), (Nat.le_of_ble_eq_true rfl)⟩ hK hP hD hS hA hG (fun w H locs hw hP7 hD7 hS => ?_)
  obtain ⟨a12, a13, f2, adr, up, rd, st, uw, rw9, r1, mk, a, b9, f, x, q, rfl, hf2, hdc, hpa, hwi⟩ := hw
  rw [List.append_nil] at hP7 hD7
  have hE := wb_eq (ad0 := ad0) (cid := cid) (a2 := fun _ => 0) hf2 hdc hpa hwi rfl (h := q1) (a12 := a12) (a13 := a13) (rd := rd) (st := st) (rw9 := rw9) (r1 := r1) (mk := mk) (a := a) (b := b9) (f := f) (x := x) (q := q)
  have hG : CE (wbA ad0 q1 a12 a13 adr up rd st uw rw9 r1 mk a b9 f x q) A s := hG
  have e01 : wbA ad0 q1 a12 a13 adr up rd st uw rw9 r1 mk a b9 f x q 0 0 = q1 := rfl
  generalize wbA ad0 q1 a12 a13 adr up rd st uw rw9 r1 mk a b9 f x q = ad at hE hG e01
  have hP := wb_P hE hP7
  have hD := wb_D hE hD7
  refine W.widen (k := 662) (n := 12993) (Nat.le_of_ble_eq_true rfl) (Nat.le_of_ble_eq_true rfl) ?_
  refine lv_astore_n (lv' := [(1, .ref q1), (0, .ref b)]) hx hb dL_law_7 rfl hl (by decide) rfl (fun ls hl => ?_)
  refine va_new (ci := 12) (fs := nv13) (C := RX13) (T := TX13) (N := 77) hx hb htb inX13 tyX13 tyX13_ok hown (htb _ kw_3) (htb _ kw_4) (htb _ kw_5) hK hP hD hS hA rfl nw13 (Nat.le_of_ble_eq_true rfl) (Nat.le_of_ble_eq_true rfl) dL_law_8 (fun q2 H hP hD hS => ?_)
  have hP := fr_P hP
  have hD := fr_D hD
  refine W.widen (k := 663) (n := 13070) (Nat.le_of_ble_eq_true rfl) (Nat.le_of_ble_eq_true rfl) ?_
  refine lv_dup hx hb dL_law_11 rfl ?_
  have hPc : va_P (dC, dI) vwCl [(q2, .inr (12, nv13))] H := va_Psl hP (List.sublist_append_left [_] _)
  have hDc : va_D A [(q2, (.inr (12, nv13) : va_E))] := va_Dsl hD (List.sublist_append_left [_] _)
  have hFc : ∀ q, va_A [(q2, (.inr (12, nv13) : va_E))] H.size q → A q := fun q h => by
    rcases h with ⟨k, e, h⟩ | h
    · exact hDc.2 k (q, e) h
    · exact hA q (Nat.le_trans hS.1 h)
  refine va_callv (va_runI (As := []) (rest := [.ref q2]) ⟨hx, hb, hml, hown, htb⟩ (d_mctor l dC dI q2 H.size) (cwI 0 htb (gd_c kw_1383) rfl rfl rfl (htb _ kw_5) (htb _ kw_131) (htb _ kw_132) rfl (by decide +kernel) ⟨Nat.le_of_ble_eq_true rfl, Nat.le_of_ble_eq_true rfl⟩) ⟨fun a U g mk q => by obtain ⟨q0, q1, qP, qK, qD⟩ := q; exact ⟨q0, q1, qP, va_K.moved (u := U) (U := U.calling g mk a) (Vm.Alike.refl U.vm) qK, qD⟩, fun U hU hW => ⟨rfl, by rw [hU], by rw [hU]; exact hPc, va_K.moved hW.alike hK0, hDc.weaken (fun _ _ _ _ => trivial)⟩⟩ rfl rfl hl.1 rfl (lv_room (Nat.le_of_ble_eq_true rfl)) dL_law_12 ⟨(Nat.le_of_ble_eq_true rfl), (Nat.le_of_ble_eq_true rfl)⟩) hS (fun q _ h => hFc q h) hFc (fun u t H1 locs ht hvm hRI hB hz1 hk1 hS => ?_)
  obtain ⟨hP1, hK1, hD1⟩ := hB
  rw [ht] at hP1
  have hK1 := va_K.moved hvm.symm hK1
  obtain ⟨adm, cidm, sm, gn, ln⟩ := u
  obtain ⟨hP, hD⟩ := lw_join (w := [(q2, .inr (12, nv13))]) hP hD hk1 hFc hP1 hD1
  have hP := vaP_p List.perm_append_comm hP
  have hD := vaD_p List.perm_append_comm hD
  have hK := hK.app hK1
  refine W.widen (k := 723) (n := 35018) (Nat.le_of_ble_eq_true rfl) (Nat.le_of_ble_eq_true rfl) ?_
  refine lv_astore_n (lv' := [(2, .ref q2), (1, .ref q1), (0, .ref b)]) hx hb dL_law_15 rfl hl (by decide) rfl (fun ls hl => ?_)
  refine lv_iconst (v := 1) hx hb dL_law_16 (by decide) ?_
  refine va_newa (D := (dC, dI)) (atype := .long) (ty := .long) (N' := 1) (a0 := (1, .inr (.inl (fun _ => 0)))) hx hb (htb _ kw_6) rfl hK hP hD hS hA (fun _ => rfl) (by decide) (by decide) (by decide) (Nat.le_of_ble_eq_true rfl) (Nat.le_of_ble_eq_true rfl) dL_law_17 (fun qo cO H hK hP hD hS => ?_)
  refine lv_astore_n (lv' := [(3, .ref qo), (2, .ref q2), (1, .ref q1), (0, .ref b)]) hx hb dL_law_19 rfl hl (by decide) rfl (fun ls hl => ?_)
  refine lv_iconst (v := 0) hx hb dL_law_20 (by decide) ?_
  refine lv_istore (lv' := [(4, .int 0), (3, .ref qo), (2, .ref q2), (1, .ref q1), (0, .ref b)]) hx hb dL_law_21 hl (by decide) rfl (fun ls hl => ?_)
  rw [List.append_assoc] at hP hD hK
  have e1 : eV (ad 0) 0 = .ref q1 := by rw [eV_ref (by decide), show (0 : Int32).toNatClampNeg = 0 from by decide, e01]
  have hl : lv_has ls 7 [(4, .int 0), (3, .ref qo), (2, .ref q2), (1, eV (ad 0) 0), (0, .ref b)] := by rw [e1]; exact hl
  refine W.widen (k := 10000 + 3 * 0 + PHs gm00) (n := 400000 + 18 * 0 + 4 * PHs gm00) (by rw [PHs_0]; decide) (by rw [PHs_0]; decide) ?_
  exact d_loop hl9 C0 hL hA hbA hG hN9 hK hAi 513 0 0 _ [] sg00 gm00 lg00 sm gn ln (fun _ => 0) _ _ _ rfl (by decide) (by decide) KI_0 hRI.1 ⟨TXR_0 (show (sg00 0).toInt = 0 from by decide) (by rw [show sm 20 = 0 from hRI.2.1]; decide), hRI.2.2.1, hRI.2.2.2⟩ hP hD hS hl
