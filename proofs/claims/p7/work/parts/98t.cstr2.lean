set_option maxHeartbeats 4000000 in
set_option maxRecDepth 100000 in
theorem k_l1char2 (l : Launch) (q v n : Nat) (f : Nat → Int32) (B : Nat → Prop) (sz : Nat) (i : Int32) (hn : n < 2 ^ 31) (hi : 0 ≤ i.toInt) (hj : i.toInt < (n : Int)) : Met l yJ1_charAt_3b067 wm_J1_charAt_3b067 ({ frames := 2, cells := 0, slots := 0, locals := 43 }) (va_Pc [.ref v, .int i] (SP q v n f B sz)) (va_Qi (fun (r : Int32) (_ : Unit) => r = (((f i.toNatClampNeg &&& 255) : Int32).toUInt32 % 65536).toInt32) (fun _ _ => True) (fun x => sz ≤ x)) 0 0 (fun x => sz ≤ x) := by
  refine Met.ofW (cc := cJ1_charAt_3b067) (maxL := 2) (ret := (some .char)) (by decide) rfl ?_
  intro p e s m args below meth c s₁ B9 hml hv
  obtain ⟨rfl, hsz, hQ, hB⟩ := hv
  have hx := B9.exec
  have hb := B9.bytes
  have hr := B9.returns
  have hts := atoms_spec (ws := wm_J1_charAt_3b067) B9.pre
  have htb := fun (w : Cond) (h : w ∈ tb) => hts w (List.mem_cons_of_mem _ h)
  have hown : s.vm.findClass RJ1 = some m.cls := findClass_of_methodNamed B9.named
  have hlocks := B9.notSynchronized
  subst hsz
  have hS : va_S (fun x => s.heap.size ≤ x) s.heap s.heap [] := va_S.rf
  have hl := lv_entry ([.ref v, .int i]) (n := 2) (Nat.le_of_ble_eq_true rfl)
  rw [lg_entry_eq]
  generalize (lg_sl ([.ref v, .int i]) ++ List.replicate (2 - (lg_sl ([.ref v, .int i])).length) Slot.unset).toArray = ls at hl ⊢
  have hl : lv_has ls 2 [(0, .ref v), (1, .int i)] := hl
  refine lv_iload_n hx hb dJ1_charAt_3b067_0 rfl (lv_at hl 1 rfl) ?_
  refine lv_aload_n hx hb dJ1_charAt_3b067_1 rfl (lv_at hl 0 rfl) ?_
  refine va_tlen hx hb hQ.2.2.2.1 (S_B hS hB) (v := nI n) rfl dJ1_charAt_3b067_2 ?_
  refine va_callv (va_runS (As := [.int i, .int (nI n)]) (rest := []) ⟨hx, hb, hml, hown, htb⟩ (k_schk l q v n f B s.heap.size i (nI n) hi (by rw [nI_toInt hn]; exact hj)) (va_cwS 2 htb (gd_S kw_450 kw_451 kw_434 kw_1442) rfl rfl rfl (by decide +kernel) ⟨Nat.le_of_ble_eq_true rfl, Nat.le_of_ble_eq_true rfl⟩) ⟨SP_blind, fun U hU hW => ⟨rfl, by rw [hU], by rw [hU]; exact SQ.moved hW.alike (hQ.kept (S_B hS hB).2.1), S_z hS hB⟩⟩ rfl rfl hl.1 rfl (lv_room (Nat.le_of_ble_eq_true rfl)) dJ1_charAt_3b067_3 ⟨Nat.zero_le _, Nat.zero_le _⟩) hS (fun q9 h1 h => Nat.le_trans hS.1 h) (fun q9 h => Nat.le_trans hS.1 h) (fun u t H1 locs1 ht hvm hw hB9 hz1 hk1 hS => ?_)
  refine lv_aload_n hx hb dJ1_charAt_3b067_6 rfl (lv_at hl 0 rfl) ?_
  refine lv_iload_n hx hb dJ1_charAt_3b067_7 rfl (lv_at hl 1 rfl) ?_
  refine va_tb hx hb hQ.2.2.2.1 (S_B hS hB) (vp_in_iff.mpr ⟨hi, hj⟩) rfl dJ1_charAt_3b067_8 ?_
  refine lv_sipush (v := 255) hx hb dJ1_charAt_3b067_9 (by decide) ?_
  refine lv_iand hx hb dJ1_charAt_3b067_12 ?_
  refine lv_i2c (v := (((f i.toNatClampNeg &&& 255) : Int32).toUInt32 % 65536).toInt32) hx hb dJ1_charAt_3b067_13 rfl ?_
  exact W.zret (v := (((f i.toNatClampNeg &&& 255) : Int32).toUInt32 % 65536).toInt32) hx hb hr (iv_ncr (iv_i2c _)) (fun t ht hW => ⟨⟨_, (), rfl, rfl, trivial⟩, hS.F ht⟩) hS.2.2 dJ1_charAt_3b067_14

set_option maxHeartbeats 4000000 in
set_option maxRecDepth 100000 in
theorem k_schar2 (l : Launch) (q v n : Nat) (f : Nat → Int32) (B : Nat → Prop) (sz : Nat) (i : Int32) (hn : n < 2 ^ 31) (hi : 0 ≤ i.toInt) (hj : i.toInt < (n : Int)) : Met l yJ0_charAt_5068e wm_J0_charAt_5068e ({ frames := 3, cells := 0, slots := 0, locals := 64 }) (va_Pc [.ref q, .int i] (SP q v n f B sz)) (va_Qi (fun (r : Int32) (_ : Unit) => r = (((f i.toNatClampNeg &&& 255) : Int32).toUInt32 % 65536).toInt32) (fun _ _ => True) (fun x => sz ≤ x)) 0 0 (fun x => sz ≤ x) := by
  refine Met.ofW (cc := cJ0_charAt_5068e) (maxL := 2) (ret := (some .char)) (by decide) rfl ?_
  intro p e s m args below meth c s₁ B9 hml hv
  obtain ⟨rfl, hsz, hQ, hB⟩ := hv
  have hx := B9.exec
  have hb := B9.bytes
  have hr := B9.returns
  have hts := atoms_spec (ws := wm_J0_charAt_5068e) B9.pre
  have htb := fun (w : Cond) (h : w ∈ tb) => hts w (List.mem_cons_of_mem _ h)
  have hown : s.vm.findClass RJ0 = some m.cls := findClass_of_methodNamed B9.named
  have hlocks := B9.notSynchronized
  subst hsz
  have hS : va_S (fun x => s.heap.size ≤ x) s.heap s.heap [] := va_S.rf
  have hl := lv_entry ([.ref q, .int i]) (n := 2) (Nat.le_of_ble_eq_true rfl)
  rw [lg_entry_eq]
  generalize (lg_sl ([.ref q, .int i]) ++ List.replicate (2 - (lg_sl ([.ref q, .int i])).length) Slot.unset).toArray = ls at hl ⊢
  have hl : lv_has ls 2 [(0, .ref q), (1, .int i)] := hl
  refine lv_aload_n hx hb dJ0_charAt_5068e_0 rfl (lv_at hl 0 rfl) ?_
  refine va_calli (va_runV (As := []) (rest := []) ⟨hx, hb, hml, hown, htb⟩ (k_isLatin1 l q v n f B s.heap.size) (cwV 0 htb (gd_V kw_444 kw_445 kw_446 kw_434 kw_1440) rfl rfl rfl (by decide +kernel) ⟨Nat.le_of_ble_eq_true rfl, Nat.le_of_ble_eq_true rfl⟩) ⟨SP_blind, va_Orc hQ.1 (S_B hS hB), fun U hU hW => ⟨rfl, by rw [hU], by rw [hU]; exact SQ.moved hW.alike (hQ.kept (S_B hS hB).2.1), S_z hS hB⟩⟩ rfl rfl hl.1 rfl (lv_room (Nat.le_of_ble_eq_true rfl)) dJ0_charAt_5068e_1 ⟨Nat.zero_le _, Nat.zero_le _⟩) hS (fun q9 h1 h => Nat.le_trans hS.1 h) (fun q9 h => Nat.le_trans hS.1 h) (fun r u t H1 locs1 ht hvm hw hB9 hz1 hk1 hS => ?_)
  subst hw
  refine lv_if_eq (tgt := 16) hx hb dJ0_charAt_5068e_4 (by decide) (fun c1 => absurd c1 (by decide)) (fun _ => ?_)
  refine lv_aload_n hx hb dJ0_charAt_5068e_7 rfl (lv_at hl 0 rfl) ?_
  refine vk_getf hx hb hQ.2.2.1 (S_B hS hB) hown (htb _ kw_435) (fun _ h9 => h9) dJ0_charAt_5068e_8 ?_
  refine lv_iload_n hx hb dJ0_charAt_5068e_11 rfl (lv_at hl 1 rfl) ?_
  refine va_calli (va_runS (As := [.ref v, .int i]) (rest := []) ⟨hx, hb, hml, hown, htb⟩ (k_l1char2 l q v n f B H1.size i hn hi hj) (va_cwS 2 htb (gd_S kw_447 kw_448 kw_449 kw_1441) rfl rfl rfl (by decide +kernel) ⟨Nat.le_of_ble_eq_true rfl, Nat.le_of_ble_eq_true rfl⟩) ⟨SP_blind, fun U hU hW => ⟨rfl, by rw [hU], by rw [hU]; exact SQ.moved hW.alike (hQ.kept (S_B hS hB).2.1), S_z hS hB⟩⟩ rfl rfl hl.1 rfl (lv_room (Nat.le_of_ble_eq_true rfl)) dJ0_charAt_5068e_12 ⟨Nat.zero_le _, Nat.zero_le _⟩) hS (fun q9 h1 h => Nat.le_trans hS.1 h) (fun q9 h => Nat.le_trans hS.1 h) (fun r u t H1 locs1 ht hvm hw hB9 hz1 hk1 hS => ?_)
  exact W.zret (v := r) hx hb hr (iv_ncr (by rw [hw]; exact iv_i2c _)) (fun t ht hW => ⟨⟨_, (), rfl, hw, trivial⟩, hS.F ht⟩) hS.2.2 dJ0_charAt_5068e_15

def sChr (k j : Nat) : Int := ((sByt.getD k []).getD j 0).toInt
theorem sChr_e {k j : Nat} (hk : k < 7) (hj : j < (sByt.getD k []).length) : ((((sByt.getD k []).getD j 0 &&& 255 : Int32)).toUInt32 % 65536).toInt32.toInt = sChr k j := by
  have key : ∀ k, k < 7 → ∀ j, j < (sByt.getD k []).length → ((((sByt.getD k []).getD j 0 &&& 255 : Int32)).toUInt32 % 65536).toInt32.toInt = sChr k j := by decide
  exact key k hk j hj
section STRR
variable {p : Program} {l : Launch} {e : Env} {R : Room} {s : State} {m : MethodId} {args : Array Value} {below : List Frame} {meth : Method} {c : Code} {H : Heap} {locs : List Loc} {Q : State → Prop} {cc : ByteArray} {pc : Nat} {ls : Array Slot} {rest : List Value} {A : Nat → Prop}
variable {dC : Nat → ClassId} {dI : Nat → Nat → Nat} {ad : Nat → Nat → Nat} {cid : Nat → ClassId} {a2 : Nat → Nat} {lx : List Nat} {sg : Nat → Int32} {gm : Nat → Nat → Int32} {lg : Nat → Nat → Int64} {own : String} {index nL : Nat} {cells slots : Nat}
theorem cw_schr2 {x i : Int32} (S : CallFix p m c cc nL s args tb own) (hlk : Cond.methodLink own index yJ0_charAt_5068e ∈ tb) (hx : iv 0 6 x) (hi : 0 ≤ i.toInt) (hj : i.toInt < ((sByt.getD x.toNatClampNeg []).length : Int)) (hsize : ls.size = nL) (hW : (rest.map fun v => v.category).sum ≤ 8) (hdg : decode cc pc = .ok (.invokevirtual index, 3)) (hf : cells ≤ R.cells ∧ slots ≤ R.slots) (hR : 4 ≤ R.frames ∧ 90 ≤ R.locals) (hP : va_P (dC, dI) vwCl (cW ad cid a2 lx sg gm lg) H) (hS : va_S A s.heap H locs) (hA : ∀ q, s.heap.size ≤ q → A q) (hG : CE ad A s)
    (kk : ∀ (r : Int32) (H1 : Heap) (locs1 : List Loc), r.toInt = sChr x.toNatClampNeg i.toInt.toNat → va_P (dC, dI) vwCl (cW ad cid a2 lx sg gm lg) H1 → va_S A s.heap H1 locs1 → W p l e R s m args below meth c H1 locs1 cells slots Q (F0 m (pc + 3) ls (.int r :: rest))) : W p l e R s m args below meth c H locs cells slots Q (F0 m pc ls (.int i :: eV (ad 37) x :: rest)) := by
  have hq9 := hG.2.2.2.1 x.toNatClampNeg (c7 hx)
  have hb := sb_len _ (c7 hx)
  rw [eV_ref hx.1]
  have hFc : ∀ q, H.size ≤ q → A q := fun q h => hA q (Nat.le_trans hS.1 h)
  refine va_calli (va_runV (cells := cells) (slots := slots) (As := [.int i]) (rest := rest) S (k_schar2 l (ad 37 x.toNatClampNeg) (ad 38 x.toNatClampNeg) _ _ A H.size i (by omega) hi hj) (cwV 1 S.2.2.2.2 (gd_V hlk kw_442 kw_443 kw_434 kw_1439) rfl rfl rfl (by decide +kernel) ⟨hR.1, by have := hR.2; show 8 + (2 + 11) + 64 ≤ _; omega⟩) ⟨SP_blind, va_Orc hq9.1 hS, fun U hU hW9 => ⟨rfl, by rw [hU], by rw [hU]; exact SQ.moved hW9.alike (hq9.kept hS.2.1), hFc⟩⟩ rfl rfl hsize rfl (lv_room hW) hdg ⟨by omega, by omega⟩) hS (fun q _ h => hFc q h) hFc (fun r u t H1 locs1 ht hvm hw hB hz1 hk1 hS1 => ?_)
  exact kk r H1 locs1 (by rw [hw]; exact sChr_e (c7 hx) (by show i.toInt.toNat < _; omega)) (hP.kept (fun k q hq => hk1 _ (vx_lt hP hq) (Nat.not_le.mpr (vx_lt hP hq)))) hS1
end STRR
