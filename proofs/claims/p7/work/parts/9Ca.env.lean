theorem e9_Z : ∀ k, k < 34 → (lw_tbl)[([1095, 1170, 1111, 1105, 1107, 2365, 1109, 1162, 1164, 1524, 1217, 1225, 1227, 1223, 1265, 1268, 1219, 1221, 1334, 1336, 1260, 1121, 1152, 1158, 1160, 1180, 1187, 1189, 1191, 2366, 2367, 2368, 2369, 2370] : List Nat).getD k 0]? = some (Cond.laysStatic "WiredBeans$Word" (wNm.getD k "") "LWiredBeans$Word;") := by decide +kernel
theorem e9_X : ∀ k, k < 34 → (flatC (Jvm.Cond.and given_1 narrow_1))[([91, 124, 103, 94, 97, 175, 100, 118, 121, 172, 139, 151, 154, 148, 160, 163, 142, 145, 166, 169, 157, 106, 109, 112, 115, 127, 130, 133, 136, 178, 181, 184, 187, 190] : List Nat).getD k 0]? = some (Cond.exactly (.static "WiredBeans$Word" (wNm.getD k "") "LWiredBeans$Word;") "WiredBeans$Word") := by decide +kernel
theorem e9_O : ∀ k, k < 34 → (flatC (Jvm.Cond.and given_1 narrow_1))[([92, 125, 104, 95, 98, 176, 101, 119, 122, 173, 140, 152, 155, 149, 161, 164, 143, 146, 167, 170, 158, 107, 110, 113, 116, 128, 131, 134, 137, 179, 182, 185, 188, 191] : List Nat).getD k 0]? = some (Cond.eq (.field (.static "WiredBeans$Word" (wNm.getD k "") "LWiredBeans$Word;") "java/lang/Enum" "ordinal" "I") (.int (nI k))) := by decide +kernel
theorem e9_K : ∀ k, k < 34 → (flatC (Jvm.Cond.and given_1 narrow_1))[([93, 126, 105, 96, 99, 177, 102, 120, 123, 174, 141, 153, 156, 150, 162, 165, 144, 147, 168, 171, 159, 108, 111, 114, 117, 129, 132, 135, 138, 180, 183, 186, 189, 192] : List Nat).getD k 0]? = some (Cond.eq (.field (.static "WiredBeans$Word" (wNm.getD k "") "LWiredBeans$Word;") "WiredBeans$Word" "key" "J") (.long (wKy.getD k 0))) := by decide +kernel
theorem e9_A : ∀ k, k < 34 → (flatC (Jvm.Cond.and given_1 narrow_1))[([15, 16, 17, 18, 19, 20, 21, 22, 23, 24, 25, 26, 27, 28, 29, 30, 31, 32, 33, 34, 35, 36, 37, 38, 39, 40, 41, 42, 43, 44, 45, 46, 47, 48] : List Nat).getD k 0]? = some (Cond.eq (.elem (.static "WiredBeans$Word" "ALL" "[LWiredBeans$Word;") (.int (Int32.ofNat k))) (.static "WiredBeans$Word" (wNm.getD k "") "LWiredBeans$Word;")) := by decide +kernel
theorem e9_S : ∀ k, k < 34 → (flatC (Jvm.Cond.and given_1 narrow_1))[([57, 58, 59, 60, 61, 62, 63, 64, 65, 66, 67, 68, 69, 70, 71, 72, 73, 74, 75, 76, 77, 78, 79, 80, 81, 82, 83, 84, 85, 86, 87, 88, 89, 90] : List Nat).getD k 0]? = some (Cond.eq (.elem (.static "WiredBeans$1" "$SwitchMap$WiredBeans$Word" "[I") (.int (Int32.ofNat k))) (.int (wSw.getD k 0))) := by decide +kernel
theorem e9_E : ∀ k, k < 7 → (flatC (Jvm.Cond.and given_1 narrow_1))[([262, 268, 274, 282, 289, 297, 305] : List Nat).getD k 0]? = some (Cond.exactly (.string (sOwn.getD k "") (sEnt.getD k 0)) "java/lang/String") := by decide +kernel
theorem e9_C : ∀ k, k < 7 → (flatC (Jvm.Cond.and given_1 narrow_1))[([263, 269, 275, 283, 290, 298, 306] : List Nat).getD k 0]? = some (Cond.eq (.field (.string (sOwn.getD k "") (sEnt.getD k 0)) "java/lang/String" "coder" "B") (.int 0)) := by decide +kernel
theorem e9_R : ∀ k, k < 7 → (flatC (Jvm.Cond.and given_1 narrow_1))[([264, 270, 276, 284, 291, 299, 307] : List Nat).getD k 0]? = some (Cond.arrayOf (.field (.string (sOwn.getD k "") (sEnt.getD k 0)) "java/lang/String" "value" "[B") .byte) := by decide +kernel
theorem e9_L : ∀ k, k < 7 → (flatC (Jvm.Cond.and given_1 narrow_1))[([265, 271, 277, 285, 292, 300, 308] : List Nat).getD k 0]? = some (Cond.eq (.length (.field (.string (sOwn.getD k "") (sEnt.getD k 0)) "java/lang/String" "value" "[B")) (.int (Int32.ofNat ((sByt.getD k []).length)))) := by decide +kernel
theorem e9_B : ∀ k, k < 7 → ∀ j, j < (sByt.getD k []).length → (flatC (Jvm.Cond.and given_1 narrow_1))[(([[266, 267], [272, 273], [278, 279, 280, 281], [286, 287, 288], [293, 294, 295, 296], [301, 302, 303, 304], [309, 310, 311, 312, 313]] : List (List Nat)).getD k []).getD j 0]? = some (Cond.eq (.elem (.field (.string (sOwn.getD k "") (sEnt.getD k 0)) "java/lang/String" "value" "[B") (.int (Int32.ofNat j))) (.int ((sByt.getD k []).getD j 0))) := by decide +kernel
theorem e9_F : ∀ k, k < 7 → (lw_tbl)[([977, 1030, 1031, 1032, 1033, 1292, 1299] : List Nat).getD k 0]? = some (Cond.stringRef (sOwn.getD k "") (sEnt.getD k 0) (sTxt.getD k "")) := by decide +kernel
set_option maxHeartbeats 8000000 in
set_option maxRecDepth 100000 in
/-- what the class meets at the law's start -/
theorem d_env0 {s : State} {b : Nat} {A : Nat → Prop} (hts : ∀ w ∈ lw_tbl, w.before #[Value.ref b] s = true) (hgv : (Jvm.Cond.and given_1 narrow_1).before #[Value.ref b] s = true) (hAo : ∀ a : Nat, a < s.heap.size → ¬ A a) : ∃ ad : Nat → Nat → Nat, CE ad A s ∧ NE s := by
  have hg := flat_of_before _ hgv
  have hbt : ∀ {w : Cond} {i : Nat}, lw_tbl[i]? = some w → w.before #[Value.ref b] s = true := fun h => hts _ (List.mem_of_getElem? h)
  have hbg : ∀ {w : Cond} {i : Nat}, (flatC (Jvm.Cond.and given_1 narrow_1))[i]? = some w → w.before #[Value.ref b] s = true := fun h => hg _ (List.mem_of_getElem? h)
  have hG : GE A s := ⟨⟨va_AO.of (hts (Cond.arrayOver (.object "WiredBeans$DeclaredClass")) (List.mem_of_getElem? (i := 190) (by decide +kernel))), va_AO.of (hts (Cond.arrayOver (.object "WiredBeans$Signature")) (List.mem_of_getElem? (i := 197) (by decide +kernel))), va_AO.of (hts (Cond.arrayOver (.object "WiredBeans$Element")) (List.mem_of_getElem? (i := 268) (by decide +kernel))), va_AO.of (hts (Cond.arrayOver (.object "WiredBeans$Bean")) (List.mem_of_getElem? (i := 455) (by decide +kernel)))⟩, ⟨va_Nw.of rfl (hts (Cond.castable "java/lang/IllegalArgumentException" "java/lang/IllegalArgumentException") (List.mem_of_getElem? (i := 862) (by decide +kernel))), va_Nw.of rfl (hts (Cond.castable "java/lang/IllegalStateException" "java/lang/IllegalStateException") (List.mem_of_getElem? (i := 1450) (by decide +kernel))), va_Nw.of rfl (hts (Cond.declares ⟨"java/lang/RuntimeException", "<init>", "()V"⟩) (List.mem_of_getElem? (i := 863) (by decide +kernel))), va_Nw.of rfl (hts (Cond.declares ⟨"java/lang/Exception", "<init>", "()V"⟩) (List.mem_of_getElem? (i := 865) (by decide +kernel))), va_Nw.of rfl (hts (Cond.declares ⟨"java/lang/Throwable", "<init>", "()V"⟩) (List.mem_of_getElem? (i := 867) (by decide +kernel)))⟩, va_Zqof (hts (Cond.laysStatic "java/util/ArrayList" "DEFAULTCAPACITY_EMPTY_ELEMENTDATA" "[Ljava/lang/Object;") (List.mem_of_getElem? (i := 474) (by decide +kernel))) (hts (Cond.initialized "java/util/ArrayList") (List.mem_of_getElem? (i := 158) (by decide +kernel))) (hg (Cond.isRef (.static "java/util/ArrayList" "DEFAULTCAPACITY_EMPTY_ELEMENTDATA" "[Ljava/lang/Object;")) (List.mem_of_getElem? (i := 4) (by decide +kernel))) hAo, vx_Zqof (hts (Cond.laysStatic "java/lang/Throwable" "UNASSIGNED_STACK" "[Ljava/lang/StackTraceElement;") (List.mem_of_getElem? (i := 887) (by decide +kernel))) (hts (Cond.initialized "java/lang/Throwable") (List.mem_of_getElem? (i := 162) (by decide +kernel))) (hg (Cond.isRef (.static "java/lang/Throwable" "UNASSIGNED_STACK" "[Ljava/lang/StackTraceElement;")) (List.mem_of_getElem? (i := 8) (by decide +kernel))) hAo, vx_Zqof (hts (Cond.laysStatic "java/lang/Throwable" "SUPPRESSED_SENTINEL" "Ljava/util/List;") (List.mem_of_getElem? (i := 889) (by decide +kernel))) (hts (Cond.initialized "java/lang/Throwable") (List.mem_of_getElem? (i := 162) (by decide +kernel))) (hg (Cond.isRef (.static "java/lang/Throwable" "SUPPRESSED_SENTINEL" "Ljava/util/List;")) (List.mem_of_getElem? (i := 9) (by decide +kernel))) hAo⟩
  obtain ⟨aw, haw⟩ : ∃ aw : Nat → Nat, ∀ k, k < 34 → (Term.static "WiredBeans$Word" (wNm.getD k "") "LWiredBeans$Word;").eval #[Value.ref b] s none [] s = some (.ref (aw k)) ∧ va_O "WiredBeans$Word" (aw k) A s s.heap := by
    refine Classical.axiomOfChoice (r := fun k a => k < 34 → (Term.static "WiredBeans$Word" (wNm.getD k "") "LWiredBeans$Word;").eval #[Value.ref b] s none [] s = some (.ref a) ∧ va_O "WiredBeans$Word" a A s s.heap) (fun k => ?_)
    by_cases hk : k < 34
    · have hx := hbg (e9_X k hk)
      obtain ⟨a, c, cA, kA, q1, q2, q3, q4, q5, q6, -⟩ := Cond.exactly_spec (args := #[Value.ref b]) (first := s) (o := none) (s := s) (idx := []) hx
      exact ⟨a, fun _ => ⟨q1, va_Oof hx q1 hAo⟩⟩
    · exact ⟨0, fun h => absurd h hk⟩
  obtain ⟨al, hal, hTal⟩ := va_Tof (tm := .static "WiredBeans$Word" "ALL" "[LWiredBeans$Word;") (ty := .object "WiredBeans$Word") (N := 34) (f := fun j => .ref (aw j)) (A := A) (by decide) (hg (Cond.arrayOf (.static "WiredBeans$Word" "ALL" "[LWiredBeans$Word;") (.object "WiredBeans$Word")) (List.mem_of_getElem? (i := 12) (by decide +kernel))) (va_eqt (hg (Cond.eq (.length (.static "WiredBeans$Word" "ALL" "[LWiredBeans$Word;")) (.int (Int32.ofNat 34))) (List.mem_of_getElem? (i := 13) (by decide +kernel)))) (fun j hj => va_eqv (hbg (e9_A j hj)) (haw j hj).1) hAo
  obtain ⟨sw, hsw, hTsw⟩ := va_Tof (tm := .static "WiredBeans$1" "$SwitchMap$WiredBeans$Word" "[I") (ty := .int) (N := 34) (f := fun j => .int (wSw.getD j 0)) (A := A) (by decide) (hg (Cond.arrayOf (.static "WiredBeans$1" "$SwitchMap$WiredBeans$Word" "[I") .int) (List.mem_of_getElem? (i := 55) (by decide +kernel))) (va_eqt (hg (Cond.eq (.length (.static "WiredBeans$1" "$SwitchMap$WiredBeans$Word" "[I")) (.int (Int32.ofNat 34))) (List.mem_of_getElem? (i := 56) (by decide +kernel)))) (fun j hj => va_eqt (hbg (e9_S j hj))) hAo
  obtain ⟨d0, hd0, hTd0⟩ := va_Tof (tm := .static "java/util/ArrayList" "DEFAULTCAPACITY_EMPTY_ELEMENTDATA" "[Ljava/lang/Object;") (ty := .object "java/lang/Object") (N := 0) (f := fun _ => .null) (A := A) (by decide) (hg (Cond.arrayOf (.static "java/util/ArrayList" "DEFAULTCAPACITY_EMPTY_ELEMENTDATA" "[Ljava/lang/Object;") (.object "java/lang/Object")) (List.mem_of_getElem? (i := 5) (by decide +kernel))) (va_eqt (hg (Cond.eq (.length (.static "java/util/ArrayList" "DEFAULTCAPACITY_EMPTY_ELEMENTDATA" "[Ljava/lang/Object;")) (.int (Int32.ofNat 0))) (List.mem_of_getElem? (i := 7) (by decide +kernel)))) (fun j hj => absurd hj (Nat.not_lt_zero j)) hAo
  obtain ⟨mi, hmi⟩ := va_Mi.of (C := "[Ljava/lang/Object;") (hg (Cond.isRef (.mirror "[Ljava/lang/Object;")) (List.mem_of_getElem? (i := 261) (by decide +kernel)))
  obtain ⟨ak, hak⟩ : ∃ ak : Nat → Nat × Nat, ∀ k, k < 7 → (Term.string (sOwn.getD k "") (sEnt.getD k 0)).eval #[Value.ref b] s none [] s = some (.ref (ak k).1) ∧ va_O "java/lang/String" (ak k).1 A s s.heap ∧ va_OF "java/lang/String" "coder" "B" (.int 0) (ak k).1 A s s.heap ∧ va_OF "java/lang/String" "value" "[B" (.ref (ak k).2) (ak k).1 A s s.heap ∧ va_T .byte (ak k).2 ((sByt.getD k []).length) (fun j => .int ((sByt.getD k []).getD j 0)) A s s.heap := by
    refine Classical.axiomOfChoice (r := fun k (a : Nat × Nat) => k < 7 → (Term.string (sOwn.getD k "") (sEnt.getD k 0)).eval #[Value.ref b] s none [] s = some (.ref a.1) ∧ va_O "java/lang/String" a.1 A s s.heap ∧ va_OF "java/lang/String" "coder" "B" (.int 0) a.1 A s s.heap ∧ va_OF "java/lang/String" "value" "[B" (.ref a.2) a.1 A s s.heap ∧ va_T .byte a.2 ((sByt.getD k []).length) (fun j => .int ((sByt.getD k []).getD j 0)) A s s.heap) (fun k => ?_)
    by_cases hk : k < 7
    · have hx := hbg (e9_E k hk)
      obtain ⟨a, c, cA, kA, q1, q2, q3, q4, q5, q6, -⟩ := Cond.exactly_spec (args := #[Value.ref b]) (first := s) (o := none) (s := s) (idx := []) hx
      have hln : (sByt.getD k []).length < 2 ^ 31 := by
        have key : ∀ k, k < 7 → (sByt.getD k []).length < 2 ^ 31 := by decide
        exact key k hk
      obtain ⟨t, ht, hT⟩ := va_Tof (f := fun j => .int ((sByt.getD k []).getD j 0)) (A := A) hln (hbg (e9_R k hk)) (va_eqt (hbg (e9_L k hk))) (fun j hj => va_eqt (hbg (e9_B k hk j hj))) hAo
      exact ⟨(a, t), fun _ => ⟨q1, va_Oof hx q1 hAo, vk_OFof q1 (va_eqt (hbg (e9_C k hk))) hAo, vk_OFof q1 ht hAo, hT⟩⟩
    · exact ⟨(0, 0), fun h => absurd h hk⟩
  have hcz : va_Z "java/lang/String" "COMPACT_STRINGS" "Z" (.int 1) A s s.heap := va_Zof (hts (Cond.laysStatic "java/lang/String" "COMPACT_STRINGS" "Z") (List.mem_of_getElem? (i := 991) (by decide +kernel))) (hts (Cond.initialized "java/lang/String") (List.mem_of_getElem? (i := 168) (by decide +kernel))) (va_eqi (hg (Cond.eq (.static "java/lang/String" "COMPACT_STRINGS" "Z") (.int 1)) (List.mem_of_getElem? (i := 49) (by decide +kernel)))) hAo
  have hsi : va_Zq "jdk/internal/util/Preconditions" "SIOOBE_FORMATTER" "Ljava/util/function/BiFunction;" A s s.heap := va_Zqof (hts (Cond.laysStatic "jdk/internal/util/Preconditions" "SIOOBE_FORMATTER" "Ljava/util/function/BiFunction;") (List.mem_of_getElem? (i := 1007) (by decide +kernel))) (hts (Cond.initialized "jdk/internal/util/Preconditions") (List.mem_of_getElem? (i := 170) (by decide +kernel))) (hg (Cond.isRef (.static "jdk/internal/util/Preconditions" "SIOOBE_FORMATTER" "Ljava/util/function/BiFunction;")) (List.mem_of_getElem? (i := 50) (by decide +kernel))) hAo
  refine ⟨fun t i => match t with | 33 => aw i | 34 => d0 | 35 => al | 36 => sw | 37 => (ak i).1 | 38 => (ak i).2 | _ => mi, ⟨hG, ⟨va_Nw.of rfl (hts (Cond.castable "java/lang/UnsupportedOperationException" "java/lang/UnsupportedOperationException") (List.mem_of_getElem? (i := 1486) (by decide +kernel))), va_Nw.of rfl (hts (Cond.castable "java/lang/IndexOutOfBoundsException" "java/lang/IndexOutOfBoundsException") (List.mem_of_getElem? (i := 1649) (by decide +kernel))), ⟨va_Nw.of rfl (hts (Cond.castable "WiredBeans$Element" "java/lang/Object") (List.mem_of_getElem? (i := 2350) (by decide +kernel))), va_Nw.of rfl (hts (Cond.castable "WiredBeans$Element" "WiredBeans$Element") (List.mem_of_getElem? (i := 2342) (by decide +kernel)))⟩, ⟨va_AO.of (hts (Cond.arrayOver (.object "java/lang/Object")) (List.mem_of_getElem? (i := 1397) (by decide +kernel))), va_Dc.of (hts (Cond.declares ⟨"java/lang/Object", "getClass", "()Ljava/lang/Class;"⟩) (List.mem_of_getElem? (i := 2345) (by decide +kernel))), hmi⟩, va_Zref (hts (Cond.laysStatic "java/util/ArrayList" "DEFAULTCAPACITY_EMPTY_ELEMENTDATA" "[Ljava/lang/Object;") (List.mem_of_getElem? (i := 474) (by decide +kernel))) (hts (Cond.initialized "java/util/ArrayList") (List.mem_of_getElem? (i := 158) (by decide +kernel))) hd0 hAo, hTd0⟩, ⟨fun k hk => ⟨va_Zref (hbt (e9_Z k hk)) (hts (Cond.initialized "WiredBeans$Word") (List.mem_of_getElem? (i := 167) (by decide +kernel))) (haw k hk).1 hAo, (haw k hk).2, vk_OFof (haw k hk).1 (va_eqt (hbg (e9_O k hk))) hAo, vk_OFof (haw k hk).1 (va_eqtl (hbg (e9_K k hk))) hAo⟩, ⟨va_Zref (hts (Cond.laysStatic "WiredBeans$Word" "ALL" "[LWiredBeans$Word;") (List.mem_of_getElem? (i := 960) (by decide +kernel))) (hts (Cond.initialized "WiredBeans$Word") (List.mem_of_getElem? (i := 167) (by decide +kernel))) hal hAo, hTal⟩, ⟨va_Zref (hts (Cond.laysStatic "WiredBeans$1" "$SwitchMap$WiredBeans$Word" "[I") (List.mem_of_getElem? (i := 1087) (by decide +kernel))) (hts (Cond.initialized "WiredBeans$1") (List.mem_of_getElem? (i := 172) (by decide +kernel))) hsw hAo, hTsw⟩⟩, ⟨fun k hk => ⟨(hak k hk).2.1, (hak k hk).2.2.1, (hak k hk).2.2.2.1, (hak k hk).2.2.2.2, hcz, hsi⟩, fun k hk => vk_R.of (hbt (e9_F k hk)) (hak k hk).1⟩⟩, ?_⟩
  exact ⟨va_Nc.of (hg (Cond.not (.castable "java/lang/UnsupportedOperationException" "java/lang/IllegalStateException")) (List.mem_of_getElem? (i := 225) (by decide +kernel))), va_Nc.of (hg (Cond.not (.castable "java/lang/UnsupportedOperationException" "java/lang/IndexOutOfBoundsException")) (List.mem_of_getElem? (i := 260) (by decide +kernel))), va_Nc.of (hg (Cond.not (.castable "java/lang/IndexOutOfBoundsException" "java/lang/IllegalStateException")) (List.mem_of_getElem? (i := 226) (by decide +kernel)))⟩

theorem ar_p {s : State} {b : Nat} {ty : FieldType} (h : (Cond.arrayClass ty).before #[Value.ref b] s = true) (hp : ∀ C, ty ≠ .object C) : ∃ cA : ClassId, ArrOfT s cA ty ∧ va_RA s cA ty := by
  obtain ⟨c, k, comp, h1, h2, h3⟩ := Cond.arrayClass_spec h
  refine ⟨c, fun n z => ⟨fun k h => (by cases h), k, h2, comp, h3⟩, ?_⟩
  cases ty with
  | object C => exact absurd rfl (hp C)
  | _ => exact h1
theorem ar_o {s : State} {C : String} (h : va_AO C s) : ∃ cA : ClassId, ArrOfT s cA (.object C) ∧ va_RA s cA (.object C) := by
  obtain ⟨comp, c, k, h1, h2, h3, h4, h5⟩ := Cond.arrayOver_spec h
  exact ⟨c, fun n z => ⟨fun k h => (by cases h), k, h3, comp, h4⟩, k, comp, h3, h4, h1, h5⟩
theorem d_cid0 {s : State} {b : Nat} {A : Nat → Prop} {ad : Nat → Nat → Nat} (hts : ∀ w ∈ lw_tbl, w.before #[Value.ref b] s = true) (hG : CE ad A s) : ∃ cid : Nat → ClassId, ∀ t, t < 33 → ArrOfT s (cid t) (cTy t) ∧ va_RA s (cid t) (cTy t) := by
  obtain ⟨ci, hci⟩ := ar_p (ty := .int) (hts (Cond.arrayClass .int) (List.mem_of_getElem? (i := 231) (by decide +kernel))) (fun C q => by cases q)
  obtain ⟨cc, hcc⟩ := ar_p (ty := .char) (hts (Cond.arrayClass .char) (List.mem_of_getElem? (i := 386) (by decide +kernel))) (fun C q => by cases q)
  obtain ⟨cl, hcl⟩ := ar_p (ty := .long) (hts (Cond.arrayClass .long) (List.mem_of_getElem? (i := 412) (by decide +kernel))) (fun C q => by cases q)
  obtain ⟨c2, hc2⟩ := ar_o hG.1.1.1
  obtain ⟨c8, hc8⟩ := ar_o hG.1.1.2.1
  obtain ⟨c3, hc3⟩ := ar_o hG.1.1.2.2.1
  obtain ⟨c1, hc1⟩ := ar_o hG.1.1.2.2.2
  obtain ⟨cO, hcO⟩ := ar_o hG.2.1.2.2.2.1.1
  refine ⟨fun t => match cTy t with | .int => ci | .char => cc | .long => cl | .object C => (if C = RX2 then c2 else if C = RX8 then c8 else if C = RX3 then c3 else if C = RX1 then c1 else cO) | _ => ci, fun t ht => ?_⟩
  match t, ht with
  | 0, _ => exact hcO
  | 1, _ => exact hcO
  | 2, _ => exact hcO
  | 3, _ => exact hcO
  | 4, _ => exact hcO
  | 5, _ => exact hcO
  | 6, _ => exact hcO
  | 7, _ => exact hcO
  | 8, _ => exact hcO
  | 9, _ => exact hcO
  | 10, _ => exact hcO
  | 11, _ => exact hcO
  | 12, _ => exact hc2
  | 13, _ => exact hcc
  | 14, _ => exact hc3
  | 15, _ => exact hcl
  | 16, _ => exact hci
  | 17, _ => exact hci
  | 18, _ => exact hcc
  | 19, _ => exact hc1
  | 20, _ => exact hc1
  | 21, _ => exact hci
  | 22, _ => exact hci
  | 23, _ => exact hci
  | 24, _ => exact hc1
  | 25, _ => exact hci
  | 26, _ => exact hci
  | 27, _ => exact hci
  | 28, _ => exact hc8
  | 29, _ => exact hc8
  | 30, _ => exact hci
  | 31, _ => exact hcc
  | 32, _ => exact hcO
  | t + 33, h => exact absurd h (by omega)
