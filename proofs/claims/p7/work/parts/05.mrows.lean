def mK : List Nat := [0, 1, 2, 3, 4, 6, 7, 8, 9, 10, 11, 12, 13, 14, 15, 16, 17, 18, 19, 26, 27, 28, 29, 30, 31, 32, 33, 34, 35, 36, 37, 38, 39, 42, 43, 44, 45, 46, 47, 53, 54, 55, 56, 57, 58, 59, 60, 61, 62, 64, 65, 66, 67, 68, 69, 70, 71, 72, 73, 75]
def mArr (k : Nat) : Bool := mK.contains k
def mLong (k : Nat) : Bool := [0, 1, 2, 34, 35].contains k
def mLen (k : Nat) : Nat := match k with
  | 0 => 10
  | 1 => 11
  | 2 => 5
  | 3 => 5
  | 4 => 5
  | 6 => 8
  | 7 => 8
  | 8 => 32
  | 9 => 96
  | 10 => 8
  | 11 => 64
  | 12 => 64
  | 13 => 8
  | 14 => 32
  | 15 => 32
  | 16 => 32
  | 17 => 96
  | 18 => 32
  | 19 => 1200
  | 26 => 80
  | 27 => 80
  | 28 => 80
  | 29 => 80
  | 30 => 80
  | 31 => 80
  | 32 => 80
  | 33 => 80
  | 34 => 80
  | 35 => 960
  | 36 => 960
  | 37 => 960
  | 38 => 2000
  | 39 => 1920
  | 42 => 80
  | 43 => 80
  | 44 => 80
  | 45 => 2080
  | 46 => 80
  | 47 => 2080
  | 53 => 60
  | 54 => 60
  | 55 => 400
  | 56 => 400
  | 57 => 400
  | 58 => 400
  | 59 => 80
  | 60 => 80
  | 61 => 80
  | 62 => 80
  | 64 => 81
  | 65 => 81
  | 66 => 81
  | 67 => 81
  | 68 => 81
  | 69 => 81
  | 70 => 405
  | 71 => 405
  | 72 => 2430
  | 73 => 2430
  | 75 => 4
  | _ => 0
def mTy (k : Nat) : FieldType := match k with
  | 0 => .long
  | 1 => .long
  | 2 => .long
  | 3 => .int
  | 4 => .int
  | 6 => .int
  | 7 => .int
  | 8 => .int
  | 9 => .int
  | 10 => .int
  | 11 => .int
  | 12 => .int
  | 13 => .int
  | 14 => .int
  | 15 => .int
  | 16 => .int
  | 17 => .int
  | 18 => .boolean
  | 19 => .byte
  | 26 => .int
  | 27 => .int
  | 28 => .int
  | 29 => .int
  | 30 => .int
  | 31 => .int
  | 32 => .int
  | 33 => .int
  | 34 => .long
  | 35 => .long
  | 36 => .int
  | 37 => .int
  | 38 => .byte
  | 39 => .byte
  | 42 => .int
  | 43 => .int
  | 44 => .int
  | 45 => .int
  | 46 => .int
  | 47 => .int
  | 53 => .int
  | 54 => .int
  | 55 => .int
  | 56 => .int
  | 57 => .int
  | 58 => .int
  | 59 => .int
  | 60 => .int
  | 61 => .boolean
  | 62 => .boolean
  | 64 => .int
  | 65 => .int
  | 66 => .int
  | 67 => .int
  | 68 => .int
  | 69 => .int
  | 70 => .int
  | 71 => .int
  | 72 => .int
  | 73 => .int
  | 75 => .int
  | _ => .int
def mfv (ad : Nat → Nat) (sg : Nat → Int32) (k : Nat) : Value := if mArr k then .ref (ad k) else .int (sg k)
def mfs (ad : Nat → Nat) (sg : Nat → Int32) : List Value := (List.range 77).map (mfv ad sg)
def mE9 (cid : Nat → ClassId) (gm : Nat → Nat → Int32) (lg : Nat → Nat → Int64) (k : Nat) : va_E := .inl (cid k, mLen k, if mLong k then .inr (.inl (lg k)) else .inl (gm k))
def mW (h0 : Nat) (ad : Nat → Nat) (cid : Nat → ClassId) (sg : Nat → Int32) (gm : Nat → Nat → Int32) (lg : Nat → Nat → Int64) : va_W := (h0, .inr (12, mfs ad sg)) :: mK.map (fun k => (ad k, mE9 cid gm lg k))
def mT (cid : Nat → ClassId) : List (ClassId × FieldType) := mK.map (fun k => (cid k, mTy k))
theorem mK_inj : ∀ i, i < 60 → ∀ j, j < 60 → mK[i]? = mK[j]? → i = j := by decide +kernel
theorem mK_len : mK.length = 60 := by decide
theorem mfs_get {ad : Nat → Nat} {sg : Nat → Int32} {k : Nat} (hk : k < 77) : (mfs ad sg)[k]? = some (mfv ad sg k) := by
  unfold mfs
  rw [List.getElem?_map, List.getElem?_range hk]
  rfl
theorem mfs_set {ad : Nat → Nat} {sg : Nat → Int32} {k : Nat} (hk : k < 77) (hm : mArr k = false) (x : Int32) : (mfs ad sg).set k (.int x) = mfs ad (va_up sg k x) := by
  apply List.ext_getElem?
  intro j
  by_cases hj : j = k
  · subst hj
    rw [List.getElem?_set_self (by unfold mfs; rw [List.length_map, List.length_range]; exact hk), mfs_get hk]
    unfold mfv
    rw [hm, va_up_self]
    rfl
  · rw [List.getElem?_set_ne (Ne.symm hj)]
    by_cases h7 : j < 77
    · rw [mfs_get h7, mfs_get h7]
      unfold mfv
      rw [va_up_ne sg x hj]
    · unfold mfs
      rw [List.getElem?_eq_none (by rw [List.length_map, List.length_range]; omega), List.getElem?_eq_none (by rw [List.length_map, List.length_range]; omega)]
section MR
variable {p : Program} {l : Launch} {e : Env} {R : Room} {s : State} {m : MethodId} {args : Array Value} {below : List Frame} {meth : Method} {c : Code} {H : Heap} {locs : List Loc} {cells slots : Nat} {Q : State → Prop} {cc : ByteArray} {pc : Nat} {ls : Array Slot} {rest : List Value} {A : Nat → Prop} {H0 : Heap}
variable {dC : Nat → ClassId} {dI : Nat → Nat → Nat} {h0 : Nat} {ad : Nat → Nat} {cid : Nat → ClassId} {sg : Nat → Int32} {gm : Nat → Nat → Int32} {lg : Nat → Nat → Int64} {Ts : List Cond} {own : String} {index : Nat}
theorem mW_pos {i k : Nat} (hi : mK[i]? = some k) : (mW h0 ad cid sg gm lg)[i + 1]? = some (ad k, mE9 cid gm lg k) := by
  unfold mW
  rw [List.getElem?_cons_succ, List.getElem?_map, hi]
  rfl
theorem mT_pos {i k : Nat} (hi : mK[i]? = some k) : (mT cid)[i]? = some (cid k, mTy k) := by
  unfold mT
  rw [List.getElem?_map, hi]
  rfl
theorem mW_set {i k : Nat} (hi : mK[i]? = some k) (hl : mLong k = false) (g : Nat → Int32) : (mW h0 ad cid sg gm lg).set (i + 1) (ad k, .inl (cid k, mLen k, .inl g)) = mW h0 ad cid sg (va_up gm k g) lg := by
  unfold mW
  rw [List.set_cons_succ]
  congr 1
  have hi6 : i < mK.length := (List.getElem?_eq_some_iff.mp hi).1
  apply List.ext_getElem?
  intro j
  by_cases hj : j = i
  · subst hj
    rw [List.getElem?_set_self (by rw [List.length_map]; exact hi6), List.getElem?_map, hi]
    show some (ad k, Sum.inl (cid k, mLen k, Sum.inl g)) = some (ad k, mE9 cid (va_up gm k g) lg k)
    unfold mE9
    rw [hl, va_up_self]
    rfl
  · rw [List.getElem?_set_ne (Ne.symm hj), List.getElem?_map, List.getElem?_map]
    cases hb : mK[j]? with
    | none => rfl
    | some k2 =>
      have hj6 : j < mK.length := (List.getElem?_eq_some_iff.mp hb).1
      have hne : k2 ≠ k := fun h2 => hj (mK_inj j (by rw [← mK_len]; exact hj6) i (by rw [← mK_len]; exact hi6) (by rw [hb, hi, h2]))
      show some (ad k2, mE9 cid gm lg k2) = some (ad k2, mE9 cid (va_up gm k g) lg k2)
      unfold mE9
      rw [va_up_ne gm g hne]
theorem mW_setL {i k : Nat} (hi : mK[i]? = some k) (hl : mLong k = true) (g : Nat → Int64) : (mW h0 ad cid sg gm lg).set (i + 1) (ad k, .inl (cid k, mLen k, .inr (.inl g))) = mW h0 ad cid sg gm (va_up lg k g) := by
  unfold mW
  rw [List.set_cons_succ]
  congr 1
  have hi6 : i < mK.length := (List.getElem?_eq_some_iff.mp hi).1
  apply List.ext_getElem?
  intro j
  by_cases hj : j = i
  · subst hj
    rw [List.getElem?_set_self (by rw [List.length_map]; exact hi6), List.getElem?_map, hi]
    show some (ad k, Sum.inl (cid k, mLen k, Sum.inr (Sum.inl g))) = some (ad k, mE9 cid gm (va_up lg k g) k)
    unfold mE9
    rw [hl, va_up_self]
    rfl
  · rw [List.getElem?_set_ne (Ne.symm hj), List.getElem?_map, List.getElem?_map]
    cases hb : mK[j]? with
    | none => rfl
    | some k2 =>
      have hj6 : j < mK.length := (List.getElem?_eq_some_iff.mp hb).1
      have hne : k2 ≠ k := fun h2 => hj (mK_inj j (by rw [← mK_len]; exact hj6) i (by rw [← mK_len]; exact hi6) (by rw [hb, hi, h2]))
      show some (ad k2, mE9 cid gm lg k2) = some (ad k2, mE9 cid gm (va_up lg k g) k2)
      unfold mE9
      rw [va_up_ne lg g hne]
theorem mr_get (hexec : p.tables.exec = Jvm.exec) (hb : c.code = cc) (hts : ∀ w ∈ Ts, w.before args s = true) (hin : ∀ w ∈ u_ws RX13 TX13 77, w ∈ Ts) (hown : s.vm.findClass own = some m.cls) (hK : va_K (dC, dI) vwCl (mT cid) s) (hP : va_P (dC, dI) vwCl (mW h0 ad cid sg gm lg) H) (k : Nat) (hk : k < 77) (hlink : (Cond.fieldLink own index (TX13 k).1 (TX13 k).2.1 (TX13 k).2.2.1).before args s = true) {v : Value} (hv : mfv ad sg k = v) (hdg : decode cc pc = .ok (.getfield index, 3))
    (kk : W p l e R s m args below meth c H locs cells slots Q (F0 m (pc + 3) ls (v :: rest))) : W p l e R s m args below meth c H locs cells slots Q (F0 m pc ls (.ref h0 :: rest)) :=
  va_get (D := (dC, dI)) (ci := 12) (C := RX13) (T := TX13) (N := 77) hexec hb hts hin hown hK hP 0 rfl rfl k hk hlink (fun _ h9 => h9) (by rw [mfs_get hk, hv]) hdg kk
theorem mr_put (hexec : p.tables.exec = Jvm.exec) (hb : c.code = cc) (hts : ∀ w ∈ Ts, w.before args s = true) (hin : ∀ w ∈ u_ws RX13 TX13 77, w ∈ Ts) (hown : s.vm.findClass own = some m.cls) (hK : va_K (dC, dI) vwCl (mT cid) s) (hP : va_P (dC, dI) vwCl (mW h0 ad cid sg gm lg) H) (hD : va_D A (mW h0 ad cid sg gm lg)) (hS : va_S A H0 H locs) (k : Nat) (hk : k < 77) (hm : mArr k = false) (hlink : (Cond.fieldLink own index (TX13 k).1 (TX13 k).2.1 (TX13 k).2.2.1).before args s = true) (hfin : (TX13 k).2.2.2 = false) {x : Int32} (hn : narrow (tyX13 k) (.int x) = .int x) (hfit : fits (tyX13 k) (.int x) = true) (hdg : decode cc pc = .ok (.putfield index, 3))
    (kk : ∀ (H1 : Heap) (locs1 : List Loc), va_P (dC, dI) vwCl (mW h0 ad cid (va_up sg k x) gm lg) H1 → va_D A (mW h0 ad cid (va_up sg k x) gm lg) → va_S A H0 H1 locs1 → W p l e R s m args below meth c H1 locs1 cells slots Q (F0 m (pc + 3) ls rest)) : W p l e R s m args below meth c H locs cells slots Q (F0 m pc ls (.int x :: .ref h0 :: rest)) :=
  va_put (D := (dC, dI)) (ci := 12) (v := .int x) (ty := tyX13 k) (C := RX13) (T := TX13) (N := 77) hexec hb hts hin tyX13 tyX13_ok nmX13 hown hK hP hD hS 0 rfl rfl k hk hlink (fun _ h9 => h9) hfin (tyX13_ok k hk) hn hfit (by unfold mfs; rw [List.length_map, List.length_range]; exact hk) hdg
    (fun H1 locs1 g1 g2 g3 => kk H1 locs1 (by rw [mfs_set hk hm] at g1; exact g1) (by rw [mfs_set hk hm] at g2; exact g2) g3)
theorem mr_iald (hexec : p.tables.exec = Jvm.exec) (hb : c.code = cc) (hK : va_K (dC, dI) vwCl (mT cid) s) (hP : va_P (dC, dI) vwCl (mW h0 ad cid sg gm lg) H) (i : Nat) {k : Nat} (hi : mK[i]? = some k) (hl : mLong k = false) (ht : mTy k = .int) {x : Int32} (hin : vp_in x (mLen k)) (hdg : decode cc pc = .ok (.iaload, 1))
    (kk : W p l e R s m args below meth c H locs cells slots Q (F0 m (pc + 1) ls (.int (gm k x.toNatClampNeg) :: rest))) : W p l e R s m args below meth c H locs cells slots Q (F0 m pc ls (.int x :: .ref (ad k) :: rest)) :=
  va_iald (D := (dC, dI)) hexec hb hK hP (i + 1) i (by rw [mW_pos hi]; unfold mE9; rw [hl]; rfl) (by rw [mT_pos hi, ht]) hin hdg kk
theorem mr_zald (hexec : p.tables.exec = Jvm.exec) (hb : c.code = cc) (hK : va_K (dC, dI) vwCl (mT cid) s) (hP : va_P (dC, dI) vwCl (mW h0 ad cid sg gm lg) H) (i : Nat) {k : Nat} (hi : mK[i]? = some k) (hl : mLong k = false) (ht : mTy k = .boolean) {x : Int32} (hin : vp_in x (mLen k)) (hdg : decode cc pc = .ok (.baload, 1))
    (kk : W p l e R s m args below meth c H locs cells slots Q (F0 m (pc + 1) ls (.int (gm k x.toNatClampNeg) :: rest))) : W p l e R s m args below meth c H locs cells slots Q (F0 m pc ls (.int x :: .ref (ad k) :: rest)) :=
  va_zald (D := (dC, dI)) hexec hb hK hP (i + 1) i (by rw [mW_pos hi]; unfold mE9; rw [hl]; rfl) (by rw [mT_pos hi, ht]) hin hdg kk
theorem mr_bald (hexec : p.tables.exec = Jvm.exec) (hb : c.code = cc) (hK : va_K (dC, dI) vwCl (mT cid) s) (hP : va_P (dC, dI) vwCl (mW h0 ad cid sg gm lg) H) (i : Nat) {k : Nat} (hi : mK[i]? = some k) (hl : mLong k = false) (ht : mTy k = .byte) {x : Int32} (hin : vp_in x (mLen k)) (hdg : decode cc pc = .ok (.baload, 1))
    (kk : W p l e R s m args below meth c H locs cells slots Q (F0 m (pc + 1) ls (.int (gm k x.toNatClampNeg) :: rest))) : W p l e R s m args below meth c H locs cells slots Q (F0 m pc ls (.int x :: .ref (ad k) :: rest)) :=
  va_bald (D := (dC, dI)) hexec hb hK hP (i + 1) i (by rw [mW_pos hi]; unfold mE9; rw [hl]; rfl) (by rw [mT_pos hi, ht]) hin hdg kk
theorem mr_lald (hexec : p.tables.exec = Jvm.exec) (hb : c.code = cc) (hK : va_K (dC, dI) vwCl (mT cid) s) (hP : va_P (dC, dI) vwCl (mW h0 ad cid sg gm lg) H) (i : Nat) {k : Nat} (hi : mK[i]? = some k) (hl : mLong k = true) (ht : mTy k = .long) {x : Int32} (hin : vp_in x (mLen k)) (hdg : decode cc pc = .ok (.laload, 1))
    (kk : W p l e R s m args below meth c H locs cells slots Q (F0 m (pc + 1) ls (.long (lg k x.toNatClampNeg) :: rest))) : W p l e R s m args below meth c H locs cells slots Q (F0 m pc ls (.int x :: .ref (ad k) :: rest)) :=
  va_lald (D := (dC, dI)) hexec hb hK hP (i + 1) i (by rw [mW_pos hi]; unfold mE9; rw [hl]; rfl) (by rw [mT_pos hi, ht]) hin hdg kk
theorem mr_iast (hexec : p.tables.exec = Jvm.exec) (hb : c.code = cc) (hK : va_K (dC, dI) vwCl (mT cid) s) (hP : va_P (dC, dI) vwCl (mW h0 ad cid sg gm lg) H) (hD : va_D A (mW h0 ad cid sg gm lg)) (hS : va_S A H0 H locs) (i : Nat) {k : Nat} (hi : mK[i]? = some k) (hl : mLong k = false) (ht : mTy k = .int) {j x : Int32} (hin : vp_in j (mLen k)) (hdg : decode cc pc = .ok (.iastore, 1))
    (kk : ∀ (H1 : Heap) (locs1 : List Loc), va_P (dC, dI) vwCl (mW h0 ad cid sg (va_up gm k (upd (gm k) j.toNatClampNeg x)) lg) H1 → va_D A (mW h0 ad cid sg (va_up gm k (upd (gm k) j.toNatClampNeg x)) lg) → va_S A H0 H1 locs1 → W p l e R s m args below meth c H1 locs1 cells slots Q (F0 m (pc + 1) ls rest)) : W p l e R s m args below meth c H locs cells slots Q (F0 m pc ls (.int x :: .int j :: .ref (ad k) :: rest)) :=
  va_iast (D := (dC, dI)) (f := gm k) hexec hb hK hP hD hS (i + 1) i (by rw [mW_pos hi]; unfold mE9; rw [hl]; rfl) (by rw [mT_pos hi, ht]) hin hdg (fun H1 locs1 g1 g2 g3 => kk H1 locs1 (by rw [mW_set hi hl] at g1; exact g1) (by rw [mW_set hi hl] at g2; exact g2) g3)
theorem mr_zast (hexec : p.tables.exec = Jvm.exec) (hb : c.code = cc) (hK : va_K (dC, dI) vwCl (mT cid) s) (hP : va_P (dC, dI) vwCl (mW h0 ad cid sg gm lg) H) (hD : va_D A (mW h0 ad cid sg gm lg)) (hS : va_S A H0 H locs) (i : Nat) {k : Nat} (hi : mK[i]? = some k) (hl : mLong k = false) (ht : mTy k = .boolean) {j x : Int32} (hin : vp_in j (mLen k)) (hdg : decode cc pc = .ok (.bastore, 1))
    (kk : ∀ (H1 : Heap) (locs1 : List Loc), va_P (dC, dI) vwCl (mW h0 ad cid sg (va_up gm k (upd (gm k) j.toNatClampNeg (vp_nar .boolean x))) lg) H1 → va_D A (mW h0 ad cid sg (va_up gm k (upd (gm k) j.toNatClampNeg (vp_nar .boolean x))) lg) → va_S A H0 H1 locs1 → W p l e R s m args below meth c H1 locs1 cells slots Q (F0 m (pc + 1) ls rest)) : W p l e R s m args below meth c H locs cells slots Q (F0 m pc ls (.int x :: .int j :: .ref (ad k) :: rest)) :=
  va_zast (D := (dC, dI)) (f := gm k) hexec hb hK hP hD hS (i + 1) i (by rw [mW_pos hi]; unfold mE9; rw [hl]; rfl) (by rw [mT_pos hi, ht]) hin hdg (fun H1 locs1 g1 g2 g3 => kk H1 locs1 (by rw [mW_set hi hl] at g1; exact g1) (by rw [mW_set hi hl] at g2; exact g2) g3)
theorem mr_bast (hexec : p.tables.exec = Jvm.exec) (hb : c.code = cc) (hK : va_K (dC, dI) vwCl (mT cid) s) (hP : va_P (dC, dI) vwCl (mW h0 ad cid sg gm lg) H) (hD : va_D A (mW h0 ad cid sg gm lg)) (hS : va_S A H0 H locs) (i : Nat) {k : Nat} (hi : mK[i]? = some k) (hl : mLong k = false) (ht : mTy k = .byte) {j x : Int32} (hin : vp_in j (mLen k)) (hdg : decode cc pc = .ok (.bastore, 1))
    (kk : ∀ (H1 : Heap) (locs1 : List Loc), va_P (dC, dI) vwCl (mW h0 ad cid sg (va_up gm k (upd (gm k) j.toNatClampNeg (vp_nar .byte x))) lg) H1 → va_D A (mW h0 ad cid sg (va_up gm k (upd (gm k) j.toNatClampNeg (vp_nar .byte x))) lg) → va_S A H0 H1 locs1 → W p l e R s m args below meth c H1 locs1 cells slots Q (F0 m (pc + 1) ls rest)) : W p l e R s m args below meth c H locs cells slots Q (F0 m pc ls (.int x :: .int j :: .ref (ad k) :: rest)) :=
  va_bast (D := (dC, dI)) (f := gm k) hexec hb hK hP hD hS (i + 1) i (by rw [mW_pos hi]; unfold mE9; rw [hl]; rfl) (by rw [mT_pos hi, ht]) hin hdg (fun H1 locs1 g1 g2 g3 => kk H1 locs1 (by rw [mW_set hi hl] at g1; exact g1) (by rw [mW_set hi hl] at g2; exact g2) g3)
theorem mr_last (hexec : p.tables.exec = Jvm.exec) (hb : c.code = cc) (hK : va_K (dC, dI) vwCl (mT cid) s) (hP : va_P (dC, dI) vwCl (mW h0 ad cid sg gm lg) H) (hD : va_D A (mW h0 ad cid sg gm lg)) (hS : va_S A H0 H locs) (i : Nat) {k : Nat} (hi : mK[i]? = some k) (hl : mLong k = true) (ht : mTy k = .long) {j : Int32} {x : Int64} (hin : vp_in j (mLen k)) (hdg : decode cc pc = .ok (.lastore, 1))
    (kk : ∀ (H1 : Heap) (locs1 : List Loc), va_P (dC, dI) vwCl (mW h0 ad cid sg gm (va_up lg k (vp_updL (lg k) j.toNatClampNeg x))) H1 → va_D A (mW h0 ad cid sg gm (va_up lg k (vp_updL (lg k) j.toNatClampNeg x))) → va_S A H0 H1 locs1 → W p l e R s m args below meth c H1 locs1 cells slots Q (F0 m (pc + 1) ls rest)) : W p l e R s m args below meth c H locs cells slots Q (F0 m pc ls (.long x :: .int j :: .ref (ad k) :: rest)) :=
  va_last (D := (dC, dI)) (f := lg k) hexec hb hK hP hD hS (i + 1) i (by rw [mW_pos hi]; unfold mE9; rw [hl]; rfl) (by rw [mT_pos hi, ht]) hin hdg (fun H1 locs1 g1 g2 g3 => kk H1 locs1 (by rw [mW_setL hi hl] at g1; exact g1) (by rw [mW_setL hi hl] at g2; exact g2) g3)
end MR
abbrev MSt : Type := (Nat → Int32) × (Nat → Nat → Int32) × (Nat → Nat → Int64)
def MPre (dC : Nat → ClassId) (dI : Nat → Nat → Nat) (h0 : Nat) (ad : Nat → Nat) (cid : Nat → ClassId) (sg : Nat → Int32) (gm : Nat → Nat → Int32) (lg : Nat → Nat → Int64) (sz : Nat) (U : State) : Prop := U.heap.size = sz ∧ va_P (dC, dI) vwCl (mW h0 ad cid sg gm lg) U.heap ∧ va_K (dC, dI) vwCl (mT cid) U ∧ va_D (fun _ => True) (mW h0 ad cid sg gm lg)
def MB (dC : Nat → ClassId) (dI : Nat → Nat → Nat) (h0 : Nat) (ad : Nat → Nat) (cid : Nat → ClassId) (A : Nat → Prop) (u : MSt) (t : State) : Prop := va_P (dC, dI) vwCl (mW h0 ad cid u.1 u.2.1 u.2.2) t.heap ∧ va_K (dC, dI) vwCl (mT cid) t ∧ va_D A (mW h0 ad cid u.1 u.2.1 u.2.2)
/-- a method of the reference that answers an int: from the state u, to a state and an answer with post -/
def MMi (l : Launch) (dC : Nat → ClassId) (dI : Nat → Nat → Nat) (y : MethodName) (ws : List Cond) (rm : Room) (h0 : Nat) (ad : Nat → Nat) (cid : Nat → ClassId) (as : List Value) (sg : Nat → Int32) (gm : Nat → Nat → Int32) (lg : Nat → Nat → Int64) (post : Int32 → MSt → Prop) : Prop :=
  ∀ sz, Met l y ws rm (va_Pc (.ref h0 :: as) (MPre dC dI h0 ad cid sg gm lg sz)) (va_Qi post (MB dC dI h0 ad cid (va_A (mW h0 ad cid sg gm lg) sz)) (va_A (mW h0 ad cid sg gm lg) sz)) 0 0 (va_A (mW h0 ad cid sg gm lg) sz)
def MMl (l : Launch) (dC : Nat → ClassId) (dI : Nat → Nat → Nat) (y : MethodName) (ws : List Cond) (rm : Room) (h0 : Nat) (ad : Nat → Nat) (cid : Nat → ClassId) (as : List Value) (sg : Nat → Int32) (gm : Nat → Nat → Int32) (lg : Nat → Nat → Int64) (post : Int64 → MSt → Prop) : Prop :=
  ∀ sz, Met l y ws rm (va_Pc (.ref h0 :: as) (MPre dC dI h0 ad cid sg gm lg sz)) (va_Ql post (MB dC dI h0 ad cid (va_A (mW h0 ad cid sg gm lg) sz)) (va_A (mW h0 ad cid sg gm lg) sz)) 0 0 (va_A (mW h0 ad cid sg gm lg) sz)
def MMv (l : Launch) (dC : Nat → ClassId) (dI : Nat → Nat → Nat) (y : MethodName) (ws : List Cond) (rm : Room) (h0 : Nat) (ad : Nat → Nat) (cid : Nat → ClassId) (as : List Value) (sg : Nat → Int32) (gm : Nat → Nat → Int32) (lg : Nat → Nat → Int64) (post : MSt → Prop) : Prop :=
  ∀ sz, Met l y ws rm (va_Pc (.ref h0 :: as) (MPre dC dI h0 ad cid sg gm lg sz)) (va_Qv post (MB dC dI h0 ad cid (va_A (mW h0 ad cid sg gm lg) sz)) (va_A (mW h0 ad cid sg gm lg) sz)) 0 0 (va_A (mW h0 ad cid sg gm lg) sz)
theorem MPre_blind {dC : Nat → ClassId} {dI : Nat → Nat → Nat} {h0 : Nat} {ad : Nat → Nat} {cid : Nat → ClassId} {sg : Nat → Int32} {gm : Nat → Nat → Int32} {lg : Nat → Nat → Int64} {sz : Nat} {as : List Value} : FrameBlind (va_Pc as (MPre dC dI h0 ad cid sg gm lg sz)) := fun a U g mk q => by
  obtain ⟨q0, q1, qP, qK, qD⟩ := q
  exact ⟨q0, q1, qP, va_K.moved (u := U) (U := U.calling g mk a) (Vm.Alike.refl U.vm) qK, qD⟩
section MC
variable {p : Program} {l : Launch} {e : Env} {R : Room} {s : State} {m : MethodId} {args : Array Value} {below : List Frame} {meth : Method} {c : Code} {H : Heap} {locs : List Loc} {cells slots : Nat} {Q : State → Prop} {cc : ByteArray} {pc : Nat} {ls : Array Slot} {rest : List Value} {A : Nat → Prop} {H0 : Heap}
variable {dC : Nat → ClassId} {dI : Nat → Nat → Nat} {h0 : Nat} {ad : Nat → Nat} {cid : Nat → ClassId} {sg : Nat → Int32} {gm : Nat → Nat → Int32} {lg : Nat → Nat → Int64} {Ts : List Cond} {own : String} {index : Nat}
variable {y : MethodName} {ws : List Cond} {rm : Room} {bytes : ByteArray} {maxL n nL : Nat} {ret : Option FieldType} {as : List Value} {st0 : List Value}
theorem mfree (hD : va_D A (mW h0 ad cid sg gm lg)) (hS : va_S A H0 H locs) (hA : ∀ q, H0.size ≤ q → A q) : ∀ q, va_A (mW h0 ad cid sg gm lg) H.size q → A q := by
  intro q h
  rcases h with ⟨k, e, h⟩ | h
  · exact hD.2 k (q, e) h
  · exact hA q (Nat.le_trans hS.1 h)
theorem mr_calli {post : Int32 → MSt → Prop} (S : CallFix p m c cc nL s args Ts own) (hM : MMi l dC dI y ws rm h0 ad cid as sg gm lg post) (cw : CallW R s args own RX13 index y bytes maxL ret ws rm 0 0 n) (hn : as.length = n) (hsize : ls.size = nL) (hst : st0 = as.reverse ++ .ref h0 :: rest) (hW : (rest.map fun v => v.category).sum ≤ 8) (hdg : decode cc pc = .ok (.invokevirtual index, 3)) (hf : cells ≤ R.cells ∧ slots ≤ R.slots)
    (hK : va_K (dC, dI) vwCl (mT cid) s) (hP : va_P (dC, dI) vwCl (mW h0 ad cid sg gm lg) H) (hD : va_D A (mW h0 ad cid sg gm lg)) (hS : va_S A H0 H locs) (hA : ∀ q, H0.size ≤ q → A q)
    (kk : ∀ (r : Int32) (u1 : MSt) (H1 : Heap) (locs1 : List Loc), post r u1 → va_P (dC, dI) vwCl (mW h0 ad cid u1.1 u1.2.1 u1.2.2) H1 → va_D A (mW h0 ad cid u1.1 u1.2.1 u1.2.2) → va_S A H0 H1 locs1 → W p l e R s m args below meth c H1 locs1 cells slots Q (F0 m (pc + 3) ls (.int r :: rest))) : W p l e R s m args below meth c H locs cells slots Q (F0 m pc ls st0) := by
  subst hst
  have hFc := mfree hD hS hA
  refine va_calli (va_runV (As := as) (rest := rest) S (hM H.size) cw ⟨MPre_blind, va_recv hK hP (ci := 12) (q0 := 0) rfl rfl, fun U hU hW => ⟨rfl, by rw [hU], by rw [hU]; exact hP, va_K.moved hW.alike hK, hD.weaken (fun _ _ _ _ => trivial)⟩⟩ rfl hn hsize rfl (lv_room hW) hdg hf) hS (fun q _ h => hFc q h) hFc (fun r u1 t H1 locs ht hvm hw hB hz1 hk1 hS => ?_)
  obtain ⟨hP1, hK1, hD1⟩ := hB
  rw [ht] at hP1
  exact kk r u1 H1 locs hw hP1 (hD1.weaken (fun _ _ _ h => hFc _ h)) hS
theorem mr_calll {post : Int64 → MSt → Prop} (S : CallFix p m c cc nL s args Ts own) (hM : MMl l dC dI y ws rm h0 ad cid as sg gm lg post) (cw : CallW R s args own RX13 index y bytes maxL ret ws rm 0 0 n) (hn : as.length = n) (hsize : ls.size = nL) (hst : st0 = as.reverse ++ .ref h0 :: rest) (hW : (rest.map fun v => v.category).sum ≤ 8) (hdg : decode cc pc = .ok (.invokevirtual index, 3)) (hf : cells ≤ R.cells ∧ slots ≤ R.slots)
    (hK : va_K (dC, dI) vwCl (mT cid) s) (hP : va_P (dC, dI) vwCl (mW h0 ad cid sg gm lg) H) (hD : va_D A (mW h0 ad cid sg gm lg)) (hS : va_S A H0 H locs) (hA : ∀ q, H0.size ≤ q → A q)
    (kk : ∀ (r : Int64) (u1 : MSt) (H1 : Heap) (locs1 : List Loc), post r u1 → va_P (dC, dI) vwCl (mW h0 ad cid u1.1 u1.2.1 u1.2.2) H1 → va_D A (mW h0 ad cid u1.1 u1.2.1 u1.2.2) → va_S A H0 H1 locs1 → W p l e R s m args below meth c H1 locs1 cells slots Q (F0 m (pc + 3) ls (.long r :: rest))) : W p l e R s m args below meth c H locs cells slots Q (F0 m pc ls st0) := by
  subst hst
  have hFc := mfree hD hS hA
  refine va_calll (va_runV (As := as) (rest := rest) S (hM H.size) cw ⟨MPre_blind, va_recv hK hP (ci := 12) (q0 := 0) rfl rfl, fun U hU hW => ⟨rfl, by rw [hU], by rw [hU]; exact hP, va_K.moved hW.alike hK, hD.weaken (fun _ _ _ _ => trivial)⟩⟩ rfl hn hsize rfl (lv_room hW) hdg hf) hS (fun q _ h => hFc q h) hFc (fun r u1 t H1 locs ht hvm hw hB hz1 hk1 hS => ?_)
  obtain ⟨hP1, hK1, hD1⟩ := hB
  rw [ht] at hP1
  exact kk r u1 H1 locs hw hP1 (hD1.weaken (fun _ _ _ h => hFc _ h)) hS
theorem mr_callv {post : MSt → Prop} (S : CallFix p m c cc nL s args Ts own) (hM : MMv l dC dI y ws rm h0 ad cid as sg gm lg post) (cw : CallW R s args own RX13 index y bytes maxL ret ws rm 0 0 n) (hn : as.length = n) (hsize : ls.size = nL) (hst : st0 = as.reverse ++ .ref h0 :: rest) (hW : (rest.map fun v => v.category).sum ≤ 8) (hdg : decode cc pc = .ok (.invokevirtual index, 3)) (hf : cells ≤ R.cells ∧ slots ≤ R.slots)
    (hK : va_K (dC, dI) vwCl (mT cid) s) (hP : va_P (dC, dI) vwCl (mW h0 ad cid sg gm lg) H) (hD : va_D A (mW h0 ad cid sg gm lg)) (hS : va_S A H0 H locs) (hA : ∀ q, H0.size ≤ q → A q)
    (kk : ∀ (u1 : MSt) (H1 : Heap) (locs1 : List Loc), post u1 → va_P (dC, dI) vwCl (mW h0 ad cid u1.1 u1.2.1 u1.2.2) H1 → va_D A (mW h0 ad cid u1.1 u1.2.1 u1.2.2) → va_S A H0 H1 locs1 → W p l e R s m args below meth c H1 locs1 cells slots Q (F0 m (pc + 3) ls rest)) : W p l e R s m args below meth c H locs cells slots Q (F0 m pc ls st0) := by
  subst hst
  have hFc := mfree hD hS hA
  refine va_callv (va_runV (As := as) (rest := rest) S (hM H.size) cw ⟨MPre_blind, va_recv hK hP (ci := 12) (q0 := 0) rfl rfl, fun U hU hW => ⟨rfl, by rw [hU], by rw [hU]; exact hP, va_K.moved hW.alike hK, hD.weaken (fun _ _ _ _ => trivial)⟩⟩ rfl hn hsize rfl (lv_room hW) hdg hf) hS (fun q _ h => hFc q h) hFc (fun u1 t H1 locs ht hvm hw hB hz1 hk1 hS => ?_)
  obtain ⟨hP1, hK1, hD1⟩ := hB
  rw [ht] at hP1
  exact kk u1 H1 locs hw hP1 (hD1.weaken (fun _ _ _ h => hFc _ h)) hS
end MC
