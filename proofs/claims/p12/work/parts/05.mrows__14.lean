section
def mK : List Nat := [0, 1, 2, 3, 4, 6, 7, 8, 9, 10, 11, 12, 13, 14, 15, 16, 17, 18, 19, 26, 27, 28, 29, 30, 31, 32, 33, 34, 35, 36, 37, 38, 39, 42, 43, 44, 45, 46, 47, 53, 54, 55, 56, 57, 58, 59, 60, 61, 62, 64, 65, 66, 67, 68, 69, 70, 71, 72, 73, 75]
def mArr (k : Nat) : Bool := mK.contains k
def mLong (k : Nat) : Bool := [0, 1, 2, 34, 35].contains k
def mLen (k : Nat) : Nat := match k with
  | 0 => 10
  | 1 => 11
  | 2 => 5
  | 3 => 5
  | 4 => 5
  | 6 => 8
  | 7 => 8
  | 8 => 32
  | 9 => 96
  | 10 => 8
  | 11 => 64
  | 12 => 64
  | 13 => 8
  | 14 => 32
  | 15 => 32
  | 16 => 32
  | 17 => 96
  | 18 => 32
  | 19 => 1200
  | 26 => 80
  | 27 => 80
  | 28 => 80
  | 29 => 80
  | 30 => 80
  | 31 => 80
  | 32 => 80
  | 33 => 80
  | 34 => 80
  | 35 => 960
  | 36 => 960
  | 37 => 960
  | 38 => 2000
  | 39 => 1920
  | 42 => 80
  | 43 => 80
  | 44 => 80
  | 45 => 2080
  | 46 => 80
  | 47 => 2080
  | 53 => 60
  | 54 => 60
  | 55 => 400
  | 56 => 400
  | 57 => 400
  | 58 => 400
  | 59 => 80
  | 60 => 80
  | 61 => 80
  | 62 => 80
  | 64 => 81
  | 65 => 81
  | 66 => 81
  | 67 => 81
  | 68 => 81
  | 69 => 81
  | 70 => 405
  | 71 => 405
  | 72 => 2430
  | 73 => 2430
  | 75 => 4
  | _ => 0
def mTy (k : Nat) : FieldType := match k with
  | 0 => .long
  | 1 => .long
  | 2 => .long
  | 3 => .int
  | 4 => .int
  | 6 => .int
  | 7 => .int
  | 8 => .int
  | 9 => .int
  | 10 => .int
  | 11 => .int
  | 12 => .int
  | 13 => .int
  | 14 => .int
  | 15 => .int
  | 16 => .int
  | 17 => .int
  | 18 => .boolean
  | 19 => .byte
  | 26 => .int
  | 27 => .int
  | 28 => .int
  | 29 => .int
  | 30 => .int
  | 31 => .int
  | 32 => .int
  | 33 => .int
  | 34 => .long
  | 35 => .long
  | 36 => .int
  | 37 => .int
  | 38 => .byte
  | 39 => .byte
  | 42 => .int
  | 43 => .int
  | 44 => .int
  | 45 => .int
  | 46 => .int
  | 47 => .int
  | 53 => .int
  | 54 => .int
  | 55 => .int
  | 56 => .int
  | 57 => .int
  | 58 => .int
  | 59 => .int
  | 60 => .int
  | 61 => .boolean
  | 62 => .boolean
  | 64 => .int
  | 65 => .int
  | 66 => .int
  | 67 => .int
  | 68 => .int
  | 69 => .int
  | 70 => .int
  | 71 => .int
  | 72 => .int
  | 73 => .int
  | 75 => .int
  | _ => .int
def mfv (ad : Nat → Nat) (sg : Nat → Int32) (k : Nat) : Value := if mArr k then .ref (ad k) else .int (sg k)
def mfs (ad : Nat → Nat) (sg : Nat → Int32) : List Value := (List.range 77).map (mfv ad sg)
def mE9 (cid : Nat → ClassId) (gm : Nat → Nat → Int32) (lg : Nat → Nat → Int64) (k : Nat) : va_E := .inl (cid k, mLen k, if mLong k then .inr (.inl (lg k)) else .inl (gm k))
def mW (h0 : Nat) (ad : Nat → Nat) (cid : Nat → ClassId) (sg : Nat → Int32) (gm : Nat → Nat → Int32) (lg : Nat → Nat → Int64) : va_W := (h0, .inr (12, mfs ad sg)) :: mK.map (fun k => (ad k, mE9 cid gm lg k))
def mT (cid : Nat → ClassId) : List (ClassId × FieldType) := mK.map (fun k => (cid k, mTy k))
theorem mK_inj : ∀ i, i < 60 → ∀ j, j < 60 → mK[i]? = mK[j]? → i = j := by decide +kernel
theorem mK_len : mK.length = 60 := by decide
theorem mfs_get {ad : Nat → Nat} {sg : Nat → Int32} {k : Nat} (hk : k < 77) : (mfs ad sg)[k]? = some (mfv ad sg k) := by
  unfold mfs
  rw [List.getElem?_map, List.getElem?_range hk]
  rfl
theorem mfs_set {ad : Nat → Nat} {sg : Nat → Int32} {k : Nat} (hk : k < 77) (hm : mArr k = false) (x : Int32) : (mfs ad sg).set k (.int x) = mfs ad (va_up sg k x) := by
  apply List.ext_getElem?
  intro j
  by_cases hj : j = k
  · subst hj
    rw [List.getElem?_set_self (by unfold mfs; rw [List.length_map, List.length_range]; exact hk), mfs_get hk]
    unfold mfv
    rw [hm, va_up_self]
    rfl
  · rw [List.getElem?_set_ne (Ne.symm hj)]
    by_cases h7 : j < 77
    · rw [mfs_get h7, mfs_get h7]
      unfold mfv
      rw [va_up_ne sg x hj]
    · unfold mfs
      rw [List.getElem?_eq_none (by rw [List.length_map, List.length_range]; omega), List.getElem?_eq_none (by rw [List.length_map, List.length_range]; omega)]
section MR
variable {p : Program} {l : Launch} {e : Env} {R : Room} {s : State} {m : MethodId} {args : Array Value} {below : List Frame} {meth : Method} {c : Code} {H : Heap} {locs : List Loc} {cells slots : Nat} {Q : State → Prop} {cc : ByteArray} {pc : Nat} {ls : Array Slot} {rest : List Value} {A : Nat → Prop} {H0 : Heap}
variable {dC : Nat → ClassId} {dI : Nat → Nat → Nat} {h0 : Nat} {ad : Nat → Nat} {cid : Nat → ClassId} {sg : Nat → Int32} {gm : Nat → Nat → Int32} {lg : Nat → Nat → Int64} {Ts : List Cond} {own : String} {index : Nat}
theorem mW_pos {i k : Nat} (hi : mK[i]? = some k) : (mW h0 ad cid sg gm lg)[i + 1]? = some (ad k, mE9 cid gm lg k) := by
  unfold mW
  rw [List.getElem?_cons_succ, List.getElem?_map, hi]
  rfl
theorem mT_pos {i k : Nat} (hi : mK[i]? = some k) : (mT cid)[i]? = some (cid k, mTy k) := by
  unfold mT
  rw [List.getElem?_map, hi]
  rfl
theorem mW_set {i k : Nat} (hi : mK[i]? = some k) (hl : mLong k = false) (g : Nat → Int32) : (mW h0 ad cid sg gm lg).set (i + 1) (ad k, .inl (cid k, mLen k, .inl g)) = mW h0 ad cid sg (va_up gm k g) lg := by
  unfold mW
  rw [List.set_cons_succ]
  congr 1
  have hi6 : i < mK.length := (List.getElem?_eq_some_iff.mp hi).1
  apply List.ext_getElem?
  intro j
  by_cases hj : j = i
  · subst hj
    rw [List.getElem?_set_self (by rw [List.length_map]; exact hi6), List.getElem?_map, hi]
    show some (ad k, Sum.inl (cid k, mLen k, Sum.inl g)) = some (ad k, mE9 cid (va_up gm k g) lg k)
    unfold mE9
    rw [hl, va_up_self]
    rfl
  · rw [List.getElem?_set_ne (Ne.symm hj), List.getElem?_map, List.getElem?_map]
    cases hb : mK[j]? with
    | none => rfl
    | some k2 =>
      have hj6 : j < mK.length := (List.getElem?_eq_some_iff.mp hb).1
      have hne : k2 ≠ k := fun h2 => hj (mK_inj j (by rw [← mK_len]; exact hj6) i (by rw [← mK_len]; exact hi6) (by rw [hb, hi, h2]))
      show some (ad k2, mE9 cid gm lg k2) = some (ad k2, mE9 cid (va_up gm k g) lg k2)
      unfold mE9
      rw [va_up_ne gm g hne]
theorem mW_setL {i k : Nat} (hi : mK[i]? = some k) (hl : mLong k = true) (g : Nat → Int64) : (mW h0 ad cid sg gm lg).set (i + 1) (ad k, .inl (cid k, mLen k, .inr (.inl g))) = mW h0 ad cid sg gm (va_up lg k g) := by
  unfold mW
  rw [List.set_cons_succ]
  congr 1
  have hi6 : i < mK.length := (List.getElem?_eq_some_iff.mp hi).1
  apply List.ext_getElem?
  intro j
  by_cases hj : j = i
  · subst hj
    rw [List.getElem?_set_self (by rw [List.length_map]; exact hi6), List.getElem?_map, hi]
    show some (ad k, Sum.inl (cid k, mLen k, Sum.inr (Sum.inl g))) = some (ad k, mE9 cid gm (va_up lg k g) k)
    unfold mE9
    rw [hl, va_up_self]
    rfl
  · rw [List.getElem?_set_ne (Ne.symm hj), List.getElem?_map, List.getElem?_map]
    cases hb : mK[j]? with
    | none => rfl
    | some k2 =>
      have hj6 : j < mK.length := (List.getElem?_eq_some_iff.mp hb).1
      have hne : k2 ≠ k := fun h2 => hj (mK_inj j (by rw [← mK_len]; exact hj6) i (by rw [← mK_len]; exact hi6) (by rw [hb, hi, h2]))
      show some (ad k2, mE9 cid gm lg k2) = some (ad k2, mE9 cid gm (va_up lg k g) k2)
      unfold mE9
      rw [va_up_ne lg g hne]
theorem mr_get (hexec : p.tables.exec = Jvm.exec) (hb : c.code = cc) (hts : ∀ w ∈ Ts, w.before args s = true) (hin : ∀ w ∈ u_ws RX13 TX13 77, w ∈ Ts) (hown : s.vm.findClass own = some m.cls) (hK : va_K (dC, dI) vwCl (mT cid) s) (hP : va_P (dC, dI) vwCl (mW h0 ad cid sg gm lg) H) (k : Nat) (hk : k < 77) (hlink : (Cond.fieldLink own index (TX13 k).1 (TX13 k).2.1 (TX13 k).2.2.1).before args s = true) {v : Value} (hv : mfv ad sg k = v) (hdg : decode cc pc = .ok (.getfield index, 3))
    (kk : W p l e R s m args below meth c H locs cells slots Q (F0 m (pc + 3) ls (v :: rest))) : W p l e R s m args below meth c H locs cells slots Q (F0 m pc ls (.ref h0 :: rest)) :=
  va_get (D := (dC, dI)) (ci := 12) (C := RX13) (T := TX13) (N := 77) hexec hb hts hin hown hK hP 0 rfl rfl k hk hlink (fun _ h9 => h9) (by rw [mfs_get hk, hv]) hdg kk
theorem mr_put (hexec : p.tables.exec = Jvm.exec) (hb : c.code = cc) (hts : ∀ w ∈ Ts, w.before args s = true) (hin : ∀ w ∈ u_ws RX13 TX13 77, w ∈ Ts) (hown : s.vm.findClass own = some m.cls) (hK : va_K (dC, dI) vwCl (mT cid) s) (hP : va_P (dC, dI) vwCl (mW h0 ad cid sg gm lg) H) (hD : va_D A (mW h0 ad cid sg gm lg)) (hS : va_S A H0 H locs) (k : Nat) (hk : k < 77) (hm : mArr k = false) (hlink : (Cond.fieldLink own index (TX13 k).1 (TX13 k).2.1 (TX13 k).2.2.1).before args s = true) (hfin : (TX13 k).2.2.2 = false) {x : Int32} (hn : narrow (tyX13 k) (.int x) = .int x) (hfit : fits (tyX13 k) (.int x) = true) (hdg : decode cc pc = .ok (.putfield index, 3))
    (kk : ∀ (H1 : Heap) (locs1 : List Loc), va_P (dC, dI) vwCl (mW h0 ad cid (va_up sg k x) gm lg) H1 → va_D A (mW h0 ad cid (va_up sg k x) gm lg) → va_S A H0 H1 locs1 → W p l e R s m args below meth c H1 locs1 cells slots Q (F0 m (pc + 3) ls rest)) : W p l e R s m args below meth c H locs cells slots Q (F0 m pc ls (.int x :: .ref h0 :: rest)) :=
  va_put (D := (dC, dI)) (ci := 12) (v := .int x) (ty := tyX13 k) (C := RX13) (T := TX13) (N := 77) hexec hb hts hin tyX13 tyX13_ok nmX13 hown hK hP hD hS 0 rfl rfl k hk hlink (fun _ h9 => h9) hfin (tyX13_ok k hk) hn hfit (by unfold mfs; rw [List.length_map, List.length_range]; exact hk) hdg
    (fun H1 locs1 g1 g2 g3 => kk H1 locs1 (by rw [mfs_set hk hm] at g1; exact g1) (by rw [mfs_set hk hm] at g2; exact g2) g3)
theorem mr_iald (hexec : p.tables.exec = Jvm.exec) (hb : c.code = cc) (hK : va_K (dC, dI) vwCl (mT cid) s) (hP : va_P (dC, dI) vwCl (mW h0 ad cid sg gm lg) H) (i : Nat) {k : Nat} (hi : mK[i]? = some k) (hl : mLong k = false) (ht : mTy k = .int) {x : Int32} (hin : vp_in x (mLen k)) (hdg : decode cc pc = .ok (.iaload, 1))
    (kk : W p l e R s m args below meth c H locs cells slots Q (F0 m (pc + 1) ls (.int (gm k x.toNatClampNeg) :: rest))) : W p l e R s m args below meth c H locs cells slots Q (F0 m pc ls (.int x :: .ref (ad k) :: rest)) :=
  va_iald (D := (dC, dI)) hexec hb hK hP (i + 1) i (by rw [mW_pos hi]; unfold mE9; rw [hl]; rfl) (by rw [mT_pos hi, ht]) hin hdg kk
theorem mr_zald (hexec : p.tables.exec = Jvm.exec) (hb : c.code = cc) (hK : va_K (dC, dI) vwCl (mT cid) s) (hP : va_P (dC, dI) vwCl (mW h0 ad cid sg gm lg) H) (i : Nat) {k : Nat} (hi : mK[i]? = some k) (hl : mLong k = false) (ht : mTy k = .boolean) {x : Int32} (hin : vp_in x (mLen k)) (hdg : decode cc pc = .ok (.baload, 1))
    (kk : W p l e R s m args below meth c H locs cells slots Q (F0 m (pc + 1) ls (.int (gm k x.toNatClampNeg) :: rest))) : W p l e R s m args below meth c H locs cells slots Q (F0 m pc ls (.int x :: .ref (ad k) :: rest)) :=
  va_zald (D := (dC, dI)) hexec hb hK hP (i + 1) i (by rw [mW_pos hi]; unfold mE9; rw [hl]; rfl) (by rw [mT_pos hi, ht]) hin hdg kk
theorem mr_bald (hexec : p.tables.exec = Jvm.exec) (hb : c.code = cc) (hK : va_K (dC, dI) vwCl (mT cid) s) (hP : va_P (dC, dI) vwCl (mW h0 ad cid sg gm lg) H) (i : Nat) {k : Nat} (hi : mK[i]? = some k) (hl : mLong k = false) (ht : mTy k = .byte) {x : Int32} (hin : vp_in x (mLen k)) (hdg : decode cc pc = .ok (.baload, 1))
    (kk : W p l e R s m args below meth c H locs cells slots Q (F0 m (pc + 1) ls (.int (gm k x.toNatClampNeg) :: rest))) : W p l e R s m args below meth c H locs cells slots Q (F0 m pc ls (.int x :: .ref (ad k) :: rest)) :=
  va_bald (D := (dC, dI)) hexec hb hK hP (i + 1) i (by rw [mW_pos hi]; unfold mE9; rw [hl]; rfl) (by rw [mT_pos hi, ht]) hin hdg kk
theorem mr_lald (hexec : p.tables.exec = Jvm.exec) (hb : c.code = cc) (hK : va_K (dC, dI) vwCl (mT cid) s) (hP : va_P (dC, dI) vwCl (mW h0 ad cid sg gm lg) H) (i : Nat) {k : Nat} (hi : mK[i]? = some k) (hl : mLong k = true) (ht : mTy k = .long) {x : Int32} (hin : vp_in x (mLen k)) (hdg : decode cc pc = .ok (.laload, 1))
    (kk : W p l e R s m args below meth c H locs cells slots Q (F0 m (pc + 1) ls (.long (lg k x.toNatClampNeg) :: rest))) : W p l e R s m args below meth c H locs cells slots Q (F0 m pc ls (.int x :: .ref (ad k) :: rest)) :=
  va_lald (D := (dC, dI)) hexec hb hK hP (i + 1) i (by rw [mW_pos hi]; unfold mE9; rw [hl]; rfl) (by rw [mT_pos hi, ht]) hin hdg kk
theorem mr_iast (hexec : p.tables.exec = Jvm.exec) (hb : c.code = cc) (hK : va_K (dC, dI) vwCl (mT cid) s) (hP : va_P (dC, dI) vwCl (mW h0 ad cid sg gm lg) H) (hD : va_D A (mW h0 ad cid sg gm lg)) (hS : va_S A H0 H locs) (i : Nat) {k : Nat} (hi : mK[i]? = some k) (hl : mLong k = false) (ht : mTy k = .int) {j x : Int32} (hin : vp_in j (mLen k)) (hdg : decode cc pc = .ok (.iastore, 1))
    (kk : ∀ (H1 : Heap) (locs1 : List Loc), va_P (dC, dI) vwCl (mW h0 ad cid sg (va_up gm k (upd (gm k) j.toNatClampNeg x)) lg) H1 → va_D A (mW h0 ad cid sg (va_up gm k (upd (gm k) j.toNatClampNeg x)) lg) → va_S A H0 H1 locs1 → W p l e R s m args below meth c H1 locs1 cells slots Q (F0 m (pc + 1) ls rest)) : W p l e R s m args below meth c H locs cells slots Q (F0 m pc ls (.int x :: .int j :: .ref (ad k) :: rest)) :=
  va_iast (D := (dC, dI)) (f := gm k) hexec hb hK hP hD hS (i + 1) i (by rw [mW_pos hi]; unfold mE9; rw [hl]; rfl) (by rw [mT_pos hi, ht]) hin hdg (fun H1 locs1 g1 g2 g3 => kk H1 locs1 (by rw [mW_set hi hl] at g1; exact g1) (by rw [mW_set hi hl] at g2; exact g2) g3)
theorem mr_zast (hexec : p.tables.exec = Jvm.exec) (hb : c.code = cc) (hK : va_K (dC, dI) vwCl (mT cid) s) (hP : va_P (dC, dI) vwCl (mW h0 ad cid sg gm lg) H) (hD : va_D A (mW h0 ad cid sg gm lg)) (hS : va_S A H0 H locs) (i : Nat) {k : Nat} (hi : mK[i]? = some k) (hl : mLong k = false) (ht : mTy k = .boolean) {j x : Int32} (hin : vp_in j (mLen k)) (hdg : decode cc pc = .ok (.bastore, 1))
    (kk : ∀ (H1 : Heap) (locs1 : List Loc), va_P (dC, dI) vwCl (mW h0 ad cid sg (va_up gm k (upd (gm k) j.toNatClampNeg (vp_nar .boolean x))) lg) H1 → va_D A (mW h0 ad cid sg (va_up gm k (upd (gm k) j.toNatClampNeg (vp_nar .boolean x))) lg) → va_S A H0 H1 locs1 → W p l e R s m args below meth c H1 locs1 cells slots Q (F0 m (pc + 1) ls rest)) : W p l e R s m args below meth c H locs cells slots Q (F0 m pc ls (.int x :: .int j :: .ref (ad k) :: rest)) :=
  va_zast (D := (dC, dI)) (f := gm k) hexec hb hK hP hD hS (i + 1) i (by rw [mW_pos hi]; unfold mE9; rw [hl]; rfl) (by rw [mT_pos hi, ht]) hin hdg (fun H1 locs1 g1 g2 g3 => kk H1 locs1 (by rw [mW_set hi hl] at g1; exact g1) (by rw [mW_set hi hl] at g2; exact g2) g3)
theorem mr_bast (hexec : p.tables.exec = Jvm.exec) (hb : c.code = cc) (hK : va_K (dC, dI) vwCl (mT cid) s) (hP : va_P (dC, dI) vwCl (mW h0 ad cid sg gm lg) H) (hD : va_D A (mW h0 ad cid sg gm lg)) (hS : va_S A H0 H locs) (i : Nat) {k : Nat} (hi : mK[i]? = some k) (hl : mLong k = false) (ht : mTy k = .byte) {j x : Int32} (hin : vp_in j (mLen k)) (hdg : decode cc pc = .ok (.bastore, 1))
    (kk : ∀ (H1 : Heap) (locs1 : List Loc), va_P (dC, dI) vwCl (mW h0 ad cid sg (va_up gm k (upd (gm k) j.toNatClampNeg (vp_nar .byte x))) lg) H1 → va_D A (mW h0 ad cid sg (va_up gm k (upd (gm k) j.toNatClampNeg (vp_nar .byte x))) lg) → va_S A H0 H1 locs1 → W p l e R s m args below meth c H1 locs1 cells slots Q (F0 m (pc + 1) ls rest)) : W p l e R s m args below meth c H locs cells slots Q (F0 m pc ls (.int x :: .int j :: .ref (ad k) :: rest)) :=
  va_bast (D := (dC, dI)) (f := gm k) hexec hb hK hP hD hS (i + 1) i (by rw [mW_pos hi]; unfold mE9; rw [hl]; rfl) (by rw [mT_pos hi, ht]) hin hdg (fun H1 locs1 g1 g2 g3 => kk H1 locs1 (by rw [mW_set hi hl] at g1; exact g1) (by rw [mW_set hi hl] at g2; exact g2) g3)
theorem mr_last (hexec : p.tables.exec = Jvm.exec) (hb : c.code = cc) (hK : va_K (dC, dI) vwCl (mT cid) s) (hP : va_P (dC, dI) vwCl (mW h0 ad cid sg gm lg) H) (hD : va_D A (mW h0 ad cid sg gm lg)) (hS : va_S A H0 H locs) (i : Nat) {k : Nat} (hi : mK[i]? = some k) (hl : mLong k = true) (ht : mTy k = .long) {j : Int32} {x : Int64} (hin : vp_in j (mLen k)) (hdg : decode cc pc = .ok (.lastore, 1))
    (kk : ∀ (H1 : Heap) (locs1 : List Loc), va_P (dC, dI) vwCl (mW h0 ad cid sg gm (va_up lg k (vp_updL (lg k) j.toNatClampNeg x))) H1 → va_D A (mW h0 ad cid sg gm (va_up lg k (vp_updL (lg k) j.toNatClampNeg x))) → va_S A H0 H1 locs1 → W p l e R s m args below meth c H1 locs1 cells slots Q (F0 m (pc + 1) ls rest)) : W p l e R s m args below meth c H locs cells slots Q (F0 m pc ls (.long x :: .int j :: .ref (ad k) :: rest)) :=
  va_last (D := (dC, dI)) (f := lg k) hexec hb hK hP hD hS (i + 1) i (by rw [mW_pos hi]; unfold mE9; rw [hl]; rfl) (by rw [mT_pos hi, ht]) hin hdg (fun H1 locs1 g1 g2 g3 => kk H1 locs1 (by rw [mW_setL hi hl] at g1; exact g1) (by rw [mW_setL hi hl] at g2; exact g2) g3)
end MR
abbrev MSt : Type := (Nat → Int32) × (Nat → Nat → Int32) × (Nat → Nat → Int64)
def MPre (dC : Nat → ClassId) (dI : Nat → Nat → Nat) (h0 : Nat) (ad : Nat → Nat) (cid : Nat → ClassId) (sg : Nat → Int32) (gm : Nat → Nat → Int32) (lg : Nat → Nat → Int64) (sz : Nat) (U : State) : Prop := U.heap.size = sz ∧ va_P (dC, dI) vwCl (mW h0 ad cid sg gm lg) U.heap ∧ va_K (dC, dI) vwCl (mT cid) U ∧ va_D (fun _ => True) (mW h0 ad cid sg gm lg)
def MB (dC : Nat → ClassId) (dI : Nat → Nat → Nat) (h0 : Nat) (ad : Nat → Nat) (cid : Nat → ClassId) (A : Nat → Prop) (u : MSt) (t : State) : Prop := va_P (dC, dI) vwCl (mW h0 ad cid u.1 u.2.1 u.2.2) t.heap ∧ va_K (dC, dI) vwCl (mT cid) t ∧ va_D A (mW h0 ad cid u.1 u.2.1 u.2.2)
/-- a method of the reference that answers an int: from the state u, to a state and an answer with post -/
def MMi (l : Launch) (dC : Nat → ClassId) (dI : Nat → Nat → Nat) (y : MethodName) (ws : List Cond) (rm : Room) (h0 : Nat) (ad : Nat → Nat) (cid : Nat → ClassId) (as : List Value) (sg : Nat → Int32) (gm : Nat → Nat → Int32) (lg : Nat → Nat → Int64) (post : Int32 → MSt → Prop) : Prop :=
  ∀ sz, Met l y ws rm (va_Pc (.ref h0 :: as) (MPre dC dI h0 ad cid sg gm lg sz)) (va_Qi post (MB dC dI h0 ad cid (va_A (mW h0 ad cid sg gm lg) sz)) (va_A (mW h0 ad cid sg gm lg) sz)) 0 0 (va_A (mW h0 ad cid sg gm lg) sz)
def MMl (l : Launch) (dC : Nat → ClassId) (dI : Nat → Nat → Nat) (y : MethodName) (ws : List Cond) (rm : Room) (h0 : Nat) (ad : Nat → Nat) (cid : Nat → ClassId) (as : List Value) (sg : Nat → Int32) (gm : Nat → Nat → Int32) (lg : Nat → Nat → Int64) (post : Int64 → MSt → Prop) : Prop :=
  ∀ sz, Met l y ws rm (va_Pc (.ref h0 :: as) (MPre dC dI h0 ad cid sg gm lg sz)) (va_Ql post (MB dC dI h0 ad cid (va_A (mW h0 ad cid sg gm lg) sz)) (va_A (mW h0 ad cid sg gm lg) sz)) 0 0 (va_A (mW h0 ad cid sg gm lg) sz)
def MMv (l : Launch) (dC : Nat → ClassId) (dI : Nat → Nat → Nat) (y : MethodName) (ws : List Cond) (rm : Room) (h0 : Nat) (ad : Nat → Nat) (cid : Nat → ClassId) (as : List Value) (sg : Nat → Int32) (gm : Nat → Nat → Int32) (lg : Nat → Nat → Int64) (post : MSt → Prop) : Prop :=
  ∀ sz, Met l y ws rm (va_Pc (.ref h0 :: as) (MPre dC dI h0 ad cid sg gm lg sz)) (va_Qv post (MB dC dI h0 ad cid (va_A (mW h0 ad cid sg gm lg) sz)) (va_A (mW h0 ad cid sg gm lg) sz)) 0 0 (va_A (mW h0 ad cid sg gm lg) sz)
theorem MPre_blind {dC : Nat → ClassId} {dI : Nat → Nat → Nat} {h0 : Nat} {ad : Nat → Nat} {cid : Nat → ClassId} {sg : Nat → Int32} {gm : Nat → Nat → Int32} {lg : Nat → Nat → Int64} {sz : Nat} {as : List Value} : FrameBlind (va_Pc as (MPre dC dI h0 ad cid sg gm lg sz)) := fun a U g mk q => by
  obtain ⟨q0, q1, qP, qK, qD⟩ := q
  exact ⟨q0, q1, qP, va_K.moved (u := U) (U := U.calling g mk a) (Vm.Alike.refl U.vm) qK, qD⟩
section MC
variable {p : Program} {l : Launch} {e : Env} {R : Room} {s : State} {m : MethodId} {args : Array Value} {below : List Frame} {meth : Method} {c : Code} {H : Heap} {locs : List Loc} {cells slots : Nat} {Q : State → Prop} {cc : ByteArray} {pc : Nat} {ls : Array Slot} {rest : List Value} {A : Nat → Prop} {H0 : Heap}
variable {dC : Nat → ClassId} {dI : Nat → Nat → Nat} {h0 : Nat} {ad : Nat → Nat} {cid : Nat → ClassId} {sg : Nat → Int32} {gm : Nat → Nat → Int32} {lg : Nat → Nat → Int64} {Ts : List Cond} {own : String} {index : Nat}
variable {y : MethodName} {ws : List Cond} {rm : Room} {bytes : ByteArray} {maxL n nL : Nat} {ret : Option FieldType} {as : List Value} {st0 : List Value}
theorem mfree (hD : va_D A (mW h0 ad cid sg gm lg)) (hS : va_S A H0 H locs) (hA : ∀ q, H0.size ≤ q → A q) : ∀ q, va_A (mW h0 ad cid sg gm lg) H.size q → A q := by
  intro q h
  rcases h with ⟨k, e, h⟩ | h
  · exact hD.2 k (q, e) h
  · exact hA q (Nat.le_trans hS.1 h)
theorem mr_calli {post : Int32 → MSt → Prop} (S : CallFix p m c cc nL s args Ts own) (hM : MMi l dC dI y ws rm h0 ad cid as sg gm lg post) (cw : CallW R s args own RX13 index y bytes maxL ret ws rm 0 0 n) (hn : as.length = n) (hsize : ls.size = nL) (hst : st0 = as.reverse ++ .ref h0 :: rest) (hW : (rest.map fun v => v.category).sum ≤ 8) (hdg : decode cc pc = .ok (.invokevirtual index, 3)) (hf : cells ≤ R.cells ∧ slots ≤ R.slots)
    (hK : va_K (dC, dI) vwCl (mT cid) s) (hP : va_P (dC, dI) vwCl (mW h0 ad cid sg gm lg) H) (hD : va_D A (mW h0 ad cid sg gm lg)) (hS : va_S A H0 H locs) (hA : ∀ q, H0.size ≤ q → A q)
    (kk : ∀ (r : Int32) (u1 : MSt) (H1 : Heap) (locs1 : List Loc), post r u1 → va_P (dC, dI) vwCl (mW h0 ad cid u1.1 u1.2.1 u1.2.2) H1 → va_D A (mW h0 ad cid u1.1 u1.2.1 u1.2.2) → va_S A H0 H1 locs1 → W p l e R s m args below meth c H1 locs1 cells slots Q (F0 m (pc + 3) ls (.int r :: rest))) : W p l e R s m args below meth c H locs cells slots Q (F0 m pc ls st0) := by
  subst hst
  have hFc := mfree hD hS hA
  refine va_calli (va_runV (As := as) (rest := rest) S (hM H.size) cw ⟨MPre_blind, va_recv hK hP (ci := 12) (q0 := 0) rfl rfl, fun U hU hW => ⟨rfl, by rw [hU], by rw [hU]; exact hP, va_K.moved hW.alike hK, hD.weaken (fun _ _ _ _ => trivial)⟩⟩ rfl hn hsize rfl (lv_room hW) hdg hf) hS (fun q _ h => hFc q h) hFc (fun r u1 t H1 locs ht hvm hw hB hz1 hk1 hS => ?_)
  obtain ⟨hP1, hK1, hD1⟩ := hB
  rw [ht] at hP1
  exact kk r u1 H1 locs hw hP1 (hD1.weaken (fun _ _ _ h => hFc _ h)) hS
theorem mr_calll {post : Int64 → MSt → Prop} (S : CallFix p m c cc nL s args Ts own) (hM : MMl l dC dI y ws rm h0 ad cid as sg gm lg post) (cw : CallW R s args own RX13 index y bytes maxL ret ws rm 0 0 n) (hn : as.length = n) (hsize : ls.size = nL) (hst : st0 = as.reverse ++ .ref h0 :: rest) (hW : (rest.map fun v => v.category).sum ≤ 8) (hdg : decode cc pc = .ok (.invokevirtual index, 3)) (hf : cells ≤ R.cells ∧ slots ≤ R.slots)
    (hK : va_K (dC, dI) vwCl (mT cid) s) (hP : va_P (dC, dI) vwCl (mW h0 ad cid sg gm lg) H) (hD : va_D A (mW h0 ad cid sg gm lg)) (hS : va_S A H0 H locs) (hA : ∀ q, H0.size ≤ q → A q)
    (kk : ∀ (r : Int64) (u1 : MSt) (H1 : Heap) (locs1 : List Loc), post r u1 → va_P (dC, dI) vwCl (mW h0 ad cid u1.1 u1.2.1 u1.2.2) H1 → va_D A (mW h0 ad cid u1.1 u1.2.1 u1.2.2) → va_S A H0 H1 locs1 → W p l e R s m args below meth c H1 locs1 cells slots Q (F0 m (pc + 3) ls (.long r :: rest))) : W p l e R s m args below meth c H locs cells slots Q (F0 m pc ls st0) := by
  subst hst
  have hFc := mfree hD hS hA
  refine va_calll (va_runV (As := as) (rest := rest) S (hM H.size) cw ⟨MPre_blind, va_recv hK hP (ci := 12) (q0 := 0) rfl rfl, fun U hU hW => ⟨rfl, by rw [hU], by rw [hU]; exact hP, va_K.moved hW.alike hK, hD.weaken (fun _ _ _ _ => trivial)⟩⟩ rfl hn hsize rfl (lv_room hW) hdg hf) hS (fun q _ h => hFc q h) hFc (fun r u1 t H1 locs ht hvm hw hB hz1 hk1 hS => ?_)
  obtain ⟨hP1, hK1, hD1⟩ := hB
  rw [ht] at hP1
  exact kk r u1 H1 locs hw hP1 (hD1.weaken (fun _ _ _ h => hFc _ h)) hS
theorem mr_callv {post : MSt → Prop} (S : CallFix p m c cc nL s args Ts own) (hM : MMv l dC dI y ws rm h0 ad cid as sg gm lg post) (cw : CallW R s args own RX13 index y bytes maxL ret ws rm 0 0 n) (hn : as.length = n) (hsize : ls.size = nL) (hst : st0 = as.reverse ++ .ref h0 :: rest) (hW : (rest.map fun v => v.category).sum ≤ 8) (hdg : decode cc pc = .ok (.invokevirtual index, 3)) (hf : cells ≤ R.cells ∧ slots ≤ R.slots)
    (hK : va_K (dC, dI) vwCl (mT cid) s) (hP : va_P (dC, dI) vwCl (mW h0 ad cid sg gm lg) H) (hD : va_D A (mW h0 ad cid sg gm lg)) (hS : va_S A H0 H locs) (hA : ∀ q, H0.size ≤ q → A q)
    (kk : ∀ (u1 : MSt) (H1 : Heap) (locs1 : List Loc), post u1 → va_P (dC, dI) vwCl (mW h0 ad cid u1.1 u1.2.1 u1.2.2) H1 → va_D A (mW h0 ad cid u1.1 u1.2.1 u1.2.2) → va_S A H0 H1 locs1 → W p l e R s m args below meth c H1 locs1 cells slots Q (F0 m (pc + 3) ls rest)) : W p l e R s m args below meth c H locs cells slots Q (F0 m pc ls st0) := by
  subst hst
  have hFc := mfree hD hS hA
  refine va_callv (va_runV (As := as) (rest := rest) S (hM H.size) cw ⟨MPre_blind, va_recv hK hP (ci := 12) (q0 := 0) rfl rfl, fun U hU hW => ⟨rfl, by rw [hU], by rw [hU]; exact hP, va_K.moved hW.alike hK, hD.weaken (fun _ _ _ _ => trivial)⟩⟩ rfl hn hsize rfl (lv_room hW) hdg hf) hS (fun q _ h => hFc q h) hFc (fun u1 t H1 locs ht hvm hw hB hz1 hk1 hS => ?_)
  obtain ⟨hP1, hK1, hD1⟩ := hB
  rw [ht] at hP1
  exact kk u1 H1 locs hw hP1 (hD1.weaken (fun _ _ _ h => hFc _ h)) hS
end MC
end
section
theorem ms_kept {dC : Nat → ClassId} {dI : Nat → Nat → Nat} {ws : va_W} {H H1 : Heap} (hP : va_P (dC, dI) vwCl ws H) (_ : H.size ≤ H1.size) (hk : ∀ q : Nat, q < H.size → ¬ va_A [] H.size q → H1[q]? = H[q]?) : va_P (dC, dI) vwCl ws H1 :=
  hP.kept (fun k q hq => hk _ (vx_lt hP hq) (fun h => by
    rcases h with ⟨i, e, h⟩ | h
    · simp at h
    · exact absurd h (Nat.not_le.mpr (vx_lt hP hq))))
def mAtt (gm : Nat → Nat → Int32) (e : Nat) : Prop := ∃ a, a ≤ 12 ∧ gm 30 e = nI a ∧ ∀ j, j < a → ∃ q z : Nat, gm 36 (12 * e + j) = nI q ∧ gm 37 (12 * e + j) = nI z ∧ z ≤ 24 ∧ q + z ≤ 2000
def findF (lg : Nat → Int64) (e : Nat) (nn : Int64) : Nat → Nat → Int32
  | 0, _ => -1
  | c + 1, j => if lg (12 * e + j) = nn then nI (12 * e + j) else findF lg e nn c (j + 1)
def mFind (gm : Nat → Nat → Int32) (lg : Nat → Nat → Int64) (e : Nat) (nn : Int64) : Int32 := findF (lg 35) e nn (gm 30 e).toNatClampNeg 0
def mHas (gm : Nat → Nat → Int32) (lg : Nat → Nat → Int64) (e : Nat) (nn : Int64) : Int32 := if mFind gm lg e nn = -1 then 0 else 1
theorem findF_or (lg : Nat → Int64) (e : Nat) (nn : Int64) : ∀ c j, findF lg e nn c j = -1 ∨ ∃ i, j ≤ i ∧ i < j + c ∧ findF lg e nn c j = nI (12 * e + i) := by
  intro c
  induction c with
  | zero => intro j; exact Or.inl rfl
  | succ c ih =>
    intro j
    by_cases h : lg (12 * e + j) = nn
    · exact Or.inr ⟨j, Nat.le_refl j, by omega, by show (if _ then _ else _) = _; rw [if_pos h]⟩
    · rcases ih (j + 1) with h1 | ⟨i, h1, h2, h3⟩
      · exact Or.inl (by show (if _ then _ else _) = _; rw [if_neg h]; exact h1)
      · exact Or.inr ⟨i, by omega, by omega, by show (if _ then _ else _) = _; rw [if_neg h]; exact h3⟩
theorem mFind_or {gm : Nat → Nat → Int32} {lg : Nat → Nat → Int64} {e a : Nat} (nn : Int64) (ha : a ≤ 12) (h : gm 30 e = nI a) : mFind gm lg e nn = -1 ∨ ∃ j, j < a ∧ mFind gm lg e nn = nI (12 * e + j) := by
  have h1 := findF_or (lg 35) e nn (gm 30 e).toNatClampNeg 0
  rw [h, nI_clamp (by omega)] at h1
  unfold mFind
  rw [h, nI_clamp (by omega)]
  rcases h1 with h1 | ⟨i, _, h2, h3⟩
  · exact Or.inl h1
  · exact Or.inr ⟨i, by omega, h3⟩
def wordF (ch : Nat → Int32) (q : Nat) : Nat → Nat → Int64 → Int64
  | 0, _, v => v
  | c + 1, i, v => wordF ch q c (i + 1) ((v <<< ((8 : Int32).toInt64 &&& 63)) ||| (ch (q + i) : Int32).toInt64)
def mWord (gm : Nat → Nat → Int32) (lg : Nat → Nat → Int64) (e : Nat) (nn : Int64) : Int64 := if mFind gm lg e nn = -1 then -1 else if gm 37 (mFind gm lg e nn).toNatClampNeg ≤ 8 then wordF (gm 38) (gm 36 (mFind gm lg e nn).toNatClampNeg).toNatClampNeg (gm 37 (mFind gm lg e nn).toNatClampNeg).toNatClampNeg 0 0 else -1

set_option maxHeartbeats 4000000 in
set_option maxRecDepth 100000 in
/-- find: the place of the attribute, or -1 -/
theorem k_find (l : Launch) (dC : Nat → ClassId) (dI : Nat → Nat → Nat) (h0 : Nat) (ad : Nat → Nat) (cid : Nat → ClassId) (sg : Nat → Int32) (gm : Nat → Nat → Int32) (lg : Nat → Nat → Int64) (el : Nat) (nn : Int64) (he : el < 80) (hat : mAtt gm el) : MMi l dC dI yX13_find wm_X13_find ({ frames := 0, cells := 0, slots := 0, locals := 0 }) h0 ad cid [.int (nI el), .long nn] sg gm lg (fun r v => r = mFind gm lg el nn ∧ v = (sg, gm, lg)) := by
  intro sz
  refine Met.ofW (cc := cX13_find) (maxL := 5) (ret := (some .int)) (by decide) rfl ?_
  intro p e s m args below meth c s₁ B hml hv
  obtain ⟨rfl, hsz, hP, hK, hD0⟩ := hv
  have hx := B.exec
  have hb := B.bytes
  have hr := B.returns
  have hts := atoms_spec (ws := wm_X13_find) B.pre
  have htb := fun (w : Cond) (h : w ∈ tb) => hts w (List.mem_cons_of_mem _ h)
  have hown : s.vm.findClass RX13 = some m.cls := findClass_of_methodNamed B.named
  have hlocks := B.notSynchronized
  subst hsz
  have hD := hD0.self (sz := s.heap.size)
  generalize hAe : va_A (mW h0 ad cid sg gm lg) s.heap.size = A at hD ⊢
  have hA : ∀ q : Nat, s.heap.size ≤ q → A q := fun q h => by rw [← hAe]; exact Or.inr h
  have hS : va_S A s.heap s.heap [] := va_S.rf
  have hl := lv_entry ([.ref h0, .int (nI el), .long nn]) (n := 5) (Nat.le_of_ble_eq_true rfl)
  rw [lg_entry_eq]
  generalize (lg_sl ([.ref h0, .int (nI el), .long nn]) ++ List.replicate (5 - (lg_sl ([.ref h0, .int (nI el), .long nn])).length) Slot.unset).toArray = ls at hl ⊢
  have hl : lv_has ls 5 [(0, .ref h0), (1, .int (nI el)), (2, .long nn)] := hl
  obtain ⟨a9, ha9, hae, -⟩ := hat
  refine lv_iconst (v := 0) hx hb dX13_find_0 (by decide) ?_
  refine lv_istore (lv' := [(4, .int 0), (0, .ref h0), (1, .int (nI el)), (2, .long nn)]) hx hb dX13_find_1 hl (by decide) rfl (fun ls hl => ?_)
  have hloop3 : ∀ (n : Nat) (j : Nat) (H : Heap) (locs : List Loc) (ls : Array Slot), j + n = a9 → mFind gm lg el nn = findF (lg 35) el nn n j → va_P (dC, dI) vwCl (mW h0 ad cid sg gm lg) H → va_D A (mW h0 ad cid sg gm lg) → va_S A s.heap H locs → lv_has ls 5 [(4, .int (nI j)), (0, .ref h0), (1, .int (nI el)), (2, .long nn)] → W p l e (headSpec wm_X13_find ({ frames := 0, cells := 0, slots := 0, locals := 0 })).room s m ([.ref h0, .int (nI el), .long nn] : List Value).toArray below meth c H locs 0 0 (MQ below (va_Qi (fun r v => r = mFind gm lg el nn ∧ v = (sg, gm, lg)) (MB dC dI h0 ad cid A) A) ([.ref h0, .int (nI el), .long nn] : List Value).toArray s 0 0 A) (F0 m 3 ls []) := by
    intro n
    induction n with
    | zero =>
      intro j H locs ls hj hE hP hD hS hl
      refine lv_iload hx hb dX13_find_3 (lv_at hl 0 rfl) ?_
      refine lv_aload_n hx hb dX13_find_5 rfl (lv_at hl 1 rfl) ?_
      refine mr_get (v := .ref (ad 30)) hx hb htb inX13 hown hK hP 30 (by decide) (htb _ kw_186) rfl dX13_find_6 ?_
      refine lv_iload_n hx hb dX13_find_9 rfl (lv_at hl 2 rfl) ?_
      refine mr_iald hx hb hK hP 23 (k := 30) rfl rfl rfl (show vp_in (nI el) 80 from (vp_in_nI he (by decide))) dX13_find_10 ?_
      refine lv_topi (fun z_1 ez_1 => ?_)
      obtain rfl : z_1 = (gm 30 el) := ez_1.trans (by rw [nI_clamp (by omega)])
      refine lv_topi (fun z_2 ez_2 => ?_)
      obtain rfl : z_2 = nI a9 := ez_2.trans (hae)
      refine lv_icmp_ge (tgt := 45) hx hb dX13_find_11 (by decide) (fun _ => ?_) (fun c_3 => absurd (nI_le (by omega) (by omega)) c_3)
      refine lv_iconst (v := (-1)) hx hb dX13_find_45 (by decide) ?_
      exact W.iret (v := (-1)) hx hb hr (fun t ht hW => ⟨⟨(-1), (sg, gm, lg), rfl, ⟨(hE.symm), rfl⟩, by rw [ht]; exact hP, va_K.moved hW.alike hK, hD⟩, hS.F ht⟩) hS.2.2 dX13_find_46
    | succ n ih =>
      intro j H locs ls hj hE hP hD hS hl
      refine lv_iload hx hb dX13_find_3 (lv_at hl 0 rfl) ?_
      refine lv_aload_n hx hb dX13_find_5 rfl (lv_at hl 1 rfl) ?_
      refine mr_get (v := .ref (ad 30)) hx hb htb inX13 hown hK hP 30 (by decide) (htb _ kw_186) rfl dX13_find_6 ?_
      refine lv_iload_n hx hb dX13_find_9 rfl (lv_at hl 2 rfl) ?_
      refine mr_iald hx hb hK hP 23 (k := 30) rfl rfl rfl (show vp_in (nI el) 80 from (vp_in_nI he (by decide))) dX13_find_10 ?_
      refine lv_topi (fun z_4 ez_4 => ?_)
      obtain rfl : z_4 = (gm 30 el) := ez_4.trans (by rw [nI_clamp (by omega)])
      refine lv_topi (fun z_5 ez_5 => ?_)
      obtain rfl : z_5 = nI a9 := ez_5.trans (hae)
      refine lv_icmp_ge (tgt := 45) hx hb dX13_find_11 (by decide) (fun c_6 => absurd c_6 (nI_ge (by omega) (by omega))) (fun _ => ?_)
      refine lv_aload_n hx hb dX13_find_14 rfl (lv_at hl 1 rfl) ?_
      refine mr_get (v := .ref (ad 35)) hx hb htb inX13 hown hK hP 35 (by decide) (htb _ kw_191) rfl dX13_find_15 ?_
      refine lv_bipush (v := 12) hx hb dX13_find_18 (by decide) ?_
      refine lv_iload_n hx hb dX13_find_20 rfl (lv_at hl 2 rfl) ?_
      refine lv_imul hx hb dX13_find_21 ?_
      refine lv_topi (fun z_7 ez_7 => ?_)
      obtain rfl : z_7 = nI (12 * el) := ez_7.trans (pk_mul _ _)
      refine lv_iload hx hb dX13_find_22 (lv_at hl 0 rfl) ?_
      refine lv_iadd hx hb dX13_find_24 ?_
      refine lv_topi (fun z_8 ez_8 => ?_)
      obtain rfl : z_8 = nI ((12 * el) + j) := ez_8.trans (nI_add _ _)
      refine mr_lald hx hb hK hP 28 (k := 35) rfl rfl rfl (show vp_in (nI ((12 * el) + j)) 960 from (vp_in_nI (by omega) (by decide))) dX13_find_25 ?_
      refine lv_topl (fun z_9 ez_9 => ?_)
      obtain rfl : z_9 = (lg 35 ((12 * el) + j)) := ez_9.trans (by rw [nI_clamp (by omega)])
      refine lv_lload_n hx hb dX13_find_26 rfl (lv_at hl 3 rfl) ?_
      refine W.lcmp hx hb dX13_find_27 ?_
      refine lv_if_ne (tgt := 39) hx hb dX13_find_28 (by decide) (fun c_10 => ?_) (fun c_10 => ?_)
      · refine lv_iinc (v := nI (j + 1)) (lv' := [(4, .int (nI (j + 1))), (0, .ref h0), (1, .int (nI el)), (2, .long nn)]) hx hb dX13_find_39 hl (k := 0) rfl (nI_1 _) (by decide) rfl (fun ls hl => ?_)
        refine lv_goto (tgt := 3) hx hb dX13_find_42 (by decide) ?_
        exact ih (j + 1) _ _ _ (by omega) (by rw [hE]; show (if _ then _ else _) = _; rw [if_neg (fun h => c_10 ((lg_cmp_eq _ _).mpr h))]) hP hD hS (lv_sub hl [0, 1, 2, 3] rfl)
      · refine lv_bipush (v := 12) hx hb dX13_find_31 (by decide) ?_
        refine lv_iload_n hx hb dX13_find_33 rfl (lv_at hl 2 rfl) ?_
        refine lv_imul hx hb dX13_find_34 ?_
        refine lv_topi (fun z_11 ez_11 => ?_)
        obtain rfl : z_11 = nI (12 * el) := ez_11.trans (pk_mul _ _)
        refine lv_iload hx hb dX13_find_35 (lv_at hl 0 rfl) ?_
        refine lv_iadd hx hb dX13_find_37 ?_
        refine lv_topi (fun z_12 ez_12 => ?_)
        obtain rfl : z_12 = nI ((12 * el) + j) := ez_12.trans (nI_add _ _)
        exact W.iret (v := nI ((12 * el) + j)) hx hb hr (fun t ht hW => ⟨⟨nI ((12 * el) + j), (sg, gm, lg), rfl, ⟨(by rw [hE]; show _ = (if _ then _ else _); rw [if_pos ((lg_cmp_eq _ _).mp c_10)]), rfl⟩, by rw [ht]; exact hP, va_K.moved hW.alike hK, hD⟩, hS.F ht⟩) hS.2.2 dX13_find_38
  exact hloop3 a9 0 _ _ _ (by omega) (by unfold mFind; rw [hae, nI_clamp (by omega)]) hP hD hS (lv_sub hl [0, 1, 2, 3] rfl)

set_option maxHeartbeats 4000000 in
set_option maxRecDepth 100000 in
theorem k_has (l : Launch) (dC : Nat → ClassId) (dI : Nat → Nat → Nat) (h0 : Nat) (ad : Nat → Nat) (cid : Nat → ClassId) (sg : Nat → Int32) (gm : Nat → Nat → Int32) (lg : Nat → Nat → Int64) (el : Nat) (nn : Int64) (he : el < 80) (hat : mAtt gm el) : MMi l dC dI yX13_has wm_X13_has ({ frames := 1, cells := 0, slots := 0, locals := 24 }) h0 ad cid [.int (nI el), .long nn] sg gm lg (fun r v => r = mHas gm lg el nn ∧ v = (sg, gm, lg)) := by
  intro sz
  refine Met.ofW (cc := cX13_has) (maxL := 4) (ret := (some .boolean)) (by decide) rfl ?_
  intro p e s m args below meth c s₁ B hml hv
  obtain ⟨rfl, hsz, hP, hK, hD0⟩ := hv
  have hx := B.exec
  have hb := B.bytes
  have hr := B.returns
  have hts := atoms_spec (ws := wm_X13_has) B.pre
  have htb := fun (w : Cond) (h : w ∈ tb) => hts w (List.mem_cons_of_mem _ h)
  have hown : s.vm.findClass RX13 = some m.cls := findClass_of_methodNamed B.named
  have hlocks := B.notSynchronized
  subst hsz
  have hD := hD0.self (sz := s.heap.size)
  generalize hAe : va_A (mW h0 ad cid sg gm lg) s.heap.size = A at hD ⊢
  have hA : ∀ q : Nat, s.heap.size ≤ q → A q := fun q h => by rw [← hAe]; exact Or.inr h
  have hS : va_S A s.heap s.heap [] := va_S.rf
  have hl := lv_entry ([.ref h0, .int (nI el), .long nn]) (n := 4) (Nat.le_of_ble_eq_true rfl)
  rw [lg_entry_eq]
  generalize (lg_sl ([.ref h0, .int (nI el), .long nn]) ++ List.replicate (4 - (lg_sl ([.ref h0, .int (nI el), .long nn])).length) Slot.unset).toArray = ls at hl ⊢
  have hl : lv_has ls 4 [(0, .ref h0), (1, .int (nI el)), (2, .long nn)] := hl
  refine lv_aload_n hx hb dX13_has_0 rfl (lv_at hl 0 rfl) ?_
  refine lv_iload_n hx hb dX13_has_1 rfl (lv_at hl 1 rfl) ?_
  refine lv_lload_n hx hb dX13_has_2 rfl (lv_at hl 2 rfl) ?_
  refine mr_calli (rest := []) ⟨hx, hb, hml, hown, htb⟩ (k_find l dC dI h0 ad cid sg gm lg el nn he hat) (cwV 2 htb (gd_V kw_862 kw_863 kw_864 kw_5 kw_1531) rfl rfl rfl (by decide +kernel) ⟨Nat.le_of_ble_eq_true rfl, Nat.le_of_ble_eq_true rfl⟩) rfl hl.1 rfl (Nat.le_of_ble_eq_true rfl) dX13_has_3 ⟨Nat.zero_le _, Nat.zero_le _⟩ hK hP hD hS hA (fun r_1 u_2 H locs hw hP hD hS => ?_)
  obtain ⟨rfl, rfl⟩ := hw
  refine lv_iconst (v := (-1)) hx hb dX13_has_6 (by decide) ?_
  refine lv_icmp_eq (tgt := 14) hx hb dX13_has_7 (by decide) (fun c_3 => ?_) (fun c_3 => ?_)
  · refine lv_iconst (v := 0) hx hb dX13_has_14 (by decide) ?_
    exact W.zret (v := 0) hx hb hr rfl (fun t ht hW => ⟨⟨0, (sg, gm, lg), rfl, ⟨(by unfold mHas; rw [if_pos c_3]), rfl⟩, by rw [ht]; exact hP, va_K.moved hW.alike hK, hD⟩, hS.F ht⟩) hS.2.2 dX13_has_15
  · refine lv_iconst (v := 1) hx hb dX13_has_10 (by decide) ?_
    refine lv_goto (tgt := 15) hx hb dX13_has_11 (by decide) ?_
    exact W.zret (v := 1) hx hb hr rfl (fun t ht hW => ⟨⟨1, (sg, gm, lg), rfl, ⟨(by unfold mHas; rw [if_neg c_3]), rfl⟩, by rw [ht]; exact hP, va_K.moved hW.alike hK, hD⟩, hS.F ht⟩) hS.2.2 dX13_has_15

def mSmall (x : Int32) : Int32 := if x < 97 then 0 else if x ≤ 122 then 1 else 0
def allF (ch : Nat → Int32) (q : Nat) : Nat → Nat → Int32
  | 0, _ => 1
  | c + 1, i => if mSmall (ch (q + i)) = 0 then 0 else allF ch q c (i + 1)
def mIsW (gm : Nat → Nat → Int32) (lg : Nat → Nat → Int64) (e : Nat) (nn : Int64) : Int32 := if mFind gm lg e nn = -1 then 0 else if gm 37 (mFind gm lg e nn).toNatClampNeg < 1 then 0 else if gm 37 (mFind gm lg e nn).toNatClampNeg ≤ 8 then allF (gm 38) (gm 36 (mFind gm lg e nn).toNatClampNeg).toNatClampNeg (gm 37 (mFind gm lg e nn).toNatClampNeg).toNatClampNeg 0 else 0

set_option maxHeartbeats 4000000 in
set_option maxRecDepth 100000 in
theorem k_isSmall (l : Launch) (dC : Nat → ClassId) (dI : Nat → Nat → Nat) (h0 : Nat) (ad : Nat → Nat) (cid : Nat → ClassId) (sg : Nat → Int32) (gm : Nat → Nat → Int32) (lg : Nat → Nat → Int64) (x : Int32) : MMi l dC dI yX13_isSmall wm_X13_isSmall ({ frames := 0, cells := 0, slots := 0, locals := 0 }) h0 ad cid [.int x] sg gm lg (fun r v => r = mSmall x ∧ v = (sg, gm, lg)) := by
  intro sz
  refine Met.ofW (cc := cX13_isSmall) (maxL := 2) (ret := (some .boolean)) (by decide) rfl ?_
  intro p e s m args below meth c s₁ B hml hv
  obtain ⟨rfl, hsz, hP, hK, hD0⟩ := hv
  have hx := B.exec
  have hb := B.bytes
  have hr := B.returns
  have hts := atoms_spec (ws := wm_X13_isSmall) B.pre
  have htb := fun (w : Cond) (h : w ∈ tb) => hts w (List.mem_cons_of_mem _ h)
  have hown : s.vm.findClass RX13 = some m.cls := findClass_of_methodNamed B.named
  have hlocks := B.notSynchronized
  subst hsz
  have hD := hD0.self (sz := s.heap.size)
  generalize hAe : va_A (mW h0 ad cid sg gm lg) s.heap.size = A at hD ⊢
  have hA : ∀ q : Nat, s.heap.size ≤ q → A q := fun q h => by rw [← hAe]; exact Or.inr h
  have hS : va_S A s.heap s.heap [] := va_S.rf
  have hl := lv_entry ([.ref h0, .int x]) (n := 2) (Nat.le_of_ble_eq_true rfl)
  rw [lg_entry_eq]
  generalize (lg_sl ([.ref h0, .int x]) ++ List.replicate (2 - (lg_sl ([.ref h0, .int x])).length) Slot.unset).toArray = ls at hl ⊢
  have hl : lv_has ls 2 [(0, .ref h0), (1, .int x)] := hl
  refine lv_iload_n hx hb dX13_isSmall_0 rfl (lv_at hl 1 rfl) ?_
  refine lv_bipush (v := 97) hx hb dX13_isSmall_1 (by decide) ?_
  refine lv_icmp_lt (tgt := 16) hx hb dX13_isSmall_3 (by decide) (fun c_1 => ?_) (fun c_1 => ?_)
  · refine lv_iconst (v := 0) hx hb dX13_isSmall_16 (by decide) ?_
    exact W.zret (v := 0) hx hb hr rfl (fun t ht hW => ⟨⟨0, (sg, gm, lg), rfl, ⟨(by simp [mSmall, c_1]), rfl⟩, by rw [ht]; exact hP, va_K.moved hW.alike hK, hD⟩, hS.F ht⟩) hS.2.2 dX13_isSmall_17
  · refine lv_iload_n hx hb dX13_isSmall_6 rfl (lv_at hl 1 rfl) ?_
    refine lv_bipush (v := 122) hx hb dX13_isSmall_7 (by decide) ?_
    refine lv_icmp_gt (tgt := 16) hx hb dX13_isSmall_9 (by decide) (fun c_2 => ?_) (fun c_2 => ?_)
    · refine lv_iconst (v := 0) hx hb dX13_isSmall_16 (by decide) ?_
      exact W.zret (v := 0) hx hb hr rfl (fun t ht hW => ⟨⟨0, (sg, gm, lg), rfl, ⟨(by simp [mSmall, c_1, c_2]), rfl⟩, by rw [ht]; exact hP, va_K.moved hW.alike hK, hD⟩, hS.F ht⟩) hS.2.2 dX13_isSmall_17
    · refine lv_iconst (v := 1) hx hb dX13_isSmall_12 (by decide) ?_
      refine lv_goto (tgt := 17) hx hb dX13_isSmall_13 (by decide) ?_
      exact W.zret (v := 1) hx hb hr rfl (fun t ht hW => ⟨⟨1, (sg, gm, lg), rfl, ⟨(by simp [mSmall, c_1, c_2]), rfl⟩, by rw [ht]; exact hP, va_K.moved hW.alike hK, hD⟩, hS.F ht⟩) hS.2.2 dX13_isSmall_17

set_option maxHeartbeats 4000000 in
set_option maxRecDepth 100000 in
theorem k_word (l : Launch) (dC : Nat → ClassId) (dI : Nat → Nat → Nat) (h0 : Nat) (ad : Nat → Nat) (cid : Nat → ClassId) (sg : Nat → Int32) (gm : Nat → Nat → Int32) (lg : Nat → Nat → Int64) (el : Nat) (nn : Int64) (he : el < 80) (hat : mAtt gm el) : MMl l dC dI yX13_word wm_X13_word ({ frames := 1, cells := 0, slots := 0, locals := 24 }) h0 ad cid [.int (nI el), .long nn] sg gm lg (fun r v => r = mWord gm lg el nn ∧ v = (sg, gm, lg)) := by
  intro sz
  refine Met.ofW (cc := cX13_word) (maxL := 8) (ret := (some .long)) (by decide) rfl ?_
  intro p e s m args below meth c s₁ B hml hv
  obtain ⟨rfl, hsz, hP, hK, hD0⟩ := hv
  have hx := B.exec
  have hb := B.bytes
  have hr := B.returns
  have hts := atoms_spec (ws := wm_X13_word) B.pre
  have htb := fun (w : Cond) (h : w ∈ tb) => hts w (List.mem_cons_of_mem _ h)
  have hown : s.vm.findClass RX13 = some m.cls := findClass_of_methodNamed B.named
  have hlocks := B.notSynchronized
  subst hsz
  have hD := hD0.self (sz := s.heap.size)
  generalize hAe : va_A (mW h0 ad cid sg gm lg) s.heap.size = A at hD ⊢
  have hA : ∀ q : Nat, s.heap.size ≤ q → A q := fun q h => by rw [← hAe]; exact Or.inr h
  have hS : va_S A s.heap s.heap [] := va_S.rf
  have hl := lv_entry ([.ref h0, .int (nI el), .long nn]) (n := 8) (Nat.le_of_ble_eq_true rfl)
  rw [lg_entry_eq]
  generalize (lg_sl ([.ref h0, .int (nI el), .long nn]) ++ List.replicate (8 - (lg_sl ([.ref h0, .int (nI el), .long nn])).length) Slot.unset).toArray = ls at hl ⊢
  have hl : lv_has ls 8 [(0, .ref h0), (1, .int (nI el)), (2, .long nn)] := hl
  obtain ⟨a9, ha9, hae, hall⟩ := id hat
  refine lv_aload_n hx hb dX13_word_0 rfl (lv_at hl 0 rfl) ?_
  refine lv_iload_n hx hb dX13_word_1 rfl (lv_at hl 1 rfl) ?_
  refine lv_lload_n hx hb dX13_word_2 rfl (lv_at hl 2 rfl) ?_
  refine mr_calli (rest := []) ⟨hx, hb, hml, hown, htb⟩ (k_find l dC dI h0 ad cid sg gm lg el nn he hat) (cwV 2 htb (gd_V kw_862 kw_863 kw_864 kw_5 kw_1531) rfl rfl rfl (by decide +kernel) ⟨Nat.le_of_ble_eq_true rfl, Nat.le_of_ble_eq_true rfl⟩) rfl hl.1 rfl (Nat.le_of_ble_eq_true rfl) dX13_word_3 ⟨Nat.zero_le _, Nat.zero_le _⟩ hK hP hD hS hA (fun r_1 u_2 H locs hw hP hD hS => ?_)
  obtain ⟨rfl, rfl⟩ := hw
  refine lv_istore (lv' := [(4, .int (mFind gm lg el nn)), (0, .ref h0), (1, .int (nI el)), (2, .long nn)]) hx hb dX13_word_6 hl (by decide) rfl (fun ls hl => ?_)
  refine lv_iload hx hb dX13_word_8 (lv_at hl 0 rfl) ?_
  refine lv_iconst (v := (-1)) hx hb dX13_word_10 (by decide) ?_
  refine lv_icmp_eq (tgt := 26) hx hb dX13_word_11 (by decide) (fun c_3 => ?_) (fun c_3 => ?_)
  · refine lv_ldc2 (own := RX13) (v := (-1)) hx hb hown (htb _ kw_926) dX13_word_26 ?_
    exact W.lret (v := (-1)) hx hb hr (fun t ht hW => ⟨⟨(-1), (sg, gm, lg), rfl, ⟨(by unfold mWord; rw [if_pos c_3]), rfl⟩, by rw [ht]; exact hP, va_K.moved hW.alike hK, hD⟩, hS.F ht⟩) hS.2.2 dX13_word_29
  · obtain ⟨j9, hj9, ej9⟩ := (mFind_or (lg := lg) nn ha9 hae).resolve_left c_3
    obtain ⟨q9, z9, hq9, hz9, hz24, hqz⟩ := hall j9 hj9
    rw [ej9] at hl
    refine lv_aload_n hx hb dX13_word_14 rfl (lv_at hl 1 rfl) ?_
    refine mr_get (v := .ref (ad 37)) hx hb htb inX13 hown hK hP 37 (by decide) (htb _ kw_193) rfl dX13_word_15 ?_
    refine lv_iload hx hb dX13_word_18 (lv_at hl 0 rfl) ?_
    refine mr_iald hx hb hK hP 30 (k := 37) rfl rfl rfl (show vp_in (nI (12 * el + j9)) 960 from (vp_in_nI (by omega) (by decide))) dX13_word_20 ?_
    refine lv_topi (fun z_4 ez_4 => ?_)
    obtain rfl : z_4 = (gm 37 (12 * el + j9)) := ez_4.trans (by rw [nI_clamp (by omega)])
    refine lv_topi (fun z_5 ez_5 => ?_)
    obtain rfl : z_5 = nI z9 := ez_5.trans (hz9)
    refine lv_bipush (v := 8) hx hb dX13_word_21 (by decide) ?_
    refine lv_icmp_le (tgt := 30) hx hb dX13_word_23 (by decide) (fun c_6 => ?_) (fun c_6 => ?_)
    · refine lv_lconst (v := 0) hx hb dX13_word_30 (by decide) ?_
      refine lv_lstore (lv' := [(5, .long 0), (4, .int (nI (12 * el + j9))), (0, .ref h0), (1, .int (nI el)), (2, .long nn)]) hx hb dX13_word_31 hl (by decide) rfl (fun ls hl => ?_)
      refine lv_iconst (v := 0) hx hb dX13_word_33 (by decide) ?_
      refine lv_istore (lv' := [(7, .int 0), (5, .long 0), (4, .int (nI (12 * el + j9))), (0, .ref h0), (1, .int (nI el)), (2, .long nn)]) hx hb dX13_word_34 hl (by decide) rfl (fun ls hl => ?_)
      have hloop36 : ∀ (n : Nat) (i : Nat) (vv : Int64) (H : Heap) (locs : List Loc) (ls : Array Slot), i + n = z9 → mWord gm lg el nn = wordF (gm 38) q9 n i vv → va_P (dC, dI) vwCl (mW h0 ad cid sg gm lg) H → va_D A (mW h0 ad cid sg gm lg) → va_S A s.heap H locs → lv_has ls 8 [(7, .int (nI i)), (5, .long vv), (4, .int (nI (12 * el + j9))), (0, .ref h0), (1, .int (nI el)), (2, .long nn)] → W p l e (headSpec wm_X13_word ({ frames := 1, cells := 0, slots := 0, locals := 24 })).room s m ([.ref h0, .int (nI el), .long nn] : List Value).toArray below meth c H locs 0 0 (MQ below (va_Ql (fun r v => r = mWord gm lg el nn ∧ v = (sg, gm, lg)) (MB dC dI h0 ad cid A) A) ([.ref h0, .int (nI el), .long nn] : List Value).toArray s 0 0 A) (F0 m 36 ls []) := by
        intro n
        induction n with
        | zero =>
          intro i vv H locs ls hi9 hE hP hD hS hl
          refine lv_iload hx hb dX13_word_36 (lv_at hl 0 rfl) ?_
          refine lv_aload_n hx hb dX13_word_38 rfl (lv_at hl 3 rfl) ?_
          refine mr_get (v := .ref (ad 37)) hx hb htb inX13 hown hK hP 37 (by decide) (htb _ kw_193) rfl dX13_word_39 ?_
          refine lv_iload hx hb dX13_word_42 (lv_at hl 2 rfl) ?_
          refine mr_iald hx hb hK hP 30 (k := 37) rfl rfl rfl (show vp_in (nI (12 * el + j9)) 960 from (vp_in_nI (by omega) (by decide))) dX13_word_44 ?_
          refine lv_topi (fun z_7 ez_7 => ?_)
          obtain rfl : z_7 = (gm 37 (12 * el + j9)) := ez_7.trans (by rw [nI_clamp (by omega)])
          refine lv_topi (fun z_8 ez_8 => ?_)
          obtain rfl : z_8 = nI z9 := ez_8.trans (hz9)
          refine lv_icmp_ge (tgt := 78) hx hb dX13_word_45 (by decide) (fun _ => ?_) (fun c_9 => absurd (nI_le (by omega) (by omega)) c_9)
          refine lv_lload hx hb dX13_word_78 (lv_at hl 1 rfl) ?_
          exact W.lret (v := vv) hx hb hr (fun t ht hW => ⟨⟨vv, (sg, gm, lg), rfl, ⟨(hE.symm), rfl⟩, by rw [ht]; exact hP, va_K.moved hW.alike hK, hD⟩, hS.F ht⟩) hS.2.2 dX13_word_80
        | succ n ih =>
          intro i vv H locs ls hi9 hE hP hD hS hl
          refine lv_iload hx hb dX13_word_36 (lv_at hl 0 rfl) ?_
          refine lv_aload_n hx hb dX13_word_38 rfl (lv_at hl 3 rfl) ?_
          refine mr_get (v := .ref (ad 37)) hx hb htb inX13 hown hK hP 37 (by decide) (htb _ kw_193) rfl dX13_word_39 ?_
          refine lv_iload hx hb dX13_word_42 (lv_at hl 2 rfl) ?_
          refine mr_iald hx hb hK hP 30 (k := 37) rfl rfl rfl (show vp_in (nI (12 * el + j9)) 960 from (vp_in_nI (by omega) (by decide))) dX13_word_44 ?_
          refine lv_topi (fun z_10 ez_10 => ?_)
          obtain rfl : z_10 = (gm 37 (12 * el + j9)) := ez_10.trans (by rw [nI_clamp (by omega)])
          refine lv_topi (fun z_11 ez_11 => ?_)
          obtain rfl : z_11 = nI z9 := ez_11.trans (hz9)
          refine lv_icmp_ge (tgt := 78) hx hb dX13_word_45 (by decide) (fun c_12 => absurd c_12 (nI_ge (by omega) (by omega))) (fun _ => ?_)
          refine lv_lload hx hb dX13_word_48 (lv_at hl 1 rfl) ?_
          refine lv_bipush (v := 8) hx hb dX13_word_50 (by decide) ?_
          refine lv_lshl (v := vv <<< ((8 : Int32).toInt64 &&& 63)) hx hb dX13_word_52 rfl ?_
          refine lv_aload_n hx hb dX13_word_53 rfl (lv_at hl 3 rfl) ?_
          refine mr_get (v := .ref (ad 38)) hx hb htb inX13 hown hK hP 38 (by decide) (htb _ kw_194) rfl dX13_word_54 ?_
          refine lv_aload_n hx hb dX13_word_57 rfl (lv_at hl 3 rfl) ?_
          refine mr_get (v := .ref (ad 36)) hx hb htb inX13 hown hK hP 36 (by decide) (htb _ kw_192) rfl dX13_word_58 ?_
          refine lv_iload hx hb dX13_word_61 (lv_at hl 2 rfl) ?_
          refine mr_iald hx hb hK hP 29 (k := 36) rfl rfl rfl (show vp_in (nI (12 * el + j9)) 960 from (vp_in_nI (by omega) (by decide))) dX13_word_63 ?_
          refine lv_topi (fun z_13 ez_13 => ?_)
          obtain rfl : z_13 = (gm 36 (12 * el + j9)) := ez_13.trans (by rw [nI_clamp (by omega)])
          refine lv_topi (fun z_14 ez_14 => ?_)
          obtain rfl : z_14 = nI q9 := ez_14.trans (hq9)
          refine lv_iload hx hb dX13_word_64 (lv_at hl 0 rfl) ?_
          refine lv_iadd hx hb dX13_word_66 ?_
          refine lv_topi (fun z_15 ez_15 => ?_)
          obtain rfl : z_15 = nI (q9 + i) := ez_15.trans (nI_add _ _)
          refine mr_bald hx hb hK hP 31 (k := 38) rfl rfl rfl (show vp_in (nI (q9 + i)) 2000 from (vp_in_nI (by omega) (by decide))) dX13_word_67 ?_
          refine lv_topi (fun z_16 ez_16 => ?_)
          obtain rfl : z_16 = (gm 38 (q9 + i)) := ez_16.trans (by rw [nI_clamp (by omega)])
          refine lv_i2l (v := ((gm 38 (q9 + i)) : Int32).toInt64) hx hb dX13_word_68 rfl ?_
          refine lv_lor hx hb dX13_word_69 ?_
          refine lv_lstore (lv' := [(5, .long ((vv <<< ((8 : Int32).toInt64 &&& 63)) ||| (((gm 38 (q9 + i)) : Int32).toInt64))), (7, .int (nI i)), (4, .int (nI (12 * el + j9))), (0, .ref h0), (1, .int (nI el)), (2, .long nn)]) hx hb dX13_word_70 hl (by decide) rfl (fun ls hl => ?_)
          refine lv_iinc (v := nI (i + 1)) (lv' := [(7, .int (nI (i + 1))), (5, .long ((vv <<< ((8 : Int32).toInt64 &&& 63)) ||| (((gm 38 (q9 + i)) : Int32).toInt64))), (4, .int (nI (12 * el + j9))), (0, .ref h0), (1, .int (nI el)), (2, .long nn)]) hx hb dX13_word_72 hl (k := 1) rfl (nI_1 _) (by decide) rfl (fun ls hl => ?_)
          refine lv_goto (tgt := 36) hx hb dX13_word_75 (by decide) ?_
          exact ih (i + 1) ((vv <<< ((8 : Int32).toInt64 &&& 63)) ||| (((gm 38 (q9 + i)) : Int32).toInt64)) _ _ _ (by omega) (by rw [hE]; rfl) hP hD hS (lv_sub hl [0, 1, 2, 3, 4, 5] rfl)
      exact hloop36 z9 0 0 _ _ _ (by omega) (by unfold mWord; rw [if_neg c_3, ej9, nI_clamp (by omega), hz9, if_pos c_6, hq9, nI_clamp (by omega), nI_clamp (by omega)]) hP hD hS (lv_sub hl [0, 1, 2, 3, 4, 5] rfl)
    · refine lv_ldc2 (own := RX13) (v := (-1)) hx hb hown (htb _ kw_926) dX13_word_26 ?_
      exact W.lret (v := (-1)) hx hb hr (fun t ht hW => ⟨⟨(-1), (sg, gm, lg), rfl, ⟨(by unfold mWord; rw [if_neg c_3, ej9, nI_clamp (by omega), hz9, if_neg c_6]), rfl⟩, by rw [ht]; exact hP, va_K.moved hW.alike hK, hD⟩, hS.F ht⟩) hS.2.2 dX13_word_29

set_option maxHeartbeats 4000000 in
set_option maxRecDepth 100000 in
theorem k_isWord (l : Launch) (dC : Nat → ClassId) (dI : Nat → Nat → Nat) (h0 : Nat) (ad : Nat → Nat) (cid : Nat → ClassId) (sg : Nat → Int32) (gm : Nat → Nat → Int32) (lg : Nat → Nat → Int64) (el : Nat) (nn : Int64) (he : el < 80) (hat : mAtt gm el) : MMi l dC dI yX13_isWord wm_X13_isWord ({ frames := 1, cells := 0, slots := 0, locals := 24 }) h0 ad cid [.int (nI el), .long nn] sg gm lg (fun r v => r = mIsW gm lg el nn ∧ v = (sg, gm, lg)) := by
  intro sz
  refine Met.ofW (cc := cX13_isWord) (maxL := 6) (ret := (some .boolean)) (by decide) rfl ?_
  intro p e s m args below meth c s₁ B hml hv
  obtain ⟨rfl, hsz, hP, hK, hD0⟩ := hv
  have hx := B.exec
  have hb := B.bytes
  have hr := B.returns
  have hts := atoms_spec (ws := wm_X13_isWord) B.pre
  have htb := fun (w : Cond) (h : w ∈ tb) => hts w (List.mem_cons_of_mem _ h)
  have hown : s.vm.findClass RX13 = some m.cls := findClass_of_methodNamed B.named
  have hlocks := B.notSynchronized
  subst hsz
  have hD := hD0.self (sz := s.heap.size)
  generalize hAe : va_A (mW h0 ad cid sg gm lg) s.heap.size = A at hD ⊢
  have hA : ∀ q : Nat, s.heap.size ≤ q → A q := fun q h => by rw [← hAe]; exact Or.inr h
  have hS : va_S A s.heap s.heap [] := va_S.rf
  have hl := lv_entry ([.ref h0, .int (nI el), .long nn]) (n := 6) (Nat.le_of_ble_eq_true rfl)
  rw [lg_entry_eq]
  generalize (lg_sl ([.ref h0, .int (nI el), .long nn]) ++ List.replicate (6 - (lg_sl ([.ref h0, .int (nI el), .long nn])).length) Slot.unset).toArray = ls at hl ⊢
  have hl : lv_has ls 6 [(0, .ref h0), (1, .int (nI el)), (2, .long nn)] := hl
  obtain ⟨a9, ha9, hae, hall⟩ := id hat
  refine lv_aload_n hx hb dX13_isWord_0 rfl (lv_at hl 0 rfl) ?_
  refine lv_iload_n hx hb dX13_isWord_1 rfl (lv_at hl 1 rfl) ?_
  refine lv_lload_n hx hb dX13_isWord_2 rfl (lv_at hl 2 rfl) ?_
  refine mr_calli (rest := []) ⟨hx, hb, hml, hown, htb⟩ (k_find l dC dI h0 ad cid sg gm lg el nn he hat) (cwV 2 htb (gd_V kw_862 kw_863 kw_864 kw_5 kw_1531) rfl rfl rfl (by decide +kernel) ⟨Nat.le_of_ble_eq_true rfl, Nat.le_of_ble_eq_true rfl⟩) rfl hl.1 rfl (Nat.le_of_ble_eq_true rfl) dX13_isWord_3 ⟨Nat.zero_le _, Nat.zero_le _⟩ hK hP hD hS hA (fun r_1 u_2 H locs hw hP hD hS => ?_)
  obtain ⟨rfl, rfl⟩ := hw
  refine lv_istore (lv' := [(4, .int (mFind gm lg el nn)), (0, .ref h0), (1, .int (nI el)), (2, .long nn)]) hx hb dX13_isWord_6 hl (by decide) rfl (fun ls hl => ?_)
  refine lv_iload hx hb dX13_isWord_8 (lv_at hl 0 rfl) ?_
  refine lv_iconst (v := (-1)) hx hb dX13_isWord_10 (by decide) ?_
  refine lv_icmp_eq (tgt := 37) hx hb dX13_isWord_11 (by decide) (fun c_3 => ?_) (fun c_3 => ?_)
  · refine lv_iconst (v := 0) hx hb dX13_isWord_37 (by decide) ?_
    exact W.zret (v := 0) hx hb hr rfl (fun t ht hW => ⟨⟨0, (sg, gm, lg), rfl, ⟨(by unfold mIsW; rw [if_pos c_3]), rfl⟩, by rw [ht]; exact hP, va_K.moved hW.alike hK, hD⟩, hS.F ht⟩) hS.2.2 dX13_isWord_38
  · obtain ⟨j9, hj9, ej9⟩ := (mFind_or (lg := lg) nn ha9 hae).resolve_left c_3
    obtain ⟨q9, z9, hq9, hz9, hz24, hqz⟩ := hall j9 hj9
    rw [ej9] at hl
    refine lv_aload_n hx hb dX13_isWord_14 rfl (lv_at hl 1 rfl) ?_
    refine mr_get (v := .ref (ad 37)) hx hb htb inX13 hown hK hP 37 (by decide) (htb _ kw_193) rfl dX13_isWord_15 ?_
    refine lv_iload hx hb dX13_isWord_18 (lv_at hl 0 rfl) ?_
    refine mr_iald hx hb hK hP 30 (k := 37) rfl rfl rfl (show vp_in (nI (12 * el + j9)) 960 from (vp_in_nI (by omega) (by decide))) dX13_isWord_20 ?_
    refine lv_topi (fun z_4 ez_4 => ?_)
    obtain rfl : z_4 = (gm 37 (12 * el + j9)) := ez_4.trans (by rw [nI_clamp (by omega)])
    refine lv_topi (fun z_5 ez_5 => ?_)
    obtain rfl : z_5 = nI z9 := ez_5.trans (hz9)
    refine lv_iconst (v := 1) hx hb dX13_isWord_21 (by decide) ?_
    refine lv_icmp_lt (tgt := 37) hx hb dX13_isWord_22 (by decide) (fun c_6 => ?_) (fun c_6 => ?_)
    · refine lv_iconst (v := 0) hx hb dX13_isWord_37 (by decide) ?_
      exact W.zret (v := 0) hx hb hr rfl (fun t ht hW => ⟨⟨0, (sg, gm, lg), rfl, ⟨(by unfold mIsW; rw [if_neg c_3, ej9, nI_clamp (by omega), hz9, if_pos c_6]), rfl⟩, by rw [ht]; exact hP, va_K.moved hW.alike hK, hD⟩, hS.F ht⟩) hS.2.2 dX13_isWord_38
    · refine lv_aload_n hx hb dX13_isWord_25 rfl (lv_at hl 1 rfl) ?_
      refine mr_get (v := .ref (ad 37)) hx hb htb inX13 hown hK hP 37 (by decide) (htb _ kw_193) rfl dX13_isWord_26 ?_
      refine lv_iload hx hb dX13_isWord_29 (lv_at hl 0 rfl) ?_
      refine mr_iald hx hb hK hP 30 (k := 37) rfl rfl rfl (show vp_in (nI (12 * el + j9)) 960 from (vp_in_nI (by omega) (by decide))) dX13_isWord_31 ?_
      refine lv_topi (fun z_7 ez_7 => ?_)
      obtain rfl : z_7 = (gm 37 (12 * el + j9)) := ez_7.trans (by rw [nI_clamp (by omega)])
      refine lv_topi (fun z_8 ez_8 => ?_)
      obtain rfl : z_8 = nI z9 := ez_8.trans (hz9)
      refine lv_bipush (v := 8) hx hb dX13_isWord_32 (by decide) ?_
      refine lv_icmp_le (tgt := 39) hx hb dX13_isWord_34 (by decide) (fun c_9 => ?_) (fun c_9 => ?_)
      · refine lv_iconst (v := 0) hx hb dX13_isWord_39 (by decide) ?_
        refine lv_istore (lv' := [(5, .int 0), (4, .int (nI (12 * el + j9))), (0, .ref h0), (1, .int (nI el)), (2, .long nn)]) hx hb dX13_isWord_40 hl (by decide) rfl (fun ls hl => ?_)
        have hloop42 : ∀ (n : Nat) (i : Nat) (H : Heap) (locs : List Loc) (ls : Array Slot), i + n = z9 → mIsW gm lg el nn = allF (gm 38) q9 n i → va_P (dC, dI) vwCl (mW h0 ad cid sg gm lg) H → va_D A (mW h0 ad cid sg gm lg) → va_S A s.heap H locs → lv_has ls 6 [(5, .int (nI i)), (4, .int (nI (12 * el + j9))), (0, .ref h0), (1, .int (nI el)), (2, .long nn)] → W p l e (headSpec wm_X13_isWord ({ frames := 1, cells := 0, slots := 0, locals := 24 })).room s m ([.ref h0, .int (nI el), .long nn] : List Value).toArray below meth c H locs 0 0 (MQ below (va_Qi (fun r v => r = mIsW gm lg el nn ∧ v = (sg, gm, lg)) (MB dC dI h0 ad cid A) A) ([.ref h0, .int (nI el), .long nn] : List Value).toArray s 0 0 A) (F0 m 42 ls []) := by
          intro n
          induction n with
          | zero =>
            intro i H locs ls hi9 hE hP hD hS hl
            refine lv_iload hx hb dX13_isWord_42 (lv_at hl 0 rfl) ?_
            refine lv_aload_n hx hb dX13_isWord_44 rfl (lv_at hl 2 rfl) ?_
            refine mr_get (v := .ref (ad 37)) hx hb htb inX13 hown hK hP 37 (by decide) (htb _ kw_193) rfl dX13_isWord_45 ?_
            refine lv_iload hx hb dX13_isWord_48 (lv_at hl 1 rfl) ?_
            refine mr_iald hx hb hK hP 30 (k := 37) rfl rfl rfl (show vp_in (nI (12 * el + j9)) 960 from (vp_in_nI (by omega) (by decide))) dX13_isWord_50 ?_
            refine lv_topi (fun z_10 ez_10 => ?_)
            obtain rfl : z_10 = (gm 37 (12 * el + j9)) := ez_10.trans (by rw [nI_clamp (by omega)])
            refine lv_topi (fun z_11 ez_11 => ?_)
            obtain rfl : z_11 = nI z9 := ez_11.trans (hz9)
            refine lv_icmp_ge (tgt := 84) hx hb dX13_isWord_51 (by decide) (fun _ => ?_) (fun c_12 => absurd (nI_le (by omega) (by omega)) c_12)
            refine lv_iconst (v := 1) hx hb dX13_isWord_84 (by decide) ?_
            exact W.zret (v := 1) hx hb hr rfl (fun t ht hW => ⟨⟨1, (sg, gm, lg), rfl, ⟨(hE.symm), rfl⟩, by rw [ht]; exact hP, va_K.moved hW.alike hK, hD⟩, hS.F ht⟩) hS.2.2 dX13_isWord_85
          | succ n ih =>
            intro i H locs ls hi9 hE hP hD hS hl
            refine lv_iload hx hb dX13_isWord_42 (lv_at hl 0 rfl) ?_
            refine lv_aload_n hx hb dX13_isWord_44 rfl (lv_at hl 2 rfl) ?_
            refine mr_get (v := .ref (ad 37)) hx hb htb inX13 hown hK hP 37 (by decide) (htb _ kw_193) rfl dX13_isWord_45 ?_
            refine lv_iload hx hb dX13_isWord_48 (lv_at hl 1 rfl) ?_
            refine mr_iald hx hb hK hP 30 (k := 37) rfl rfl rfl (show vp_in (nI (12 * el + j9)) 960 from (vp_in_nI (by omega) (by decide))) dX13_isWord_50 ?_
            refine lv_topi (fun z_13 ez_13 => ?_)
            obtain rfl : z_13 = (gm 37 (12 * el + j9)) := ez_13.trans (by rw [nI_clamp (by omega)])
            refine lv_topi (fun z_14 ez_14 => ?_)
            obtain rfl : z_14 = nI z9 := ez_14.trans (hz9)
            refine lv_icmp_ge (tgt := 84) hx hb dX13_isWord_51 (by decide) (fun c_15 => absurd c_15 (nI_ge (by omega) (by omega))) (fun _ => ?_)
            refine lv_aload_n hx hb dX13_isWord_54 rfl (lv_at hl 2 rfl) ?_
            refine lv_aload_n hx hb dX13_isWord_55 rfl (lv_at hl 2 rfl) ?_
            refine mr_get (v := .ref (ad 38)) hx hb htb inX13 hown hK hP 38 (by decide) (htb _ kw_194) rfl dX13_isWord_56 ?_
            refine lv_aload_n hx hb dX13_isWord_59 rfl (lv_at hl 2 rfl) ?_
            refine mr_get (v := .ref (ad 36)) hx hb htb inX13 hown hK hP 36 (by decide) (htb _ kw_192) rfl dX13_isWord_60 ?_
            refine lv_iload hx hb dX13_isWord_63 (lv_at hl 1 rfl) ?_
            refine mr_iald hx hb hK hP 29 (k := 36) rfl rfl rfl (show vp_in (nI (12 * el + j9)) 960 from (vp_in_nI (by omega) (by decide))) dX13_isWord_65 ?_
            refine lv_topi (fun z_16 ez_16 => ?_)
            obtain rfl : z_16 = (gm 36 (12 * el + j9)) := ez_16.trans (by rw [nI_clamp (by omega)])
            refine lv_topi (fun z_17 ez_17 => ?_)
            obtain rfl : z_17 = nI q9 := ez_17.trans (hq9)
            refine lv_iload hx hb dX13_isWord_66 (lv_at hl 0 rfl) ?_
            refine lv_iadd hx hb dX13_isWord_68 ?_
            refine lv_topi (fun z_18 ez_18 => ?_)
            obtain rfl : z_18 = nI (q9 + i) := ez_18.trans (nI_add _ _)
            refine mr_bald hx hb hK hP 31 (k := 38) rfl rfl rfl (show vp_in (nI (q9 + i)) 2000 from (vp_in_nI (by omega) (by decide))) dX13_isWord_69 ?_
            refine lv_topi (fun z_19 ez_19 => ?_)
            obtain rfl : z_19 = (gm 38 (q9 + i)) := ez_19.trans (by rw [nI_clamp (by omega)])
            refine mr_calli (rest := []) ⟨hx, hb, hml, hown, htb⟩ (k_isSmall l dC dI h0 ad cid sg gm lg (gm 38 (q9 + i))) (cwV 1 htb (gd_V kw_850 kw_851 kw_852 kw_5 kw_1527) rfl rfl rfl (by decide +kernel) ⟨Nat.le_of_ble_eq_true rfl, Nat.le_of_ble_eq_true rfl⟩) rfl hl.1 rfl (Nat.le_of_ble_eq_true rfl) dX13_isWord_70 ⟨Nat.zero_le _, Nat.zero_le _⟩ hK hP hD hS hA (fun r_20 u_21 H locs hw hP hD hS => ?_)
            obtain ⟨rfl, rfl⟩ := hw
            refine lv_if_ne (tgt := 78) hx hb dX13_isWord_73 (by decide) (fun c_22 => ?_) (fun c_22 => ?_)
            · refine lv_iinc (v := nI (i + 1)) (lv' := [(5, .int (nI (i + 1))), (4, .int (nI (12 * el + j9))), (0, .ref h0), (1, .int (nI el)), (2, .long nn)]) hx hb dX13_isWord_78 hl (k := 0) rfl (nI_1 _) (by decide) rfl (fun ls hl => ?_)
              refine lv_goto (tgt := 42) hx hb dX13_isWord_81 (by decide) ?_
              exact ih (i + 1) _ _ _ (by omega) (by rw [hE]; show (if _ then _ else _) = _; rw [if_neg c_22]) hP hD hS (lv_sub hl [0, 1, 2, 3, 4] rfl)
            · refine lv_iconst (v := 0) hx hb dX13_isWord_76 (by decide) ?_
              exact W.zret (v := 0) hx hb hr rfl (fun t ht hW => ⟨⟨0, (sg, gm, lg), rfl, ⟨(by rw [hE]; show _ = (if _ then _ else _); rw [if_pos c_22]), rfl⟩, by rw [ht]; exact hP, va_K.moved hW.alike hK, hD⟩, hS.F ht⟩) hS.2.2 dX13_isWord_77
        exact hloop42 z9 0 _ _ _ (by omega) (by unfold mIsW; rw [if_neg c_3, ej9, nI_clamp (by omega), hz9, if_neg c_6, if_pos c_9, hq9, nI_clamp (by omega), nI_clamp (by omega)]) hP hD hS (lv_sub hl [0, 1, 2, 3, 4] rfl)
      · refine lv_iconst (v := 0) hx hb dX13_isWord_37 (by decide) ?_
        exact W.zret (v := 0) hx hb hr rfl (fun t ht hW => ⟨⟨0, (sg, gm, lg), rfl, ⟨(by unfold mIsW; rw [if_neg c_3, ej9, nI_clamp (by omega), hz9, if_neg c_6, if_neg c_9]), rfl⟩, by rw [ht]; exact hP, va_K.moved hW.alike hK, hD⟩, hS.F ht⟩) hS.2.2 dX13_isWord_38
end
section
/-- x lies between a and b -/
def iv (a b : Int) (x : Int32) : Prop := a ≤ x.toInt ∧ x.toInt ≤ b
theorem iv_w {a b c d : Int} {x : Int32} (h : iv a b x) (hc : c ≤ a ∧ b ≤ d) : iv c d x := ⟨Int.le_trans hc.1 h.1, Int.le_trans h.2 hc.2⟩
theorem iv_k {a b : Int} {x : Int32} (h : a ≤ x.toInt ∧ x.toInt ≤ b) : iv a b x := h
theorem iv_of {a b : Int} {x y : Int32} (q : y = x) (h : iv a b x) : iv a b y := by rw [q]; exact h
theorem iv_all (x : Int32) : iv (-2147483648) 2147483647 x := ⟨Int32.le_toInt x, by have := Int32.toInt_lt x; omega⟩
theorem iv_no {a b : Int} {x : Int32} (h : iv a b x) (hc : b < a) : False := by
  have h1 := h.1
  have h2 := h.2
  omega
theorem i32_bm {z : Int} (h : -2147483648 ≤ z ∧ z ≤ 2147483647) : z.bmod (2 ^ 32) = z := by
  rw [Int.bmod_def]
  have : ((2 ^ 32 : Nat) : Int) = 4294967296 := by decide
  rw [this]
  split <;> omega
theorem iv_addE {a b c d : Int} {x y : Int32} (h1 : iv a b x) (h2 : iv c d y) (h : -2147483648 ≤ a + c ∧ b + d ≤ 2147483647) : (x + y).toInt = x.toInt + y.toInt := by
  have q1 := h1.1
  have q2 := h1.2
  have q3 := h2.1
  have q4 := h2.2
  rw [Int32.toInt_add, i32_bm]
  omega
theorem iv_add {a b c d lo hi : Int} {x y : Int32} (h1 : iv a b x) (h2 : iv c d y) (h : (-2147483648 ≤ a + c ∧ b + d ≤ 2147483647) ∧ lo ≤ a + c ∧ b + d ≤ hi) : iv lo hi (x + y) := by
  have q1 := h1.1
  have q2 := h1.2
  have q3 := h2.1
  have q4 := h2.2
  refine ⟨?_, ?_⟩ <;> rw [iv_addE h1 h2 h.1] <;> omega
theorem iv_subE {a b c d : Int} {x y : Int32} (h1 : iv a b x) (h2 : iv c d y) (h : -2147483648 ≤ a - d ∧ b - c ≤ 2147483647) : (x - y).toInt = x.toInt - y.toInt := by
  have q1 := h1.1
  have q2 := h1.2
  have q3 := h2.1
  have q4 := h2.2
  rw [Int32.toInt_sub, i32_bm]
  omega
theorem iv_sub {a b c d lo hi : Int} {x y : Int32} (h1 : iv a b x) (h2 : iv c d y) (h : (-2147483648 ≤ a - d ∧ b - c ≤ 2147483647) ∧ lo ≤ a - d ∧ b - c ≤ hi) : iv lo hi (x - y) := by
  have q1 := h1.1
  have q2 := h1.2
  have q3 := h2.1
  have q4 := h2.2
  refine ⟨?_, ?_⟩ <;> rw [iv_subE h1 h2 h.1] <;> omega
theorem iv_mulE {a b c d : Int} {x y : Int32} (h1 : iv a b x) (h2 : iv c d y) (h : (0 ≤ a ∧ 0 ≤ c) ∧ b * d ≤ 2147483647) : (x * y).toInt = x.toInt * y.toInt := by
  have q1 := h1.1
  have q2 := h1.2
  have q3 := h2.1
  have q4 := h2.2
  have k1 : 0 ≤ x.toInt * y.toInt := Int.mul_nonneg (by omega) (by omega)
  have k2 : x.toInt * y.toInt ≤ b * d := Int.mul_le_mul q2 q4 (by omega) (by omega)
  rw [Int32.toInt_mul, i32_bm]
  omega
theorem iv_mul {a b c d lo hi : Int} {x y : Int32} (h1 : iv a b x) (h2 : iv c d y) (h : ((0 ≤ a ∧ 0 ≤ c) ∧ b * d ≤ 2147483647) ∧ lo ≤ a * c ∧ b * d ≤ hi) : iv lo hi (x * y) := by
  have q1 := h1.1
  have q2 := h1.2
  have q3 := h2.1
  have q4 := h2.2
  have k1 : a * c ≤ x.toInt * y.toInt := Int.mul_le_mul q1 q3 (by omega) (by omega)
  have k2 : x.toInt * y.toInt ≤ b * d := Int.mul_le_mul q2 q4 (by omega) (by omega)
  refine ⟨?_, ?_⟩ <;> rw [iv_mulE h1 h2 h.1] <;> omega
theorem iv_ltL {a b c d hi : Int} {x y : Int32} (h : x < y) (h1 : iv a b x) (h2 : iv c d y) (q : d - 1 ≤ hi ∨ b ≤ hi) : iv a hi x := by
  have h := Int32.lt_iff_toInt_lt.mp h
  have q2 := h1.2
  have q4 := h2.2
  exact ⟨h1.1, by omega⟩
theorem iv_ltR {a b c d lo : Int} {x y : Int32} (h : x < y) (h1 : iv a b x) (h2 : iv c d y) (q : lo ≤ a + 1 ∨ lo ≤ c) : iv lo d y := by
  have h := Int32.lt_iff_toInt_lt.mp h
  have q2 := h1.1
  have q4 := h2.1
  exact ⟨by omega, h2.2⟩
theorem iv_leL {a b c d hi : Int} {x y : Int32} (h : x ≤ y) (h1 : iv a b x) (h2 : iv c d y) (q : d ≤ hi ∨ b ≤ hi) : iv a hi x := by
  have h := Int32.le_iff_toInt_le.mp h
  have q2 := h1.2
  have q4 := h2.2
  exact ⟨h1.1, by omega⟩
theorem iv_leR {a b c d lo : Int} {x y : Int32} (h : x ≤ y) (h1 : iv a b x) (h2 : iv c d y) (q : lo ≤ a ∨ lo ≤ c) : iv lo d y := by
  have h := Int32.le_iff_toInt_le.mp h
  have q2 := h1.1
  have q4 := h2.1
  exact ⟨by omega, h2.2⟩
theorem iv_eq {a b c d lo hi : Int} {x y : Int32} (h : x = y) (h1 : iv a b x) (h2 : iv c d y) (q : (lo ≤ a ∨ lo ≤ c) ∧ (b ≤ hi ∨ d ≤ hi)) : iv lo hi x := by
  subst h
  have q1 := h1.1
  have q2 := h1.2
  have q3 := h2.1
  have q4 := h2.2
  exact ⟨by omega, by omega⟩
theorem iv_neL {a b lo : Int} {x y : Int32} (h : ¬ x = y) (h1 : iv a b x) (q : y.toInt = a ∧ lo = a + 1) : iv lo b x := by
  have q1 := h1.1
  have q3 : x.toInt ≠ y.toInt := fun k => h (Int32.toInt_inj.mp k)
  exact ⟨by omega, h1.2⟩
theorem iv_neH {a b hi : Int} {x y : Int32} (h : ¬ x = y) (h1 : iv a b x) (q : y.toInt = b ∧ hi = b - 1) : iv a hi x := by
  have q1 := h1.2
  have q3 : x.toInt ≠ y.toInt := fun k => h (Int32.toInt_inj.mp k)
  exact ⟨h1.1, by omega⟩
theorem iv_at {x : Int32} {k : Int} (h : x.toInt = k) : iv k k x := ⟨by omega, by omega⟩
theorem iv_in {a b : Int} {x : Int32} {n : Nat} (h : iv a b x) (q : 0 ≤ a ∧ b < (n : Int)) : vp_in x n := vp_in_iff.mpr ⟨Int.le_trans q.1 h.1, Int.lt_of_le_of_lt h.2 q.2⟩
theorem iv_cl {a b : Int} {x : Int32} (h : iv a b x) (q : 0 ≤ a) : ((x.toNatClampNeg : Nat) : Int) = x.toInt := by
  have h1 := h.1
  show ((x.toInt.toNat : Nat) : Int) = x.toInt
  omega
theorem iv_nI {a b : Int} {x : Int32} (h : iv a b x) (q : 0 ≤ a) : nI x.toNatClampNeg = x := by
  have h1 := h.1
  have h2 := Int32.toInt_lt x
  have h3 := iv_cl h q
  apply Int32.toInt_inj.mp
  rw [nI_toInt (by omega)]
  exact h3
theorem iv_meas {a b M : Int} {x z : Int32} (h : z.toInt = x.toInt + 1) (h1 : iv a b x) (q : b < M) : (M - z.toInt).toNat < (M - x.toInt).toNat := by
  have h2 := h1.2
  omega
theorem iv_bool {x : Int32} (h : iv 0 1 x) : x = 0 ∨ x = 1 := by
  have h1 := h.1
  have h2 := h.2
  by_cases k : x.toInt = 0
  · exact Or.inl (Int32.toInt_inj.mp k)
  · exact Or.inr (Int32.toInt_inj.mp (by show x.toInt = 1; omega))
theorem iv_nb {x : Int32} (h : iv 0 1 x) : narrow .boolean (.int x) = .int x := by
  rcases iv_bool h with rfl | rfl <;> rfl
theorem iv_fb {x : Int32} (h : iv 0 1 x) : fits .boolean (.int x) = true := by
  rcases iv_bool h with rfl | rfl <;> rfl
theorem iv_vb {x : Int32} (h : iv 0 1 x) : vp_nar .boolean x = x := by
  rcases iv_bool h with rfl | rfl <;> rfl
theorem iv_cmp (x y : Int64) : iv (-1) 1 (lg_cmp x y) := by
  unfold lg_cmp
  split
  · exact iv_k (by decide)
  · split <;> exact iv_k (by decide)
theorem iv_byte (x : Int32) : iv (-128) 127 (x.toInt8.toInt32) := by
  have h1 := Int8.le_toInt x.toInt8
  have h2 := Int8.toInt_lt x.toInt8
  refine ⟨?_, ?_⟩ <;> rw [Int8.toInt_toInt32] <;> omega
theorem iv_vby (x : Int32) : iv (-128) 127 (vp_nar .byte x) := by rw [vp_nar_byte]; exact iv_byte x
theorem iv_vbz {a b : Int} {x : Int32} (h : iv a b x) (q : 0 ≤ a ∧ b ≤ 127) : vp_nar .byte x = x := by
  rw [vp_nar_byte]
  apply Int32.toInt_inj.mp
  have h1 := h.1
  have h2 := h.2
  rw [Int8.toInt_toInt32, Int32.toInt_toInt8, Int.bmod_def]
  have : ((2 ^ 8 : Nat) : Int) = 256 := by decide
  rw [this]
  split <;> omega
theorem i32_ge {x y : Int32} (h : ¬ x < y) : y ≤ x := Int32.not_lt.mp h
theorem i32_lt {x y : Int32} (h : ¬ y ≤ x) : x < y := Int32.not_le.mp h
/-- the two rows of numbers are alike but at the places L -/
def KS {α : Type} (L : List Nat) (f g : Nat → α) : Prop := ∀ k, L.contains k = false → g k = f k
theorem KS_rf {α : Type} {L : List Nat} {f : Nat → α} : KS L f f := fun _ _ => rfl
theorem KS_up {α : Type} {L : List Nat} {f g g1 : Nat → α} {k : Nat} {x : α} (h : KS L f g) (q : g1 = va_up g k x) (hk : L.contains k = true) : KS L f g1 := fun j hj => by
  rw [q, va_up_ne g x (fun e => by rw [e, hk] at hj; cases hj)]
  exact h j hj
theorem KS_tr {α : Type} {L M : List Nat} {f g g1 : Nat → α} (h : KS L f g) (q : KS M g g1) (hk : M.all (fun k => L.contains k) = true) : KS L f g1 := fun j hj => by
  have hm : M.contains j = false := by
    cases hc : M.contains j with
    | false => rfl
    | true =>
      have h1 := List.all_eq_true.mp hk j (List.contains_iff_mem.mp hc)
      rw [h1] at hj
      cases hj
  exact (q j hm).trans (h j hj)
theorem up_ne {α : Type} {g g1 : Nat → α} {k j : Nat} {x : α} (q : g1 = va_up g k x) (h : j ≠ k) : g1 j = g j := by rw [q, va_up_ne g x h]
theorem up_at {α : Type} {g g1 : Nat → α} {k : Nat} {x : α} (q : g1 = va_up g k x) : g1 k = x := by rw [q, va_up_self]
end
section
def sLo (k : Nat) : Int := match k with
  | 20 => 0
  | 21 => 0
  | 22 => 0
  | 24 => 0
  | 25 => 0
  | 40 => 0
  | 41 => 0
  | 48 => 0
  | 49 => 0
  | 50 => 0
  | 51 => 0
  | 52 => -1
  | 63 => 0
  | 74 => -1
  | 76 => 0
  | _ => -2147483648
def sHi (k : Nat) : Int := match k with
  | 20 => 1200
  | 21 => 1201
  | 22 => 3
  | 24 => 80
  | 25 => 1201
  | 40 => 1
  | 41 => 80
  | 48 => 60
  | 49 => 400
  | 50 => 80
  | 51 => 8
  | 52 => 79
  | 63 => 80
  | 74 => 59
  | 76 => 1
  | _ => 2147483647
def aLo (k : Nat) : Int := match k with
  | 3 => 3
  | 4 => 34
  | 6 => -1
  | 7 => 0
  | 8 => 0
  | 10 => 0
  | 11 => 0
  | 12 => 0
  | 13 => 0
  | 14 => 0
  | 15 => 0
  | 16 => 0
  | 18 => 0
  | 19 => 0
  | 26 => 0
  | 27 => 0
  | 28 => -1
  | 29 => 0
  | 30 => 0
  | 31 => 0
  | 32 => 0
  | 36 => 0
  | 37 => 0
  | 38 => -128
  | 39 => -128
  | 42 => 0
  | 43 => 0
  | 44 => 0
  | 45 => 0
  | 46 => 0
  | 47 => 0
  | 53 => 0
  | 54 => 0
  | 59 => 0
  | 60 => -1
  | 61 => 0
  | 62 => 0
  | 64 => 0
  | 65 => 0
  | 66 => 0
  | 67 => 0
  | 68 => -1
  | 69 => -1
  | 70 => 0
  | 71 => 0
  | 72 => 0
  | 73 => 0
  | 75 => -1
  | _ => -2147483648
def aHi (k : Nat) : Int := match k with
  | 3 => 5
  | 4 => 62
  | 6 => 7
  | 7 => 4
  | 8 => 3
  | 10 => 8
  | 11 => 25
  | 12 => 15
  | 13 => 4
  | 14 => 25
  | 15 => 7
  | 16 => 3
  | 18 => 1
  | 19 => 126
  | 26 => 10
  | 27 => 1201
  | 28 => 79
  | 29 => 80
  | 30 => 12
  | 31 => 24
  | 32 => 1201
  | 36 => 1201
  | 37 => 24
  | 38 => 127
  | 39 => 127
  | 42 => 79
  | 43 => 79
  | 44 => 26
  | 45 => 79
  | 46 => 26
  | 47 => 79
  | 53 => 7
  | 54 => 79
  | 59 => 79
  | 60 => 59
  | 61 => 1
  | 62 => 1
  | 64 => 79
  | 65 => 4
  | 66 => 26
  | 67 => 6
  | 68 => 59
  | 69 => 59
  | 70 => 3
  | 71 => 1079
  | 72 => 3
  | 73 => 1079
  | 75 => 3
  | _ => 2147483647
/-- every field and every cell of the reference keeps to its range -/
def MI (sg : Nat → Int32) (gm : Nat → Nat → Int32) : Prop := (∀ k, iv (sLo k) (sHi k) (sg k)) ∧ ∀ k i, i < mLen k → iv (aLo k) (aHi k) (gm k i)
theorem MI_s {sg : Nat → Int32} {gm : Nat → Nat → Int32} (h : MI sg gm) (k : Nat) : iv (sLo k) (sHi k) (sg k) := h.1 k
theorem MI_a {sg : Nat → Int32} {gm : Nat → Nat → Int32} {a b : Int} {x : Int32} (h : MI sg gm) (k : Nat) (hx : iv a b x) (q : 0 ≤ a ∧ b < (mLen k : Int)) : iv (aLo k) (aHi k) (gm k x.toNatClampNeg) := h.2 k _ (by
  have h1 := iv_cl hx q.1
  have h2 := hx.2
  have h3 := q.2
  omega)
theorem MI_put {sg sg1 : Nat → Int32} {gm : Nat → Nat → Int32} {a b : Int} {x : Int32} {k : Nat} (h : MI sg gm) (q : sg1 = va_up sg k x) (hx : iv a b x) (hk : sLo k ≤ a ∧ b ≤ sHi k) : MI sg1 gm := ⟨fun j => by
  by_cases hj : j = k
  · subst hj; rw [up_at q]; exact iv_w hx hk
  · rw [up_ne q hj]; exact h.1 j, h.2⟩
theorem MI_st {sg : Nat → Int32} {gm gm1 : Nat → Nat → Int32} {a b : Int} {x : Int32} {k j : Nat} (h : MI sg gm) (q : gm1 = va_up gm k (upd (gm k) j x)) (hx : iv a b x) (hk : aLo k ≤ a ∧ b ≤ aHi k) : MI sg gm1 := ⟨h.1, fun i n hn => by
  by_cases hj : i = k
  · subst hj
    rw [up_at q]
    show iv _ _ (if n = j then x else gm i n)
    by_cases e9 : n = j
    · rw [if_pos e9]; exact iv_w hx hk
    · rw [if_neg e9]; exact h.2 i n hn
  · rw [up_ne q hj]; exact h.2 i n hn⟩
section MA
variable {p : Program} {l : Launch} {e : Env} {R : Room} {s : State} {m : MethodId} {args : Array Value} {below : List Frame} {meth : Method} {c : Code} {H : Heap} {locs : List Loc} {cells slots : Nat} {Q : State → Prop} {cc : ByteArray} {pc : Nat} {ls : Array Slot} {rest : List Value} {A : Nat → Prop} {H0 : Heap}
variable {dC : Nat → ClassId} {dI : Nat → Nat → Nat} {h0 : Nat} {ad : Nat → Nat} {cid : Nat → ClassId} {sg : Nat → Int32} {gm : Nat → Nat → Int32} {lg : Nat → Nat → Int64} {Ts : List Cond} {own : String} {index : Nat}
theorem ma_put (hexec : p.tables.exec = Jvm.exec) (hb : c.code = cc) (hts : ∀ w ∈ Ts, w.before args s = true) (hin : ∀ w ∈ u_ws RX13 TX13 77, w ∈ Ts) (hown : s.vm.findClass own = some m.cls) (hK : va_K (dC, dI) vwCl (mT cid) s) (hP : va_P (dC, dI) vwCl (mW h0 ad cid sg gm lg) H) (hD : va_D A (mW h0 ad cid sg gm lg)) (hS : va_S A H0 H locs) (k : Nat) (hk : k < 77) (hm : mArr k = false) (hlink : (Cond.fieldLink own index (TX13 k).1 (TX13 k).2.1 (TX13 k).2.2.1).before args s = true) (hfin : (TX13 k).2.2.2 = false) {x : Int32} (hn : narrow (tyX13 k) (.int x) = .int x) (hfit : fits (tyX13 k) (.int x) = true) (hdg : decode cc pc = .ok (.putfield index, 3))
    (kk : ∀ (sg1 : Nat → Int32) (H1 : Heap) (locs1 : List Loc), sg1 = va_up sg k x → va_P (dC, dI) vwCl (mW h0 ad cid sg1 gm lg) H1 → va_D A (mW h0 ad cid sg1 gm lg) → va_S A H0 H1 locs1 → W p l e R s m args below meth c H1 locs1 cells slots Q (F0 m (pc + 3) ls rest)) : W p l e R s m args below meth c H locs cells slots Q (F0 m pc ls (.int x :: .ref h0 :: rest)) :=
  mr_put hexec hb hts hin hown hK hP hD hS k hk hm hlink hfin hn hfit hdg (fun H1 locs1 => kk _ H1 locs1 rfl)
theorem ma_iast (hexec : p.tables.exec = Jvm.exec) (hb : c.code = cc) (hK : va_K (dC, dI) vwCl (mT cid) s) (hP : va_P (dC, dI) vwCl (mW h0 ad cid sg gm lg) H) (hD : va_D A (mW h0 ad cid sg gm lg)) (hS : va_S A H0 H locs) (i : Nat) {k : Nat} (hi : mK[i]? = some k) (hl : mLong k = false) (ht : mTy k = .int) {j x : Int32} (hin : vp_in j (mLen k)) (hdg : decode cc pc = .ok (.iastore, 1))
    (kk : ∀ (gm1 : Nat → Nat → Int32) (H1 : Heap) (locs1 : List Loc), gm1 = va_up gm k (upd (gm k) j.toNatClampNeg x) → va_P (dC, dI) vwCl (mW h0 ad cid sg gm1 lg) H1 → va_D A (mW h0 ad cid sg gm1 lg) → va_S A H0 H1 locs1 → W p l e R s m args below meth c H1 locs1 cells slots Q (F0 m (pc + 1) ls rest)) : W p l e R s m args below meth c H locs cells slots Q (F0 m pc ls (.int x :: .int j :: .ref (ad k) :: rest)) :=
  mr_iast hexec hb hK hP hD hS i hi hl ht hin hdg (fun H1 locs1 => kk _ H1 locs1 rfl)
theorem ma_zast (hexec : p.tables.exec = Jvm.exec) (hb : c.code = cc) (hK : va_K (dC, dI) vwCl (mT cid) s) (hP : va_P (dC, dI) vwCl (mW h0 ad cid sg gm lg) H) (hD : va_D A (mW h0 ad cid sg gm lg)) (hS : va_S A H0 H locs) (i : Nat) {k : Nat} (hi : mK[i]? = some k) (hl : mLong k = false) (ht : mTy k = .boolean) {j x : Int32} (hin : vp_in j (mLen k)) (hdg : decode cc pc = .ok (.bastore, 1))
    (kk : ∀ (gm1 : Nat → Nat → Int32) (H1 : Heap) (locs1 : List Loc), gm1 = va_up gm k (upd (gm k) j.toNatClampNeg (vp_nar .boolean x)) → va_P (dC, dI) vwCl (mW h0 ad cid sg gm1 lg) H1 → va_D A (mW h0 ad cid sg gm1 lg) → va_S A H0 H1 locs1 → W p l e R s m args below meth c H1 locs1 cells slots Q (F0 m (pc + 1) ls rest)) : W p l e R s m args below meth c H locs cells slots Q (F0 m pc ls (.int x :: .int j :: .ref (ad k) :: rest)) :=
  mr_zast hexec hb hK hP hD hS i hi hl ht hin hdg (fun H1 locs1 => kk _ H1 locs1 rfl)
theorem ma_bast (hexec : p.tables.exec = Jvm.exec) (hb : c.code = cc) (hK : va_K (dC, dI) vwCl (mT cid) s) (hP : va_P (dC, dI) vwCl (mW h0 ad cid sg gm lg) H) (hD : va_D A (mW h0 ad cid sg gm lg)) (hS : va_S A H0 H locs) (i : Nat) {k : Nat} (hi : mK[i]? = some k) (hl : mLong k = false) (ht : mTy k = .byte) {j x : Int32} (hin : vp_in j (mLen k)) (hdg : decode cc pc = .ok (.bastore, 1))
    (kk : ∀ (gm1 : Nat → Nat → Int32) (H1 : Heap) (locs1 : List Loc), gm1 = va_up gm k (upd (gm k) j.toNatClampNeg (vp_nar .byte x)) → va_P (dC, dI) vwCl (mW h0 ad cid sg gm1 lg) H1 → va_D A (mW h0 ad cid sg gm1 lg) → va_S A H0 H1 locs1 → W p l e R s m args below meth c H1 locs1 cells slots Q (F0 m (pc + 1) ls rest)) : W p l e R s m args below meth c H locs cells slots Q (F0 m pc ls (.int x :: .int j :: .ref (ad k) :: rest)) :=
  mr_bast hexec hb hK hP hD hS i hi hl ht hin hdg (fun H1 locs1 => kk _ H1 locs1 rfl)
theorem ma_last (hexec : p.tables.exec = Jvm.exec) (hb : c.code = cc) (hK : va_K (dC, dI) vwCl (mT cid) s) (hP : va_P (dC, dI) vwCl (mW h0 ad cid sg gm lg) H) (hD : va_D A (mW h0 ad cid sg gm lg)) (hS : va_S A H0 H locs) (i : Nat) {k : Nat} (hi : mK[i]? = some k) (hl : mLong k = true) (ht : mTy k = .long) {j : Int32} {x : Int64} (hin : vp_in j (mLen k)) (hdg : decode cc pc = .ok (.lastore, 1))
    (kk : ∀ (lg1 : Nat → Nat → Int64) (H1 : Heap) (locs1 : List Loc), lg1 = va_up lg k (vp_updL (lg k) j.toNatClampNeg x) → va_P (dC, dI) vwCl (mW h0 ad cid sg gm lg1) H1 → va_D A (mW h0 ad cid sg gm lg1) → va_S A H0 H1 locs1 → W p l e R s m args below meth c H1 locs1 cells slots Q (F0 m (pc + 1) ls rest)) : W p l e R s m args below meth c H locs cells slots Q (F0 m pc ls (.long x :: .int j :: .ref (ad k) :: rest)) :=
  mr_last hexec hb hK hP hD hS i hi hl ht hin hdg (fun H1 locs1 => kk _ H1 locs1 rfl)
end MA
end
section
theorem KS_nil {α : Type} {f g : Nat → α} (h : KS [] f g) : f = g := funext (fun k => (h k rfl).symm)
theorem i32_0 : (0 : Int32).toInt = 0 := rfl
theorem i32_1 : (1 : Int32).toInt = 1 := rfl
theorem i32_2 : (2 : Int32).toInt = 2 := rfl
theorem i32_m1 : (-1 : Int32).toInt = -1 := rfl
theorem iv_measDn {a b M d : Int} {x z : Int32} (h : z.toInt = x.toInt - d) (hd : 0 < d) (h1 : iv a b x) (q : M < a) : (z.toInt - M).toNat < (x.toInt - M).toNat := by
  have h2 := h1.1
  omega
theorem iv_l255 {w z : Int64} (h : z = w &&& 255) : iv 0 255 z.toInt32 := by
  subst h
  have k : (w &&& 255).toInt = ((w &&& 255).toBitVec.toNat : Int) := by
    show (w &&& 255).toBitVec.toInt = _
    rw [BitVec.toInt_eq_toNat_of_msb]
    show (w.toBitVec &&& 255#64).msb = false
    rw [BitVec.msb_and]
    exact Bool.and_false _
  have k2 : (w &&& 255).toBitVec.toNat ≤ 255 := by
    show (w.toBitVec &&& 255#64).toNat ≤ 255
    rw [BitVec.toNat_and]
    exact Nat.and_le_right
  refine ⟨?_, ?_⟩ <;> rw [Int64.toInt_toInt32, i32_bm ⟨by omega, by omega⟩] <;> omega
end
section
def zCls (c : Int32) : Int32 := if c < 0 then 0 else if 8 ≤ c then 0 else 1
def zLet (c : Int32) : Int32 := if c < 0 then 0 else if 26 ≤ c then 0 else 1
def zTyp (t : Int32) : Int32 := if t < 0 then (if t < 8 then 0 else if 16 ≤ t then 0 else 1) else if t ≤ 4 then 1 else if t < 8 then 0 else if 16 ≤ t then 0 else 1
def zTys3 (n c : Int32) : Int32 := if n < 3 then 1 else if zTyp c = 0 then 0 else 1
def zTys2 (n b c : Int32) : Int32 := if n < 2 then zTys3 n c else if zTyp b = 0 then 0 else zTys3 n c
def zTys (n a b c : Int32) : Int32 := if n < 0 then 0 else if 3 < n then 0 else if n < 1 then zTys2 n b c else if zTyp a = 0 then 0 else zTys2 n b c
theorem lt5_4 (t : Int32) : t < 5 ↔ t ≤ 4 := by
  rw [Int32.lt_iff_toInt_lt, Int32.le_iff_toInt_le]
  show t.toInt < 5 ↔ t.toInt ≤ 4
  omega
theorem ge4_3 (t : Int32) : 4 ≤ t ↔ 3 < t := by
  rw [Int32.lt_iff_toInt_lt, Int32.le_iff_toInt_le]
  show (4 : Int) ≤ t.toInt ↔ (3 : Int) < t.toInt
  omega
theorem zCls_iv (x : Int32) : iv 0 1 (zCls x) := by unfold zCls; (repeat' split) <;> exact iv_k (by decide)
theorem zLet_iv (x : Int32) : iv 0 1 (zLet x) := by unfold zLet; (repeat' split) <;> exact iv_k (by decide)
theorem zTyp_iv (x : Int32) : iv 0 1 (zTyp x) := by unfold zTyp; (repeat' split) <;> exact iv_k (by decide)
theorem zTys_iv (a b c d : Int32) : iv 0 1 (zTys a b c d) := by unfold zTys zTys2 zTys3; (repeat' split) <;> exact iv_k (by decide)

theorem zCls_t {x : Int32} (h : ¬ zCls x = 0) : iv 0 7 x := by
  unfold zCls at h
  split at h
  · exact absurd rfl h
  · rename_i h1
    split at h
    · exact absurd rfl h
    · rename_i h2
      exact iv_ltL (i32_lt h2) (iv_leR (lo := 0) (i32_ge h1) (iv_k (by decide) : iv 0 0 0) (iv_all x) (by decide)) (iv_k (by decide) : iv 8 8 8) (by decide)
theorem zLet_t {x : Int32} (h : ¬ zLet x = 0) : iv 0 25 x := by
  unfold zLet at h
  split at h
  · exact absurd rfl h
  · rename_i h1
    split at h
    · exact absurd rfl h
    · rename_i h2
      exact iv_ltL (i32_lt h2) (iv_leR (lo := 0) (i32_ge h1) (iv_k (by decide) : iv 0 0 0) (iv_all x) (by decide)) (iv_k (by decide) : iv 26 26 26) (by decide)
theorem zTyp_t {x : Int32} (h : ¬ zTyp x = 0) : iv 0 15 x := by
  unfold zTyp at h
  by_cases h1 : x < 0
  · rw [if_pos h1, if_pos (Int32.lt_of_lt_of_le h1 (by decide))] at h
    exact absurd rfl h
  · have k1 := iv_leR (lo := 0) (i32_ge h1) (iv_k (by decide) : iv 0 0 0) (iv_all x) (by decide)
    rw [if_neg h1] at h
    split at h
    · rename_i h2
      exact iv_w (iv_leL (hi := 4) h2 k1 (iv_k (by decide) : iv 4 4 4) (by decide)) (by decide)
    · split at h
      · exact absurd rfl h
      · split at h
        · exact absurd rfl h
        · rename_i h4
          exact iv_ltL (i32_lt h4) k1 (iv_k (by decide) : iv 16 16 16) (by decide)
theorem zTys_t {n a b c : Int32} (h : ¬ zTys n a b c = 0) : iv 0 3 n := by
  unfold zTys at h
  split at h
  · exact absurd rfl h
  · rename_i h1
    split at h
    · exact absurd rfl h
    · rename_i h2
      exact iv_leL (i32_ge h2) (iv_leR (lo := 0) (i32_ge h1) (iv_k (by decide) : iv 0 0 0) (iv_all n) (by decide)) (iv_k (by decide) : iv 3 3 3) (by decide)

set_option maxHeartbeats 4000000 in
set_option maxRecDepth 100000 in
theorem c_X13_isClass (l : Launch) (dC : Nat → ClassId) (dI : Nat → Nat → Nat) (sz : Nat) (p0 : Int32) : Met l yX13_isClass wm_X13_isClass ({ frames := 0, cells := 0, slots := 0, locals := 0 }) (va_Pc [.int p0] (fun U => U.heap.size = sz ∧ va_P (dC, dI) vwCl [] U.heap ∧ va_K (dC, dI) vwCl [] U ∧ va_D (fun _ => True) [])) (va_Qi (fun (r : Int32) (_ : Unit) => r = zCls p0) (fun _ t => va_P (dC, dI) vwCl [] t.heap ∧ va_K (dC, dI) vwCl [] t ∧ va_D (va_A [] sz) []) (va_A [] sz)) 0 0 (va_A [] sz) := by
  refine Met.ofW (cc := cX13_isClass) (maxL := 1) (ret := (some .boolean)) (by decide) rfl ?_
  intro p e s m args below meth c s₁ B hml hv
  obtain ⟨rfl, hsz, hP, hK, hD0⟩ := hv
  have hx := B.exec
  have hb := B.bytes
  have hr := B.returns
  have hts := atoms_spec (ws := wm_X13_isClass) B.pre
  have htb := fun (w : Cond) (h : w ∈ tb) => hts w (List.mem_cons_of_mem _ h)
  have hown : s.vm.findClass RX13 = some m.cls := findClass_of_methodNamed B.named
  have hlocks := B.notSynchronized
  subst hsz
  have hD := hD0.self (sz := s.heap.size)
  generalize hAe : va_A [] s.heap.size = A at hD ⊢
  have hA : ∀ q : Nat, s.heap.size ≤ q → A q := fun q h => by rw [← hAe]; exact Or.inr h
  have hS : va_S A s.heap s.heap [] := va_S.rf
  have hP : va_P (dC, dI) vwCl [] s.heap := hP
  have hl := lv_entry ([.int p0]) (n := 1) (Nat.le_of_ble_eq_true rfl)
  rw [lg_entry_eq]
  generalize (lg_sl ([.int p0]) ++ List.replicate (1 - (lg_sl ([.int p0])).length) Slot.unset).toArray = ls at hl ⊢
  have hl : lv_has ls 1 [(0, .int p0)] := hl
  refine lv_iload_n hx hb dX13_isClass_0 rfl (lv_at hl 0 rfl) ?_
  refine lv_if_lt (tgt := 14) hx hb dX13_isClass_1 (by decide) (fun c_1 => ?_) (fun c_1 => ?_)
  · refine lv_iconst (v := 0) hx hb dX13_isClass_14 (by decide) ?_
    have hP9 := hP.sub (ws' := []) [] rfl
    have hD9 := hD.sub (ws' := []) [] (by decide) rfl
    have hK9 := hK.sub (tys' := []) [] rfl
    refine W.widen (k := 0) (n := 0) (Nat.le_of_ble_eq_true rfl) (Nat.le_of_ble_eq_true rfl) ?_
    exact W.zret (v := 0) hx hb hr rfl (fun t ht hW => ⟨⟨0, (), rfl, (by simp [zCls, c_1]), by rw [ht]; exact hP9, va_K.moved hW.alike hK9, hD9⟩, hS.F ht⟩) hS.2.2 dX13_isClass_15
  · refine lv_iload_n hx hb dX13_isClass_4 rfl (lv_at hl 0 rfl) ?_
    refine lv_bipush (v := 8) hx hb dX13_isClass_5 (by decide) ?_
    refine lv_icmp_ge (tgt := 14) hx hb dX13_isClass_7 (by decide) (fun c_2 => ?_) (fun c_2 => ?_)
    · refine lv_iconst (v := 0) hx hb dX13_isClass_14 (by decide) ?_
      have hP9 := hP.sub (ws' := []) [] rfl
      have hD9 := hD.sub (ws' := []) [] (by decide) rfl
      have hK9 := hK.sub (tys' := []) [] rfl
      refine W.widen (k := 0) (n := 0) (Nat.le_of_ble_eq_true rfl) (Nat.le_of_ble_eq_true rfl) ?_
      exact W.zret (v := 0) hx hb hr rfl (fun t ht hW => ⟨⟨0, (), rfl, (by simp [zCls, c_1, c_2]), by rw [ht]; exact hP9, va_K.moved hW.alike hK9, hD9⟩, hS.F ht⟩) hS.2.2 dX13_isClass_15
    · refine lv_iconst (v := 1) hx hb dX13_isClass_10 (by decide) ?_
      refine lv_goto (tgt := 15) hx hb dX13_isClass_11 (by decide) ?_
      have hP9 := hP.sub (ws' := []) [] rfl
      have hD9 := hD.sub (ws' := []) [] (by decide) rfl
      have hK9 := hK.sub (tys' := []) [] rfl
      refine W.widen (k := 0) (n := 0) (Nat.le_of_ble_eq_true rfl) (Nat.le_of_ble_eq_true rfl) ?_
      exact W.zret (v := 1) hx hb hr rfl (fun t ht hW => ⟨⟨1, (), rfl, (by simp [zCls, c_1, c_2]), by rw [ht]; exact hP9, va_K.moved hW.alike hK9, hD9⟩, hS.F ht⟩) hS.2.2 dX13_isClass_15

set_option maxHeartbeats 4000000 in
set_option maxRecDepth 100000 in
theorem c_X13_isLetter (l : Launch) (dC : Nat → ClassId) (dI : Nat → Nat → Nat) (sz : Nat) (p0 : Int32) : Met l yX13_isLetter wm_X13_isLetter ({ frames := 0, cells := 0, slots := 0, locals := 0 }) (va_Pc [.int p0] (fun U => U.heap.size = sz ∧ va_P (dC, dI) vwCl [] U.heap ∧ va_K (dC, dI) vwCl [] U ∧ va_D (fun _ => True) [])) (va_Qi (fun (r : Int32) (_ : Unit) => r = zLet p0) (fun _ t => va_P (dC, dI) vwCl [] t.heap ∧ va_K (dC, dI) vwCl [] t ∧ va_D (va_A [] sz) []) (va_A [] sz)) 0 0 (va_A [] sz) := by
  refine Met.ofW (cc := cX13_isLetter) (maxL := 1) (ret := (some .boolean)) (by decide) rfl ?_
  intro p e s m args below meth c s₁ B hml hv
  obtain ⟨rfl, hsz, hP, hK, hD0⟩ := hv
  have hx := B.exec
  have hb := B.bytes
  have hr := B.returns
  have hts := atoms_spec (ws := wm_X13_isLetter) B.pre
  have htb := fun (w : Cond) (h : w ∈ tb) => hts w (List.mem_cons_of_mem _ h)
  have hown : s.vm.findClass RX13 = some m.cls := findClass_of_methodNamed B.named
  have hlocks := B.notSynchronized
  subst hsz
  have hD := hD0.self (sz := s.heap.size)
  generalize hAe : va_A [] s.heap.size = A at hD ⊢
  have hA : ∀ q : Nat, s.heap.size ≤ q → A q := fun q h => by rw [← hAe]; exact Or.inr h
  have hS : va_S A s.heap s.heap [] := va_S.rf
  have hP : va_P (dC, dI) vwCl [] s.heap := hP
  have hl := lv_entry ([.int p0]) (n := 1) (Nat.le_of_ble_eq_true rfl)
  rw [lg_entry_eq]
  generalize (lg_sl ([.int p0]) ++ List.replicate (1 - (lg_sl ([.int p0])).length) Slot.unset).toArray = ls at hl ⊢
  have hl : lv_has ls 1 [(0, .int p0)] := hl
  refine lv_iload_n hx hb dX13_isLetter_0 rfl (lv_at hl 0 rfl) ?_
  refine lv_if_lt (tgt := 14) hx hb dX13_isLetter_1 (by decide) (fun c_1 => ?_) (fun c_1 => ?_)
  · refine lv_iconst (v := 0) hx hb dX13_isLetter_14 (by decide) ?_
    have hP9 := hP.sub (ws' := []) [] rfl
    have hD9 := hD.sub (ws' := []) [] (by decide) rfl
    have hK9 := hK.sub (tys' := []) [] rfl
    refine W.widen (k := 0) (n := 0) (Nat.le_of_ble_eq_true rfl) (Nat.le_of_ble_eq_true rfl) ?_
    exact W.zret (v := 0) hx hb hr rfl (fun t ht hW => ⟨⟨0, (), rfl, (by simp [zLet, c_1]), by rw [ht]; exact hP9, va_K.moved hW.alike hK9, hD9⟩, hS.F ht⟩) hS.2.2 dX13_isLetter_15
  · refine lv_iload_n hx hb dX13_isLetter_4 rfl (lv_at hl 0 rfl) ?_
    refine lv_bipush (v := 26) hx hb dX13_isLetter_5 (by decide) ?_
    refine lv_icmp_ge (tgt := 14) hx hb dX13_isLetter_7 (by decide) (fun c_2 => ?_) (fun c_2 => ?_)
    · refine lv_iconst (v := 0) hx hb dX13_isLetter_14 (by decide) ?_
      have hP9 := hP.sub (ws' := []) [] rfl
      have hD9 := hD.sub (ws' := []) [] (by decide) rfl
      have hK9 := hK.sub (tys' := []) [] rfl
      refine W.widen (k := 0) (n := 0) (Nat.le_of_ble_eq_true rfl) (Nat.le_of_ble_eq_true rfl) ?_
      exact W.zret (v := 0) hx hb hr rfl (fun t ht hW => ⟨⟨0, (), rfl, (by simp [zLet, c_1, c_2]), by rw [ht]; exact hP9, va_K.moved hW.alike hK9, hD9⟩, hS.F ht⟩) hS.2.2 dX13_isLetter_15
    · refine lv_iconst (v := 1) hx hb dX13_isLetter_10 (by decide) ?_
      refine lv_goto (tgt := 15) hx hb dX13_isLetter_11 (by decide) ?_
      have hP9 := hP.sub (ws' := []) [] rfl
      have hD9 := hD.sub (ws' := []) [] (by decide) rfl
      have hK9 := hK.sub (tys' := []) [] rfl
      refine W.widen (k := 0) (n := 0) (Nat.le_of_ble_eq_true rfl) (Nat.le_of_ble_eq_true rfl) ?_
      exact W.zret (v := 1) hx hb hr rfl (fun t ht hW => ⟨⟨1, (), rfl, (by simp [zLet, c_1, c_2]), by rw [ht]; exact hP9, va_K.moved hW.alike hK9, hD9⟩, hS.F ht⟩) hS.2.2 dX13_isLetter_15

set_option maxHeartbeats 4000000 in
set_option maxRecDepth 100000 in
theorem c_X13_isType (l : Launch) (dC : Nat → ClassId) (dI : Nat → Nat → Nat) (sz : Nat) (p0 : Int32) : Met l yX13_isType wm_X13_isType ({ frames := 0, cells := 0, slots := 0, locals := 0 }) (va_Pc [.int p0] (fun U => U.heap.size = sz ∧ va_P (dC, dI) vwCl [] U.heap ∧ va_K (dC, dI) vwCl [] U ∧ va_D (fun _ => True) [])) (va_Qi (fun (r : Int32) (_ : Unit) => r = zTyp p0) (fun _ t => va_P (dC, dI) vwCl [] t.heap ∧ va_K (dC, dI) vwCl [] t ∧ va_D (va_A [] sz) []) (va_A [] sz)) 0 0 (va_A [] sz) := by
  refine Met.ofW (cc := cX13_isType) (maxL := 1) (ret := (some .boolean)) (by decide) rfl ?_
  intro p e s m args below meth c s₁ B hml hv
  obtain ⟨rfl, hsz, hP, hK, hD0⟩ := hv
  have hx := B.exec
  have hb := B.bytes
  have hr := B.returns
  have hts := atoms_spec (ws := wm_X13_isType) B.pre
  have htb := fun (w : Cond) (h : w ∈ tb) => hts w (List.mem_cons_of_mem _ h)
  have hown : s.vm.findClass RX13 = some m.cls := findClass_of_methodNamed B.named
  have hlocks := B.notSynchronized
  subst hsz
  have hD := hD0.self (sz := s.heap.size)
  generalize hAe : va_A [] s.heap.size = A at hD ⊢
  have hA : ∀ q : Nat, s.heap.size ≤ q → A q := fun q h => by rw [← hAe]; exact Or.inr h
  have hS : va_S A s.heap s.heap [] := va_S.rf
  have hP : va_P (dC, dI) vwCl [] s.heap := hP
  have hl := lv_entry ([.int p0]) (n := 1) (Nat.le_of_ble_eq_true rfl)
  rw [lg_entry_eq]
  generalize (lg_sl ([.int p0]) ++ List.replicate (1 - (lg_sl ([.int p0])).length) Slot.unset).toArray = ls at hl ⊢
  have hl : lv_has ls 1 [(0, .int p0)] := hl
  refine lv_iload_n hx hb dX13_isType_0 rfl (lv_at hl 0 rfl) ?_
  refine lv_if_lt (tgt := 9) hx hb dX13_isType_1 (by decide) (fun c_1 => ?_) (fun c_1 => ?_)
  · refine lv_iload_n hx hb dX13_isType_9 rfl (lv_at hl 0 rfl) ?_
    refine lv_bipush (v := 8) hx hb dX13_isType_10 (by decide) ?_
    refine lv_icmp_lt (tgt := 25) hx hb dX13_isType_12 (by decide) (fun c_2 => ?_) (fun c_2 => ?_)
    · refine lv_iconst (v := 0) hx hb dX13_isType_25 (by decide) ?_
      have hP9 := hP.sub (ws' := []) [] rfl
      have hD9 := hD.sub (ws' := []) [] (by decide) rfl
      have hK9 := hK.sub (tys' := []) [] rfl
      refine W.widen (k := 0) (n := 0) (Nat.le_of_ble_eq_true rfl) (Nat.le_of_ble_eq_true rfl) ?_
      exact W.zret (v := 0) hx hb hr rfl (fun t ht hW => ⟨⟨0, (), rfl, (by simp [zTyp, c_1, c_2]), by rw [ht]; exact hP9, va_K.moved hW.alike hK9, hD9⟩, hS.F ht⟩) hS.2.2 dX13_isType_26
    · refine lv_iload_n hx hb dX13_isType_15 rfl (lv_at hl 0 rfl) ?_
      refine lv_bipush (v := 16) hx hb dX13_isType_16 (by decide) ?_
      refine lv_icmp_ge (tgt := 25) hx hb dX13_isType_18 (by decide) (fun c_3 => ?_) (fun c_3 => ?_)
      · refine lv_iconst (v := 0) hx hb dX13_isType_25 (by decide) ?_
        have hP9 := hP.sub (ws' := []) [] rfl
        have hD9 := hD.sub (ws' := []) [] (by decide) rfl
        have hK9 := hK.sub (tys' := []) [] rfl
        refine W.widen (k := 0) (n := 0) (Nat.le_of_ble_eq_true rfl) (Nat.le_of_ble_eq_true rfl) ?_
        exact W.zret (v := 0) hx hb hr rfl (fun t ht hW => ⟨⟨0, (), rfl, (by simp [zTyp, c_1, c_2, c_3]), by rw [ht]; exact hP9, va_K.moved hW.alike hK9, hD9⟩, hS.F ht⟩) hS.2.2 dX13_isType_26
      · refine lv_iconst (v := 1) hx hb dX13_isType_21 (by decide) ?_
        refine lv_goto (tgt := 26) hx hb dX13_isType_22 (by decide) ?_
        have hP9 := hP.sub (ws' := []) [] rfl
        have hD9 := hD.sub (ws' := []) [] (by decide) rfl
        have hK9 := hK.sub (tys' := []) [] rfl
        refine W.widen (k := 0) (n := 0) (Nat.le_of_ble_eq_true rfl) (Nat.le_of_ble_eq_true rfl) ?_
        exact W.zret (v := 1) hx hb hr rfl (fun t ht hW => ⟨⟨1, (), rfl, (by simp [zTyp, c_1, c_2, c_3]), by rw [ht]; exact hP9, va_K.moved hW.alike hK9, hD9⟩, hS.F ht⟩) hS.2.2 dX13_isType_26
  · refine lv_iload_n hx hb dX13_isType_4 rfl (lv_at hl 0 rfl) ?_
    refine lv_iconst (v := 5) hx hb dX13_isType_5 (by decide) ?_
    refine lv_icmp_lt (tgt := 21) hx hb dX13_isType_6 (by decide) (fun c_4 => ?_) (fun c_4 => ?_)
    · refine lv_iconst (v := 1) hx hb dX13_isType_21 (by decide) ?_
      refine lv_goto (tgt := 26) hx hb dX13_isType_22 (by decide) ?_
      have hP9 := hP.sub (ws' := []) [] rfl
      have hD9 := hD.sub (ws' := []) [] (by decide) rfl
      have hK9 := hK.sub (tys' := []) [] rfl
      refine W.widen (k := 0) (n := 0) (Nat.le_of_ble_eq_true rfl) (Nat.le_of_ble_eq_true rfl) ?_
      exact W.zret (v := 1) hx hb hr rfl (fun t ht hW => ⟨⟨1, (), rfl, (by rw [lt5_4] at c_4; simp [zTyp, c_1, c_4]), by rw [ht]; exact hP9, va_K.moved hW.alike hK9, hD9⟩, hS.F ht⟩) hS.2.2 dX13_isType_26
    · refine lv_iload_n hx hb dX13_isType_9 rfl (lv_at hl 0 rfl) ?_
      refine lv_bipush (v := 8) hx hb dX13_isType_10 (by decide) ?_
      refine lv_icmp_lt (tgt := 25) hx hb dX13_isType_12 (by decide) (fun c_5 => ?_) (fun c_5 => ?_)
      · refine lv_iconst (v := 0) hx hb dX13_isType_25 (by decide) ?_
        have hP9 := hP.sub (ws' := []) [] rfl
        have hD9 := hD.sub (ws' := []) [] (by decide) rfl
        have hK9 := hK.sub (tys' := []) [] rfl
        refine W.widen (k := 0) (n := 0) (Nat.le_of_ble_eq_true rfl) (Nat.le_of_ble_eq_true rfl) ?_
        exact W.zret (v := 0) hx hb hr rfl (fun t ht hW => ⟨⟨0, (), rfl, (by rw [lt5_4] at c_4; simp [zTyp, c_1, c_4, c_5]), by rw [ht]; exact hP9, va_K.moved hW.alike hK9, hD9⟩, hS.F ht⟩) hS.2.2 dX13_isType_26
      · refine lv_iload_n hx hb dX13_isType_15 rfl (lv_at hl 0 rfl) ?_
        refine lv_bipush (v := 16) hx hb dX13_isType_16 (by decide) ?_
        refine lv_icmp_ge (tgt := 25) hx hb dX13_isType_18 (by decide) (fun c_6 => ?_) (fun c_6 => ?_)
        · refine lv_iconst (v := 0) hx hb dX13_isType_25 (by decide) ?_
          have hP9 := hP.sub (ws' := []) [] rfl
          have hD9 := hD.sub (ws' := []) [] (by decide) rfl
          have hK9 := hK.sub (tys' := []) [] rfl
          refine W.widen (k := 0) (n := 0) (Nat.le_of_ble_eq_true rfl) (Nat.le_of_ble_eq_true rfl) ?_
          exact W.zret (v := 0) hx hb hr rfl (fun t ht hW => ⟨⟨0, (), rfl, (by rw [lt5_4] at c_4; simp [zTyp, c_1, c_4, c_5, c_6]), by rw [ht]; exact hP9, va_K.moved hW.alike hK9, hD9⟩, hS.F ht⟩) hS.2.2 dX13_isType_26
        · refine lv_iconst (v := 1) hx hb dX13_isType_21 (by decide) ?_
          refine lv_goto (tgt := 26) hx hb dX13_isType_22 (by decide) ?_
          have hP9 := hP.sub (ws' := []) [] rfl
          have hD9 := hD.sub (ws' := []) [] (by decide) rfl
          have hK9 := hK.sub (tys' := []) [] rfl
          refine W.widen (k := 0) (n := 0) (Nat.le_of_ble_eq_true rfl) (Nat.le_of_ble_eq_true rfl) ?_
          exact W.zret (v := 1) hx hb hr rfl (fun t ht hW => ⟨⟨1, (), rfl, (by rw [lt5_4] at c_4; simp [zTyp, c_1, c_4, c_5, c_6]), by rw [ht]; exact hP9, va_K.moved hW.alike hK9, hD9⟩, hS.F ht⟩) hS.2.2 dX13_isType_26

set_option maxHeartbeats 4000000 in
set_option maxRecDepth 100000 in
theorem c_X13_areTypes (l : Launch) (dC : Nat → ClassId) (dI : Nat → Nat → Nat) (sz : Nat) (p0 : Int32) (p1 : Int32) (p2 : Int32) (p3 : Int32) : Met l yX13_areTypes wm_X13_areTypes ({ frames := 1, cells := 0, slots := 0, locals := 20 }) (va_Pc [.int p0, .int p1, .int p2, .int p3] (fun U => U.heap.size = sz ∧ va_P (dC, dI) vwCl [] U.heap ∧ va_K (dC, dI) vwCl [] U ∧ va_D (fun _ => True) [])) (va_Qi (fun (r : Int32) (_ : Unit) => r = zTys p0 p1 p2 p3) (fun _ t => va_P (dC, dI) vwCl [] t.heap ∧ va_K (dC, dI) vwCl [] t ∧ va_D (va_A [] sz) []) (va_A [] sz)) 0 0 (va_A [] sz) := by
  refine Met.ofW (cc := cX13_areTypes) (maxL := 4) (ret := (some .boolean)) (by decide) rfl ?_
  intro p e s m args below meth c s₁ B hml hv
  obtain ⟨rfl, hsz, hP, hK, hD0⟩ := hv
  have hx := B.exec
  have hb := B.bytes
  have hr := B.returns
  have hts := atoms_spec (ws := wm_X13_areTypes) B.pre
  have htb := fun (w : Cond) (h : w ∈ tb) => hts w (List.mem_cons_of_mem _ h)
  have hown : s.vm.findClass RX13 = some m.cls := findClass_of_methodNamed B.named
  have hlocks := B.notSynchronized
  subst hsz
  have hD := hD0.self (sz := s.heap.size)
  generalize hAe : va_A [] s.heap.size = A at hD ⊢
  have hA : ∀ q : Nat, s.heap.size ≤ q → A q := fun q h => by rw [← hAe]; exact Or.inr h
  have hS : va_S A s.heap s.heap [] := va_S.rf
  have hP : va_P (dC, dI) vwCl [] s.heap := hP
  have hl := lv_entry ([.int p0, .int p1, .int p2, .int p3]) (n := 4) (Nat.le_of_ble_eq_true rfl)
  rw [lg_entry_eq]
  generalize (lg_sl ([.int p0, .int p1, .int p2, .int p3]) ++ List.replicate (4 - (lg_sl ([.int p0, .int p1, .int p2, .int p3])).length) Slot.unset).toArray = ls at hl ⊢
  have hl : lv_has ls 4 [(0, .int p0), (1, .int p1), (2, .int p2), (3, .int p3)] := hl
  refine lv_iload_n hx hb dX13_areTypes_0 rfl (lv_at hl 0 rfl) ?_
  refine lv_if_lt (tgt := 49) hx hb dX13_areTypes_1 (by decide) (fun c_1 => ?_) (fun c_1 => ?_)
  · refine lv_iconst (v := 0) hx hb dX13_areTypes_49 (by decide) ?_
    have hP9 := hP.sub (ws' := []) [] rfl
    have hD9 := hD.sub (ws' := []) [] (by decide) rfl
    have hK9 := hK.sub (tys' := []) [] rfl
    refine W.widen (k := 0) (n := 0) (Nat.le_of_ble_eq_true rfl) (Nat.le_of_ble_eq_true rfl) ?_
    exact W.zret (v := 0) hx hb hr rfl (fun t ht hW => ⟨⟨0, (), rfl, (by simp [zTys, zTys2, zTys3, c_1]), by rw [ht]; exact hP9, va_K.moved hW.alike hK9, hD9⟩, hS.F ht⟩) hS.2.2 dX13_areTypes_50
  · refine lv_iload_n hx hb dX13_areTypes_4 rfl (lv_at hl 0 rfl) ?_
    refine lv_iconst (v := 4) hx hb dX13_areTypes_5 (by decide) ?_
    refine lv_icmp_ge (tgt := 49) hx hb dX13_areTypes_6 (by decide) (fun c_2 => ?_) (fun c_2 => ?_)
    · refine lv_iconst (v := 0) hx hb dX13_areTypes_49 (by decide) ?_
      have hP9 := hP.sub (ws' := []) [] rfl
      have hD9 := hD.sub (ws' := []) [] (by decide) rfl
      have hK9 := hK.sub (tys' := []) [] rfl
      refine W.widen (k := 0) (n := 0) (Nat.le_of_ble_eq_true rfl) (Nat.le_of_ble_eq_true rfl) ?_
      exact W.zret (v := 0) hx hb hr rfl (fun t ht hW => ⟨⟨0, (), rfl, (by rw [ge4_3] at c_2; simp [zTys, zTys2, zTys3, c_1, c_2]), by rw [ht]; exact hP9, va_K.moved hW.alike hK9, hD9⟩, hS.F ht⟩) hS.2.2 dX13_areTypes_50
    · refine lv_iload_n hx hb dX13_areTypes_9 rfl (lv_at hl 0 rfl) ?_
      refine lv_iconst (v := 1) hx hb dX13_areTypes_10 (by decide) ?_
      refine lv_icmp_lt (tgt := 21) hx hb dX13_areTypes_11 (by decide) (fun c_3 => ?_) (fun c_3 => ?_)
      · refine lv_iload_n hx hb dX13_areTypes_21 rfl (lv_at hl 0 rfl) ?_
        refine lv_iconst (v := 2) hx hb dX13_areTypes_22 (by decide) ?_
        refine lv_icmp_lt (tgt := 33) hx hb dX13_areTypes_23 (by decide) (fun c_4 => ?_) (fun c_4 => ?_)
        · refine lv_iload_n hx hb dX13_areTypes_33 rfl (lv_at hl 0 rfl) ?_
          refine lv_iconst (v := 3) hx hb dX13_areTypes_34 (by decide) ?_
          refine lv_icmp_lt (tgt := 45) hx hb dX13_areTypes_35 (by decide) (fun c_5 => ?_) (fun c_5 => ?_)
          · refine lv_iconst (v := 1) hx hb dX13_areTypes_45 (by decide) ?_
            refine lv_goto (tgt := 50) hx hb dX13_areTypes_46 (by decide) ?_
            have hP9 := hP.sub (ws' := []) [] rfl
            have hD9 := hD.sub (ws' := []) [] (by decide) rfl
            have hK9 := hK.sub (tys' := []) [] rfl
            refine W.widen (k := 0) (n := 0) (Nat.le_of_ble_eq_true rfl) (Nat.le_of_ble_eq_true rfl) ?_
            exact W.zret (v := 1) hx hb hr rfl (fun t ht hW => ⟨⟨1, (), rfl, (by rw [ge4_3] at c_2; simp [zTys, zTys2, zTys3, c_1, c_2, c_3, c_4, c_5]), by rw [ht]; exact hP9, va_K.moved hW.alike hK9, hD9⟩, hS.F ht⟩) hS.2.2 dX13_areTypes_50
          · refine lv_iload_n hx hb dX13_areTypes_38 rfl (lv_at hl 3 rfl) ?_
            have hPc := hP.sub (ws' := []) [] rfl
            have hDc := hD.sub (ws' := []) [] (by decide) rfl
            have hKc := hK.sub (tys' := []) [] rfl
            have hFc := va_free (wc := []) hD hS hA [] rfl
            refine va_calli (va_runS (As := [.int p3]) (rest := []) ⟨hx, hb, hml, hown, htb⟩ (c_X13_isType l dC dI s.heap.size p3) (va_cwS 1 htb (gd_S kw_267 kw_268 kw_5 kw_1397) rfl rfl rfl (by decide +kernel) ⟨Nat.le_of_ble_eq_true rfl, Nat.le_of_ble_eq_true rfl⟩) ⟨fun a U g mk q => by obtain ⟨q0, q1, qP, qK, qD⟩ := q; exact ⟨q0, q1, qP, va_K.moved (u := U) (U := U.calling g mk a) (Vm.Alike.refl U.vm) qK, qD⟩, fun U hU hW => ⟨rfl, by rw [hU], by rw [hU]; exact hPc, va_K.moved hW.alike hKc, hDc.weaken (fun _ _ _ _ => trivial)⟩⟩ rfl rfl hl.1 rfl (lv_room (Nat.le_of_ble_eq_true rfl)) dX13_areTypes_39 ⟨(Nat.le_of_ble_eq_true rfl), (Nat.le_of_ble_eq_true rfl)⟩) hS (fun q _ h => hFc q h) hFc (fun r u t H1 locs ht hvm hw hB hz1 hk1 hS => ?_)
            subst hw
            obtain ⟨hP1, hK1, hD1⟩ := hB
            rw [ht] at hP1
            have hK1 := va_K.moved hvm.symm hK1
            obtain ⟨hP, hD⟩ := va_join (wr := []) (w1 := []) hP hD [] [] rfl rfl (by decide) (by decide) hk1 hFc hP1 hD1
            have hK := hK.app hK1
            generalize H1 = H at hP hS ⊢
            have hP : va_P (dC, dI) vwCl [] H := hP
            have hD : va_D A [] := hD
            have hK : va_K (dC, dI) vwCl [] s := hK
            refine W.widen (k := 0) (n := 0) (Nat.le_of_ble_eq_true rfl) (Nat.le_of_ble_eq_true rfl) ?_
            refine lv_if_eq (tgt := 49) hx hb dX13_areTypes_42 (by decide) (fun c_6 => ?_) (fun c_6 => ?_)
            · refine lv_iconst (v := 0) hx hb dX13_areTypes_49 (by decide) ?_
              have hP9 := hP.sub (ws' := []) [] rfl
              have hD9 := hD.sub (ws' := []) [] (by decide) rfl
              have hK9 := hK.sub (tys' := []) [] rfl
              refine W.widen (k := 0) (n := 0) (Nat.le_of_ble_eq_true rfl) (Nat.le_of_ble_eq_true rfl) ?_
              exact W.zret (v := 0) hx hb hr rfl (fun t ht hW => ⟨⟨0, (), rfl, (by rw [ge4_3] at c_2; simp [zTys, zTys2, zTys3, c_1, c_2, c_3, c_4, c_5, c_6]), by rw [ht]; exact hP9, va_K.moved hW.alike hK9, hD9⟩, hS.F ht⟩) hS.2.2 dX13_areTypes_50
            · refine lv_iconst (v := 1) hx hb dX13_areTypes_45 (by decide) ?_
              refine lv_goto (tgt := 50) hx hb dX13_areTypes_46 (by decide) ?_
              have hP9 := hP.sub (ws' := []) [] rfl
              have hD9 := hD.sub (ws' := []) [] (by decide) rfl
              have hK9 := hK.sub (tys' := []) [] rfl
              refine W.widen (k := 0) (n := 0) (Nat.le_of_ble_eq_true rfl) (Nat.le_of_ble_eq_true rfl) ?_
              exact W.zret (v := 1) hx hb hr rfl (fun t ht hW => ⟨⟨1, (), rfl, (by rw [ge4_3] at c_2; simp [zTys, zTys2, zTys3, c_1, c_2, c_3, c_4, c_5, c_6]), by rw [ht]; exact hP9, va_K.moved hW.alike hK9, hD9⟩, hS.F ht⟩) hS.2.2 dX13_areTypes_50
        · refine lv_iload_n hx hb dX13_areTypes_26 rfl (lv_at hl 2 rfl) ?_
          have hPc := hP.sub (ws' := []) [] rfl
          have hDc := hD.sub (ws' := []) [] (by decide) rfl
          have hKc := hK.sub (tys' := []) [] rfl
          have hFc := va_free (wc := []) hD hS hA [] rfl
          refine va_calli (va_runS (As := [.int p2]) (rest := []) ⟨hx, hb, hml, hown, htb⟩ (c_X13_isType l dC dI s.heap.size p2) (va_cwS 1 htb (gd_S kw_267 kw_268 kw_5 kw_1397) rfl rfl rfl (by decide +kernel) ⟨Nat.le_of_ble_eq_true rfl, Nat.le_of_ble_eq_true rfl⟩) ⟨fun a U g mk q => by obtain ⟨q0, q1, qP, qK, qD⟩ := q; exact ⟨q0, q1, qP, va_K.moved (u := U) (U := U.calling g mk a) (Vm.Alike.refl U.vm) qK, qD⟩, fun U hU hW => ⟨rfl, by rw [hU], by rw [hU]; exact hPc, va_K.moved hW.alike hKc, hDc.weaken (fun _ _ _ _ => trivial)⟩⟩ rfl rfl hl.1 rfl (lv_room (Nat.le_of_ble_eq_true rfl)) dX13_areTypes_27 ⟨(Nat.le_of_ble_eq_true rfl), (Nat.le_of_ble_eq_true rfl)⟩) hS (fun q _ h => hFc q h) hFc (fun r u t H1 locs ht hvm hw hB hz1 hk1 hS => ?_)
          subst hw
          obtain ⟨hP1, hK1, hD1⟩ := hB
          rw [ht] at hP1
          have hK1 := va_K.moved hvm.symm hK1
          obtain ⟨hP, hD⟩ := va_join (wr := []) (w1 := []) hP hD [] [] rfl rfl (by decide) (by decide) hk1 hFc hP1 hD1
          have hK := hK.app hK1
          generalize H1 = H at hP hS ⊢
          have hP : va_P (dC, dI) vwCl [] H := hP
          have hD : va_D A [] := hD
          have hK : va_K (dC, dI) vwCl [] s := hK
          refine W.widen (k := 0) (n := 0) (Nat.le_of_ble_eq_true rfl) (Nat.le_of_ble_eq_true rfl) ?_
          refine lv_if_eq (tgt := 49) hx hb dX13_areTypes_30 (by decide) (fun c_7 => ?_) (fun c_7 => ?_)
          · refine lv_iconst (v := 0) hx hb dX13_areTypes_49 (by decide) ?_
            have hP9 := hP.sub (ws' := []) [] rfl
            have hD9 := hD.sub (ws' := []) [] (by decide) rfl
            have hK9 := hK.sub (tys' := []) [] rfl
            refine W.widen (k := 0) (n := 0) (Nat.le_of_ble_eq_true rfl) (Nat.le_of_ble_eq_true rfl) ?_
            exact W.zret (v := 0) hx hb hr rfl (fun t ht hW => ⟨⟨0, (), rfl, (by rw [ge4_3] at c_2; simp [zTys, zTys2, zTys3, c_1, c_2, c_3, c_4, c_7]), by rw [ht]; exact hP9, va_K.moved hW.alike hK9, hD9⟩, hS.F ht⟩) hS.2.2 dX13_areTypes_50
          · refine lv_iload_n hx hb dX13_areTypes_33 rfl (lv_at hl 0 rfl) ?_
            refine lv_iconst (v := 3) hx hb dX13_areTypes_34 (by decide) ?_
            refine lv_icmp_lt (tgt := 45) hx hb dX13_areTypes_35 (by decide) (fun c_8 => ?_) (fun c_8 => ?_)
            · refine lv_iconst (v := 1) hx hb dX13_areTypes_45 (by decide) ?_
              refine lv_goto (tgt := 50) hx hb dX13_areTypes_46 (by decide) ?_
              have hP9 := hP.sub (ws' := []) [] rfl
              have hD9 := hD.sub (ws' := []) [] (by decide) rfl
              have hK9 := hK.sub (tys' := []) [] rfl
              refine W.widen (k := 0) (n := 0) (Nat.le_of_ble_eq_true rfl) (Nat.le_of_ble_eq_true rfl) ?_
              exact W.zret (v := 1) hx hb hr rfl (fun t ht hW => ⟨⟨1, (), rfl, (by rw [ge4_3] at c_2; simp [zTys, zTys2, zTys3, c_1, c_2, c_3, c_4, c_7, c_8]), by rw [ht]; exact hP9, va_K.moved hW.alike hK9, hD9⟩, hS.F ht⟩) hS.2.2 dX13_areTypes_50
            · refine lv_iload_n hx hb dX13_areTypes_38 rfl (lv_at hl 3 rfl) ?_
              have hPc := hP.sub (ws' := []) [] rfl
              have hDc := hD.sub (ws' := []) [] (by decide) rfl
              have hKc := hK.sub (tys' := []) [] rfl
              have hFc := va_free (wc := []) hD hS hA [] rfl
              refine va_calli (va_runS (As := [.int p3]) (rest := []) ⟨hx, hb, hml, hown, htb⟩ (c_X13_isType l dC dI H.size p3) (va_cwS 1 htb (gd_S kw_267 kw_268 kw_5 kw_1397) rfl rfl rfl (by decide +kernel) ⟨Nat.le_of_ble_eq_true rfl, Nat.le_of_ble_eq_true rfl⟩) ⟨fun a U g mk q => by obtain ⟨q0, q1, qP, qK, qD⟩ := q; exact ⟨q0, q1, qP, va_K.moved (u := U) (U := U.calling g mk a) (Vm.Alike.refl U.vm) qK, qD⟩, fun U hU hW => ⟨rfl, by rw [hU], by rw [hU]; exact hPc, va_K.moved hW.alike hKc, hDc.weaken (fun _ _ _ _ => trivial)⟩⟩ rfl rfl hl.1 rfl (lv_room (Nat.le_of_ble_eq_true rfl)) dX13_areTypes_39 ⟨(Nat.le_of_ble_eq_true rfl), (Nat.le_of_ble_eq_true rfl)⟩) hS (fun q _ h => hFc q h) hFc (fun r u t H1 locs ht hvm hw hB hz1 hk1 hS => ?_)
              subst hw
              obtain ⟨hP1, hK1, hD1⟩ := hB
              rw [ht] at hP1
              have hK1 := va_K.moved hvm.symm hK1
              obtain ⟨hP, hD⟩ := va_join (wr := []) (w1 := []) hP hD [] [] rfl rfl (by decide) (by decide) hk1 hFc hP1 hD1
              have hK := hK.app hK1
              generalize H1 = H at hP hS ⊢
              have hP : va_P (dC, dI) vwCl [] H := hP
              have hD : va_D A [] := hD
              have hK : va_K (dC, dI) vwCl [] s := hK
              refine W.widen (k := 0) (n := 0) (Nat.le_of_ble_eq_true rfl) (Nat.le_of_ble_eq_true rfl) ?_
              refine lv_if_eq (tgt := 49) hx hb dX13_areTypes_42 (by decide) (fun c_9 => ?_) (fun c_9 => ?_)
              · refine lv_iconst (v := 0) hx hb dX13_areTypes_49 (by decide) ?_
                have hP9 := hP.sub (ws' := []) [] rfl
                have hD9 := hD.sub (ws' := []) [] (by decide) rfl
                have hK9 := hK.sub (tys' := []) [] rfl
                refine W.widen (k := 0) (n := 0) (Nat.le_of_ble_eq_true rfl) (Nat.le_of_ble_eq_true rfl) ?_
                exact W.zret (v := 0) hx hb hr rfl (fun t ht hW => ⟨⟨0, (), rfl, (by rw [ge4_3] at c_2; simp [zTys, zTys2, zTys3, c_1, c_2, c_3, c_4, c_7, c_8, c_9]), by rw [ht]; exact hP9, va_K.moved hW.alike hK9, hD9⟩, hS.F ht⟩) hS.2.2 dX13_areTypes_50
              · refine lv_iconst (v := 1) hx hb dX13_areTypes_45 (by decide) ?_
                refine lv_goto (tgt := 50) hx hb dX13_areTypes_46 (by decide) ?_
                have hP9 := hP.sub (ws' := []) [] rfl
                have hD9 := hD.sub (ws' := []) [] (by decide) rfl
                have hK9 := hK.sub (tys' := []) [] rfl
                refine W.widen (k := 0) (n := 0) (Nat.le_of_ble_eq_true rfl) (Nat.le_of_ble_eq_true rfl) ?_
                exact W.zret (v := 1) hx hb hr rfl (fun t ht hW => ⟨⟨1, (), rfl, (by rw [ge4_3] at c_2; simp [zTys, zTys2, zTys3, c_1, c_2, c_3, c_4, c_7, c_8, c_9]), by rw [ht]; exact hP9, va_K.moved hW.alike hK9, hD9⟩, hS.F ht⟩) hS.2.2 dX13_areTypes_50
      · refine lv_iload_n hx hb dX13_areTypes_14 rfl (lv_at hl 1 rfl) ?_
        have hPc := hP.sub (ws' := []) [] rfl
        have hDc := hD.sub (ws' := []) [] (by decide) rfl
        have hKc := hK.sub (tys' := []) [] rfl
        have hFc := va_free (wc := []) hD hS hA [] rfl
        refine va_calli (va_runS (As := [.int p1]) (rest := []) ⟨hx, hb, hml, hown, htb⟩ (c_X13_isType l dC dI s.heap.size p1) (va_cwS 1 htb (gd_S kw_267 kw_268 kw_5 kw_1397) rfl rfl rfl (by decide +kernel) ⟨Nat.le_of_ble_eq_true rfl, Nat.le_of_ble_eq_true rfl⟩) ⟨fun a U g mk q => by obtain ⟨q0, q1, qP, qK, qD⟩ := q; exact ⟨q0, q1, qP, va_K.moved (u := U) (U := U.calling g mk a) (Vm.Alike.refl U.vm) qK, qD⟩, fun U hU hW => ⟨rfl, by rw [hU], by rw [hU]; exact hPc, va_K.moved hW.alike hKc, hDc.weaken (fun _ _ _ _ => trivial)⟩⟩ rfl rfl hl.1 rfl (lv_room (Nat.le_of_ble_eq_true rfl)) dX13_areTypes_15 ⟨(Nat.le_of_ble_eq_true rfl), (Nat.le_of_ble_eq_true rfl)⟩) hS (fun q _ h => hFc q h) hFc (fun r u t H1 locs ht hvm hw hB hz1 hk1 hS => ?_)
        subst hw
        obtain ⟨hP1, hK1, hD1⟩ := hB
        rw [ht] at hP1
        have hK1 := va_K.moved hvm.symm hK1
        obtain ⟨hP, hD⟩ := va_join (wr := []) (w1 := []) hP hD [] [] rfl rfl (by decide) (by decide) hk1 hFc hP1 hD1
        have hK := hK.app hK1
        generalize H1 = H at hP hS ⊢
        have hP : va_P (dC, dI) vwCl [] H := hP
        have hD : va_D A [] := hD
        have hK : va_K (dC, dI) vwCl [] s := hK
        refine W.widen (k := 0) (n := 0) (Nat.le_of_ble_eq_true rfl) (Nat.le_of_ble_eq_true rfl) ?_
        refine lv_if_eq (tgt := 49) hx hb dX13_areTypes_18 (by decide) (fun c_10 => ?_) (fun c_10 => ?_)
        · refine lv_iconst (v := 0) hx hb dX13_areTypes_49 (by decide) ?_
          have hP9 := hP.sub (ws' := []) [] rfl
          have hD9 := hD.sub (ws' := []) [] (by decide) rfl
          have hK9 := hK.sub (tys' := []) [] rfl
          refine W.widen (k := 0) (n := 0) (Nat.le_of_ble_eq_true rfl) (Nat.le_of_ble_eq_true rfl) ?_
          exact W.zret (v := 0) hx hb hr rfl (fun t ht hW => ⟨⟨0, (), rfl, (by rw [ge4_3] at c_2; simp [zTys, zTys2, zTys3, c_1, c_2, c_3, c_10]), by rw [ht]; exact hP9, va_K.moved hW.alike hK9, hD9⟩, hS.F ht⟩) hS.2.2 dX13_areTypes_50
        · refine lv_iload_n hx hb dX13_areTypes_21 rfl (lv_at hl 0 rfl) ?_
          refine lv_iconst (v := 2) hx hb dX13_areTypes_22 (by decide) ?_
          refine lv_icmp_lt (tgt := 33) hx hb dX13_areTypes_23 (by decide) (fun c_11 => ?_) (fun c_11 => ?_)
          · refine lv_iload_n hx hb dX13_areTypes_33 rfl (lv_at hl 0 rfl) ?_
            refine lv_iconst (v := 3) hx hb dX13_areTypes_34 (by decide) ?_
            refine lv_icmp_lt (tgt := 45) hx hb dX13_areTypes_35 (by decide) (fun c_12 => ?_) (fun c_12 => ?_)
            · refine lv_iconst (v := 1) hx hb dX13_areTypes_45 (by decide) ?_
              refine lv_goto (tgt := 50) hx hb dX13_areTypes_46 (by decide) ?_
              have hP9 := hP.sub (ws' := []) [] rfl
              have hD9 := hD.sub (ws' := []) [] (by decide) rfl
              have hK9 := hK.sub (tys' := []) [] rfl
              refine W.widen (k := 0) (n := 0) (Nat.le_of_ble_eq_true rfl) (Nat.le_of_ble_eq_true rfl) ?_
              exact W.zret (v := 1) hx hb hr rfl (fun t ht hW => ⟨⟨1, (), rfl, (by rw [ge4_3] at c_2; simp [zTys, zTys2, zTys3, c_1, c_2, c_3, c_10, c_11, c_12]), by rw [ht]; exact hP9, va_K.moved hW.alike hK9, hD9⟩, hS.F ht⟩) hS.2.2 dX13_areTypes_50
            · refine lv_iload_n hx hb dX13_areTypes_38 rfl (lv_at hl 3 rfl) ?_
              have hPc := hP.sub (ws' := []) [] rfl
              have hDc := hD.sub (ws' := []) [] (by decide) rfl
              have hKc := hK.sub (tys' := []) [] rfl
              have hFc := va_free (wc := []) hD hS hA [] rfl
              refine va_calli (va_runS (As := [.int p3]) (rest := []) ⟨hx, hb, hml, hown, htb⟩ (c_X13_isType l dC dI H.size p3) (va_cwS 1 htb (gd_S kw_267 kw_268 kw_5 kw_1397) rfl rfl rfl (by decide +kernel) ⟨Nat.le_of_ble_eq_true rfl, Nat.le_of_ble_eq_true rfl⟩) ⟨fun a U g mk q => by obtain ⟨q0, q1, qP, qK, qD⟩ := q; exact ⟨q0, q1, qP, va_K.moved (u := U) (U := U.calling g mk a) (Vm.Alike.refl U.vm) qK, qD⟩, fun U hU hW => ⟨rfl, by rw [hU], by rw [hU]; exact hPc, va_K.moved hW.alike hKc, hDc.weaken (fun _ _ _ _ => trivial)⟩⟩ rfl rfl hl.1 rfl (lv_room (Nat.le_of_ble_eq_true rfl)) dX13_areTypes_39 ⟨(Nat.le_of_ble_eq_true rfl), (Nat.le_of_ble_eq_true rfl)⟩) hS (fun q _ h => hFc q h) hFc (fun r u t H1 locs ht hvm hw hB hz1 hk1 hS => ?_)
              subst hw
              obtain ⟨hP1, hK1, hD1⟩ := hB
              rw [ht] at hP1
              have hK1 := va_K.moved hvm.symm hK1
              obtain ⟨hP, hD⟩ := va_join (wr := []) (w1 := []) hP hD [] [] rfl rfl (by decide) (by decide) hk1 hFc hP1 hD1
              have hK := hK.app hK1
              generalize H1 = H at hP hS ⊢
              have hP : va_P (dC, dI) vwCl [] H := hP
              have hD : va_D A [] := hD
              have hK : va_K (dC, dI) vwCl [] s := hK
              refine W.widen (k := 0) (n := 0) (Nat.le_of_ble_eq_true rfl) (Nat.le_of_ble_eq_true rfl) ?_
              refine lv_if_eq (tgt := 49) hx hb dX13_areTypes_42 (by decide) (fun c_13 => ?_) (fun c_13 => ?_)
              · refine lv_iconst (v := 0) hx hb dX13_areTypes_49 (by decide) ?_
                have hP9 := hP.sub (ws' := []) [] rfl
                have hD9 := hD.sub (ws' := []) [] (by decide) rfl
                have hK9 := hK.sub (tys' := []) [] rfl
                refine W.widen (k := 0) (n := 0) (Nat.le_of_ble_eq_true rfl) (Nat.le_of_ble_eq_true rfl) ?_
                exact W.zret (v := 0) hx hb hr rfl (fun t ht hW => ⟨⟨0, (), rfl, (by rw [ge4_3] at c_2; simp [zTys, zTys2, zTys3, c_1, c_2, c_3, c_10, c_11, c_12, c_13]), by rw [ht]; exact hP9, va_K.moved hW.alike hK9, hD9⟩, hS.F ht⟩) hS.2.2 dX13_areTypes_50
              · refine lv_iconst (v := 1) hx hb dX13_areTypes_45 (by decide) ?_
                refine lv_goto (tgt := 50) hx hb dX13_areTypes_46 (by decide) ?_
                have hP9 := hP.sub (ws' := []) [] rfl
                have hD9 := hD.sub (ws' := []) [] (by decide) rfl
                have hK9 := hK.sub (tys' := []) [] rfl
                refine W.widen (k := 0) (n := 0) (Nat.le_of_ble_eq_true rfl) (Nat.le_of_ble_eq_true rfl) ?_
                exact W.zret (v := 1) hx hb hr rfl (fun t ht hW => ⟨⟨1, (), rfl, (by rw [ge4_3] at c_2; simp [zTys, zTys2, zTys3, c_1, c_2, c_3, c_10, c_11, c_12, c_13]), by rw [ht]; exact hP9, va_K.moved hW.alike hK9, hD9⟩, hS.F ht⟩) hS.2.2 dX13_areTypes_50
          · refine lv_iload_n hx hb dX13_areTypes_26 rfl (lv_at hl 2 rfl) ?_
            have hPc := hP.sub (ws' := []) [] rfl
            have hDc := hD.sub (ws' := []) [] (by decide) rfl
            have hKc := hK.sub (tys' := []) [] rfl
            have hFc := va_free (wc := []) hD hS hA [] rfl
            refine va_calli (va_runS (As := [.int p2]) (rest := []) ⟨hx, hb, hml, hown, htb⟩ (c_X13_isType l dC dI H.size p2) (va_cwS 1 htb (gd_S kw_267 kw_268 kw_5 kw_1397) rfl rfl rfl (by decide +kernel) ⟨Nat.le_of_ble_eq_true rfl, Nat.le_of_ble_eq_true rfl⟩) ⟨fun a U g mk q => by obtain ⟨q0, q1, qP, qK, qD⟩ := q; exact ⟨q0, q1, qP, va_K.moved (u := U) (U := U.calling g mk a) (Vm.Alike.refl U.vm) qK, qD⟩, fun U hU hW => ⟨rfl, by rw [hU], by rw [hU]; exact hPc, va_K.moved hW.alike hKc, hDc.weaken (fun _ _ _ _ => trivial)⟩⟩ rfl rfl hl.1 rfl (lv_room (Nat.le_of_ble_eq_true rfl)) dX13_areTypes_27 ⟨(Nat.le_of_ble_eq_true rfl), (Nat.le_of_ble_eq_true rfl)⟩) hS (fun q _ h => hFc q h) hFc (fun r u t H1 locs ht hvm hw hB hz1 hk1 hS => ?_)
            subst hw
            obtain ⟨hP1, hK1, hD1⟩ := hB
            rw [ht] at hP1
            have hK1 := va_K.moved hvm.symm hK1
            obtain ⟨hP, hD⟩ := va_join (wr := []) (w1 := []) hP hD [] [] rfl rfl (by decide) (by decide) hk1 hFc hP1 hD1
            have hK := hK.app hK1
            generalize H1 = H at hP hS ⊢
            have hP : va_P (dC, dI) vwCl [] H := hP
            have hD : va_D A [] := hD
            have hK : va_K (dC, dI) vwCl [] s := hK
            refine W.widen (k := 0) (n := 0) (Nat.le_of_ble_eq_true rfl) (Nat.le_of_ble_eq_true rfl) ?_
            refine lv_if_eq (tgt := 49) hx hb dX13_areTypes_30 (by decide) (fun c_14 => ?_) (fun c_14 => ?_)
            · refine lv_iconst (v := 0) hx hb dX13_areTypes_49 (by decide) ?_
              have hP9 := hP.sub (ws' := []) [] rfl
              have hD9 := hD.sub (ws' := []) [] (by decide) rfl
              have hK9 := hK.sub (tys' := []) [] rfl
              refine W.widen (k := 0) (n := 0) (Nat.le_of_ble_eq_true rfl) (Nat.le_of_ble_eq_true rfl) ?_
              exact W.zret (v := 0) hx hb hr rfl (fun t ht hW => ⟨⟨0, (), rfl, (by rw [ge4_3] at c_2; simp [zTys, zTys2, zTys3, c_1, c_2, c_3, c_10, c_11, c_14]), by rw [ht]; exact hP9, va_K.moved hW.alike hK9, hD9⟩, hS.F ht⟩) hS.2.2 dX13_areTypes_50
            · refine lv_iload_n hx hb dX13_areTypes_33 rfl (lv_at hl 0 rfl) ?_
              refine lv_iconst (v := 3) hx hb dX13_areTypes_34 (by decide) ?_
              refine lv_icmp_lt (tgt := 45) hx hb dX13_areTypes_35 (by decide) (fun c_15 => ?_) (fun c_15 => ?_)
              · refine lv_iconst (v := 1) hx hb dX13_areTypes_45 (by decide) ?_
                refine lv_goto (tgt := 50) hx hb dX13_areTypes_46 (by decide) ?_
                have hP9 := hP.sub (ws' := []) [] rfl
                have hD9 := hD.sub (ws' := []) [] (by decide) rfl
                have hK9 := hK.sub (tys' := []) [] rfl
                refine W.widen (k := 0) (n := 0) (Nat.le_of_ble_eq_true rfl) (Nat.le_of_ble_eq_true rfl) ?_
                exact W.zret (v := 1) hx hb hr rfl (fun t ht hW => ⟨⟨1, (), rfl, (by rw [ge4_3] at c_2; simp [zTys, zTys2, zTys3, c_1, c_2, c_3, c_10, c_11, c_14, c_15]), by rw [ht]; exact hP9, va_K.moved hW.alike hK9, hD9⟩, hS.F ht⟩) hS.2.2 dX13_areTypes_50
              · refine lv_iload_n hx hb dX13_areTypes_38 rfl (lv_at hl 3 rfl) ?_
                have hPc := hP.sub (ws' := []) [] rfl
                have hDc := hD.sub (ws' := []) [] (by decide) rfl
                have hKc := hK.sub (tys' := []) [] rfl
                have hFc := va_free (wc := []) hD hS hA [] rfl
                refine va_calli (va_runS (As := [.int p3]) (rest := []) ⟨hx, hb, hml, hown, htb⟩ (c_X13_isType l dC dI H.size p3) (va_cwS 1 htb (gd_S kw_267 kw_268 kw_5 kw_1397) rfl rfl rfl (by decide +kernel) ⟨Nat.le_of_ble_eq_true rfl, Nat.le_of_ble_eq_true rfl⟩) ⟨fun a U g mk q => by obtain ⟨q0, q1, qP, qK, qD⟩ := q; exact ⟨q0, q1, qP, va_K.moved (u := U) (U := U.calling g mk a) (Vm.Alike.refl U.vm) qK, qD⟩, fun U hU hW => ⟨rfl, by rw [hU], by rw [hU]; exact hPc, va_K.moved hW.alike hKc, hDc.weaken (fun _ _ _ _ => trivial)⟩⟩ rfl rfl hl.1 rfl (lv_room (Nat.le_of_ble_eq_true rfl)) dX13_areTypes_39 ⟨(Nat.le_of_ble_eq_true rfl), (Nat.le_of_ble_eq_true rfl)⟩) hS (fun q _ h => hFc q h) hFc (fun r u t H1 locs ht hvm hw hB hz1 hk1 hS => ?_)
                subst hw
                obtain ⟨hP1, hK1, hD1⟩ := hB
                rw [ht] at hP1
                have hK1 := va_K.moved hvm.symm hK1
                obtain ⟨hP, hD⟩ := va_join (wr := []) (w1 := []) hP hD [] [] rfl rfl (by decide) (by decide) hk1 hFc hP1 hD1
                have hK := hK.app hK1
                generalize H1 = H at hP hS ⊢
                have hP : va_P (dC, dI) vwCl [] H := hP
                have hD : va_D A [] := hD
                have hK : va_K (dC, dI) vwCl [] s := hK
                refine W.widen (k := 0) (n := 0) (Nat.le_of_ble_eq_true rfl) (Nat.le_of_ble_eq_true rfl) ?_
                refine lv_if_eq (tgt := 49) hx hb dX13_areTypes_42 (by decide) (fun c_16 => ?_) (fun c_16 => ?_)
                · refine lv_iconst (v := 0) hx hb dX13_areTypes_49 (by decide) ?_
                  have hP9 := hP.sub (ws' := []) [] rfl
                  have hD9 := hD.sub (ws' := []) [] (by decide) rfl
                  have hK9 := hK.sub (tys' := []) [] rfl
                  refine W.widen (k := 0) (n := 0) (Nat.le_of_ble_eq_true rfl) (Nat.le_of_ble_eq_true rfl) ?_
                  exact W.zret (v := 0) hx hb hr rfl (fun t ht hW => ⟨⟨0, (), rfl, (by rw [ge4_3] at c_2; simp [zTys, zTys2, zTys3, c_1, c_2, c_3, c_10, c_11, c_14, c_15, c_16]), by rw [ht]; exact hP9, va_K.moved hW.alike hK9, hD9⟩, hS.F ht⟩) hS.2.2 dX13_areTypes_50
                · refine lv_iconst (v := 1) hx hb dX13_areTypes_45 (by decide) ?_
                  refine lv_goto (tgt := 50) hx hb dX13_areTypes_46 (by decide) ?_
                  have hP9 := hP.sub (ws' := []) [] rfl
                  have hD9 := hD.sub (ws' := []) [] (by decide) rfl
                  have hK9 := hK.sub (tys' := []) [] rfl
                  refine W.widen (k := 0) (n := 0) (Nat.le_of_ble_eq_true rfl) (Nat.le_of_ble_eq_true rfl) ?_
                  exact W.zret (v := 1) hx hb hr rfl (fun t ht hW => ⟨⟨1, (), rfl, (by rw [ge4_3] at c_2; simp [zTys, zTys2, zTys3, c_1, c_2, c_3, c_10, c_11, c_14, c_15, c_16]), by rw [ht]; exact hP9, va_K.moved hW.alike hK9, hD9⟩, hS.F ht⟩) hS.2.2 dX13_areTypes_50

theorem cl_iv {w z z1 z2 : Int64} {x a b : Int32} (h : z = w &&& 255) (hx : x = z.toInt32) (e1 : z1 = w &&& 255) (ea : a = lg_cmp z1 48) (ha : ¬ a < 0) (e2 : z2 = w &&& 255) (eb : b = lg_cmp z2 55) (hb : ¬ 0 < b) : iv 48 55 x := by
  subst h hx e1 ea e2 eb
  have k1 := Int64.le_iff_toInt_le.mp (Int64.not_lt.mp (fun q => ha ((lg_cmp_lt _ _).mpr q)))
  have k2 := Int64.le_iff_toInt_le.mp (Int64.not_lt.mp (fun q => hb ((lg_cmp_gt _ _).mpr q)))
  have q1 : (48 : Int64).toInt = 48 := by decide
  have q2 : (55 : Int64).toInt = 55 := by decide
  rw [q1] at k1
  rw [q2] at k2
  refine ⟨?_, ?_⟩ <;> rw [Int64.toInt_toInt32, i32_bm ⟨by omega, by omega⟩] <;> omega

set_option maxHeartbeats 4000000 in
set_option maxRecDepth 100000 in
theorem a_classIn (l : Launch) (dC : Nat → ClassId) (dI : Nat → Nat → Nat) (sz : Nat) (w : Int64) : Met l yX13_classIn wm_X13_classIn ({ frames := 0, cells := 0, slots := 0, locals := 0 }) (va_Pc [.long w] (fun U => U.heap.size = sz ∧ va_P (dC, dI) vwCl [] U.heap ∧ va_K (dC, dI) vwCl [] U ∧ va_D (fun _ => True) [])) (va_Qi (fun (r : Int32) (_ : Unit) => iv (-1) 7 r) (fun _ t => va_P (dC, dI) vwCl [] t.heap ∧ va_K (dC, dI) vwCl [] t ∧ va_D (va_A [] sz) []) (va_A [] sz)) 0 0 (va_A [] sz) := by
  refine Met.ofW (cc := cX13_classIn) (maxL := 2) (ret := (some .int)) (by decide) rfl ?_
  intro p e s m args below meth c s₁ B hml hv
  obtain ⟨rfl, hsz, hP, hK, hD0⟩ := hv
  have hx := B.exec
  have hb := B.bytes
  have hr := B.returns
  have hts := atoms_spec (ws := wm_X13_classIn) B.pre
  have htb := fun (w : Cond) (h : w ∈ tb) => hts w (List.mem_cons_of_mem _ h)
  have hown : s.vm.findClass RX13 = some m.cls := findClass_of_methodNamed B.named
  have hlocks := B.notSynchronized
  subst hsz
  have hD := hD0.self (sz := s.heap.size)
  generalize hAe : va_A [] s.heap.size = A at hD ⊢
  have hA : ∀ q : Nat, s.heap.size ≤ q → A q := fun q h => by rw [← hAe]; exact Or.inr h
  have hS : va_S A s.heap s.heap [] := va_S.rf
  have hP : va_P (dC, dI) vwCl [] s.heap := hP
  have hl := lv_entry ([.long w]) (n := 2) (Nat.le_of_ble_eq_true rfl)
  rw [lg_entry_eq]
  generalize (lg_sl ([.long w]) ++ List.replicate (2 - (lg_sl ([.long w])).length) Slot.unset).toArray = ls at hl ⊢
  have hl : lv_has ls 2 [(0, .long w)] := hl
  have hj48 : ∀ (y0_48 : Int32) (_ : iv (-1) 7 y0_48) (H : Heap) (locs : List Loc) (ls : Array Slot), va_P (dC, dI) vwCl [] H → va_D A [] → va_S A s.heap H locs → lv_has ls 2 [(0, .long w)] → W p l e (headSpec wm_X13_classIn ({ frames := 0, cells := 0, slots := 0, locals := 0 })).room s m ([.long w] : List Value).toArray below meth c H locs 0 0 (MQ below (va_Qi (fun (r : Int32) (_ : Unit) => iv (-1) 7 r) (fun _ t => va_P (dC, dI) vwCl [] t.heap ∧ va_K (dC, dI) vwCl [] t ∧ va_D A []) A) ([.long w] : List Value).toArray s 0 0 A) (F0 m 48 ls [.int y0_48]) := by
    intro y0_48 hy0_48 H locs ls hP hD hS hl
    exact W.iret (v := y0_48) hx hb hr (fun t ht hW => ⟨⟨y0_48, (), rfl, hy0_48, by rw [ht]; exact hP, va_K.moved hW.alike hK, hD⟩, hS.F ht⟩) hS.2.2 dX13_classIn_48
  have hj47 : ∀ (H : Heap) (locs : List Loc) (ls : Array Slot), va_P (dC, dI) vwCl [] H → va_D A [] → va_S A s.heap H locs → lv_has ls 2 [(0, .long w)] → W p l e (headSpec wm_X13_classIn ({ frames := 0, cells := 0, slots := 0, locals := 0 })).room s m ([.long w] : List Value).toArray below meth c H locs 0 0 (MQ below (va_Qi (fun (r : Int32) (_ : Unit) => iv (-1) 7 r) (fun _ t => va_P (dC, dI) vwCl [] t.heap ∧ va_K (dC, dI) vwCl [] t ∧ va_D A []) A) ([.long w] : List Value).toArray s 0 0 A) (F0 m 47 ls []) := by
    intro  H locs ls hP hD hS hl
    refine lv_iconst (v := (-1)) hx hb dX13_classIn_47 (by decide) ?_
    exact hj48 (-1) (iv_w (iv_k (by decide) : iv (-1) (-1) (-1)) (by decide)) _ _ _ hP hD hS (lv_sub hl [0] rfl)
  refine lv_lload_n hx hb dX13_classIn_0 rfl (lv_at hl 0 rfl) ?_
  refine lv_bipush (v := 8) hx hb dX13_classIn_1 (by decide) ?_
  refine lv_lshr (v := w >>> ((8 : Int32).toInt64 &&& 63)) hx hb dX13_classIn_3 rfl ?_
  refine lv_topl (fun z_1 ez_1 => ?_)
  refine lv_ldc2 (own := RX13) (v := 75) hx hb hown (htb _ kw_929) dX13_classIn_4 ?_
  refine W.lcmp hx hb dX13_classIn_7 ?_
  refine lv_topi (fun z_2 ez_2 => ?_)
  have hz_2 : iv (-1) 1 z_2 := iv_of ez_2 (iv_cmp _ _)
  refine lv_if_ne (tgt := 47) hx hb dX13_classIn_8 (by decide) (fun c_3 => ?_) (fun c_3 => ?_)
  · have d_4 : ¬ (z_2 : Int32).toInt = 0 := lv_neT c_3 rfl
    exact hj47 _ _ _ hP hD hS (lv_sub hl [0] rfl)
  · have h_5 : iv 0 0 z_2 := iv_eq c_3 hz_2 (iv_k (by decide) : iv 0 0 0) (by decide)
    refine lv_lload_n hx hb dX13_classIn_11 rfl (lv_at hl 0 rfl) ?_
    refine lv_ldc2 (own := RX13) (v := 255) hx hb hown (htb _ kw_874) dX13_classIn_12 ?_
    refine lv_land hx hb dX13_classIn_15 ?_
    refine lv_topl (fun z_6 ez_6 => ?_)
    refine lv_ldc2 (own := RX13) (v := 48) hx hb hown (htb _ kw_890) dX13_classIn_16 ?_
    refine W.lcmp hx hb dX13_classIn_19 ?_
    refine lv_topi (fun z_7 ez_7 => ?_)
    have hz_7 : iv (-1) 1 z_7 := iv_of ez_7 (iv_cmp _ _)
    refine lv_if_lt (tgt := 47) hx hb dX13_classIn_20 (by decide) (fun c_8 => ?_) (fun c_8 => ?_)
    · have h_9 : iv (-1) (-1) z_7 := iv_ltL c_8 hz_7 (iv_k (by decide) : iv 0 0 0) (by decide)
      exact hj47 _ _ _ hP hD hS (lv_sub hl [0] rfl)
    · have h_10 : iv 0 1 z_7 := iv_leR (i32_ge c_8) (iv_k (by decide) : iv 0 0 0) hz_7 (by decide)
      refine lv_lload_n hx hb dX13_classIn_23 rfl (lv_at hl 0 rfl) ?_
      refine lv_ldc2 (own := RX13) (v := 255) hx hb hown (htb _ kw_874) dX13_classIn_24 ?_
      refine lv_land hx hb dX13_classIn_27 ?_
      refine lv_topl (fun z_11 ez_11 => ?_)
      refine lv_ldc2 (own := RX13) (v := 55) hx hb hown (htb _ kw_930) dX13_classIn_28 ?_
      refine W.lcmp hx hb dX13_classIn_31 ?_
      refine lv_topi (fun z_12 ez_12 => ?_)
      have hz_12 : iv (-1) 1 z_12 := iv_of ez_12 (iv_cmp _ _)
      refine lv_if_gt (tgt := 47) hx hb dX13_classIn_32 (by decide) (fun c_13 => ?_) (fun c_13 => ?_)
      · have h_14 : iv 1 1 z_12 := iv_ltR c_13 (iv_k (by decide) : iv 0 0 0) hz_12 (by decide)
        exact hj47 _ _ _ hP hD hS (lv_sub hl [0] rfl)
      · have h_15 : iv (-1) 0 z_12 := iv_leL (i32_ge c_13) hz_12 (iv_k (by decide) : iv 0 0 0) (by decide)
        refine lv_lload_n hx hb dX13_classIn_35 rfl (lv_at hl 0 rfl) ?_
        refine lv_ldc2 (own := RX13) (v := 255) hx hb hown (htb _ kw_874) dX13_classIn_36 ?_
        refine lv_land hx hb dX13_classIn_39 ?_
        refine lv_topl (fun z_16 ez_16 => ?_)
        refine lv_l2i (v := (z_16).toInt32) hx hb dX13_classIn_40 rfl ?_
        refine lv_topi (fun z_17 ez_17 => ?_)
        have hz_17 : iv 0 255 z_17 := iv_of ez_17 (iv_l255 ez_16)
        have h_18 : iv 48 55 z_17 := cl_iv ez_16 ez_17 ez_6 ez_7 c_8 ez_11 ez_12 c_13
        refine lv_bipush (v := 48) hx hb dX13_classIn_41 (by decide) ?_
        refine lv_isub hx hb dX13_classIn_43 ?_
        refine lv_topi (fun z_19 ez_19 => ?_)
        have hz_19 : iv 0 7 z_19 := iv_of ez_19 (iv_sub h_18 (iv_k (by decide) : iv 48 48 48) (by decide))
        have tz_19 : z_19.toInt = (z_17 : Int32).toInt - 48 := by rw [ez_19]; exact iv_subE h_18 (iv_k (by decide) : iv 48 48 48) (by decide)
        refine lv_goto (tgt := 48) hx hb dX13_classIn_44 (by decide) ?_
        exact hj48 z_19 (iv_w hz_19 (by decide)) _ _ _ hP hD hS (lv_sub hl [0] rfl)
end
section
set_option maxHeartbeats 4000000 in
set_option maxRecDepth 100000 in
theorem a_fault (l : Launch) (dC : Nat → ClassId) (dI : Nat → Nat → Nat) (h0 : Nat) (ad : Nat → Nat) (cid : Nat → ClassId) (sg : Nat → Int32) (gm : Nat → Nat → Int32) (lg : Nat → Nat → Int64) (a : Int32) (hI : MI sg gm) : MMi l dC dI yX13_fault wm_X13_fault ({ frames := 0, cells := 0, slots := 0, locals := 0 }) h0 ad cid [.int a] sg gm lg (fun r v => ∃ (sg2 : Nat → Int32) (gm2 : Nat → Nat → Int32) (lg2 : Nat → Nat → Int64), v = (sg2, gm2, lg2) ∧ MI sg2 gm2 ∧ KS [5] sg sg2 ∧ KS [] gm gm2 ∧ KS [] lg lg2) := by
  intro sz
  refine Met.ofW (cc := cX13_fault) (maxL := 2) (ret := (some .int)) (by decide) rfl ?_
  intro p e s m args below meth c s₁ B hml hv
  obtain ⟨rfl, hsz, hP, hK, hD0⟩ := hv
  have hx := B.exec
  have hb := B.bytes
  have hr := B.returns
  have hts := atoms_spec (ws := wm_X13_fault) B.pre
  have htb := fun (w : Cond) (h : w ∈ tb) => hts w (List.mem_cons_of_mem _ h)
  have hown : s.vm.findClass RX13 = some m.cls := findClass_of_methodNamed B.named
  have hlocks := B.notSynchronized
  subst hsz
  have hD := hD0.self (sz := s.heap.size)
  generalize hAe : va_A (mW h0 ad cid sg gm lg) s.heap.size = A at hD ⊢
  have hA : ∀ q : Nat, s.heap.size ≤ q → A q := fun q h => by rw [← hAe]; exact Or.inr h
  have hS : va_S A s.heap s.heap [] := va_S.rf
  have hl := lv_entry ([.ref h0, .int a]) (n := 2) (Nat.le_of_ble_eq_true rfl)
  rw [lg_entry_eq]
  generalize (lg_sl ([.ref h0, .int a]) ++ List.replicate (2 - (lg_sl ([.ref h0, .int a])).length) Slot.unset).toArray = ls at hl ⊢
  have hl : lv_has ls 2 [(0, .ref h0), (1, .int a)] := hl
  refine lv_aload_n hx hb dX13_fault_0 rfl (lv_at hl 0 rfl) ?_
  refine lv_iconst (v := 0) hx hb dX13_fault_1 (by decide) ?_
  refine ma_put (x := 0) hx hb htb inX13 hown hK hP hD hS 5 (by decide) (by decide) (htb _ kw_239) rfl rfl rfl dX13_fault_2 (fun sg_1 H locs esg_1 hP hD hS => ?_)
  have hI_sg_1 := MI_put hI esg_1 (iv_k (by decide) : iv 0 0 0) (by decide)
  refine lv_iload_n hx hb dX13_fault_5 rfl (lv_at hl 1 rfl) ?_
  by_cases c_2 : (a : Int32).toInt = 0
  · refine lv_tableIn (tgt := 36) hx hb dX13_fault_6 (by rw [c_2]; decide) (by rw [c_2]; decide) (by rw [c_2]; rfl) (by decide) ?_
    have h_3 : iv 0 0 a := iv_at c_2
    refine lv_aload_n hx hb dX13_fault_36 rfl (lv_at hl 0 rfl) ?_
    refine mr_get (v := .int (sg_1 22)) hx hb htb inX13 hown hK hP 22 (by decide) (htb _ kw_813) rfl dX13_fault_37 ?_
    refine lv_topi (fun z_4 ez_4 => ?_)
    obtain rfl : (sg 22) = z_4 := (ez_4.trans (up_ne esg_1 (by decide))).symm
    exact W.iret (v := (sg 22)) hx hb hr (fun t ht hW => ⟨⟨(sg 22), (sg_1, gm, lg), rfl, ⟨sg_1, gm, lg, rfl, hI_sg_1, (KS_up KS_rf esg_1 (by decide)), KS_rf, KS_rf⟩, by rw [ht]; exact hP, va_K.moved hW.alike hK, hD⟩, hS.F ht⟩) hS.2.2 dX13_fault_40
  by_cases c_5 : (a : Int32).toInt = 1
  · refine lv_tableIn (tgt := 41) hx hb dX13_fault_6 (by rw [c_5]; decide) (by rw [c_5]; decide) (by rw [c_5]; rfl) (by decide) ?_
    have h_6 : iv 1 1 a := iv_at c_5
    refine lv_aload_n hx hb dX13_fault_41 rfl (lv_at hl 0 rfl) ?_
    refine mr_get (v := .int (sg_1 23)) hx hb htb inX13 hown hK hP 23 (by decide) (htb _ kw_181) rfl dX13_fault_42 ?_
    refine lv_topi (fun z_7 ez_7 => ?_)
    obtain rfl : (sg 23) = z_7 := (ez_7.trans (up_ne esg_1 (by decide))).symm
    exact W.iret (v := (sg 23)) hx hb hr (fun t ht hW => ⟨⟨(sg 23), (sg_1, gm, lg), rfl, ⟨sg_1, gm, lg, rfl, hI_sg_1, (KS_up KS_rf esg_1 (by decide)), KS_rf, KS_rf⟩, by rw [ht]; exact hP, va_K.moved hW.alike hK, hD⟩, hS.F ht⟩) hS.2.2 dX13_fault_45
  by_cases c_8 : (a : Int32).toInt = 2
  · refine lv_tableIn (tgt := 46) hx hb dX13_fault_6 (by rw [c_8]; decide) (by rw [c_8]; decide) (by rw [c_8]; rfl) (by decide) ?_
    have h_9 : iv 2 2 a := iv_at c_8
    refine lv_aload_n hx hb dX13_fault_46 rfl (lv_at hl 0 rfl) ?_
    refine mr_get (v := .int (sg_1 51)) hx hb htb inX13 hown hK hP 51 (by decide) (htb _ kw_980) rfl dX13_fault_47 ?_
    refine lv_topi (fun z_10 ez_10 => ?_)
    obtain rfl : (sg 51) = z_10 := (ez_10.trans (up_ne esg_1 (by decide))).symm
    exact W.iret (v := (sg 51)) hx hb hr (fun t ht hW => ⟨⟨(sg 51), (sg_1, gm, lg), rfl, ⟨sg_1, gm, lg, rfl, hI_sg_1, (KS_up KS_rf esg_1 (by decide)), KS_rf, KS_rf⟩, by rw [ht]; exact hP, va_K.moved hW.alike hK, hD⟩, hS.F ht⟩) hS.2.2 dX13_fault_50
  by_cases c_11 : (a : Int32).toInt = 3
  · refine lv_tableIn (tgt := 51) hx hb dX13_fault_6 (by rw [c_11]; decide) (by rw [c_11]; decide) (by rw [c_11]; rfl) (by decide) ?_
    have h_12 : iv 3 3 a := iv_at c_11
    refine lv_aload_n hx hb dX13_fault_51 rfl (lv_at hl 0 rfl) ?_
    refine mr_get (v := .int (sg_1 52)) hx hb htb inX13 hown hK hP 52 (by decide) (htb _ kw_202) rfl dX13_fault_52 ?_
    refine lv_topi (fun z_13 ez_13 => ?_)
    obtain rfl : (sg 52) = z_13 := (ez_13.trans (up_ne esg_1 (by decide))).symm
    exact W.iret (v := (sg 52)) hx hb hr (fun t ht hW => ⟨⟨(sg 52), (sg_1, gm, lg), rfl, ⟨sg_1, gm, lg, rfl, hI_sg_1, (KS_up KS_rf esg_1 (by decide)), KS_rf, KS_rf⟩, by rw [ht]; exact hP, va_K.moved hW.alike hK, hD⟩, hS.F ht⟩) hS.2.2 dX13_fault_55
  refine lv_tableOut (tgt := 56) hx hb dX13_fault_6 (by have q1 := ((iv_all a)).1; have q2 := ((iv_all a)).2; omega) (by decide) ?_
  refine lv_iconst (v := (-1)) hx hb dX13_fault_56 (by decide) ?_
  exact W.iret (v := (-1)) hx hb hr (fun t ht hW => ⟨⟨(-1), (sg_1, gm, lg), rfl, ⟨sg_1, gm, lg, rfl, hI_sg_1, (KS_up KS_rf esg_1 (by decide)), KS_rf, KS_rf⟩, by rw [ht]; exact hP, va_K.moved hW.alike hK, hD⟩, hS.F ht⟩) hS.2.2 dX13_fault_57
end
section
def PR (gm : Nat → Nat → Int32) : Prop := ∀ k, k < 8 → (gm 6 k).toInt < (k : Int)
theorem PR_dec {gm : Nat → Nat → Int32} {x z : Int32} (h : PR gm) (hx : iv 0 7 x) (q : z = gm 6 x.toNatClampNeg) : (z.toInt + 1).toNat < (x.toInt + 1).toNat := by
  have h1 := iv_cl hx (by decide)
  have h2 := hx.1
  have h3 := hx.2
  have h4 := h x.toNatClampNeg (by omega)
  rw [← q] at h4
  omega

set_option maxHeartbeats 4000000 in
set_option maxRecDepth 100000 in
theorem a_here (l : Launch) (dC : Nat → ClassId) (dI : Nat → Nat → Nat) (h0 : Nat) (ad : Nat → Nat) (cid : Nat → ClassId) (sg : Nat → Int32) (gm : Nat → Nat → Int32) (lg : Nat → Nat → Int64) (x : Int32) (hI : MI sg gm) (hvx : iv 0 10 x) : MMi l dC dI yX13_here wm_X13_here ({ frames := 0, cells := 0, slots := 0, locals := 0 }) h0 ad cid [.int x] sg gm lg (fun r v => (iv (-1) 126 r) ∧ (r.toInt = -1 ∨ (sg 21).toInt + x.toInt < (sg 20).toInt) ∧ ((sg 20).toInt ≤ (sg 21).toInt + x.toInt ∨ 0 ≤ r.toInt) ∧ v = (sg, gm, lg)) := by
  intro sz
  refine Met.ofW (cc := cX13_here) (maxL := 2) (ret := (some .int)) (by decide) rfl ?_
  intro p e s m args below meth c s₁ B hml hv
  obtain ⟨rfl, hsz, hP, hK, hD0⟩ := hv
  have hx := B.exec
  have hb := B.bytes
  have hr := B.returns
  have hts := atoms_spec (ws := wm_X13_here) B.pre
  have htb := fun (w : Cond) (h : w ∈ tb) => hts w (List.mem_cons_of_mem _ h)
  have hown : s.vm.findClass RX13 = some m.cls := findClass_of_methodNamed B.named
  have hlocks := B.notSynchronized
  subst hsz
  have hD := hD0.self (sz := s.heap.size)
  generalize hAe : va_A (mW h0 ad cid sg gm lg) s.heap.size = A at hD ⊢
  have hA : ∀ q : Nat, s.heap.size ≤ q → A q := fun q h => by rw [← hAe]; exact Or.inr h
  have hS : va_S A s.heap s.heap [] := va_S.rf
  have hl := lv_entry ([.ref h0, .int x]) (n := 2) (Nat.le_of_ble_eq_true rfl)
  rw [lg_entry_eq]
  generalize (lg_sl ([.ref h0, .int x]) ++ List.replicate (2 - (lg_sl ([.ref h0, .int x])).length) Slot.unset).toArray = ls at hl ⊢
  have hl : lv_has ls 2 [(0, .ref h0), (1, .int x)] := hl
  have hj28 : ∀ (y0_28 : Int32) (_ : iv 0 10 x) (_ : iv (-1) 126 y0_28) (_ : y0_28.toInt = -1 ∨ (sg 21).toInt + x.toInt < (sg 20).toInt) (_ : (sg 20).toInt ≤ (sg 21).toInt + x.toInt ∨ 0 ≤ y0_28.toInt) (H : Heap) (locs : List Loc) (ls : Array Slot), va_P (dC, dI) vwCl (mW h0 ad cid sg gm lg) H → va_D A (mW h0 ad cid sg gm lg) → va_S A s.heap H locs → lv_has ls 2 [(0, .ref h0), (1, .int x)] → W p l e (headSpec wm_X13_here ({ frames := 0, cells := 0, slots := 0, locals := 0 })).room s m ([.ref h0, .int x] : List Value).toArray below meth c H locs 0 0 (MQ below (va_Qi (fun r v => (iv (-1) 126 r) ∧ (r.toInt = -1 ∨ (sg 21).toInt + x.toInt < (sg 20).toInt) ∧ ((sg 20).toInt ≤ (sg 21).toInt + x.toInt ∨ 0 ≤ r.toInt) ∧ v = (sg, gm, lg)) (MB dC dI h0 ad cid A) A) ([.ref h0, .int x] : List Value).toArray s 0 0 A) (F0 m 28 ls [.int y0_28]) := by
    intro y0_28 hsx1_28 hy0_28 hw hn H locs ls hP hD hS hl
    exact W.iret (v := y0_28) hx hb hr (fun t ht hW => ⟨⟨y0_28, (sg, gm, lg), rfl, ⟨hy0_28, (hw), (hn), rfl⟩, by rw [ht]; exact hP, va_K.moved hW.alike hK, hD⟩, hS.F ht⟩) hS.2.2 dX13_here_28
  refine lv_aload_n hx hb dX13_here_0 rfl (lv_at hl 0 rfl) ?_
  refine mr_get (v := .int (sg 21)) hx hb htb inX13 hown hK hP 21 (by decide) (htb _ kw_814) rfl dX13_here_1 ?_
  refine lv_iload_n hx hb dX13_here_4 rfl (lv_at hl 1 rfl) ?_
  refine lv_iadd hx hb dX13_here_5 ?_
  refine lv_topi (fun z_1 ez_1 => ?_)
  have hz_1 : iv 0 1211 z_1 := iv_of ez_1 (iv_add (show iv 0 1201 (sg 21) from MI_s hI 21) hvx (by decide))
  have tz_1 : z_1.toInt = ((sg 21) : Int32).toInt + (x : Int32).toInt := by rw [ez_1]; exact iv_addE (show iv 0 1201 (sg 21) from MI_s hI 21) hvx (by decide)
  refine lv_aload_n hx hb dX13_here_6 rfl (lv_at hl 0 rfl) ?_
  refine mr_get (v := .int (sg 20)) hx hb htb inX13 hown hK hP 20 (by decide) (htb _ kw_301) rfl dX13_here_7 ?_
  refine lv_icmp_ge (tgt := 27) hx hb dX13_here_10 (by decide) (fun c_2 => ?_) (fun c_2 => ?_)
  · have d_3 : ((sg 20) : Int32).toInt ≤ (z_1 : Int32).toInt := Int32.le_iff_toInt_le.mp c_2
    refine lv_iconst (v := (-1)) hx hb dX13_here_27 (by decide) ?_
    exact hj28 (-1) hvx (iv_w (iv_k (by decide) : iv (-1) (-1) (-1)) (by decide)) (Or.inl rfl) (Or.inl (by rw [← tz_1]; exact Int32.le_iff_toInt_le.mp c_2)) _ _ _ hP hD hS (lv_sub hl [0, 1] rfl)
  · have d_4 : (z_1 : Int32).toInt < ((sg 20) : Int32).toInt := Int32.lt_iff_toInt_lt.mp (i32_lt c_2)
    have h_5 : iv 0 1199 z_1 := iv_ltL (i32_lt c_2) hz_1 (show iv 0 1200 (sg 20) from MI_s hI 20) (by decide)
    have h_6 : iv 1 1200 (sg 20) := iv_ltR (i32_lt c_2) hz_1 (show iv 0 1200 (sg 20) from MI_s hI 20) (by decide)
    refine lv_aload_n hx hb dX13_here_13 rfl (lv_at hl 0 rfl) ?_
    refine mr_get (v := .ref (ad 19)) hx hb htb inX13 hown hK hP 19 (by decide) (htb _ kw_180) rfl dX13_here_14 ?_
    refine lv_aload_n hx hb dX13_here_17 rfl (lv_at hl 0 rfl) ?_
    refine mr_get (v := .int (sg 21)) hx hb htb inX13 hown hK hP 21 (by decide) (htb _ kw_814) rfl dX13_here_18 ?_
    refine lv_iload_n hx hb dX13_here_21 rfl (lv_at hl 1 rfl) ?_
    refine lv_iadd hx hb dX13_here_22 ?_
    refine lv_topi (fun z_7 ez_7 => ?_)
    obtain rfl : z_1 = z_7 := ez_1.trans ez_7.symm
    refine mr_bald hx hb hK hP 18 (k := 19) rfl rfl rfl (show vp_in z_1 1200 from (iv_in h_5 (by decide))) dX13_here_23 ?_
    refine lv_topi (fun z_8 ez_8 => ?_)
    have hz_8 : iv 0 126 z_8 := iv_of ez_8 (MI_a hI 19 h_5 (by decide))
    refine lv_goto (tgt := 28) hx hb dX13_here_24 (by decide) ?_
    exact hj28 z_8 hvx (iv_w hz_8 (by decide)) (Or.inr (by rw [← tz_1]; exact Int32.lt_iff_toInt_lt.mp (i32_lt c_2))) (Or.inr (hz_8).1) _ _ _ hP hD hS (lv_sub hl [0, 1] rfl)

set_option maxHeartbeats 4000000 in
set_option maxRecDepth 100000 in
theorem a_isSmall2 (l : Launch) (dC : Nat → ClassId) (dI : Nat → Nat → Nat) (h0 : Nat) (ad : Nat → Nat) (cid : Nat → ClassId) (sg : Nat → Int32) (gm : Nat → Nat → Int32) (lg : Nat → Nat → Int64) (x : Int32) (hI : MI sg gm) : MMi l dC dI yX13_isSmall wm_X13_isSmall ({ frames := 0, cells := 0, slots := 0, locals := 0 }) h0 ad cid [.int x] sg gm lg (fun r v => (iv 0 1 r) ∧ (r.toInt = 0 ∨ 97 ≤ x.toInt) ∧ v = (sg, gm, lg)) := by
  intro sz
  refine Met.ofW (cc := cX13_isSmall) (maxL := 2) (ret := (some .boolean)) (by decide) rfl ?_
  intro p e s m args below meth c s₁ B hml hv
  obtain ⟨rfl, hsz, hP, hK, hD0⟩ := hv
  have hx := B.exec
  have hb := B.bytes
  have hr := B.returns
  have hts := atoms_spec (ws := wm_X13_isSmall) B.pre
  have htb := fun (w : Cond) (h : w ∈ tb) => hts w (List.mem_cons_of_mem _ h)
  have hown : s.vm.findClass RX13 = some m.cls := findClass_of_methodNamed B.named
  have hlocks := B.notSynchronized
  subst hsz
  have hD := hD0.self (sz := s.heap.size)
  generalize hAe : va_A (mW h0 ad cid sg gm lg) s.heap.size = A at hD ⊢
  have hA : ∀ q : Nat, s.heap.size ≤ q → A q := fun q h => by rw [← hAe]; exact Or.inr h
  have hS : va_S A s.heap s.heap [] := va_S.rf
  have hl := lv_entry ([.ref h0, .int x]) (n := 2) (Nat.le_of_ble_eq_true rfl)
  rw [lg_entry_eq]
  generalize (lg_sl ([.ref h0, .int x]) ++ List.replicate (2 - (lg_sl ([.ref h0, .int x])).length) Slot.unset).toArray = ls at hl ⊢
  have hl : lv_has ls 2 [(0, .ref h0), (1, .int x)] := hl
  have hj17 : ∀ (y0_17 : Int32) (_ : iv 0 1 y0_17) (_ : y0_17.toInt = 0 ∨ 97 ≤ x.toInt) (H : Heap) (locs : List Loc) (ls : Array Slot), va_P (dC, dI) vwCl (mW h0 ad cid sg gm lg) H → va_D A (mW h0 ad cid sg gm lg) → va_S A s.heap H locs → lv_has ls 2 [(0, .ref h0), (1, .int x)] → W p l e (headSpec wm_X13_isSmall ({ frames := 0, cells := 0, slots := 0, locals := 0 })).room s m ([.ref h0, .int x] : List Value).toArray below meth c H locs 0 0 (MQ below (va_Qi (fun r v => (iv 0 1 r) ∧ (r.toInt = 0 ∨ 97 ≤ x.toInt) ∧ v = (sg, gm, lg)) (MB dC dI h0 ad cid A) A) ([.ref h0, .int x] : List Value).toArray s 0 0 A) (F0 m 17 ls [.int y0_17]) := by
    intro y0_17 hy0_17 sm H locs ls hP hD hS hl
    exact W.zret (v := y0_17) hx hb hr (iv_nb hy0_17) (fun t ht hW => ⟨⟨y0_17, (sg, gm, lg), rfl, ⟨hy0_17, (sm), rfl⟩, by rw [ht]; exact hP, va_K.moved hW.alike hK, hD⟩, hS.F ht⟩) hS.2.2 dX13_isSmall_17
  have hj16 : ∀ (H : Heap) (locs : List Loc) (ls : Array Slot), va_P (dC, dI) vwCl (mW h0 ad cid sg gm lg) H → va_D A (mW h0 ad cid sg gm lg) → va_S A s.heap H locs → lv_has ls 2 [(0, .ref h0), (1, .int x)] → W p l e (headSpec wm_X13_isSmall ({ frames := 0, cells := 0, slots := 0, locals := 0 })).room s m ([.ref h0, .int x] : List Value).toArray below meth c H locs 0 0 (MQ below (va_Qi (fun r v => (iv 0 1 r) ∧ (r.toInt = 0 ∨ 97 ≤ x.toInt) ∧ v = (sg, gm, lg)) (MB dC dI h0 ad cid A) A) ([.ref h0, .int x] : List Value).toArray s 0 0 A) (F0 m 16 ls []) := by
    intro  H locs ls hP hD hS hl
    refine lv_iconst (v := 0) hx hb dX13_isSmall_16 (by decide) ?_
    exact hj17 0 (iv_w (iv_k (by decide) : iv 0 0 0) (by decide)) (Or.inl rfl) _ _ _ hP hD hS (lv_sub hl [0, 1] rfl)
  refine lv_iload_n hx hb dX13_isSmall_0 rfl (lv_at hl 1 rfl) ?_
  refine lv_bipush (v := 97) hx hb dX13_isSmall_1 (by decide) ?_
  refine lv_icmp_lt (tgt := 16) hx hb dX13_isSmall_3 (by decide) (fun c_1 => ?_) (fun c_1 => ?_)
  · have h_2 : iv (-2147483648) 96 x := iv_ltL c_1 (iv_all x) (iv_k (by decide) : iv 97 97 97) (by decide)
    exact hj16 _ _ _ hP hD hS (lv_sub hl [0, 1] rfl)
  · have h_3 : iv 97 2147483647 x := iv_leR (i32_ge c_1) (iv_k (by decide) : iv 97 97 97) (iv_all x) (by decide)
    refine lv_iload_n hx hb dX13_isSmall_6 rfl (lv_at hl 1 rfl) ?_
    refine lv_bipush (v := 122) hx hb dX13_isSmall_7 (by decide) ?_
    refine lv_icmp_gt (tgt := 16) hx hb dX13_isSmall_9 (by decide) (fun c_4 => ?_) (fun c_4 => ?_)
    · have h_5 : iv 123 2147483647 x := iv_ltR c_4 (iv_k (by decide) : iv 122 122 122) h_3 (by decide)
      exact hj16 _ _ _ hP hD hS (lv_sub hl [0, 1] rfl)
    · have h_6 : iv 97 122 x := iv_leL (i32_ge c_4) h_3 (iv_k (by decide) : iv 122 122 122) (by decide)
      refine lv_iconst (v := 1) hx hb dX13_isSmall_12 (by decide) ?_
      refine lv_goto (tgt := 17) hx hb dX13_isSmall_13 (by decide) ?_
      exact hj17 1 (iv_w (iv_k (by decide) : iv 1 1 1) (by decide)) (Or.inr (by have := i32_0; have := i32_1; have := i32_2; have := i32_m1; have := (h_6).1; have := (h_6).2; omega)) _ _ _ hP hD hS (lv_sub hl [0, 1] rfl)

set_option maxHeartbeats 4000000 in
set_option maxRecDepth 100000 in
theorem a_bad2 (l : Launch) (dC : Nat → ClassId) (dI : Nat → Nat → Nat) (h0 : Nat) (ad : Nat → Nat) (cid : Nat → ClassId) (sg : Nat → Int32) (gm : Nat → Nat → Int32) (lg : Nat → Nat → Int64) (x : Int32) (hI : MI sg gm) : MMv l dC dI yX13_bad wm_X13_bad ({ frames := 0, cells := 0, slots := 0, locals := 0 }) h0 ad cid [.int x] sg gm lg (fun v => ∃ (sg2 : Nat → Int32) (gm2 : Nat → Nat → Int32) (lg2 : Nat → Nat → Int64), v = (sg2, gm2, lg2) ∧ MI sg2 gm2 ∧ KS [22, 23] sg sg2 ∧ KS [] gm gm2 ∧ KS [] lg lg2 ∧ (1 ≤ (sg2 22).toInt) ∧ ((sg 22).toInt ≤ (sg2 22).toInt)) := by
  intro sz
  refine Met.ofW (cc := cX13_bad) (maxL := 2) (ret := none) (by decide) rfl ?_
  intro p e s m args below meth c s₁ B hml hv
  obtain ⟨rfl, hsz, hP, hK, hD0⟩ := hv
  have hx := B.exec
  have hb := B.bytes
  have hr := B.returns
  have hts := atoms_spec (ws := wm_X13_bad) B.pre
  have htb := fun (w : Cond) (h : w ∈ tb) => hts w (List.mem_cons_of_mem _ h)
  have hown : s.vm.findClass RX13 = some m.cls := findClass_of_methodNamed B.named
  have hlocks := B.notSynchronized
  subst hsz
  have hD := hD0.self (sz := s.heap.size)
  generalize hAe : va_A (mW h0 ad cid sg gm lg) s.heap.size = A at hD ⊢
  have hA : ∀ q : Nat, s.heap.size ≤ q → A q := fun q h => by rw [← hAe]; exact Or.inr h
  have hS : va_S A s.heap s.heap [] := va_S.rf
  have hl := lv_entry ([.ref h0, .int x]) (n := 2) (Nat.le_of_ble_eq_true rfl)
  rw [lg_entry_eq]
  generalize (lg_sl ([.ref h0, .int x]) ++ List.replicate (2 - (lg_sl ([.ref h0, .int x])).length) Slot.unset).toArray = ls at hl ⊢
  have hl : lv_has ls 2 [(0, .ref h0), (1, .int x)] := hl
  refine lv_aload_n hx hb dX13_bad_0 rfl (lv_at hl 0 rfl) ?_
  refine mr_get (v := .int (sg 22)) hx hb htb inX13 hown hK hP 22 (by decide) (htb _ kw_813) rfl dX13_bad_1 ?_
  refine lv_if_eq (tgt := 8) hx hb dX13_bad_4 (by decide) (fun c_1 => ?_) (fun c_1 => ?_)
  · have h_2 : iv 0 0 (sg 22) := iv_eq c_1 (show iv 0 3 (sg 22) from MI_s hI 22) (iv_k (by decide) : iv 0 0 0) (by decide)
    refine lv_aload_n hx hb dX13_bad_8 rfl (lv_at hl 0 rfl) ?_
    refine lv_iconst (v := 1) hx hb dX13_bad_9 (by decide) ?_
    refine ma_put (x := 1) hx hb htb inX13 hown hK hP hD hS 22 (by decide) (by decide) (htb _ kw_813) rfl rfl rfl dX13_bad_10 (fun sg_3 H locs esg_3 hP hD hS => ?_)
    have hI_sg_3 := MI_put hI esg_3 (iv_k (by decide) : iv 1 1 1) (by decide)
    refine lv_aload_n hx hb dX13_bad_13 rfl (lv_at hl 0 rfl) ?_
    refine lv_iload_n hx hb dX13_bad_14 rfl (lv_at hl 1 rfl) ?_
    refine ma_put (x := x) hx hb htb inX13 hown hK hP hD hS 23 (by decide) (by decide) (htb _ kw_181) rfl rfl rfl dX13_bad_15 (fun sg_4 H locs esg_4 hP hD hS => ?_)
    have hI_sg_4 := MI_put hI_sg_3 esg_4 (iv_all x) (by decide)
    exact W.vret hx hb hr (fun t ht hW => ⟨⟨(sg_4, gm, lg), rfl, ⟨sg_4, gm, lg, rfl, hI_sg_4, (KS_up (KS_up KS_rf esg_3 (by decide)) esg_4 (by decide)), KS_rf, KS_rf, (by have := i32_0; have := i32_1; have := i32_2; have := i32_m1; have := congrArg Int32.toInt (show sg_4 20 = sg_3 20 from up_ne esg_4 (by decide)); have := congrArg Int32.toInt (show sg_3 20 = sg 20 from up_ne esg_3 (by decide)); have := (show iv 0 1200 (sg 20) from MI_s hI 20).1; have := (show iv 0 1200 (sg 20) from MI_s hI 20).2; have := congrArg Int32.toInt (show sg_4 21 = sg_3 21 from up_ne esg_4 (by decide)); have := congrArg Int32.toInt (show sg_3 21 = sg 21 from up_ne esg_3 (by decide)); have := (show iv 0 1201 (sg 21) from MI_s hI 21).1; have := (show iv 0 1201 (sg 21) from MI_s hI 21).2; have := congrArg Int32.toInt (show sg_4 22 = sg_3 22 from up_ne esg_4 (by decide)); have : (sg_3 22).toInt = 1 := (by rw [up_at esg_3]; rfl); have := congrArg Int32.toInt (show sg_4 24 = sg_3 24 from up_ne esg_4 (by decide)); have := congrArg Int32.toInt (show sg_3 24 = sg 24 from up_ne esg_3 (by decide)); have := (show iv 0 80 (sg 24) from MI_s hI 24).1; have := (show iv 0 80 (sg 24) from MI_s hI 24).2; have := congrArg Int32.toInt (show sg_4 25 = sg_3 25 from up_ne esg_4 (by decide)); have := congrArg Int32.toInt (show sg_3 25 = sg 25 from up_ne esg_3 (by decide)); have := (show iv 0 1201 (sg 25) from MI_s hI 25).1; have := (show iv 0 1201 (sg 25) from MI_s hI 25).2; have := (h_2).1; have := (h_2).2; omega), (by have := i32_0; have := i32_1; have := i32_2; have := i32_m1; have := congrArg Int32.toInt (show sg_4 20 = sg_3 20 from up_ne esg_4 (by decide)); have := congrArg Int32.toInt (show sg_3 20 = sg 20 from up_ne esg_3 (by decide)); have := (show iv 0 1200 (sg 20) from MI_s hI 20).1; have := (show iv 0 1200 (sg 20) from MI_s hI 20).2; have := congrArg Int32.toInt (show sg_4 21 = sg_3 21 from up_ne esg_4 (by decide)); have := congrArg Int32.toInt (show sg_3 21 = sg 21 from up_ne esg_3 (by decide)); have := (show iv 0 1201 (sg 21) from MI_s hI 21).1; have := (show iv 0 1201 (sg 21) from MI_s hI 21).2; have := congrArg Int32.toInt (show sg_4 22 = sg_3 22 from up_ne esg_4 (by decide)); have : (sg_3 22).toInt = 1 := (by rw [up_at esg_3]; rfl); have := congrArg Int32.toInt (show sg_4 24 = sg_3 24 from up_ne esg_4 (by decide)); have := congrArg Int32.toInt (show sg_3 24 = sg 24 from up_ne esg_3 (by decide)); have := (show iv 0 80 (sg 24) from MI_s hI 24).1; have := (show iv 0 80 (sg 24) from MI_s hI 24).2; have := congrArg Int32.toInt (show sg_4 25 = sg_3 25 from up_ne esg_4 (by decide)); have := congrArg Int32.toInt (show sg_3 25 = sg 25 from up_ne esg_3 (by decide)); have := (show iv 0 1201 (sg 25) from MI_s hI 25).1; have := (show iv 0 1201 (sg 25) from MI_s hI 25).2; have := (h_2).1; have := (h_2).2; omega)⟩, by rw [ht]; exact hP, va_K.moved hW.alike hK, hD⟩, hS.F ht⟩) hS.2.2 dX13_bad_18
  · have h_5 : iv 1 3 (sg 22) := iv_neL c_1 (show iv 0 3 (sg 22) from MI_s hI 22) (by decide)
    exact W.vret hx hb hr (fun t ht hW => ⟨⟨(sg, gm, lg), rfl, ⟨sg, gm, lg, rfl, hI, KS_rf, KS_rf, KS_rf, (by have := i32_0; have := i32_1; have := i32_2; have := i32_m1; have := (show iv 0 1200 (sg 20) from MI_s hI 20).1; have := (show iv 0 1200 (sg 20) from MI_s hI 20).2; have := (show iv 0 1201 (sg 21) from MI_s hI 21).1; have := (show iv 0 1201 (sg 21) from MI_s hI 21).2; have := (show iv 0 3 (sg 22) from MI_s hI 22).1; have := (show iv 0 3 (sg 22) from MI_s hI 22).2; have := (show iv 0 80 (sg 24) from MI_s hI 24).1; have := (show iv 0 80 (sg 24) from MI_s hI 24).2; have := (show iv 0 1201 (sg 25) from MI_s hI 25).1; have := (show iv 0 1201 (sg 25) from MI_s hI 25).2; have := (h_5).1; have := (h_5).2; omega), (by have := i32_0; have := i32_1; have := i32_2; have := i32_m1; have := (show iv 0 1200 (sg 20) from MI_s hI 20).1; have := (show iv 0 1200 (sg 20) from MI_s hI 20).2; have := (show iv 0 1201 (sg 21) from MI_s hI 21).1; have := (show iv 0 1201 (sg 21) from MI_s hI 21).2; have := (show iv 0 3 (sg 22) from MI_s hI 22).1; have := (show iv 0 3 (sg 22) from MI_s hI 22).2; have := (show iv 0 80 (sg 24) from MI_s hI 24).1; have := (show iv 0 80 (sg 24) from MI_s hI 24).2; have := (show iv 0 1201 (sg 25) from MI_s hI 25).1; have := (show iv 0 1201 (sg 25) from MI_s hI 25).2; have := (h_5).1; have := (h_5).2; omega)⟩, by rw [ht]; exact hP, va_K.moved hW.alike hK, hD⟩, hS.F ht⟩) hS.2.2 dX13_bad_7
end
section
/-- v holds n letters -/
def NB (v : Int64) (n : Int32) : Prop := (0 ≤ v.toInt ∧ 2 * v.toInt < (256 : Int) ^ n.toInt.toNat) ∧ 0 ≤ n.toInt ∧ n.toInt ≤ 8
theorem NB_0 : NB 0 0 := ⟨⟨by decide, by decide⟩, by decide, by decide⟩
theorem l_nat {v : Int64} (h : 0 ≤ v.toInt) : (v.toBitVec.toNat : Int) = v.toInt := by
  have h1 : v.toBitVec.toInt = v.toInt := rfl
  rw [← h1] at h ⊢
  have h2 := BitVec.toInt_eq_toNat_cond v.toBitVec
  have h3 := v.toBitVec.isLt
  split at h2 <;> omega
theorem l_int {v : Int64} (h : v.toBitVec.toNat < 2 ^ 63) : v.toInt = (v.toBitVec.toNat : Int) := by
  have h1 : v.toBitVec.toInt = v.toInt := rfl
  rw [← h1]
  have h2 := BitVec.toInt_eq_toNat_cond v.toBitVec
  split at h2 <;> omega
theorem sh8 : ((8 : Int32).toInt64 &&& 63) = 8 := by decide
theorem lor8 {v : Int64} {x : Int32} (h0 : 0 ≤ v.toInt) (h1 : v.toInt < 2 ^ 55) (c0 : 0 ≤ x.toInt) (c1 : x.toInt ≤ 126) : ((v <<< ((8 : Int32).toInt64 &&& 63)) ||| x.toInt64).toInt = 256 * v.toInt + x.toInt := by
  rw [sh8]
  have k1 := l_nat h0
  have q0 : x.toInt64.toInt = x.toInt := Int32.toInt_toInt64 x
  have k2 := l_nat (v := x.toInt64) (by rw [q0]; exact c0)
  have k3 : ((v <<< (8 : Int64)) ||| x.toInt64).toBitVec.toNat = 256 * v.toBitVec.toNat + x.toInt64.toBitVec.toNat := by
    show ((v <<< (8 : Int64)).toBitVec ||| x.toInt64.toBitVec).toNat = _
    rw [BitVec.toNat_or]
    have k4 : (v <<< (8 : Int64)).toBitVec.toNat = v.toBitVec.toNat <<< 8 := by
      rw [Int64.toBitVec_shiftLeft]
      show (v.toBitVec <<< 8).toNat = _
      rw [BitVec.toNat_shiftLeft, Nat.shiftLeft_eq]
      have : v.toBitVec.toNat < 2 ^ 55 := by omega
      omega
    rw [k4, ← Nat.shiftLeft_add_eq_or_of_lt (show x.toInt64.toBitVec.toNat < 2 ^ 8 by omega), Nat.shiftLeft_eq]
    omega
  rw [l_int (by omega), k3]
  omega
theorem NB_s {v v1 w1 w2 : Int64} {n n1 x : Int32} (h : NB v n) (h7 : n.toInt ≤ 7) (tn : n1.toInt = n.toInt + 1) (c0 : 0 ≤ x.toInt) (c1 : x.toInt ≤ 126) (e1 : w1 = v <<< ((8 : Int32).toInt64 &&& 63)) (e2 : w2 = x.toInt64) (e3 : v1 = w1 ||| w2) : NB v1 n1 := by
  subst e1 e2 e3
  obtain ⟨⟨h0, h1⟩, h2, h3⟩ := h
  obtain ⟨j, hj⟩ : ∃ j : Nat, n.toInt = j := ⟨n.toInt.toNat, by omega⟩
  have hj2 : n.toInt.toNat = j := by omega
  have hj3 : n1.toInt.toNat = j + 1 := by omega
  rw [hj2] at h1
  have hp : (256 : Int) ^ j ≤ 256 ^ 7 := by
    rcases (show j = 0 ∨ j = 1 ∨ j = 2 ∨ j = 3 ∨ j = 4 ∨ j = 5 ∨ j = 6 ∨ j = 7 by omega) with h9 | h9 | h9 | h9 | h9 | h9 | h9 | h9 <;> rw [h9] <;> decide
  have hv : v.toInt < 2 ^ 55 := by
    have : (256 : Int) ^ 7 = 2 ^ 56 := by decide
    omega
  refine ⟨⟨?_, ?_⟩, by omega, by omega⟩
  · rw [lor8 h0 hv c0 c1]; omega
  · rw [lor8 h0 hv c0 c1, hj3, Int.pow_succ]
    omega
theorem shr8 {v w : Int64} (h0 : 0 ≤ v.toInt) (hz : ¬ v = 0) (h : w = v >>> ((8 : Int32).toInt64 &&& 63)) : 0 ≤ w.toInt ∧ w.toInt.toNat < v.toInt.toNat := by
  subst h
  rw [sh8]
  have k1 := l_nat h0
  have k4 : (v >>> (8 : Int64)).toBitVec.toNat = v.toBitVec.toNat / 256 := by
    rw [Int64.toBitVec_shiftRight]
    show (v.toBitVec.sshiftRight 8).toNat = _
    have hm : v.toBitVec.msb = false := by
      rw [BitVec.msb_eq_decide]
      have := v.toBitVec.isLt
      have h5 := Int64.toInt_lt v
      exact decide_eq_false (by omega)
    rw [BitVec.sshiftRight_eq_of_msb_false hm, BitVec.toNat_ushiftRight, Nat.shiftRight_eq_div_pow]
  have h6 : v.toInt ≠ 0 := fun k => hz (Int64.toInt_inj.mp k)
  have h7 := Int64.toInt_lt v
  have k5 : (v >>> (8 : Int64)).toInt = ((v >>> (8 : Int64)).toBitVec.toNat : Int) := l_int (by omega)
  rw [k5, k4]
  omega
end
