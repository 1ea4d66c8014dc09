section
def mK : List Nat := [0, 1, 2, 3, 4, 6, 7, 8, 9, 10, 11, 12, 13, 14, 15, 16, 17, 18, 19, 26, 27, 28, 29, 30, 31, 32, 33, 34, 35, 36, 37, 38, 39, 42, 43, 44, 45, 46, 47, 53, 54, 55, 56, 57, 58, 59, 60, 61, 62, 64, 65, 66, 67, 68, 69, 70, 71, 72, 73, 75]
def mArr (k : Nat) : Bool := mK.contains k
def mLong (k : Nat) : Bool := [0, 1, 2, 34, 35].contains k
def mLen (k : Nat) : Nat := match k with
  | 0 => 10
  | 1 => 11
  | 2 => 5
  | 3 => 5
  | 4 => 5
  | 6 => 8
  | 7 => 8
  | 8 => 32
  | 9 => 96
  | 10 => 8
  | 11 => 64
  | 12 => 64
  | 13 => 8
  | 14 => 32
  | 15 => 32
  | 16 => 32
  | 17 => 96
  | 18 => 32
  | 19 => 1200
  | 26 => 80
  | 27 => 80
  | 28 => 80
  | 29 => 80
  | 30 => 80
  | 31 => 80
  | 32 => 80
  | 33 => 80
  | 34 => 80
  | 35 => 960
  | 36 => 960
  | 37 => 960
  | 38 => 2000
  | 39 => 1920
  | 42 => 80
  | 43 => 80
  | 44 => 80
  | 45 => 2080
  | 46 => 80
  | 47 => 2080
  | 53 => 60
  | 54 => 60
  | 55 => 400
  | 56 => 400
  | 57 => 400
  | 58 => 400
  | 59 => 80
  | 60 => 80
  | 61 => 80
  | 62 => 80
  | 64 => 81
  | 65 => 81
  | 66 => 81
  | 67 => 81
  | 68 => 81
  | 69 => 81
  | 70 => 405
  | 71 => 405
  | 72 => 2430
  | 73 => 2430
  | 75 => 4
  | _ => 0
def mTy (k : Nat) : FieldType := match k with
  | 0 => .long
  | 1 => .long
  | 2 => .long
  | 3 => .int
  | 4 => .int
  | 6 => .int
  | 7 => .int
  | 8 => .int
  | 9 => .int
  | 10 => .int
  | 11 => .int
  | 12 => .int
  | 13 => .int
  | 14 => .int
  | 15 => .int
  | 16 => .int
  | 17 => .int
  | 18 => .boolean
  | 19 => .byte
  | 26 => .int
  | 27 => .int
  | 28 => .int
  | 29 => .int
  | 30 => .int
  | 31 => .int
  | 32 => .int
  | 33 => .int
  | 34 => .long
  | 35 => .long
  | 36 => .int
  | 37 => .int
  | 38 => .byte
  | 39 => .byte
  | 42 => .int
  | 43 => .int
  | 44 => .int
  | 45 => .int
  | 46 => .int
  | 47 => .int
  | 53 => .int
  | 54 => .int
  | 55 => .int
  | 56 => .int
  | 57 => .int
  | 58 => .int
  | 59 => .int
  | 60 => .int
  | 61 => .boolean
  | 62 => .boolean
  | 64 => .int
  | 65 => .int
  | 66 => .int
  | 67 => .int
  | 68 => .int
  | 69 => .int
  | 70 => .int
  | 71 => .int
  | 72 => .int
  | 73 => .int
  | 75 => .int
  | _ => .int
def mfv (ad : Nat → Nat) (sg : Nat → Int32) (k : Nat) : Value := if mArr k then .ref (ad k) else .int (sg k)
def mfs (ad : Nat → Nat) (sg : Nat → Int32) : List Value := (List.range 77).map (mfv ad sg)
def mE9 (cid : Nat → ClassId) (gm : Nat → Nat → Int32) (lg : Nat → Nat → Int64) (k : Nat) : va_E := .inl (cid k, mLen k, if mLong k then .inr (.inl (lg k)) else .inl (gm k))
def mW (h0 : Nat) (ad : Nat → Nat) (cid : Nat → ClassId) (sg : Nat → Int32) (gm : Nat → Nat → Int32) (lg : Nat → Nat → Int64) : va_W := (h0, .inr (12, mfs ad sg)) :: mK.map (fun k => (ad k, mE9 cid gm lg k))
def mT (cid : Nat → ClassId) : List (ClassId × FieldType) := mK.map (fun k => (cid k, mTy k))
theorem mK_inj : ∀ i, i < 60 → ∀ j, j < 60 → mK[i]? = mK[j]? → i = j := by decide +kernel
theorem mK_len : mK.length = 60 := by decide
theorem mfs_get {ad : Nat → Nat} {sg : Nat → Int32} {k : Nat} (hk : k < 77) : (mfs ad sg)[k]? = some (mfv ad sg k) := by
  unfold mfs
  rw [List.getElem?_map, List.getElem?_range hk]
  rfl
theorem mfs_set {ad : Nat → Nat} {sg : Nat → Int32} {k : Nat} (hk : k < 77) (hm : mArr k = false) (x : Int32) : (mfs ad sg).set k (.int x) = mfs ad (va_up sg k x) := by
  apply List.ext_getElem?
  intro j
  by_cases hj : j = k
  · subst hj
    rw [List.getElem?_set_self (by unfold mfs; rw [List.length_map, List.length_range]; exact hk), mfs_get hk]
    unfold mfv
    rw [hm, va_up_self]
    rfl
  · rw [List.getElem?_set_ne (Ne.symm hj)]
    by_cases h7 : j < 77
    · rw [mfs_get h7, mfs_get h7]
      unfold mfv
      rw [va_up_ne sg x hj]
    · unfold mfs
      rw [List.getElem?_eq_none (by rw [List.length_map, List.length_range]; omega), List.getElem?_eq_none (by rw [List.length_map, List.length_range]; omega)]
section MR
variable {p : Program} {l : Launch} {e : Env} {R : Room} {s : State} {m : MethodId} {args : Array Value} {below : List Frame} {meth : Method} {c : Code} {H : Heap} {locs : List Loc} {cells slots : Nat} {Q : State → Prop} {cc : ByteArray} {pc : Nat} {ls : Array Slot} {rest : List Value} {A : Nat → Prop} {H0 : Heap}
variable {dC : Nat → ClassId} {dI : Nat → Nat → Nat} {h0 : Nat} {ad : Nat → Nat} {cid : Nat → ClassId} {sg : Nat → Int32} {gm : Nat → Nat → Int32} {lg : Nat → Nat → Int64} {Ts : List Cond} {own : String} {index : Nat}
theorem mW_pos {i k : Nat} (hi : mK[i]? = some k) : (mW h0 ad cid sg gm lg)[i + 1]? = some (ad k, mE9 cid gm lg k) := by
  unfold mW
  rw [List.getElem?_cons_succ, List.getElem?_map, hi]
  rfl
theorem mT_pos {i k : Nat} (hi : mK[i]? = some k) : (mT cid)[i]? = some (cid k, mTy k) := by
  unfold mT
  rw [List.getElem?_map, hi]
  rfl
theorem mW_set {i k : Nat} (hi : mK[i]? = some k) (hl : mLong k = false) (g : Nat → Int32) : (mW h0 ad cid sg gm lg).set (i + 1) (ad k, .inl (cid k, mLen k, .inl g)) = mW h0 ad cid sg (va_up gm k g) lg := by
  unfold mW
  rw [List.set_cons_succ]
  congr 1
  have hi6 : i < mK.length := (List.getElem?_eq_some_iff.mp hi).1
  apply List.ext_getElem?
  intro j
  by_cases hj : j = i
  · subst hj
    rw [List.getElem?_set_self (by rw [List.length_map]; exact hi6), List.getElem?_map, hi]
    show some (ad k, Sum.inl (cid k, mLen k, Sum.inl g)) = some (ad k, mE9 cid (va_up gm k g) lg k)
    unfold mE9
    rw [hl, va_up_self]
    rfl
  · rw [List.getElem?_set_ne (Ne.symm hj), List.getElem?_map, List.getElem?_map]
    cases hb : mK[j]? with
    | none => rfl
    | some k2 =>
      have hj6 : j < mK.length := (List.getElem?_eq_some_iff.mp hb).1
      have hne : k2 ≠ k := fun h2 => hj (mK_inj j (by rw [← mK_len]; exact hj6) i (by rw [← mK_len]; exact hi6) (by rw [hb, hi, h2]))
      show some (ad k2, mE9 cid gm lg k2) = some (ad k2, mE9 cid (va_up gm k g) lg k2)
      unfold mE9
      rw [va_up_ne gm g hne]
theorem mW_setL {i k : Nat} (hi : mK[i]? = some k) (hl : mLong k = true) (g : Nat → Int64) : (mW h0 ad cid sg gm lg).set (i + 1) (ad k, .inl (cid k, mLen k, .inr (.inl g))) = mW h0 ad cid sg gm (va_up lg k g) := by
  unfold mW
  rw [List.set_cons_succ]
  congr 1
  have hi6 : i < mK.length := (List.getElem?_eq_some_iff.mp hi).1
  apply List.ext_getElem?
  intro j
  by_cases hj : j = i
  · subst hj
    rw [List.getElem?_set_self (by rw [List.length_map]; exact hi6), List.getElem?_map, hi]
    show some (ad k, Sum.inl (cid k, mLen k, Sum.inr (Sum.inl g))) = some (ad k, mE9 cid gm (va_up lg k g) k)
    unfold mE9
    rw [hl, va_up_self]
    rfl
  · rw [List.getElem?_set_ne (Ne.symm hj), List.getElem?_map, List.getElem?_map]
    cases hb : mK[j]? with
    | none => rfl
    | some k2 =>
      have hj6 : j < mK.length := (List.getElem?_eq_some_iff.mp hb).1
      have hne : k2 ≠ k := fun h2 => hj (mK_inj j (by rw [← mK_len]; exact hj6) i (by rw [← mK_len]; exact hi6) (by rw [hb, hi, h2]))
      show some (ad k2, mE9 cid gm lg k2) = some (ad k2, mE9 cid gm (va_up lg k g) k2)
      unfold mE9
      rw [va_up_ne lg g hne]
theorem mr_get (hexec : p.tables.exec = Jvm.exec) (hb : c.code = cc) (hts : ∀ w ∈ Ts, w.before args s = true) (hin : ∀ w ∈ u_ws RX13 TX13 77, w ∈ Ts) (hown : s.vm.findClass own = some m.cls) (hK : va_K (dC, dI) vwCl (mT cid) s) (hP : va_P (dC, dI) vwCl (mW h0 ad cid sg gm lg) H) (k : Nat) (hk : k < 77) (hlink : (Cond.fieldLink own index (TX13 k).1 (TX13 k).2.1 (TX13 k).2.2.1).before args s = true) {v : Value} (hv : mfv ad sg k = v) (hdg : decode cc pc = .ok (.getfield index, 3))
    (kk : W p l e R s m args below meth c H locs cells slots Q (F0 m (pc + 3) ls (v :: rest))) : W p l e R s m args below meth c H locs cells slots Q (F0 m pc ls (.ref h0 :: rest)) :=
  va_get (D := (dC, dI)) (ci := 12) (C := RX13) (T := TX13) (N := 77) hexec hb hts hin hown hK hP 0 rfl rfl k hk hlink (fun _ h9 => h9) (by rw [mfs_get hk, hv]) hdg kk
theorem mr_put (hexec : p.tables.exec = Jvm.exec) (hb : c.code = cc) (hts : ∀ w ∈ Ts, w.before args s = true) (hin : ∀ w ∈ u_ws RX13 TX13 77, w ∈ Ts) (hown : s.vm.findClass own = some m.cls) (hK : va_K (dC, dI) vwCl (mT cid) s) (hP : va_P (dC, dI) vwCl (mW h0 ad cid sg gm lg) H) (hD : va_D A (mW h0 ad cid sg gm lg)) (hS : va_S A H0 H locs) (k : Nat) (hk : k < 77) (hm : mArr k = false) (hlink : (Cond.fieldLink own index (TX13 k).1 (TX13 k).2.1 (TX13 k).2.2.1).before args s = true) (hfin : (TX13 k).2.2.2 = false) {x : Int32} (hn : narrow (tyX13 k) (.int x) = .int x) (hfit : fits (tyX13 k) (.int x) = true) (hdg : decode cc pc = .ok (.putfield index, 3))
    (kk : ∀ (H1 : Heap) (locs1 : List Loc), va_P (dC, dI) vwCl (mW h0 ad cid (va_up sg k x) gm lg) H1 → va_D A (mW h0 ad cid (va_up sg k x) gm lg) → va_S A H0 H1 locs1 → W p l e R s m args below meth c H1 locs1 cells slots Q (F0 m (pc + 3) ls rest)) : W p l e R s m args below meth c H locs cells slots Q (F0 m pc ls (.int x :: .ref h0 :: rest)) :=
  va_put (D := (dC, dI)) (ci := 12) (v := .int x) (ty := tyX13 k) (C := RX13) (T := TX13) (N := 77) hexec hb hts hin tyX13 tyX13_ok nmX13 hown hK hP hD hS 0 rfl rfl k hk hlink (fun _ h9 => h9) hfin (tyX13_ok k hk) hn hfit (by unfold mfs; rw [List.length_map, List.length_range]; exact hk) hdg
    (fun H1 locs1 g1 g2 g3 => kk H1 locs1 (by rw [mfs_set hk hm] at g1; exact g1) (by rw [mfs_set hk hm] at g2; exact g2) g3)
theorem mr_iald (hexec : p.tables.exec = Jvm.exec) (hb : c.code = cc) (hK : va_K (dC, dI) vwCl (mT cid) s) (hP : va_P (dC, dI) vwCl (mW h0 ad cid sg gm lg) H) (i : Nat) {k : Nat} (hi : mK[i]? = some k) (hl : mLong k = false) (ht : mTy k = .int) {x : Int32} (hin : vp_in x (mLen k)) (hdg : decode cc pc = .ok (.iaload, 1))
    (kk : W p l e R s m args below meth c H locs cells slots Q (F0 m (pc + 1) ls (.int (gm k x.toNatClampNeg) :: rest))) : W p l e R s m args below meth c H locs cells slots Q (F0 m pc ls (.int x :: .ref (ad k) :: rest)) :=
  va_iald (D := (dC, dI)) hexec hb hK hP (i + 1) i (by rw [mW_pos hi]; unfold mE9; rw [hl]; rfl) (by rw [mT_pos hi, ht]) hin hdg kk
theorem mr_zald (hexec : p.tables.exec = Jvm.exec) (hb : c.code = cc) (hK : va_K (dC, dI) vwCl (mT cid) s) (hP : va_P (dC, dI) vwCl (mW h0 ad cid sg gm lg) H) (i : Nat) {k : Nat} (hi : mK[i]? = some k) (hl : mLong k = false) (ht : mTy k = .boolean) {x : Int32} (hin : vp_in x (mLen k)) (hdg : decode cc pc = .ok (.baload, 1))
    (kk : W p l e R s m args below meth c H locs cells slots Q (F0 m (pc + 1) ls (.int (gm k x.toNatClampNeg) :: rest))) : W p l e R s m args below meth c H locs cells slots Q (F0 m pc ls (.int x :: .ref (ad k) :: rest)) :=
  va_zald (D := (dC, dI)) hexec hb hK hP (i + 1) i (by rw [mW_pos hi]; unfold mE9; rw [hl]; rfl) (by rw [mT_pos hi, ht]) hin hdg kk
theorem mr_bald (hexec : p.tables.exec = Jvm.exec) (hb : c.code = cc) (hK : va_K (dC, dI) vwCl (mT cid) s) (hP : va_P (dC, dI) vwCl (mW h0 ad cid sg gm lg) H) (i : Nat) {k : Nat} (hi : mK[i]? = some k) (hl : mLong k = false) (ht : mTy k = .byte) {x : Int32} (hin : vp_in x (mLen k)) (hdg : decode cc pc = .ok (.baload, 1))
    (kk : W p l e R s m args below meth c H locs cells slots Q (F0 m (pc + 1) ls (.int (gm k x.toNatClampNeg) :: rest))) : W p l e R s m args below meth c H locs cells slots Q (F0 m pc ls (.int x :: .ref (ad k) :: rest)) :=
  va_bald (D := (dC, dI)) hexec hb hK hP (i + 1) i (by rw [mW_pos hi]; unfold mE9; rw [hl]; rfl) (by rw [mT_pos hi, ht]) hin hdg kk
theorem mr_lald (hexec : p.tables.exec = Jvm.exec) (hb : c.code = cc) (hK : va_K (dC, dI) vwCl (mT cid) s) (hP : va_P (dC, dI) vwCl (mW h0 ad cid sg gm lg) H) (i : Nat) {k : Nat} (hi : mK[i]? = some k) (hl : mLong k = true) (ht : mTy k = .long) {x : Int32} (hin : vp_in x (mLen k)) (hdg : decode cc pc = .ok (.laload, 1))
    (kk : W p l e R s m args below meth c H locs cells slots Q (F0 m (pc + 1) ls (.long (lg k x.toNatClampNeg) :: rest))) : W p l e R s m args below meth c H locs cells slots Q (F0 m pc ls (.int x :: .ref (ad k) :: rest)) :=
  va_lald (D := (dC, dI)) hexec hb hK hP (i + 1) i (by rw [mW_pos hi]; unfold mE9; rw [hl]; rfl) (by rw [mT_pos hi, ht]) hin hdg kk
theorem mr_iast (hexec : p.tables.exec = Jvm.exec) (hb : c.code = cc) (hK : va_K (dC, dI) vwCl (mT cid) s) (hP : va_P (dC, dI) vwCl (mW h0 ad cid sg gm lg) H) (hD : va_D A (mW h0 ad cid sg gm lg)) (hS : va_S A H0 H locs) (i : Nat) {k : Nat} (hi : mK[i]? = some k) (hl : mLong k = false) (ht : mTy k = .int) {j x : Int32} (hin : vp_in j (mLen k)) (hdg : decode cc pc = .ok (.iastore, 1))
    (kk : ∀ (H1 : Heap) (locs1 : List Loc), va_P (dC, dI) vwCl (mW h0 ad cid sg (va_up gm k (upd (gm k) j.toNatClampNeg x)) lg) H1 → va_D A (mW h0 ad cid sg (va_up gm k (upd (gm k) j.toNatClampNeg x)) lg) → va_S A H0 H1 locs1 → W p l e R s m args below meth c H1 locs1 cells slots Q (F0 m (pc + 1) ls rest)) : W p l e R s m args below meth c H locs cells slots Q (F0 m pc ls (.int x :: .int j :: .ref (ad k) :: rest)) :=
  va_iast (D := (dC, dI)) (f := gm k) hexec hb hK hP hD hS (i + 1) i (by rw [mW_pos hi]; unfold mE9; rw [hl]; rfl) (by rw [mT_pos hi, ht]) hin hdg (fun H1 locs1 g1 g2 g3 => kk H1 locs1 (by rw [mW_set hi hl] at g1; exact g1) (by rw [mW_set hi hl] at g2; exact g2) g3)
theorem mr_zast (hexec : p.tables.exec = Jvm.exec) (hb : c.code = cc) (hK : va_K (dC, dI) vwCl (mT cid) s) (hP : va_P (dC, dI) vwCl (mW h0 ad cid sg gm lg) H) (hD : va_D A (mW h0 ad cid sg gm lg)) (hS : va_S A H0 H locs) (i : Nat) {k : Nat} (hi : mK[i]? = some k) (hl : mLong k = false) (ht : mTy k = .boolean) {j x : Int32} (hin : vp_in j (mLen k)) (hdg : decode cc pc = .ok (.bastore, 1))
    (kk : ∀ (H1 : Heap) (locs1 : List Loc), va_P (dC, dI) vwCl (mW h0 ad cid sg (va_up gm k (upd (gm k) j.toNatClampNeg (vp_nar .boolean x))) lg) H1 → va_D A (mW h0 ad cid sg (va_up gm k (upd (gm k) j.toNatClampNeg (vp_nar .boolean x))) lg) → va_S A H0 H1 locs1 → W p l e R s m args below meth c H1 locs1 cells slots Q (F0 m (pc + 1) ls rest)) : W p l e R s m args below meth c H locs cells slots Q (F0 m pc ls (.int x :: .int j :: .ref (ad k) :: rest)) :=
  va_zast (D := (dC, dI)) (f := gm k) hexec hb hK hP hD hS (i + 1) i (by rw [mW_pos hi]; unfold mE9; rw [hl]; rfl) (by rw [mT_pos hi, ht]) hin hdg (fun H1 locs1 g1 g2 g3 => kk H1 locs1 (by rw [mW_set hi hl] at g1; exact g1) (by rw [mW_set hi hl] at g2; exact g2) g3)
theorem mr_bast (hexec : p.tables.exec = Jvm.exec) (hb : c.code = cc) (hK : va_K (dC, dI) vwCl (mT cid) s) (hP : va_P (dC, dI) vwCl (mW h0 ad cid sg gm lg) H) (hD : va_D A (mW h0 ad cid sg gm lg)) (hS : va_S A H0 H locs) (i : Nat) {k : Nat} (hi : mK[i]? = some k) (hl : mLong k = false) (ht : mTy k = .byte) {j x : Int32} (hin : vp_in j (mLen k)) (hdg : decode cc pc = .ok (.bastore, 1))
    (kk : ∀ (H1 : Heap) (locs1 : List Loc), va_P (dC, dI) vwCl (mW h0 ad cid sg (va_up gm k (upd (gm k) j.toNatClampNeg (vp_nar .byte x))) lg) H1 → va_D A (mW h0 ad cid sg (va_up gm k (upd (gm k) j.toNatClampNeg (vp_nar .byte x))) lg) → va_S A H0 H1 locs1 → W p l e R s m args below meth c H1 locs1 cells slots Q (F0 m (pc + 1) ls rest)) : W p l e R s m args below meth c H locs cells slots Q (F0 m pc ls (.int x :: .int j :: .ref (ad k) :: rest)) :=
  va_bast (D := (dC, dI)) (f := gm k) hexec hb hK hP hD hS (i + 1) i (by rw [mW_pos hi]; unfold mE9; rw [hl]; rfl) (by rw [mT_pos hi, ht]) hin hdg (fun H1 locs1 g1 g2 g3 => kk H1 locs1 (by rw [mW_set hi hl] at g1; exact g1) (by rw [mW_set hi hl] at g2; exact g2) g3)
theorem mr_last (hexec : p.tables.exec = Jvm.exec) (hb : c.code = cc) (hK : va_K (dC, dI) vwCl (mT cid) s) (hP : va_P (dC, dI) vwCl (mW h0 ad cid sg gm lg) H) (hD : va_D A (mW h0 ad cid sg gm lg)) (hS : va_S A H0 H locs) (i : Nat) {k : Nat} (hi : mK[i]? = some k) (hl : mLong k = true) (ht : mTy k = .long) {j : Int32} {x : Int64} (hin : vp_in j (mLen k)) (hdg : decode cc pc = .ok (.lastore, 1))
    (kk : ∀ (H1 : Heap) (locs1 : List Loc), va_P (dC, dI) vwCl (mW h0 ad cid sg gm (va_up lg k (vp_updL (lg k) j.toNatClampNeg x))) H1 → va_D A (mW h0 ad cid sg gm (va_up lg k (vp_updL (lg k) j.toNatClampNeg x))) → va_S A H0 H1 locs1 → W p l e R s m args below meth c H1 locs1 cells slots Q (F0 m (pc + 1) ls rest)) : W p l e R s m args below meth c H locs cells slots Q (F0 m pc ls (.long x :: .int j :: .ref (ad k) :: rest)) :=
  va_last (D := (dC, dI)) (f := lg k) hexec hb hK hP hD hS (i + 1) i (by rw [mW_pos hi]; unfold mE9; rw [hl]; rfl) (by rw [mT_pos hi, ht]) hin hdg (fun H1 locs1 g1 g2 g3 => kk H1 locs1 (by rw [mW_setL hi hl] at g1; exact g1) (by rw [mW_setL hi hl] at g2; exact g2) g3)
end MR
abbrev MSt : Type := (Nat → Int32) × (Nat → Nat → Int32) × (Nat → Nat → Int64)
def MPre (dC : Nat → ClassId) (dI : Nat → Nat → Nat) (h0 : Nat) (ad : Nat → Nat) (cid : Nat → ClassId) (sg : Nat → Int32) (gm : Nat → Nat → Int32) (lg : Nat → Nat → Int64) (sz : Nat) (U : State) : Prop := U.heap.size = sz ∧ va_P (dC, dI) vwCl (mW h0 ad cid sg gm lg) U.heap ∧ va_K (dC, dI) vwCl (mT cid) U ∧ va_D (fun _ => True) (mW h0 ad cid sg gm lg)
def MB (dC : Nat → ClassId) (dI : Nat → Nat → Nat) (h0 : Nat) (ad : Nat → Nat) (cid : Nat → ClassId) (A : Nat → Prop) (u : MSt) (t : State) : Prop := va_P (dC, dI) vwCl (mW h0 ad cid u.1 u.2.1 u.2.2) t.heap ∧ va_K (dC, dI) vwCl (mT cid) t ∧ va_D A (mW h0 ad cid u.1 u.2.1 u.2.2)
/-- a method of the reference that answers an int: from the state u, to a state and an answer with post -/
def MMi (l : Launch) (dC : Nat → ClassId) (dI : Nat → Nat → Nat) (y : MethodName) (ws : List Cond) (rm : Room) (h0 : Nat) (ad : Nat → Nat) (cid : Nat → ClassId) (as : List Value) (sg : Nat → Int32) (gm : Nat → Nat → Int32) (lg : Nat → Nat → Int64) (post : Int32 → MSt → Prop) : Prop :=
  ∀ sz, Met l y ws rm (va_Pc (.ref h0 :: as) (MPre dC dI h0 ad cid sg gm lg sz)) (va_Qi post (MB dC dI h0 ad cid (va_A (mW h0 ad cid sg gm lg) sz)) (va_A (mW h0 ad cid sg gm lg) sz)) 0 0 (va_A (mW h0 ad cid sg gm lg) sz)
def MMl (l : Launch) (dC : Nat → ClassId) (dI : Nat → Nat → Nat) (y : MethodName) (ws : List Cond) (rm : Room) (h0 : Nat) (ad : Nat → Nat) (cid : Nat → ClassId) (as : List Value) (sg : Nat → Int32) (gm : Nat → Nat → Int32) (lg : Nat → Nat → Int64) (post : Int64 → MSt → Prop) : Prop :=
  ∀ sz, Met l y ws rm (va_Pc (.ref h0 :: as) (MPre dC dI h0 ad cid sg gm lg sz)) (va_Ql post (MB dC dI h0 ad cid (va_A (mW h0 ad cid sg gm lg) sz)) (va_A (mW h0 ad cid sg gm lg) sz)) 0 0 (va_A (mW h0 ad cid sg gm lg) sz)
def MMv (l : Launch) (dC : Nat → ClassId) (dI : Nat → Nat → Nat) (y : MethodName) (ws : List Cond) (rm : Room) (h0 : Nat) (ad : Nat → Nat) (cid : Nat → ClassId) (as : List Value) (sg : Nat → Int32) (gm : Nat → Nat → Int32) (lg : Nat → Nat → Int64) (post : MSt → Prop) : Prop :=
  ∀ sz, Met l y ws rm (va_Pc (.ref h0 :: as) (MPre dC dI h0 ad cid sg gm lg sz)) (va_Qv post (MB dC dI h0 ad cid (va_A (mW h0 ad cid sg gm lg) sz)) (va_A (mW h0 ad cid sg gm lg) sz)) 0 0 (va_A (mW h0 ad cid sg gm lg) sz)
theorem MPre_blind {dC : Nat → ClassId} {dI : Nat → Nat → Nat} {h0 : Nat} {ad : Nat → Nat} {cid : Nat → ClassId} {sg : Nat → Int32} {gm : Nat → Nat → Int32} {lg : Nat → Nat → Int64} {sz : Nat} {as : List Value} : FrameBlind (va_Pc as (MPre dC dI h0 ad cid sg gm lg sz)) := fun a U g mk q => by
  obtain ⟨q0, q1, qP, qK, qD⟩ := q
  exact ⟨q0, q1, qP, va_K.moved (u := U) (U := U.calling g mk a) (Vm.Alike.refl U.vm) qK, qD⟩
section MC
variable {p : Program} {l : Launch} {e : Env} {R : Room} {s : State} {m : MethodId} {args : Array Value} {below : List Frame} {meth : Method} {c : Code} {H : Heap} {locs : List Loc} {cells slots : Nat} {Q : State → Prop} {cc : ByteArray} {pc : Nat} {ls : Array Slot} {rest : List Value} {A : Nat → Prop} {H0 : Heap}
variable {dC : Nat → ClassId} {dI : Nat → Nat → Nat} {h0 : Nat} {ad : Nat → Nat} {cid : Nat → ClassId} {sg : Nat → Int32} {gm : Nat → Nat → Int32} {lg : Nat → Nat → Int64} {Ts : List Cond} {own : String} {index : Nat}
variable {y : MethodName} {ws : List Cond} {rm : Room} {bytes : ByteArray} {maxL n nL : Nat} {ret : Option FieldType} {as : List Value} {st0 : List Value}
theorem mfree (hD : va_D A (mW h0 ad cid sg gm lg)) (hS : va_S A H0 H locs) (hA : ∀ q, H0.size ≤ q → A q) : ∀ q, va_A (mW h0 ad cid sg gm lg) H.size q → A q := by
  intro q h
  rcases h with ⟨k, e, h⟩ | h
  · exact hD.2 k (q, e) h
  · exact hA q (Nat.le_trans hS.1 h)
theorem mr_calli {post : Int32 → MSt → Prop} (S : CallFix p m c cc nL s args Ts own) (hM : MMi l dC dI y ws rm h0 ad cid as sg gm lg post) (cw : CallW R s args own RX13 index y bytes maxL ret ws rm 0 0 n) (hn : as.length = n) (hsize : ls.size = nL) (hst : st0 = as.reverse ++ .ref h0 :: rest) (hW : (rest.map fun v => v.category).sum ≤ 8) (hdg : decode cc pc = .ok (.invokevirtual index, 3)) (hf : cells ≤ R.cells ∧ slots ≤ R.slots)
    (hK : va_K (dC, dI) vwCl (mT cid) s) (hP : va_P (dC, dI) vwCl (mW h0 ad cid sg gm lg) H) (hD : va_D A (mW h0 ad cid sg gm lg)) (hS : va_S A H0 H locs) (hA : ∀ q, H0.size ≤ q → A q)
    (kk : ∀ (r : Int32) (u1 : MSt) (H1 : Heap) (locs1 : List Loc), post r u1 → va_P (dC, dI) vwCl (mW h0 ad cid u1.1 u1.2.1 u1.2.2) H1 → va_D A (mW h0 ad cid u1.1 u1.2.1 u1.2.2) → va_S A H0 H1 locs1 → W p l e R s m args below meth c H1 locs1 cells slots Q (F0 m (pc + 3) ls (.int r :: rest))) : W p l e R s m args below meth c H locs cells slots Q (F0 m pc ls st0) := by
  subst hst
  have hFc := mfree hD hS hA
  refine va_calli (va_runV (As := as) (rest := rest) S (hM H.size) cw ⟨MPre_blind, va_recv hK hP (ci := 12) (q0 := 0) rfl rfl, fun U hU hW => ⟨rfl, by rw [hU], by rw [hU]; exact hP, va_K.moved hW.alike hK, hD.weaken (fun _ _ _ _ => trivial)⟩⟩ rfl hn hsize rfl (lv_room hW) hdg hf) hS (fun q _ h => hFc q h) hFc (fun r u1 t H1 locs ht hvm hw hB hz1 hk1 hS => ?_)
  obtain ⟨hP1, hK1, hD1⟩ := hB
  rw [ht] at hP1
  exact kk r u1 H1 locs hw hP1 (hD1.weaken (fun _ _ _ h => hFc _ h)) hS
theorem mr_calll {post : Int64 → MSt → Prop} (S : CallFix p m c cc nL s args Ts own) (hM : MMl l dC dI y ws rm h0 ad cid as sg gm lg post) (cw : CallW R s args own RX13 index y bytes maxL ret ws rm 0 0 n) (hn : as.length = n) (hsize : ls.size = nL) (hst : st0 = as.reverse ++ .ref h0 :: rest) (hW : (rest.map fun v => v.category).sum ≤ 8) (hdg : decode cc pc = .ok (.invokevirtual index, 3)) (hf : cells ≤ R.cells ∧ slots ≤ R.slots)
    (hK : va_K (dC, dI) vwCl (mT cid) s) (hP : va_P (dC, dI) vwCl (mW h0 ad cid sg gm lg) H) (hD : va_D A (mW h0 ad cid sg gm lg)) (hS : va_S A H0 H locs) (hA : ∀ q, H0.size ≤ q → A q)
    (kk : ∀ (r : Int64) (u1 : MSt) (H1 : Heap) (locs1 : List Loc), post r u1 → va_P (dC, dI) vwCl (mW h0 ad cid u1.1 u1.2.1 u1.2.2) H1 → va_D A (mW h0 ad cid u1.1 u1.2.1 u1.2.2) → va_S A H0 H1 locs1 → W p l e R s m args below meth c H1 locs1 cells slots Q (F0 m (pc + 3) ls (.long r :: rest))) : W p l e R s m args below meth c H locs cells slots Q (F0 m pc ls st0) := by
  subst hst
  have hFc := mfree hD hS hA
  refine va_calll (va_runV (As := as) (rest := rest) S (hM H.size) cw ⟨MPre_blind, va_recv hK hP (ci := 12) (q0 := 0) rfl rfl, fun U hU hW => ⟨rfl, by rw [hU], by rw [hU]; exact hP, va_K.moved hW.alike hK, hD.weaken (fun _ _ _ _ => trivial)⟩⟩ rfl hn hsize rfl (lv_room hW) hdg hf) hS (fun q _ h => hFc q h) hFc (fun r u1 t H1 locs ht hvm hw hB hz1 hk1 hS => ?_)
  obtain ⟨hP1, hK1, hD1⟩ := hB
  rw [ht] at hP1
  exact kk r u1 H1 locs hw hP1 (hD1.weaken (fun _ _ _ h => hFc _ h)) hS
theorem mr_callv {post : MSt → Prop} (S : CallFix p m c cc nL s args Ts own) (hM : MMv l dC dI y ws rm h0 ad cid as sg gm lg post) (cw : CallW R s args own RX13 index y bytes maxL ret ws rm 0 0 n) (hn : as.length = n) (hsize : ls.size = nL) (hst : st0 = as.reverse ++ .ref h0 :: rest) (hW : (rest.map fun v => v.category).sum ≤ 8) (hdg : decode cc pc = .ok (.invokevirtual index, 3)) (hf : cells ≤ R.cells ∧ slots ≤ R.slots)
    (hK : va_K (dC, dI) vwCl (mT cid) s) (hP : va_P (dC, dI) vwCl (mW h0 ad cid sg gm lg) H) (hD : va_D A (mW h0 ad cid sg gm lg)) (hS : va_S A H0 H locs) (hA : ∀ q, H0.size ≤ q → A q)
    (kk : ∀ (u1 : MSt) (H1 : Heap) (locs1 : List Loc), post u1 → va_P (dC, dI) vwCl (mW h0 ad cid u1.1 u1.2.1 u1.2.2) H1 → va_D A (mW h0 ad cid u1.1 u1.2.1 u1.2.2) → va_S A H0 H1 locs1 → W p l e R s m args below meth c H1 locs1 cells slots Q (F0 m (pc + 3) ls rest)) : W p l e R s m args below meth c H locs cells slots Q (F0 m pc ls st0) := by
  subst hst
  have hFc := mfree hD hS hA
  refine va_callv (va_runV (As := as) (rest := rest) S (hM H.size) cw ⟨MPre_blind, va_recv hK hP (ci := 12) (q0 := 0) rfl rfl, fun U hU hW => ⟨rfl, by rw [hU], by rw [hU]; exact hP, va_K.moved hW.alike hK, hD.weaken (fun _ _ _ _ => trivial)⟩⟩ rfl hn hsize rfl (lv_room hW) hdg hf) hS (fun q _ h => hFc q h) hFc (fun u1 t H1 locs ht hvm hw hB hz1 hk1 hS => ?_)
  obtain ⟨hP1, hK1, hD1⟩ := hB
  rw [ht] at hP1
  exact kk u1 H1 locs hw hP1 (hD1.weaken (fun _ _ _ h => hFc _ h)) hS
end MC
end
section
theorem ms_kept {dC : Nat → ClassId} {dI : Nat → Nat → Nat} {ws : va_W} {H H1 : Heap} (hP : va_P (dC, dI) vwCl ws H) (_ : H.size ≤ H1.size) (hk : ∀ q : Nat, q < H.size → ¬ va_A [] H.size q → H1[q]? = H[q]?) : va_P (dC, dI) vwCl ws H1 :=
  hP.kept (fun k q hq => hk _ (vx_lt hP hq) (fun h => by
    rcases h with ⟨i, e, h⟩ | h
    · simp at h
    · exact absurd h (Nat.not_le.mpr (vx_lt hP hq))))
def mAtt (gm : Nat → Nat → Int32) (e : Nat) : Prop := ∃ a, a ≤ 12 ∧ gm 30 e = nI a ∧ ∀ j, j < a → ∃ q z : Nat, gm 36 (12 * e + j) = nI q ∧ gm 37 (12 * e + j) = nI z ∧ z ≤ 24 ∧ q + z ≤ 2000
def findF (lg : Nat → Int64) (e : Nat) (nn : Int64) : Nat → Nat → Int32
  | 0, _ => -1
  | c + 1, j => if lg (12 * e + j) = nn then nI (12 * e + j) else findF lg e nn c (j + 1)
def mFind (gm : Nat → Nat → Int32) (lg : Nat → Nat → Int64) (e : Nat) (nn : Int64) : Int32 := findF (lg 35) e nn (gm 30 e).toNatClampNeg 0
def mHas (gm : Nat → Nat → Int32) (lg : Nat → Nat → Int64) (e : Nat) (nn : Int64) : Int32 := if mFind gm lg e nn = -1 then 0 else 1
theorem findF_or (lg : Nat → Int64) (e : Nat) (nn : Int64) : ∀ c j, findF lg e nn c j = -1 ∨ ∃ i, j ≤ i ∧ i < j + c ∧ findF lg e nn c j = nI (12 * e + i) := by
  intro c
  induction c with
  | zero => intro j; exact Or.inl rfl
  | succ c ih =>
    intro j
    by_cases h : lg (12 * e + j) = nn
    · exact Or.inr ⟨j, Nat.le_refl j, by omega, by show (if _ then _ else _) = _; rw [if_pos h]⟩
    · rcases ih (j + 1) with h1 | ⟨i, h1, h2, h3⟩
      · exact Or.inl (by show (if _ then _ else _) = _; rw [if_neg h]; exact h1)
      · exact Or.inr ⟨i, by omega, by omega, by show (if _ then _ else _) = _; rw [if_neg h]; exact h3⟩
theorem mFind_or {gm : Nat → Nat → Int32} {lg : Nat → Nat → Int64} {e a : Nat} (nn : Int64) (ha : a ≤ 12) (h : gm 30 e = nI a) : mFind gm lg e nn = -1 ∨ ∃ j, j < a ∧ mFind gm lg e nn = nI (12 * e + j) := by
  have h1 := findF_or (lg 35) e nn (gm 30 e).toNatClampNeg 0
  rw [h, nI_clamp (by omega)] at h1
  unfold mFind
  rw [h, nI_clamp (by omega)]
  rcases h1 with h1 | ⟨i, _, h2, h3⟩
  · exact Or.inl h1
  · exact Or.inr ⟨i, by omega, h3⟩
def wordF (ch : Nat → Int32) (q : Nat) : Nat → Nat → Int64 → Int64
  | 0, _, v => v
  | c + 1, i, v => wordF ch q c (i + 1) ((v <<< ((8 : Int32).toInt64 &&& 63)) ||| (ch (q + i) : Int32).toInt64)
def mWord (gm : Nat → Nat → Int32) (lg : Nat → Nat → Int64) (e : Nat) (nn : Int64) : Int64 := if mFind gm lg e nn = -1 then -1 else if gm 37 (mFind gm lg e nn).toNatClampNeg ≤ 8 then wordF (gm 38) (gm 36 (mFind gm lg e nn).toNatClampNeg).toNatClampNeg (gm 37 (mFind gm lg e nn).toNatClampNeg).toNatClampNeg 0 0 else -1

set_option maxHeartbeats 4000000 in
set_option maxRecDepth 100000 in
/-- find: the place of the attribute, or -1 -/
theorem k_find (l : Launch) (dC : Nat → ClassId) (dI : Nat → Nat → Nat) (h0 : Nat) (ad : Nat → Nat) (cid : Nat → ClassId) (sg : Nat → Int32) (gm : Nat → Nat → Int32) (lg : Nat → Nat → Int64) (el : Nat) (nn : Int64) (he : el < 80) (hat : mAtt gm el) : MMi l dC dI yX13_find wm_X13_find ({ frames := 0, cells := 0, slots := 0, locals := 0 }) h0 ad cid [.int (nI el), .long nn] sg gm lg (fun r v => r = mFind gm lg el nn ∧ v = (sg, gm, lg)) := by
  intro sz
  refine Met.ofW (cc := cX13_find) (maxL := 5) (ret := (some .int)) (by decide) rfl ?_
  intro p e s m args below meth c s₁ B hml hv
  obtain ⟨rfl, hsz, hP, hK, hD0⟩ := hv
  have hx := B.exec
  have hb := B.bytes
  have hr := B.returns
  have hts := atoms_spec (ws := wm_X13_find) B.pre
  have htb := fun (w : Cond) (h : w ∈ tb) => hts w (List.mem_cons_of_mem _ h)
  have hown : s.vm.findClass RX13 = some m.cls := findClass_of_methodNamed B.named
  have hlocks := B.notSynchronized
  subst hsz
  have hD := hD0.self (sz := s.heap.size)
  generalize hAe : va_A (mW h0 ad cid sg gm lg) s.heap.size = A at hD ⊢
  have hA : ∀ q : Nat, s.heap.size ≤ q → A q := fun q h => by rw [← hAe]; exact Or.inr h
  have hS : va_S A s.heap s.heap [] := va_S.rf
  have hl := lv_entry ([.ref h0, .int (nI el), .long nn]) (n := 5) (Nat.le_of_ble_eq_true rfl)
  rw [lg_entry_eq]
  generalize (lg_sl ([.ref h0, .int (nI el), .long nn]) ++ List.replicate (5 - (lg_sl ([.ref h0, .int (nI el), .long nn])).length) Slot.unset).toArray = ls at hl ⊢
  have hl : lv_has ls 5 [(0, .ref h0), (1, .int (nI el)), (2, .long nn)] := hl
  obtain ⟨a9, ha9, hae, -⟩ := hat
  refine lv_iconst (v := 0) hx hb dX13_find_0 (by decide) ?_
  refine lv_istore (lv' := [(4, .int 0), (0, .ref h0), (1, .int (nI el)), (2, .long nn)]) hx hb dX13_find_1 hl (by decide) rfl (fun ls hl => ?_)
  have hloop3 : ∀ (n : Nat) (j : Nat) (H : Heap) (locs : List Loc) (ls : Array Slot), j + n = a9 → mFind gm lg el nn = findF (lg 35) el nn n j → va_P (dC, dI) vwCl (mW h0 ad cid sg gm lg) H → va_D A (mW h0 ad cid sg gm lg) → va_S A s.heap H locs → lv_has ls 5 [(4, .int (nI j)), (0, .ref h0), (1, .int (nI el)), (2, .long nn)] → W p l e (headSpec wm_X13_find ({ frames := 0, cells := 0, slots := 0, locals := 0 })).room s m ([.ref h0, .int (nI el), .long nn] : List Value).toArray below meth c H locs 0 0 (MQ below (va_Qi (fun r v => r = mFind gm lg el nn ∧ v = (sg, gm, lg)) (MB dC dI h0 ad cid A) A) ([.ref h0, .int (nI el), .long nn] : List Value).toArray s 0 0 A) (F0 m 3 ls []) := by
    intro n
    induction n with
    | zero =>
      intro j H locs ls hj hE hP hD hS hl
      refine lv_iload hx hb dX13_find_3 (lv_at hl 0 rfl) ?_
      refine lv_aload_n hx hb dX13_find_5 rfl (lv_at hl 1 rfl) ?_
      refine mr_get (v := .ref (ad 30)) hx hb htb inX13 hown hK hP 30 (by decide) (htb _ kw_1057) rfl dX13_find_6 ?_
      refine lv_iload_n hx hb dX13_find_9 rfl (lv_at hl 2 rfl) ?_
      refine mr_iald hx hb hK hP 23 (k := 30) rfl rfl rfl (show vp_in (nI el) 80 from (vp_in_nI he (by decide))) dX13_find_10 ?_
      refine lv_topi (fun z_1 ez_1 => ?_)
      obtain rfl : z_1 = (gm 30 el) := ez_1.trans (by rw [nI_clamp (by omega)])
      refine lv_topi (fun z_2 ez_2 => ?_)
      obtain rfl : z_2 = nI a9 := ez_2.trans (hae)
      refine lv_icmp_ge (tgt := 45) hx hb dX13_find_11 (by decide) (fun _ => ?_) (fun c_3 => absurd (nI_le (by omega) (by omega)) c_3)
      refine lv_iconst (v := (-1)) hx hb dX13_find_45 (by decide) ?_
      exact W.iret (v := (-1)) hx hb hr (fun t ht hW => ⟨⟨(-1), (sg, gm, lg), rfl, ⟨(hE.symm), rfl⟩, by rw [ht]; exact hP, va_K.moved hW.alike hK, hD⟩, hS.F ht⟩) hS.2.2 dX13_find_46
    | succ n ih =>
      intro j H locs ls hj hE hP hD hS hl
      refine lv_iload hx hb dX13_find_3 (lv_at hl 0 rfl) ?_
      refine lv_aload_n hx hb dX13_find_5 rfl (lv_at hl 1 rfl) ?_
      refine mr_get (v := .ref (ad 30)) hx hb htb inX13 hown hK hP 30 (by decide) (htb _ kw_1057) rfl dX13_find_6 ?_
      refine lv_iload_n hx hb dX13_find_9 rfl (lv_at hl 2 rfl) ?_
      refine mr_iald hx hb hK hP 23 (k := 30) rfl rfl rfl (show vp_in (nI el) 80 from (vp_in_nI he (by decide))) dX13_find_10 ?_
      refine lv_topi (fun z_4 ez_4 => ?_)
      obtain rfl : z_4 = (gm 30 el) := ez_4.trans (by rw [nI_clamp (by omega)])
      refine lv_topi (fun z_5 ez_5 => ?_)
      obtain rfl : z_5 = nI a9 := ez_5.trans (hae)
      refine lv_icmp_ge (tgt := 45) hx hb dX13_find_11 (by decide) (fun c_6 => absurd c_6 (nI_ge (by omega) (by omega))) (fun _ => ?_)
      refine lv_aload_n hx hb dX13_find_14 rfl (lv_at hl 1 rfl) ?_
      refine mr_get (v := .ref (ad 35)) hx hb htb inX13 hown hK hP 35 (by decide) (htb _ kw_1062) rfl dX13_find_15 ?_
      refine lv_bipush (v := 12) hx hb dX13_find_18 (by decide) ?_
      refine lv_iload_n hx hb dX13_find_20 rfl (lv_at hl 2 rfl) ?_
      refine lv_imul hx hb dX13_find_21 ?_
      refine lv_topi (fun z_7 ez_7 => ?_)
      obtain rfl : z_7 = nI (12 * el) := ez_7.trans (pk_mul _ _)
      refine lv_iload hx hb dX13_find_22 (lv_at hl 0 rfl) ?_
      refine lv_iadd hx hb dX13_find_24 ?_
      refine lv_topi (fun z_8 ez_8 => ?_)
      obtain rfl : z_8 = nI ((12 * el) + j) := ez_8.trans (nI_add _ _)
      refine mr_lald hx hb hK hP 28 (k := 35) rfl rfl rfl (show vp_in (nI ((12 * el) + j)) 960 from (vp_in_nI (by omega) (by decide))) dX13_find_25 ?_
      refine lv_topl (fun z_9 ez_9 => ?_)
      obtain rfl : z_9 = (lg 35 ((12 * el) + j)) := ez_9.trans (by rw [nI_clamp (by omega)])
      refine lv_lload_n hx hb dX13_find_26 rfl (lv_at hl 3 rfl) ?_
      refine W.lcmp hx hb dX13_find_27 ?_
      refine lv_if_ne (tgt := 39) hx hb dX13_find_28 (by decide) (fun c_10 => ?_) (fun c_10 => ?_)
      · refine lv_iinc (v := nI (j + 1)) (lv' := [(4, .int (nI (j + 1))), (0, .ref h0), (1, .int (nI el)), (2, .long nn)]) hx hb dX13_find_39 hl (k := 0) rfl (nI_1 _) (by decide) rfl (fun ls hl => ?_)
        refine lv_goto (tgt := 3) hx hb dX13_find_42 (by decide) ?_
        exact ih (j + 1) _ _ _ (by omega) (by rw [hE]; show (if _ then _ else _) = _; rw [if_neg (fun h => c_10 ((lg_cmp_eq _ _).mpr h))]) hP hD hS (lv_sub hl [0, 1, 2, 3] rfl)
      · refine lv_bipush (v := 12) hx hb dX13_find_31 (by decide) ?_
        refine lv_iload_n hx hb dX13_find_33 rfl (lv_at hl 2 rfl) ?_
        refine lv_imul hx hb dX13_find_34 ?_
        refine lv_topi (fun z_11 ez_11 => ?_)
        obtain rfl : z_11 = nI (12 * el) := ez_11.trans (pk_mul _ _)
        refine lv_iload hx hb dX13_find_35 (lv_at hl 0 rfl) ?_
        refine lv_iadd hx hb dX13_find_37 ?_
        refine lv_topi (fun z_12 ez_12 => ?_)
        obtain rfl : z_12 = nI ((12 * el) + j) := ez_12.trans (nI_add _ _)
        exact W.iret (v := nI ((12 * el) + j)) hx hb hr (fun t ht hW => ⟨⟨nI ((12 * el) + j), (sg, gm, lg), rfl, ⟨(by rw [hE]; show _ = (if _ then _ else _); rw [if_pos ((lg_cmp_eq _ _).mp c_10)]), rfl⟩, by rw [ht]; exact hP, va_K.moved hW.alike hK, hD⟩, hS.F ht⟩) hS.2.2 dX13_find_38
  exact hloop3 a9 0 _ _ _ (by omega) (by unfold mFind; rw [hae, nI_clamp (by omega)]) hP hD hS (lv_sub hl [0, 1, 2, 3] rfl)

set_option maxHeartbeats 4000000 in
set_option maxRecDepth 100000 in
theorem k_has (l : Launch) (dC : Nat → ClassId) (dI : Nat → Nat → Nat) (h0 : Nat) (ad : Nat → Nat) (cid : Nat → ClassId) (sg : Nat → Int32) (gm : Nat → Nat → Int32) (lg : Nat → Nat → Int64) (el : Nat) (nn : Int64) (he : el < 80) (hat : mAtt gm el) : MMi l dC dI yX13_has wm_X13_has ({ frames := 1, cells := 0, slots := 0, locals := 24 }) h0 ad cid [.int (nI el), .long nn] sg gm lg (fun r v => r = mHas gm lg el nn ∧ v = (sg, gm, lg)) := by
  intro sz
  refine Met.ofW (cc := cX13_has) (maxL := 4) (ret := (some .boolean)) (by decide) rfl ?_
  intro p e s m args below meth c s₁ B hml hv
  obtain ⟨rfl, hsz, hP, hK, hD0⟩ := hv
  have hx := B.exec
  have hb := B.bytes
  have hr := B.returns
  have hts := atoms_spec (ws := wm_X13_has) B.pre
  have htb := fun (w : Cond) (h : w ∈ tb) => hts w (List.mem_cons_of_mem _ h)
  have hown : s.vm.findClass RX13 = some m.cls := findClass_of_methodNamed B.named
  have hlocks := B.notSynchronized
  subst hsz
  have hD := hD0.self (sz := s.heap.size)
  generalize hAe : va_A (mW h0 ad cid sg gm lg) s.heap.size = A at hD ⊢
  have hA : ∀ q : Nat, s.heap.size ≤ q → A q := fun q h => by rw [← hAe]; exact Or.inr h
  have hS : va_S A s.heap s.heap [] := va_S.rf
  have hl := lv_entry ([.ref h0, .int (nI el), .long nn]) (n := 4) (Nat.le_of_ble_eq_true rfl)
  rw [lg_entry_eq]
  generalize (lg_sl ([.ref h0, .int (nI el), .long nn]) ++ List.replicate (4 - (lg_sl ([.ref h0, .int (nI el), .long nn])).length) Slot.unset).toArray = ls at hl ⊢
  have hl : lv_has ls 4 [(0, .ref h0), (1, .int (nI el)), (2, .long nn)] := hl
  refine lv_aload_n hx hb dX13_has_0 rfl (lv_at hl 0 rfl) ?_
  refine lv_iload_n hx hb dX13_has_1 rfl (lv_at hl 1 rfl) ?_
  refine lv_lload_n hx hb dX13_has_2 rfl (lv_at hl 2 rfl) ?_
  refine mr_calli (rest := []) ⟨hx, hb, hml, hown, htb⟩ (k_find l dC dI h0 ad cid sg gm lg el nn he hat) (cwV 2 htb (gd_V kw_1157 kw_1158 kw_82 kw_160 kw_1589) rfl rfl rfl (by decide +kernel) ⟨Nat.le_of_ble_eq_true rfl, Nat.le_of_ble_eq_true rfl⟩) rfl hl.1 rfl (Nat.le_of_ble_eq_true rfl) dX13_has_3 ⟨Nat.zero_le _, Nat.zero_le _⟩ hK hP hD hS hA (fun r_1 u_2 H locs hw hP hD hS => ?_)
  obtain ⟨rfl, rfl⟩ := hw
  refine lv_iconst (v := (-1)) hx hb dX13_has_6 (by decide) ?_
  refine lv_icmp_eq (tgt := 14) hx hb dX13_has_7 (by decide) (fun c_3 => ?_) (fun c_3 => ?_)
  · refine lv_iconst (v := 0) hx hb dX13_has_14 (by decide) ?_
    exact W.zret (v := 0) hx hb hr rfl (fun t ht hW => ⟨⟨0, (sg, gm, lg), rfl, ⟨(by unfold mHas; rw [if_pos c_3]), rfl⟩, by rw [ht]; exact hP, va_K.moved hW.alike hK, hD⟩, hS.F ht⟩) hS.2.2 dX13_has_15
  · refine lv_iconst (v := 1) hx hb dX13_has_10 (by decide) ?_
    refine lv_goto (tgt := 15) hx hb dX13_has_11 (by decide) ?_
    exact W.zret (v := 1) hx hb hr rfl (fun t ht hW => ⟨⟨1, (sg, gm, lg), rfl, ⟨(by unfold mHas; rw [if_neg c_3]), rfl⟩, by rw [ht]; exact hP, va_K.moved hW.alike hK, hD⟩, hS.F ht⟩) hS.2.2 dX13_has_15

def mSmall (x : Int32) : Int32 := if x < 97 then 0 else if x ≤ 122 then 1 else 0
def allF (ch : Nat → Int32) (q : Nat) : Nat → Nat → Int32
  | 0, _ => 1
  | c + 1, i => if mSmall (ch (q + i)) = 0 then 0 else allF ch q c (i + 1)
def mIsW (gm : Nat → Nat → Int32) (lg : Nat → Nat → Int64) (e : Nat) (nn : Int64) : Int32 := if mFind gm lg e nn = -1 then 0 else if gm 37 (mFind gm lg e nn).toNatClampNeg < 1 then 0 else if gm 37 (mFind gm lg e nn).toNatClampNeg ≤ 8 then allF (gm 38) (gm 36 (mFind gm lg e nn).toNatClampNeg).toNatClampNeg (gm 37 (mFind gm lg e nn).toNatClampNeg).toNatClampNeg 0 else 0

set_option maxHeartbeats 4000000 in
set_option maxRecDepth 100000 in
theorem k_isSmall (l : Launch) (dC : Nat → ClassId) (dI : Nat → Nat → Nat) (h0 : Nat) (ad : Nat → Nat) (cid : Nat → ClassId) (sg : Nat → Int32) (gm : Nat → Nat → Int32) (lg : Nat → Nat → Int64) (x : Int32) : MMi l dC dI yX13_isSmall wm_X13_isSmall ({ frames := 0, cells := 0, slots := 0, locals := 0 }) h0 ad cid [.int x] sg gm lg (fun r v => r = mSmall x ∧ v = (sg, gm, lg)) := by
  intro sz
  refine Met.ofW (cc := cX13_isSmall) (maxL := 2) (ret := (some .boolean)) (by decide) rfl ?_
  intro p e s m args below meth c s₁ B hml hv
  obtain ⟨rfl, hsz, hP, hK, hD0⟩ := hv
  have hx := B.exec
  have hb := B.bytes
  have hr := B.returns
  have hts := atoms_spec (ws := wm_X13_isSmall) B.pre
  have htb := fun (w : Cond) (h : w ∈ tb) => hts w (List.mem_cons_of_mem _ h)
  have hown : s.vm.findClass RX13 = some m.cls := findClass_of_methodNamed B.named
  have hlocks := B.notSynchronized
  subst hsz
  have hD := hD0.self (sz := s.heap.size)
  generalize hAe : va_A (mW h0 ad cid sg gm lg) s.heap.size = A at hD ⊢
  have hA : ∀ q : Nat, s.heap.size ≤ q → A q := fun q h => by rw [← hAe]; exact Or.inr h
  have hS : va_S A s.heap s.heap [] := va_S.rf
  have hl := lv_entry ([.ref h0, .int x]) (n := 2) (Nat.le_of_ble_eq_true rfl)
  rw [lg_entry_eq]
  generalize (lg_sl ([.ref h0, .int x]) ++ List.replicate (2 - (lg_sl ([.ref h0, .int x])).length) Slot.unset).toArray = ls at hl ⊢
  have hl : lv_has ls 2 [(0, .ref h0), (1, .int x)] := hl
  refine lv_iload_n hx hb dX13_isSmall_0 rfl (lv_at hl 1 rfl) ?_
  refine lv_bipush (v := 97) hx hb dX13_isSmall_1 (by decide) ?_
  refine lv_icmp_lt (tgt := 16) hx hb dX13_isSmall_3 (by decide) (fun c_1 => ?_) (fun c_1 => ?_)
  · refine lv_iconst (v := 0) hx hb dX13_isSmall_16 (by decide) ?_
    exact W.zret (v := 0) hx hb hr rfl (fun t ht hW => ⟨⟨0, (sg, gm, lg), rfl, ⟨(by simp [mSmall, c_1]), rfl⟩, by rw [ht]; exact hP, va_K.moved hW.alike hK, hD⟩, hS.F ht⟩) hS.2.2 dX13_isSmall_17
  · refine lv_iload_n hx hb dX13_isSmall_6 rfl (lv_at hl 1 rfl) ?_
    refine lv_bipush (v := 122) hx hb dX13_isSmall_7 (by decide) ?_
    refine lv_icmp_gt (tgt := 16) hx hb dX13_isSmall_9 (by decide) (fun c_2 => ?_) (fun c_2 => ?_)
    · refine lv_iconst (v := 0) hx hb dX13_isSmall_16 (by decide) ?_
      exact W.zret (v := 0) hx hb hr rfl (fun t ht hW => ⟨⟨0, (sg, gm, lg), rfl, ⟨(by simp [mSmall, c_1, c_2]), rfl⟩, by rw [ht]; exact hP, va_K.moved hW.alike hK, hD⟩, hS.F ht⟩) hS.2.2 dX13_isSmall_17
    · refine lv_iconst (v := 1) hx hb dX13_isSmall_12 (by decide) ?_
      refine lv_goto (tgt := 17) hx hb dX13_isSmall_13 (by decide) ?_
      exact W.zret (v := 1) hx hb hr rfl (fun t ht hW => ⟨⟨1, (sg, gm, lg), rfl, ⟨(by simp [mSmall, c_1, c_2]), rfl⟩, by rw [ht]; exact hP, va_K.moved hW.alike hK, hD⟩, hS.F ht⟩) hS.2.2 dX13_isSmall_17

set_option maxHeartbeats 4000000 in
set_option maxRecDepth 100000 in
theorem k_word (l : Launch) (dC : Nat → ClassId) (dI : Nat → Nat → Nat) (h0 : Nat) (ad : Nat → Nat) (cid : Nat → ClassId) (sg : Nat → Int32) (gm : Nat → Nat → Int32) (lg : Nat → Nat → Int64) (el : Nat) (nn : Int64) (he : el < 80) (hat : mAtt gm el) : MMl l dC dI yX13_word wm_X13_word ({ frames := 1, cells := 0, slots := 0, locals := 24 }) h0 ad cid [.int (nI el), .long nn] sg gm lg (fun r v => r = mWord gm lg el nn ∧ v = (sg, gm, lg)) := by
  intro sz
  refine Met.ofW (cc := cX13_word) (maxL := 8) (ret := (some .long)) (by decide) rfl ?_
  intro p e s m args below meth c s₁ B hml hv
  obtain ⟨rfl, hsz, hP, hK, hD0⟩ := hv
  have hx := B.exec
  have hb := B.bytes
  have hr := B.returns
  have hts := atoms_spec (ws := wm_X13_word) B.pre
  have htb := fun (w : Cond) (h : w ∈ tb) => hts w (List.mem_cons_of_mem _ h)
  have hown : s.vm.findClass RX13 = some m.cls := findClass_of_methodNamed B.named
  have hlocks := B.notSynchronized
  subst hsz
  have hD := hD0.self (sz := s.heap.size)
  generalize hAe : va_A (mW h0 ad cid sg gm lg) s.heap.size = A at hD ⊢
  have hA : ∀ q : Nat, s.heap.size ≤ q → A q := fun q h => by rw [← hAe]; exact Or.inr h
  have hS : va_S A s.heap s.heap [] := va_S.rf
  have hl := lv_entry ([.ref h0, .int (nI el), .long nn]) (n := 8) (Nat.le_of_ble_eq_true rfl)
  rw [lg_entry_eq]
  generalize (lg_sl ([.ref h0, .int (nI el), .long nn]) ++ List.replicate (8 - (lg_sl ([.ref h0, .int (nI el), .long nn])).length) Slot.unset).toArray = ls at hl ⊢
  have hl : lv_has ls 8 [(0, .ref h0), (1, .int (nI el)), (2, .long nn)] := hl
  obtain ⟨a9, ha9, hae, hall⟩ := id hat
  refine lv_aload_n hx hb dX13_word_0 rfl (lv_at hl 0 rfl) ?_
  refine lv_iload_n hx hb dX13_word_1 rfl (lv_at hl 1 rfl) ?_
  refine lv_lload_n hx hb dX13_word_2 rfl (lv_at hl 2 rfl) ?_
  refine mr_calli (rest := []) ⟨hx, hb, hml, hown, htb⟩ (k_find l dC dI h0 ad cid sg gm lg el nn he hat) (cwV 2 htb (gd_V kw_1157 kw_1158 kw_82 kw_160 kw_1589) rfl rfl rfl (by decide +kernel) ⟨Nat.le_of_ble_eq_true rfl, Nat.le_of_ble_eq_true rfl⟩) rfl hl.1 rfl (Nat.le_of_ble_eq_true rfl) dX13_word_3 ⟨Nat.zero_le _, Nat.zero_le _⟩ hK hP hD hS hA (fun r_1 u_2 H locs hw hP hD hS => ?_)
  obtain ⟨rfl, rfl⟩ := hw
  refine lv_istore (lv' := [(4, .int (mFind gm lg el nn)), (0, .ref h0), (1, .int (nI el)), (2, .long nn)]) hx hb dX13_word_6 hl (by decide) rfl (fun ls hl => ?_)
  refine lv_iload hx hb dX13_word_8 (lv_at hl 0 rfl) ?_
  refine lv_iconst (v := (-1)) hx hb dX13_word_10 (by decide) ?_
  refine lv_icmp_eq (tgt := 26) hx hb dX13_word_11 (by decide) (fun c_3 => ?_) (fun c_3 => ?_)
  · refine lv_ldc2 (own := RX13) (v := (-1)) hx hb hown (htb _ kw_1203) dX13_word_26 ?_
    exact W.lret (v := (-1)) hx hb hr (fun t ht hW => ⟨⟨(-1), (sg, gm, lg), rfl, ⟨(by unfold mWord; rw [if_pos c_3]), rfl⟩, by rw [ht]; exact hP, va_K.moved hW.alike hK, hD⟩, hS.F ht⟩) hS.2.2 dX13_word_29
  · obtain ⟨j9, hj9, ej9⟩ := (mFind_or (lg := lg) nn ha9 hae).resolve_left c_3
    obtain ⟨q9, z9, hq9, hz9, hz24, hqz⟩ := hall j9 hj9
    rw [ej9] at hl
    refine lv_aload_n hx hb dX13_word_14 rfl (lv_at hl 1 rfl) ?_
    refine mr_get (v := .ref (ad 37)) hx hb htb inX13 hown hK hP 37 (by decide) (htb _ kw_1064) rfl dX13_word_15 ?_
    refine lv_iload hx hb dX13_word_18 (lv_at hl 0 rfl) ?_
    refine mr_iald hx hb hK hP 30 (k := 37) rfl rfl rfl (show vp_in (nI (12 * el + j9)) 960 from (vp_in_nI (by omega) (by decide))) dX13_word_20 ?_
    refine lv_topi (fun z_4 ez_4 => ?_)
    obtain rfl : z_4 = (gm 37 (12 * el + j9)) := ez_4.trans (by rw [nI_clamp (by omega)])
    refine lv_topi (fun z_5 ez_5 => ?_)
    obtain rfl : z_5 = nI z9 := ez_5.trans (hz9)
    refine lv_bipush (v := 8) hx hb dX13_word_21 (by decide) ?_
    refine lv_icmp_le (tgt := 30) hx hb dX13_word_23 (by decide) (fun c_6 => ?_) (fun c_6 => ?_)
    · refine lv_lconst (v := 0) hx hb dX13_word_30 (by decide) ?_
      refine lv_lstore (lv' := [(5, .long 0), (4, .int (nI (12 * el + j9))), (0, .ref h0), (1, .int (nI el)), (2, .long nn)]) hx hb dX13_word_31 hl (by decide) rfl (fun ls hl => ?_)
      refine lv_iconst (v := 0) hx hb dX13_word_33 (by decide) ?_
      refine lv_istore (lv' := [(7, .int 0), (5, .long 0), (4, .int (nI (12 * el + j9))), (0, .ref h0), (1, .int (nI el)), (2, .long nn)]) hx hb dX13_word_34 hl (by decide) rfl (fun ls hl => ?_)
      have hloop36 : ∀ (n : Nat) (i : Nat) (vv : Int64) (H : Heap) (locs : List Loc) (ls : Array Slot), i + n = z9 → mWord gm lg el nn = wordF (gm 38) q9 n i vv → va_P (dC, dI) vwCl (mW h0 ad cid sg gm lg) H → va_D A (mW h0 ad cid sg gm lg) → va_S A s.heap H locs → lv_has ls 8 [(7, .int (nI i)), (5, .long vv), (4, .int (nI (12 * el + j9))), (0, .ref h0), (1, .int (nI el)), (2, .long nn)] → W p l e (headSpec wm_X13_word ({ frames := 1, cells := 0, slots := 0, locals := 24 })).room s m ([.ref h0, .int (nI el), .long nn] : List Value).toArray below meth c H locs 0 0 (MQ below (va_Ql (fun r v => r = mWord gm lg el nn ∧ v = (sg, gm, lg)) (MB dC dI h0 ad cid A) A) ([.ref h0, .int (nI el), .long nn] : List Value).toArray s 0 0 A) (F0 m 36 ls []) := by
        intro n
        induction n with
        | zero =>
          intro i vv H locs ls hi9 hE hP hD hS hl
          refine lv_iload hx hb dX13_word_36 (lv_at hl 0 rfl) ?_
          refine lv_aload_n hx hb dX13_word_38 rfl (lv_at hl 3 rfl) ?_
          refine mr_get (v := .ref (ad 37)) hx hb htb inX13 hown hK hP 37 (by decide) (htb _ kw_1064) rfl dX13_word_39 ?_
          refine lv_iload hx hb dX13_word_42 (lv_at hl 2 rfl) ?_
          refine mr_iald hx hb hK hP 30 (k := 37) rfl rfl rfl (show vp_in (nI (12 * el + j9)) 960 from (vp_in_nI (by omega) (by decide))) dX13_word_44 ?_
          refine lv_topi (fun z_7 ez_7 => ?_)
          obtain rfl : z_7 = (gm 37 (12 * el + j9)) := ez_7.trans (by rw [nI_clamp (by omega)])
          refine lv_topi (fun z_8 ez_8 => ?_)
          obtain rfl : z_8 = nI z9 := ez_8.trans (hz9)
          refine lv_icmp_ge (tgt := 78) hx hb dX13_word_45 (by decide) (fun _ => ?_) (fun c_9 => absurd (nI_le (by omega) (by omega)) c_9)
          refine lv_lload hx hb dX13_word_78 (lv_at hl 1 rfl) ?_
          exact W.lret (v := vv) hx hb hr (fun t ht hW => ⟨⟨vv, (sg, gm, lg), rfl, ⟨(hE.symm), rfl⟩, by rw [ht]; exact hP, va_K.moved hW.alike hK, hD⟩, hS.F ht⟩) hS.2.2 dX13_word_80
        | succ n ih =>
          intro i vv H locs ls hi9 hE hP hD hS hl
          refine lv_iload hx hb dX13_word_36 (lv_at hl 0 rfl) ?_
          refine lv_aload_n hx hb dX13_word_38 rfl (lv_at hl 3 rfl) ?_
          refine mr_get (v := .ref (ad 37)) hx hb htb inX13 hown hK hP 37 (by decide) (htb _ kw_1064) rfl dX13_word_39 ?_
          refine lv_iload hx hb dX13_word_42 (lv_at hl 2 rfl) ?_
          refine mr_iald hx hb hK hP 30 (k := 37) rfl rfl rfl (show vp_in (nI (12 * el + j9)) 960 from (vp_in_nI (by omega) (by decide))) dX13_word_44 ?_
          refine lv_topi (fun z_10 ez_10 => ?_)
          obtain rfl : z_10 = (gm 37 (12 * el + j9)) := ez_10.trans (by rw [nI_clamp (by omega)])
          refine lv_topi (fun z_11 ez_11 => ?_)
          obtain rfl : z_11 = nI z9 := ez_11.trans (hz9)
          refine lv_icmp_ge (tgt := 78) hx hb dX13_word_45 (by decide) (fun c_12 => absurd c_12 (nI_ge (by omega) (by omega))) (fun _ => ?_)
          refine lv_lload hx hb dX13_word_48 (lv_at hl 1 rfl) ?_
          refine lv_bipush (v := 8) hx hb dX13_word_50 (by decide) ?_
          refine lv_lshl (v := vv <<< ((8 : Int32).toInt64 &&& 63)) hx hb dX13_word_52 rfl ?_
          refine lv_aload_n hx hb dX13_word_53 rfl (lv_at hl 3 rfl) ?_
          refine mr_get (v := .ref (ad 38)) hx hb htb inX13 hown hK hP 38 (by decide) (htb _ kw_1065) rfl dX13_word_54 ?_
          refine lv_aload_n hx hb dX13_word_57 rfl (lv_at hl 3 rfl) ?_
          refine mr_get (v := .ref (ad 36)) hx hb htb inX13 hown hK hP 36 (by decide) (htb _ kw_1063) rfl dX13_word_58 ?_
          refine lv_iload hx hb dX13_word_61 (lv_at hl 2 rfl) ?_
          refine mr_iald hx hb hK hP 29 (k := 36) rfl rfl rfl (show vp_in (nI (12 * el + j9)) 960 from (vp_in_nI (by omega) (by decide))) dX13_word_63 ?_
          refine lv_topi (fun z_13 ez_13 => ?_)
          obtain rfl : z_13 = (gm 36 (12 * el + j9)) := ez_13.trans (by rw [nI_clamp (by omega)])
          refine lv_topi (fun z_14 ez_14 => ?_)
          obtain rfl : z_14 = nI q9 := ez_14.trans (hq9)
          refine lv_iload hx hb dX13_word_64 (lv_at hl 0 rfl) ?_
          refine lv_iadd hx hb dX13_word_66 ?_
          refine lv_topi (fun z_15 ez_15 => ?_)
          obtain rfl : z_15 = nI (q9 + i) := ez_15.trans (nI_add _ _)
          refine mr_bald hx hb hK hP 31 (k := 38) rfl rfl rfl (show vp_in (nI (q9 + i)) 2000 from (vp_in_nI (by omega) (by decide))) dX13_word_67 ?_
          refine lv_topi (fun z_16 ez_16 => ?_)
          obtain rfl : z_16 = (gm 38 (q9 + i)) := ez_16.trans (by rw [nI_clamp (by omega)])
          refine lv_i2l (v := ((gm 38 (q9 + i)) : Int32).toInt64) hx hb dX13_word_68 rfl ?_
          refine lv_lor hx hb dX13_word_69 ?_
          refine lv_lstore (lv' := [(5, .long ((vv <<< ((8 : Int32).toInt64 &&& 63)) ||| (((gm 38 (q9 + i)) : Int32).toInt64))), (7, .int (nI i)), (4, .int (nI (12 * el + j9))), (0, .ref h0), (1, .int (nI el)), (2, .long nn)]) hx hb dX13_word_70 hl (by decide) rfl (fun ls hl => ?_)
          refine lv_iinc (v := nI (i + 1)) (lv' := [(7, .int (nI (i + 1))), (5, .long ((vv <<< ((8 : Int32).toInt64 &&& 63)) ||| (((gm 38 (q9 + i)) : Int32).toInt64))), (4, .int (nI (12 * el + j9))), (0, .ref h0), (1, .int (nI el)), (2, .long nn)]) hx hb dX13_word_72 hl (k := 1) rfl (nI_1 _) (by decide) rfl (fun ls hl => ?_)
          refine lv_goto (tgt := 36) hx hb dX13_word_75 (by decide) ?_
          exact ih (i + 1) ((vv <<< ((8 : Int32).toInt64 &&& 63)) ||| (((gm 38 (q9 + i)) : Int32).toInt64)) _ _ _ (by omega) (by rw [hE]; rfl) hP hD hS (lv_sub hl [0, 1, 2, 3, 4, 5] rfl)
      exact hloop36 z9 0 0 _ _ _ (by omega) (by unfold mWord; rw [if_neg c_3, ej9, nI_clamp (by omega), hz9, if_pos c_6, hq9, nI_clamp (by omega), nI_clamp (by omega)]) hP hD hS (lv_sub hl [0, 1, 2, 3, 4, 5] rfl)
    · refine lv_ldc2 (own := RX13) (v := (-1)) hx hb hown (htb _ kw_1203) dX13_word_26 ?_
      exact W.lret (v := (-1)) hx hb hr (fun t ht hW => ⟨⟨(-1), (sg, gm, lg), rfl, ⟨(by unfold mWord; rw [if_neg c_3, ej9, nI_clamp (by omega), hz9, if_neg c_6]), rfl⟩, by rw [ht]; exact hP, va_K.moved hW.alike hK, hD⟩, hS.F ht⟩) hS.2.2 dX13_word_29

set_option maxHeartbeats 4000000 in
set_option maxRecDepth 100000 in
theorem k_isWord (l : Launch) (dC : Nat → ClassId) (dI : Nat → Nat → Nat) (h0 : Nat) (ad : Nat → Nat) (cid : Nat → ClassId) (sg : Nat → Int32) (gm : Nat → Nat → Int32) (lg : Nat → Nat → Int64) (el : Nat) (nn : Int64) (he : el < 80) (hat : mAtt gm el) : MMi l dC dI yX13_isWord wm_X13_isWord ({ frames := 1, cells := 0, slots := 0, locals := 24 }) h0 ad cid [.int (nI el), .long nn] sg gm lg (fun r v => r = mIsW gm lg el nn ∧ v = (sg, gm, lg)) := by
  intro sz
  refine Met.ofW (cc := cX13_isWord) (maxL := 6) (ret := (some .boolean)) (by decide) rfl ?_
  intro p e s m args below meth c s₁ B hml hv
  obtain ⟨rfl, hsz, hP, hK, hD0⟩ := hv
  have hx := B.exec
  have hb := B.bytes
  have hr := B.returns
  have hts := atoms_spec (ws := wm_X13_isWord) B.pre
  have htb := fun (w : Cond) (h : w ∈ tb) => hts w (List.mem_cons_of_mem _ h)
  have hown : s.vm.findClass RX13 = some m.cls := findClass_of_methodNamed B.named
  have hlocks := B.notSynchronized
  subst hsz
  have hD := hD0.self (sz := s.heap.size)
  generalize hAe : va_A (mW h0 ad cid sg gm lg) s.heap.size = A at hD ⊢
  have hA : ∀ q : Nat, s.heap.size ≤ q → A q := fun q h => by rw [← hAe]; exact Or.inr h
  have hS : va_S A s.heap s.heap [] := va_S.rf
  have hl := lv_entry ([.ref h0, .int (nI el), .long nn]) (n := 6) (Nat.le_of_ble_eq_true rfl)
  rw [lg_entry_eq]
  generalize (lg_sl ([.ref h0, .int (nI el), .long nn]) ++ List.replicate (6 - (lg_sl ([.ref h0, .int (nI el), .long nn])).length) Slot.unset).toArray = ls at hl ⊢
  have hl : lv_has ls 6 [(0, .ref h0), (1, .int (nI el)), (2, .long nn)] := hl
  obtain ⟨a9, ha9, hae, hall⟩ := id hat
  refine lv_aload_n hx hb dX13_isWord_0 rfl (lv_at hl 0 rfl) ?_
  refine lv_iload_n hx hb dX13_isWord_1 rfl (lv_at hl 1 rfl) ?_
  refine lv_lload_n hx hb dX13_isWord_2 rfl (lv_at hl 2 rfl) ?_
  refine mr_calli (rest := []) ⟨hx, hb, hml, hown, htb⟩ (k_find l dC dI h0 ad cid sg gm lg el nn he hat) (cwV 2 htb (gd_V kw_1157 kw_1158 kw_82 kw_160 kw_1589) rfl rfl rfl (by decide +kernel) ⟨Nat.le_of_ble_eq_true rfl, Nat.le_of_ble_eq_true rfl⟩) rfl hl.1 rfl (Nat.le_of_ble_eq_true rfl) dX13_isWord_3 ⟨Nat.zero_le _, Nat.zero_le _⟩ hK hP hD hS hA (fun r_1 u_2 H locs hw hP hD hS => ?_)
  obtain ⟨rfl, rfl⟩ := hw
  refine lv_istore (lv' := [(4, .int (mFind gm lg el nn)), (0, .ref h0), (1, .int (nI el)), (2, .long nn)]) hx hb dX13_isWord_6 hl (by decide) rfl (fun ls hl => ?_)
  refine lv_iload hx hb dX13_isWord_8 (lv_at hl 0 rfl) ?_
  refine lv_iconst (v := (-1)) hx hb dX13_isWord_10 (by decide) ?_
  refine lv_icmp_eq (tgt := 37) hx hb dX13_isWord_11 (by decide) (fun c_3 => ?_) (fun c_3 => ?_)
  · refine lv_iconst (v := 0) hx hb dX13_isWord_37 (by decide) ?_
    exact W.zret (v := 0) hx hb hr rfl (fun t ht hW => ⟨⟨0, (sg, gm, lg), rfl, ⟨(by unfold mIsW; rw [if_pos c_3]), rfl⟩, by rw [ht]; exact hP, va_K.moved hW.alike hK, hD⟩, hS.F ht⟩) hS.2.2 dX13_isWord_38
  · obtain ⟨j9, hj9, ej9⟩ := (mFind_or (lg := lg) nn ha9 hae).resolve_left c_3
    obtain ⟨q9, z9, hq9, hz9, hz24, hqz⟩ := hall j9 hj9
    rw [ej9] at hl
    refine lv_aload_n hx hb dX13_isWord_14 rfl (lv_at hl 1 rfl) ?_
    refine mr_get (v := .ref (ad 37)) hx hb htb inX13 hown hK hP 37 (by decide) (htb _ kw_1064) rfl dX13_isWord_15 ?_
    refine lv_iload hx hb dX13_isWord_18 (lv_at hl 0 rfl) ?_
    refine mr_iald hx hb hK hP 30 (k := 37) rfl rfl rfl (show vp_in (nI (12 * el + j9)) 960 from (vp_in_nI (by omega) (by decide))) dX13_isWord_20 ?_
    refine lv_topi (fun z_4 ez_4 => ?_)
    obtain rfl : z_4 = (gm 37 (12 * el + j9)) := ez_4.trans (by rw [nI_clamp (by omega)])
    refine lv_topi (fun z_5 ez_5 => ?_)
    obtain rfl : z_5 = nI z9 := ez_5.trans (hz9)
    refine lv_iconst (v := 1) hx hb dX13_isWord_21 (by decide) ?_
    refine lv_icmp_lt (tgt := 37) hx hb dX13_isWord_22 (by decide) (fun c_6 => ?_) (fun c_6 => ?_)
    · refine lv_iconst (v := 0) hx hb dX13_isWord_37 (by decide) ?_
      exact W.zret (v := 0) hx hb hr rfl (fun t ht hW => ⟨⟨0, (sg, gm, lg), rfl, ⟨(by unfold mIsW; rw [if_neg c_3, ej9, nI_clamp (by omega), hz9, if_pos c_6]), rfl⟩, by rw [ht]; exact hP, va_K.moved hW.alike hK, hD⟩, hS.F ht⟩) hS.2.2 dX13_isWord_38
    · refine lv_aload_n hx hb dX13_isWord_25 rfl (lv_at hl 1 rfl) ?_
      refine mr_get (v := .ref (ad 37)) hx hb htb inX13 hown hK hP 37 (by decide) (htb _ kw_1064) rfl dX13_isWord_26 ?_
      refine lv_iload hx hb dX13_isWord_29 (lv_at hl 0 rfl) ?_
      refine mr_iald hx hb hK hP 30 (k := 37) rfl rfl rfl (show vp_in (nI (12 * el + j9)) 960 from (vp_in_nI (by omega) (by decide))) dX13_isWord_31 ?_
      refine lv_topi (fun z_7 ez_7 => ?_)
      obtain rfl : z_7 = (gm 37 (12 * el + j9)) := ez_7.trans (by rw [nI_clamp (by omega)])
      refine lv_topi (fun z_8 ez_8 => ?_)
      obtain rfl : z_8 = nI z9 := ez_8.trans (hz9)
      refine lv_bipush (v := 8) hx hb dX13_isWord_32 (by decide) ?_
      refine lv_icmp_le (tgt := 39) hx hb dX13_isWord_34 (by decide) (fun c_9 => ?_) (fun c_9 => ?_)
      · refine lv_iconst (v := 0) hx hb dX13_isWord_39 (by decide) ?_
        refine lv_istore (lv' := [(5, .int 0), (4, .int (nI (12 * el + j9))), (0, .ref h0), (1, .int (nI el)), (2, .long nn)]) hx hb dX13_isWord_40 hl (by decide) rfl (fun ls hl => ?_)
        have hloop42 : ∀ (n : Nat) (i : Nat) (H : Heap) (locs : List Loc) (ls : Array Slot), i + n = z9 → mIsW gm lg el nn = allF (gm 38) q9 n i → va_P (dC, dI) vwCl (mW h0 ad cid sg gm lg) H → va_D A (mW h0 ad cid sg gm lg) → va_S A s.heap H locs → lv_has ls 6 [(5, .int (nI i)), (4, .int (nI (12 * el + j9))), (0, .ref h0), (1, .int (nI el)), (2, .long nn)] → W p l e (headSpec wm_X13_isWord ({ frames := 1, cells := 0, slots := 0, locals := 24 })).room s m ([.ref h0, .int (nI el), .long nn] : List Value).toArray below meth c H locs 0 0 (MQ below (va_Qi (fun r v => r = mIsW gm lg el nn ∧ v = (sg, gm, lg)) (MB dC dI h0 ad cid A) A) ([.ref h0, .int (nI el), .long nn] : List Value).toArray s 0 0 A) (F0 m 42 ls []) := by
          intro n
          induction n with
          | zero =>
            intro i H locs ls hi9 hE hP hD hS hl
            refine lv_iload hx hb dX13_isWord_42 (lv_at hl 0 rfl) ?_
            refine lv_aload_n hx hb dX13_isWord_44 rfl (lv_at hl 2 rfl) ?_
            refine mr_get (v := .ref (ad 37)) hx hb htb inX13 hown hK hP 37 (by decide) (htb _ kw_1064) rfl dX13_isWord_45 ?_
            refine lv_iload hx hb dX13_isWord_48 (lv_at hl 1 rfl) ?_
            refine mr_iald hx hb hK hP 30 (k := 37) rfl rfl rfl (show vp_in (nI (12 * el + j9)) 960 from (vp_in_nI (by omega) (by decide))) dX13_isWord_50 ?_
            refine lv_topi (fun z_10 ez_10 => ?_)
            obtain rfl : z_10 = (gm 37 (12 * el + j9)) := ez_10.trans (by rw [nI_clamp (by omega)])
            refine lv_topi (fun z_11 ez_11 => ?_)
            obtain rfl : z_11 = nI z9 := ez_11.trans (hz9)
            refine lv_icmp_ge (tgt := 84) hx hb dX13_isWord_51 (by decide) (fun _ => ?_) (fun c_12 => absurd (nI_le (by omega) (by omega)) c_12)
            refine lv_iconst (v := 1) hx hb dX13_isWord_84 (by decide) ?_
            exact W.zret (v := 1) hx hb hr rfl (fun t ht hW => ⟨⟨1, (sg, gm, lg), rfl, ⟨(hE.symm), rfl⟩, by rw [ht]; exact hP, va_K.moved hW.alike hK, hD⟩, hS.F ht⟩) hS.2.2 dX13_isWord_85
          | succ n ih =>
            intro i H locs ls hi9 hE hP hD hS hl
            refine lv_iload hx hb dX13_isWord_42 (lv_at hl 0 rfl) ?_
            refine lv_aload_n hx hb dX13_isWord_44 rfl (lv_at hl 2 rfl) ?_
            refine mr_get (v := .ref (ad 37)) hx hb htb inX13 hown hK hP 37 (by decide) (htb _ kw_1064) rfl dX13_isWord_45 ?_
            refine lv_iload hx hb dX13_isWord_48 (lv_at hl 1 rfl) ?_
            refine mr_iald hx hb hK hP 30 (k := 37) rfl rfl rfl (show vp_in (nI (12 * el + j9)) 960 from (vp_in_nI (by omega) (by decide))) dX13_isWord_50 ?_
            refine lv_topi (fun z_13 ez_13 => ?_)
            obtain rfl : z_13 = (gm 37 (12 * el + j9)) := ez_13.trans (by rw [nI_clamp (by omega)])
            refine lv_topi (fun z_14 ez_14 => ?_)
            obtain rfl : z_14 = nI z9 := ez_14.trans (hz9)
            refine lv_icmp_ge (tgt := 84) hx hb dX13_isWord_51 (by decide) (fun c_15 => absurd c_15 (nI_ge (by omega) (by omega))) (fun _ => ?_)
            refine lv_aload_n hx hb dX13_isWord_54 rfl (lv_at hl 2 rfl) ?_
            refine lv_aload_n hx hb dX13_isWord_55 rfl (lv_at hl 2 rfl) ?_
            refine mr_get (v := .ref (ad 38)) hx hb htb inX13 hown hK hP 38 (by decide) (htb _ kw_1065) rfl dX13_isWord_56 ?_
            refine lv_aload_n hx hb dX13_isWord_59 rfl (lv_at hl 2 rfl) ?_
            refine mr_get (v := .ref (ad 36)) hx hb htb inX13 hown hK hP 36 (by decide) (htb _ kw_1063) rfl dX13_isWord_60 ?_
            refine lv_iload hx hb dX13_isWord_63 (lv_at hl 1 rfl) ?_
            refine mr_iald hx hb hK hP 29 (k := 36) rfl rfl rfl (show vp_in (nI (12 * el + j9)) 960 from (vp_in_nI (by omega) (by decide))) dX13_isWord_65 ?_
            refine lv_topi (fun z_16 ez_16 => ?_)
            obtain rfl : z_16 = (gm 36 (12 * el + j9)) := ez_16.trans (by rw [nI_clamp (by omega)])
            refine lv_topi (fun z_17 ez_17 => ?_)
            obtain rfl : z_17 = nI q9 := ez_17.trans (hq9)
            refine lv_iload hx hb dX13_isWord_66 (lv_at hl 0 rfl) ?_
            refine lv_iadd hx hb dX13_isWord_68 ?_
            refine lv_topi (fun z_18 ez_18 => ?_)
            obtain rfl : z_18 = nI (q9 + i) := ez_18.trans (nI_add _ _)
            refine mr_bald hx hb hK hP 31 (k := 38) rfl rfl rfl (show vp_in (nI (q9 + i)) 2000 from (vp_in_nI (by omega) (by decide))) dX13_isWord_69 ?_
            refine lv_topi (fun z_19 ez_19 => ?_)
            obtain rfl : z_19 = (gm 38 (q9 + i)) := ez_19.trans (by rw [nI_clamp (by omega)])
            refine mr_calli (rest := []) ⟨hx, hb, hml, hown, htb⟩ (k_isSmall l dC dI h0 ad cid sg gm lg (gm 38 (q9 + i))) (cwV 1 htb (gd_V kw_1149 kw_1150 kw_78 kw_160 kw_1585) rfl rfl rfl (by decide +kernel) ⟨Nat.le_of_ble_eq_true rfl, Nat.le_of_ble_eq_true rfl⟩) rfl hl.1 rfl (Nat.le_of_ble_eq_true rfl) dX13_isWord_70 ⟨Nat.zero_le _, Nat.zero_le _⟩ hK hP hD hS hA (fun r_20 u_21 H locs hw hP hD hS => ?_)
            obtain ⟨rfl, rfl⟩ := hw
            refine lv_if_ne (tgt := 78) hx hb dX13_isWord_73 (by decide) (fun c_22 => ?_) (fun c_22 => ?_)
            · refine lv_iinc (v := nI (i + 1)) (lv' := [(5, .int (nI (i + 1))), (4, .int (nI (12 * el + j9))), (0, .ref h0), (1, .int (nI el)), (2, .long nn)]) hx hb dX13_isWord_78 hl (k := 0) rfl (nI_1 _) (by decide) rfl (fun ls hl => ?_)
              refine lv_goto (tgt := 42) hx hb dX13_isWord_81 (by decide) ?_
              exact ih (i + 1) _ _ _ (by omega) (by rw [hE]; show (if _ then _ else _) = _; rw [if_neg c_22]) hP hD hS (lv_sub hl [0, 1, 2, 3, 4] rfl)
            · refine lv_iconst (v := 0) hx hb dX13_isWord_76 (by decide) ?_
              exact W.zret (v := 0) hx hb hr rfl (fun t ht hW => ⟨⟨0, (sg, gm, lg), rfl, ⟨(by rw [hE]; show _ = (if _ then _ else _); rw [if_pos c_22]), rfl⟩, by rw [ht]; exact hP, va_K.moved hW.alike hK, hD⟩, hS.F ht⟩) hS.2.2 dX13_isWord_77
        exact hloop42 z9 0 _ _ _ (by omega) (by unfold mIsW; rw [if_neg c_3, ej9, nI_clamp (by omega), hz9, if_neg c_6, if_pos c_9, hq9, nI_clamp (by omega), nI_clamp (by omega)]) hP hD hS (lv_sub hl [0, 1, 2, 3, 4] rfl)
      · refine lv_iconst (v := 0) hx hb dX13_isWord_37 (by decide) ?_
        exact W.zret (v := 0) hx hb hr rfl (fun t ht hW => ⟨⟨0, (sg, gm, lg), rfl, ⟨(by unfold mIsW; rw [if_neg c_3, ej9, nI_clamp (by omega), hz9, if_neg c_6, if_neg c_9]), rfl⟩, by rw [ht]; exact hP, va_K.moved hW.alike hK, hD⟩, hS.F ht⟩) hS.2.2 dX13_isWord_38
end
section
/-- x lies between a and b -/
def iv (a b : Int) (x : Int32) : Prop := a ≤ x.toInt ∧ x.toInt ≤ b
theorem iv_w {a b c d : Int} {x : Int32} (h : iv a b x) (hc : c ≤ a ∧ b ≤ d) : iv c d x := ⟨Int.le_trans hc.1 h.1, Int.le_trans h.2 hc.2⟩
theorem iv_k {a b : Int} {x : Int32} (h : a ≤ x.toInt ∧ x.toInt ≤ b) : iv a b x := h
theorem iv_of {a b : Int} {x y : Int32} (q : y = x) (h : iv a b x) : iv a b y := by rw [q]; exact h
theorem iv_all (x : Int32) : iv (-2147483648) 2147483647 x := ⟨Int32.le_toInt x, by have := Int32.toInt_lt x; omega⟩
theorem iv_no {a b : Int} {x : Int32} (h : iv a b x) (hc : b < a) : False := by
  have h1 := h.1
  have h2 := h.2
  omega
theorem i32_bm {z : Int} (h : -2147483648 ≤ z ∧ z ≤ 2147483647) : z.bmod (2 ^ 32) = z := by
  rw [Int.bmod_def]
  have : ((2 ^ 32 : Nat) : Int) = 4294967296 := by decide
  rw [this]
  split <;> omega
theorem iv_addE {a b c d : Int} {x y : Int32} (h1 : iv a b x) (h2 : iv c d y) (h : -2147483648 ≤ a + c ∧ b + d ≤ 2147483647) : (x + y).toInt = x.toInt + y.toInt := by
  have q1 := h1.1
  have q2 := h1.2
  have q3 := h2.1
  have q4 := h2.2
  rw [Int32.toInt_add, i32_bm]
  omega
theorem iv_add {a b c d lo hi : Int} {x y : Int32} (h1 : iv a b x) (h2 : iv c d y) (h : (-2147483648 ≤ a + c ∧ b + d ≤ 2147483647) ∧ lo ≤ a + c ∧ b + d ≤ hi) : iv lo hi (x + y) := by
  have q1 := h1.1
  have q2 := h1.2
  have q3 := h2.1
  have q4 := h2.2
  refine ⟨?_, ?_⟩ <;> rw [iv_addE h1 h2 h.1] <;> omega
theorem iv_subE {a b c d : Int} {x y : Int32} (h1 : iv a b x) (h2 : iv c d y) (h : -2147483648 ≤ a - d ∧ b - c ≤ 2147483647) : (x - y).toInt = x.toInt - y.toInt := by
  have q1 := h1.1
  have q2 := h1.2
  have q3 := h2.1
  have q4 := h2.2
  rw [Int32.toInt_sub, i32_bm]
  omega
theorem iv_sub {a b c d lo hi : Int} {x y : Int32} (h1 : iv a b x) (h2 : iv c d y) (h : (-2147483648 ≤ a - d ∧ b - c ≤ 2147483647) ∧ lo ≤ a - d ∧ b - c ≤ hi) : iv lo hi (x - y) := by
  have q1 := h1.1
  have q2 := h1.2
  have q3 := h2.1
  have q4 := h2.2
  refine ⟨?_, ?_⟩ <;> rw [iv_subE h1 h2 h.1] <;> omega
theorem iv_mulE {a b c d : Int} {x y : Int32} (h1 : iv a b x) (h2 : iv c d y) (h : (0 ≤ a ∧ 0 ≤ c) ∧ b * d ≤ 2147483647) : (x * y).toInt = x.toInt * y.toInt := by
  have q1 := h1.1
  have q2 := h1.2
  have q3 := h2.1
  have q4 := h2.2
  have k1 : 0 ≤ x.toInt * y.toInt := Int.mul_nonneg (by omega) (by omega)
  have k2 : x.toInt * y.toInt ≤ b * d := Int.mul_le_mul q2 q4 (by omega) (by omega)
  rw [Int32.toInt_mul, i32_bm]
  omega
theorem iv_mul {a b c d lo hi : Int} {x y : Int32} (h1 : iv a b x) (h2 : iv c d y) (h : ((0 ≤ a ∧ 0 ≤ c) ∧ b * d ≤ 2147483647) ∧ lo ≤ a * c ∧ b * d ≤ hi) : iv lo hi (x * y) := by
  have q1 := h1.1
  have q2 := h1.2
  have q3 := h2.1
  have q4 := h2.2
  have k1 : a * c ≤ x.toInt * y.toInt := Int.mul_le_mul q1 q3 (by omega) (by omega)
  have k2 : x.toInt * y.toInt ≤ b * d := Int.mul_le_mul q2 q4 (by omega) (by omega)
  refine ⟨?_, ?_⟩ <;> rw [iv_mulE h1 h2 h.1] <;> omega
theorem iv_ltL {a b c d hi : Int} {x y : Int32} (h : x < y) (h1 : iv a b x) (h2 : iv c d y) (q : d - 1 ≤ hi ∨ b ≤ hi) : iv a hi x := by
  have h := Int32.lt_iff_toInt_lt.mp h
  have q2 := h1.2
  have q4 := h2.2
  exact ⟨h1.1, by omega⟩
theorem iv_ltR {a b c d lo : Int} {x y : Int32} (h : x < y) (h1 : iv a b x) (h2 : iv c d y) (q : lo ≤ a + 1 ∨ lo ≤ c) : iv lo d y := by
  have h := Int32.lt_iff_toInt_lt.mp h
  have q2 := h1.1
  have q4 := h2.1
  exact ⟨by omega, h2.2⟩
theorem iv_leL {a b c d hi : Int} {x y : Int32} (h : x ≤ y) (h1 : iv a b x) (h2 : iv c d y) (q : d ≤ hi ∨ b ≤ hi) : iv a hi x := by
  have h := Int32.le_iff_toInt_le.mp h
  have q2 := h1.2
  have q4 := h2.2
  exact ⟨h1.1, by omega⟩
theorem iv_leR {a b c d lo : Int} {x y : Int32} (h : x ≤ y) (h1 : iv a b x) (h2 : iv c d y) (q : lo ≤ a ∨ lo ≤ c) : iv lo d y := by
  have h := Int32.le_iff_toInt_le.mp h
  have q2 := h1.1
  have q4 := h2.1
  exact ⟨by omega, h2.2⟩
theorem iv_eq {a b c d lo hi : Int} {x y : Int32} (h : x = y) (h1 : iv a b x) (h2 : iv c d y) (q : (lo ≤ a ∨ lo ≤ c) ∧ (b ≤ hi ∨ d ≤ hi)) : iv lo hi x := by
  subst h
  have q1 := h1.1
  have q2 := h1.2
  have q3 := h2.1
  have q4 := h2.2
  exact ⟨by omega, by omega⟩
theorem iv_neL {a b lo : Int} {x y : Int32} (h : ¬ x = y) (h1 : iv a b x) (q : y.toInt = a ∧ lo = a + 1) : iv lo b x := by
  have q1 := h1.1
  have q3 : x.toInt ≠ y.toInt := fun k => h (Int32.toInt_inj.mp k)
  exact ⟨by omega, h1.2⟩
theorem iv_neH {a b hi : Int} {x y : Int32} (h : ¬ x = y) (h1 : iv a b x) (q : y.toInt = b ∧ hi = b - 1) : iv a hi x := by
  have q1 := h1.2
  have q3 : x.toInt ≠ y.toInt := fun k => h (Int32.toInt_inj.mp k)
  exact ⟨h1.1, by omega⟩
theorem iv_at {x : Int32} {k : Int} (h : x.toInt = k) : iv k k x := ⟨by omega, by omega⟩
theorem iv_in {a b : Int} {x : Int32} {n : Nat} (h : iv a b x) (q : 0 ≤ a ∧ b < (n : Int)) : vp_in x n := vp_in_iff.mpr ⟨Int.le_trans q.1 h.1, Int.lt_of_le_of_lt h.2 q.2⟩
theorem iv_cl {a b : Int} {x : Int32} (h : iv a b x) (q : 0 ≤ a) : ((x.toNatClampNeg : Nat) : Int) = x.toInt := by
  have h1 := h.1
  show ((x.toInt.toNat : Nat) : Int) = x.toInt
  omega
theorem iv_nI {a b : Int} {x : Int32} (h : iv a b x) (q : 0 ≤ a) : nI x.toNatClampNeg = x := by
  have h1 := h.1
  have h2 := Int32.toInt_lt x
  have h3 := iv_cl h q
  apply Int32.toInt_inj.mp
  rw [nI_toInt (by omega)]
  exact h3
theorem iv_meas {a b M : Int} {x z : Int32} (h : z.toInt = x.toInt + 1) (h1 : iv a b x) (q : b < M) : (M - z.toInt).toNat < (M - x.toInt).toNat := by
  have h2 := h1.2
  omega
theorem iv_bool {x : Int32} (h : iv 0 1 x) : x = 0 ∨ x = 1 := by
  have h1 := h.1
  have h2 := h.2
  by_cases k : x.toInt = 0
  · exact Or.inl (Int32.toInt_inj.mp k)
  · exact Or.inr (Int32.toInt_inj.mp (by show x.toInt = 1; omega))
theorem iv_nb {x : Int32} (h : iv 0 1 x) : narrow .boolean (.int x) = .int x := by
  rcases iv_bool h with rfl | rfl <;> rfl
theorem iv_fb {x : Int32} (h : iv 0 1 x) : fits .boolean (.int x) = true := by
  rcases iv_bool h with rfl | rfl <;> rfl
theorem iv_vb {x : Int32} (h : iv 0 1 x) : vp_nar .boolean x = x := by
  rcases iv_bool h with rfl | rfl <;> rfl
theorem iv_cmp (x y : Int64) : iv (-1) 1 (lg_cmp x y) := by
  unfold lg_cmp
  split
  · exact iv_k (by decide)
  · split <;> exact iv_k (by decide)
theorem iv_byte (x : Int32) : iv (-128) 127 (x.toInt8.toInt32) := by
  have h1 := Int8.le_toInt x.toInt8
  have h2 := Int8.toInt_lt x.toInt8
  refine ⟨?_, ?_⟩ <;> rw [Int8.toInt_toInt32] <;> omega
theorem iv_vby (x : Int32) : iv (-128) 127 (vp_nar .byte x) := by rw [vp_nar_byte]; exact iv_byte x
theorem iv_vbz {a b : Int} {x : Int32} (h : iv a b x) (q : 0 ≤ a ∧ b ≤ 127) : vp_nar .byte x = x := by
  rw [vp_nar_byte]
  apply Int32.toInt_inj.mp
  have h1 := h.1
  have h2 := h.2
  rw [Int8.toInt_toInt32, Int32.toInt_toInt8, Int.bmod_def]
  have : ((2 ^ 8 : Nat) : Int) = 256 := by decide
  rw [this]
  split <;> omega
theorem i32_ge {x y : Int32} (h : ¬ x < y) : y ≤ x := Int32.not_lt.mp h
theorem i32_lt {x y : Int32} (h : ¬ y ≤ x) : x < y := Int32.not_le.mp h
/-- the two rows of numbers are alike but at the places L -/
def KS {α : Type} (L : List Nat) (f g : Nat → α) : Prop := ∀ k, L.contains k = false → g k = f k
theorem KS_rf {α : Type} {L : List Nat} {f : Nat → α} : KS L f f := fun _ _ => rfl
theorem KS_up {α : Type} {L : List Nat} {f g g1 : Nat → α} {k : Nat} {x : α} (h : KS L f g) (q : g1 = va_up g k x) (hk : L.contains k = true) : KS L f g1 := fun j hj => by
  rw [q, va_up_ne g x (fun e => by rw [e, hk] at hj; cases hj)]
  exact h j hj
theorem KS_tr {α : Type} {L M : List Nat} {f g g1 : Nat → α} (h : KS L f g) (q : KS M g g1) (hk : M.all (fun k => L.contains k) = true) : KS L f g1 := fun j hj => by
  have hm : M.contains j = false := by
    cases hc : M.contains j with
    | false => rfl
    | true =>
      have h1 := List.all_eq_true.mp hk j (List.contains_iff_mem.mp hc)
      rw [h1] at hj
      cases hj
  exact (q j hm).trans (h j hj)
theorem up_ne {α : Type} {g g1 : Nat → α} {k j : Nat} {x : α} (q : g1 = va_up g k x) (h : j ≠ k) : g1 j = g j := by rw [q, va_up_ne g x h]
theorem up_at {α : Type} {g g1 : Nat → α} {k : Nat} {x : α} (q : g1 = va_up g k x) : g1 k = x := by rw [q, va_up_self]
end
section
def sLo (k : Nat) : Int := match k with
  | 20 => 0
  | 21 => 0
  | 22 => 0
  | 24 => 0
  | 25 => 0
  | 40 => 0
  | 41 => 0
  | 48 => 0
  | 49 => 0
  | 50 => 0
  | 51 => 0
  | 52 => -1
  | 63 => 0
  | 74 => -1
  | 76 => 0
  | _ => -2147483648
def sHi (k : Nat) : Int := match k with
  | 20 => 1200
  | 21 => 1201
  | 22 => 3
  | 24 => 80
  | 25 => 1201
  | 40 => 1
  | 41 => 80
  | 48 => 60
  | 49 => 400
  | 50 => 80
  | 51 => 8
  | 52 => 79
  | 63 => 80
  | 74 => 59
  | 76 => 1
  | _ => 2147483647
def aLo (k : Nat) : Int := match k with
  | 3 => 3
  | 4 => 34
  | 6 => -1
  | 7 => 0
  | 8 => 0
  | 10 => 0
  | 11 => 0
  | 12 => 0
  | 13 => 0
  | 14 => 0
  | 15 => 0
  | 16 => 0
  | 18 => 0
  | 19 => 0
  | 26 => 0
  | 27 => 0
  | 28 => -1
  | 29 => 0
  | 30 => 0
  | 31 => 0
  | 32 => 0
  | 36 => 0
  | 37 => 0
  | 38 => -128
  | 39 => -128
  | 42 => 0
  | 43 => 0
  | 44 => 0
  | 45 => 0
  | 46 => 0
  | 47 => 0
  | 53 => 0
  | 54 => 0
  | 59 => 0
  | 60 => -1
  | 61 => 0
  | 62 => 0
  | 64 => 0
  | 65 => 0
  | 66 => 0
  | 67 => 0
  | 68 => -1
  | 69 => -1
  | 70 => 0
  | 71 => 0
  | 72 => 0
  | 73 => 0
  | 75 => -1
  | _ => -2147483648
def aHi (k : Nat) : Int := match k with
  | 3 => 5
  | 4 => 62
  | 6 => 7
  | 7 => 4
  | 8 => 3
  | 10 => 8
  | 11 => 25
  | 12 => 15
  | 13 => 4
  | 14 => 25
  | 15 => 7
  | 16 => 3
  | 18 => 1
  | 19 => 126
  | 26 => 10
  | 27 => 1201
  | 28 => 79
  | 29 => 80
  | 30 => 12
  | 31 => 24
  | 32 => 1201
  | 36 => 1201
  | 37 => 24
  | 38 => 127
  | 39 => 127
  | 42 => 79
  | 43 => 79
  | 44 => 26
  | 45 => 79
  | 46 => 26
  | 47 => 79
  | 53 => 7
  | 54 => 79
  | 59 => 79
  | 60 => 59
  | 61 => 1
  | 62 => 1
  | 64 => 79
  | 65 => 4
  | 66 => 26
  | 67 => 6
  | 68 => 59
  | 69 => 59
  | 70 => 3
  | 71 => 1079
  | 72 => 3
  | 73 => 1079
  | 75 => 3
  | _ => 2147483647
/-- every field and every cell of the reference keeps to its range -/
def MI (sg : Nat → Int32) (gm : Nat → Nat → Int32) : Prop := (∀ k, iv (sLo k) (sHi k) (sg k)) ∧ ∀ k i, i < mLen k → iv (aLo k) (aHi k) (gm k i)
theorem MI_s {sg : Nat → Int32} {gm : Nat → Nat → Int32} (h : MI sg gm) (k : Nat) : iv (sLo k) (sHi k) (sg k) := h.1 k
theorem MI_a {sg : Nat → Int32} {gm : Nat → Nat → Int32} {a b : Int} {x : Int32} (h : MI sg gm) (k : Nat) (hx : iv a b x) (q : 0 ≤ a ∧ b < (mLen k : Int)) : iv (aLo k) (aHi k) (gm k x.toNatClampNeg) := h.2 k _ (by
  have h1 := iv_cl hx q.1
  have h2 := hx.2
  have h3 := q.2
  omega)
theorem MI_put {sg sg1 : Nat → Int32} {gm : Nat → Nat → Int32} {a b : Int} {x : Int32} {k : Nat} (h : MI sg gm) (q : sg1 = va_up sg k x) (hx : iv a b x) (hk : sLo k ≤ a ∧ b ≤ sHi k) : MI sg1 gm := ⟨fun j => by
  by_cases hj : j = k
  · subst hj; rw [up_at q]; exact iv_w hx hk
  · rw [up_ne q hj]; exact h.1 j, h.2⟩
theorem MI_st {sg : Nat → Int32} {gm gm1 : Nat → Nat → Int32} {a b : Int} {x : Int32} {k j : Nat} (h : MI sg gm) (q : gm1 = va_up gm k (upd (gm k) j x)) (hx : iv a b x) (hk : aLo k ≤ a ∧ b ≤ aHi k) : MI sg gm1 := ⟨h.1, fun i n hn => by
  by_cases hj : i = k
  · subst hj
    rw [up_at q]
    show iv _ _ (if n = j then x else gm i n)
    by_cases e9 : n = j
    · rw [if_pos e9]; exact iv_w hx hk
    · rw [if_neg e9]; exact h.2 i n hn
  · rw [up_ne q hj]; exact h.2 i n hn⟩
section MA
variable {p : Program} {l : Launch} {e : Env} {R : Room} {s : State} {m : MethodId} {args : Array Value} {below : List Frame} {meth : Method} {c : Code} {H : Heap} {locs : List Loc} {cells slots : Nat} {Q : State → Prop} {cc : ByteArray} {pc : Nat} {ls : Array Slot} {rest : List Value} {A : Nat → Prop} {H0 : Heap}
variable {dC : Nat → ClassId} {dI : Nat → Nat → Nat} {h0 : Nat} {ad : Nat → Nat} {cid : Nat → ClassId} {sg : Nat → Int32} {gm : Nat → Nat → Int32} {lg : Nat → Nat → Int64} {Ts : List Cond} {own : String} {index : Nat}
theorem ma_put (hexec : p.tables.exec = Jvm.exec) (hb : c.code = cc) (hts : ∀ w ∈ Ts, w.before args s = true) (hin : ∀ w ∈ u_ws RX13 TX13 77, w ∈ Ts) (hown : s.vm.findClass own = some m.cls) (hK : va_K (dC, dI) vwCl (mT cid) s) (hP : va_P (dC, dI) vwCl (mW h0 ad cid sg gm lg) H) (hD : va_D A (mW h0 ad cid sg gm lg)) (hS : va_S A H0 H locs) (k : Nat) (hk : k < 77) (hm : mArr k = false) (hlink : (Cond.fieldLink own index (TX13 k).1 (TX13 k).2.1 (TX13 k).2.2.1).before args s = true) (hfin : (TX13 k).2.2.2 = false) {x : Int32} (hn : narrow (tyX13 k) (.int x) = .int x) (hfit : fits (tyX13 k) (.int x) = true) (hdg : decode cc pc = .ok (.putfield index, 3))
    (kk : ∀ (sg1 : Nat → Int32) (H1 : Heap) (locs1 : List Loc), sg1 = va_up sg k x → va_P (dC, dI) vwCl (mW h0 ad cid sg1 gm lg) H1 → va_D A (mW h0 ad cid sg1 gm lg) → va_S A H0 H1 locs1 → W p l e R s m args below meth c H1 locs1 cells slots Q (F0 m (pc + 3) ls rest)) : W p l e R s m args below meth c H locs cells slots Q (F0 m pc ls (.int x :: .ref h0 :: rest)) :=
  mr_put hexec hb hts hin hown hK hP hD hS k hk hm hlink hfin hn hfit hdg (fun H1 locs1 => kk _ H1 locs1 rfl)
theorem ma_iast (hexec : p.tables.exec = Jvm.exec) (hb : c.code = cc) (hK : va_K (dC, dI) vwCl (mT cid) s) (hP : va_P (dC, dI) vwCl (mW h0 ad cid sg gm lg) H) (hD : va_D A (mW h0 ad cid sg gm lg)) (hS : va_S A H0 H locs) (i : Nat) {k : Nat} (hi : mK[i]? = some k) (hl : mLong k = false) (ht : mTy k = .int) {j x : Int32} (hin : vp_in j (mLen k)) (hdg : decode cc pc = .ok (.iastore, 1))
    (kk : ∀ (gm1 : Nat → Nat → Int32) (H1 : Heap) (locs1 : List Loc), gm1 = va_up gm k (upd (gm k) j.toNatClampNeg x) → va_P (dC, dI) vwCl (mW h0 ad cid sg gm1 lg) H1 → va_D A (mW h0 ad cid sg gm1 lg) → va_S A H0 H1 locs1 → W p l e R s m args below meth c H1 locs1 cells slots Q (F0 m (pc + 1) ls rest)) : W p l e R s m args below meth c H locs cells slots Q (F0 m pc ls (.int x :: .int j :: .ref (ad k) :: rest)) :=
  mr_iast hexec hb hK hP hD hS i hi hl ht hin hdg (fun H1 locs1 => kk _ H1 locs1 rfl)
theorem ma_zast (hexec : p.tables.exec = Jvm.exec) (hb : c.code = cc) (hK : va_K (dC, dI) vwCl (mT cid) s) (hP : va_P (dC, dI) vwCl (mW h0 ad cid sg gm lg) H) (hD : va_D A (mW h0 ad cid sg gm lg)) (hS : va_S A H0 H locs) (i : Nat) {k : Nat} (hi : mK[i]? = some k) (hl : mLong k = false) (ht : mTy k = .boolean) {j x : Int32} (hin : vp_in j (mLen k)) (hdg : decode cc pc = .ok (.bastore, 1))
    (kk : ∀ (gm1 : Nat → Nat → Int32) (H1 : Heap) (locs1 : List Loc), gm1 = va_up gm k (upd (gm k) j.toNatClampNeg (vp_nar .boolean x)) → va_P (dC, dI) vwCl (mW h0 ad cid sg gm1 lg) H1 → va_D A (mW h0 ad cid sg gm1 lg) → va_S A H0 H1 locs1 → W p l e R s m args below meth c H1 locs1 cells slots Q (F0 m (pc + 1) ls rest)) : W p l e R s m args below meth c H locs cells slots Q (F0 m pc ls (.int x :: .int j :: .ref (ad k) :: rest)) :=
  mr_zast hexec hb hK hP hD hS i hi hl ht hin hdg (fun H1 locs1 => kk _ H1 locs1 rfl)
theorem ma_bast (hexec : p.tables.exec = Jvm.exec) (hb : c.code = cc) (hK : va_K (dC, dI) vwCl (mT cid) s) (hP : va_P (dC, dI) vwCl (mW h0 ad cid sg gm lg) H) (hD : va_D A (mW h0 ad cid sg gm lg)) (hS : va_S A H0 H locs) (i : Nat) {k : Nat} (hi : mK[i]? = some k) (hl : mLong k = false) (ht : mTy k = .byte) {j x : Int32} (hin : vp_in j (mLen k)) (hdg : decode cc pc = .ok (.bastore, 1))
    (kk : ∀ (gm1 : Nat → Nat → Int32) (H1 : Heap) (locs1 : List Loc), gm1 = va_up gm k (upd (gm k) j.toNatClampNeg (vp_nar .byte x)) → va_P (dC, dI) vwCl (mW h0 ad cid sg gm1 lg) H1 → va_D A (mW h0 ad cid sg gm1 lg) → va_S A H0 H1 locs1 → W p l e R s m args below meth c H1 locs1 cells slots Q (F0 m (pc + 1) ls rest)) : W p l e R s m args below meth c H locs cells slots Q (F0 m pc ls (.int x :: .int j :: .ref (ad k) :: rest)) :=
  mr_bast hexec hb hK hP hD hS i hi hl ht hin hdg (fun H1 locs1 => kk _ H1 locs1 rfl)
theorem ma_last (hexec : p.tables.exec = Jvm.exec) (hb : c.code = cc) (hK : va_K (dC, dI) vwCl (mT cid) s) (hP : va_P (dC, dI) vwCl (mW h0 ad cid sg gm lg) H) (hD : va_D A (mW h0 ad cid sg gm lg)) (hS : va_S A H0 H locs) (i : Nat) {k : Nat} (hi : mK[i]? = some k) (hl : mLong k = true) (ht : mTy k = .long) {j : Int32} {x : Int64} (hin : vp_in j (mLen k)) (hdg : decode cc pc = .ok (.lastore, 1))
    (kk : ∀ (lg1 : Nat → Nat → Int64) (H1 : Heap) (locs1 : List Loc), lg1 = va_up lg k (vp_updL (lg k) j.toNatClampNeg x) → va_P (dC, dI) vwCl (mW h0 ad cid sg gm lg1) H1 → va_D A (mW h0 ad cid sg gm lg1) → va_S A H0 H1 locs1 → W p l e R s m args below meth c H1 locs1 cells slots Q (F0 m (pc + 1) ls rest)) : W p l e R s m args below meth c H locs cells slots Q (F0 m pc ls (.long x :: .int j :: .ref (ad k) :: rest)) :=
  mr_last hexec hb hK hP hD hS i hi hl ht hin hdg (fun H1 locs1 => kk _ H1 locs1 rfl)
end MA
end
section
theorem KS_nil {α : Type} {f g : Nat → α} (h : KS [] f g) : f = g := funext (fun k => (h k rfl).symm)
theorem i32_0 : (0 : Int32).toInt = 0 := rfl
theorem i32_1 : (1 : Int32).toInt = 1 := rfl
theorem i32_2 : (2 : Int32).toInt = 2 := rfl
theorem i32_m1 : (-1 : Int32).toInt = -1 := rfl
theorem iv_measDn {a b M d : Int} {x z : Int32} (h : z.toInt = x.toInt - d) (hd : 0 < d) (h1 : iv a b x) (q : M < a) : (z.toInt - M).toNat < (x.toInt - M).toNat := by
  have h2 := h1.1
  omega
theorem iv_l255 {w z : Int64} (h : z = w &&& 255) : iv 0 255 z.toInt32 := by
  subst h
  have k : (w &&& 255).toInt = ((w &&& 255).toBitVec.toNat : Int) := by
    show (w &&& 255).toBitVec.toInt = _
    rw [BitVec.toInt_eq_toNat_of_msb]
    show (w.toBitVec &&& 255#64).msb = false
    rw [BitVec.msb_and]
    exact Bool.and_false _
  have k2 : (w &&& 255).toBitVec.toNat ≤ 255 := by
    show (w.toBitVec &&& 255#64).toNat ≤ 255
    rw [BitVec.toNat_and]
    exact Nat.and_le_right
  refine ⟨?_, ?_⟩ <;> rw [Int64.toInt_toInt32, i32_bm ⟨by omega, by omega⟩] <;> omega
end
section
def zCls (c : Int32) : Int32 := if c < 0 then 0 else if 8 ≤ c then 0 else 1
def zLet (c : Int32) : Int32 := if c < 0 then 0 else if 26 ≤ c then 0 else 1
def zTyp (t : Int32) : Int32 := if t < 0 then (if t < 8 then 0 else if 16 ≤ t then 0 else 1) else if t ≤ 4 then 1 else if t < 8 then 0 else if 16 ≤ t then 0 else 1
def zTys3 (n c : Int32) : Int32 := if n < 3 then 1 else if zTyp c = 0 then 0 else 1
def zTys2 (n b c : Int32) : Int32 := if n < 2 then zTys3 n c else if zTyp b = 0 then 0 else zTys3 n c
def zTys (n a b c : Int32) : Int32 := if n < 0 then 0 else if 3 < n then 0 else if n < 1 then zTys2 n b c else if zTyp a = 0 then 0 else zTys2 n b c
theorem lt5_4 (t : Int32) : t < 5 ↔ t ≤ 4 := by
  rw [Int32.lt_iff_toInt_lt, Int32.le_iff_toInt_le]
  show t.toInt < 5 ↔ t.toInt ≤ 4
  omega
theorem ge4_3 (t : Int32) : 4 ≤ t ↔ 3 < t := by
  rw [Int32.lt_iff_toInt_lt, Int32.le_iff_toInt_le]
  show (4 : Int) ≤ t.toInt ↔ (3 : Int) < t.toInt
  omega
theorem zCls_iv (x : Int32) : iv 0 1 (zCls x) := by unfold zCls; (repeat' split) <;> exact iv_k (by decide)
theorem zLet_iv (x : Int32) : iv 0 1 (zLet x) := by unfold zLet; (repeat' split) <;> exact iv_k (by decide)
theorem zTyp_iv (x : Int32) : iv 0 1 (zTyp x) := by unfold zTyp; (repeat' split) <;> exact iv_k (by decide)
theorem zTys_iv (a b c d : Int32) : iv 0 1 (zTys a b c d) := by unfold zTys zTys2 zTys3; (repeat' split) <;> exact iv_k (by decide)

theorem zCls_t {x : Int32} (h : ¬ zCls x = 0) : iv 0 7 x := by
  unfold zCls at h
  split at h
  · exact absurd rfl h
  · rename_i h1
    split at h
    · exact absurd rfl h
    · rename_i h2
      exact iv_ltL (i32_lt h2) (iv_leR (lo := 0) (i32_ge h1) (iv_k (by decide) : iv 0 0 0) (iv_all x) (by decide)) (iv_k (by decide) : iv 8 8 8) (by decide)
theorem zLet_t {x : Int32} (h : ¬ zLet x = 0) : iv 0 25 x := by
  unfold zLet at h
  split at h
  · exact absurd rfl h
  · rename_i h1
    split at h
    · exact absurd rfl h
    · rename_i h2
      exact iv_ltL (i32_lt h2) (iv_leR (lo := 0) (i32_ge h1) (iv_k (by decide) : iv 0 0 0) (iv_all x) (by decide)) (iv_k (by decide) : iv 26 26 26) (by decide)
theorem zTyp_t {x : Int32} (h : ¬ zTyp x = 0) : iv 0 15 x := by
  unfold zTyp at h
  by_cases h1 : x < 0
  · rw [if_pos h1, if_pos (Int32.lt_of_lt_of_le h1 (by decide))] at h
    exact absurd rfl h
  · have k1 := iv_leR (lo := 0) (i32_ge h1) (iv_k (by decide) : iv 0 0 0) (iv_all x) (by decide)
    rw [if_neg h1] at h
    split at h
    · rename_i h2
      exact iv_w (iv_leL (hi := 4) h2 k1 (iv_k (by decide) : iv 4 4 4) (by decide)) (by decide)
    · split at h
      · exact absurd rfl h
      · split at h
        · exact absurd rfl h
        · rename_i h4
          exact iv_ltL (i32_lt h4) k1 (iv_k (by decide) : iv 16 16 16) (by decide)
theorem zTys_t {n a b c : Int32} (h : ¬ zTys n a b c = 0) : iv 0 3 n := by
  unfold zTys at h
  split at h
  · exact absurd rfl h
  · rename_i h1
    split at h
    · exact absurd rfl h
    · rename_i h2
      exact iv_leL (i32_ge h2) (iv_leR (lo := 0) (i32_ge h1) (iv_k (by decide) : iv 0 0 0) (iv_all n) (by decide)) (iv_k (by decide) : iv 3 3 3) (by decide)

set_option maxHeartbeats 4000000 in
set_option maxRecDepth 100000 in
theorem c_X13_isClass (l : Launch) (dC : Nat → ClassId) (dI : Nat → Nat → Nat) (sz : Nat) (p0 : Int32) : Met l yX13_isClass wm_X13_isClass ({ frames := 0, cells := 0, slots := 0, locals := 0 }) (va_Pc [.int p0] (fun U => U.heap.size = sz ∧ va_P (dC, dI) vwCl [] U.heap ∧ va_K (dC, dI) vwCl [] U ∧ va_D (fun _ => True) [])) (va_Qi (fun (r : Int32) (_ : Unit) => r = zCls p0) (fun _ t => va_P (dC, dI) vwCl [] t.heap ∧ va_K (dC, dI) vwCl [] t ∧ va_D (va_A [] sz) []) (va_A [] sz)) 0 0 (va_A [] sz) := by
  refine Met.ofW (cc := cX13_isClass) (maxL := 1) (ret := (some .boolean)) (by decide) rfl ?_
  intro p e s m args below meth c s₁ B hml hv
  obtain ⟨rfl, hsz, hP, hK, hD0⟩ := hv
  have hx := B.exec
  have hb := B.bytes
  have hr := B.returns
  have hts := atoms_spec (ws := wm_X13_isClass) B.pre
  have htb := fun (w : Cond) (h : w ∈ tb) => hts w (List.mem_cons_of_mem _ h)
  have hown : s.vm.findClass RX13 = some m.cls := findClass_of_methodNamed B.named
  have hlocks := B.notSynchronized
  subst hsz
  have hD := hD0.self (sz := s.heap.size)
  generalize hAe : va_A [] s.heap.size = A at hD ⊢
  have hA : ∀ q : Nat, s.heap.size ≤ q → A q := fun q h => by rw [← hAe]; exact Or.inr h
  have hS : va_S A s.heap s.heap [] := va_S.rf
  have hP : va_P (dC, dI) vwCl [] s.heap := hP
  have hl := lv_entry ([.int p0]) (n := 1) (Nat.le_of_ble_eq_true rfl)
  rw [lg_entry_eq]
  generalize (lg_sl ([.int p0]) ++ List.replicate (1 - (lg_sl ([.int p0])).length) Slot.unset).toArray = ls at hl ⊢
  have hl : lv_has ls 1 [(0, .int p0)] := hl
  refine lv_iload_n hx hb dX13_isClass_0 rfl (lv_at hl 0 rfl) ?_
  refine lv_if_lt (tgt := 14) hx hb dX13_isClass_1 (by decide) (fun c_1 => ?_) (fun c_1 => ?_)
  · refine lv_iconst (v := 0) hx hb dX13_isClass_14 (by decide) ?_
    have hP9 := hP.sub (ws' := []) [] rfl
    have hD9 := hD.sub (ws' := []) [] (by decide) rfl
    have hK9 := hK.sub (tys' := []) [] rfl
    refine W.widen (k := 0) (n := 0) (Nat.le_of_ble_eq_true rfl) (Nat.le_of_ble_eq_true rfl) ?_
    exact W.zret (v := 0) hx hb hr rfl (fun t ht hW => ⟨⟨0, (), rfl, (by simp [zCls, c_1]), by rw [ht]; exact hP9, va_K.moved hW.alike hK9, hD9⟩, hS.F ht⟩) hS.2.2 dX13_isClass_15
  · refine lv_iload_n hx hb dX13_isClass_4 rfl (lv_at hl 0 rfl) ?_
    refine lv_bipush (v := 8) hx hb dX13_isClass_5 (by decide) ?_
    refine lv_icmp_ge (tgt := 14) hx hb dX13_isClass_7 (by decide) (fun c_2 => ?_) (fun c_2 => ?_)
    · refine lv_iconst (v := 0) hx hb dX13_isClass_14 (by decide) ?_
      have hP9 := hP.sub (ws' := []) [] rfl
      have hD9 := hD.sub (ws' := []) [] (by decide) rfl
      have hK9 := hK.sub (tys' := []) [] rfl
      refine W.widen (k := 0) (n := 0) (Nat.le_of_ble_eq_true rfl) (Nat.le_of_ble_eq_true rfl) ?_
      exact W.zret (v := 0) hx hb hr rfl (fun t ht hW => ⟨⟨0, (), rfl, (by simp [zCls, c_1, c_2]), by rw [ht]; exact hP9, va_K.moved hW.alike hK9, hD9⟩, hS.F ht⟩) hS.2.2 dX13_isClass_15
    · refine lv_iconst (v := 1) hx hb dX13_isClass_10 (by decide) ?_
      refine lv_goto (tgt := 15) hx hb dX13_isClass_11 (by decide) ?_
      have hP9 := hP.sub (ws' := []) [] rfl
      have hD9 := hD.sub (ws' := []) [] (by decide) rfl
      have hK9 := hK.sub (tys' := []) [] rfl
      refine W.widen (k := 0) (n := 0) (Nat.le_of_ble_eq_true rfl) (Nat.le_of_ble_eq_true rfl) ?_
      exact W.zret (v := 1) hx hb hr rfl (fun t ht hW => ⟨⟨1, (), rfl, (by simp [zCls, c_1, c_2]), by rw [ht]; exact hP9, va_K.moved hW.alike hK9, hD9⟩, hS.F ht⟩) hS.2.2 dX13_isClass_15

set_option maxHeartbeats 4000000 in
set_option maxRecDepth 100000 in
theorem c_X13_isLetter (l : Launch) (dC : Nat → ClassId) (dI : Nat → Nat → Nat) (sz : Nat) (p0 : Int32) : Met l yX13_isLetter wm_X13_isLetter ({ frames := 0, cells := 0, slots := 0, locals := 0 }) (va_Pc [.int p0] (fun U => U.heap.size = sz ∧ va_P (dC, dI) vwCl [] U.heap ∧ va_K (dC, dI) vwCl [] U ∧ va_D (fun _ => True) [])) (va_Qi (fun (r : Int32) (_ : Unit) => r = zLet p0) (fun _ t => va_P (dC, dI) vwCl [] t.heap ∧ va_K (dC, dI) vwCl [] t ∧ va_D (va_A [] sz) []) (va_A [] sz)) 0 0 (va_A [] sz) := by
  refine Met.ofW (cc := cX13_isLetter) (maxL := 1) (ret := (some .boolean)) (by decide) rfl ?_
  intro p e s m args below meth c s₁ B hml hv
  obtain ⟨rfl, hsz, hP, hK, hD0⟩ := hv
  have hx := B.exec
  have hb := B.bytes
  have hr := B.returns
  have hts := atoms_spec (ws := wm_X13_isLetter) B.pre
  have htb := fun (w : Cond) (h : w ∈ tb) => hts w (List.mem_cons_of_mem _ h)
  have hown : s.vm.findClass RX13 = some m.cls := findClass_of_methodNamed B.named
  have hlocks := B.notSynchronized
  subst hsz
  have hD := hD0.self (sz := s.heap.size)
  generalize hAe : va_A [] s.heap.size = A at hD ⊢
  have hA : ∀ q : Nat, s.heap.size ≤ q → A q := fun q h => by rw [← hAe]; exact Or.inr h
  have hS : va_S A s.heap s.heap [] := va_S.rf
  have hP : va_P (dC, dI) vwCl [] s.heap := hP
  have hl := lv_entry ([.int p0]) (n := 1) (Nat.le_of_ble_eq_true rfl)
  rw [lg_entry_eq]
  generalize (lg_sl ([.int p0]) ++ List.replicate (1 - (lg_sl ([.int p0])).length) Slot.unset).toArray = ls at hl ⊢
  have hl : lv_has ls 1 [(0, .int p0)] := hl
  refine lv_iload_n hx hb dX13_isLetter_0 rfl (lv_at hl 0 rfl) ?_
  refine lv_if_lt (tgt := 14) hx hb dX13_isLetter_1 (by decide) (fun c_1 => ?_) (fun c_1 => ?_)
  · refine lv_iconst (v := 0) hx hb dX13_isLetter_14 (by decide) ?_
    have hP9 := hP.sub (ws' := []) [] rfl
    have hD9 := hD.sub (ws' := []) [] (by decide) rfl
    have hK9 := hK.sub (tys' := []) [] rfl
    refine W.widen (k := 0) (n := 0) (Nat.le_of_ble_eq_true rfl) (Nat.le_of_ble_eq_true rfl) ?_
    exact W.zret (v := 0) hx hb hr rfl (fun t ht hW => ⟨⟨0, (), rfl, (by simp [zLet, c_1]), by rw [ht]; exact hP9, va_K.moved hW.alike hK9, hD9⟩, hS.F ht⟩) hS.2.2 dX13_isLetter_15
  · refine lv_iload_n hx hb dX13_isLetter_4 rfl (lv_at hl 0 rfl) ?_
    refine lv_bipush (v := 26) hx hb dX13_isLetter_5 (by decide) ?_
    refine lv_icmp_ge (tgt := 14) hx hb dX13_isLetter_7 (by decide) (fun c_2 => ?_) (fun c_2 => ?_)
    · refine lv_iconst (v := 0) hx hb dX13_isLetter_14 (by decide) ?_
      have hP9 := hP.sub (ws' := []) [] rfl
      have hD9 := hD.sub (ws' := []) [] (by decide) rfl
      have hK9 := hK.sub (tys' := []) [] rfl
      refine W.widen (k := 0) (n := 0) (Nat.le_of_ble_eq_true rfl) (Nat.le_of_ble_eq_true rfl) ?_
      exact W.zret (v := 0) hx hb hr rfl (fun t ht hW => ⟨⟨0, (), rfl, (by simp [zLet, c_1, c_2]), by rw [ht]; exact hP9, va_K.moved hW.alike hK9, hD9⟩, hS.F ht⟩) hS.2.2 dX13_isLetter_15
    · refine lv_iconst (v := 1) hx hb dX13_isLetter_10 (by decide) ?_
      refine lv_goto (tgt := 15) hx hb dX13_isLetter_11 (by decide) ?_
      have hP9 := hP.sub (ws' := []) [] rfl
      have hD9 := hD.sub (ws' := []) [] (by decide) rfl
      have hK9 := hK.sub (tys' := []) [] rfl
      refine W.widen (k := 0) (n := 0) (Nat.le_of_ble_eq_true rfl) (Nat.le_of_ble_eq_true rfl) ?_
      exact W.zret (v := 1) hx hb hr rfl (fun t ht hW => ⟨⟨1, (), rfl, (by simp [zLet, c_1, c_2]), by rw [ht]; exact hP9, va_K.moved hW.alike hK9, hD9⟩, hS.F ht⟩) hS.2.2 dX13_isLetter_15

set_option maxHeartbeats 4000000 in
set_option maxRecDepth 100000 in
theorem c_X13_isType (l : Launch) (dC : Nat → ClassId) (dI : Nat → Nat → Nat) (sz : Nat) (p0 : Int32) : Met l yX13_isType wm_X13_isType ({ frames := 0, cells := 0, slots := 0, locals := 0 }) (va_Pc [.int p0] (fun U => U.heap.size = sz ∧ va_P (dC, dI) vwCl [] U.heap ∧ va_K (dC, dI) vwCl [] U ∧ va_D (fun _ => True) [])) (va_Qi (fun (r : Int32) (_ : Unit) => r = zTyp p0) (fun _ t => va_P (dC, dI) vwCl [] t.heap ∧ va_K (dC, dI) vwCl [] t ∧ va_D (va_A [] sz) []) (va_A [] sz)) 0 0 (va_A [] sz) := by
  refine Met.ofW (cc := cX13_isType) (maxL := 1) (ret := (some .boolean)) (by decide) rfl ?_
  intro p e s m args below meth c s₁ B hml hv
  obtain ⟨rfl, hsz, hP, hK, hD0⟩ := hv
  have hx := B.exec
  have hb := B.bytes
  have hr := B.returns
  have hts := atoms_spec (ws := wm_X13_isType) B.pre
  have htb := fun (w : Cond) (h : w ∈ tb) => hts w (List.mem_cons_of_mem _ h)
  have hown : s.vm.findClass RX13 = some m.cls := findClass_of_methodNamed B.named
  have hlocks := B.notSynchronized
  subst hsz
  have hD := hD0.self (sz := s.heap.size)
  generalize hAe : va_A [] s.heap.size = A at hD ⊢
  have hA : ∀ q : Nat, s.heap.size ≤ q → A q := fun q h => by rw [← hAe]; exact Or.inr h
  have hS : va_S A s.heap s.heap [] := va_S.rf
  have hP : va_P (dC, dI) vwCl [] s.heap := hP
  have hl := lv_entry ([.int p0]) (n := 1) (Nat.le_of_ble_eq_true rfl)
  rw [lg_entry_eq]
  generalize (lg_sl ([.int p0]) ++ List.replicate (1 - (lg_sl ([.int p0])).length) Slot.unset).toArray = ls at hl ⊢
  have hl : lv_has ls 1 [(0, .int p0)] := hl
  refine lv_iload_n hx hb dX13_isType_0 rfl (lv_at hl 0 rfl) ?_
  refine lv_if_lt (tgt := 9) hx hb dX13_isType_1 (by decide) (fun c_1 => ?_) (fun c_1 => ?_)
  · refine lv_iload_n hx hb dX13_isType_9 rfl (lv_at hl 0 rfl) ?_
    refine lv_bipush (v := 8) hx hb dX13_isType_10 (by decide) ?_
    refine lv_icmp_lt (tgt := 25) hx hb dX13_isType_12 (by decide) (fun c_2 => ?_) (fun c_2 => ?_)
    · refine lv_iconst (v := 0) hx hb dX13_isType_25 (by decide) ?_
      have hP9 := hP.sub (ws' := []) [] rfl
      have hD9 := hD.sub (ws' := []) [] (by decide) rfl
      have hK9 := hK.sub (tys' := []) [] rfl
      refine W.widen (k := 0) (n := 0) (Nat.le_of_ble_eq_true rfl) (Nat.le_of_ble_eq_true rfl) ?_
      exact W.zret (v := 0) hx hb hr rfl (fun t ht hW => ⟨⟨0, (), rfl, (by simp [zTyp, c_1, c_2]), by rw [ht]; exact hP9, va_K.moved hW.alike hK9, hD9⟩, hS.F ht⟩) hS.2.2 dX13_isType_26
    · refine lv_iload_n hx hb dX13_isType_15 rfl (lv_at hl 0 rfl) ?_
      refine lv_bipush (v := 16) hx hb dX13_isType_16 (by decide) ?_
      refine lv_icmp_ge (tgt := 25) hx hb dX13_isType_18 (by decide) (fun c_3 => ?_) (fun c_3 => ?_)
      · refine lv_iconst (v := 0) hx hb dX13_isType_25 (by decide) ?_
        have hP9 := hP.sub (ws' := []) [] rfl
        have hD9 := hD.sub (ws' := []) [] (by decide) rfl
        have hK9 := hK.sub (tys' := []) [] rfl
        refine W.widen (k := 0) (n := 0) (Nat.le_of_ble_eq_true rfl) (Nat.le_of_ble_eq_true rfl) ?_
        exact W.zret (v := 0) hx hb hr rfl (fun t ht hW => ⟨⟨0, (), rfl, (by simp [zTyp, c_1, c_2, c_3]), by rw [ht]; exact hP9, va_K.moved hW.alike hK9, hD9⟩, hS.F ht⟩) hS.2.2 dX13_isType_26
      · refine lv_iconst (v := 1) hx hb dX13_isType_21 (by decide) ?_
        refine lv_goto (tgt := 26) hx hb dX13_isType_22 (by decide) ?_
        have hP9 := hP.sub (ws' := []) [] rfl
        have hD9 := hD.sub (ws' := []) [] (by decide) rfl
        have hK9 := hK.sub (tys' := []) [] rfl
        refine W.widen (k := 0) (n := 0) (Nat.le_of_ble_eq_true rfl) (Nat.le_of_ble_eq_true rfl) ?_
        exact W.zret (v := 1) hx hb hr rfl (fun t ht hW => ⟨⟨1, (), rfl, (by simp [zTyp, c_1, c_2, c_3]), by rw [ht]; exact hP9, va_K.moved hW.alike hK9, hD9⟩, hS.F ht⟩) hS.2.2 dX13_isType_26
  · refine lv_iload_n hx hb dX13_isType_4 rfl (lv_at hl 0 rfl) ?_
    refine lv_iconst (v := 5) hx hb dX13_isType_5 (by decide) ?_
    refine lv_icmp_lt (tgt := 21) hx hb dX13_isType_6 (by decide) (fun c_4 => ?_) (fun c_4 => ?_)
    · refine lv_iconst (v := 1) hx hb dX13_isType_21 (by decide) ?_
      refine lv_goto (tgt := 26) hx hb dX13_isType_22 (by decide) ?_
      have hP9 := hP.sub (ws' := []) [] rfl
      have hD9 := hD.sub (ws' := []) [] (by decide) rfl
      have hK9 := hK.sub (tys' := []) [] rfl
      refine W.widen (k := 0) (n := 0) (Nat.le_of_ble_eq_true rfl) (Nat.le_of_ble_eq_true rfl) ?_
      exact W.zret (v := 1) hx hb hr rfl (fun t ht hW => ⟨⟨1, (), rfl, (by rw [lt5_4] at c_4; simp [zTyp, c_1, c_4]), by rw [ht]; exact hP9, va_K.moved hW.alike hK9, hD9⟩, hS.F ht⟩) hS.2.2 dX13_isType_26
    · refine lv_iload_n hx hb dX13_isType_9 rfl (lv_at hl 0 rfl) ?_
      refine lv_bipush (v := 8) hx hb dX13_isType_10 (by decide) ?_
      refine lv_icmp_lt (tgt := 25) hx hb dX13_isType_12 (by decide) (fun c_5 => ?_) (fun c_5 => ?_)
      · refine lv_iconst (v := 0) hx hb dX13_isType_25 (by decide) ?_
        have hP9 := hP.sub (ws' := []) [] rfl
        have hD9 := hD.sub (ws' := []) [] (by decide) rfl
        have hK9 := hK.sub (tys' := []) [] rfl
        refine W.widen (k := 0) (n := 0) (Nat.le_of_ble_eq_true rfl) (Nat.le_of_ble_eq_true rfl) ?_
        exact W.zret (v := 0) hx hb hr rfl (fun t ht hW => ⟨⟨0, (), rfl, (by rw [lt5_4] at c_4; simp [zTyp, c_1, c_4, c_5]), by rw [ht]; exact hP9, va_K.moved hW.alike hK9, hD9⟩, hS.F ht⟩) hS.2.2 dX13_isType_26
      · refine lv_iload_n hx hb dX13_isType_15 rfl (lv_at hl 0 rfl) ?_
        refine lv_bipush (v := 16) hx hb dX13_isType_16 (by decide) ?_
        refine lv_icmp_ge (tgt := 25) hx hb dX13_isType_18 (by decide) (fun c_6 => ?_) (fun c_6 => ?_)
        · refine lv_iconst (v := 0) hx hb dX13_isType_25 (by decide) ?_
          have hP9 := hP.sub (ws' := []) [] rfl
          have hD9 := hD.sub (ws' := []) [] (by decide) rfl
          have hK9 := hK.sub (tys' := []) [] rfl
          refine W.widen (k := 0) (n := 0) (Nat.le_of_ble_eq_true rfl) (Nat.le_of_ble_eq_true rfl) ?_
          exact W.zret (v := 0) hx hb hr rfl (fun t ht hW => ⟨⟨0, (), rfl, (by rw [lt5_4] at c_4; simp [zTyp, c_1, c_4, c_5, c_6]), by rw [ht]; exact hP9, va_K.moved hW.alike hK9, hD9⟩, hS.F ht⟩) hS.2.2 dX13_isType_26
        · refine lv_iconst (v := 1) hx hb dX13_isType_21 (by decide) ?_
          refine lv_goto (tgt := 26) hx hb dX13_isType_22 (by decide) ?_
          have hP9 := hP.sub (ws' := []) [] rfl
          have hD9 := hD.sub (ws' := []) [] (by decide) rfl
          have hK9 := hK.sub (tys' := []) [] rfl
          refine W.widen (k := 0) (n := 0) (Nat.le_of_ble_eq_true rfl) (Nat.le_of_ble_eq_true rfl) ?_
          exact W.zret (v := 1) hx hb hr rfl (fun t ht hW => ⟨⟨1, (), rfl, (by rw [lt5_4] at c_4; simp [zTyp, c_1, c_4, c_5, c_6]), by rw [ht]; exact hP9, va_K.moved hW.alike hK9, hD9⟩, hS.F ht⟩) hS.2.2 dX13_isType_26

set_option maxHeartbeats 4000000 in
set_option maxRecDepth 100000 in
theorem c_X13_areTypes (l : Launch) (dC : Nat → ClassId) (dI : Nat → Nat → Nat) (sz : Nat) (p0 : Int32) (p1 : Int32) (p2 : Int32) (p3 : Int32) : Met l yX13_areTypes wm_X13_areTypes ({ frames := 1, cells := 0, slots := 0, locals := 20 }) (va_Pc [.int p0, .int p1, .int p2, .int p3] (fun U => U.heap.size = sz ∧ va_P (dC, dI) vwCl [] U.heap ∧ va_K (dC, dI) vwCl [] U ∧ va_D (fun _ => True) [])) (va_Qi (fun (r : Int32) (_ : Unit) => r = zTys p0 p1 p2 p3) (fun _ t => va_P (dC, dI) vwCl [] t.heap ∧ va_K (dC, dI) vwCl [] t ∧ va_D (va_A [] sz) []) (va_A [] sz)) 0 0 (va_A [] sz) := by
  refine Met.ofW (cc := cX13_areTypes) (maxL := 4) (ret := (some .boolean)) (by decide) rfl ?_
  intro p e s m args below meth c s₁ B hml hv
  obtain ⟨rfl, hsz, hP, hK, hD0⟩ := hv
  have hx := B.exec
  have hb := B.bytes
  have hr := B.returns
  have hts := atoms_spec (ws := wm_X13_areTypes) B.pre
  have htb := fun (w : Cond) (h : w ∈ tb) => hts w (List.mem_cons_of_mem _ h)
  have hown : s.vm.findClass RX13 = some m.cls := findClass_of_methodNamed B.named
  have hlocks := B.notSynchronized
  subst hsz
  have hD := hD0.self (sz := s.heap.size)
  generalize hAe : va_A [] s.heap.size = A at hD ⊢
  have hA : ∀ q : Nat, s.heap.size ≤ q → A q := fun q h => by rw [← hAe]; exact Or.inr h
  have hS : va_S A s.heap s.heap [] := va_S.rf
  have hP : va_P (dC, dI) vwCl [] s.heap := hP
  have hl := lv_entry ([.int p0, .int p1, .int p2, .int p3]) (n := 4) (Nat.le_of_ble_eq_true rfl)
  rw [lg_entry_eq]
  generalize (lg_sl ([.int p0, .int p1, .int p2, .int p3]) ++ List.replicate (4 - (lg_sl ([.int p0, .int p1, .int p2, .int p3])).length) Slot.unset).toArray = ls at hl ⊢
  have hl : lv_has ls 4 [(0, .int p0), (1, .int p1), (2, .int p2), (3, .int p3)] := hl
  refine lv_iload_n hx hb dX13_areTypes_0 rfl (lv_at hl 0 rfl) ?_
  refine lv_if_lt (tgt := 49) hx hb dX13_areTypes_1 (by decide) (fun c_1 => ?_) (fun c_1 => ?_)
  · refine lv_iconst (v := 0) hx hb dX13_areTypes_49 (by decide) ?_
    have hP9 := hP.sub (ws' := []) [] rfl
    have hD9 := hD.sub (ws' := []) [] (by decide) rfl
    have hK9 := hK.sub (tys' := []) [] rfl
    refine W.widen (k := 0) (n := 0) (Nat.le_of_ble_eq_true rfl) (Nat.le_of_ble_eq_true rfl) ?_
    exact W.zret (v := 0) hx hb hr rfl (fun t ht hW => ⟨⟨0, (), rfl, (by simp [zTys, zTys2, zTys3, c_1]), by rw [ht]; exact hP9, va_K.moved hW.alike hK9, hD9⟩, hS.F ht⟩) hS.2.2 dX13_areTypes_50
  · refine lv_iload_n hx hb dX13_areTypes_4 rfl (lv_at hl 0 rfl) ?_
    refine lv_iconst (v := 4) hx hb dX13_areTypes_5 (by decide) ?_
    refine lv_icmp_ge (tgt := 49) hx hb dX13_areTypes_6 (by decide) (fun c_2 => ?_) (fun c_2 => ?_)
    · refine lv_iconst (v := 0) hx hb dX13_areTypes_49 (by decide) ?_
      have hP9 := hP.sub (ws' := []) [] rfl
      have hD9 := hD.sub (ws' := []) [] (by decide) rfl
      have hK9 := hK.sub (tys' := []) [] rfl
      refine W.widen (k := 0) (n := 0) (Nat.le_of_ble_eq_true rfl) (Nat.le_of_ble_eq_true rfl) ?_
      exact W.zret (v := 0) hx hb hr rfl (fun t ht hW => ⟨⟨0, (), rfl, (by rw [ge4_3] at c_2; simp [zTys, zTys2, zTys3, c_1, c_2]), by rw [ht]; exact hP9, va_K.moved hW.alike hK9, hD9⟩, hS.F ht⟩) hS.2.2 dX13_areTypes_50
    · refine lv_iload_n hx hb dX13_areTypes_9 rfl (lv_at hl 0 rfl) ?_
      refine lv_iconst (v := 1) hx hb dX13_areTypes_10 (by decide) ?_
      refine lv_icmp_lt (tgt := 21) hx hb dX13_areTypes_11 (by decide) (fun c_3 => ?_) (fun c_3 => ?_)
      · refine lv_iload_n hx hb dX13_areTypes_21 rfl (lv_at hl 0 rfl) ?_
        refine lv_iconst (v := 2) hx hb dX13_areTypes_22 (by decide) ?_
        refine lv_icmp_lt (tgt := 33) hx hb dX13_areTypes_23 (by decide) (fun c_4 => ?_) (fun c_4 => ?_)
        · refine lv_iload_n hx hb dX13_areTypes_33 rfl (lv_at hl 0 rfl) ?_
          refine lv_iconst (v := 3) hx hb dX13_areTypes_34 (by decide) ?_
          refine lv_icmp_lt (tgt := 45) hx hb dX13_areTypes_35 (by decide) (fun c_5 => ?_) (fun c_5 => ?_)
          · refine lv_iconst (v := 1) hx hb dX13_areTypes_45 (by decide) ?_
            refine lv_goto (tgt := 50) hx hb dX13_areTypes_46 (by decide) ?_
            have hP9 := hP.sub (ws' := []) [] rfl
            have hD9 := hD.sub (ws' := []) [] (by decide) rfl
            have hK9 := hK.sub (tys' := []) [] rfl
            refine W.widen (k := 0) (n := 0) (Nat.le_of_ble_eq_true rfl) (Nat.le_of_ble_eq_true rfl) ?_
            exact W.zret (v := 1) hx hb hr rfl (fun t ht hW => ⟨⟨1, (), rfl, (by rw [ge4_3] at c_2; simp [zTys, zTys2, zTys3, c_1, c_2, c_3, c_4, c_5]), by rw [ht]; exact hP9, va_K.moved hW.alike hK9, hD9⟩, hS.F ht⟩) hS.2.2 dX13_areTypes_50
          · refine lv_iload_n hx hb dX13_areTypes_38 rfl (lv_at hl 3 rfl) ?_
            have hPc := hP.sub (ws' := []) [] rfl
            have hDc := hD.sub (ws' := []) [] (by decide) rfl
            have hKc := hK.sub (tys' := []) [] rfl
            have hFc := va_free (wc := []) hD hS hA [] rfl
            refine va_calli (va_runS (As := [.int p3]) (rest := []) ⟨hx, hb, hml, hown, htb⟩ (c_X13_isType l dC dI s.heap.size p3) (va_cwS 1 htb (gd_S kw_1115 kw_1116 kw_160 kw_1570) rfl rfl rfl (by decide +kernel) ⟨Nat.le_of_ble_eq_true rfl, Nat.le_of_ble_eq_true rfl⟩) ⟨fun a U g mk q => by obtain ⟨q0, q1, qP, qK, qD⟩ := q; exact ⟨q0, q1, qP, va_K.moved (u := U) (U := U.calling g mk a) (Vm.Alike.refl U.vm) qK, qD⟩, fun U hU hW => ⟨rfl, by rw [hU], by rw [hU]; exact hPc, va_K.moved hW.alike hKc, hDc.weaken (fun _ _ _ _ => trivial)⟩⟩ rfl rfl hl.1 rfl (lv_room (Nat.le_of_ble_eq_true rfl)) dX13_areTypes_39 ⟨(Nat.le_of_ble_eq_true rfl), (Nat.le_of_ble_eq_true rfl)⟩) hS (fun q _ h => hFc q h) hFc (fun r u t H1 locs ht hvm hw hB hz1 hk1 hS => ?_)
            subst hw
            obtain ⟨hP1, hK1, hD1⟩ := hB
            rw [ht] at hP1
            have hK1 := va_K.moved hvm.symm hK1
            obtain ⟨hP, hD⟩ := va_join (wr := []) (w1 := []) hP hD [] [] rfl rfl (by decide) (by decide) hk1 hFc hP1 hD1
            have hK := hK.app hK1
            generalize H1 = H at hP hS ⊢
            have hP : va_P (dC, dI) vwCl [] H := hP
            have hD : va_D A [] := hD
            have hK : va_K (dC, dI) vwCl [] s := hK
            refine W.widen (k := 0) (n := 0) (Nat.le_of_ble_eq_true rfl) (Nat.le_of_ble_eq_true rfl) ?_
            refine lv_if_eq (tgt := 49) hx hb dX13_areTypes_42 (by decide) (fun c_6 => ?_) (fun c_6 => ?_)
            · refine lv_iconst (v := 0) hx hb dX13_areTypes_49 (by decide) ?_
              have hP9 := hP.sub (ws' := []) [] rfl
              have hD9 := hD.sub (ws' := []) [] (by decide) rfl
              have hK9 := hK.sub (tys' := []) [] rfl
              refine W.widen (k := 0) (n := 0) (Nat.le_of_ble_eq_true rfl) (Nat.le_of_ble_eq_true rfl) ?_
              exact W.zret (v := 0) hx hb hr rfl (fun t ht hW => ⟨⟨0, (), rfl, (by rw [ge4_3] at c_2; simp [zTys, zTys2, zTys3, c_1, c_2, c_3, c_4, c_5, c_6]), by rw [ht]; exact hP9, va_K.moved hW.alike hK9, hD9⟩, hS.F ht⟩) hS.2.2 dX13_areTypes_50
            · refine lv_iconst (v := 1) hx hb dX13_areTypes_45 (by decide) ?_
              refine lv_goto (tgt := 50) hx hb dX13_areTypes_46 (by decide) ?_
              have hP9 := hP.sub (ws' := []) [] rfl
              have hD9 := hD.sub (ws' := []) [] (by decide) rfl
              have hK9 := hK.sub (tys' := []) [] rfl
              refine W.widen (k := 0) (n := 0) (Nat.le_of_ble_eq_true rfl) (Nat.le_of_ble_eq_true rfl) ?_
              exact W.zret (v := 1) hx hb hr rfl (fun t ht hW => ⟨⟨1, (), rfl, (by rw [ge4_3] at c_2; simp [zTys, zTys2, zTys3, c_1, c_2, c_3, c_4, c_5, c_6]), by rw [ht]; exact hP9, va_K.moved hW.alike hK9, hD9⟩, hS.F ht⟩) hS.2.2 dX13_areTypes_50
        · refine lv_iload_n hx hb dX13_areTypes_26 rfl (lv_at hl 2 rfl) ?_
          have hPc := hP.sub (ws' := []) [] rfl
          have hDc := hD.sub (ws' := []) [] (by decide) rfl
          have hKc := hK.sub (tys' := []) [] rfl
          have hFc := va_free (wc := []) hD hS hA [] rfl
          refine va_calli (va_runS (As := [.int p2]) (rest := []) ⟨hx, hb, hml, hown, htb⟩ (c_X13_isType l dC dI s.heap.size p2) (va_cwS 1 htb (gd_S kw_1115 kw_1116 kw_160 kw_1570) rfl rfl rfl (by decide +kernel) ⟨Nat.le_of_ble_eq_true rfl, Nat.le_of_ble_eq_true rfl⟩) ⟨fun a U g mk q => by obtain ⟨q0, q1, qP, qK, qD⟩ := q; exact ⟨q0, q1, qP, va_K.moved (u := U) (U := U.calling g mk a) (Vm.Alike.refl U.vm) qK, qD⟩, fun U hU hW => ⟨rfl, by rw [hU], by rw [hU]; exact hPc, va_K.moved hW.alike hKc, hDc.weaken (fun _ _ _ _ => trivial)⟩⟩ rfl rfl hl.1 rfl (lv_room (Nat.le_of_ble_eq_true rfl)) dX13_areTypes_27 ⟨(Nat.le_of_ble_eq_true rfl), (Nat.le_of_ble_eq_true rfl)⟩) hS (fun q _ h => hFc q h) hFc (fun r u t H1 locs ht hvm hw hB hz1 hk1 hS => ?_)
          subst hw
          obtain ⟨hP1, hK1, hD1⟩ := hB
          rw [ht] at hP1
          have hK1 := va_K.moved hvm.symm hK1
          obtain ⟨hP, hD⟩ := va_join (wr := []) (w1 := []) hP hD [] [] rfl rfl (by decide) (by decide) hk1 hFc hP1 hD1
          have hK := hK.app hK1
          generalize H1 = H at hP hS ⊢
          have hP : va_P (dC, dI) vwCl [] H := hP
          have hD : va_D A [] := hD
          have hK : va_K (dC, dI) vwCl [] s := hK
          refine W.widen (k := 0) (n := 0) (Nat.le_of_ble_eq_true rfl) (Nat.le_of_ble_eq_true rfl) ?_
          refine lv_if_eq (tgt := 49) hx hb dX13_areTypes_30 (by decide) (fun c_7 => ?_) (fun c_7 => ?_)
          · refine lv_iconst (v := 0) hx hb dX13_areTypes_49 (by decide) ?_
            have hP9 := hP.sub (ws' := []) [] rfl
            have hD9 := hD.sub (ws' := []) [] (by decide) rfl
            have hK9 := hK.sub (tys' := []) [] rfl
            refine W.widen (k := 0) (n := 0) (Nat.le_of_ble_eq_true rfl) (Nat.le_of_ble_eq_true rfl) ?_
            exact W.zret (v := 0) hx hb hr rfl (fun t ht hW => ⟨⟨0, (), rfl, (by rw [ge4_3] at c_2; simp [zTys, zTys2, zTys3, c_1, c_2, c_3, c_4, c_7]), by rw [ht]; exact hP9, va_K.moved hW.alike hK9, hD9⟩, hS.F ht⟩) hS.2.2 dX13_areTypes_50
          · refine lv_iload_n hx hb dX13_areTypes_33 rfl (lv_at hl 0 rfl) ?_
            refine lv_iconst (v := 3) hx hb dX13_areTypes_34 (by decide) ?_
            refine lv_icmp_lt (tgt := 45) hx hb dX13_areTypes_35 (by decide) (fun c_8 => ?_) (fun c_8 => ?_)
            · refine lv_iconst (v := 1) hx hb dX13_areTypes_45 (by decide) ?_
              refine lv_goto (tgt := 50) hx hb dX13_areTypes_46 (by decide) ?_
              have hP9 := hP.sub (ws' := []) [] rfl
              have hD9 := hD.sub (ws' := []) [] (by decide) rfl
              have hK9 := hK.sub (tys' := []) [] rfl
              refine W.widen (k := 0) (n := 0) (Nat.le_of_ble_eq_true rfl) (Nat.le_of_ble_eq_true rfl) ?_
              exact W.zret (v := 1) hx hb hr rfl (fun t ht hW => ⟨⟨1, (), rfl, (by rw [ge4_3] at c_2; simp [zTys, zTys2, zTys3, c_1, c_2, c_3, c_4, c_7, c_8]), by rw [ht]; exact hP9, va_K.moved hW.alike hK9, hD9⟩, hS.F ht⟩) hS.2.2 dX13_areTypes_50
            · refine lv_iload_n hx hb dX13_areTypes_38 rfl (lv_at hl 3 rfl) ?_
              have hPc := hP.sub (ws' := []) [] rfl
              have hDc := hD.sub (ws' := []) [] (by decide) rfl
              have hKc := hK.sub (tys' := []) [] rfl
              have hFc := va_free (wc := []) hD hS hA [] rfl
              refine va_calli (va_runS (As := [.int p3]) (rest := []) ⟨hx, hb, hml, hown, htb⟩ (c_X13_isType l dC dI H.size p3) (va_cwS 1 htb (gd_S kw_1115 kw_1116 kw_160 kw_1570) rfl rfl rfl (by decide +kernel) ⟨Nat.le_of_ble_eq_true rfl, Nat.le_of_ble_eq_true rfl⟩) ⟨fun a U g mk q => by obtain ⟨q0, q1, qP, qK, qD⟩ := q; exact ⟨q0, q1, qP, va_K.moved (u := U) (U := U.calling g mk a) (Vm.Alike.refl U.vm) qK, qD⟩, fun U hU hW => ⟨rfl, by rw [hU], by rw [hU]; exact hPc, va_K.moved hW.alike hKc, hDc.weaken (fun _ _ _ _ => trivial)⟩⟩ rfl rfl hl.1 rfl (lv_room (Nat.le_of_ble_eq_true rfl)) dX13_areTypes_39 ⟨(Nat.le_of_ble_eq_true rfl), (Nat.le_of_ble_eq_true rfl)⟩) hS (fun q _ h => hFc q h) hFc (fun r u t H1 locs ht hvm hw hB hz1 hk1 hS => ?_)
              subst hw
              obtain ⟨hP1, hK1, hD1⟩ := hB
              rw [ht] at hP1
              have hK1 := va_K.moved hvm.symm hK1
              obtain ⟨hP, hD⟩ := va_join (wr := []) (w1 := []) hP hD [] [] rfl rfl (by decide) (by decide) hk1 hFc hP1 hD1
              have hK := hK.app hK1
              generalize H1 = H at hP hS ⊢
              have hP : va_P (dC, dI) vwCl [] H := hP
              have hD : va_D A [] := hD
              have hK : va_K (dC, dI) vwCl [] s := hK
              refine W.widen (k := 0) (n := 0) (Nat.le_of_ble_eq_true rfl) (Nat.le_of_ble_eq_true rfl) ?_
              refine lv_if_eq (tgt := 49) hx hb dX13_areTypes_42 (by decide) (fun c_9 => ?_) (fun c_9 => ?_)
              · refine lv_iconst (v := 0) hx hb dX13_areTypes_49 (by decide) ?_
                have hP9 := hP.sub (ws' := []) [] rfl
                have hD9 := hD.sub (ws' := []) [] (by decide) rfl
                have hK9 := hK.sub (tys' := []) [] rfl
                refine W.widen (k := 0) (n := 0) (Nat.le_of_ble_eq_true rfl) (Nat.le_of_ble_eq_true rfl) ?_
                exact W.zret (v := 0) hx hb hr rfl (fun t ht hW => ⟨⟨0, (), rfl, (by rw [ge4_3] at c_2; simp [zTys, zTys2, zTys3, c_1, c_2, c_3, c_4, c_7, c_8, c_9]), by rw [ht]; exact hP9, va_K.moved hW.alike hK9, hD9⟩, hS.F ht⟩) hS.2.2 dX13_areTypes_50
              · refine lv_iconst (v := 1) hx hb dX13_areTypes_45 (by decide) ?_
                refine lv_goto (tgt := 50) hx hb dX13_areTypes_46 (by decide) ?_
                have hP9 := hP.sub (ws' := []) [] rfl
                have hD9 := hD.sub (ws' := []) [] (by decide) rfl
                have hK9 := hK.sub (tys' := []) [] rfl
                refine W.widen (k := 0) (n := 0) (Nat.le_of_ble_eq_true rfl) (Nat.le_of_ble_eq_true rfl) ?_
                exact W.zret (v := 1) hx hb hr rfl (fun t ht hW => ⟨⟨1, (), rfl, (by rw [ge4_3] at c_2; simp [zTys, zTys2, zTys3, c_1, c_2, c_3, c_4, c_7, c_8, c_9]), by rw [ht]; exact hP9, va_K.moved hW.alike hK9, hD9⟩, hS.F ht⟩) hS.2.2 dX13_areTypes_50
      · refine lv_iload_n hx hb dX13_areTypes_14 rfl (lv_at hl 1 rfl) ?_
        have hPc := hP.sub (ws' := []) [] rfl
        have hDc := hD.sub (ws' := []) [] (by decide) rfl
        have hKc := hK.sub (tys' := []) [] rfl
        have hFc := va_free (wc := []) hD hS hA [] rfl
        refine va_calli (va_runS (As := [.int p1]) (rest := []) ⟨hx, hb, hml, hown, htb⟩ (c_X13_isType l dC dI s.heap.size p1) (va_cwS 1 htb (gd_S kw_1115 kw_1116 kw_160 kw_1570) rfl rfl rfl (by decide +kernel) ⟨Nat.le_of_ble_eq_true rfl, Nat.le_of_ble_eq_true rfl⟩) ⟨fun a U g mk q => by obtain ⟨q0, q1, qP, qK, qD⟩ := q; exact ⟨q0, q1, qP, va_K.moved (u := U) (U := U.calling g mk a) (Vm.Alike.refl U.vm) qK, qD⟩, fun U hU hW => ⟨rfl, by rw [hU], by rw [hU]; exact hPc, va_K.moved hW.alike hKc, hDc.weaken (fun _ _ _ _ => trivial)⟩⟩ rfl rfl hl.1 rfl (lv_room (Nat.le_of_ble_eq_true rfl)) dX13_areTypes_15 ⟨(Nat.le_of_ble_eq_true rfl), (Nat.le_of_ble_eq_true rfl)⟩) hS (fun q _ h => hFc q h) hFc (fun r u t H1 locs ht hvm hw hB hz1 hk1 hS => ?_)
        subst hw
        obtain ⟨hP1, hK1, hD1⟩ := hB
        rw [ht] at hP1
        have hK1 := va_K.moved hvm.symm hK1
        obtain ⟨hP, hD⟩ := va_join (wr := []) (w1 := []) hP hD [] [] rfl rfl (by decide) (by decide) hk1 hFc hP1 hD1
        have hK := hK.app hK1
        generalize H1 = H at hP hS ⊢
        have hP : va_P (dC, dI) vwCl [] H := hP
        have hD : va_D A [] := hD
        have hK : va_K (dC, dI) vwCl [] s := hK
        refine W.widen (k := 0) (n := 0) (Nat.le_of_ble_eq_true rfl) (Nat.le_of_ble_eq_true rfl) ?_
        refine lv_if_eq (tgt := 49) hx hb dX13_areTypes_18 (by decide) (fun c_10 => ?_) (fun c_10 => ?_)
        · refine lv_iconst (v := 0) hx hb dX13_areTypes_49 (by decide) ?_
          have hP9 := hP.sub (ws' := []) [] rfl
          have hD9 := hD.sub (ws' := []) [] (by decide) rfl
          have hK9 := hK.sub (tys' := []) [] rfl
          refine W.widen (k := 0) (n := 0) (Nat.le_of_ble_eq_true rfl) (Nat.le_of_ble_eq_true rfl) ?_
          exact W.zret (v := 0) hx hb hr rfl (fun t ht hW => ⟨⟨0, (), rfl, (by rw [ge4_3] at c_2; simp [zTys, zTys2, zTys3, c_1, c_2, c_3, c_10]), by rw [ht]; exact hP9, va_K.moved hW.alike hK9, hD9⟩, hS.F ht⟩) hS.2.2 dX13_areTypes_50
        · refine lv_iload_n hx hb dX13_areTypes_21 rfl (lv_at hl 0 rfl) ?_
          refine lv_iconst (v := 2) hx hb dX13_areTypes_22 (by decide) ?_
          refine lv_icmp_lt (tgt := 33) hx hb dX13_areTypes_23 (by decide) (fun c_11 => ?_) (fun c_11 => ?_)
          · refine lv_iload_n hx hb dX13_areTypes_33 rfl (lv_at hl 0 rfl) ?_
            refine lv_iconst (v := 3) hx hb dX13_areTypes_34 (by decide) ?_
            refine lv_icmp_lt (tgt := 45) hx hb dX13_areTypes_35 (by decide) (fun c_12 => ?_) (fun c_12 => ?_)
            · refine lv_iconst (v := 1) hx hb dX13_areTypes_45 (by decide) ?_
              refine lv_goto (tgt := 50) hx hb dX13_areTypes_46 (by decide) ?_
              have hP9 := hP.sub (ws' := []) [] rfl
              have hD9 := hD.sub (ws' := []) [] (by decide) rfl
              have hK9 := hK.sub (tys' := []) [] rfl
              refine W.widen (k := 0) (n := 0) (Nat.le_of_ble_eq_true rfl) (Nat.le_of_ble_eq_true rfl) ?_
              exact W.zret (v := 1) hx hb hr rfl (fun t ht hW => ⟨⟨1, (), rfl, (by rw [ge4_3] at c_2; simp [zTys, zTys2, zTys3, c_1, c_2, c_3, c_10, c_11, c_12]), by rw [ht]; exact hP9, va_K.moved hW.alike hK9, hD9⟩, hS.F ht⟩) hS.2.2 dX13_areTypes_50
            · refine lv_iload_n hx hb dX13_areTypes_38 rfl (lv_at hl 3 rfl) ?_
              have hPc := hP.sub (ws' := []) [] rfl
              have hDc := hD.sub (ws' := []) [] (by decide) rfl
              have hKc := hK.sub (tys' := []) [] rfl
              have hFc := va_free (wc := []) hD hS hA [] rfl
              refine va_calli (va_runS (As := [.int p3]) (rest := []) ⟨hx, hb, hml, hown, htb⟩ (c_X13_isType l dC dI H.size p3) (va_cwS 1 htb (gd_S kw_1115 kw_1116 kw_160 kw_1570) rfl rfl rfl (by decide +kernel) ⟨Nat.le_of_ble_eq_true rfl, Nat.le_of_ble_eq_true rfl⟩) ⟨fun a U g mk q => by obtain ⟨q0, q1, qP, qK, qD⟩ := q; exact ⟨q0, q1, qP, va_K.moved (u := U) (U := U.calling g mk a) (Vm.Alike.refl U.vm) qK, qD⟩, fun U hU hW => ⟨rfl, by rw [hU], by rw [hU]; exact hPc, va_K.moved hW.alike hKc, hDc.weaken (fun _ _ _ _ => trivial)⟩⟩ rfl rfl hl.1 rfl (lv_room (Nat.le_of_ble_eq_true rfl)) dX13_areTypes_39 ⟨(Nat.le_of_ble_eq_true rfl), (Nat.le_of_ble_eq_true rfl)⟩) hS (fun q _ h => hFc q h) hFc (fun r u t H1 locs ht hvm hw hB hz1 hk1 hS => ?_)
              subst hw
              obtain ⟨hP1, hK1, hD1⟩ := hB
              rw [ht] at hP1
              have hK1 := va_K.moved hvm.symm hK1
              obtain ⟨hP, hD⟩ := va_join (wr := []) (w1 := []) hP hD [] [] rfl rfl (by decide) (by decide) hk1 hFc hP1 hD1
              have hK := hK.app hK1
              generalize H1 = H at hP hS ⊢
              have hP : va_P (dC, dI) vwCl [] H := hP
              have hD : va_D A [] := hD
              have hK : va_K (dC, dI) vwCl [] s := hK
              refine W.widen (k := 0) (n := 0) (Nat.le_of_ble_eq_true rfl) (Nat.le_of_ble_eq_true rfl) ?_
              refine lv_if_eq (tgt := 49) hx hb dX13_areTypes_42 (by decide) (fun c_13 => ?_) (fun c_13 => ?_)
              · refine lv_iconst (v := 0) hx hb dX13_areTypes_49 (by decide) ?_
                have hP9 := hP.sub (ws' := []) [] rfl
                have hD9 := hD.sub (ws' := []) [] (by decide) rfl
                have hK9 := hK.sub (tys' := []) [] rfl
                refine W.widen (k := 0) (n := 0) (Nat.le_of_ble_eq_true rfl) (Nat.le_of_ble_eq_true rfl) ?_
                exact W.zret (v := 0) hx hb hr rfl (fun t ht hW => ⟨⟨0, (), rfl, (by rw [ge4_3] at c_2; simp [zTys, zTys2, zTys3, c_1, c_2, c_3, c_10, c_11, c_12, c_13]), by rw [ht]; exact hP9, va_K.moved hW.alike hK9, hD9⟩, hS.F ht⟩) hS.2.2 dX13_areTypes_50
              · refine lv_iconst (v := 1) hx hb dX13_areTypes_45 (by decide) ?_
                refine lv_goto (tgt := 50) hx hb dX13_areTypes_46 (by decide) ?_
                have hP9 := hP.sub (ws' := []) [] rfl
                have hD9 := hD.sub (ws' := []) [] (by decide) rfl
                have hK9 := hK.sub (tys' := []) [] rfl
                refine W.widen (k := 0) (n := 0) (Nat.le_of_ble_eq_true rfl) (Nat.le_of_ble_eq_true rfl) ?_
                exact W.zret (v := 1) hx hb hr rfl (fun t ht hW => ⟨⟨1, (), rfl, (by rw [ge4_3] at c_2; simp [zTys, zTys2, zTys3, c_1, c_2, c_3, c_10, c_11, c_12, c_13]), by rw [ht]; exact hP9, va_K.moved hW.alike hK9, hD9⟩, hS.F ht⟩) hS.2.2 dX13_areTypes_50
          · refine lv_iload_n hx hb dX13_areTypes_26 rfl (lv_at hl 2 rfl) ?_
            have hPc := hP.sub (ws' := []) [] rfl
            have hDc := hD.sub (ws' := []) [] (by decide) rfl
            have hKc := hK.sub (tys' := []) [] rfl
            have hFc := va_free (wc := []) hD hS hA [] rfl
            refine va_calli (va_runS (As := [.int p2]) (rest := []) ⟨hx, hb, hml, hown, htb⟩ (c_X13_isType l dC dI H.size p2) (va_cwS 1 htb (gd_S kw_1115 kw_1116 kw_160 kw_1570) rfl rfl rfl (by decide +kernel) ⟨Nat.le_of_ble_eq_true rfl, Nat.le_of_ble_eq_true rfl⟩) ⟨fun a U g mk q => by obtain ⟨q0, q1, qP, qK, qD⟩ := q; exact ⟨q0, q1, qP, va_K.moved (u := U) (U := U.calling g mk a) (Vm.Alike.refl U.vm) qK, qD⟩, fun U hU hW => ⟨rfl, by rw [hU], by rw [hU]; exact hPc, va_K.moved hW.alike hKc, hDc.weaken (fun _ _ _ _ => trivial)⟩⟩ rfl rfl hl.1 rfl (lv_room (Nat.le_of_ble_eq_true rfl)) dX13_areTypes_27 ⟨(Nat.le_of_ble_eq_true rfl), (Nat.le_of_ble_eq_true rfl)⟩) hS (fun q _ h => hFc q h) hFc (fun r u t H1 locs ht hvm hw hB hz1 hk1 hS => ?_)
            subst hw
            obtain ⟨hP1, hK1, hD1⟩ := hB
            rw [ht] at hP1
            have hK1 := va_K.moved hvm.symm hK1
            obtain ⟨hP, hD⟩ := va_join (wr := []) (w1 := []) hP hD [] [] rfl rfl (by decide) (by decide) hk1 hFc hP1 hD1
            have hK := hK.app hK1
            generalize H1 = H at hP hS ⊢
            have hP : va_P (dC, dI) vwCl [] H := hP
            have hD : va_D A [] := hD
            have hK : va_K (dC, dI) vwCl [] s := hK
            refine W.widen (k := 0) (n := 0) (Nat.le_of_ble_eq_true rfl) (Nat.le_of_ble_eq_true rfl) ?_
            refine lv_if_eq (tgt := 49) hx hb dX13_areTypes_30 (by decide) (fun c_14 => ?_) (fun c_14 => ?_)
            · refine lv_iconst (v := 0) hx hb dX13_areTypes_49 (by decide) ?_
              have hP9 := hP.sub (ws' := []) [] rfl
              have hD9 := hD.sub (ws' := []) [] (by decide) rfl
              have hK9 := hK.sub (tys' := []) [] rfl
              refine W.widen (k := 0) (n := 0) (Nat.le_of_ble_eq_true rfl) (Nat.le_of_ble_eq_true rfl) ?_
              exact W.zret (v := 0) hx hb hr rfl (fun t ht hW => ⟨⟨0, (), rfl, (by rw [ge4_3] at c_2; simp [zTys, zTys2, zTys3, c_1, c_2, c_3, c_10, c_11, c_14]), by rw [ht]; exact hP9, va_K.moved hW.alike hK9, hD9⟩, hS.F ht⟩) hS.2.2 dX13_areTypes_50
            · refine lv_iload_n hx hb dX13_areTypes_33 rfl (lv_at hl 0 rfl) ?_
              refine lv_iconst (v := 3) hx hb dX13_areTypes_34 (by decide) ?_
              refine lv_icmp_lt (tgt := 45) hx hb dX13_areTypes_35 (by decide) (fun c_15 => ?_) (fun c_15 => ?_)
              · refine lv_iconst (v := 1) hx hb dX13_areTypes_45 (by decide) ?_
                refine lv_goto (tgt := 50) hx hb dX13_areTypes_46 (by decide) ?_
                have hP9 := hP.sub (ws' := []) [] rfl
                have hD9 := hD.sub (ws' := []) [] (by decide) rfl
                have hK9 := hK.sub (tys' := []) [] rfl
                refine W.widen (k := 0) (n := 0) (Nat.le_of_ble_eq_true rfl) (Nat.le_of_ble_eq_true rfl) ?_
                exact W.zret (v := 1) hx hb hr rfl (fun t ht hW => ⟨⟨1, (), rfl, (by rw [ge4_3] at c_2; simp [zTys, zTys2, zTys3, c_1, c_2, c_3, c_10, c_11, c_14, c_15]), by rw [ht]; exact hP9, va_K.moved hW.alike hK9, hD9⟩, hS.F ht⟩) hS.2.2 dX13_areTypes_50
              · refine lv_iload_n hx hb dX13_areTypes_38 rfl (lv_at hl 3 rfl) ?_
                have hPc := hP.sub (ws' := []) [] rfl
                have hDc := hD.sub (ws' := []) [] (by decide) rfl
                have hKc := hK.sub (tys' := []) [] rfl
                have hFc := va_free (wc := []) hD hS hA [] rfl
                refine va_calli (va_runS (As := [.int p3]) (rest := []) ⟨hx, hb, hml, hown, htb⟩ (c_X13_isType l dC dI H.size p3) (va_cwS 1 htb (gd_S kw_1115 kw_1116 kw_160 kw_1570) rfl rfl rfl (by decide +kernel) ⟨Nat.le_of_ble_eq_true rfl, Nat.le_of_ble_eq_true rfl⟩) ⟨fun a U g mk q => by obtain ⟨q0, q1, qP, qK, qD⟩ := q; exact ⟨q0, q1, qP, va_K.moved (u := U) (U := U.calling g mk a) (Vm.Alike.refl U.vm) qK, qD⟩, fun U hU hW => ⟨rfl, by rw [hU], by rw [hU]; exact hPc, va_K.moved hW.alike hKc, hDc.weaken (fun _ _ _ _ => trivial)⟩⟩ rfl rfl hl.1 rfl (lv_room (Nat.le_of_ble_eq_true rfl)) dX13_areTypes_39 ⟨(Nat.le_of_ble_eq_true rfl), (Nat.le_of_ble_eq_true rfl)⟩) hS (fun q _ h => hFc q h) hFc (fun r u t H1 locs ht hvm hw hB hz1 hk1 hS => ?_)
                subst hw
                obtain ⟨hP1, hK1, hD1⟩ := hB
                rw [ht] at hP1
                have hK1 := va_K.moved hvm.symm hK1
                obtain ⟨hP, hD⟩ := va_join (wr := []) (w1 := []) hP hD [] [] rfl rfl (by decide) (by decide) hk1 hFc hP1 hD1
                have hK := hK.app hK1
                generalize H1 = H at hP hS ⊢
                have hP : va_P (dC, dI) vwCl [] H := hP
                have hD : va_D A [] := hD
                have hK : va_K (dC, dI) vwCl [] s := hK
                refine W.widen (k := 0) (n := 0) (Nat.le_of_ble_eq_true rfl) (Nat.le_of_ble_eq_true rfl) ?_
                refine lv_if_eq (tgt := 49) hx hb dX13_areTypes_42 (by decide) (fun c_16 => ?_) (fun c_16 => ?_)
                · refine lv_iconst (v := 0) hx hb dX13_areTypes_49 (by decide) ?_
                  have hP9 := hP.sub (ws' := []) [] rfl
                  have hD9 := hD.sub (ws' := []) [] (by decide) rfl
                  have hK9 := hK.sub (tys' := []) [] rfl
                  refine W.widen (k := 0) (n := 0) (Nat.le_of_ble_eq_true rfl) (Nat.le_of_ble_eq_true rfl) ?_
                  exact W.zret (v := 0) hx hb hr rfl (fun t ht hW => ⟨⟨0, (), rfl, (by rw [ge4_3] at c_2; simp [zTys, zTys2, zTys3, c_1, c_2, c_3, c_10, c_11, c_14, c_15, c_16]), by rw [ht]; exact hP9, va_K.moved hW.alike hK9, hD9⟩, hS.F ht⟩) hS.2.2 dX13_areTypes_50
                · refine lv_iconst (v := 1) hx hb dX13_areTypes_45 (by decide) ?_
                  refine lv_goto (tgt := 50) hx hb dX13_areTypes_46 (by decide) ?_
                  have hP9 := hP.sub (ws' := []) [] rfl
                  have hD9 := hD.sub (ws' := []) [] (by decide) rfl
                  have hK9 := hK.sub (tys' := []) [] rfl
                  refine W.widen (k := 0) (n := 0) (Nat.le_of_ble_eq_true rfl) (Nat.le_of_ble_eq_true rfl) ?_
                  exact W.zret (v := 1) hx hb hr rfl (fun t ht hW => ⟨⟨1, (), rfl, (by rw [ge4_3] at c_2; simp [zTys, zTys2, zTys3, c_1, c_2, c_3, c_10, c_11, c_14, c_15, c_16]), by rw [ht]; exact hP9, va_K.moved hW.alike hK9, hD9⟩, hS.F ht⟩) hS.2.2 dX13_areTypes_50

theorem cl_iv {w z z1 z2 : Int64} {x a b : Int32} (h : z = w &&& 255) (hx : x = z.toInt32) (e1 : z1 = w &&& 255) (ea : a = lg_cmp z1 48) (ha : ¬ a < 0) (e2 : z2 = w &&& 255) (eb : b = lg_cmp z2 55) (hb : ¬ 0 < b) : iv 48 55 x := by
  subst h hx e1 ea e2 eb
  have k1 := Int64.le_iff_toInt_le.mp (Int64.not_lt.mp (fun q => ha ((lg_cmp_lt _ _).mpr q)))
  have k2 := Int64.le_iff_toInt_le.mp (Int64.not_lt.mp (fun q => hb ((lg_cmp_gt _ _).mpr q)))
  have q1 : (48 : Int64).toInt = 48 := by decide
  have q2 : (55 : Int64).toInt = 55 := by decide
  rw [q1] at k1
  rw [q2] at k2
  refine ⟨?_, ?_⟩ <;> rw [Int64.toInt_toInt32, i32_bm ⟨by omega, by omega⟩] <;> omega

set_option maxHeartbeats 4000000 in
set_option maxRecDepth 100000 in
theorem a_classIn (l : Launch) (dC : Nat → ClassId) (dI : Nat → Nat → Nat) (sz : Nat) (w : Int64) : Met l yX13_classIn wm_X13_classIn ({ frames := 0, cells := 0, slots := 0, locals := 0 }) (va_Pc [.long w] (fun U => U.heap.size = sz ∧ va_P (dC, dI) vwCl [] U.heap ∧ va_K (dC, dI) vwCl [] U ∧ va_D (fun _ => True) [])) (va_Qi (fun (r : Int32) (_ : Unit) => iv (-1) 7 r) (fun _ t => va_P (dC, dI) vwCl [] t.heap ∧ va_K (dC, dI) vwCl [] t ∧ va_D (va_A [] sz) []) (va_A [] sz)) 0 0 (va_A [] sz) := by
  refine Met.ofW (cc := cX13_classIn) (maxL := 2) (ret := (some .int)) (by decide) rfl ?_
  intro p e s m args below meth c s₁ B hml hv
  obtain ⟨rfl, hsz, hP, hK, hD0⟩ := hv
  have hx := B.exec
  have hb := B.bytes
  have hr := B.returns
  have hts := atoms_spec (ws := wm_X13_classIn) B.pre
  have htb := fun (w : Cond) (h : w ∈ tb) => hts w (List.mem_cons_of_mem _ h)
  have hown : s.vm.findClass RX13 = some m.cls := findClass_of_methodNamed B.named
  have hlocks := B.notSynchronized
  subst hsz
  have hD := hD0.self (sz := s.heap.size)
  generalize hAe : va_A [] s.heap.size = A at hD ⊢
  have hA : ∀ q : Nat, s.heap.size ≤ q → A q := fun q h => by rw [← hAe]; exact Or.inr h
  have hS : va_S A s.heap s.heap [] := va_S.rf
  have hP : va_P (dC, dI) vwCl [] s.heap := hP
  have hl := lv_entry ([.long w]) (n := 2) (Nat.le_of_ble_eq_true rfl)
  rw [lg_entry_eq]
  generalize (lg_sl ([.long w]) ++ List.replicate (2 - (lg_sl ([.long w])).length) Slot.unset).toArray = ls at hl ⊢
  have hl : lv_has ls 2 [(0, .long w)] := hl
  have hj48 : ∀ (y0_48 : Int32) (_ : iv (-1) 7 y0_48) (H : Heap) (locs : List Loc) (ls : Array Slot), va_P (dC, dI) vwCl [] H → va_D A [] → va_S A s.heap H locs → lv_has ls 2 [(0, .long w)] → W p l e (headSpec wm_X13_classIn ({ frames := 0, cells := 0, slots := 0, locals := 0 })).room s m ([.long w] : List Value).toArray below meth c H locs 0 0 (MQ below (va_Qi (fun (r : Int32) (_ : Unit) => iv (-1) 7 r) (fun _ t => va_P (dC, dI) vwCl [] t.heap ∧ va_K (dC, dI) vwCl [] t ∧ va_D A []) A) ([.long w] : List Value).toArray s 0 0 A) (F0 m 48 ls [.int y0_48]) := by
    intro y0_48 hy0_48 H locs ls hP hD hS hl
    exact W.iret (v := y0_48) hx hb hr (fun t ht hW => ⟨⟨y0_48, (), rfl, hy0_48, by rw [ht]; exact hP, va_K.moved hW.alike hK, hD⟩, hS.F ht⟩) hS.2.2 dX13_classIn_48
  have hj47 : ∀ (H : Heap) (locs : List Loc) (ls : Array Slot), va_P (dC, dI) vwCl [] H → va_D A [] → va_S A s.heap H locs → lv_has ls 2 [(0, .long w)] → W p l e (headSpec wm_X13_classIn ({ frames := 0, cells := 0, slots := 0, locals := 0 })).room s m ([.long w] : List Value).toArray below meth c H locs 0 0 (MQ below (va_Qi (fun (r : Int32) (_ : Unit) => iv (-1) 7 r) (fun _ t => va_P (dC, dI) vwCl [] t.heap ∧ va_K (dC, dI) vwCl [] t ∧ va_D A []) A) ([.long w] : List Value).toArray s 0 0 A) (F0 m 47 ls []) := by
    intro  H locs ls hP hD hS hl
    refine lv_iconst (v := (-1)) hx hb dX13_classIn_47 (by decide) ?_
    exact hj48 (-1) (iv_w (iv_k (by decide) : iv (-1) (-1) (-1)) (by decide)) _ _ _ hP hD hS (lv_sub hl [0] rfl)
  refine lv_lload_n hx hb dX13_classIn_0 rfl (lv_at hl 0 rfl) ?_
  refine lv_bipush (v := 8) hx hb dX13_classIn_1 (by decide) ?_
  refine lv_lshr (v := w >>> ((8 : Int32).toInt64 &&& 63)) hx hb dX13_classIn_3 rfl ?_
  refine lv_topl (fun z_1 ez_1 => ?_)
  refine lv_ldc2 (own := RX13) (v := 75) hx hb hown (htb _ kw_1207) dX13_classIn_4 ?_
  refine W.lcmp hx hb dX13_classIn_7 ?_
  refine lv_topi (fun z_2 ez_2 => ?_)
  have hz_2 : iv (-1) 1 z_2 := iv_of ez_2 (iv_cmp _ _)
  refine lv_if_ne (tgt := 47) hx hb dX13_classIn_8 (by decide) (fun c_3 => ?_) (fun c_3 => ?_)
  · have d_4 : ¬ (z_2 : Int32).toInt = 0 := lv_neT c_3 rfl
    exact hj47 _ _ _ hP hD hS (lv_sub hl [0] rfl)
  · have h_5 : iv 0 0 z_2 := iv_eq c_3 hz_2 (iv_k (by decide) : iv 0 0 0) (by decide)
    refine lv_lload_n hx hb dX13_classIn_11 rfl (lv_at hl 0 rfl) ?_
    refine lv_ldc2 (own := RX13) (v := 255) hx hb hown (htb _ kw_1165) dX13_classIn_12 ?_
    refine lv_land hx hb dX13_classIn_15 ?_
    refine lv_topl (fun z_6 ez_6 => ?_)
    refine lv_ldc2 (own := RX13) (v := 48) hx hb hown (htb _ kw_1208) dX13_classIn_16 ?_
    refine W.lcmp hx hb dX13_classIn_19 ?_
    refine lv_topi (fun z_7 ez_7 => ?_)
    have hz_7 : iv (-1) 1 z_7 := iv_of ez_7 (iv_cmp _ _)
    refine lv_if_lt (tgt := 47) hx hb dX13_classIn_20 (by decide) (fun c_8 => ?_) (fun c_8 => ?_)
    · have h_9 : iv (-1) (-1) z_7 := iv_ltL c_8 hz_7 (iv_k (by decide) : iv 0 0 0) (by decide)
      exact hj47 _ _ _ hP hD hS (lv_sub hl [0] rfl)
    · have h_10 : iv 0 1 z_7 := iv_leR (i32_ge c_8) (iv_k (by decide) : iv 0 0 0) hz_7 (by decide)
      refine lv_lload_n hx hb dX13_classIn_23 rfl (lv_at hl 0 rfl) ?_
      refine lv_ldc2 (own := RX13) (v := 255) hx hb hown (htb _ kw_1165) dX13_classIn_24 ?_
      refine lv_land hx hb dX13_classIn_27 ?_
      refine lv_topl (fun z_11 ez_11 => ?_)
      refine lv_ldc2 (own := RX13) (v := 55) hx hb hown (htb _ kw_1209) dX13_classIn_28 ?_
      refine W.lcmp hx hb dX13_classIn_31 ?_
      refine lv_topi (fun z_12 ez_12 => ?_)
      have hz_12 : iv (-1) 1 z_12 := iv_of ez_12 (iv_cmp _ _)
      refine lv_if_gt (tgt := 47) hx hb dX13_classIn_32 (by decide) (fun c_13 => ?_) (fun c_13 => ?_)
      · have h_14 : iv 1 1 z_12 := iv_ltR c_13 (iv_k (by decide) : iv 0 0 0) hz_12 (by decide)
        exact hj47 _ _ _ hP hD hS (lv_sub hl [0] rfl)
      · have h_15 : iv (-1) 0 z_12 := iv_leL (i32_ge c_13) hz_12 (iv_k (by decide) : iv 0 0 0) (by decide)
        refine lv_lload_n hx hb dX13_classIn_35 rfl (lv_at hl 0 rfl) ?_
        refine lv_ldc2 (own := RX13) (v := 255) hx hb hown (htb _ kw_1165) dX13_classIn_36 ?_
        refine lv_land hx hb dX13_classIn_39 ?_
        refine lv_topl (fun z_16 ez_16 => ?_)
        refine lv_l2i (v := (z_16).toInt32) hx hb dX13_classIn_40 rfl ?_
        refine lv_topi (fun z_17 ez_17 => ?_)
        have hz_17 : iv 0 255 z_17 := iv_of ez_17 (iv_l255 ez_16)
        have h_18 : iv 48 55 z_17 := cl_iv ez_16 ez_17 ez_6 ez_7 c_8 ez_11 ez_12 c_13
        refine lv_bipush (v := 48) hx hb dX13_classIn_41 (by decide) ?_
        refine lv_isub hx hb dX13_classIn_43 ?_
        refine lv_topi (fun z_19 ez_19 => ?_)
        have hz_19 : iv 0 7 z_19 := iv_of ez_19 (iv_sub h_18 (iv_k (by decide) : iv 48 48 48) (by decide))
        have tz_19 : z_19.toInt = (z_17 : Int32).toInt - 48 := by rw [ez_19]; exact iv_subE h_18 (iv_k (by decide) : iv 48 48 48) (by decide)
        refine lv_goto (tgt := 48) hx hb dX13_classIn_44 (by decide) ?_
        exact hj48 z_19 (iv_w hz_19 (by decide)) _ _ _ hP hD hS (lv_sub hl [0] rfl)
end
section
set_option maxHeartbeats 4000000 in
set_option maxRecDepth 100000 in
theorem a_fault (l : Launch) (dC : Nat → ClassId) (dI : Nat → Nat → Nat) (h0 : Nat) (ad : Nat → Nat) (cid : Nat → ClassId) (sg : Nat → Int32) (gm : Nat → Nat → Int32) (lg : Nat → Nat → Int64) (a : Int32) (hI : MI sg gm) : MMi l dC dI yX13_fault wm_X13_fault ({ frames := 0, cells := 0, slots := 0, locals := 0 }) h0 ad cid [.int a] sg gm lg (fun r v => ∃ (sg2 : Nat → Int32) (gm2 : Nat → Nat → Int32) (lg2 : Nat → Nat → Int64), v = (sg2, gm2, lg2) ∧ MI sg2 gm2 ∧ KS [5] sg sg2 ∧ KS [] gm gm2 ∧ KS [] lg lg2) := by
  intro sz
  refine Met.ofW (cc := cX13_fault) (maxL := 2) (ret := (some .int)) (by decide) rfl ?_
  intro p e s m args below meth c s₁ B hml hv
  obtain ⟨rfl, hsz, hP, hK, hD0⟩ := hv
  have hx := B.exec
  have hb := B.bytes
  have hr := B.returns
  have hts := atoms_spec (ws := wm_X13_fault) B.pre
  have htb := fun (w : Cond) (h : w ∈ tb) => hts w (List.mem_cons_of_mem _ h)
  have hown : s.vm.findClass RX13 = some m.cls := findClass_of_methodNamed B.named
  have hlocks := B.notSynchronized
  subst hsz
  have hD := hD0.self (sz := s.heap.size)
  generalize hAe : va_A (mW h0 ad cid sg gm lg) s.heap.size = A at hD ⊢
  have hA : ∀ q : Nat, s.heap.size ≤ q → A q := fun q h => by rw [← hAe]; exact Or.inr h
  have hS : va_S A s.heap s.heap [] := va_S.rf
  have hl := lv_entry ([.ref h0, .int a]) (n := 2) (Nat.le_of_ble_eq_true rfl)
  rw [lg_entry_eq]
  generalize (lg_sl ([.ref h0, .int a]) ++ List.replicate (2 - (lg_sl ([.ref h0, .int a])).length) Slot.unset).toArray = ls at hl ⊢
  have hl : lv_has ls 2 [(0, .ref h0), (1, .int a)] := hl
  refine lv_aload_n hx hb dX13_fault_0 rfl (lv_at hl 0 rfl) ?_
  refine lv_iconst (v := 0) hx hb dX13_fault_1 (by decide) ?_
  refine ma_put (x := 0) hx hb htb inX13 hown hK hP hD hS 5 (by decide) (by decide) (htb _ kw_1032) rfl rfl rfl dX13_fault_2 (fun sg_1 H locs esg_1 hP hD hS => ?_)
  have hI_sg_1 := MI_put hI esg_1 (iv_k (by decide) : iv 0 0 0) (by decide)
  refine lv_iload_n hx hb dX13_fault_5 rfl (lv_at hl 1 rfl) ?_
  by_cases c_2 : (a : Int32).toInt = 0
  · refine lv_tableIn (tgt := 36) hx hb dX13_fault_6 (by rw [c_2]; decide) (by rw [c_2]; decide) (by rw [c_2]; rfl) (by decide) ?_
    have h_3 : iv 0 0 a := iv_at c_2
    refine lv_aload_n hx hb dX13_fault_36 rfl (lv_at hl 0 rfl) ?_
    refine mr_get (v := .int (sg_1 22)) hx hb htb inX13 hown hK hP 22 (by decide) (htb _ kw_1049) rfl dX13_fault_37 ?_
    refine lv_topi (fun z_4 ez_4 => ?_)
    obtain rfl : (sg 22) = z_4 := (ez_4.trans (up_ne esg_1 (by decide))).symm
    exact W.iret (v := (sg 22)) hx hb hr (fun t ht hW => ⟨⟨(sg 22), (sg_1, gm, lg), rfl, ⟨sg_1, gm, lg, rfl, hI_sg_1, (KS_up KS_rf esg_1 (by decide)), KS_rf, KS_rf⟩, by rw [ht]; exact hP, va_K.moved hW.alike hK, hD⟩, hS.F ht⟩) hS.2.2 dX13_fault_40
  by_cases c_5 : (a : Int32).toInt = 1
  · refine lv_tableIn (tgt := 41) hx hb dX13_fault_6 (by rw [c_5]; decide) (by rw [c_5]; decide) (by rw [c_5]; rfl) (by decide) ?_
    have h_6 : iv 1 1 a := iv_at c_5
    refine lv_aload_n hx hb dX13_fault_41 rfl (lv_at hl 0 rfl) ?_
    refine mr_get (v := .int (sg_1 23)) hx hb htb inX13 hown hK hP 23 (by decide) (htb _ kw_1050) rfl dX13_fault_42 ?_
    refine lv_topi (fun z_7 ez_7 => ?_)
    obtain rfl : (sg 23) = z_7 := (ez_7.trans (up_ne esg_1 (by decide))).symm
    exact W.iret (v := (sg 23)) hx hb hr (fun t ht hW => ⟨⟨(sg 23), (sg_1, gm, lg), rfl, ⟨sg_1, gm, lg, rfl, hI_sg_1, (KS_up KS_rf esg_1 (by decide)), KS_rf, KS_rf⟩, by rw [ht]; exact hP, va_K.moved hW.alike hK, hD⟩, hS.F ht⟩) hS.2.2 dX13_fault_45
  by_cases c_8 : (a : Int32).toInt = 2
  · refine lv_tableIn (tgt := 46) hx hb dX13_fault_6 (by rw [c_8]; decide) (by rw [c_8]; decide) (by rw [c_8]; rfl) (by decide) ?_
    have h_9 : iv 2 2 a := iv_at c_8
    refine lv_aload_n hx hb dX13_fault_46 rfl (lv_at hl 0 rfl) ?_
    refine mr_get (v := .int (sg_1 51)) hx hb htb inX13 hown hK hP 51 (by decide) (htb _ kw_1078) rfl dX13_fault_47 ?_
    refine lv_topi (fun z_10 ez_10 => ?_)
    obtain rfl : (sg 51) = z_10 := (ez_10.trans (up_ne esg_1 (by decide))).symm
    exact W.iret (v := (sg 51)) hx hb hr (fun t ht hW => ⟨⟨(sg 51), (sg_1, gm, lg), rfl, ⟨sg_1, gm, lg, rfl, hI_sg_1, (KS_up KS_rf esg_1 (by decide)), KS_rf, KS_rf⟩, by rw [ht]; exact hP, va_K.moved hW.alike hK, hD⟩, hS.F ht⟩) hS.2.2 dX13_fault_50
  by_cases c_11 : (a : Int32).toInt = 3
  · refine lv_tableIn (tgt := 51) hx hb dX13_fault_6 (by rw [c_11]; decide) (by rw [c_11]; decide) (by rw [c_11]; rfl) (by decide) ?_
    have h_12 : iv 3 3 a := iv_at c_11
    refine lv_aload_n hx hb dX13_fault_51 rfl (lv_at hl 0 rfl) ?_
    refine mr_get (v := .int (sg_1 52)) hx hb htb inX13 hown hK hP 52 (by decide) (htb _ kw_1079) rfl dX13_fault_52 ?_
    refine lv_topi (fun z_13 ez_13 => ?_)
    obtain rfl : (sg 52) = z_13 := (ez_13.trans (up_ne esg_1 (by decide))).symm
    exact W.iret (v := (sg 52)) hx hb hr (fun t ht hW => ⟨⟨(sg 52), (sg_1, gm, lg), rfl, ⟨sg_1, gm, lg, rfl, hI_sg_1, (KS_up KS_rf esg_1 (by decide)), KS_rf, KS_rf⟩, by rw [ht]; exact hP, va_K.moved hW.alike hK, hD⟩, hS.F ht⟩) hS.2.2 dX13_fault_55
  refine lv_tableOut (tgt := 56) hx hb dX13_fault_6 (by have q1 := ((iv_all a)).1; have q2 := ((iv_all a)).2; omega) (by decide) ?_
  refine lv_iconst (v := (-1)) hx hb dX13_fault_56 (by decide) ?_
  exact W.iret (v := (-1)) hx hb hr (fun t ht hW => ⟨⟨(-1), (sg_1, gm, lg), rfl, ⟨sg_1, gm, lg, rfl, hI_sg_1, (KS_up KS_rf esg_1 (by decide)), KS_rf, KS_rf⟩, by rw [ht]; exact hP, va_K.moved hW.alike hK, hD⟩, hS.F ht⟩) hS.2.2 dX13_fault_57
end
section
def PR (gm : Nat → Nat → Int32) : Prop := ∀ k, k < 8 → (gm 6 k).toInt < (k : Int)
theorem PR_dec {gm : Nat → Nat → Int32} {x z : Int32} (h : PR gm) (hx : iv 0 7 x) (q : z = gm 6 x.toNatClampNeg) : (z.toInt + 1).toNat < (x.toInt + 1).toNat := by
  have h1 := iv_cl hx (by decide)
  have h2 := hx.1
  have h3 := hx.2
  have h4 := h x.toNatClampNeg (by omega)
  rw [← q] at h4
  omega

set_option maxHeartbeats 4000000 in
set_option maxRecDepth 100000 in
theorem a_here (l : Launch) (dC : Nat → ClassId) (dI : Nat → Nat → Nat) (h0 : Nat) (ad : Nat → Nat) (cid : Nat → ClassId) (sg : Nat → Int32) (gm : Nat → Nat → Int32) (lg : Nat → Nat → Int64) (x : Int32) (hI : MI sg gm) (hvx : iv 0 10 x) : MMi l dC dI yX13_here wm_X13_here ({ frames := 0, cells := 0, slots := 0, locals := 0 }) h0 ad cid [.int x] sg gm lg (fun r v => (iv (-1) 126 r) ∧ (r.toInt = -1 ∨ (sg 21).toInt + x.toInt < (sg 20).toInt) ∧ ((sg 20).toInt ≤ (sg 21).toInt + x.toInt ∨ 0 ≤ r.toInt) ∧ v = (sg, gm, lg)) := by
  intro sz
  refine Met.ofW (cc := cX13_here) (maxL := 2) (ret := (some .int)) (by decide) rfl ?_
  intro p e s m args below meth c s₁ B hml hv
  obtain ⟨rfl, hsz, hP, hK, hD0⟩ := hv
  have hx := B.exec
  have hb := B.bytes
  have hr := B.returns
  have hts := atoms_spec (ws := wm_X13_here) B.pre
  have htb := fun (w : Cond) (h : w ∈ tb) => hts w (List.mem_cons_of_mem _ h)
  have hown : s.vm.findClass RX13 = some m.cls := findClass_of_methodNamed B.named
  have hlocks := B.notSynchronized
  subst hsz
  have hD := hD0.self (sz := s.heap.size)
  generalize hAe : va_A (mW h0 ad cid sg gm lg) s.heap.size = A at hD ⊢
  have hA : ∀ q : Nat, s.heap.size ≤ q → A q := fun q h => by rw [← hAe]; exact Or.inr h
  have hS : va_S A s.heap s.heap [] := va_S.rf
  have hl := lv_entry ([.ref h0, .int x]) (n := 2) (Nat.le_of_ble_eq_true rfl)
  rw [lg_entry_eq]
  generalize (lg_sl ([.ref h0, .int x]) ++ List.replicate (2 - (lg_sl ([.ref h0, .int x])).length) Slot.unset).toArray = ls at hl ⊢
  have hl : lv_has ls 2 [(0, .ref h0), (1, .int x)] := hl
  have hj28 : ∀ (y0_28 : Int32) (_ : iv 0 10 x) (_ : iv (-1) 126 y0_28) (_ : y0_28.toInt = -1 ∨ (sg 21).toInt + x.toInt < (sg 20).toInt) (_ : (sg 20).toInt ≤ (sg 21).toInt + x.toInt ∨ 0 ≤ y0_28.toInt) (H : Heap) (locs : List Loc) (ls : Array Slot), va_P (dC, dI) vwCl (mW h0 ad cid sg gm lg) H → va_D A (mW h0 ad cid sg gm lg) → va_S A s.heap H locs → lv_has ls 2 [(0, .ref h0), (1, .int x)] → W p l e (headSpec wm_X13_here ({ frames := 0, cells := 0, slots := 0, locals := 0 })).room s m ([.ref h0, .int x] : List Value).toArray below meth c H locs 0 0 (MQ below (va_Qi (fun r v => (iv (-1) 126 r) ∧ (r.toInt = -1 ∨ (sg 21).toInt + x.toInt < (sg 20).toInt) ∧ ((sg 20).toInt ≤ (sg 21).toInt + x.toInt ∨ 0 ≤ r.toInt) ∧ v = (sg, gm, lg)) (MB dC dI h0 ad cid A) A) ([.ref h0, .int x] : List Value).toArray s 0 0 A) (F0 m 28 ls [.int y0_28]) := by
    intro y0_28 hsx1_28 hy0_28 hw hn H locs ls hP hD hS hl
    exact W.iret (v := y0_28) hx hb hr (fun t ht hW => ⟨⟨y0_28, (sg, gm, lg), rfl, ⟨hy0_28, (hw), (hn), rfl⟩, by rw [ht]; exact hP, va_K.moved hW.alike hK, hD⟩, hS.F ht⟩) hS.2.2 dX13_here_28
  refine lv_aload_n hx hb dX13_here_0 rfl (lv_at hl 0 rfl) ?_
  refine mr_get (v := .int (sg 21)) hx hb htb inX13 hown hK hP 21 (by decide) (htb _ kw_1048) rfl dX13_here_1 ?_
  refine lv_iload_n hx hb dX13_here_4 rfl (lv_at hl 1 rfl) ?_
  refine lv_iadd hx hb dX13_here_5 ?_
  refine lv_topi (fun z_1 ez_1 => ?_)
  have hz_1 : iv 0 1211 z_1 := iv_of ez_1 (iv_add (show iv 0 1201 (sg 21) from MI_s hI 21) hvx (by decide))
  have tz_1 : z_1.toInt = ((sg 21) : Int32).toInt + (x : Int32).toInt := by rw [ez_1]; exact iv_addE (show iv 0 1201 (sg 21) from MI_s hI 21) hvx (by decide)
  refine lv_aload_n hx hb dX13_here_6 rfl (lv_at hl 0 rfl) ?_
  refine mr_get (v := .int (sg 20)) hx hb htb inX13 hown hK hP 20 (by decide) (htb _ kw_1047) rfl dX13_here_7 ?_
  refine lv_icmp_ge (tgt := 27) hx hb dX13_here_10 (by decide) (fun c_2 => ?_) (fun c_2 => ?_)
  · have d_3 : ((sg 20) : Int32).toInt ≤ (z_1 : Int32).toInt := Int32.le_iff_toInt_le.mp c_2
    refine lv_iconst (v := (-1)) hx hb dX13_here_27 (by decide) ?_
    exact hj28 (-1) hvx (iv_w (iv_k (by decide) : iv (-1) (-1) (-1)) (by decide)) (Or.inl rfl) (Or.inl (by rw [← tz_1]; exact Int32.le_iff_toInt_le.mp c_2)) _ _ _ hP hD hS (lv_sub hl [0, 1] rfl)
  · have d_4 : (z_1 : Int32).toInt < ((sg 20) : Int32).toInt := Int32.lt_iff_toInt_lt.mp (i32_lt c_2)
    have h_5 : iv 0 1199 z_1 := iv_ltL (i32_lt c_2) hz_1 (show iv 0 1200 (sg 20) from MI_s hI 20) (by decide)
    have h_6 : iv 1 1200 (sg 20) := iv_ltR (i32_lt c_2) hz_1 (show iv 0 1200 (sg 20) from MI_s hI 20) (by decide)
    refine lv_aload_n hx hb dX13_here_13 rfl (lv_at hl 0 rfl) ?_
    refine mr_get (v := .ref (ad 19)) hx hb htb inX13 hown hK hP 19 (by decide) (htb _ kw_1046) rfl dX13_here_14 ?_
    refine lv_aload_n hx hb dX13_here_17 rfl (lv_at hl 0 rfl) ?_
    refine mr_get (v := .int (sg 21)) hx hb htb inX13 hown hK hP 21 (by decide) (htb _ kw_1048) rfl dX13_here_18 ?_
    refine lv_iload_n hx hb dX13_here_21 rfl (lv_at hl 1 rfl) ?_
    refine lv_iadd hx hb dX13_here_22 ?_
    refine lv_topi (fun z_7 ez_7 => ?_)
    obtain rfl : z_1 = z_7 := ez_1.trans ez_7.symm
    refine mr_bald hx hb hK hP 18 (k := 19) rfl rfl rfl (show vp_in z_1 1200 from (iv_in h_5 (by decide))) dX13_here_23 ?_
    refine lv_topi (fun z_8 ez_8 => ?_)
    have hz_8 : iv 0 126 z_8 := iv_of ez_8 (MI_a hI 19 h_5 (by decide))
    refine lv_goto (tgt := 28) hx hb dX13_here_24 (by decide) ?_
    exact hj28 z_8 hvx (iv_w hz_8 (by decide)) (Or.inr (by rw [← tz_1]; exact Int32.lt_iff_toInt_lt.mp (i32_lt c_2))) (Or.inr (hz_8).1) _ _ _ hP hD hS (lv_sub hl [0, 1] rfl)

set_option maxHeartbeats 4000000 in
set_option maxRecDepth 100000 in
theorem a_isSmall2 (l : Launch) (dC : Nat → ClassId) (dI : Nat → Nat → Nat) (h0 : Nat) (ad : Nat → Nat) (cid : Nat → ClassId) (sg : Nat → Int32) (gm : Nat → Nat → Int32) (lg : Nat → Nat → Int64) (x : Int32) (hI : MI sg gm) : MMi l dC dI yX13_isSmall wm_X13_isSmall ({ frames := 0, cells := 0, slots := 0, locals := 0 }) h0 ad cid [.int x] sg gm lg (fun r v => (iv 0 1 r) ∧ (r.toInt = 0 ∨ 97 ≤ x.toInt) ∧ v = (sg, gm, lg)) := by
  intro sz
  refine Met.ofW (cc := cX13_isSmall) (maxL := 2) (ret := (some .boolean)) (by decide) rfl ?_
  intro p e s m args below meth c s₁ B hml hv
  obtain ⟨rfl, hsz, hP, hK, hD0⟩ := hv
  have hx := B.exec
  have hb := B.bytes
  have hr := B.returns
  have hts := atoms_spec (ws := wm_X13_isSmall) B.pre
  have htb := fun (w : Cond) (h : w ∈ tb) => hts w (List.mem_cons_of_mem _ h)
  have hown : s.vm.findClass RX13 = some m.cls := findClass_of_methodNamed B.named
  have hlocks := B.notSynchronized
  subst hsz
  have hD := hD0.self (sz := s.heap.size)
  generalize hAe : va_A (mW h0 ad cid sg gm lg) s.heap.size = A at hD ⊢
  have hA : ∀ q : Nat, s.heap.size ≤ q → A q := fun q h => by rw [← hAe]; exact Or.inr h
  have hS : va_S A s.heap s.heap [] := va_S.rf
  have hl := lv_entry ([.ref h0, .int x]) (n := 2) (Nat.le_of_ble_eq_true rfl)
  rw [lg_entry_eq]
  generalize (lg_sl ([.ref h0, .int x]) ++ List.replicate (2 - (lg_sl ([.ref h0, .int x])).length) Slot.unset).toArray = ls at hl ⊢
  have hl : lv_has ls 2 [(0, .ref h0), (1, .int x)] := hl
  have hj17 : ∀ (y0_17 : Int32) (_ : iv 0 1 y0_17) (_ : y0_17.toInt = 0 ∨ 97 ≤ x.toInt) (H : Heap) (locs : List Loc) (ls : Array Slot), va_P (dC, dI) vwCl (mW h0 ad cid sg gm lg) H → va_D A (mW h0 ad cid sg gm lg) → va_S A s.heap H locs → lv_has ls 2 [(0, .ref h0), (1, .int x)] → W p l e (headSpec wm_X13_isSmall ({ frames := 0, cells := 0, slots := 0, locals := 0 })).room s m ([.ref h0, .int x] : List Value).toArray below meth c H locs 0 0 (MQ below (va_Qi (fun r v => (iv 0 1 r) ∧ (r.toInt = 0 ∨ 97 ≤ x.toInt) ∧ v = (sg, gm, lg)) (MB dC dI h0 ad cid A) A) ([.ref h0, .int x] : List Value).toArray s 0 0 A) (F0 m 17 ls [.int y0_17]) := by
    intro y0_17 hy0_17 sm H locs ls hP hD hS hl
    exact W.zret (v := y0_17) hx hb hr (iv_nb hy0_17) (fun t ht hW => ⟨⟨y0_17, (sg, gm, lg), rfl, ⟨hy0_17, (sm), rfl⟩, by rw [ht]; exact hP, va_K.moved hW.alike hK, hD⟩, hS.F ht⟩) hS.2.2 dX13_isSmall_17
  have hj16 : ∀ (H : Heap) (locs : List Loc) (ls : Array Slot), va_P (dC, dI) vwCl (mW h0 ad cid sg gm lg) H → va_D A (mW h0 ad cid sg gm lg) → va_S A s.heap H locs → lv_has ls 2 [(0, .ref h0), (1, .int x)] → W p l e (headSpec wm_X13_isSmall ({ frames := 0, cells := 0, slots := 0, locals := 0 })).room s m ([.ref h0, .int x] : List Value).toArray below meth c H locs 0 0 (MQ below (va_Qi (fun r v => (iv 0 1 r) ∧ (r.toInt = 0 ∨ 97 ≤ x.toInt) ∧ v = (sg, gm, lg)) (MB dC dI h0 ad cid A) A) ([.ref h0, .int x] : List Value).toArray s 0 0 A) (F0 m 16 ls []) := by
    intro  H locs ls hP hD hS hl
    refine lv_iconst (v := 0) hx hb dX13_isSmall_16 (by decide) ?_
    exact hj17 0 (iv_w (iv_k (by decide) : iv 0 0 0) (by decide)) (Or.inl rfl) _ _ _ hP hD hS (lv_sub hl [0, 1] rfl)
  refine lv_iload_n hx hb dX13_isSmall_0 rfl (lv_at hl 1 rfl) ?_
  refine lv_bipush (v := 97) hx hb dX13_isSmall_1 (by decide) ?_
  refine lv_icmp_lt (tgt := 16) hx hb dX13_isSmall_3 (by decide) (fun c_1 => ?_) (fun c_1 => ?_)
  · have h_2 : iv (-2147483648) 96 x := iv_ltL c_1 (iv_all x) (iv_k (by decide) : iv 97 97 97) (by decide)
    exact hj16 _ _ _ hP hD hS (lv_sub hl [0, 1] rfl)
  · have h_3 : iv 97 2147483647 x := iv_leR (i32_ge c_1) (iv_k (by decide) : iv 97 97 97) (iv_all x) (by decide)
    refine lv_iload_n hx hb dX13_isSmall_6 rfl (lv_at hl 1 rfl) ?_
    refine lv_bipush (v := 122) hx hb dX13_isSmall_7 (by decide) ?_
    refine lv_icmp_gt (tgt := 16) hx hb dX13_isSmall_9 (by decide) (fun c_4 => ?_) (fun c_4 => ?_)
    · have h_5 : iv 123 2147483647 x := iv_ltR c_4 (iv_k (by decide) : iv 122 122 122) h_3 (by decide)
      exact hj16 _ _ _ hP hD hS (lv_sub hl [0, 1] rfl)
    · have h_6 : iv 97 122 x := iv_leL (i32_ge c_4) h_3 (iv_k (by decide) : iv 122 122 122) (by decide)
      refine lv_iconst (v := 1) hx hb dX13_isSmall_12 (by decide) ?_
      refine lv_goto (tgt := 17) hx hb dX13_isSmall_13 (by decide) ?_
      exact hj17 1 (iv_w (iv_k (by decide) : iv 1 1 1) (by decide)) (Or.inr (by have := i32_0; have := i32_1; have := i32_2; have := i32_m1; have := (h_6).1; have := (h_6).2; omega)) _ _ _ hP hD hS (lv_sub hl [0, 1] rfl)

set_option maxHeartbeats 4000000 in
set_option maxRecDepth 100000 in
theorem a_bad2 (l : Launch) (dC : Nat → ClassId) (dI : Nat → Nat → Nat) (h0 : Nat) (ad : Nat → Nat) (cid : Nat → ClassId) (sg : Nat → Int32) (gm : Nat → Nat → Int32) (lg : Nat → Nat → Int64) (x : Int32) (hI : MI sg gm) : MMv l dC dI yX13_bad wm_X13_bad ({ frames := 0, cells := 0, slots := 0, locals := 0 }) h0 ad cid [.int x] sg gm lg (fun v => ∃ (sg2 : Nat → Int32) (gm2 : Nat → Nat → Int32) (lg2 : Nat → Nat → Int64), v = (sg2, gm2, lg2) ∧ MI sg2 gm2 ∧ KS [22, 23] sg sg2 ∧ KS [] gm gm2 ∧ KS [] lg lg2 ∧ (1 ≤ (sg2 22).toInt) ∧ ((sg 22).toInt ≤ (sg2 22).toInt)) := by
  intro sz
  refine Met.ofW (cc := cX13_bad) (maxL := 2) (ret := none) (by decide) rfl ?_
  intro p e s m args below meth c s₁ B hml hv
  obtain ⟨rfl, hsz, hP, hK, hD0⟩ := hv
  have hx := B.exec
  have hb := B.bytes
  have hr := B.returns
  have hts := atoms_spec (ws := wm_X13_bad) B.pre
  have htb := fun (w : Cond) (h : w ∈ tb) => hts w (List.mem_cons_of_mem _ h)
  have hown : s.vm.findClass RX13 = some m.cls := findClass_of_methodNamed B.named
  have hlocks := B.notSynchronized
  subst hsz
  have hD := hD0.self (sz := s.heap.size)
  generalize hAe : va_A (mW h0 ad cid sg gm lg) s.heap.size = A at hD ⊢
  have hA : ∀ q : Nat, s.heap.size ≤ q → A q := fun q h => by rw [← hAe]; exact Or.inr h
  have hS : va_S A s.heap s.heap [] := va_S.rf
  have hl := lv_entry ([.ref h0, .int x]) (n := 2) (Nat.le_of_ble_eq_true rfl)
  rw [lg_entry_eq]
  generalize (lg_sl ([.ref h0, .int x]) ++ List.replicate (2 - (lg_sl ([.ref h0, .int x])).length) Slot.unset).toArray = ls at hl ⊢
  have hl : lv_has ls 2 [(0, .ref h0), (1, .int x)] := hl
  refine lv_aload_n hx hb dX13_bad_0 rfl (lv_at hl 0 rfl) ?_
  refine mr_get (v := .int (sg 22)) hx hb htb inX13 hown hK hP 22 (by decide) (htb _ kw_1049) rfl dX13_bad_1 ?_
  refine lv_if_eq (tgt := 8) hx hb dX13_bad_4 (by decide) (fun c_1 => ?_) (fun c_1 => ?_)
  · have h_2 : iv 0 0 (sg 22) := iv_eq c_1 (show iv 0 3 (sg 22) from MI_s hI 22) (iv_k (by decide) : iv 0 0 0) (by decide)
    refine lv_aload_n hx hb dX13_bad_8 rfl (lv_at hl 0 rfl) ?_
    refine lv_iconst (v := 1) hx hb dX13_bad_9 (by decide) ?_
    refine ma_put (x := 1) hx hb htb inX13 hown hK hP hD hS 22 (by decide) (by decide) (htb _ kw_1049) rfl rfl rfl dX13_bad_10 (fun sg_3 H locs esg_3 hP hD hS => ?_)
    have hI_sg_3 := MI_put hI esg_3 (iv_k (by decide) : iv 1 1 1) (by decide)
    refine lv_aload_n hx hb dX13_bad_13 rfl (lv_at hl 0 rfl) ?_
    refine lv_iload_n hx hb dX13_bad_14 rfl (lv_at hl 1 rfl) ?_
    refine ma_put (x := x) hx hb htb inX13 hown hK hP hD hS 23 (by decide) (by decide) (htb _ kw_1050) rfl rfl rfl dX13_bad_15 (fun sg_4 H locs esg_4 hP hD hS => ?_)
    have hI_sg_4 := MI_put hI_sg_3 esg_4 (iv_all x) (by decide)
    exact W.vret hx hb hr (fun t ht hW => ⟨⟨(sg_4, gm, lg), rfl, ⟨sg_4, gm, lg, rfl, hI_sg_4, (KS_up (KS_up KS_rf esg_3 (by decide)) esg_4 (by decide)), KS_rf, KS_rf, (by have := i32_0; have := i32_1; have := i32_2; have := i32_m1; have := congrArg Int32.toInt (show sg_4 20 = sg_3 20 from up_ne esg_4 (by decide)); have := congrArg Int32.toInt (show sg_3 20 = sg 20 from up_ne esg_3 (by decide)); have := (show iv 0 1200 (sg 20) from MI_s hI 20).1; have := (show iv 0 1200 (sg 20) from MI_s hI 20).2; have := congrArg Int32.toInt (show sg_4 21 = sg_3 21 from up_ne esg_4 (by decide)); have := congrArg Int32.toInt (show sg_3 21 = sg 21 from up_ne esg_3 (by decide)); have := (show iv 0 1201 (sg 21) from MI_s hI 21).1; have := (show iv 0 1201 (sg 21) from MI_s hI 21).2; have := congrArg Int32.toInt (show sg_4 22 = sg_3 22 from up_ne esg_4 (by decide)); have : (sg_3 22).toInt = 1 := (by rw [up_at esg_3]; rfl); have := congrArg Int32.toInt (show sg_4 24 = sg_3 24 from up_ne esg_4 (by decide)); have := congrArg Int32.toInt (show sg_3 24 = sg 24 from up_ne esg_3 (by decide)); have := (show iv 0 80 (sg 24) from MI_s hI 24).1; have := (show iv 0 80 (sg 24) from MI_s hI 24).2; have := congrArg Int32.toInt (show sg_4 25 = sg_3 25 from up_ne esg_4 (by decide)); have := congrArg Int32.toInt (show sg_3 25 = sg 25 from up_ne esg_3 (by decide)); have := (show iv 0 1201 (sg 25) from MI_s hI 25).1; have := (show iv 0 1201 (sg 25) from MI_s hI 25).2; have := (h_2).1; have := (h_2).2; omega), (by have := i32_0; have := i32_1; have := i32_2; have := i32_m1; have := congrArg Int32.toInt (show sg_4 20 = sg_3 20 from up_ne esg_4 (by decide)); have := congrArg Int32.toInt (show sg_3 20 = sg 20 from up_ne esg_3 (by decide)); have := (show iv 0 1200 (sg 20) from MI_s hI 20).1; have := (show iv 0 1200 (sg 20) from MI_s hI 20).2; have := congrArg Int32.toInt (show sg_4 21 = sg_3 21 from up_ne esg_4 (by decide)); have := congrArg Int32.toInt (show sg_3 21 = sg 21 from up_ne esg_3 (by decide)); have := (show iv 0 1201 (sg 21) from MI_s hI 21).1; have := (show iv 0 1201 (sg 21) from MI_s hI 21).2; have := congrArg Int32.toInt (show sg_4 22 = sg_3 22 from up_ne esg_4 (by decide)); have : (sg_3 22).toInt = 1 := (by rw [up_at esg_3]; rfl); have := congrArg Int32.toInt (show sg_4 24 = sg_3 24 from up_ne esg_4 (by decide)); have := congrArg Int32.toInt (show sg_3 24 = sg 24 from up_ne esg_3 (by decide)); have := (show iv 0 80 (sg 24) from MI_s hI 24).1; have := (show iv 0 80 (sg 24) from MI_s hI 24).2; have := congrArg Int32.toInt (show sg_4 25 = sg_3 25 from up_ne esg_4 (by decide)); have := congrArg Int32.toInt (show sg_3 25 = sg 25 from up_ne esg_3 (by decide)); have := (show iv 0 1201 (sg 25) from MI_s hI 25).1; have := (show iv 0 1201 (sg 25) from MI_s hI 25).2; have := (h_2).1; have := (h_2).2; omega)⟩, by rw [ht]; exact hP, va_K.moved hW.alike hK, hD⟩, hS.F ht⟩) hS.2.2 dX13_bad_18
  · have h_5 : iv 1 3 (sg 22) := iv_neL c_1 (show iv 0 3 (sg 22) from MI_s hI 22) (by decide)
    exact W.vret hx hb hr (fun t ht hW => ⟨⟨(sg, gm, lg), rfl, ⟨sg, gm, lg, rfl, hI, KS_rf, KS_rf, KS_rf, (by have := i32_0; have := i32_1; have := i32_2; have := i32_m1; have := (show iv 0 1200 (sg 20) from MI_s hI 20).1; have := (show iv 0 1200 (sg 20) from MI_s hI 20).2; have := (show iv 0 1201 (sg 21) from MI_s hI 21).1; have := (show iv 0 1201 (sg 21) from MI_s hI 21).2; have := (show iv 0 3 (sg 22) from MI_s hI 22).1; have := (show iv 0 3 (sg 22) from MI_s hI 22).2; have := (show iv 0 80 (sg 24) from MI_s hI 24).1; have := (show iv 0 80 (sg 24) from MI_s hI 24).2; have := (show iv 0 1201 (sg 25) from MI_s hI 25).1; have := (show iv 0 1201 (sg 25) from MI_s hI 25).2; have := (h_5).1; have := (h_5).2; omega), (by have := i32_0; have := i32_1; have := i32_2; have := i32_m1; have := (show iv 0 1200 (sg 20) from MI_s hI 20).1; have := (show iv 0 1200 (sg 20) from MI_s hI 20).2; have := (show iv 0 1201 (sg 21) from MI_s hI 21).1; have := (show iv 0 1201 (sg 21) from MI_s hI 21).2; have := (show iv 0 3 (sg 22) from MI_s hI 22).1; have := (show iv 0 3 (sg 22) from MI_s hI 22).2; have := (show iv 0 80 (sg 24) from MI_s hI 24).1; have := (show iv 0 80 (sg 24) from MI_s hI 24).2; have := (show iv 0 1201 (sg 25) from MI_s hI 25).1; have := (show iv 0 1201 (sg 25) from MI_s hI 25).2; have := (h_5).1; have := (h_5).2; omega)⟩, by rw [ht]; exact hP, va_K.moved hW.alike hK, hD⟩, hS.F ht⟩) hS.2.2 dX13_bad_7
end
section
/-- v holds n letters -/
def NB (v : Int64) (n : Int32) : Prop := (0 ≤ v.toInt ∧ 2 * v.toInt < (256 : Int) ^ n.toInt.toNat) ∧ 0 ≤ n.toInt ∧ n.toInt ≤ 8
theorem NB_0 : NB 0 0 := ⟨⟨by decide, by decide⟩, by decide, by decide⟩
theorem l_nat {v : Int64} (h : 0 ≤ v.toInt) : (v.toBitVec.toNat : Int) = v.toInt := by
  have h1 : v.toBitVec.toInt = v.toInt := rfl
  rw [← h1] at h ⊢
  have h2 := BitVec.toInt_eq_toNat_cond v.toBitVec
  have h3 := v.toBitVec.isLt
  split at h2 <;> omega
theorem l_int {v : Int64} (h : v.toBitVec.toNat < 2 ^ 63) : v.toInt = (v.toBitVec.toNat : Int) := by
  have h1 : v.toBitVec.toInt = v.toInt := rfl
  rw [← h1]
  have h2 := BitVec.toInt_eq_toNat_cond v.toBitVec
  split at h2 <;> omega
theorem sh8 : ((8 : Int32).toInt64 &&& 63) = 8 := by decide
theorem lor8 {v : Int64} {x : Int32} (h0 : 0 ≤ v.toInt) (h1 : v.toInt < 2 ^ 55) (c0 : 0 ≤ x.toInt) (c1 : x.toInt ≤ 126) : ((v <<< ((8 : Int32).toInt64 &&& 63)) ||| x.toInt64).toInt = 256 * v.toInt + x.toInt := by
  rw [sh8]
  have k1 := l_nat h0
  have q0 : x.toInt64.toInt = x.toInt := Int32.toInt_toInt64 x
  have k2 := l_nat (v := x.toInt64) (by rw [q0]; exact c0)
  have k3 : ((v <<< (8 : Int64)) ||| x.toInt64).toBitVec.toNat = 256 * v.toBitVec.toNat + x.toInt64.toBitVec.toNat := by
    show ((v <<< (8 : Int64)).toBitVec ||| x.toInt64.toBitVec).toNat = _
    rw [BitVec.toNat_or]
    have k4 : (v <<< (8 : Int64)).toBitVec.toNat = v.toBitVec.toNat <<< 8 := by
      rw [Int64.toBitVec_shiftLeft]
      show (v.toBitVec <<< 8).toNat = _
      rw [BitVec.toNat_shiftLeft, Nat.shiftLeft_eq]
      have : v.toBitVec.toNat < 2 ^ 55 := by omega
      omega
    rw [k4, ← Nat.shiftLeft_add_eq_or_of_lt (show x.toInt64.toBitVec.toNat < 2 ^ 8 by omega), Nat.shiftLeft_eq]
    omega
  rw [l_int (by omega), k3]
  omega
theorem NB_s {v v1 w1 w2 : Int64} {n n1 x : Int32} (h : NB v n) (h7 : n.toInt ≤ 7) (tn : n1.toInt = n.toInt + 1) (c0 : 0 ≤ x.toInt) (c1 : x.toInt ≤ 126) (e1 : w1 = v <<< ((8 : Int32).toInt64 &&& 63)) (e2 : w2 = x.toInt64) (e3 : v1 = w1 ||| w2) : NB v1 n1 := by
  subst e1 e2 e3
  obtain ⟨⟨h0, h1⟩, h2, h3⟩ := h
  obtain ⟨j, hj⟩ : ∃ j : Nat, n.toInt = j := ⟨n.toInt.toNat, by omega⟩
  have hj2 : n.toInt.toNat = j := by omega
  have hj3 : n1.toInt.toNat = j + 1 := by omega
  rw [hj2] at h1
  have hp : (256 : Int) ^ j ≤ 256 ^ 7 := by
    rcases (show j = 0 ∨ j = 1 ∨ j = 2 ∨ j = 3 ∨ j = 4 ∨ j = 5 ∨ j = 6 ∨ j = 7 by omega) with h9 | h9 | h9 | h9 | h9 | h9 | h9 | h9 <;> rw [h9] <;> decide
  have hv : v.toInt < 2 ^ 55 := by
    have : (256 : Int) ^ 7 = 2 ^ 56 := by decide
    omega
  refine ⟨⟨?_, ?_⟩, by omega, by omega⟩
  · rw [lor8 h0 hv c0 c1]; omega
  · rw [lor8 h0 hv c0 c1, hj3, Int.pow_succ]
    omega
theorem shr8 {v w : Int64} (h0 : 0 ≤ v.toInt) (hz : ¬ v = 0) (h : w = v >>> ((8 : Int32).toInt64 &&& 63)) : 0 ≤ w.toInt ∧ w.toInt.toNat < v.toInt.toNat := by
  subst h
  rw [sh8]
  have k1 := l_nat h0
  have k4 : (v >>> (8 : Int64)).toBitVec.toNat = v.toBitVec.toNat / 256 := by
    rw [Int64.toBitVec_shiftRight]
    show (v.toBitVec.sshiftRight 8).toNat = _
    have hm : v.toBitVec.msb = false := by
      rw [BitVec.msb_eq_decide]
      have := v.toBitVec.isLt
      have h5 := Int64.toInt_lt v
      exact decide_eq_false (by omega)
    rw [BitVec.sshiftRight_eq_of_msb_false hm, BitVec.toNat_ushiftRight, Nat.shiftRight_eq_div_pow]
  have h6 : v.toInt ≠ 0 := fun k => hz (Int64.toInt_inj.mp k)
  have h7 := Int64.toInt_lt v
  have k5 : (v >>> (8 : Int64)).toInt = ((v >>> (8 : Int64)).toBitVec.toNat : Int) := l_int (by omega)
  rw [k5, k4]
  omega
end
section
set_option maxHeartbeats 4000000 in
set_option maxRecDepth 100000 in
theorem a_name (l : Launch) (dC : Nat → ClassId) (dI : Nat → Nat → Nat) (h0 : Nat) (ad : Nat → Nat) (cid : Nat → ClassId) (sg : Nat → Int32) (gm : Nat → Nat → Int32) (lg : Nat → Nat → Int64) (hI : MI sg gm) (hq : (sg 21).toInt ≤ (sg 20).toInt + 1) : MMl l dC dI yX13_name wm_X13_name ({ frames := 1, cells := 0, slots := 0, locals := 21 }) h0 ad cid [] sg gm lg (fun r v => ∃ (sg2 : Nat → Int32) (gm2 : Nat → Nat → Int32) (lg2 : Nat → Nat → Int64), v = (sg2, gm2, lg2) ∧ MI sg2 gm2 ∧ KS [21, 22, 23] sg sg2 ∧ KS [] gm gm2 ∧ KS [] lg lg2 ∧ ((sg 21).toInt ≤ (sg2 21).toInt) ∧ ((sg2 21).toInt ≤ (sg2 20).toInt + 1) ∧ ((sg 22).toInt ≤ (sg2 22).toInt) ∧ (1 ≤ (sg2 22).toInt ∨ 0 ≤ r.toInt)) := by
  intro sz
  refine Met.ofW (cc := cX13_name) (maxL := 4) (ret := (some .long)) (by decide) rfl ?_
  intro p e s m args below meth c s₁ B hml hv
  obtain ⟨rfl, hsz, hP, hK, hD0⟩ := hv
  have hx := B.exec
  have hb := B.bytes
  have hr := B.returns
  have hts := atoms_spec (ws := wm_X13_name) B.pre
  have htb := fun (w : Cond) (h : w ∈ tb) => hts w (List.mem_cons_of_mem _ h)
  have hown : s.vm.findClass RX13 = some m.cls := findClass_of_methodNamed B.named
  have hlocks := B.notSynchronized
  subst hsz
  have hD := hD0.self (sz := s.heap.size)
  generalize hAe : va_A (mW h0 ad cid sg gm lg) s.heap.size = A at hD ⊢
  have hA : ∀ q : Nat, s.heap.size ≤ q → A q := fun q h => by rw [← hAe]; exact Or.inr h
  have hS : va_S A s.heap s.heap [] := va_S.rf
  have hl := lv_entry ([.ref h0]) (n := 4) (Nat.le_of_ble_eq_true rfl)
  rw [lg_entry_eq]
  generalize (lg_sl ([.ref h0]) ++ List.replicate (4 - (lg_sl ([.ref h0])).length) Slot.unset).toArray = ls at hl ⊢
  have hl : lv_has ls 4 [(0, .ref h0)] := hl
  have hj77 : ∀ (sg_j77 : Nat → Int32) (x3_77 : Int32) (x1_77 : Int64) (_ : iv 0 9 x3_77) (_ : KS [21, 22, 23] sg sg_j77) (_ : MI sg_j77 gm) (_ : 1 ≤ (sg_j77 22).toInt ∨ NB x1_77 x3_77) (_ : (sg_j77 21).toInt ≤ (sg_j77 20).toInt + 1) (_ : (sg 21).toInt ≤ (sg_j77 21).toInt) (_ : (sg 22).toInt ≤ (sg_j77 22).toInt) (H : Heap) (locs : List Loc) (ls : Array Slot), va_P (dC, dI) vwCl (mW h0 ad cid sg_j77 gm lg) H → va_D A (mW h0 ad cid sg_j77 gm lg) → va_S A s.heap H locs → lv_has ls 4 [(3, .int x3_77), (1, .long x1_77), (0, .ref h0)] → W p l e (headSpec wm_X13_name ({ frames := 1, cells := 0, slots := 0, locals := 21 })).room s m ([.ref h0] : List Value).toArray below meth c H locs 0 0 (MQ below (va_Ql (fun r v => ∃ (sg2 : Nat → Int32) (gm2 : Nat → Nat → Int32) (lg2 : Nat → Nat → Int64), v = (sg2, gm2, lg2) ∧ MI sg2 gm2 ∧ KS [21, 22, 23] sg sg2 ∧ KS [] gm gm2 ∧ KS [] lg lg2 ∧ ((sg 21).toInt ≤ (sg2 21).toInt) ∧ ((sg2 21).toInt ≤ (sg2 20).toInt + 1) ∧ ((sg 22).toInt ≤ (sg2 22).toInt) ∧ (1 ≤ (sg2 22).toInt ∨ 0 ≤ r.toInt)) (MB dC dI h0 ad cid A) A) ([.ref h0] : List Value).toArray s 0 0 A) (F0 m 77 ls []) := by
    intro sg_j77 x3_77 x1_77 hx3_77 hks_j77 hI_j77 hv hq hm hf H locs ls hP hD hS hl
    refine lv_lload_n hx hb dX13_name_77 rfl (lv_at hl 1 rfl) ?_
    exact W.lret (v := x1_77) hx hb hr (fun t ht hW => ⟨⟨x1_77, (sg_j77, gm, lg), rfl, ⟨sg_j77, gm, lg, rfl, hI_j77, (KS_tr (L := [21, 22, 23]) KS_rf hks_j77 (by decide)), KS_rf, KS_rf, (by have := i32_0; have := i32_1; have := i32_2; have := i32_m1; have := congrArg Int32.toInt (show sg_j77 20 = sg 20 from hks_j77 20 (by decide)); have := (show iv 0 1200 (sg 20) from MI_s hI 20).1; have := (show iv 0 1200 (sg 20) from MI_s hI 20).2; have := (show iv 0 1201 (sg_j77 21) from MI_s hI_j77 21).1; have := (show iv 0 1201 (sg_j77 21) from MI_s hI_j77 21).2; have := (show iv 0 1201 (sg 21) from MI_s hI 21).1; have := (show iv 0 1201 (sg 21) from MI_s hI 21).2; have := (show iv 0 3 (sg_j77 22) from MI_s hI_j77 22).1; have := (show iv 0 3 (sg_j77 22) from MI_s hI_j77 22).2; have := (show iv 0 3 (sg 22) from MI_s hI 22).1; have := (show iv 0 3 (sg 22) from MI_s hI 22).2; have := (hx3_77).1; have := (hx3_77).2; omega), (by have := i32_0; have := i32_1; have := i32_2; have := i32_m1; have := congrArg Int32.toInt (show sg_j77 20 = sg 20 from hks_j77 20 (by decide)); have := (show iv 0 1200 (sg 20) from MI_s hI 20).1; have := (show iv 0 1200 (sg 20) from MI_s hI 20).2; have := (show iv 0 1201 (sg_j77 21) from MI_s hI_j77 21).1; have := (show iv 0 1201 (sg_j77 21) from MI_s hI_j77 21).2; have := (show iv 0 1201 (sg 21) from MI_s hI 21).1; have := (show iv 0 1201 (sg 21) from MI_s hI 21).2; have := (show iv 0 3 (sg_j77 22) from MI_s hI_j77 22).1; have := (show iv 0 3 (sg_j77 22) from MI_s hI_j77 22).2; have := (show iv 0 3 (sg 22) from MI_s hI 22).1; have := (show iv 0 3 (sg 22) from MI_s hI 22).2; have := (hx3_77).1; have := (hx3_77).2; omega), (by have := i32_0; have := i32_1; have := i32_2; have := i32_m1; have := congrArg Int32.toInt (show sg_j77 20 = sg 20 from hks_j77 20 (by decide)); have := (show iv 0 1200 (sg 20) from MI_s hI 20).1; have := (show iv 0 1200 (sg 20) from MI_s hI 20).2; have := (show iv 0 1201 (sg_j77 21) from MI_s hI_j77 21).1; have := (show iv 0 1201 (sg_j77 21) from MI_s hI_j77 21).2; have := (show iv 0 1201 (sg 21) from MI_s hI 21).1; have := (show iv 0 1201 (sg 21) from MI_s hI 21).2; have := (show iv 0 3 (sg_j77 22) from MI_s hI_j77 22).1; have := (show iv 0 3 (sg_j77 22) from MI_s hI_j77 22).2; have := (show iv 0 3 (sg 22) from MI_s hI 22).1; have := (show iv 0 3 (sg 22) from MI_s hI 22).2; have := (hx3_77).1; have := (hx3_77).2; omega), (hv.imp (fun hv9 => by have := i32_0; have := i32_1; have := i32_2; have := i32_m1; have := congrArg Int32.toInt (show sg_j77 20 = sg 20 from hks_j77 20 (by decide)); have := (show iv 0 1200 (sg 20) from MI_s hI 20).1; have := (show iv 0 1200 (sg 20) from MI_s hI 20).2; have := (show iv 0 1201 (sg_j77 21) from MI_s hI_j77 21).1; have := (show iv 0 1201 (sg_j77 21) from MI_s hI_j77 21).2; have := (show iv 0 1201 (sg 21) from MI_s hI 21).1; have := (show iv 0 1201 (sg 21) from MI_s hI 21).2; have := (show iv 0 3 (sg_j77 22) from MI_s hI_j77 22).1; have := (show iv 0 3 (sg_j77 22) from MI_s hI_j77 22).2; have := (show iv 0 3 (sg 22) from MI_s hI 22).1; have := (show iv 0 3 (sg 22) from MI_s hI 22).2; have := (hx3_77).1; have := (hx3_77).2; omega) (fun hv9 => hv9.1.1))⟩, by rw [ht]; exact hP, va_K.moved hW.alike hK, hD⟩, hS.F ht⟩) hS.2.2 dX13_name_78
  have hj65 : ∀ (sg_j65 : Nat → Int32) (x3_65 : Int32) (x1_65 : Int64) (_ : iv 0 9 x3_65) (_ : KS [21, 22, 23] sg sg_j65) (_ : MI sg_j65 gm) (_ : 1 ≤ (sg_j65 22).toInt ∨ NB x1_65 x3_65) (_ : (sg_j65 21).toInt ≤ (sg_j65 20).toInt + 1) (_ : (sg 21).toInt ≤ (sg_j65 21).toInt) (_ : (sg 22).toInt ≤ (sg_j65 22).toInt) (H : Heap) (locs : List Loc) (ls : Array Slot), va_P (dC, dI) vwCl (mW h0 ad cid sg_j65 gm lg) H → va_D A (mW h0 ad cid sg_j65 gm lg) → va_S A s.heap H locs → lv_has ls 4 [(3, .int x3_65), (1, .long x1_65), (0, .ref h0)] → W p l e (headSpec wm_X13_name ({ frames := 1, cells := 0, slots := 0, locals := 21 })).room s m ([.ref h0] : List Value).toArray below meth c H locs 0 0 (MQ below (va_Ql (fun r v => ∃ (sg2 : Nat → Int32) (gm2 : Nat → Nat → Int32) (lg2 : Nat → Nat → Int64), v = (sg2, gm2, lg2) ∧ MI sg2 gm2 ∧ KS [21, 22, 23] sg sg2 ∧ KS [] gm gm2 ∧ KS [] lg lg2 ∧ ((sg 21).toInt ≤ (sg2 21).toInt) ∧ ((sg2 21).toInt ≤ (sg2 20).toInt + 1) ∧ ((sg 22).toInt ≤ (sg2 22).toInt) ∧ (1 ≤ (sg2 22).toInt ∨ 0 ≤ r.toInt)) (MB dC dI h0 ad cid A) A) ([.ref h0] : List Value).toArray s 0 0 A) (F0 m 65 ls []) := by
    intro sg_j65 x3_65 x1_65 hx3_65 hks_j65 hI_j65 hv hq hm hf H locs ls hP hD hS hl
    refine lv_iload_n hx hb dX13_name_65 rfl (lv_at hl 0 rfl) ?_
    refine lv_if_ne (tgt := 77) hx hb dX13_name_66 (by decide) (fun c_1 => ?_) (fun c_1 => ?_)
    · have h_2 : iv 1 9 x3_65 := iv_neL c_1 hx3_65 (by decide)
      exact hj77 sg_j65 x3_65 x1_65 (iv_w h_2 (by decide)) (KS_tr (L := [21, 22, 23]) KS_rf hks_j65 (by decide)) hI_j65 (hv.imp (fun hv9 => by have := i32_0; have := i32_1; have := i32_2; have := i32_m1; have := congrArg Int32.toInt (show sg_j65 20 = sg 20 from hks_j65 20 (by decide)); have := (show iv 0 1200 (sg 20) from MI_s hI 20).1; have := (show iv 0 1200 (sg 20) from MI_s hI 20).2; have := (show iv 0 1201 (sg_j65 21) from MI_s hI_j65 21).1; have := (show iv 0 1201 (sg_j65 21) from MI_s hI_j65 21).2; have := (show iv 0 1201 (sg 21) from MI_s hI 21).1; have := (show iv 0 1201 (sg 21) from MI_s hI 21).2; have := (show iv 0 3 (sg_j65 22) from MI_s hI_j65 22).1; have := (show iv 0 3 (sg_j65 22) from MI_s hI_j65 22).2; have := (show iv 0 3 (sg 22) from MI_s hI 22).1; have := (show iv 0 3 (sg 22) from MI_s hI 22).2; have := (h_2).1; have := (h_2).2; omega) id) (by have := i32_0; have := i32_1; have := i32_2; have := i32_m1; have := congrArg Int32.toInt (show sg_j65 20 = sg 20 from hks_j65 20 (by decide)); have := (show iv 0 1200 (sg 20) from MI_s hI 20).1; have := (show iv 0 1200 (sg 20) from MI_s hI 20).2; have := (show iv 0 1201 (sg_j65 21) from MI_s hI_j65 21).1; have := (show iv 0 1201 (sg_j65 21) from MI_s hI_j65 21).2; have := (show iv 0 1201 (sg 21) from MI_s hI 21).1; have := (show iv 0 1201 (sg 21) from MI_s hI 21).2; have := (show iv 0 3 (sg_j65 22) from MI_s hI_j65 22).1; have := (show iv 0 3 (sg_j65 22) from MI_s hI_j65 22).2; have := (show iv 0 3 (sg 22) from MI_s hI 22).1; have := (show iv 0 3 (sg 22) from MI_s hI 22).2; have := (h_2).1; have := (h_2).2; omega) (by have := i32_0; have := i32_1; have := i32_2; have := i32_m1; have := congrArg Int32.toInt (show sg_j65 20 = sg 20 from hks_j65 20 (by decide)); have := (show iv 0 1200 (sg 20) from MI_s hI 20).1; have := (show iv 0 1200 (sg 20) from MI_s hI 20).2; have := (show iv 0 1201 (sg_j65 21) from MI_s hI_j65 21).1; have := (show iv 0 1201 (sg_j65 21) from MI_s hI_j65 21).2; have := (show iv 0 1201 (sg 21) from MI_s hI 21).1; have := (show iv 0 1201 (sg 21) from MI_s hI 21).2; have := (show iv 0 3 (sg_j65 22) from MI_s hI_j65 22).1; have := (show iv 0 3 (sg_j65 22) from MI_s hI_j65 22).2; have := (show iv 0 3 (sg 22) from MI_s hI 22).1; have := (show iv 0 3 (sg 22) from MI_s hI 22).2; have := (h_2).1; have := (h_2).2; omega) (by have := i32_0; have := i32_1; have := i32_2; have := i32_m1; have := congrArg Int32.toInt (show sg_j65 20 = sg 20 from hks_j65 20 (by decide)); have := (show iv 0 1200 (sg 20) from MI_s hI 20).1; have := (show iv 0 1200 (sg 20) from MI_s hI 20).2; have := (show iv 0 1201 (sg_j65 21) from MI_s hI_j65 21).1; have := (show iv 0 1201 (sg_j65 21) from MI_s hI_j65 21).2; have := (show iv 0 1201 (sg 21) from MI_s hI 21).1; have := (show iv 0 1201 (sg 21) from MI_s hI 21).2; have := (show iv 0 3 (sg_j65 22) from MI_s hI_j65 22).1; have := (show iv 0 3 (sg_j65 22) from MI_s hI_j65 22).2; have := (show iv 0 3 (sg 22) from MI_s hI 22).1; have := (show iv 0 3 (sg 22) from MI_s hI 22).2; have := (h_2).1; have := (h_2).2; omega) _ _ _ hP hD hS (lv_sub hl [0, 1, 2] rfl)
    · have h_3 : iv 0 0 x3_65 := iv_eq c_1 hx3_65 (iv_k (by decide) : iv 0 0 0) (by decide)
      refine lv_aload_n hx hb dX13_name_69 rfl (lv_at hl 2 rfl) ?_
      refine lv_aload_n hx hb dX13_name_70 rfl (lv_at hl 2 rfl) ?_
      refine mr_get (v := .int (sg_j65 21)) hx hb htb inX13 hown hK hP 21 (by decide) (htb _ kw_1048) rfl dX13_name_71 ?_
      refine mr_callv (rest := []) ⟨hx, hb, hml, hown, htb⟩ (a_bad2 l dC dI h0 ad cid sg_j65 gm lg (sg_j65 21) hI_j65) (cwV 1 htb (gd_V kw_1147 kw_1148 kw_77 kw_160 kw_1584) rfl rfl rfl (by decide +kernel) ⟨Nat.le_of_ble_eq_true rfl, Nat.le_of_ble_eq_true rfl⟩) rfl hl.1 rfl (Nat.le_of_ble_eq_true rfl) dX13_name_74 ⟨Nat.zero_le _, Nat.zero_le _⟩ hK hP hD hS hA (fun u_5 H locs hw hP hD hS => ?_)
      obtain ⟨sgv_6, gmv_6, lgv_6, rfl, hIv_6, ksv_6, kgv_6, klv_6, fb_r_4, ff_r_4⟩ := hw
      obtain rfl := KS_nil kgv_6
      obtain rfl := KS_nil klv_6
      have hP : va_P (dC, dI) vwCl (mW h0 ad cid sgv_6 gm lg) H := hP
      have hD : va_D A (mW h0 ad cid sgv_6 gm lg) := hD
      exact hj77 sgv_6 x3_65 x1_65 (iv_w h_3 (by decide)) (KS_tr (L := [21, 22, 23]) (KS_tr (L := [21, 22, 23]) KS_rf hks_j65 (by decide)) ksv_6 (by decide)) hIv_6 (hv.imp (fun hv9 => by have := i32_0; have := i32_1; have := i32_2; have := i32_m1; have := congrArg Int32.toInt (show sgv_6 20 = sg_j65 20 from ksv_6 20 (by decide)); have := congrArg Int32.toInt (show sg_j65 20 = sg 20 from hks_j65 20 (by decide)); have := (show iv 0 1200 (sg 20) from MI_s hI 20).1; have := (show iv 0 1200 (sg 20) from MI_s hI 20).2; have := congrArg Int32.toInt (show sgv_6 21 = sg_j65 21 from ksv_6 21 (by decide)); have := (show iv 0 1201 (sg_j65 21) from MI_s hI_j65 21).1; have := (show iv 0 1201 (sg_j65 21) from MI_s hI_j65 21).2; have := (show iv 0 1201 (sg 21) from MI_s hI 21).1; have := (show iv 0 1201 (sg 21) from MI_s hI 21).2; have := (show iv 0 3 (sgv_6 22) from MI_s hIv_6 22).1; have := (show iv 0 3 (sgv_6 22) from MI_s hIv_6 22).2; have := (show iv 0 3 (sg_j65 22) from MI_s hI_j65 22).1; have := (show iv 0 3 (sg_j65 22) from MI_s hI_j65 22).2; have := (show iv 0 3 (sg 22) from MI_s hI 22).1; have := (show iv 0 3 (sg 22) from MI_s hI 22).2; have := (h_3).1; have := (h_3).2; have := ((show iv 0 1201 (sg_j65 21) from MI_s hI_j65 21)).1; have := ((show iv 0 1201 (sg_j65 21) from MI_s hI_j65 21)).2; omega) id) (by have := i32_0; have := i32_1; have := i32_2; have := i32_m1; have := congrArg Int32.toInt (show sgv_6 20 = sg_j65 20 from ksv_6 20 (by decide)); have := congrArg Int32.toInt (show sg_j65 20 = sg 20 from hks_j65 20 (by decide)); have := (show iv 0 1200 (sg 20) from MI_s hI 20).1; have := (show iv 0 1200 (sg 20) from MI_s hI 20).2; have := congrArg Int32.toInt (show sgv_6 21 = sg_j65 21 from ksv_6 21 (by decide)); have := (show iv 0 1201 (sg_j65 21) from MI_s hI_j65 21).1; have := (show iv 0 1201 (sg_j65 21) from MI_s hI_j65 21).2; have := (show iv 0 1201 (sg 21) from MI_s hI 21).1; have := (show iv 0 1201 (sg 21) from MI_s hI 21).2; have := (show iv 0 3 (sgv_6 22) from MI_s hIv_6 22).1; have := (show iv 0 3 (sgv_6 22) from MI_s hIv_6 22).2; have := (show iv 0 3 (sg_j65 22) from MI_s hI_j65 22).1; have := (show iv 0 3 (sg_j65 22) from MI_s hI_j65 22).2; have := (show iv 0 3 (sg 22) from MI_s hI 22).1; have := (show iv 0 3 (sg 22) from MI_s hI 22).2; have := (h_3).1; have := (h_3).2; have := ((show iv 0 1201 (sg_j65 21) from MI_s hI_j65 21)).1; have := ((show iv 0 1201 (sg_j65 21) from MI_s hI_j65 21)).2; omega) (by have := i32_0; have := i32_1; have := i32_2; have := i32_m1; have := congrArg Int32.toInt (show sgv_6 20 = sg_j65 20 from ksv_6 20 (by decide)); have := congrArg Int32.toInt (show sg_j65 20 = sg 20 from hks_j65 20 (by decide)); have := (show iv 0 1200 (sg 20) from MI_s hI 20).1; have := (show iv 0 1200 (sg 20) from MI_s hI 20).2; have := congrArg Int32.toInt (show sgv_6 21 = sg_j65 21 from ksv_6 21 (by decide)); have := (show iv 0 1201 (sg_j65 21) from MI_s hI_j65 21).1; have := (show iv 0 1201 (sg_j65 21) from MI_s hI_j65 21).2; have := (show iv 0 1201 (sg 21) from MI_s hI 21).1; have := (show iv 0 1201 (sg 21) from MI_s hI 21).2; have := (show iv 0 3 (sgv_6 22) from MI_s hIv_6 22).1; have := (show iv 0 3 (sgv_6 22) from MI_s hIv_6 22).2; have := (show iv 0 3 (sg_j65 22) from MI_s hI_j65 22).1; have := (show iv 0 3 (sg_j65 22) from MI_s hI_j65 22).2; have := (show iv 0 3 (sg 22) from MI_s hI 22).1; have := (show iv 0 3 (sg 22) from MI_s hI 22).2; have := (h_3).1; have := (h_3).2; have := ((show iv 0 1201 (sg_j65 21) from MI_s hI_j65 21)).1; have := ((show iv 0 1201 (sg_j65 21) from MI_s hI_j65 21)).2; omega) (by have := i32_0; have := i32_1; have := i32_2; have := i32_m1; have := congrArg Int32.toInt (show sgv_6 20 = sg_j65 20 from ksv_6 20 (by decide)); have := congrArg Int32.toInt (show sg_j65 20 = sg 20 from hks_j65 20 (by decide)); have := (show iv 0 1200 (sg 20) from MI_s hI 20).1; have := (show iv 0 1200 (sg 20) from MI_s hI 20).2; have := congrArg Int32.toInt (show sgv_6 21 = sg_j65 21 from ksv_6 21 (by decide)); have := (show iv 0 1201 (sg_j65 21) from MI_s hI_j65 21).1; have := (show iv 0 1201 (sg_j65 21) from MI_s hI_j65 21).2; have := (show iv 0 1201 (sg 21) from MI_s hI 21).1; have := (show iv 0 1201 (sg 21) from MI_s hI 21).2; have := (show iv 0 3 (sgv_6 22) from MI_s hIv_6 22).1; have := (show iv 0 3 (sgv_6 22) from MI_s hIv_6 22).2; have := (show iv 0 3 (sg_j65 22) from MI_s hI_j65 22).1; have := (show iv 0 3 (sg_j65 22) from MI_s hI_j65 22).2; have := (show iv 0 3 (sg 22) from MI_s hI 22).1; have := (show iv 0 3 (sg 22) from MI_s hI 22).2; have := (h_3).1; have := (h_3).2; have := ((show iv 0 1201 (sg_j65 21) from MI_s hI_j65 21)).1; have := ((show iv 0 1201 (sg_j65 21) from MI_s hI_j65 21)).2; omega) _ _ _ hP hD hS (lv_sub hl [0, 1, 2] rfl)
  have hj4 : ∀ (n : Nat) (sg_j4 : Nat → Int32) (x3_4 : Int32) (x1_4 : Int64) (_ : ((1202 - (sg_j4 21).toInt) + (3 - (sg_j4 22).toInt)).toNat = n) (_ : iv 0 9 x3_4) (_ : KS [21, 22, 23] sg sg_j4) (_ : MI sg_j4 gm) (_ : 1 ≤ (sg_j4 22).toInt ∨ NB x1_4 x3_4) (_ : x3_4.toInt ≤ 8 ∨ 1 ≤ (sg_j4 22).toInt) (_ : (sg_j4 21).toInt ≤ (sg_j4 20).toInt + 1) (_ : (sg 21).toInt ≤ (sg_j4 21).toInt) (_ : (sg 22).toInt ≤ (sg_j4 22).toInt) (H : Heap) (locs : List Loc) (ls : Array Slot), va_P (dC, dI) vwCl (mW h0 ad cid sg_j4 gm lg) H → va_D A (mW h0 ad cid sg_j4 gm lg) → va_S A s.heap H locs → lv_has ls 4 [(3, .int x3_4), (1, .long x1_4), (0, .ref h0)] → W p l e (headSpec wm_X13_name ({ frames := 1, cells := 0, slots := 0, locals := 21 })).room s m ([.ref h0] : List Value).toArray below meth c H locs 0 0 (MQ below (va_Ql (fun r v => ∃ (sg2 : Nat → Int32) (gm2 : Nat → Nat → Int32) (lg2 : Nat → Nat → Int64), v = (sg2, gm2, lg2) ∧ MI sg2 gm2 ∧ KS [21, 22, 23] sg sg2 ∧ KS [] gm gm2 ∧ KS [] lg lg2 ∧ ((sg 21).toInt ≤ (sg2 21).toInt) ∧ ((sg2 21).toInt ≤ (sg2 20).toInt + 1) ∧ ((sg 22).toInt ≤ (sg2 22).toInt) ∧ (1 ≤ (sg2 22).toInt ∨ 0 ≤ r.toInt)) (MB dC dI h0 ad cid A) A) ([.ref h0] : List Value).toArray s 0 0 A) (F0 m 4 ls []) := by
    intro n
    induction n using Nat.strongRecOn with
    | ind n ih4 =>
      intro sg_j4 x3_4 x1_4 hn4 hx3_4 hks_j4 hI_j4 hv h8 hq hm hf H locs ls hP hD hS hl
      have hj37 : ∀ (sg_j37 : Nat → Int32) (_ : iv 0 9 x3_4) (_ : KS [21, 22, 23] sg sg_j37) (_ : MI sg_j37 gm) (_ : (sg_j37 21).toInt < (sg_j37 20).toInt) (_ : 1 ≤ (sg_j37 22).toInt ∨ (NB x1_4 x3_4 ∧ x3_4.toInt ≤ 7)) (_ : x3_4.toInt ≤ 8) (_ : (sg_j37 21).toInt ≤ (sg_j37 20).toInt + 1) (_ : (sg 21).toInt ≤ (sg_j37 21).toInt) (_ : (sg 22).toInt ≤ (sg_j37 22).toInt) (_ : (sg_j4 21).toInt ≤ (sg_j37 21).toInt) (_ : (sg_j4 22).toInt ≤ (sg_j37 22).toInt) (H : Heap) (locs : List Loc) (ls : Array Slot), va_P (dC, dI) vwCl (mW h0 ad cid sg_j37 gm lg) H → va_D A (mW h0 ad cid sg_j37 gm lg) → va_S A s.heap H locs → lv_has ls 4 [(3, .int x3_4), (1, .long x1_4), (0, .ref h0)] → W p l e (headSpec wm_X13_name ({ frames := 1, cells := 0, slots := 0, locals := 21 })).room s m ([.ref h0] : List Value).toArray below meth c H locs 0 0 (MQ below (va_Ql (fun r v => ∃ (sg2 : Nat → Int32) (gm2 : Nat → Nat → Int32) (lg2 : Nat → Nat → Int64), v = (sg2, gm2, lg2) ∧ MI sg2 gm2 ∧ KS [21, 22, 23] sg sg2 ∧ KS [] gm gm2 ∧ KS [] lg lg2 ∧ ((sg 21).toInt ≤ (sg2 21).toInt) ∧ ((sg2 21).toInt ≤ (sg2 20).toInt + 1) ∧ ((sg 22).toInt ≤ (sg2 22).toInt) ∧ (1 ≤ (sg2 22).toInt ∨ 0 ≤ r.toInt)) (MB dC dI h0 ad cid A) A) ([.ref h0] : List Value).toArray s 0 0 A) (F0 m 37 ls []) := by
        intro sg_j37 hsx3_37 hks_j37 hI_j37 hl5 hv h8 hq hm hf hlm4 hlf4 H locs ls hP hD hS hl
        refine lv_lload_n hx hb dX13_name_37 rfl (lv_at hl 1 rfl) ?_
        refine lv_bipush (v := 8) hx hb dX13_name_38 (by decide) ?_
        refine lv_lshl (v := x1_4 <<< ((8 : Int32).toInt64 &&& 63)) hx hb dX13_name_40 rfl ?_
        refine lv_topl (fun z_7 ez_7 => ?_)
        refine lv_aload_n hx hb dX13_name_41 rfl (lv_at hl 2 rfl) ?_
        refine lv_iconst (v := 0) hx hb dX13_name_42 (by decide) ?_
        refine mr_calli (rest := [.long z_7]) ⟨hx, hb, hml, hown, htb⟩ (a_here l dC dI h0 ad cid sg_j37 gm lg 0 hI_j37 (iv_w (iv_k (by decide) : iv 0 0 0) (by decide))) (cwV 1 htb (gd_V kw_1139 kw_1140 kw_73 kw_160 kw_1580) rfl rfl rfl (by decide +kernel) ⟨Nat.le_of_ble_eq_true rfl, Nat.le_of_ble_eq_true rfl⟩) rfl hl.1 rfl (Nat.le_of_ble_eq_true rfl) dX13_name_43 ⟨Nat.zero_le _, Nat.zero_le _⟩ hK hP hD hS hA (fun r_8 u_9 H locs hw hP hD hS => ?_)
        obtain ⟨hr_8, hw_r_8, hn_r_8, rfl⟩ := hw
        have hP : va_P (dC, dI) vwCl (mW h0 ad cid sg_j37 gm lg) H := hP
        have hD : va_D A (mW h0 ad cid sg_j37 gm lg) := hD
        refine lv_i2l (v := (r_8 : Int32).toInt64) hx hb dX13_name_46 rfl ?_
        refine lv_topl (fun z_10 ez_10 => ?_)
        refine lv_lor hx hb dX13_name_47 ?_
        refine lv_topl (fun z_11 ez_11 => ?_)
        refine lv_lstore_n (lv' := [(1, .long z_11), (3, .int x3_4), (0, .ref h0)]) hx hb dX13_name_48 rfl hl (by decide) rfl (fun ls hl => ?_)
        have h_12 : iv 0 8 x3_4 := ⟨(hsx3_37).1, h8⟩
        obtain ⟨z_13, ez_13⟩ : ∃ z : Int32, z = x3_4 + 1 := ⟨_, rfl⟩
        have hz_13 : iv 1 9 z_13 := iv_of ez_13 (iv_add h_12 (iv_k (by decide) : iv 1 1 1) (by decide))
        have tz_13 : z_13.toInt = x3_4.toInt + 1 := by rw [ez_13]; exact iv_addE h_12 (iv_k (by decide) : iv 1 1 1) (by decide)
        refine lv_iinc (v := z_13) (lv' := [(3, .int z_13), (1, .long z_11), (0, .ref h0)]) hx hb dX13_name_49 hl (k := 1) rfl ez_13.symm (by decide) rfl (fun ls hl => ?_)
        refine lv_aload_n hx hb dX13_name_52 rfl (lv_at hl 2 rfl) ?_
        refine lv_dup hx hb dX13_name_53 rfl ?_
        refine mr_get (v := .int (sg_j37 21)) hx hb htb inX13 hown hK hP 21 (by decide) (htb _ kw_1048) rfl dX13_name_54 ?_
        refine lv_iconst (v := 1) hx hb dX13_name_57 (by decide) ?_
        refine lv_iadd hx hb dX13_name_58 ?_
        refine lv_topi (fun z_14 ez_14 => ?_)
        have hz_14 : iv 1 1202 z_14 := iv_of ez_14 (iv_add (show iv 0 1201 (sg_j37 21) from MI_s hI_j37 21) (iv_k (by decide) : iv 1 1 1) (by decide))
        have tz_14 : z_14.toInt = ((sg_j37 21) : Int32).toInt + 1 := by rw [ez_14]; exact iv_addE (show iv 0 1201 (sg_j37 21) from MI_s hI_j37 21) (iv_k (by decide) : iv 1 1 1) (by decide)
        refine ma_put (x := z_14) hx hb htb inX13 hown hK hP hD hS 21 (by decide) (by decide) (htb _ kw_1048) rfl rfl rfl dX13_name_59 (fun sg_15 H locs esg_15 hP hD hS => ?_)
        have h_16 : iv 0 1201 z_14 := ⟨by have := i32_0; have := i32_1; have := i32_2; have := i32_m1; have := congrArg Int32.toInt (show sg_j37 20 = sg 20 from hks_j37 20 (by decide)); have := (show iv 0 1200 (sg 20) from MI_s hI 20).1; have := (show iv 0 1200 (sg 20) from MI_s hI 20).2; have := (show iv 0 1201 (sg_j37 21) from MI_s hI_j37 21).1; have := (show iv 0 1201 (sg_j37 21) from MI_s hI_j37 21).2; have := (show iv 0 1201 (sg 21) from MI_s hI 21).1; have := (show iv 0 1201 (sg 21) from MI_s hI 21).2; have := (show iv 0 3 (sg_j37 22) from MI_s hI_j37 22).1; have := (show iv 0 3 (sg_j37 22) from MI_s hI_j37 22).2; have := (show iv 0 3 (sg 22) from MI_s hI 22).1; have := (show iv 0 3 (sg 22) from MI_s hI 22).2; have := congrArg Int32.toInt (show sg_j4 20 = sg 20 from hks_j4 20 (by decide)); have := (show iv 0 1201 (sg_j4 21) from MI_s hI_j4 21).1; have := (show iv 0 1201 (sg_j4 21) from MI_s hI_j4 21).2; have := (show iv 0 3 (sg_j4 22) from MI_s hI_j4 22).1; have := (show iv 0 3 (sg_j4 22) from MI_s hI_j4 22).2; have := (h_12).1; have := (h_12).2; have := (hr_8).1; have := (hr_8).2; have := (hz_13).1; have := (hz_13).2; have := ((show iv 0 1201 (sg_j37 21) from MI_s hI_j37 21)).1; have := ((show iv 0 1201 (sg_j37 21) from MI_s hI_j37 21)).2; have := (hz_14).1; have := (hz_14).2; omega, by have := i32_0; have := i32_1; have := i32_2; have := i32_m1; have := congrArg Int32.toInt (show sg_j37 20 = sg 20 from hks_j37 20 (by decide)); have := (show iv 0 1200 (sg 20) from MI_s hI 20).1; have := (show iv 0 1200 (sg 20) from MI_s hI 20).2; have := (show iv 0 1201 (sg_j37 21) from MI_s hI_j37 21).1; have := (show iv 0 1201 (sg_j37 21) from MI_s hI_j37 21).2; have := (show iv 0 1201 (sg 21) from MI_s hI 21).1; have := (show iv 0 1201 (sg 21) from MI_s hI 21).2; have := (show iv 0 3 (sg_j37 22) from MI_s hI_j37 22).1; have := (show iv 0 3 (sg_j37 22) from MI_s hI_j37 22).2; have := (show iv 0 3 (sg 22) from MI_s hI 22).1; have := (show iv 0 3 (sg 22) from MI_s hI 22).2; have := congrArg Int32.toInt (show sg_j4 20 = sg 20 from hks_j4 20 (by decide)); have := (show iv 0 1201 (sg_j4 21) from MI_s hI_j4 21).1; have := (show iv 0 1201 (sg_j4 21) from MI_s hI_j4 21).2; have := (show iv 0 3 (sg_j4 22) from MI_s hI_j4 22).1; have := (show iv 0 3 (sg_j4 22) from MI_s hI_j4 22).2; have := (h_12).1; have := (h_12).2; have := (hr_8).1; have := (hr_8).2; have := (hz_13).1; have := (hz_13).2; have := ((show iv 0 1201 (sg_j37 21) from MI_s hI_j37 21)).1; have := ((show iv 0 1201 (sg_j37 21) from MI_s hI_j37 21)).2; have := (hz_14).1; have := (hz_14).2; omega⟩
        have hI_sg_15 := MI_put hI_j37 esg_15 h_16 (by decide)
        refine lv_goto (tgt := 4) hx hb dX13_name_62 (by decide) ?_
        exact ih4 _ (by rw [← hn4]; exact (by have := i32_0; have := i32_1; have := i32_2; have := i32_m1; have := congrArg Int32.toInt (show sg_15 20 = sg_j37 20 from up_ne esg_15 (by decide)); have := congrArg Int32.toInt (show sg_j37 20 = sg 20 from hks_j37 20 (by decide)); have := (show iv 0 1200 (sg 20) from MI_s hI 20).1; have := (show iv 0 1200 (sg 20) from MI_s hI 20).2; have := congrArg Int32.toInt (show sg_15 21 = z_14 from up_at esg_15); have := (hz_14).1; have := (hz_14).2; have := congrArg Int32.toInt (show sg_15 22 = sg_j37 22 from up_ne esg_15 (by decide)); have := (show iv 0 3 (sg_j37 22) from MI_s hI_j37 22).1; have := (show iv 0 3 (sg_j37 22) from MI_s hI_j37 22).2; have := (show iv 0 3 (sg 22) from MI_s hI 22).1; have := (show iv 0 3 (sg 22) from MI_s hI 22).2; have := congrArg Int32.toInt (show sg_j4 20 = sg 20 from hks_j4 20 (by decide)); have := (show iv 0 1201 (sg_j4 21) from MI_s hI_j4 21).1; have := (show iv 0 1201 (sg_j4 21) from MI_s hI_j4 21).2; have := (show iv 0 3 (sg_j4 22) from MI_s hI_j4 22).1; have := (show iv 0 3 (sg_j4 22) from MI_s hI_j4 22).2; have := (h_12).1; have := (h_12).2; have := (hr_8).1; have := (hr_8).2; have := (hz_13).1; have := (hz_13).2; have := ((show iv 0 1201 (sg_j37 21) from MI_s hI_j37 21)).1; have := ((show iv 0 1201 (sg_j37 21) from MI_s hI_j37 21)).2; omega)) sg_15 z_13 z_11 rfl (iv_w hz_13 (by decide)) (KS_up (KS_tr (L := [21, 22, 23]) KS_rf hks_j37 (by decide)) esg_15 (by decide)) hI_sg_15 (hv.elim (fun hv9 => Or.inl (by have := i32_0; have := i32_1; have := i32_2; have := i32_m1; have := congrArg Int32.toInt (show sg_15 20 = sg_j37 20 from up_ne esg_15 (by decide)); have := congrArg Int32.toInt (show sg_j37 20 = sg 20 from hks_j37 20 (by decide)); have := (show iv 0 1200 (sg 20) from MI_s hI 20).1; have := (show iv 0 1200 (sg 20) from MI_s hI 20).2; have := congrArg Int32.toInt (show sg_15 21 = z_14 from up_at esg_15); have := (hz_14).1; have := (hz_14).2; have := congrArg Int32.toInt (show sg_15 22 = sg_j37 22 from up_ne esg_15 (by decide)); have := (show iv 0 3 (sg_j37 22) from MI_s hI_j37 22).1; have := (show iv 0 3 (sg_j37 22) from MI_s hI_j37 22).2; have := (show iv 0 3 (sg 22) from MI_s hI 22).1; have := (show iv 0 3 (sg 22) from MI_s hI 22).2; have := congrArg Int32.toInt (show sg_j4 20 = sg 20 from hks_j4 20 (by decide)); have := (show iv 0 1201 (sg_j4 21) from MI_s hI_j4 21).1; have := (show iv 0 1201 (sg_j4 21) from MI_s hI_j4 21).2; have := (show iv 0 3 (sg_j4 22) from MI_s hI_j4 22).1; have := (show iv 0 3 (sg_j4 22) from MI_s hI_j4 22).2; have := (h_12).1; have := (h_12).2; have := (hr_8).1; have := (hr_8).2; have := (hz_13).1; have := (hz_13).2; have := ((show iv 0 1201 (sg_j37 21) from MI_s hI_j37 21)).1; have := ((show iv 0 1201 (sg_j37 21) from MI_s hI_j37 21)).2; omega)) (fun hv9 => Or.inr (NB_s hv9.1 hv9.2 tz_13 (by have := i32_0; have := i32_1; have := i32_2; have := i32_m1; have := congrArg Int32.toInt (show sg_15 20 = sg_j37 20 from up_ne esg_15 (by decide)); have := congrArg Int32.toInt (show sg_j37 20 = sg 20 from hks_j37 20 (by decide)); have := (show iv 0 1200 (sg 20) from MI_s hI 20).1; have := (show iv 0 1200 (sg 20) from MI_s hI 20).2; have := congrArg Int32.toInt (show sg_15 21 = z_14 from up_at esg_15); have := (hz_14).1; have := (hz_14).2; have := congrArg Int32.toInt (show sg_15 22 = sg_j37 22 from up_ne esg_15 (by decide)); have := (show iv 0 3 (sg_j37 22) from MI_s hI_j37 22).1; have := (show iv 0 3 (sg_j37 22) from MI_s hI_j37 22).2; have := (show iv 0 3 (sg 22) from MI_s hI 22).1; have := (show iv 0 3 (sg 22) from MI_s hI 22).2; have := congrArg Int32.toInt (show sg_j4 20 = sg 20 from hks_j4 20 (by decide)); have := (show iv 0 1201 (sg_j4 21) from MI_s hI_j4 21).1; have := (show iv 0 1201 (sg_j4 21) from MI_s hI_j4 21).2; have := (show iv 0 3 (sg_j4 22) from MI_s hI_j4 22).1; have := (show iv 0 3 (sg_j4 22) from MI_s hI_j4 22).2; have := (h_12).1; have := (h_12).2; have := (hr_8).1; have := (hr_8).2; have := (hz_13).1; have := (hz_13).2; have := ((show iv 0 1201 (sg_j37 21) from MI_s hI_j37 21)).1; have := ((show iv 0 1201 (sg_j37 21) from MI_s hI_j37 21)).2; omega) (by have := i32_0; have := i32_1; have := i32_2; have := i32_m1; have := congrArg Int32.toInt (show sg_15 20 = sg_j37 20 from up_ne esg_15 (by decide)); have := congrArg Int32.toInt (show sg_j37 20 = sg 20 from hks_j37 20 (by decide)); have := (show iv 0 1200 (sg 20) from MI_s hI 20).1; have := (show iv 0 1200 (sg 20) from MI_s hI 20).2; have := congrArg Int32.toInt (show sg_15 21 = z_14 from up_at esg_15); have := (hz_14).1; have := (hz_14).2; have := congrArg Int32.toInt (show sg_15 22 = sg_j37 22 from up_ne esg_15 (by decide)); have := (show iv 0 3 (sg_j37 22) from MI_s hI_j37 22).1; have := (show iv 0 3 (sg_j37 22) from MI_s hI_j37 22).2; have := (show iv 0 3 (sg 22) from MI_s hI 22).1; have := (show iv 0 3 (sg 22) from MI_s hI 22).2; have := congrArg Int32.toInt (show sg_j4 20 = sg 20 from hks_j4 20 (by decide)); have := (show iv 0 1201 (sg_j4 21) from MI_s hI_j4 21).1; have := (show iv 0 1201 (sg_j4 21) from MI_s hI_j4 21).2; have := (show iv 0 3 (sg_j4 22) from MI_s hI_j4 22).1; have := (show iv 0 3 (sg_j4 22) from MI_s hI_j4 22).2; have := (h_12).1; have := (h_12).2; have := (hr_8).1; have := (hr_8).2; have := (hz_13).1; have := (hz_13).2; have := ((show iv 0 1201 (sg_j37 21) from MI_s hI_j37 21)).1; have := ((show iv 0 1201 (sg_j37 21) from MI_s hI_j37 21)).2; omega) ez_7 ez_10 ez_11))) (by have := i32_0; have := i32_1; have := i32_2; have := i32_m1; have := congrArg Int32.toInt (show sg_15 20 = sg_j37 20 from up_ne esg_15 (by decide)); have := congrArg Int32.toInt (show sg_j37 20 = sg 20 from hks_j37 20 (by decide)); have := (show iv 0 1200 (sg 20) from MI_s hI 20).1; have := (show iv 0 1200 (sg 20) from MI_s hI 20).2; have := congrArg Int32.toInt (show sg_15 21 = z_14 from up_at esg_15); have := (hz_14).1; have := (hz_14).2; have := congrArg Int32.toInt (show sg_15 22 = sg_j37 22 from up_ne esg_15 (by decide)); have := (show iv 0 3 (sg_j37 22) from MI_s hI_j37 22).1; have := (show iv 0 3 (sg_j37 22) from MI_s hI_j37 22).2; have := (show iv 0 3 (sg 22) from MI_s hI 22).1; have := (show iv 0 3 (sg 22) from MI_s hI 22).2; have := congrArg Int32.toInt (show sg_j4 20 = sg 20 from hks_j4 20 (by decide)); have := (show iv 0 1201 (sg_j4 21) from MI_s hI_j4 21).1; have := (show iv 0 1201 (sg_j4 21) from MI_s hI_j4 21).2; have := (show iv 0 3 (sg_j4 22) from MI_s hI_j4 22).1; have := (show iv 0 3 (sg_j4 22) from MI_s hI_j4 22).2; have := (h_12).1; have := (h_12).2; have := (hr_8).1; have := (hr_8).2; have := (hz_13).1; have := (hz_13).2; have := ((show iv 0 1201 (sg_j37 21) from MI_s hI_j37 21)).1; have := ((show iv 0 1201 (sg_j37 21) from MI_s hI_j37 21)).2; omega) (by have := i32_0; have := i32_1; have := i32_2; have := i32_m1; have := congrArg Int32.toInt (show sg_15 20 = sg_j37 20 from up_ne esg_15 (by decide)); have := congrArg Int32.toInt (show sg_j37 20 = sg 20 from hks_j37 20 (by decide)); have := (show iv 0 1200 (sg 20) from MI_s hI 20).1; have := (show iv 0 1200 (sg 20) from MI_s hI 20).2; have := congrArg Int32.toInt (show sg_15 21 = z_14 from up_at esg_15); have := (hz_14).1; have := (hz_14).2; have := congrArg Int32.toInt (show sg_15 22 = sg_j37 22 from up_ne esg_15 (by decide)); have := (show iv 0 3 (sg_j37 22) from MI_s hI_j37 22).1; have := (show iv 0 3 (sg_j37 22) from MI_s hI_j37 22).2; have := (show iv 0 3 (sg 22) from MI_s hI 22).1; have := (show iv 0 3 (sg 22) from MI_s hI 22).2; have := congrArg Int32.toInt (show sg_j4 20 = sg 20 from hks_j4 20 (by decide)); have := (show iv 0 1201 (sg_j4 21) from MI_s hI_j4 21).1; have := (show iv 0 1201 (sg_j4 21) from MI_s hI_j4 21).2; have := (show iv 0 3 (sg_j4 22) from MI_s hI_j4 22).1; have := (show iv 0 3 (sg_j4 22) from MI_s hI_j4 22).2; have := (h_12).1; have := (h_12).2; have := (hr_8).1; have := (hr_8).2; have := (hz_13).1; have := (hz_13).2; have := ((show iv 0 1201 (sg_j37 21) from MI_s hI_j37 21)).1; have := ((show iv 0 1201 (sg_j37 21) from MI_s hI_j37 21)).2; omega) (by have := i32_0; have := i32_1; have := i32_2; have := i32_m1; have := congrArg Int32.toInt (show sg_15 20 = sg_j37 20 from up_ne esg_15 (by decide)); have := congrArg Int32.toInt (show sg_j37 20 = sg 20 from hks_j37 20 (by decide)); have := (show iv 0 1200 (sg 20) from MI_s hI 20).1; have := (show iv 0 1200 (sg 20) from MI_s hI 20).2; have := congrArg Int32.toInt (show sg_15 21 = z_14 from up_at esg_15); have := (hz_14).1; have := (hz_14).2; have := congrArg Int32.toInt (show sg_15 22 = sg_j37 22 from up_ne esg_15 (by decide)); have := (show iv 0 3 (sg_j37 22) from MI_s hI_j37 22).1; have := (show iv 0 3 (sg_j37 22) from MI_s hI_j37 22).2; have := (show iv 0 3 (sg 22) from MI_s hI 22).1; have := (show iv 0 3 (sg 22) from MI_s hI 22).2; have := congrArg Int32.toInt (show sg_j4 20 = sg 20 from hks_j4 20 (by decide)); have := (show iv 0 1201 (sg_j4 21) from MI_s hI_j4 21).1; have := (show iv 0 1201 (sg_j4 21) from MI_s hI_j4 21).2; have := (show iv 0 3 (sg_j4 22) from MI_s hI_j4 22).1; have := (show iv 0 3 (sg_j4 22) from MI_s hI_j4 22).2; have := (h_12).1; have := (h_12).2; have := (hr_8).1; have := (hr_8).2; have := (hz_13).1; have := (hz_13).2; have := ((show iv 0 1201 (sg_j37 21) from MI_s hI_j37 21)).1; have := ((show iv 0 1201 (sg_j37 21) from MI_s hI_j37 21)).2; omega) (by have := i32_0; have := i32_1; have := i32_2; have := i32_m1; have := congrArg Int32.toInt (show sg_15 20 = sg_j37 20 from up_ne esg_15 (by decide)); have := congrArg Int32.toInt (show sg_j37 20 = sg 20 from hks_j37 20 (by decide)); have := (show iv 0 1200 (sg 20) from MI_s hI 20).1; have := (show iv 0 1200 (sg 20) from MI_s hI 20).2; have := congrArg Int32.toInt (show sg_15 21 = z_14 from up_at esg_15); have := (hz_14).1; have := (hz_14).2; have := congrArg Int32.toInt (show sg_15 22 = sg_j37 22 from up_ne esg_15 (by decide)); have := (show iv 0 3 (sg_j37 22) from MI_s hI_j37 22).1; have := (show iv 0 3 (sg_j37 22) from MI_s hI_j37 22).2; have := (show iv 0 3 (sg 22) from MI_s hI 22).1; have := (show iv 0 3 (sg 22) from MI_s hI 22).2; have := congrArg Int32.toInt (show sg_j4 20 = sg 20 from hks_j4 20 (by decide)); have := (show iv 0 1201 (sg_j4 21) from MI_s hI_j4 21).1; have := (show iv 0 1201 (sg_j4 21) from MI_s hI_j4 21).2; have := (show iv 0 3 (sg_j4 22) from MI_s hI_j4 22).1; have := (show iv 0 3 (sg_j4 22) from MI_s hI_j4 22).2; have := (h_12).1; have := (h_12).2; have := (hr_8).1; have := (hr_8).2; have := (hz_13).1; have := (hz_13).2; have := ((show iv 0 1201 (sg_j37 21) from MI_s hI_j37 21)).1; have := ((show iv 0 1201 (sg_j37 21) from MI_s hI_j37 21)).2; omega) _ _ _ hP hD hS (lv_sub hl [0, 1, 2] rfl)
      refine lv_aload_n hx hb dX13_name_4 rfl (lv_at hl 2 rfl) ?_
      refine lv_aload_n hx hb dX13_name_5 rfl (lv_at hl 2 rfl) ?_
      refine lv_iconst (v := 0) hx hb dX13_name_6 (by decide) ?_
      refine mr_calli (rest := [.ref h0]) ⟨hx, hb, hml, hown, htb⟩ (a_here l dC dI h0 ad cid sg_j4 gm lg 0 hI_j4 (iv_w (iv_k (by decide) : iv 0 0 0) (by decide))) (cwV 1 htb (gd_V kw_1139 kw_1140 kw_73 kw_160 kw_1580) rfl rfl rfl (by decide +kernel) ⟨Nat.le_of_ble_eq_true rfl, Nat.le_of_ble_eq_true rfl⟩) rfl hl.1 rfl (Nat.le_of_ble_eq_true rfl) dX13_name_7 ⟨Nat.zero_le _, Nat.zero_le _⟩ hK hP hD hS hA (fun r_17 u_18 H locs hw hP hD hS => ?_)
      obtain ⟨hr_17, hw_r_17, hn_r_17, rfl⟩ := hw
      have hP : va_P (dC, dI) vwCl (mW h0 ad cid sg_j4 gm lg) H := hP
      have hD : va_D A (mW h0 ad cid sg_j4 gm lg) := hD
      refine mr_calli (rest := []) ⟨hx, hb, hml, hown, htb⟩ (a_isSmall2 l dC dI h0 ad cid sg_j4 gm lg r_17 hI_j4) (cwV 1 htb (gd_V kw_1149 kw_1150 kw_78 kw_160 kw_1585) rfl rfl rfl (by decide +kernel) ⟨Nat.le_of_ble_eq_true rfl, Nat.le_of_ble_eq_true rfl⟩) rfl hl.1 rfl (Nat.le_of_ble_eq_true rfl) dX13_name_10 ⟨Nat.zero_le _, Nat.zero_le _⟩ hK hP hD hS hA (fun r_19 u_20 H locs hw hP hD hS => ?_)
      obtain ⟨hr_19, sm_r_19, rfl⟩ := hw
      have hP : va_P (dC, dI) vwCl (mW h0 ad cid sg_j4 gm lg) H := hP
      have hD : va_D A (mW h0 ad cid sg_j4 gm lg) := hD
      refine lv_if_eq (tgt := 65) hx hb dX13_name_13 (by decide) (fun c_21 => ?_) (fun c_21 => ?_)
      · have h_22 : iv 0 0 r_19 := iv_eq c_21 hr_19 (iv_k (by decide) : iv 0 0 0) (by decide)
        exact hj65 sg_j4 x3_4 x1_4 hx3_4 (KS_tr (L := [21, 22, 23]) KS_rf hks_j4 (by decide)) hI_j4 (hv) (by have := i32_0; have := i32_1; have := i32_2; have := i32_m1; have := congrArg Int32.toInt (show sg_j4 20 = sg 20 from hks_j4 20 (by decide)); have := (show iv 0 1200 (sg 20) from MI_s hI 20).1; have := (show iv 0 1200 (sg 20) from MI_s hI 20).2; have := (show iv 0 1201 (sg_j4 21) from MI_s hI_j4 21).1; have := (show iv 0 1201 (sg_j4 21) from MI_s hI_j4 21).2; have := (show iv 0 1201 (sg 21) from MI_s hI 21).1; have := (show iv 0 1201 (sg 21) from MI_s hI 21).2; have := (show iv 0 3 (sg_j4 22) from MI_s hI_j4 22).1; have := (show iv 0 3 (sg_j4 22) from MI_s hI_j4 22).2; have := (show iv 0 3 (sg 22) from MI_s hI 22).1; have := (show iv 0 3 (sg 22) from MI_s hI 22).2; have := (hx3_4).1; have := (hx3_4).2; have := (hr_17).1; have := (hr_17).2; have := (h_22).1; have := (h_22).2; omega) (by have := i32_0; have := i32_1; have := i32_2; have := i32_m1; have := congrArg Int32.toInt (show sg_j4 20 = sg 20 from hks_j4 20 (by decide)); have := (show iv 0 1200 (sg 20) from MI_s hI 20).1; have := (show iv 0 1200 (sg 20) from MI_s hI 20).2; have := (show iv 0 1201 (sg_j4 21) from MI_s hI_j4 21).1; have := (show iv 0 1201 (sg_j4 21) from MI_s hI_j4 21).2; have := (show iv 0 1201 (sg 21) from MI_s hI 21).1; have := (show iv 0 1201 (sg 21) from MI_s hI 21).2; have := (show iv 0 3 (sg_j4 22) from MI_s hI_j4 22).1; have := (show iv 0 3 (sg_j4 22) from MI_s hI_j4 22).2; have := (show iv 0 3 (sg 22) from MI_s hI 22).1; have := (show iv 0 3 (sg 22) from MI_s hI 22).2; have := (hx3_4).1; have := (hx3_4).2; have := (hr_17).1; have := (hr_17).2; have := (h_22).1; have := (h_22).2; omega) (by have := i32_0; have := i32_1; have := i32_2; have := i32_m1; have := congrArg Int32.toInt (show sg_j4 20 = sg 20 from hks_j4 20 (by decide)); have := (show iv 0 1200 (sg 20) from MI_s hI 20).1; have := (show iv 0 1200 (sg 20) from MI_s hI 20).2; have := (show iv 0 1201 (sg_j4 21) from MI_s hI_j4 21).1; have := (show iv 0 1201 (sg_j4 21) from MI_s hI_j4 21).2; have := (show iv 0 1201 (sg 21) from MI_s hI 21).1; have := (show iv 0 1201 (sg 21) from MI_s hI 21).2; have := (show iv 0 3 (sg_j4 22) from MI_s hI_j4 22).1; have := (show iv 0 3 (sg_j4 22) from MI_s hI_j4 22).2; have := (show iv 0 3 (sg 22) from MI_s hI 22).1; have := (show iv 0 3 (sg 22) from MI_s hI 22).2; have := (hx3_4).1; have := (hx3_4).2; have := (hr_17).1; have := (hr_17).2; have := (h_22).1; have := (h_22).2; omega) _ _ _ hP hD hS (lv_sub hl [0, 1, 2] rfl)
      · have h_23 : iv 1 1 r_19 := iv_neL c_21 hr_19 (by decide)
        refine lv_aload_n hx hb dX13_name_16 rfl (lv_at hl 2 rfl) ?_
        refine mr_get (v := .int (sg_j4 22)) hx hb htb inX13 hown hK hP 22 (by decide) (htb _ kw_1049) rfl dX13_name_17 ?_
        refine lv_if_ne (tgt := 65) hx hb dX13_name_20 (by decide) (fun c_24 => ?_) (fun c_24 => ?_)
        · have h_25 : iv 1 3 (sg_j4 22) := iv_neL c_24 (show iv 0 3 (sg_j4 22) from MI_s hI_j4 22) (by decide)
          exact hj65 sg_j4 x3_4 x1_4 hx3_4 (KS_tr (L := [21, 22, 23]) KS_rf hks_j4 (by decide)) hI_j4 (hv) (by have := i32_0; have := i32_1; have := i32_2; have := i32_m1; have := congrArg Int32.toInt (show sg_j4 20 = sg 20 from hks_j4 20 (by decide)); have := (show iv 0 1200 (sg 20) from MI_s hI 20).1; have := (show iv 0 1200 (sg 20) from MI_s hI 20).2; have := (show iv 0 1201 (sg_j4 21) from MI_s hI_j4 21).1; have := (show iv 0 1201 (sg_j4 21) from MI_s hI_j4 21).2; have := (show iv 0 1201 (sg 21) from MI_s hI 21).1; have := (show iv 0 1201 (sg 21) from MI_s hI 21).2; have := (show iv 0 3 (sg_j4 22) from MI_s hI_j4 22).1; have := (show iv 0 3 (sg_j4 22) from MI_s hI_j4 22).2; have := (show iv 0 3 (sg 22) from MI_s hI 22).1; have := (show iv 0 3 (sg 22) from MI_s hI 22).2; have := (hx3_4).1; have := (hx3_4).2; have := (hr_17).1; have := (hr_17).2; have := (h_23).1; have := (h_23).2; have := (h_25).1; have := (h_25).2; omega) (by have := i32_0; have := i32_1; have := i32_2; have := i32_m1; have := congrArg Int32.toInt (show sg_j4 20 = sg 20 from hks_j4 20 (by decide)); have := (show iv 0 1200 (sg 20) from MI_s hI 20).1; have := (show iv 0 1200 (sg 20) from MI_s hI 20).2; have := (show iv 0 1201 (sg_j4 21) from MI_s hI_j4 21).1; have := (show iv 0 1201 (sg_j4 21) from MI_s hI_j4 21).2; have := (show iv 0 1201 (sg 21) from MI_s hI 21).1; have := (show iv 0 1201 (sg 21) from MI_s hI 21).2; have := (show iv 0 3 (sg_j4 22) from MI_s hI_j4 22).1; have := (show iv 0 3 (sg_j4 22) from MI_s hI_j4 22).2; have := (show iv 0 3 (sg 22) from MI_s hI 22).1; have := (show iv 0 3 (sg 22) from MI_s hI 22).2; have := (hx3_4).1; have := (hx3_4).2; have := (hr_17).1; have := (hr_17).2; have := (h_23).1; have := (h_23).2; have := (h_25).1; have := (h_25).2; omega) (by have := i32_0; have := i32_1; have := i32_2; have := i32_m1; have := congrArg Int32.toInt (show sg_j4 20 = sg 20 from hks_j4 20 (by decide)); have := (show iv 0 1200 (sg 20) from MI_s hI 20).1; have := (show iv 0 1200 (sg 20) from MI_s hI 20).2; have := (show iv 0 1201 (sg_j4 21) from MI_s hI_j4 21).1; have := (show iv 0 1201 (sg_j4 21) from MI_s hI_j4 21).2; have := (show iv 0 1201 (sg 21) from MI_s hI 21).1; have := (show iv 0 1201 (sg 21) from MI_s hI 21).2; have := (show iv 0 3 (sg_j4 22) from MI_s hI_j4 22).1; have := (show iv 0 3 (sg_j4 22) from MI_s hI_j4 22).2; have := (show iv 0 3 (sg 22) from MI_s hI 22).1; have := (show iv 0 3 (sg 22) from MI_s hI 22).2; have := (hx3_4).1; have := (hx3_4).2; have := (hr_17).1; have := (hr_17).2; have := (h_23).1; have := (h_23).2; have := (h_25).1; have := (h_25).2; omega) _ _ _ hP hD hS (lv_sub hl [0, 1, 2] rfl)
        · have h_26 : iv 0 0 (sg_j4 22) := iv_eq c_24 (show iv 0 3 (sg_j4 22) from MI_s hI_j4 22) (iv_k (by decide) : iv 0 0 0) (by decide)
          refine lv_iload_n hx hb dX13_name_23 rfl (lv_at hl 0 rfl) ?_
          refine lv_bipush (v := 8) hx hb dX13_name_24 (by decide) ?_
          refine lv_icmp_ne (tgt := 37) hx hb dX13_name_26 (by decide) (fun c_27 => ?_) (fun c_27 => ?_)
          · have d_28 : ¬ (x3_4 : Int32).toInt = 8 := lv_neT c_27 rfl
            exact hj37 sg_j4 hx3_4 (KS_tr (L := [21, 22, 23]) KS_rf hks_j4 (by decide)) hI_j4 (by have := i32_0; have := i32_1; have := i32_2; have := i32_m1; have := congrArg Int32.toInt (show sg_j4 20 = sg 20 from hks_j4 20 (by decide)); have := (show iv 0 1200 (sg 20) from MI_s hI 20).1; have := (show iv 0 1200 (sg 20) from MI_s hI 20).2; have := (show iv 0 1201 (sg_j4 21) from MI_s hI_j4 21).1; have := (show iv 0 1201 (sg_j4 21) from MI_s hI_j4 21).2; have := (show iv 0 1201 (sg 21) from MI_s hI 21).1; have := (show iv 0 1201 (sg 21) from MI_s hI 21).2; have := (show iv 0 3 (sg_j4 22) from MI_s hI_j4 22).1; have := (show iv 0 3 (sg_j4 22) from MI_s hI_j4 22).2; have := (show iv 0 3 (sg 22) from MI_s hI 22).1; have := (show iv 0 3 (sg 22) from MI_s hI 22).2; have := (hx3_4).1; have := (hx3_4).2; have := (hr_17).1; have := (hr_17).2; have := (h_23).1; have := (h_23).2; have := (h_26).1; have := (h_26).2; omega) (hv.elim Or.inl (fun hv9 => Or.inr ⟨hv9, by have := i32_0; have := i32_1; have := i32_2; have := i32_m1; have := congrArg Int32.toInt (show sg_j4 20 = sg 20 from hks_j4 20 (by decide)); have := (show iv 0 1200 (sg 20) from MI_s hI 20).1; have := (show iv 0 1200 (sg 20) from MI_s hI 20).2; have := (show iv 0 1201 (sg_j4 21) from MI_s hI_j4 21).1; have := (show iv 0 1201 (sg_j4 21) from MI_s hI_j4 21).2; have := (show iv 0 1201 (sg 21) from MI_s hI 21).1; have := (show iv 0 1201 (sg 21) from MI_s hI 21).2; have := (show iv 0 3 (sg_j4 22) from MI_s hI_j4 22).1; have := (show iv 0 3 (sg_j4 22) from MI_s hI_j4 22).2; have := (show iv 0 3 (sg 22) from MI_s hI 22).1; have := (show iv 0 3 (sg 22) from MI_s hI 22).2; have := (hx3_4).1; have := (hx3_4).2; have := (hr_17).1; have := (hr_17).2; have := (h_23).1; have := (h_23).2; have := (h_26).1; have := (h_26).2; have := hv9.2.2; omega⟩)) (by have := i32_0; have := i32_1; have := i32_2; have := i32_m1; have := congrArg Int32.toInt (show sg_j4 20 = sg 20 from hks_j4 20 (by decide)); have := (show iv 0 1200 (sg 20) from MI_s hI 20).1; have := (show iv 0 1200 (sg 20) from MI_s hI 20).2; have := (show iv 0 1201 (sg_j4 21) from MI_s hI_j4 21).1; have := (show iv 0 1201 (sg_j4 21) from MI_s hI_j4 21).2; have := (show iv 0 1201 (sg 21) from MI_s hI 21).1; have := (show iv 0 1201 (sg 21) from MI_s hI 21).2; have := (show iv 0 3 (sg_j4 22) from MI_s hI_j4 22).1; have := (show iv 0 3 (sg_j4 22) from MI_s hI_j4 22).2; have := (show iv 0 3 (sg 22) from MI_s hI 22).1; have := (show iv 0 3 (sg 22) from MI_s hI 22).2; have := (hx3_4).1; have := (hx3_4).2; have := (hr_17).1; have := (hr_17).2; have := (h_23).1; have := (h_23).2; have := (h_26).1; have := (h_26).2; omega) (by have := i32_0; have := i32_1; have := i32_2; have := i32_m1; have := congrArg Int32.toInt (show sg_j4 20 = sg 20 from hks_j4 20 (by decide)); have := (show iv 0 1200 (sg 20) from MI_s hI 20).1; have := (show iv 0 1200 (sg 20) from MI_s hI 20).2; have := (show iv 0 1201 (sg_j4 21) from MI_s hI_j4 21).1; have := (show iv 0 1201 (sg_j4 21) from MI_s hI_j4 21).2; have := (show iv 0 1201 (sg 21) from MI_s hI 21).1; have := (show iv 0 1201 (sg 21) from MI_s hI 21).2; have := (show iv 0 3 (sg_j4 22) from MI_s hI_j4 22).1; have := (show iv 0 3 (sg_j4 22) from MI_s hI_j4 22).2; have := (show iv 0 3 (sg 22) from MI_s hI 22).1; have := (show iv 0 3 (sg 22) from MI_s hI 22).2; have := (hx3_4).1; have := (hx3_4).2; have := (hr_17).1; have := (hr_17).2; have := (h_23).1; have := (h_23).2; have := (h_26).1; have := (h_26).2; omega) (by have := i32_0; have := i32_1; have := i32_2; have := i32_m1; have := congrArg Int32.toInt (show sg_j4 20 = sg 20 from hks_j4 20 (by decide)); have := (show iv 0 1200 (sg 20) from MI_s hI 20).1; have := (show iv 0 1200 (sg 20) from MI_s hI 20).2; have := (show iv 0 1201 (sg_j4 21) from MI_s hI_j4 21).1; have := (show iv 0 1201 (sg_j4 21) from MI_s hI_j4 21).2; have := (show iv 0 1201 (sg 21) from MI_s hI 21).1; have := (show iv 0 1201 (sg 21) from MI_s hI 21).2; have := (show iv 0 3 (sg_j4 22) from MI_s hI_j4 22).1; have := (show iv 0 3 (sg_j4 22) from MI_s hI_j4 22).2; have := (show iv 0 3 (sg 22) from MI_s hI 22).1; have := (show iv 0 3 (sg 22) from MI_s hI 22).2; have := (hx3_4).1; have := (hx3_4).2; have := (hr_17).1; have := (hr_17).2; have := (h_23).1; have := (h_23).2; have := (h_26).1; have := (h_26).2; omega) (by have := i32_0; have := i32_1; have := i32_2; have := i32_m1; have := congrArg Int32.toInt (show sg_j4 20 = sg 20 from hks_j4 20 (by decide)); have := (show iv 0 1200 (sg 20) from MI_s hI 20).1; have := (show iv 0 1200 (sg 20) from MI_s hI 20).2; have := (show iv 0 1201 (sg_j4 21) from MI_s hI_j4 21).1; have := (show iv 0 1201 (sg_j4 21) from MI_s hI_j4 21).2; have := (show iv 0 1201 (sg 21) from MI_s hI 21).1; have := (show iv 0 1201 (sg 21) from MI_s hI 21).2; have := (show iv 0 3 (sg_j4 22) from MI_s hI_j4 22).1; have := (show iv 0 3 (sg_j4 22) from MI_s hI_j4 22).2; have := (show iv 0 3 (sg 22) from MI_s hI 22).1; have := (show iv 0 3 (sg 22) from MI_s hI 22).2; have := (hx3_4).1; have := (hx3_4).2; have := (hr_17).1; have := (hr_17).2; have := (h_23).1; have := (h_23).2; have := (h_26).1; have := (h_26).2; omega) (by have := i32_0; have := i32_1; have := i32_2; have := i32_m1; have := congrArg Int32.toInt (show sg_j4 20 = sg 20 from hks_j4 20 (by decide)); have := (show iv 0 1200 (sg 20) from MI_s hI 20).1; have := (show iv 0 1200 (sg 20) from MI_s hI 20).2; have := (show iv 0 1201 (sg_j4 21) from MI_s hI_j4 21).1; have := (show iv 0 1201 (sg_j4 21) from MI_s hI_j4 21).2; have := (show iv 0 1201 (sg 21) from MI_s hI 21).1; have := (show iv 0 1201 (sg 21) from MI_s hI 21).2; have := (show iv 0 3 (sg_j4 22) from MI_s hI_j4 22).1; have := (show iv 0 3 (sg_j4 22) from MI_s hI_j4 22).2; have := (show iv 0 3 (sg 22) from MI_s hI 22).1; have := (show iv 0 3 (sg 22) from MI_s hI 22).2; have := (hx3_4).1; have := (hx3_4).2; have := (hr_17).1; have := (hr_17).2; have := (h_23).1; have := (h_23).2; have := (h_26).1; have := (h_26).2; omega) (by have := i32_0; have := i32_1; have := i32_2; have := i32_m1; have := congrArg Int32.toInt (show sg_j4 20 = sg 20 from hks_j4 20 (by decide)); have := (show iv 0 1200 (sg 20) from MI_s hI 20).1; have := (show iv 0 1200 (sg 20) from MI_s hI 20).2; have := (show iv 0 1201 (sg_j4 21) from MI_s hI_j4 21).1; have := (show iv 0 1201 (sg_j4 21) from MI_s hI_j4 21).2; have := (show iv 0 1201 (sg 21) from MI_s hI 21).1; have := (show iv 0 1201 (sg 21) from MI_s hI 21).2; have := (show iv 0 3 (sg_j4 22) from MI_s hI_j4 22).1; have := (show iv 0 3 (sg_j4 22) from MI_s hI_j4 22).2; have := (show iv 0 3 (sg 22) from MI_s hI 22).1; have := (show iv 0 3 (sg 22) from MI_s hI 22).2; have := (hx3_4).1; have := (hx3_4).2; have := (hr_17).1; have := (hr_17).2; have := (h_23).1; have := (h_23).2; have := (h_26).1; have := (h_26).2; omega) _ _ _ hP hD hS (lv_sub hl [0, 1, 2] rfl)
          · have h_29 : iv 8 8 x3_4 := iv_eq c_27 hx3_4 (iv_k (by decide) : iv 8 8 8) (by decide)
            refine lv_aload_n hx hb dX13_name_29 rfl (lv_at hl 2 rfl) ?_
            refine lv_aload_n hx hb dX13_name_30 rfl (lv_at hl 2 rfl) ?_
            refine mr_get (v := .int (sg_j4 21)) hx hb htb inX13 hown hK hP 21 (by decide) (htb _ kw_1048) rfl dX13_name_31 ?_
            refine mr_callv (rest := []) ⟨hx, hb, hml, hown, htb⟩ (a_bad2 l dC dI h0 ad cid sg_j4 gm lg (sg_j4 21) hI_j4) (cwV 1 htb (gd_V kw_1147 kw_1148 kw_77 kw_160 kw_1584) rfl rfl rfl (by decide +kernel) ⟨Nat.le_of_ble_eq_true rfl, Nat.le_of_ble_eq_true rfl⟩) rfl hl.1 rfl (Nat.le_of_ble_eq_true rfl) dX13_name_34 ⟨Nat.zero_le _, Nat.zero_le _⟩ hK hP hD hS hA (fun u_31 H locs hw hP hD hS => ?_)
            obtain ⟨sgv_32, gmv_32, lgv_32, rfl, hIv_32, ksv_32, kgv_32, klv_32, fb_r_30, ff_r_30⟩ := hw
            obtain rfl := KS_nil kgv_32
            obtain rfl := KS_nil klv_32
            have hP : va_P (dC, dI) vwCl (mW h0 ad cid sgv_32 gm lg) H := hP
            have hD : va_D A (mW h0 ad cid sgv_32 gm lg) := hD
            exact hj37 sgv_32 (iv_w h_29 (by decide)) (KS_tr (L := [21, 22, 23]) (KS_tr (L := [21, 22, 23]) KS_rf hks_j4 (by decide)) ksv_32 (by decide)) hIv_32 (by have := i32_0; have := i32_1; have := i32_2; have := i32_m1; have := congrArg Int32.toInt (show sgv_32 20 = sg_j4 20 from ksv_32 20 (by decide)); have := congrArg Int32.toInt (show sg_j4 20 = sg 20 from hks_j4 20 (by decide)); have := (show iv 0 1200 (sg 20) from MI_s hI 20).1; have := (show iv 0 1200 (sg 20) from MI_s hI 20).2; have := congrArg Int32.toInt (show sgv_32 21 = sg_j4 21 from ksv_32 21 (by decide)); have := (show iv 0 1201 (sg_j4 21) from MI_s hI_j4 21).1; have := (show iv 0 1201 (sg_j4 21) from MI_s hI_j4 21).2; have := (show iv 0 1201 (sg 21) from MI_s hI 21).1; have := (show iv 0 1201 (sg 21) from MI_s hI 21).2; have := (show iv 0 3 (sgv_32 22) from MI_s hIv_32 22).1; have := (show iv 0 3 (sgv_32 22) from MI_s hIv_32 22).2; have := (show iv 0 3 (sg_j4 22) from MI_s hI_j4 22).1; have := (show iv 0 3 (sg_j4 22) from MI_s hI_j4 22).2; have := (show iv 0 3 (sg 22) from MI_s hI 22).1; have := (show iv 0 3 (sg 22) from MI_s hI 22).2; have := congrArg Int32.toInt (show sg_j4 20 = sg 20 from hks_j4 20 (by decide)); have := (show iv 0 1201 (sg_j4 21) from MI_s hI_j4 21).1; have := (show iv 0 1201 (sg_j4 21) from MI_s hI_j4 21).2; have := (show iv 0 3 (sg_j4 22) from MI_s hI_j4 22).1; have := (show iv 0 3 (sg_j4 22) from MI_s hI_j4 22).2; have := (h_29).1; have := (h_29).2; have := (hr_17).1; have := (hr_17).2; have := (h_23).1; have := (h_23).2; have := (h_26).1; have := (h_26).2; have := ((show iv 0 1201 (sg_j4 21) from MI_s hI_j4 21)).1; have := ((show iv 0 1201 (sg_j4 21) from MI_s hI_j4 21)).2; omega) (Or.inl (by have := i32_0; have := i32_1; have := i32_2; have := i32_m1; have := congrArg Int32.toInt (show sgv_32 20 = sg_j4 20 from ksv_32 20 (by decide)); have := congrArg Int32.toInt (show sg_j4 20 = sg 20 from hks_j4 20 (by decide)); have := (show iv 0 1200 (sg 20) from MI_s hI 20).1; have := (show iv 0 1200 (sg 20) from MI_s hI 20).2; have := congrArg Int32.toInt (show sgv_32 21 = sg_j4 21 from ksv_32 21 (by decide)); have := (show iv 0 1201 (sg_j4 21) from MI_s hI_j4 21).1; have := (show iv 0 1201 (sg_j4 21) from MI_s hI_j4 21).2; have := (show iv 0 1201 (sg 21) from MI_s hI 21).1; have := (show iv 0 1201 (sg 21) from MI_s hI 21).2; have := (show iv 0 3 (sgv_32 22) from MI_s hIv_32 22).1; have := (show iv 0 3 (sgv_32 22) from MI_s hIv_32 22).2; have := (show iv 0 3 (sg_j4 22) from MI_s hI_j4 22).1; have := (show iv 0 3 (sg_j4 22) from MI_s hI_j4 22).2; have := (show iv 0 3 (sg 22) from MI_s hI 22).1; have := (show iv 0 3 (sg 22) from MI_s hI 22).2; have := congrArg Int32.toInt (show sg_j4 20 = sg 20 from hks_j4 20 (by decide)); have := (show iv 0 1201 (sg_j4 21) from MI_s hI_j4 21).1; have := (show iv 0 1201 (sg_j4 21) from MI_s hI_j4 21).2; have := (show iv 0 3 (sg_j4 22) from MI_s hI_j4 22).1; have := (show iv 0 3 (sg_j4 22) from MI_s hI_j4 22).2; have := (h_29).1; have := (h_29).2; have := (hr_17).1; have := (hr_17).2; have := (h_23).1; have := (h_23).2; have := (h_26).1; have := (h_26).2; have := ((show iv 0 1201 (sg_j4 21) from MI_s hI_j4 21)).1; have := ((show iv 0 1201 (sg_j4 21) from MI_s hI_j4 21)).2; omega)) (by have := i32_0; have := i32_1; have := i32_2; have := i32_m1; have := congrArg Int32.toInt (show sgv_32 20 = sg_j4 20 from ksv_32 20 (by decide)); have := congrArg Int32.toInt (show sg_j4 20 = sg 20 from hks_j4 20 (by decide)); have := (show iv 0 1200 (sg 20) from MI_s hI 20).1; have := (show iv 0 1200 (sg 20) from MI_s hI 20).2; have := congrArg Int32.toInt (show sgv_32 21 = sg_j4 21 from ksv_32 21 (by decide)); have := (show iv 0 1201 (sg_j4 21) from MI_s hI_j4 21).1; have := (show iv 0 1201 (sg_j4 21) from MI_s hI_j4 21).2; have := (show iv 0 1201 (sg 21) from MI_s hI 21).1; have := (show iv 0 1201 (sg 21) from MI_s hI 21).2; have := (show iv 0 3 (sgv_32 22) from MI_s hIv_32 22).1; have := (show iv 0 3 (sgv_32 22) from MI_s hIv_32 22).2; have := (show iv 0 3 (sg_j4 22) from MI_s hI_j4 22).1; have := (show iv 0 3 (sg_j4 22) from MI_s hI_j4 22).2; have := (show iv 0 3 (sg 22) from MI_s hI 22).1; have := (show iv 0 3 (sg 22) from MI_s hI 22).2; have := congrArg Int32.toInt (show sg_j4 20 = sg 20 from hks_j4 20 (by decide)); have := (show iv 0 1201 (sg_j4 21) from MI_s hI_j4 21).1; have := (show iv 0 1201 (sg_j4 21) from MI_s hI_j4 21).2; have := (show iv 0 3 (sg_j4 22) from MI_s hI_j4 22).1; have := (show iv 0 3 (sg_j4 22) from MI_s hI_j4 22).2; have := (h_29).1; have := (h_29).2; have := (hr_17).1; have := (hr_17).2; have := (h_23).1; have := (h_23).2; have := (h_26).1; have := (h_26).2; have := ((show iv 0 1201 (sg_j4 21) from MI_s hI_j4 21)).1; have := ((show iv 0 1201 (sg_j4 21) from MI_s hI_j4 21)).2; omega) (by have := i32_0; have := i32_1; have := i32_2; have := i32_m1; have := congrArg Int32.toInt (show sgv_32 20 = sg_j4 20 from ksv_32 20 (by decide)); have := congrArg Int32.toInt (show sg_j4 20 = sg 20 from hks_j4 20 (by decide)); have := (show iv 0 1200 (sg 20) from MI_s hI 20).1; have := (show iv 0 1200 (sg 20) from MI_s hI 20).2; have := congrArg Int32.toInt (show sgv_32 21 = sg_j4 21 from ksv_32 21 (by decide)); have := (show iv 0 1201 (sg_j4 21) from MI_s hI_j4 21).1; have := (show iv 0 1201 (sg_j4 21) from MI_s hI_j4 21).2; have := (show iv 0 1201 (sg 21) from MI_s hI 21).1; have := (show iv 0 1201 (sg 21) from MI_s hI 21).2; have := (show iv 0 3 (sgv_32 22) from MI_s hIv_32 22).1; have := (show iv 0 3 (sgv_32 22) from MI_s hIv_32 22).2; have := (show iv 0 3 (sg_j4 22) from MI_s hI_j4 22).1; have := (show iv 0 3 (sg_j4 22) from MI_s hI_j4 22).2; have := (show iv 0 3 (sg 22) from MI_s hI 22).1; have := (show iv 0 3 (sg 22) from MI_s hI 22).2; have := congrArg Int32.toInt (show sg_j4 20 = sg 20 from hks_j4 20 (by decide)); have := (show iv 0 1201 (sg_j4 21) from MI_s hI_j4 21).1; have := (show iv 0 1201 (sg_j4 21) from MI_s hI_j4 21).2; have := (show iv 0 3 (sg_j4 22) from MI_s hI_j4 22).1; have := (show iv 0 3 (sg_j4 22) from MI_s hI_j4 22).2; have := (h_29).1; have := (h_29).2; have := (hr_17).1; have := (hr_17).2; have := (h_23).1; have := (h_23).2; have := (h_26).1; have := (h_26).2; have := ((show iv 0 1201 (sg_j4 21) from MI_s hI_j4 21)).1; have := ((show iv 0 1201 (sg_j4 21) from MI_s hI_j4 21)).2; omega) (by have := i32_0; have := i32_1; have := i32_2; have := i32_m1; have := congrArg Int32.toInt (show sgv_32 20 = sg_j4 20 from ksv_32 20 (by decide)); have := congrArg Int32.toInt (show sg_j4 20 = sg 20 from hks_j4 20 (by decide)); have := (show iv 0 1200 (sg 20) from MI_s hI 20).1; have := (show iv 0 1200 (sg 20) from MI_s hI 20).2; have := congrArg Int32.toInt (show sgv_32 21 = sg_j4 21 from ksv_32 21 (by decide)); have := (show iv 0 1201 (sg_j4 21) from MI_s hI_j4 21).1; have := (show iv 0 1201 (sg_j4 21) from MI_s hI_j4 21).2; have := (show iv 0 1201 (sg 21) from MI_s hI 21).1; have := (show iv 0 1201 (sg 21) from MI_s hI 21).2; have := (show iv 0 3 (sgv_32 22) from MI_s hIv_32 22).1; have := (show iv 0 3 (sgv_32 22) from MI_s hIv_32 22).2; have := (show iv 0 3 (sg_j4 22) from MI_s hI_j4 22).1; have := (show iv 0 3 (sg_j4 22) from MI_s hI_j4 22).2; have := (show iv 0 3 (sg 22) from MI_s hI 22).1; have := (show iv 0 3 (sg 22) from MI_s hI 22).2; have := congrArg Int32.toInt (show sg_j4 20 = sg 20 from hks_j4 20 (by decide)); have := (show iv 0 1201 (sg_j4 21) from MI_s hI_j4 21).1; have := (show iv 0 1201 (sg_j4 21) from MI_s hI_j4 21).2; have := (show iv 0 3 (sg_j4 22) from MI_s hI_j4 22).1; have := (show iv 0 3 (sg_j4 22) from MI_s hI_j4 22).2; have := (h_29).1; have := (h_29).2; have := (hr_17).1; have := (hr_17).2; have := (h_23).1; have := (h_23).2; have := (h_26).1; have := (h_26).2; have := ((show iv 0 1201 (sg_j4 21) from MI_s hI_j4 21)).1; have := ((show iv 0 1201 (sg_j4 21) from MI_s hI_j4 21)).2; omega) (by have := i32_0; have := i32_1; have := i32_2; have := i32_m1; have := congrArg Int32.toInt (show sgv_32 20 = sg_j4 20 from ksv_32 20 (by decide)); have := congrArg Int32.toInt (show sg_j4 20 = sg 20 from hks_j4 20 (by decide)); have := (show iv 0 1200 (sg 20) from MI_s hI 20).1; have := (show iv 0 1200 (sg 20) from MI_s hI 20).2; have := congrArg Int32.toInt (show sgv_32 21 = sg_j4 21 from ksv_32 21 (by decide)); have := (show iv 0 1201 (sg_j4 21) from MI_s hI_j4 21).1; have := (show iv 0 1201 (sg_j4 21) from MI_s hI_j4 21).2; have := (show iv 0 1201 (sg 21) from MI_s hI 21).1; have := (show iv 0 1201 (sg 21) from MI_s hI 21).2; have := (show iv 0 3 (sgv_32 22) from MI_s hIv_32 22).1; have := (show iv 0 3 (sgv_32 22) from MI_s hIv_32 22).2; have := (show iv 0 3 (sg_j4 22) from MI_s hI_j4 22).1; have := (show iv 0 3 (sg_j4 22) from MI_s hI_j4 22).2; have := (show iv 0 3 (sg 22) from MI_s hI 22).1; have := (show iv 0 3 (sg 22) from MI_s hI 22).2; have := congrArg Int32.toInt (show sg_j4 20 = sg 20 from hks_j4 20 (by decide)); have := (show iv 0 1201 (sg_j4 21) from MI_s hI_j4 21).1; have := (show iv 0 1201 (sg_j4 21) from MI_s hI_j4 21).2; have := (show iv 0 3 (sg_j4 22) from MI_s hI_j4 22).1; have := (show iv 0 3 (sg_j4 22) from MI_s hI_j4 22).2; have := (h_29).1; have := (h_29).2; have := (hr_17).1; have := (hr_17).2; have := (h_23).1; have := (h_23).2; have := (h_26).1; have := (h_26).2; have := ((show iv 0 1201 (sg_j4 21) from MI_s hI_j4 21)).1; have := ((show iv 0 1201 (sg_j4 21) from MI_s hI_j4 21)).2; omega) (by have := i32_0; have := i32_1; have := i32_2; have := i32_m1; have := congrArg Int32.toInt (show sgv_32 20 = sg_j4 20 from ksv_32 20 (by decide)); have := congrArg Int32.toInt (show sg_j4 20 = sg 20 from hks_j4 20 (by decide)); have := (show iv 0 1200 (sg 20) from MI_s hI 20).1; have := (show iv 0 1200 (sg 20) from MI_s hI 20).2; have := congrArg Int32.toInt (show sgv_32 21 = sg_j4 21 from ksv_32 21 (by decide)); have := (show iv 0 1201 (sg_j4 21) from MI_s hI_j4 21).1; have := (show iv 0 1201 (sg_j4 21) from MI_s hI_j4 21).2; have := (show iv 0 1201 (sg 21) from MI_s hI 21).1; have := (show iv 0 1201 (sg 21) from MI_s hI 21).2; have := (show iv 0 3 (sgv_32 22) from MI_s hIv_32 22).1; have := (show iv 0 3 (sgv_32 22) from MI_s hIv_32 22).2; have := (show iv 0 3 (sg_j4 22) from MI_s hI_j4 22).1; have := (show iv 0 3 (sg_j4 22) from MI_s hI_j4 22).2; have := (show iv 0 3 (sg 22) from MI_s hI 22).1; have := (show iv 0 3 (sg 22) from MI_s hI 22).2; have := congrArg Int32.toInt (show sg_j4 20 = sg 20 from hks_j4 20 (by decide)); have := (show iv 0 1201 (sg_j4 21) from MI_s hI_j4 21).1; have := (show iv 0 1201 (sg_j4 21) from MI_s hI_j4 21).2; have := (show iv 0 3 (sg_j4 22) from MI_s hI_j4 22).1; have := (show iv 0 3 (sg_j4 22) from MI_s hI_j4 22).2; have := (h_29).1; have := (h_29).2; have := (hr_17).1; have := (hr_17).2; have := (h_23).1; have := (h_23).2; have := (h_26).1; have := (h_26).2; have := ((show iv 0 1201 (sg_j4 21) from MI_s hI_j4 21)).1; have := ((show iv 0 1201 (sg_j4 21) from MI_s hI_j4 21)).2; omega) (by have := i32_0; have := i32_1; have := i32_2; have := i32_m1; have := congrArg Int32.toInt (show sgv_32 20 = sg_j4 20 from ksv_32 20 (by decide)); have := congrArg Int32.toInt (show sg_j4 20 = sg 20 from hks_j4 20 (by decide)); have := (show iv 0 1200 (sg 20) from MI_s hI 20).1; have := (show iv 0 1200 (sg 20) from MI_s hI 20).2; have := congrArg Int32.toInt (show sgv_32 21 = sg_j4 21 from ksv_32 21 (by decide)); have := (show iv 0 1201 (sg_j4 21) from MI_s hI_j4 21).1; have := (show iv 0 1201 (sg_j4 21) from MI_s hI_j4 21).2; have := (show iv 0 1201 (sg 21) from MI_s hI 21).1; have := (show iv 0 1201 (sg 21) from MI_s hI 21).2; have := (show iv 0 3 (sgv_32 22) from MI_s hIv_32 22).1; have := (show iv 0 3 (sgv_32 22) from MI_s hIv_32 22).2; have := (show iv 0 3 (sg_j4 22) from MI_s hI_j4 22).1; have := (show iv 0 3 (sg_j4 22) from MI_s hI_j4 22).2; have := (show iv 0 3 (sg 22) from MI_s hI 22).1; have := (show iv 0 3 (sg 22) from MI_s hI 22).2; have := congrArg Int32.toInt (show sg_j4 20 = sg 20 from hks_j4 20 (by decide)); have := (show iv 0 1201 (sg_j4 21) from MI_s hI_j4 21).1; have := (show iv 0 1201 (sg_j4 21) from MI_s hI_j4 21).2; have := (show iv 0 3 (sg_j4 22) from MI_s hI_j4 22).1; have := (show iv 0 3 (sg_j4 22) from MI_s hI_j4 22).2; have := (h_29).1; have := (h_29).2; have := (hr_17).1; have := (hr_17).2; have := (h_23).1; have := (h_23).2; have := (h_26).1; have := (h_26).2; have := ((show iv 0 1201 (sg_j4 21) from MI_s hI_j4 21)).1; have := ((show iv 0 1201 (sg_j4 21) from MI_s hI_j4 21)).2; omega) _ _ _ hP hD hS (lv_sub hl [0, 1, 2] rfl)
  refine lv_lconst (v := 0) hx hb dX13_name_0 (by decide) ?_
  refine lv_lstore_n (lv' := [(1, .long 0), (0, .ref h0)]) hx hb dX13_name_1 rfl hl (by decide) rfl (fun ls hl => ?_)
  refine lv_iconst (v := 0) hx hb dX13_name_2 (by decide) ?_
  refine lv_istore_n (lv' := [(3, .int 0), (1, .long 0), (0, .ref h0)]) hx hb dX13_name_3 rfl hl (by decide) rfl (fun ls hl => ?_)
  exact hj4 _ sg 0 0 rfl (iv_w (iv_k (by decide) : iv 0 0 0) (by decide)) KS_rf hI (Or.inr NB_0) (by have := i32_0; have := i32_1; have := i32_2; have := i32_m1; have := (show iv 0 1200 (sg 20) from MI_s hI 20).1; have := (show iv 0 1200 (sg 20) from MI_s hI 20).2; have := (show iv 0 1201 (sg 21) from MI_s hI 21).1; have := (show iv 0 1201 (sg 21) from MI_s hI 21).2; have := (show iv 0 3 (sg 22) from MI_s hI 22).1; have := (show iv 0 3 (sg 22) from MI_s hI 22).2; omega) (by have := i32_0; have := i32_1; have := i32_2; have := i32_m1; have := (show iv 0 1200 (sg 20) from MI_s hI 20).1; have := (show iv 0 1200 (sg 20) from MI_s hI 20).2; have := (show iv 0 1201 (sg 21) from MI_s hI 21).1; have := (show iv 0 1201 (sg 21) from MI_s hI 21).2; have := (show iv 0 3 (sg 22) from MI_s hI 22).1; have := (show iv 0 3 (sg 22) from MI_s hI 22).2; omega) (by have := i32_0; have := i32_1; have := i32_2; have := i32_m1; have := (show iv 0 1200 (sg 20) from MI_s hI 20).1; have := (show iv 0 1200 (sg 20) from MI_s hI 20).2; have := (show iv 0 1201 (sg 21) from MI_s hI 21).1; have := (show iv 0 1201 (sg 21) from MI_s hI 21).2; have := (show iv 0 3 (sg 22) from MI_s hI 22).1; have := (show iv 0 3 (sg 22) from MI_s hI 22).2; omega) (by have := i32_0; have := i32_1; have := i32_2; have := i32_m1; have := (show iv 0 1200 (sg 20) from MI_s hI 20).1; have := (show iv 0 1200 (sg 20) from MI_s hI 20).2; have := (show iv 0 1201 (sg 21) from MI_s hI 21).1; have := (show iv 0 1201 (sg 21) from MI_s hI 21).2; have := (show iv 0 3 (sg 22) from MI_s hI 22).1; have := (show iv 0 3 (sg 22) from MI_s hI 22).2; omega) _ _ _ hP hD hS (lv_sub hl [0, 1, 2] rfl)
end
section
theorem up_cell {g g1 : Nat → Nat → Int32} {k j : Nat} {x : Int32} (q : g1 = va_up g k (upd (g k) j x)) : g1 k j = x := by
  rw [up_at q]
  show (if j = j then x else g k j) = x
  rw [if_pos rfl]
theorem up_oth {g g1 : Nat → Nat → Int32} {k j i : Nat} {x : Int32} (q : g1 = va_up g k (upd (g k) j x)) (h : i ≠ j) : g1 k i = g k i := by
  rw [up_at q]
  show (if i = j then x else g k i) = _
  rw [if_neg h]
theorem up_le {g g1 : Nat → Nat → Int32} {k j : Nat} {x : Int32} {d : Int} (q : g1 = va_up g k (upd (g k) j x)) (hd : 0 ≤ d) (h : x.toInt ≤ (g k j).toInt + d) (i : Nat) : (g1 k i).toInt ≤ (g k i).toInt + d := by
  by_cases hi : i = j
  · subst hi; rw [up_cell q]; exact h
  · rw [up_oth q hi]; omega
end
section
/-- the numbers of children, when element E is begun within a -/
def wth (f : Nat → Int32) (E : Nat) (a : Int32) : Nat → Int32 := if a = -1 then upd f E 0 else upd (upd f E 0) a.toNatClampNeg (upd f E 0 a.toNatClampNeg + 1)
/-- the name of element E is there and not negative, the others are as they were -/
def NX (lg2 lg : Nat → Nat → Int64) (E : Nat) : Prop := ∃ nm : Int64, 0 ≤ nm.toInt ∧ lg2 34 = vp_updL (lg 34) E nm
theorem NX_mk {lg2 lg : Nat → Nat → Int64} {E : Nat} {nm : Int64} (h : 0 ≤ nm.toInt) (h2 : lg2 34 = vp_updL (lg 34) E nm) : NX lg2 lg E := ⟨nm, h, h2⟩
theorem NX_tr {lg3 lg2 lg : Nat → Nat → Int64} {E : Nat} (h2 : lg3 34 = lg2 34) (h : NX lg2 lg E) : NX lg3 lg E := by
  obtain ⟨nm, h9, h8⟩ := h
  exact ⟨nm, h9, h2.trans h8⟩
/-- what begin leaves where no fault was found -/
def BG (sg : Nat → Int32) (gm : Nat → Nat → Int32) (lg : Nat → Nat → Int64) (a : Int32) (sg2 : Nat → Int32) (gm2 : Nat → Nat → Int32) (lg2 : Nat → Nat → Int64) (r : Int32) : Prop :=
  r = sg 24 ∧ (sg2 24).toInt = (sg 24).toInt + 1 ∧ (sg 24).toInt ≤ 79 ∧ gm2 28 = upd (gm 28) (sg 24).toNatClampNeg a ∧ gm2 29 = wth (gm 29) (sg 24).toNatClampNeg a ∧ gm2 32 = upd (gm 32) (sg 24).toNatClampNeg 0 ∧ NX lg2 lg (sg 24).toNatClampNeg
end
section
/-- how many of the first n stand within k -/
def cntA (f : Nat → Int32) (k : Nat) : Nat → Nat
  | 0 => 0
  | n + 1 => cntA f k n + (if (f n).toInt = (k : Int) then 1 else 0)
theorem cntA_congr {f g : Nat → Int32} {k : Nat} : ∀ {n : Nat}, (∀ j, j < n → g j = f j) → cntA g k n = cntA f k n := by
  intro n
  induction n with
  | zero => intro _; rfl
  | succ n ih =>
    intro h
    show cntA g k n + _ = cntA f k n + _
    rw [ih (fun j hj => h j (by omega)), h n (by omega)]
theorem cntA_le (f : Nat → Int32) (k : Nat) : ∀ n, cntA f k n ≤ n := by
  intro n
  induction n with
  | zero => exact Nat.le_refl 0
  | succ n ih =>
    show cntA f k n + _ ≤ n + 1
    split <;> omega
def TA (f : Nat → Int32) (n : Nat) : Prop := ∀ k, k < n → (f k).toInt < (k : Int) ∧ (k = 0 ∨ 0 ≤ (f k).toInt)
def TB (f w : Nat → Int32) (n : Nat) : Prop := ∀ k, k < n → (w k).toInt = (cntA f k n : Int)
theorem cntA_0 {f : Nat → Int32} {n k : Nat} (h : TA f n) (hk : n ≤ k) : ∀ m, m ≤ n → cntA f k m = 0 := by
  intro m
  induction m with
  | zero => intro _; rfl
  | succ m ih =>
    intro hm
    show cntA f k m + _ = 0
    have h1 := (h m (by omega)).1
    rw [ih (by omega), if_neg (by omega)]
/-- the level of an element: d steps up and out -/
def LV (f : Nat → Int32) : Nat → Int → Prop
  | 0, x => x = -1
  | d + 1, x => 0 ≤ x ∧ LV f d (f x.toNat).toInt
theorem LV_le {f : Nat → Int32} {n : Nat} (h : TA f n) : ∀ (d : Nat) (x : Int), x < (n : Int) → LV f d x → (d : Int) ≤ x + 1 := by
  intro d
  induction d with
  | zero => intro x _ hx; have hx : x = -1 := hx; omega
  | succ d ih =>
    intro x hn hx
    obtain ⟨h0, h1⟩ := hx
    have h2 := (h x.toNat (by omega)).1
    have h3 := ih _ (by omega) h1
    omega
theorem LV_congr {f g : Nat → Int32} {n : Nat} (h : TA f n) (hg : ∀ j, j < n → g j = f j) : ∀ (d : Nat) (x : Int), x < (n : Int) → LV f d x → LV g d x := by
  intro d
  induction d with
  | zero => intro x _ hx; exact hx
  | succ d ih =>
    intro x hn hx
    obtain ⟨h0, h1⟩ := hx
    have h2 := (h x.toNat (by omega)).1
    refine ⟨h0, ?_⟩
    rw [hg x.toNat (by omega)]
    exact ih _ (by omega) h1
/-- the tree of the elements read so far; T bounds the whites that wait -/
def TR (sg : Nat → Int32) (gm : Nat → Nat → Int32) (lg : Nat → Nat → Int64) (T : Int) : Prop := (TA (gm 28) (sg 24).toNatClampNeg ∧ TB (gm 28) (gm 29) (sg 24).toNatClampNeg) ∧ (∀ k, k < (sg 24).toNatClampNeg → (gm 32 k).toInt ≤ T) ∧ ∀ k, k < (sg 24).toNatClampNeg → 0 ≤ (lg 34 k).toInt
def RD (sg : Nat → Int32) (gm : Nat → Nat → Int32) (lg : Nat → Nat → Int64) (x d : Int32) (T : Int) : Prop := TR sg gm lg T ∧ (d.toInt = 0 ∨ (LV (gm 28) d.toInt.toNat x.toInt ∧ x.toInt < (sg 24).toInt ∧ 1 ≤ d.toInt))
theorem RD_keep {sg sg2 : Nat → Int32} {gm gm2 : Nat → Nat → Int32} {lg lg2 : Nat → Nat → Int64} {x d : Int32} {T T2 : Int} (h : RD sg gm lg x d T) (h24 : sg2 24 = sg 24) (h28 : gm2 28 = gm 28) (h29 : gm2 29 = gm 29) (h34 : lg2 34 = lg 34) (h32 : ∀ k, (gm2 32 k).toInt ≤ (gm 32 k).toInt + (T2 - T)) : RD sg2 gm2 lg2 x d T2 := by
  obtain ⟨⟨⟨a1, a2⟩, a3, a4⟩, a5⟩ := h
  unfold RD TR
  rw [h24, h28, h29, h34]
  exact ⟨⟨⟨a1, a2⟩, fun k hk => by have := a3 k hk; have := h32 k; omega, a4⟩, a5⟩
theorem RD_e {sg : Nat → Int32} {gm : Nat → Nat → Int32} {lg : Nat → Nat → Int64} {x d : Int32} {T : Int} (h : RD sg gm lg x d T) (hn : iv 0 80 (sg 24)) (hd : 1 ≤ d.toInt) : iv 0 79 x ∧ d.toInt ≤ x.toInt + 1 ∧ x.toInt < (sg 24).toInt ∧ x.toNatClampNeg < (sg 24).toNatClampNeg := by
  have k1 := iv_cl hn (by decide)
  have k2 := hn.2
  rcases h.2 with h0 | ⟨h1, h2, h3⟩
  · omega
  · obtain ⟨j, hj⟩ : ∃ j : Nat, d.toInt.toNat = j + 1 := ⟨d.toInt.toNat - 1, by omega⟩
    have h4 := LV_le h.1.1.1 d.toInt.toNat x.toInt (by omega) h1
    rw [hj] at h1
    have h5 : 0 ≤ x.toInt := h1.1
    have h6 : iv 0 79 x := ⟨h5, by omega⟩
    have k3 := iv_cl h6 (by decide)
    exact ⟨h6, by omega, h2, by omega⟩
theorem RD_out {sg : Nat → Int32} {gm : Nat → Nat → Int32} {lg : Nat → Nat → Int64} {x d x2 d2 : Int32} {T : Int} (h : RD sg gm lg x d T) (hn : iv 0 80 (sg 24)) (hd : 1 ≤ d.toInt) (hx : x2 = gm 28 x.toNatClampNeg) (h2 : d2.toInt = d.toInt - 1) : RD sg gm lg x2 d2 T := by
  obtain ⟨k1, k2, k3, k4⟩ := RD_e h hn hd
  have k5 := iv_cl k1 (by decide)
  refine ⟨h.1, ?_⟩
  by_cases h0 : d2.toInt = 0
  · exact Or.inl h0
  · rcases h.2 with q0 | ⟨q1, q2, q3⟩
    · omega
    · have hj : d.toInt.toNat = d2.toInt.toNat + 1 := by omega
      rw [hj] at q1
      have q4 := q1.2
      have hx3 : x.toInt.toNat = x.toNatClampNeg := rfl
      rw [hx3, ← hx] at q4
      have q5 := (h.1.1.1 x.toNatClampNeg k4).1
      rw [← hx] at q5
      exact Or.inr ⟨q4, by omega, by omega⟩
theorem updL_ne {f : Nat → Int64} {k j : Nat} {v : Int64} (h : j ≠ k) : vp_updL f k v j = f j := by
  show (if j = k then v else f j) = _
  rw [if_neg h]
theorem updL_at {f : Nat → Int64} {k : Nat} {v : Int64} : vp_updL f k v k = v := by
  show (if k = k then v else f k) = _
  rw [if_pos rfl]
theorem upd_ne {f : Nat → Int32} {k j : Nat} {v : Int32} (h : j ≠ k) : upd f k v j = f j := by
  show (if j = k then v else f j) = _
  rw [if_neg h]
theorem upd_at {f : Nat → Int32} {k : Nat} {v : Int32} : upd f k v k = v := by
  show (if k = k then v else f k) = _
  rw [if_pos rfl]
/-- begin makes the tree larger by one -/
theorem BG_TR {sg sg2 : Nat → Int32} {gm gm2 : Nat → Nat → Int32} {lg lg2 : Nat → Nat → Int64} {a r : Int32} {T T2 : Int} (hb : BG sg gm lg a sg2 gm2 lg2 r) (h : TR sg gm lg T) (hT : T ≤ T2) (h0 : 0 ≤ T2) (hn : iv 0 80 (sg 24)) (hn2 : iv 0 80 (sg2 24)) (ha : iv (-1) 79 a) (hlt : a.toInt < (sg 24).toInt) (hz : (sg 24).toInt = 0 ∨ 0 ≤ a.toInt) : TR sg2 gm2 lg2 T2 ∧ (sg2 24).toNatClampNeg = (sg 24).toNatClampNeg + 1 := by
  obtain ⟨b1, b2, b3, b4, b5, b6, nm, b7, b8⟩ := hb
  obtain ⟨⟨a1, a2⟩, a3, a4⟩ := h
  have k1 := iv_cl hn (by decide)
  have k2 := iv_cl hn2 (by decide)
  have k3 : (sg2 24).toNatClampNeg = (sg 24).toNatClampNeg + 1 := by omega
  have q1 := ha.1
  refine ⟨?_, k3⟩
  generalize hE : (sg 24).toNatClampNeg = E at *
  have fo : ∀ j, j < E → gm2 28 j = gm 28 j := fun j hj => by rw [b4, upd_ne (by omega)]
  have fE : gm2 28 E = a := by rw [b4, upd_at]
  have wk : ∀ k, k < E → (gm2 29 k).toInt = (gm 29 k).toInt + (if a.toInt = (k : Int) then 1 else 0) := by
    intro k hk
    rw [b5]
    unfold wth
    by_cases hm : a = -1
    · rw [if_pos hm, upd_ne (by omega), if_neg (by rw [hm]; show ¬ (-1 : Int) = k; omega)]
      omega
    · rw [if_neg hm]
      have hm2 : a.toInt ≠ -1 := fun q => hm (Int32.toInt_inj.mp q)
      have hav : iv 0 79 a := ⟨by omega, ha.2⟩
      have k5 := iv_cl hav (by decide)
      by_cases hk2 : k = a.toNatClampNeg
      · subst hk2
        rw [upd_at, upd_ne (by omega), if_pos (by omega)]
        have c1 := a2 a.toNatClampNeg hk
        have c2 := cntA_le (gm 28) a.toNatClampNeg E
        exact iv_addE (a := 0) (b := 79) (c := 1) (d := 1) ⟨by omega, by omega⟩ (iv_k (by decide)) (by decide)
      · rw [upd_ne hk2, upd_ne (by omega), if_neg (by omega)]
        omega
  have wE : (gm2 29 E).toInt = 0 := by
    rw [b5]
    unfold wth
    by_cases hm : a = -1
    · rw [if_pos hm, upd_at]; rfl
    · rw [if_neg hm]
      have hm2 : a.toInt ≠ -1 := fun q => hm (Int32.toInt_inj.mp q)
      have hav : iv 0 79 a := ⟨by omega, ha.2⟩
      have k5 := iv_cl hav (by decide)
      rw [upd_ne (by omega), upd_at]; rfl
  have cc : ∀ k, cntA (gm2 28) k (E + 1) = cntA (gm 28) k E + (if a.toInt = (k : Int) then 1 else 0) := by
    intro k
    show cntA (gm2 28) k E + _ = _
    rw [cntA_congr fo, fE]
  unfold TR
  rw [k3]
  refine ⟨⟨?_, ?_⟩, ?_, ?_⟩
  · intro k hk
    by_cases hk2 : k = E
    · subst hk2; rw [fE]; exact ⟨by omega, by omega⟩
    · rw [fo k (by omega)]; exact a1 k (by omega)
  · intro k hk
    rw [cc k]
    by_cases hk2 : k = E
    · subst hk2
      rw [wE, cntA_0 a1 (Nat.le_refl _) _ (Nat.le_refl _), if_neg (by omega)]
      rfl
    · rw [wk k (by omega), a2 k (by omega)]
      split <;> simp
  · intro k hk
    rw [b6]
    by_cases hk2 : k = E
    · subst hk2; rw [upd_at]; exact h0
    · rw [upd_ne hk2]; exact Int.le_trans (a3 k (by omega)) hT
  · intro k hk
    rw [b8]
    by_cases hk2 : k = E
    · subst hk2; rw [updL_at]; exact b7
    · rw [updL_ne hk2]; exact a4 k (by omega)
theorem RD_in {sg sg2 : Nat → Int32} {gm gm2 : Nat → Nat → Int32} {lg lg2 : Nat → Nat → Int64} {a d d2 r : Int32} {T T2 : Int} (hb : BG sg gm lg a sg2 gm2 lg2 r) (h : RD sg gm lg a d T) (hT : T ≤ T2) (h0 : 0 ≤ T2) (hn : iv 0 80 (sg 24)) (hn2 : iv 0 80 (sg2 24)) (hd : 1 ≤ d.toInt) (h2 : d2.toInt = d.toInt + 1) : RD sg2 gm2 lg2 r d2 T2 := by
  obtain ⟨k1, k2, k3, k4⟩ := RD_e h hn hd
  obtain ⟨t1, t2⟩ := BG_TR hb h.1 hT h0 hn hn2 (iv_w k1 (by decide)) k3 (Or.inr k1.1)
  refine ⟨t1, Or.inr ?_⟩
  obtain ⟨b1, b2, b3, b4, _⟩ := hb
  have q1 := iv_cl hn (by decide)
  rcases h.2 with q0 | ⟨l1, l2, l3⟩
  · omega
  have hj : d2.toInt.toNat = d.toInt.toNat + 1 := by omega
  rw [hj, b1]
  refine ⟨⟨hn.1, ?_⟩, by omega, by omega⟩
  have e9 : (sg 24).toInt.toNat = (sg 24).toNatClampNeg := rfl
  rw [e9]
  have f1 : gm2 28 (sg 24).toNatClampNeg = a := by rw [b4, upd_at]
  rw [f1]
  exact LV_congr h.1.1.1 (fun j hj9 => by rw [b4, upd_ne (by omega)]) _ _ (by omega) l1
theorem RD_by {sg sg2 : Nat → Int32} {gm gm2 : Nat → Nat → Int32} {lg lg2 : Nat → Nat → Int64} {a d r : Int32} {T T2 : Int} (hb : BG sg gm lg a sg2 gm2 lg2 r) (h : RD sg gm lg a d T) (hT : T ≤ T2) (h0 : 0 ≤ T2) (hn : iv 0 80 (sg 24)) (hn2 : iv 0 80 (sg2 24)) (hd : 1 ≤ d.toInt) : RD sg2 gm2 lg2 a d T2 := by
  obtain ⟨k1, k2, k3, k4⟩ := RD_e h hn hd
  obtain ⟨t1, t2⟩ := BG_TR hb h.1 hT h0 hn hn2 (iv_w k1 (by decide)) k3 (Or.inr k1.1)
  refine ⟨t1, Or.inr ?_⟩
  obtain ⟨b1, b2, b3, b4, _⟩ := hb
  have q1 := iv_cl hn (by decide)
  rcases h.2 with q0 | ⟨l1, l2, l3⟩
  · omega
  exact ⟨LV_congr h.1.1.1 (fun j hj9 => by rw [b4, upd_ne (by omega)]) _ _ (by omega) l1, by omega, l3⟩
theorem RD_1 {sg sg2 : Nat → Int32} {gm gm2 : Nat → Nat → Int32} {lg lg2 : Nat → Nat → Int64} {r : Int32} {T2 : Int} (hb : BG sg gm lg (-1) sg2 gm2 lg2 r) (h : (sg 24).toInt = 0) (h0 : 0 ≤ T2) (hn2 : iv 0 80 (sg2 24)) : RD sg2 gm2 lg2 r 1 T2 := by
  have hn : iv 0 80 (sg 24) := ⟨by omega, by omega⟩
  have q1 := iv_cl hn (by decide)
  have e0 : (sg 24).toNatClampNeg = 0 := by omega
  obtain ⟨t1, t2⟩ := BG_TR (T := 0) hb ⟨⟨fun k hk => by omega, fun k hk => by omega⟩, fun k hk => by omega, fun k hk => by omega⟩ h0 h0 hn hn2 (iv_k (by decide)) (by rw [h]; decide) (Or.inl h)
  obtain ⟨b1, b2, b3, b4, _⟩ := hb
  refine ⟨t1, Or.inr ⟨?_, by rw [b1]; omega, by decide⟩⟩
  rw [b1, h]
  refine ⟨by decide, ?_⟩
  show (gm2 28 0).toInt = -1
  rw [b4, e0, upd_at]
  rfl
theorem RD_0 {sg : Nat → Int32} {gm : Nat → Nat → Int32} {lg : Nat → Nat → Int64} {x d : Int32} {T : Int} (h : RD sg gm lg x d T) : RD sg gm lg x 0 T := ⟨h.1, Or.inl rfl⟩
theorem RD_w {sg : Nat → Int32} {gm : Nat → Nat → Int32} {lg : Nat → Nat → Int64} {x d : Int32} {T T2 : Int} (h : RD sg gm lg x d T) (hT : T ≤ T2) : RD sg gm lg x d T2 := RD_keep h rfl rfl rfl rfl (fun k => by omega)
theorem RD_wi {sg : Nat → Int32} {gm : Nat → Nat → Int32} {lg : Nat → Nat → Int64} {x d : Int32} {T : Int} (h : RD sg gm lg x d T) (hn : iv 0 80 (sg 24)) (hd : 1 ≤ d.toInt) : (gm 29 x.toNatClampNeg).toInt ≤ (sg 24).toInt := by
  obtain ⟨k1, k2, k3, k4⟩ := RD_e h hn hd
  have k5 := iv_cl hn (by decide)
  have k6 := h.1.1.2 x.toNatClampNeg k4
  have k7 := cntA_le (gm 28) x.toNatClampNeg (sg 24).toNatClampNeg
  omega
/-- the tree when all is read -/
def TRE (sg : Nat → Int32) (gm : Nat → Nat → Int32) : Prop := TA (gm 28) (sg 24).toNatClampNeg ∧ TB (gm 28) (gm 29) (sg 24).toNatClampNeg
theorem TRE_keep {sg sg2 : Nat → Int32} {gm gm2 : Nat → Nat → Int32} (h : TRE sg gm) (h24 : sg2 24 = sg 24) (h28 : gm2 28 = gm 28) (h29 : gm2 29 = gm 29) : TRE sg2 gm2 := by
  unfold TRE at *
  rw [h24, h28, h29]
  exact h
end
section
theorem iv_255 (x : Int32) : iv 0 255 (x &&& 255) := by
  have k : (x &&& 255).toInt = ((x &&& 255).toBitVec.toNat : Int) := by
    show (x &&& 255).toBitVec.toInt = _
    rw [BitVec.toInt_eq_toNat_of_msb]
    show (x.toBitVec &&& 255#32).msb = false
    rw [BitVec.msb_and]
    exact Bool.and_false _
  have k2 : (x &&& 255).toBitVec.toNat ≤ 255 := by
    show (x.toBitVec &&& 255#32).toNat ≤ 255
    rw [BitVec.toNat_and]
    exact Nat.and_le_right
  exact ⟨by omega, by omega⟩
theorem i32_div {x k : Int32} (h : 0 ≤ x.toInt) (hk : 0 < k.toInt) : (x / k).toInt = x.toInt / k.toInt := by
  have h1 := Int.ediv_nonneg h (Int.le_of_lt hk)
  have h2 := Int.ediv_le_self k.toInt h
  have h3 := Int32.toInt_lt x
  rw [Int32.toInt_div, Int.tdiv_eq_ediv_of_nonneg h, i32_bm ⟨by omega, by omega⟩]
theorem iv_div {a b lo hi : Int} {x k : Int32} (h : iv a b x) (q : 0 ≤ a ∧ 0 < k.toInt) (q2 : lo ≤ a / k.toInt ∧ b / k.toInt ≤ hi) : iv lo hi (x / k) := by
  have h1 := i32_div (x := x) (k := k) (Int.le_trans q.1 h.1) q.2
  have h2 := Int.ediv_le_ediv q.2 h.1
  have h3 := Int.ediv_le_ediv q.2 h.2
  exact ⟨by omega, by omega⟩
theorem iv_rem {a b lo hi : Int} {x k : Int32} (h : iv a b x) (q : 0 ≤ a ∧ 0 < k.toInt) (q2 : lo ≤ 0 ∧ k.toInt - 1 ≤ hi) : iv lo hi (x - x / k * k) := by
  have h0 := Int.le_trans q.1 h.1
  have h1 := i32_div (x := x) (k := k) h0 q.2
  have h2 := Int.ediv_mul_le x.toInt (b := k.toInt) (by omega)
  have h3 := Int.lt_ediv_add_one_mul_self x.toInt q.2
  have h4 : 0 ≤ x.toInt / k.toInt * k.toInt := Int.mul_nonneg (Int.ediv_nonneg h0 (Int.le_of_lt q.2)) (Int.le_of_lt q.2)
  have h5 := Int32.toInt_lt x
  rw [Int.add_mul, Int.one_mul] at h3
  have h6 : (x / k * k).toInt = x.toInt / k.toInt * k.toInt := by
    rw [Int32.toInt_mul, h1, i32_bm ⟨by omega, by omega⟩]
  have h7 : (x - x / k * k).toInt = x.toInt - x.toInt / k.toInt * k.toInt := by
    rw [Int32.toInt_sub, h6, i32_bm ⟨by omega, by omega⟩]
  exact ⟨by omega, by omega⟩
/-- the word of the five that holds letter k -/
def tyW (p1 p2 p3 p4 p5 : Int32) (k : Int) : Int32 := if k < 4 then p1 else if k < 8 then p2 else if k < 12 then p3 else if k < 16 then p4 else p5
def tyS (p1 p2 p3 p4 p5 i : Int32) : Int32 := (tyW p1 p2 p3 p4 p5 i.toInt >>> ((24 - 8 * (i - i / 4 * 4)) &&& 31)) &&& 255
def tyN (p1 p2 p3 p4 p5 : Int32) : Nat → Nat
  | 0 => 0
  | k + 1 => tyN p1 p2 p3 p4 p5 k + (if tyS p1 p2 p3 p4 p5 (nI k) = 0 then 0 else 1)
def TYA (p1 p2 p3 p4 p5 : Int32) (n : Nat) : Prop := ∀ j, j < n → (tyS p1 p2 p3 p4 p5 (nI j)).toInt ≤ 126
theorem tyN_le (p1 p2 p3 p4 p5 : Int32) : ∀ k, tyN p1 p2 p3 p4 p5 k ≤ k := by
  intro k
  induction k with
  | zero => exact Nat.le_refl 0
  | succ k ih =>
    show tyN p1 p2 p3 p4 p5 k + _ ≤ k + 1
    split <;> omega
theorem tyN_mono (p1 p2 p3 p4 p5 : Int32) (j : Nat) : ∀ k, j ≤ k → tyN p1 p2 p3 p4 p5 j ≤ tyN p1 p2 p3 p4 p5 k := by
  intro k
  induction k with
  | zero => intro h; have h0 : j = 0 := by omega
            subst h0; exact Nat.le_refl _
  | succ k ih =>
    intro h
    by_cases hj : j = k + 1
    · subst hj; exact Nat.le_refl _
    · have := ih (by omega)
      show _ ≤ tyN p1 p2 p3 p4 p5 k + _
      omega
theorem ty_z {p1 p2 p3 p4 p5 i z n t x : Int32} (hi : iv 0 19 i) (hz : z.toInt = n.toInt + t.toInt) (hn : n.toInt = (tyN p1 p2 p3 p4 p5 i.toNatClampNeg : Int)) (hs : x = tyS p1 p2 p3 p4 p5 i) (ht : (x = 0 ∧ t = 0) ∨ (¬ x = 0 ∧ t = 1)) : z.toInt = (tyN p1 p2 p3 p4 p5 (i.toNatClampNeg + 1) : Int) ∧ iv 0 20 z := by
  have k1 := iv_cl hi (by decide)
  have k2 := hi.2
  have k3 := tyN_le p1 p2 p3 p4 p5 (i.toNatClampNeg + 1)
  have k4 : z.toInt = (tyN p1 p2 p3 p4 p5 (i.toNatClampNeg + 1) : Int) := by
    show _ = ((tyN p1 p2 p3 p4 p5 i.toNatClampNeg + _ : Nat) : Int)
    rw [iv_nI hi (by decide), ← hs]
    rcases ht with ⟨h1, h2⟩ | ⟨h1, h2⟩
    · rw [if_pos h1, hz, hn, h2]; rfl
    · rw [if_neg h1, hz, hn, h2]; rfl
  exact ⟨k4, by omega, by omega⟩
theorem ty_a {p1 p2 p3 p4 p5 i x : Int32} (hi : iv 0 19 i) (h : TYA p1 p2 p3 p4 p5 i.toNatClampNeg) (hs : x = tyS p1 p2 p3 p4 p5 i) (hx : x.toInt ≤ 126) : TYA p1 p2 p3 p4 p5 (i.toNatClampNeg + 1) := by
  intro j hj
  by_cases e9 : j = i.toNatClampNeg
  · subst e9; rw [iv_nI hi (by decide), ← hs]; exact hx
  · exact h j (by omega)
theorem ty_in {p1 p2 p3 p4 p5 i x : Int32} (hi : iv 0 19 i) (h : TYA p1 p2 p3 p4 p5 20) (hs : x = tyS p1 p2 p3 p4 p5 i) : x.toInt ≤ 126 := by
  have k1 := iv_cl hi (by decide)
  have k2 := hi.2
  have k3 := h i.toNatClampNeg (by omega)
  rw [iv_nI hi (by decide), ← hs] at k3
  exact k3
theorem ty_1 {p1 p2 p3 p4 p5 i x : Int32} (hi : iv 0 19 i) (hs : x = tyS p1 p2 p3 p4 p5 i) (hx : ¬ x = 0) : tyN p1 p2 p3 p4 p5 (i.toNatClampNeg + 1) = tyN p1 p2 p3 p4 p5 i.toNatClampNeg + 1 ∧ tyN p1 p2 p3 p4 p5 (i.toNatClampNeg + 1) ≤ tyN p1 p2 p3 p4 p5 20 := by
  have k1 := iv_cl hi (by decide)
  have k2 := hi.2
  refine ⟨?_, tyN_mono _ _ _ _ _ _ _ (by omega)⟩
  show _ + _ = _
  rw [iv_nI hi (by decide), ← hs, if_neg hx]
theorem ty_0 {p1 p2 p3 p4 p5 i x : Int32} (hi : iv 0 19 i) (hs : x = tyS p1 p2 p3 p4 p5 i) (hx : x = 0) : tyN p1 p2 p3 p4 p5 (i.toNatClampNeg + 1) = tyN p1 p2 p3 p4 p5 i.toNatClampNeg := by
  show _ + _ = _
  rw [iv_nI hi (by decide), ← hs, if_pos hx]
  rfl
theorem cl_s {i z : Int32} (hi : iv 0 19 i) (h : z.toInt = i.toInt + 1) : z.toNatClampNeg = i.toNatClampNeg + 1 := by
  have k1 := iv_cl hi (by decide)
  have k0 := hi.1
  have k2 := hi.2
  have hz : iv 0 20 z := ⟨by omega, by omega⟩
  have k3 := iv_cl hz (by decide)
  omega
end
section
theorem MMi_imp {l : Launch} {dC : Nat → ClassId} {dI : Nat → Nat → Nat} {y : MethodName} {ws : List Cond} {rm : Room} {h0 : Nat} {ad : Nat → Nat} {cid : Nat → ClassId} {as : List Value} {sg : Nat → Int32} {gm : Nat → Nat → Int32} {lg : Nat → Nat → Int64} {post post' : Int32 → MSt → Prop} (h : MMi l dC dI y ws rm h0 ad cid as sg gm lg post) (q : ∀ r v, post r v → post' r v) : MMi l dC dI y ws rm h0 ad cid as sg gm lg post' := by
  intro sz p e h1 h2 h3 s m args below hf hs hp hk
  obtain ⟨n, o, a1, a2, a3, ⟨⟨r, u, b1, b2, b3⟩, b4⟩, b5⟩ := h sz p e h1 h2 h3 s m args below hf hs hp hk
  exact ⟨n, o, a1, a2, a3, ⟨⟨r, u, b1, q r u b2, b3⟩, b4⟩, b5⟩
theorem mAtt_of {sg : Nat → Int32} {gm : Nat → Nat → Int32} (h : MI sg gm) {x : Int32} (hx : iv 0 79 x) : mAtt gm x.toNatClampNeg := by
  have k1 := iv_cl hx (by decide)
  have k2 := hx.2
  have a1 : iv 0 12 (gm 30 x.toNatClampNeg) := h.2 30 _ (show _ < 80 by omega)
  have a2 := iv_cl a1 (by decide)
  have a3 := a1.2
  refine ⟨(gm 30 x.toNatClampNeg).toNatClampNeg, by omega, (iv_nI a1 (by decide)).symm, fun j hj => ?_⟩
  have b1 : iv 0 1201 (gm 36 (12 * x.toNatClampNeg + j)) := h.2 36 _ (show _ < 960 by omega)
  have b2 : iv 0 24 (gm 37 (12 * x.toNatClampNeg + j)) := h.2 37 _ (show _ < 960 by omega)
  have b3 := iv_cl b1 (by decide)
  have b4 := iv_cl b2 (by decide)
  have b5 := b1.2
  have b6 := b2.2
  exact ⟨_, _, (iv_nI b1 (by decide)).symm, (iv_nI b2 (by decide)).symm, by omega, by omega⟩
theorem mFind_iv {sg : Nat → Int32} {gm : Nat → Nat → Int32} {lg : Nat → Nat → Int64} (h : MI sg gm) {x : Int32} (hx : iv 0 79 x) (nn : Int64) : iv (-1) 959 (mFind gm lg x.toNatClampNeg nn) := by
  obtain ⟨a, h1, h2, _⟩ := mAtt_of h hx
  rcases mFind_or (lg := lg) nn h1 h2 with h3 | ⟨j, h4, h5⟩
  · rw [h3]; exact iv_k (by decide)
  · have k1 := iv_cl hx (by decide)
    have k2 := hx.2
    rw [h5]
    refine ⟨?_, ?_⟩ <;> rw [nI_toInt (by omega)] <;> omega
theorem mHas_iv {gm : Nat → Nat → Int32} {lg : Nat → Nat → Int64} {x : Nat} (nn : Int64) : iv 0 1 (mHas gm lg x nn) := by
  unfold mHas; split <;> exact iv_k (by decide)
theorem allF_iv (ch : Nat → Int32) (q : Nat) : ∀ n i, iv 0 1 (allF ch q n i) := by
  intro n
  induction n with
  | zero => intro i; exact (iv_k (by decide) : iv 0 1 1)
  | succ n ih =>
    intro i
    have e1 : allF ch q (n + 1) i = if mSmall (ch (q + i)) = 0 then 0 else allF ch q n (i + 1) := rfl
    rw [e1]
    by_cases h : mSmall (ch (q + i)) = 0
    · rw [if_pos h]; exact (iv_k (by decide) : iv 0 1 0)
    · rw [if_neg h]; exact ih _
theorem mIsW_iv {gm : Nat → Nat → Int32} {lg : Nat → Nat → Int64} {x : Nat} (nn : Int64) : iv 0 1 (mIsW gm lg x nn) := by
  unfold mIsW; (repeat' split) <;> first | exact iv_k (by decide) | exact allF_iv _ _ _ _

theorem f_find (l : Launch) (dC : Nat → ClassId) (dI : Nat → Nat → Nat) (h0 : Nat) (ad : Nat → Nat) (cid : Nat → ClassId) (sg : Nat → Int32) (gm : Nat → Nat → Int32) (lg : Nat → Nat → Int64) (x : Int32) (nn : Int64) (hI : MI sg gm) (hvx : iv 0 79 x) : MMi l dC dI yX13_find wm_X13_find ({ frames := 0, cells := 0, slots := 0, locals := 0 }) h0 ad cid [.int x, .long nn] sg gm lg (fun r v => (iv (-1) 959 r) ∧ (r = mFind gm lg x.toNatClampNeg nn) ∧ v = (sg, gm, lg)) := by
  have h := k_find l dC dI h0 ad cid sg gm lg x.toNatClampNeg nn (by have k1 := iv_cl hvx (by decide); have k2 := hvx.2; omega) (mAtt_of hI hvx)
  rw [iv_nI hvx (by decide)] at h
  exact MMi_imp h (fun r v q => ⟨by rw [q.1]; exact mFind_iv hI hvx nn, q.1, q.2⟩)

theorem f_has (l : Launch) (dC : Nat → ClassId) (dI : Nat → Nat → Nat) (h0 : Nat) (ad : Nat → Nat) (cid : Nat → ClassId) (sg : Nat → Int32) (gm : Nat → Nat → Int32) (lg : Nat → Nat → Int64) (x : Int32) (nn : Int64) (hI : MI sg gm) (hvx : iv 0 79 x) : MMi l dC dI yX13_has wm_X13_has ({ frames := 1, cells := 0, slots := 0, locals := 24 }) h0 ad cid [.int x, .long nn] sg gm lg (fun r v => (iv 0 1 r) ∧ (r = mHas gm lg x.toNatClampNeg nn) ∧ v = (sg, gm, lg)) := by
  have h := k_has l dC dI h0 ad cid sg gm lg x.toNatClampNeg nn (by have k1 := iv_cl hvx (by decide); have k2 := hvx.2; omega) (mAtt_of hI hvx)
  rw [iv_nI hvx (by decide)] at h
  exact MMi_imp h (fun r v q => ⟨by rw [q.1]; exact mHas_iv nn, q.1, q.2⟩)

theorem f_word (l : Launch) (dC : Nat → ClassId) (dI : Nat → Nat → Nat) (h0 : Nat) (ad : Nat → Nat) (cid : Nat → ClassId) (sg : Nat → Int32) (gm : Nat → Nat → Int32) (lg : Nat → Nat → Int64) (x : Int32) (nn : Int64) (hI : MI sg gm) (hvx : iv 0 79 x) : MMl l dC dI yX13_word wm_X13_word ({ frames := 1, cells := 0, slots := 0, locals := 24 }) h0 ad cid [.int x, .long nn] sg gm lg (fun r v => (r = mWord gm lg x.toNatClampNeg nn) ∧ v = (sg, gm, lg)) := by
  have h := k_word l dC dI h0 ad cid sg gm lg x.toNatClampNeg nn (by have k1 := iv_cl hvx (by decide); have k2 := hvx.2; omega) (mAtt_of hI hvx)
  rw [iv_nI hvx (by decide)] at h
  exact h

theorem f_isWord (l : Launch) (dC : Nat → ClassId) (dI : Nat → Nat → Nat) (h0 : Nat) (ad : Nat → Nat) (cid : Nat → ClassId) (sg : Nat → Int32) (gm : Nat → Nat → Int32) (lg : Nat → Nat → Int64) (x : Int32) (nn : Int64) (hI : MI sg gm) (hvx : iv 0 79 x) : MMi l dC dI yX13_isWord wm_X13_isWord ({ frames := 1, cells := 0, slots := 0, locals := 24 }) h0 ad cid [.int x, .long nn] sg gm lg (fun r v => (iv 0 1 r) ∧ (r = mIsW gm lg x.toNatClampNeg nn) ∧ v = (sg, gm, lg)) := by
  have h := k_isWord l dC dI h0 ad cid sg gm lg x.toNatClampNeg nn (by have k1 := iv_cl hvx (by decide); have k2 := hvx.2; omega) (mAtt_of hI hvx)
  rw [iv_nI hvx (by decide)] at h
  exact MMi_imp h (fun r v q => ⟨by rw [q.1]; exact mIsW_iv nn, q.1, q.2⟩)

def OL (gm : Nat → Nat → Int32) (lg : Nat → Nat → Int64) (e : Nat) (nn : Int64) : Prop := 97 ≤ (mWord gm lg e nn).toInt ∧ (mWord gm lg e nn).toInt ≤ 122
/-- e holds one thing: its value, its ref, or what stands within it -/
def HOLD (gm : Nat → Nat → Int32) (lg : Nat → Nat → Int64) (e : Nat) : Prop := ((¬ mHas gm lg e 508440638821 = 0 ∨ ¬ mHas gm lg e 7497062 = 0) ∧ (gm 29 e).toInt = 0) ∨ (mHas gm lg e 508440638821 = 0 ∧ mHas gm lg e 7497062 = 0 ∧ (gm 29 e).toInt = 1)
def ahN (gm : Nat → Nat → Int32) (e : Nat) : Nat → Nat
  | 0 => 0
  | k + 1 => ahN gm e k + (if gm 28 k = gm 28 e ∧ gm 26 k = gm 26 e then 1 else 0)
/-- what is known of an element where nothing is wrong -/
def GOOD (gm : Nat → Nat → Int32) (lg : Nat → Nat → Int64) (e : Nat) : Prop := ((gm 26 e).toInt = 4 ∨ (gm 26 e).toInt = 5 → HOLD gm lg e) ∧ ((gm 26 e).toInt = 4 → ahN gm e e < 4 ∧ (mHas gm lg e 24948 = 0 ∨ (48 ≤ (mWord gm lg e 24948).toInt ∧ (mWord gm lg e 24948).toInt ≤ 50))) ∧ ((gm 26 e).toInt = 5 ∨ (gm 26 e).toInt = 10 → OL gm lg e 1851878757) ∧ ((gm 26 e).toInt = 6 → (gm 29 e).toInt ≤ 6)
theorem GOOD_o {gm : Nat → Nat → Int32} {lg : Nat → Nat → Int64} {e : Nat} (h : (gm 26 e).toInt ≠ 4 ∧ (gm 26 e).toInt ≠ 5 ∧ (gm 26 e).toInt ≠ 6 ∧ (gm 26 e).toInt ≠ 10) : GOOD gm lg e := ⟨fun q => absurd q (by omega), fun q => absurd q (by omega), fun q => absurd q (by omega), fun q => absurd q (by omega)⟩
theorem GOOD_4 {gm : Nat → Nat → Int32} {lg : Nat → Nat → Int64} {e : Nat} (h : (gm 26 e).toInt = 4) (h1 : HOLD gm lg e) (h2 : ahN gm e e < 4) (h3 : mHas gm lg e 24948 = 0 ∨ (48 ≤ (mWord gm lg e 24948).toInt ∧ (mWord gm lg e 24948).toInt ≤ 50)) : GOOD gm lg e := ⟨fun _ => h1, fun _ => ⟨h2, h3⟩, fun q => absurd q (by omega), fun q => absurd q (by omega)⟩
theorem GOOD_5 {gm : Nat → Nat → Int32} {lg : Nat → Nat → Int64} {e : Nat} (h : (gm 26 e).toInt = 5) (h1 : HOLD gm lg e) (h2 : OL gm lg e 1851878757) : GOOD gm lg e := ⟨fun _ => h1, fun q => absurd q (by omega), fun _ => h2, fun q => absurd q (by omega)⟩
theorem GOOD_6 {gm : Nat → Nat → Int32} {lg : Nat → Nat → Int64} {e : Nat} (h : (gm 26 e).toInt = 6) (h1 : (gm 29 e).toInt ≤ 6) : GOOD gm lg e := ⟨fun q => absurd q (by omega), fun q => absurd q (by omega), fun q => absurd q (by omega), fun _ => h1⟩
theorem GOOD_10 {gm : Nat → Nat → Int32} {lg : Nat → Nat → Int64} {e : Nat} (h : (gm 26 e).toInt = 10) (h2 : OL gm lg e 1851878757) : GOOD gm lg e := ⟨fun q => absurd q (by omega), fun q => absurd q (by omega), fun _ => h2, fun q => absurd q (by omega)⟩
end
section
def fstB (q : Nat → Bool) : Nat → Nat → Int32
  | 0, _ => -1
  | n + 1, j => if q j = true then nI j else fstB q n (j + 1)
/-- from a on below b nothing is hit -/
def NHB (q : Nat → Bool) (a b : Nat) : Prop := ∀ k, a ≤ k → k < b → q k = false
theorem NHB_0 {q : Nat → Bool} {a : Nat} : NHB q a a := fun k h1 h2 => by omega
theorem NHB_s {q : Nat → Bool} {a b : Nat} (h : NHB q a b) (hb : q b = false) : NHB q a (b + 1) := fun k h1 h2 => by
  by_cases hk : k = b
  · subst hk; exact hb
  · exact h k h1 (by omega)
theorem fst_no {q : Nat → Bool} : ∀ (n j : Nat), NHB q j (j + n) → fstB q n j = -1 := by
  intro n
  induction n with
  | zero => intro j _; rfl
  | succ n ih =>
    intro j h
    show (if _ then _ else _) = _
    rw [if_neg (by rw [h j (by omega) (by omega)]; decide)]
    exact ih (j + 1) (fun k h1 h2 => h k (by omega) (by omega))
theorem fst_hit {q : Nat → Bool} : ∀ (i n j : Nat), i < n → NHB q j (j + i) → q (j + i) = true → fstB q n j = nI (j + i) := by
  intro i
  induction i with
  | zero =>
    intro n j h1 _ h3
    obtain ⟨c, rfl⟩ : ∃ c, n = c + 1 := ⟨n - 1, by omega⟩
    show (if _ then _ else _) = _
    rw [if_pos (by exact h3)]
    rfl
  | succ i ih =>
    intro n j h1 h2 h3
    obtain ⟨c, rfl⟩ : ∃ c, n = c + 1 := ⟨n - 1, by omega⟩
    show (if _ then _ else _) = _
    rw [if_neg (by rw [h2 j (by omega) (by omega)]; decide)]
    have e1 : j + (i + 1) = j + 1 + i := by omega
    rw [e1] at h2 h3 ⊢
    exact ih c (j + 1) (by omega) (fun k k1 k2 => h2 k (by omega) (by omega)) h3
theorem fst_or (q : Nat → Bool) (n j : Nat) : (fstB q n j = -1 ∧ NHB q j (j + n)) ∨ ∃ i, i < n ∧ fstB q n j = nI (j + i) ∧ q (j + i) = true ∧ NHB q j (j + i) := by
  by_cases h : ∃ i, i < n ∧ q (j + i) = true ∧ NHB q j (j + i)
  · obtain ⟨i, h1, h2, h3⟩ := h
    exact Or.inr ⟨i, h1, fst_hit i n j h1 h3 h2, h2, h3⟩
  · have h2 : ∀ i, i ≤ n → NHB q j (j + i) := by
      intro i
      induction i with
      | zero => intro _; exact NHB_0
      | succ i ih =>
        intro hi
        have h4 := ih (by omega)
        refine NHB_s (b := j + i) h4 ?_
        cases hq : q (j + i) with
        | false => rfl
        | true => exact absurd ⟨i, by omega, hq, h4⟩ h
    exact Or.inl ⟨fst_no n j (h2 n (Nat.le_refl n)), h2 n (Nat.le_refl n)⟩
def qWid (gm : Nat → Nat → Int32) (lg : Nat → Nat → Int64) (w : Int64) (j : Nat) : Bool := decide (gm 28 (gm 42 j).toNatClampNeg = 0) && decide (mWord gm lg (gm 42 j).toNatClampNeg 26980 = w)
theorem qW_t {gm : Nat → Nat → Int32} {lg : Nat → Nat → Int64} {w : Int64} {j : Nat} (h1 : gm 28 (gm 42 j).toNatClampNeg = 0) (h2 : mWord gm lg (gm 42 j).toNatClampNeg 26980 = w) : qWid gm lg w j = true := by
  unfold qWid; rw [decide_eq_true h1, decide_eq_true h2]; rfl
theorem qW_1 {gm : Nat → Nat → Int32} {lg : Nat → Nat → Int64} {w : Int64} {j : Nat} (h1 : ¬ gm 28 (gm 42 j).toNatClampNeg = 0) : qWid gm lg w j = false := by
  unfold qWid; rw [decide_eq_false h1]; rfl
theorem qW_2 {gm : Nat → Nat → Int32} {lg : Nat → Nat → Int64} {w : Int64} {j : Nat} (h1 : ¬ mWord gm lg (gm 42 j).toNatClampNeg 26980 = w) : qWid gm lg w j = false := by
  unfold qWid; rw [decide_eq_false h1, Bool.and_false]
def mWid (sg : Nat → Int32) (gm : Nat → Nat → Int32) (lg : Nat → Nat → Int64) (w : Int64) : Int32 := fstB (qWid gm lg w) (sg 41).toNatClampNeg 0
theorem wid_no {sg : Nat → Int32} {gm : Nat → Nat → Int32} {lg : Nat → Nat → Int64} {w : Int64} {x : Int32} (hn : iv 0 80 (sg 41)) (hx : iv 0 80 x) (hl : (sg 41).toInt ≤ x.toInt) (h : NHB (qWid gm lg w) 0 x.toNatClampNeg) : (-1 : Int32) = mWid sg gm lg w := by
  have k1 := iv_cl hn (by decide)
  have k2 := iv_cl hx (by decide)
  exact (fst_no _ 0 (fun k q1 q2 => h k q1 (by omega))).symm
theorem wid_hit {sg : Nat → Int32} {gm : Nat → Nat → Int32} {lg : Nat → Nat → Int64} {w : Int64} {x : Int32} (hn : iv 0 80 (sg 41)) (hx : iv 0 79 x) (hl : x.toInt < (sg 41).toInt) (h : NHB (qWid gm lg w) 0 x.toNatClampNeg) (hq : qWid gm lg w x.toNatClampNeg = true) : x = mWid sg gm lg w := by
  have k1 := iv_cl hn (by decide)
  have k2 := iv_cl hx (by decide)
  have k3 := fst_hit (q := qWid gm lg w) x.toNatClampNeg (sg 41).toNatClampNeg 0 (by omega) (by rw [Nat.zero_add]; exact h) (by rw [Nat.zero_add]; exact hq)
  rw [Nat.zero_add, iv_nI hx (by decide)] at k3
  exact k3.symm
def mPar (sg : Nat → Int32) (gm : Nat → Nat → Int32) (lg : Nat → Nat → Int64) (b : Int32) : Int32 := if mHas gm lg (gm 42 b.toNatClampNeg).toNatClampNeg 123563833388660 = 0 then -1 else mWid sg gm lg (mWord gm lg (gm 42 b.toNatClampNeg).toNatClampNeg 123563833388660)
theorem mWid_iv {sg : Nat → Int32} {gm : Nat → Nat → Int32} {lg : Nat → Nat → Int64} (w : Int64) (hn : iv 0 80 (sg 41)) : iv (-1) 79 (mWid sg gm lg w) ∧ ((mWid sg gm lg w).toInt < (sg 41).toInt ∨ mWid sg gm lg w = -1) := by
  have k1 := iv_cl hn (by decide)
  have k2 := hn.2
  rcases fst_or (qWid gm lg w) (sg 41).toNatClampNeg 0 with h | ⟨i, h1, h2, _⟩
  · have h3 : mWid sg gm lg w = -1 := h.1
    rw [h3]; exact ⟨iv_k (by decide), Or.inr rfl⟩
  · rw [Nat.zero_add] at h2
    have h3 : mWid sg gm lg w = nI i := h2
    rw [h3]
    have h4 : (nI i).toInt = i := nI_toInt (by omega)
    exact ⟨⟨by omega, by omega⟩, Or.inl (by omega)⟩
theorem mPar_iv {sg : Nat → Int32} {gm : Nat → Nat → Int32} {lg : Nat → Nat → Int64} (b : Int32) (hn : iv 0 80 (sg 41)) : iv (-1) 79 (mPar sg gm lg b) ∧ ((mPar sg gm lg b).toInt < (sg 41).toInt ∨ mPar sg gm lg b = -1) := by
  unfold mPar
  split
  · exact ⟨iv_k (by decide), Or.inr rfl⟩
  · exact mWid_iv _ hn
/-- n steps along f, until none -/
def itF (f : Int32 → Int32) : Nat → Int32 → Int32
  | 0, b => b
  | n + 1, b => if b = -1 then -1 else itF f n (f b)
theorem itF_m1 (f : Int32 → Int32) : ∀ n, itF f n (-1) = -1 := by
  intro n
  cases n with
  | zero => rfl
  | succ n => show (if _ then _ else _) = _; rw [if_pos rfl]
theorem itF_add (f : Int32 → Int32) (m : Nat) : ∀ (n : Nat) (b : Int32), itF f (n + m) b = itF f m (itF f n b) := by
  intro n
  induction n with
  | zero => intro b; rw [Nat.zero_add]; rfl
  | succ n ih =>
    intro b
    rw [Nat.succ_add]
    show (if _ then _ else _) = itF f m (if _ then _ else _)
    by_cases h : b = -1
    · rw [if_pos h, if_pos h, itF_m1]
    · rw [if_neg h, if_neg h]; exact ih (f b)
theorem itF_1 {f : Int32 → Int32} {b : Int32} (h : ¬ b = -1) : itF f 1 b = f b := by
  show (if _ then _ else _) = _
  rw [if_neg h]
  rfl
def NR (f : Int32 → Int32) (b : Int32) : Prop := ∀ k, 1 ≤ k → k ≤ 80 → ¬ itF f k b = b
theorem NR_80 {f : Int32 → Int32} {b x : Int32} (hx : iv 80 80 x) (h : ∀ k, 1 ≤ k → k ≤ x.toNatClampNeg → ¬ itF f k b = b) : NR f b := fun k h1 h2 => h k h1 (by
  have := iv_cl hx (by decide)
  have := hx.1
  omega)
theorem NR_no {f : Int32 → Int32} {b : Int32} {n : Nat} (hb : 0 ≤ b.toInt) (hp : itF f (n + 1) b = -1) (h : ∀ k, 1 ≤ k → k ≤ n → ¬ itF f k b = b) : NR f b := fun k h1 h2 hk => by
  by_cases h3 : k ≤ n
  · exact h k h1 h3 hk
  · have h4 : k = (n + 1) + (k - (n + 1)) := by omega
    rw [h4, itF_add, hp, itF_m1] at hk
    rw [← hk] at hb
    exact absurd hb (by decide)
theorem NR_s {f : Int32 → Int32} {b p9 : Int32} {n : Nat} (hp : p9 = itF f (n + 1) b) (hb : ¬ p9 = b) (h : ∀ k, 1 ≤ k → k ≤ n → ¬ itF f k b = b) : ∀ k, 1 ≤ k → k ≤ n + 1 → ¬ itF f k b = b := fun k h1 h2 hk => by
  by_cases h3 : k ≤ n
  · exact h k h1 h3 hk
  · have h4 : k = n + 1 := by omega
    rw [h4, ← hp] at hk
    exact hb hk
theorem itF_s {f : Int32 → Int32} {b p9 r : Int32} {n : Nat} (hp : p9 = itF f (n + 1) b) (hb : ¬ p9 = -1) (hr : r = f p9) : r = itF f (n + 1 + 1) b := by
  rw [itF_add, ← hp, itF_1 hb, hr]
def BB1 (sg : Nat → Int32) (gm : Nat → Nat → Int32) (lg : Nat → Nat → Int64) (k : Nat) : Prop := (gm 26 k).toInt = 3 → mHas gm lg k 123563833388660 = 0 ∨ NR (mPar sg gm lg) (gm 43 k)
def BBE (sg : Nat → Int32) (gm : Nat → Nat → Int32) (lg : Nat → Nat → Int64) : Prop := ∀ k, 1 ≤ k → k < (sg 24).toNatClampNeg → BB1 sg gm lg k
/-- the beans and their elements -/
def BEL (sg : Nat → Int32) (gm : Nat → Nat → Int32) : Prop := (∀ x : Nat, x < (sg 24).toNatClampNeg → (gm 26 x).toInt = 3 → (gm 43 x).toInt < (sg 41).toInt) ∧ ∀ b, b < (sg 41).toNatClampNeg → 1 ≤ (gm 42 b).toNatClampNeg ∧ (gm 42 b).toNatClampNeg < (sg 24).toNatClampNeg ∧ (gm 26 (gm 42 b).toNatClampNeg).toInt = 3 ∧ gm 43 (gm 42 b).toNatClampNeg = nI b
def ACY (sg : Nat → Int32) (gm : Nat → Nat → Int32) (lg : Nat → Nat → Int64) : Prop := ∀ b : Int32, 0 ≤ b.toInt → b.toInt < (sg 41).toInt → itF (mPar sg gm lg) 80 b = -1
theorem pigeon : ∀ (n : Nat) (f : Nat → Nat), (∀ i, i ≤ n → f i < n) → ∃ i j, i < j ∧ j ≤ n ∧ f i = f j := by
  intro n
  induction n with
  | zero => intro f h; exact absurd (h 0 (Nat.le_refl 0)) (Nat.not_lt_zero _)
  | succ n ih =>
    intro f h
    by_cases h0 : ∃ i, i ≤ n ∧ f i = f (n + 1)
    · obtain ⟨i, h1, h2⟩ := h0
      exact ⟨i, n + 1, by omega, Nat.le_refl _, h2⟩
    · obtain ⟨i, j, h1, h2, h3⟩ := ih (fun i => if f i < f (n + 1) then f i else f i - 1) (fun i hi => by
        have a1 := h i (by omega)
        have a2 := h (n + 1) (Nat.le_refl _)
        have a3 : f i ≠ f (n + 1) := fun q => h0 ⟨i, hi, q⟩
        show (if f i < f (n + 1) then f i else f i - 1) < n
        split <;> omega)
      refine ⟨i, j, h1, by omega, ?_⟩
      have a3 : f i ≠ f (n + 1) := fun q => h0 ⟨i, by omega, q⟩
      have a4 : f j ≠ f (n + 1) := fun q => h0 ⟨j, by omega, q⟩
      have h3 : (if f i < f (n + 1) then f i else f i - 1) = (if f j < f (n + 1) then f j else f j - 1) := h3
      split at h3 <;> split at h3 <;> omega
theorem ACY_of {sg : Nat → Int32} {gm : Nat → Nat → Int32} {lg : Nat → Nat → Int64} (hn : iv 0 80 (sg 41)) (hb : BBE sg gm lg) (he : BEL sg gm) : ACY sg gm lg := by
  intro b h0 h1
  have k1 := iv_cl hn (by decide)
  have k2 := hn.2
  have hr : ∀ k, itF (mPar sg gm lg) k b = -1 ∨ (0 ≤ (itF (mPar sg gm lg) k b).toInt ∧ (itF (mPar sg gm lg) k b).toInt < (sg 41).toInt) := by
    intro k
    induction k with
    | zero => exact Or.inr ⟨h0, h1⟩
    | succ k ih =>
      rw [itF_add]
      rcases ih with h | ⟨h2, h3⟩
      · rw [h]; exact Or.inl (itF_m1 _ _)
      · have hm : ¬ itF (mPar sg gm lg) k b = -1 := fun q => by rw [q] at h2; exact absurd h2 (by decide)
        rw [itF_1 hm]
        obtain ⟨q1, q2⟩ := mPar_iv (sg := sg) (gm := gm) (lg := lg) (itF (mPar sg gm lg) k b) hn
        rcases q2 with q2 | q2
        · by_cases q3 : mPar sg gm lg (itF (mPar sg gm lg) k b) = -1
          · exact Or.inl q3
          · refine Or.inr ⟨?_, q2⟩
            have q4 := q1.1
            have q5 : (mPar sg gm lg (itF (mPar sg gm lg) k b)).toInt ≠ -1 := fun q => q3 (Int32.toInt_inj.mp q)
            omega
        · exact Or.inl q2
  by_cases hz : itF (mPar sg gm lg) 80 b = -1
  · exact hz
  exfalso
  have hne : ∀ k, k ≤ 80 → ¬ itF (mPar sg gm lg) k b = -1 := fun k hk q => hz (by
    have e1 : 80 = k + (80 - k) := by omega
    rw [e1, itF_add, q, itF_m1])
  obtain ⟨i, j, p1, p2, p3⟩ := pigeon 80 (fun k => (itF (mPar sg gm lg) k b).toInt.toNat) (fun k hk => by
    rcases hr k with h | ⟨h2, h3⟩
    · exact absurd h (hne k hk)
    · show Int.toNat _ < 80
      omega)
  have p3 : (itF (mPar sg gm lg) i b).toInt.toNat = (itF (mPar sg gm lg) j b).toInt.toNat := p3
  have hi := (hr i).resolve_left (hne i (by omega))
  have hj := (hr j).resolve_left (hne j p2)
  have e2 : itF (mPar sg gm lg) i b = itF (mPar sg gm lg) j b := Int32.toInt_inj.mp (by omega)
  generalize hx : itF (mPar sg gm lg) i b = x at *
  have e3 : itF (mPar sg gm lg) (j - i) x = x := by
    have e4 : j = i + (j - i) := by omega
    rw [e4, itF_add, hx] at e2
    exact e2.symm
  have hxi : iv 0 79 x := ⟨hi.1, by omega⟩
  have kx := iv_cl hxi (by decide)
  obtain ⟨b1, b2, b3, b4⟩ := he.2 x.toNatClampNeg (by omega)
  rcases hb _ b1 b2 b3 with c1 | c1
  · have c2 : mPar sg gm lg x = -1 := by unfold mPar; rw [if_pos c1]
    have c3 := hne (i + 1) (by omega)
    rw [itF_add, hx, itF_1 (fun q => by have := hi.1; rw [q] at this; exact absurd this (by decide)), c2] at c3
    exact c3 rfl
  · rw [b4, iv_nI hxi (by decide)] at c1
    exact c1 (j - i) (by omega) (by omega) e3
def STR (sg : Nat → Int32) (gm : Nat → Nat → Int32) (lg : Nat → Nat → Int64) : Prop := (∀ k, k < (sg 24).toNatClampNeg → GOOD gm lg k) ∧ ((sg 24).toInt = 0 ∨ (gm 26 0).toInt = 1)
theorem BS_hg {gm gm2 : Nat → Nat → Int32} {x y : Int32} (h : TA (gm 28) y.toNatClampNeg) (e28 : gm2 28 = gm 28) (h95 : (gm2 26 0).toInt = 1) (hx : iv 0 79 x) (hy : iv 0 80 y) (hn : x.toInt < y.toInt) : 0 ≤ (gm2 28 x.toNatClampNeg).toInt ∨ (gm2 26 x.toNatClampNeg).toInt = 1 := by
  have k1 := iv_cl hx (by decide)
  have k2 := iv_cl hy (by decide)
  rcases (h x.toNatClampNeg (by omega)).2 with q | q
  · rw [q]; exact Or.inr h95
  · rw [e28]; exact Or.inl q
theorem lt_cl {x y : Int32} {a b c d : Int} (hx : iv a b x) (hy : iv c d y) (ha : 0 ≤ a) (hc : 0 ≤ c) (h : x.toInt < y.toInt) : x.toNatClampNeg < y.toNatClampNeg := by
  have k1 := iv_cl hx ha
  have k2 := iv_cl hy hc
  omega
theorem le_cl {x y : Int32} {a b c d : Int} (hx : iv a b x) (hy : iv c d y) (ha : 0 ≤ a) (hc : 0 ≤ c) (h : x.toInt ≤ y.toInt) : x.toNatClampNeg ≤ y.toNatClampNeg := by
  have k1 := iv_cl hx ha
  have k2 := iv_cl hy hc
  omega
theorem s_cl {x z : Int32} {a b : Int} (hx : iv a b x) (ha : 0 ≤ a) (h : z.toInt = x.toInt + 1) : z.toNatClampNeg = x.toNatClampNeg + 1 := by
  have k1 := iv_cl hx ha
  have k2 := hx.1
  have k3 := iv_cl (a := a) (b := b + 1) (x := z) ⟨by omega, by have := hx.2; omega⟩ ha
  omega
theorem all_s {x z : Int32} {a b : Int} {P : Nat → Prop} {k0 : Nat} (hx : iv a b x) (ha : 0 ≤ a) (h : z.toInt = x.toInt + 1) (q : ∀ k, k0 ≤ k → k < x.toNatClampNeg → P k) (hp : P x.toNatClampNeg) : ∀ k, k0 ≤ k → k < z.toNatClampNeg → P k := by
  rw [s_cl hx ha h]
  intro k h1 h2
  by_cases e9 : k = x.toNatClampNeg
  · subst e9; exact hp
  · exact q k h1 (by omega)
end
section
set_option maxHeartbeats 4000000 in
set_option maxRecDepth 100000 in
theorem f_withId (l : Launch) (dC : Nat → ClassId) (dI : Nat → Nat → Nat) (h0 : Nat) (ad : Nat → Nat) (cid : Nat → ClassId) (sg : Nat → Int32) (gm : Nat → Nat → Int32) (lg : Nat → Nat → Int64) (nn : Int64) (hI : MI sg gm) : MMi l dC dI yX13_withId wm_X13_withId ({ frames := 2, cells := 0, slots := 0, locals := 51 }) h0 ad cid [.long nn] sg gm lg (fun r v => (iv (-1) 79 r) ∧ (r = mWid sg gm lg nn) ∧ v = (sg, gm, lg)) := by
  intro sz
  refine Met.ofW (cc := cX13_withId) (maxL := 4) (ret := (some .int)) (by decide) rfl ?_
  intro p e s m args below meth c s₁ B hml hv
  obtain ⟨rfl, hsz, hP, hK, hD0⟩ := hv
  have hx := B.exec
  have hb := B.bytes
  have hr := B.returns
  have hts := atoms_spec (ws := wm_X13_withId) B.pre
  have htb := fun (w : Cond) (h : w ∈ tb) => hts w (List.mem_cons_of_mem _ h)
  have hown : s.vm.findClass RX13 = some m.cls := findClass_of_methodNamed B.named
  have hlocks := B.notSynchronized
  subst hsz
  have hD := hD0.self (sz := s.heap.size)
  generalize hAe : va_A (mW h0 ad cid sg gm lg) s.heap.size = A at hD ⊢
  have hA : ∀ q : Nat, s.heap.size ≤ q → A q := fun q h => by rw [← hAe]; exact Or.inr h
  have hS : va_S A s.heap s.heap [] := va_S.rf
  have hl := lv_entry ([.ref h0, .long nn]) (n := 4) (Nat.le_of_ble_eq_true rfl)
  rw [lg_entry_eq]
  generalize (lg_sl ([.ref h0, .long nn]) ++ List.replicate (4 - (lg_sl ([.ref h0, .long nn])).length) Slot.unset).toArray = ls at hl ⊢
  have hl : lv_has ls 4 [(0, .ref h0), (1, .long nn)] := hl
  have hj2 : ∀ (n : Nat) (x3_2 : Int32) (_ : (80 - x3_2.toInt).toNat = n) (_ : iv 0 80 x3_2) (_ : NHB (qWid gm lg nn) 0 x3_2.toNatClampNeg) (H : Heap) (locs : List Loc) (ls : Array Slot), va_P (dC, dI) vwCl (mW h0 ad cid sg gm lg) H → va_D A (mW h0 ad cid sg gm lg) → va_S A s.heap H locs → lv_has ls 4 [(3, .int x3_2), (0, .ref h0), (1, .long nn)] → W p l e (headSpec wm_X13_withId ({ frames := 2, cells := 0, slots := 0, locals := 51 })).room s m ([.ref h0, .long nn] : List Value).toArray below meth c H locs 0 0 (MQ below (va_Qi (fun r v => (iv (-1) 79 r) ∧ (r = mWid sg gm lg nn) ∧ v = (sg, gm, lg)) (MB dC dI h0 ad cid A) A) ([.ref h0, .long nn] : List Value).toArray s 0 0 A) (F0 m 2 ls []) := by
    intro n
    induction n using Nat.strongRecOn with
    | ind n ih2 =>
      intro x3_2 hn2 hx3_2 hnb H locs ls hP hD hS hl
      have hj44 : ∀ (_ : iv 0 79 x3_2) (_ : qWid gm lg nn x3_2.toNatClampNeg = false) (H : Heap) (locs : List Loc) (ls : Array Slot), va_P (dC, dI) vwCl (mW h0 ad cid sg gm lg) H → va_D A (mW h0 ad cid sg gm lg) → va_S A s.heap H locs → lv_has ls 4 [(3, .int x3_2), (0, .ref h0), (1, .long nn)] → W p l e (headSpec wm_X13_withId ({ frames := 2, cells := 0, slots := 0, locals := 51 })).room s m ([.ref h0, .long nn] : List Value).toArray below meth c H locs 0 0 (MQ below (va_Qi (fun r v => (iv (-1) 79 r) ∧ (r = mWid sg gm lg nn) ∧ v = (sg, gm, lg)) (MB dC dI h0 ad cid A) A) ([.ref h0, .long nn] : List Value).toArray s 0 0 A) (F0 m 44 ls []) := by
        intro  hsx3_44 hnq H locs ls hP hD hS hl
        obtain ⟨z_1, ez_1⟩ : ∃ z : Int32, z = x3_2 + 1 := ⟨_, rfl⟩
        have hz_1 : iv 1 80 z_1 := iv_of ez_1 (iv_add hsx3_44 (iv_k (by decide) : iv 1 1 1) (by decide))
        have tz_1 : z_1.toInt = x3_2.toInt + 1 := by rw [ez_1]; exact iv_addE hsx3_44 (iv_k (by decide) : iv 1 1 1) (by decide)
        refine lv_iinc (v := z_1) (lv' := [(3, .int z_1), (0, .ref h0), (1, .long nn)]) hx hb dX13_withId_44 hl (k := 0) rfl ez_1.symm (by decide) rfl (fun ls hl => ?_)
        refine lv_goto (tgt := 2) hx hb dX13_withId_47 (by decide) ?_
        exact ih2 _ (by rw [← hn2]; exact (iv_meas tz_1 hsx3_44 (by decide))) z_1 rfl (iv_w hz_1 (by decide)) (by rw [s_cl hsx3_44 (by decide) tz_1]; exact NHB_s hnb hnq) _ _ _ hP hD hS (lv_sub hl [0, 1, 2] rfl)
      refine lv_iload_n hx hb dX13_withId_2 rfl (lv_at hl 0 rfl) ?_
      refine lv_aload_n hx hb dX13_withId_3 rfl (lv_at hl 1 rfl) ?_
      refine mr_get (v := .int (sg 41)) hx hb htb inX13 hown hK hP 41 (by decide) (htb _ kw_1068) rfl dX13_withId_4 ?_
      refine lv_icmp_ge (tgt := 50) hx hb dX13_withId_7 (by decide) (fun c_2 => ?_) (fun c_2 => ?_)
      · have d_3 : ((sg 41) : Int32).toInt ≤ (x3_2 : Int32).toInt := Int32.le_iff_toInt_le.mp c_2
        refine lv_iconst (v := (-1)) hx hb dX13_withId_50 (by decide) ?_
        exact W.iret (v := (-1)) hx hb hr (fun t ht hW => ⟨⟨(-1), (sg, gm, lg), rfl, ⟨(iv_w (iv_k (by decide) : iv (-1) (-1) (-1)) (by decide)), (wid_no (show iv 0 80 (sg 41) from MI_s hI 41) hx3_2 (by have := i32_0; have := i32_1; have := i32_2; have := i32_m1; have := (show iv 0 80 (sg 41) from MI_s hI 41).1; have := (show iv 0 80 (sg 41) from MI_s hI 41).2; have := (hx3_2).1; have := (hx3_2).2; have := ((show iv 0 80 (sg 41) from MI_s hI 41)).1; have := ((show iv 0 80 (sg 41) from MI_s hI 41)).2; omega) hnb), rfl⟩, by rw [ht]; exact hP, va_K.moved hW.alike hK, hD⟩, hS.F ht⟩) hS.2.2 dX13_withId_51
      · have d_4 : (x3_2 : Int32).toInt < ((sg 41) : Int32).toInt := Int32.lt_iff_toInt_lt.mp (i32_lt c_2)
        have h_5 : iv 0 79 x3_2 := iv_ltL (i32_lt c_2) hx3_2 (show iv 0 80 (sg 41) from MI_s hI 41) (by decide)
        have h_6 : iv 1 80 (sg 41) := iv_ltR (i32_lt c_2) hx3_2 (show iv 0 80 (sg 41) from MI_s hI 41) (by decide)
        refine lv_aload_n hx hb dX13_withId_10 rfl (lv_at hl 1 rfl) ?_
        refine mr_get (v := .ref (ad 28)) hx hb htb inX13 hown hK hP 28 (by decide) (htb _ kw_1055) rfl dX13_withId_11 ?_
        refine lv_aload_n hx hb dX13_withId_14 rfl (lv_at hl 1 rfl) ?_
        refine mr_get (v := .ref (ad 42)) hx hb htb inX13 hown hK hP 42 (by decide) (htb _ kw_1069) rfl dX13_withId_15 ?_
        refine lv_iload_n hx hb dX13_withId_18 rfl (lv_at hl 0 rfl) ?_
        refine mr_iald hx hb hK hP 33 (k := 42) rfl rfl rfl (show vp_in x3_2 80 from (iv_in h_5 (by decide))) dX13_withId_19 ?_
        refine lv_topi (fun z_7 ez_7 => ?_)
        have hz_7 : iv 0 79 z_7 := iv_of ez_7 (MI_a hI 42 h_5 (by decide))
        refine mr_iald hx hb hK hP 21 (k := 28) rfl rfl rfl (show vp_in z_7 80 from (iv_in hz_7 (by decide))) dX13_withId_20 ?_
        refine lv_topi (fun z_8 ez_8 => ?_)
        have hz_8 : iv (-1) 79 z_8 := iv_of ez_8 (MI_a hI 28 hz_7 (by decide))
        refine lv_if_ne (tgt := 44) hx hb dX13_withId_21 (by decide) (fun c_9 => ?_) (fun c_9 => ?_)
        · have d_10 : ¬ (z_8 : Int32).toInt = 0 := lv_neT c_9 rfl
          exact hj44 h_5 (qW_1 (by rw [← ez_7, ← ez_8]; exact c_9)) _ _ _ hP hD hS (lv_sub hl [0, 1, 2] rfl)
        · have h_11 : iv 0 0 z_8 := iv_eq c_9 hz_8 (iv_k (by decide) : iv 0 0 0) (by decide)
          refine lv_aload_n hx hb dX13_withId_24 rfl (lv_at hl 1 rfl) ?_
          refine lv_aload_n hx hb dX13_withId_25 rfl (lv_at hl 1 rfl) ?_
          refine mr_get (v := .ref (ad 42)) hx hb htb inX13 hown hK hP 42 (by decide) (htb _ kw_1069) rfl dX13_withId_26 ?_
          refine lv_iload_n hx hb dX13_withId_29 rfl (lv_at hl 0 rfl) ?_
          refine mr_iald hx hb hK hP 33 (k := 42) rfl rfl rfl (show vp_in x3_2 80 from (iv_in h_5 (by decide))) dX13_withId_30 ?_
          refine lv_topi (fun z_12 ez_12 => ?_)
          obtain rfl : z_7 = z_12 := ez_7.trans ez_12.symm
          refine lv_ldc2 (own := RX13) (v := 26980) hx hb hown (htb _ kw_1180) dX13_withId_31 ?_
          refine mr_calll (rest := []) ⟨hx, hb, hml, hown, htb⟩ (f_word l dC dI h0 ad cid sg gm lg z_7 26980 hI hz_7) (cwV 2 htb (gd_V kw_1201 kw_1202 kw_96 kw_160 kw_1603) rfl rfl rfl (by decide +kernel) ⟨Nat.le_of_ble_eq_true rfl, Nat.le_of_ble_eq_true rfl⟩) rfl hl.1 rfl (Nat.le_of_ble_eq_true rfl) dX13_withId_34 ⟨Nat.zero_le _, Nat.zero_le _⟩ hK hP hD hS hA (fun r_13 u_14 H locs hw hP hD hS => ?_)
          obtain ⟨fW_r_13, rfl⟩ := hw
          have hP : va_P (dC, dI) vwCl (mW h0 ad cid sg gm lg) H := hP
          have hD : va_D A (mW h0 ad cid sg gm lg) := hD
          refine lv_lload_n hx hb dX13_withId_37 rfl (lv_at hl 2 rfl) ?_
          refine W.lcmp hx hb dX13_withId_38 ?_
          refine lv_topi (fun z_15 ez_15 => ?_)
          have hz_15 : iv (-1) 1 z_15 := iv_of ez_15 (iv_cmp _ _)
          refine lv_if_ne (tgt := 44) hx hb dX13_withId_39 (by decide) (fun c_16 => ?_) (fun c_16 => ?_)
          · have d_17 : ¬ (z_15 : Int32).toInt = 0 := lv_neT c_16 rfl
            exact hj44 h_5 (qW_2 (fun q9 => c_16 (by rw [ez_15, fW_r_13, ez_7]; exact (lg_cmp_eq _ _).mpr q9))) _ _ _ hP hD hS (lv_sub hl [0, 1, 2] rfl)
          · have h_18 : iv 0 0 z_15 := iv_eq c_16 hz_15 (iv_k (by decide) : iv 0 0 0) (by decide)
            refine lv_iload_n hx hb dX13_withId_42 rfl (lv_at hl 0 rfl) ?_
            exact W.iret (v := x3_2) hx hb hr (fun t ht hW => ⟨⟨x3_2, (sg, gm, lg), rfl, ⟨(iv_w h_5 (by decide)), (wid_hit (show iv 0 80 (sg 41) from MI_s hI 41) h_5 (by have := i32_0; have := i32_1; have := i32_2; have := i32_m1; have := (show iv 0 80 (sg 41) from MI_s hI 41).1; have := (show iv 0 80 (sg 41) from MI_s hI 41).2; have := (h_5).1; have := (h_5).2; have := (h_6).1; have := (h_6).2; have := (hz_7).1; have := (hz_7).2; have := (h_11).1; have := (h_11).2; have := (h_18).1; have := (h_18).2; omega) hnb (qW_t (by rw [← ez_7, ← ez_8]; exact c_9) (by rw [← ez_7, ← fW_r_13]; exact (lg_cmp_eq _ _).mp (by rw [← ez_15]; exact c_16)))), rfl⟩, by rw [ht]; exact hP, va_K.moved hW.alike hK, hD⟩, hS.F ht⟩) hS.2.2 dX13_withId_43
  refine lv_iconst (v := 0) hx hb dX13_withId_0 (by decide) ?_
  refine lv_istore_n (lv' := [(3, .int 0), (0, .ref h0), (1, .long nn)]) hx hb dX13_withId_1 rfl hl (by decide) rfl (fun ls hl => ?_)
  exact hj2 _ 0 rfl (iv_w (iv_k (by decide) : iv 0 0 0) (by decide)) (NHB_0) _ _ _ hP hD hS (lv_sub hl [0, 1, 2] rfl)

set_option maxHeartbeats 4000000 in
set_option maxRecDepth 100000 in
theorem f_parentOf (l : Launch) (dC : Nat → ClassId) (dI : Nat → Nat → Nat) (h0 : Nat) (ad : Nat → Nat) (cid : Nat → ClassId) (sg : Nat → Int32) (gm : Nat → Nat → Int32) (lg : Nat → Nat → Int64) (b : Int32) (hI : MI sg gm) (hvb : iv 0 79 b) : MMi l dC dI yX13_parentOf wm_X13_parentOf ({ frames := 3, cells := 0, slots := 0, locals := 74 }) h0 ad cid [.int b] sg gm lg (fun r v => (iv (-1) 79 r) ∧ (r = mPar sg gm lg b) ∧ v = (sg, gm, lg)) := by
  intro sz
  refine Met.ofW (cc := cX13_parentOf) (maxL := 2) (ret := (some .int)) (by decide) rfl ?_
  intro p e s m args below meth c s₁ B hml hv
  obtain ⟨rfl, hsz, hP, hK, hD0⟩ := hv
  have hx := B.exec
  have hb := B.bytes
  have hr := B.returns
  have hts := atoms_spec (ws := wm_X13_parentOf) B.pre
  have htb := fun (w : Cond) (h : w ∈ tb) => hts w (List.mem_cons_of_mem _ h)
  have hown : s.vm.findClass RX13 = some m.cls := findClass_of_methodNamed B.named
  have hlocks := B.notSynchronized
  subst hsz
  have hD := hD0.self (sz := s.heap.size)
  generalize hAe : va_A (mW h0 ad cid sg gm lg) s.heap.size = A at hD ⊢
  have hA : ∀ q : Nat, s.heap.size ≤ q → A q := fun q h => by rw [← hAe]; exact Or.inr h
  have hS : va_S A s.heap s.heap [] := va_S.rf
  have hl := lv_entry ([.ref h0, .int b]) (n := 2) (Nat.le_of_ble_eq_true rfl)
  rw [lg_entry_eq]
  generalize (lg_sl ([.ref h0, .int b]) ++ List.replicate (2 - (lg_sl ([.ref h0, .int b])).length) Slot.unset).toArray = ls at hl ⊢
  have hl : lv_has ls 2 [(0, .ref h0), (1, .int b)] := hl
  have hj37 : ∀ (y0_37 : Int32) (_ : iv 0 79 b) (_ : iv (-1) 79 y0_37) (_ : y0_37 = mPar sg gm lg b) (H : Heap) (locs : List Loc) (ls : Array Slot), va_P (dC, dI) vwCl (mW h0 ad cid sg gm lg) H → va_D A (mW h0 ad cid sg gm lg) → va_S A s.heap H locs → lv_has ls 2 [(0, .ref h0), (1, .int b)] → W p l e (headSpec wm_X13_parentOf ({ frames := 3, cells := 0, slots := 0, locals := 74 })).room s m ([.ref h0, .int b] : List Value).toArray below meth c H locs 0 0 (MQ below (va_Qi (fun r v => (iv (-1) 79 r) ∧ (r = mPar sg gm lg b) ∧ v = (sg, gm, lg)) (MB dC dI h0 ad cid A) A) ([.ref h0, .int b] : List Value).toArray s 0 0 A) (F0 m 37 ls [.int y0_37]) := by
    intro y0_37 hsx1_37 hy0_37 hp H locs ls hP hD hS hl
    exact W.iret (v := y0_37) hx hb hr (fun t ht hW => ⟨⟨y0_37, (sg, gm, lg), rfl, ⟨hy0_37, (hp), rfl⟩, by rw [ht]; exact hP, va_K.moved hW.alike hK, hD⟩, hS.F ht⟩) hS.2.2 dX13_parentOf_37
  refine lv_aload_n hx hb dX13_parentOf_0 rfl (lv_at hl 0 rfl) ?_
  refine lv_aload_n hx hb dX13_parentOf_1 rfl (lv_at hl 0 rfl) ?_
  refine mr_get (v := .ref (ad 42)) hx hb htb inX13 hown hK hP 42 (by decide) (htb _ kw_1069) rfl dX13_parentOf_2 ?_
  refine lv_iload_n hx hb dX13_parentOf_5 rfl (lv_at hl 1 rfl) ?_
  refine mr_iald hx hb hK hP 33 (k := 42) rfl rfl rfl (show vp_in b 80 from (iv_in hvb (by decide))) dX13_parentOf_6 ?_
  refine lv_topi (fun z_1 ez_1 => ?_)
  have hz_1 : iv 0 79 z_1 := iv_of ez_1 (MI_a hI 42 hvb (by decide))
  refine lv_ldc2 (own := RX13) (v := 123563833388660) hx hb hown (htb _ kw_1182) dX13_parentOf_7 ?_
  refine mr_calli (rest := []) ⟨hx, hb, hml, hown, htb⟩ (f_has l dC dI h0 ad cid sg gm lg z_1 123563833388660 hI hz_1) (cwV 2 htb (gd_V kw_1197 kw_1198 kw_94 kw_160 kw_1601) rfl rfl rfl (by decide +kernel) ⟨Nat.le_of_ble_eq_true rfl, Nat.le_of_ble_eq_true rfl⟩) rfl hl.1 rfl (Nat.le_of_ble_eq_true rfl) dX13_parentOf_10 ⟨Nat.zero_le _, Nat.zero_le _⟩ hK hP hD hS hA (fun r_2 u_3 H locs hw hP hD hS => ?_)
  obtain ⟨hr_2, fH_r_2, rfl⟩ := hw
  have hP : va_P (dC, dI) vwCl (mW h0 ad cid sg gm lg) H := hP
  have hD : va_D A (mW h0 ad cid sg gm lg) := hD
  refine lv_if_eq (tgt := 36) hx hb dX13_parentOf_13 (by decide) (fun c_4 => ?_) (fun c_4 => ?_)
  · have h_5 : iv 0 0 r_2 := iv_eq c_4 hr_2 (iv_k (by decide) : iv 0 0 0) (by decide)
    refine lv_iconst (v := (-1)) hx hb dX13_parentOf_36 (by decide) ?_
    exact hj37 (-1) hvb (iv_w (iv_k (by decide) : iv (-1) (-1) (-1)) (by decide)) (by unfold mPar; rw [if_pos (by rw [← ez_1, ← fH_r_2]; exact c_4)]) _ _ _ hP hD hS (lv_sub hl [0, 1] rfl)
  · have h_6 : iv 1 1 r_2 := iv_neL c_4 hr_2 (by decide)
    refine lv_aload_n hx hb dX13_parentOf_16 rfl (lv_at hl 0 rfl) ?_
    refine lv_aload_n hx hb dX13_parentOf_17 rfl (lv_at hl 0 rfl) ?_
    refine lv_aload_n hx hb dX13_parentOf_18 rfl (lv_at hl 0 rfl) ?_
    refine mr_get (v := .ref (ad 42)) hx hb htb inX13 hown hK hP 42 (by decide) (htb _ kw_1069) rfl dX13_parentOf_19 ?_
    refine lv_iload_n hx hb dX13_parentOf_22 rfl (lv_at hl 1 rfl) ?_
    refine mr_iald hx hb hK hP 33 (k := 42) rfl rfl rfl (show vp_in b 80 from (iv_in hvb (by decide))) dX13_parentOf_23 ?_
    refine lv_topi (fun z_7 ez_7 => ?_)
    obtain rfl : z_1 = z_7 := ez_1.trans ez_7.symm
    refine lv_ldc2 (own := RX13) (v := 123563833388660) hx hb hown (htb _ kw_1182) dX13_parentOf_24 ?_
    refine mr_calll (rest := [.ref h0]) ⟨hx, hb, hml, hown, htb⟩ (f_word l dC dI h0 ad cid sg gm lg z_1 123563833388660 hI hz_1) (cwV 2 htb (gd_V kw_1201 kw_1202 kw_96 kw_160 kw_1603) rfl rfl rfl (by decide +kernel) ⟨Nat.le_of_ble_eq_true rfl, Nat.le_of_ble_eq_true rfl⟩) rfl hl.1 rfl (Nat.le_of_ble_eq_true rfl) dX13_parentOf_27 ⟨Nat.zero_le _, Nat.zero_le _⟩ hK hP hD hS hA (fun r_8 u_9 H locs hw hP hD hS => ?_)
    obtain ⟨fW_r_8, rfl⟩ := hw
    have hP : va_P (dC, dI) vwCl (mW h0 ad cid sg gm lg) H := hP
    have hD : va_D A (mW h0 ad cid sg gm lg) := hD
    refine mr_calli (rest := []) ⟨hx, hb, hml, hown, htb⟩ (f_withId l dC dI h0 ad cid sg gm lg r_8 hI) (cwV 1 htb (gd_V kw_1225 kw_1226 kw_104 kw_160 kw_1612) rfl rfl rfl (by decide +kernel) ⟨Nat.le_of_ble_eq_true rfl, Nat.le_of_ble_eq_true rfl⟩) rfl hl.1 rfl (Nat.le_of_ble_eq_true rfl) dX13_parentOf_30 ⟨Nat.zero_le _, Nat.zero_le _⟩ hK hP hD hS hA (fun r_10 u_11 H locs hw hP hD hS => ?_)
    obtain ⟨hr_10, fD_r_10, rfl⟩ := hw
    have hP : va_P (dC, dI) vwCl (mW h0 ad cid sg gm lg) H := hP
    have hD : va_D A (mW h0 ad cid sg gm lg) := hD
    refine lv_goto (tgt := 37) hx hb dX13_parentOf_33 (by decide) ?_
    exact hj37 r_10 hvb hr_10 (by unfold mPar; rw [if_neg (by rw [← ez_1, ← fH_r_2]; exact c_4), ← ez_1, ← fW_r_8]; exact fD_r_10) _ _ _ hP hD hS (lv_sub hl [0, 1] rfl)
end
section
def qInn (gm : Nat → Nat → Int32) (a kd : Int32) (j : Nat) : Bool := decide (gm 28 j = a) && (decide (kd = 0) || decide (gm 26 j = kd))
theorem qI_t {gm : Nat → Nat → Int32} {a kd : Int32} {j : Nat} (h1 : gm 28 j = a) (h2 : kd = 0 ∨ gm 26 j = kd) : qInn gm a kd j = true := by
  unfold qInn
  rw [decide_eq_true h1]
  rcases h2 with h2 | h2
  · rw [decide_eq_true h2]; rfl
  · rw [decide_eq_true h2, Bool.or_true]; rfl
theorem qI_of {gm : Nat → Nat → Int32} {a kd : Int32} {j : Nat} (h : qInn gm a kd j = true) : gm 28 j = a ∧ (kd = 0 ∨ gm 26 j = kd) := by
  unfold qInn at h
  have h1 := Bool.and_eq_true_iff.mp h
  have h2 := Bool.or_eq_true_iff.mp h1.2
  exact ⟨of_decide_eq_true h1.1, h2.imp of_decide_eq_true of_decide_eq_true⟩
theorem qI_1 {gm : Nat → Nat → Int32} {a kd : Int32} {j : Nat} (h1 : ¬ gm 28 j = a) : qInn gm a kd j = false := by
  unfold qInn; rw [decide_eq_false h1]; rfl
theorem qI_2 {gm : Nat → Nat → Int32} {a kd : Int32} {j : Nat} (h1 : ¬ kd = 0) (h2 : ¬ gm 26 j = kd) : qInn gm a kd j = false := by
  unfold qInn; rw [decide_eq_false h1, decide_eq_false h2, Bool.false_or, Bool.and_false]
/-- the next element within a behind bh -/
def mInn (sg : Nat → Int32) (gm : Nat → Nat → Int32) (a kd bh : Int32) : Int32 := fstB (qInn gm a kd) ((sg 24).toNatClampNeg - (bh.toNatClampNeg + 1)) (bh.toNatClampNeg + 1)
theorem inn_no {sg : Nat → Int32} {gm : Nat → Nat → Int32} {a kd bh x : Int32} (hn : iv 0 80 (sg 24)) (hx : iv 1 80 x) (hl : (sg 24).toInt ≤ x.toInt) (h : NHB (qInn gm a kd) (bh.toNatClampNeg + 1) x.toNatClampNeg) : (-1 : Int32) = mInn sg gm a kd bh := by
  have k1 := iv_cl hn (by decide)
  have k2 := iv_cl hx (by decide)
  exact (fst_no _ _ (fun k q1 q2 => h k q1 (by omega))).symm
theorem inn_hit {sg : Nat → Int32} {gm : Nat → Nat → Int32} {a kd bh x : Int32} (hn : iv 0 80 (sg 24)) (hx : iv 1 79 x) (hg : bh.toNatClampNeg + 1 ≤ x.toNatClampNeg) (hl : x.toInt < (sg 24).toInt) (h : NHB (qInn gm a kd) (bh.toNatClampNeg + 1) x.toNatClampNeg) (hq : qInn gm a kd x.toNatClampNeg = true) : x = mInn sg gm a kd bh := by
  have k1 := iv_cl hn (by decide)
  have k2 := iv_cl hx (by decide)
  have e1 : bh.toNatClampNeg + 1 + (x.toNatClampNeg - (bh.toNatClampNeg + 1)) = x.toNatClampNeg := by omega
  have k3 := fst_hit (q := qInn gm a kd) (x.toNatClampNeg - (bh.toNatClampNeg + 1)) ((sg 24).toNatClampNeg - (bh.toNatClampNeg + 1)) (bh.toNatClampNeg + 1) (by omega) (by rw [e1]; exact h) (by rw [e1]; exact hq)
  rw [e1, iv_nI hx (by decide)] at k3
  exact k3.symm
theorem mInn_or {sg : Nat → Int32} {gm : Nat → Nat → Int32} {a kd bh : Int32} (hn : iv 0 80 (sg 24)) : (mInn sg gm a kd bh = -1 ∧ NHB (qInn gm a kd) (bh.toNatClampNeg + 1) (sg 24).toNatClampNeg) ∨ (iv 1 79 (mInn sg gm a kd bh) ∧ bh.toNatClampNeg < (mInn sg gm a kd bh).toNatClampNeg ∧ (mInn sg gm a kd bh).toNatClampNeg < (sg 24).toNatClampNeg ∧ gm 28 (mInn sg gm a kd bh).toNatClampNeg = a ∧ (kd = 0 ∨ gm 26 (mInn sg gm a kd bh).toNatClampNeg = kd) ∧ NHB (qInn gm a kd) (bh.toNatClampNeg + 1) (mInn sg gm a kd bh).toNatClampNeg) := by
  have k1 := iv_cl hn (by decide)
  have k2 := hn.2
  rcases fst_or (qInn gm a kd) ((sg 24).toNatClampNeg - (bh.toNatClampNeg + 1)) (bh.toNatClampNeg + 1) with ⟨h, h9⟩ | ⟨i, h1, h2, h3, h4⟩
  · refine Or.inl ⟨h, fun k q1 q2 => h9 k q1 (by omega)⟩
  · have h5 : mInn sg gm a kd bh = nI (bh.toNatClampNeg + 1 + i) := h2
    have h6 : (nI (bh.toNatClampNeg + 1 + i)).toNatClampNeg = bh.toNatClampNeg + 1 + i := nI_clamp (by omega)
    have h7 : (nI (bh.toNatClampNeg + 1 + i)).toInt = (bh.toNatClampNeg + 1 + i : Nat) := nI_toInt (by omega)
    obtain ⟨q1, q2⟩ := qI_of h3
    rw [h5, h6]
    exact Or.inr ⟨⟨by omega, by omega⟩, by omega, by omega, q1, q2, h4⟩
/-- how far a bean is from the end of its parents -/
def dpF (f : Int32 → Int32) : Nat → Int32 → Nat
  | 0, _ => 0
  | n + 1, b => if b = -1 then 0 else dpF f n (f b) + 1
theorem dpF_st {f : Int32 → Int32} : ∀ (n : Nat) (b : Int32), itF f n b = -1 → dpF f (n + 1) b = dpF f n b := by
  intro n
  induction n with
  | zero =>
    intro b h
    have h : b = -1 := h
    show (if _ then _ else _) = _
    rw [if_pos h]
    rfl
  | succ n ih =>
    intro b h
    by_cases hb : b = -1
    · show (if _ then _ else _) = (if _ then _ else _)
      rw [if_pos hb, if_pos hb]
    · have h : (if b = -1 then -1 else itF f n (f b)) = -1 := h
      rw [if_neg hb] at h
      show (if _ then _ else _) = (if _ then _ else _)
      rw [if_neg hb, if_neg hb, ih _ h]
def dP (sg : Nat → Int32) (gm : Nat → Nat → Int32) (lg : Nat → Nat → Int64) (b : Int32) : Nat := dpF (mPar sg gm lg) 81 b
theorem dpF_s (f : Int32 → Int32) (n : Nat) (b : Int32) : dpF f (n + 1) b = if b = -1 then 0 else dpF f n (f b) + 1 := rfl
theorem dP_m1 {sg : Nat → Int32} {gm : Nat → Nat → Int32} {lg : Nat → Nat → Int64} : dP sg gm lg (-1) = 0 := by
  show dpF (mPar sg gm lg) (80 + 1) (-1) = 0
  rw [dpF_s, if_pos rfl]
theorem dP_s {sg : Nat → Int32} {gm : Nat → Nat → Int32} {lg : Nat → Nat → Int64} {b : Int32} (hn : iv 0 80 (sg 41)) (h : ACY sg gm lg) (h0 : 0 ≤ b.toInt) : dP sg gm lg b = dP sg gm lg (mPar sg gm lg b) + 1 := by
  have hb : ¬ b = -1 := fun q => by rw [q] at h0; exact absurd h0 (by decide)
  show dpF (mPar sg gm lg) (80 + 1) b = _
  rw [dpF_s, if_neg hb]
  have h2 : itF (mPar sg gm lg) 80 (mPar sg gm lg b) = -1 := by
    obtain ⟨q1, q2⟩ := mPar_iv (sg := sg) (gm := gm) (lg := lg) b hn
    by_cases q3 : mPar sg gm lg b = -1
    · rw [q3, itF_m1]
    · have q5 : (mPar sg gm lg b).toInt ≠ -1 := fun q => q3 (Int32.toInt_inj.mp q)
      have q6 := q1.1
      exact h _ (by omega) (q2.resolve_right q3)
  show _ = dpF _ 81 _ + 1
  rw [dpF_st 80 _ h2]
theorem dP_lt {sg : Nat → Int32} {gm : Nat → Nat → Int32} {lg : Nat → Nat → Int64} {b r : Int32} (hn : iv 0 80 (sg 41)) (h : ACY sg gm lg) (h0 : 0 ≤ b.toInt) (hr : r = mPar sg gm lg b) : dP sg gm lg r < dP sg gm lg b := by
  rw [dP_s hn h h0, hr]; omega
theorem par_lt {sg : Nat → Int32} {gm : Nat → Nat → Int32} {lg : Nat → Nat → Int64} {b r : Int32} (hn : iv 0 80 (sg 41)) (hr : r = mPar sg gm lg b) : r.toInt < (sg 41).toInt := by
  rcases (mPar_iv (sg := sg) (gm := gm) (lg := lg) b hn).2 with q | q
  · rw [hr]; exact q
  · rw [hr, q]; have := hn.1; show (-1 : Int) < _; omega
def telF (sg : Nat → Int32) (gm : Nat → Nat → Int32) (lg : Nat → Nat → Int64) (nn : Int64) : Nat → Int32 → Int32
  | 0, _ => -1
  | n + 1, b => if mHas gm lg (gm 42 b.toNatClampNeg).toNatClampNeg nn = 0 then telF sg gm lg nn n (mPar sg gm lg b) else gm 42 b.toNatClampNeg
def mTel (sg : Nat → Int32) (gm : Nat → Nat → Int32) (lg : Nat → Nat → Int64) (b : Int32) (nn : Int64) : Int32 := telF sg gm lg nn (dP sg gm lg b) b
theorem tel_no {sg : Nat → Int32} {gm : Nat → Nat → Int32} {lg : Nat → Nat → Int64} {nn : Int64} : mTel sg gm lg (-1) nn = -1 := by
  unfold mTel; rw [dP_m1]; rfl
theorem tel_y {sg : Nat → Int32} {gm : Nat → Nat → Int32} {lg : Nat → Nat → Int64} {b : Int32} {nn : Int64} (hn : iv 0 80 (sg 41)) (h : ACY sg gm lg) (h0 : 0 ≤ b.toInt) (hh : ¬ mHas gm lg (gm 42 b.toNatClampNeg).toNatClampNeg nn = 0) : mTel sg gm lg b nn = gm 42 b.toNatClampNeg := by
  unfold mTel; rw [dP_s hn h h0]
  show (if _ then _ else _) = _
  rw [if_neg hh]
theorem tel_n {sg : Nat → Int32} {gm : Nat → Nat → Int32} {lg : Nat → Nat → Int64} {b : Int32} {nn : Int64} (hn : iv 0 80 (sg 41)) (h : ACY sg gm lg) (h0 : 0 ≤ b.toInt) (hh : mHas gm lg (gm 42 b.toNatClampNeg).toNatClampNeg nn = 0) : mTel sg gm lg b nn = mTel sg gm lg (mPar sg gm lg b) nn := by
  unfold mTel; rw [dP_s hn h h0]
  show (if _ then _ else _) = _
  rw [if_pos hh]
def aoF (sg : Nat → Int32) (gm : Nat → Nat → Int32) (lg : Nat → Nat → Int64) : Nat → Int32 → Int32
  | 0, b => b
  | n + 1, b => if mInn sg gm (gm 42 b.toNatClampNeg) 4 0 = -1 ∧ ¬ mPar sg gm lg b = -1 then aoF sg gm lg n (mPar sg gm lg b) else b
def mAO (sg : Nat → Int32) (gm : Nat → Nat → Int32) (lg : Nat → Nat → Int64) (b : Int32) : Int32 := aoF sg gm lg (dP sg gm lg b) b
theorem ao_y {sg : Nat → Int32} {gm : Nat → Nat → Int32} {lg : Nat → Nat → Int64} {b : Int32} (hn : iv 0 80 (sg 41)) (h : ACY sg gm lg) (h0 : 0 ≤ b.toInt) (hh : ¬ (mInn sg gm (gm 42 b.toNatClampNeg) 4 0 = -1 ∧ ¬ mPar sg gm lg b = -1)) : mAO sg gm lg b = b := by
  unfold mAO; rw [dP_s hn h h0]
  show (if _ then _ else _) = _
  rw [if_neg hh]
theorem ao_n {sg : Nat → Int32} {gm : Nat → Nat → Int32} {lg : Nat → Nat → Int64} {b : Int32} (hn : iv 0 80 (sg 41)) (h : ACY sg gm lg) (h0 : 0 ≤ b.toInt) (hh : mInn sg gm (gm 42 b.toNatClampNeg) 4 0 = -1 ∧ ¬ mPar sg gm lg b = -1) : mAO sg gm lg b = mAO sg gm lg (mPar sg gm lg b) := by
  unfold mAO; rw [dP_s hn h h0]
  show (if _ then _ else _) = _
  rw [if_pos hh]
def argF (sg : Nat → Int32) (gm : Nat → Nat → Int32) (a : Int32) : Nat → Int32
  | 0 => mInn sg gm a 4 0
  | n + 1 => if argF sg gm a n = -1 then -1 else mInn sg gm a 4 (argF sg gm a n)
def mArg (sg : Nat → Int32) (gm : Nat → Nat → Int32) (lg : Nat → Nat → Int64) (b : Int32) (n : Nat) : Int32 := argF sg gm (gm 42 (mAO sg gm lg b).toNatClampNeg) n
theorem argF_s {sg : Nat → Int32} {gm : Nat → Nat → Int32} {a x r : Int32} {n : Nat} (hx : x = argF sg gm a n) (h : ¬ x = -1) (hr : r = mInn sg gm a 4 x) : r = argF sg gm a (n + 1) := by
  show _ = (if _ then _ else _)
  rw [← hx, if_neg h, hr]
theorem argF_no {sg : Nat → Int32} {gm : Nat → Nat → Int32} {a : Int32} {n : Nat} (h : argF sg gm a n = -1) : ∀ k, n ≤ k → argF sg gm a k = -1 := by
  intro k
  induction k with
  | zero => intro hk; have h0 : n = 0 := by omega
            subst h0; exact h
  | succ k ih =>
    intro hk
    by_cases e9 : n = k + 1
    · subst e9; exact h
    · show (if _ then _ else _) = _
      rw [if_pos (ih (by omega))]
/-- how many of the first n stand within a and are of kind kd -/
def cQ (gm : Nat → Nat → Int32) (a kd : Int32) : Nat → Nat
  | 0 => 0
  | k + 1 => cQ gm a kd k + (if gm 28 k = a ∧ gm 26 k = kd then 1 else 0)
theorem cQ_ah {gm : Nat → Nat → Int32} {e : Nat} : ∀ k, ahN gm e k = cQ gm (gm 28 e) (gm 26 e) k := by
  intro k
  induction k with
  | zero => rfl
  | succ k ih => show ahN gm e k + _ = cQ gm _ _ k + _; rw [ih]
theorem cQ_mono {gm : Nat → Nat → Int32} {a kd : Int32} (j : Nat) : ∀ k, j ≤ k → cQ gm a kd j ≤ cQ gm a kd k := by
  intro k
  induction k with
  | zero => intro h; have h0 : j = 0 := by omega
            subst h0; exact Nat.le_refl _
  | succ k ih =>
    intro h
    by_cases hj : j = k + 1
    · subst hj; exact Nat.le_refl _
    · have := ih (by omega)
      show _ ≤ cQ gm a kd k + _
      omega
theorem argF_ok {sg : Nat → Int32} {gm : Nat → Nat → Int32} {a : Int32} (hn : iv 0 80 (sg 24)) : ∀ n, ¬ argF sg gm a n = -1 → iv 1 79 (argF sg gm a n) ∧ (argF sg gm a n).toNatClampNeg < (sg 24).toNatClampNeg ∧ gm 28 (argF sg gm a n).toNatClampNeg = a ∧ gm 26 (argF sg gm a n).toNatClampNeg = 4 ∧ n ≤ cQ gm a 4 (argF sg gm a n).toNatClampNeg := by
  intro n
  induction n with
  | zero =>
    intro h
    have h : ¬ mInn sg gm a 4 0 = -1 := h
    rcases mInn_or (gm := gm) (a := a) (kd := 4) (bh := 0) hn with q | ⟨q1, q2, q3, q4, q5, _⟩
    · exact absurd q.1 h
    · exact ⟨q1, q3, q4, q5.resolve_left (by decide), Nat.zero_le _⟩
  | succ n ih =>
    intro h
    have h : ¬ (if argF sg gm a n = -1 then -1 else mInn sg gm a 4 (argF sg gm a n)) = -1 := h
    have h1 : ¬ argF sg gm a n = -1 := fun q => by rw [if_pos q] at h; exact h rfl
    obtain ⟨i1, i2, i3, i4, i5⟩ := ih h1
    have e1 : argF sg gm a (n + 1) = mInn sg gm a 4 (argF sg gm a n) := by show (if _ then _ else _) = _; rw [if_neg h1]
    rw [if_neg h1] at h
    rw [e1]
    rcases mInn_or (gm := gm) (a := a) (kd := 4) (bh := argF sg gm a n) hn with q | ⟨q1, q2, q3, q4, q5, _⟩
    · exact absurd q.1 h
    · refine ⟨q1, q3, q4, q5.resolve_left (by decide), ?_⟩
      have m1 := cQ_mono (gm := gm) (a := a) (kd := 4) ((argF sg gm a n).toNatClampNeg + 1) _ q2
      have m2 : cQ gm a 4 ((argF sg gm a n).toNatClampNeg + 1) = cQ gm a 4 (argF sg gm a n).toNatClampNeg + 1 := by
        show _ + _ = _
        rw [if_pos ⟨i3, i4⟩]
      omega
theorem arg_lt {sg : Nat → Int32} {gm : Nat → Nat → Int32} {lg : Nat → Nat → Int64} {b : Int32} {n : Nat} (hn : iv 0 80 (sg 24)) (hs : STR sg gm lg) (h : ¬ mArg sg gm lg b n = -1) : n ≤ 3 := by
  obtain ⟨i1, i2, i3, i4, i5⟩ := argF_ok hn n h
  have g1 := (hs.1 _ i2).2.1 (by rw [i4]; rfl)
  have g2 := g1.1
  rw [cQ_ah, i3, i4] at g2
  omega

set_option maxHeartbeats 4000000 in
set_option maxRecDepth 100000 in
theorem f_inner (l : Launch) (dC : Nat → ClassId) (dI : Nat → Nat → Nat) (h0 : Nat) (ad : Nat → Nat) (cid : Nat → ClassId) (sg : Nat → Int32) (gm : Nat → Nat → Int32) (lg : Nat → Nat → Int64) (x : Int32) (kd : Int32) (bh : Int32) (hI : MI sg gm) (hvx : iv (-1) 79 x) (hvkd : iv 0 10 kd) (hvbh : iv 0 79 bh) : MMi l dC dI yX13_inner wm_X13_inner ({ frames := 0, cells := 0, slots := 0, locals := 0 }) h0 ad cid [.int x, .int kd, .int bh] sg gm lg (fun r v => (iv (-1) 79 r) ∧ (r = mInn sg gm x kd bh) ∧ v = (sg, gm, lg)) := by
  intro sz
  refine Met.ofW (cc := cX13_inner) (maxL := 5) (ret := (some .int)) (by decide) rfl ?_
  intro p e s m args below meth c s₁ B hml hv
  obtain ⟨rfl, hsz, hP, hK, hD0⟩ := hv
  have hx := B.exec
  have hb := B.bytes
  have hr := B.returns
  have hts := atoms_spec (ws := wm_X13_inner) B.pre
  have htb := fun (w : Cond) (h : w ∈ tb) => hts w (List.mem_cons_of_mem _ h)
  have hown : s.vm.findClass RX13 = some m.cls := findClass_of_methodNamed B.named
  have hlocks := B.notSynchronized
  subst hsz
  have hD := hD0.self (sz := s.heap.size)
  generalize hAe : va_A (mW h0 ad cid sg gm lg) s.heap.size = A at hD ⊢
  have hA : ∀ q : Nat, s.heap.size ≤ q → A q := fun q h => by rw [← hAe]; exact Or.inr h
  have hS : va_S A s.heap s.heap [] := va_S.rf
  have hl := lv_entry ([.ref h0, .int x, .int kd, .int bh]) (n := 5) (Nat.le_of_ble_eq_true rfl)
  rw [lg_entry_eq]
  generalize (lg_sl ([.ref h0, .int x, .int kd, .int bh]) ++ List.replicate (5 - (lg_sl ([.ref h0, .int x, .int kd, .int bh])).length) Slot.unset).toArray = ls at hl ⊢
  have hl : lv_has ls 5 [(0, .ref h0), (1, .int x), (2, .int kd), (3, .int bh)] := hl
  have hj40 : ∀ (x4_40 : Int32) (_ : iv 1 79 x4_40) (_ : iv (-1) 79 x) (_ : iv 0 10 kd) (_ : iv 0 79 bh) (_ : NHB (qInn gm x kd) (bh.toNatClampNeg + 1) x4_40.toNatClampNeg) (_ : bh.toNatClampNeg + 1 ≤ x4_40.toNatClampNeg) (_ : qInn gm x kd x4_40.toNatClampNeg = true) (_ : x4_40.toInt < (sg 24).toInt) (H : Heap) (locs : List Loc) (ls : Array Slot), va_P (dC, dI) vwCl (mW h0 ad cid sg gm lg) H → va_D A (mW h0 ad cid sg gm lg) → va_S A s.heap H locs → lv_has ls 5 [(4, .int x4_40), (0, .ref h0), (1, .int x), (2, .int kd), (3, .int bh)] → W p l e (headSpec wm_X13_inner ({ frames := 0, cells := 0, slots := 0, locals := 0 })).room s m ([.ref h0, .int x, .int kd, .int bh] : List Value).toArray below meth c H locs 0 0 (MQ below (va_Qi (fun r v => (iv (-1) 79 r) ∧ (r = mInn sg gm x kd bh) ∧ v = (sg, gm, lg)) (MB dC dI h0 ad cid A) A) ([.ref h0, .int x, .int kd, .int bh] : List Value).toArray s 0 0 A) (F0 m 40 ls []) := by
    intro x4_40 hx4_40 hsx1_40 hsx2_40 hsx3_40 hnb hge hqt hlt9 H locs ls hP hD hS hl
    refine lv_iload hx hb dX13_inner_40 (lv_at hl 0 rfl) ?_
    exact W.iret (v := x4_40) hx hb hr (fun t ht hW => ⟨⟨x4_40, (sg, gm, lg), rfl, ⟨(iv_w hx4_40 (by decide)), (inn_hit (show iv 0 80 (sg 24) from MI_s hI 24) hx4_40 hge hlt9 hnb hqt), rfl⟩, by rw [ht]; exact hP, va_K.moved hW.alike hK, hD⟩, hS.F ht⟩) hS.2.2 dX13_inner_42
  have hj5 : ∀ (n : Nat) (x4_5 : Int32) (_ : (80 - x4_5.toInt).toNat = n) (_ : iv 1 80 x4_5) (_ : iv (-1) 79 x) (_ : iv 0 10 kd) (_ : iv 0 79 bh) (_ : NHB (qInn gm x kd) (bh.toNatClampNeg + 1) x4_5.toNatClampNeg) (_ : bh.toNatClampNeg + 1 ≤ x4_5.toNatClampNeg) (H : Heap) (locs : List Loc) (ls : Array Slot), va_P (dC, dI) vwCl (mW h0 ad cid sg gm lg) H → va_D A (mW h0 ad cid sg gm lg) → va_S A s.heap H locs → lv_has ls 5 [(4, .int x4_5), (0, .ref h0), (1, .int x), (2, .int kd), (3, .int bh)] → W p l e (headSpec wm_X13_inner ({ frames := 0, cells := 0, slots := 0, locals := 0 })).room s m ([.ref h0, .int x, .int kd, .int bh] : List Value).toArray below meth c H locs 0 0 (MQ below (va_Qi (fun r v => (iv (-1) 79 r) ∧ (r = mInn sg gm x kd bh) ∧ v = (sg, gm, lg)) (MB dC dI h0 ad cid A) A) ([.ref h0, .int x, .int kd, .int bh] : List Value).toArray s 0 0 A) (F0 m 5 ls []) := by
    intro n
    induction n using Nat.strongRecOn with
    | ind n ih5 =>
      intro x4_5 hn5 hx4_5 hsx1_5 hsx2_5 hsx3_5 hnb hge H locs ls hP hD hS hl
      have hj43 : ∀ (_ : iv 1 79 x4_5) (_ : iv (-1) 79 x) (_ : iv 0 10 kd) (_ : iv 0 79 bh) (_ : qInn gm x kd x4_5.toNatClampNeg = false) (H : Heap) (locs : List Loc) (ls : Array Slot), va_P (dC, dI) vwCl (mW h0 ad cid sg gm lg) H → va_D A (mW h0 ad cid sg gm lg) → va_S A s.heap H locs → lv_has ls 5 [(4, .int x4_5), (0, .ref h0), (1, .int x), (2, .int kd), (3, .int bh)] → W p l e (headSpec wm_X13_inner ({ frames := 0, cells := 0, slots := 0, locals := 0 })).room s m ([.ref h0, .int x, .int kd, .int bh] : List Value).toArray below meth c H locs 0 0 (MQ below (va_Qi (fun r v => (iv (-1) 79 r) ∧ (r = mInn sg gm x kd bh) ∧ v = (sg, gm, lg)) (MB dC dI h0 ad cid A) A) ([.ref h0, .int x, .int kd, .int bh] : List Value).toArray s 0 0 A) (F0 m 43 ls []) := by
        intro  hsx4_43 hsx1_43 hsx2_43 hsx3_43 hnq H locs ls hP hD hS hl
        obtain ⟨z_1, ez_1⟩ : ∃ z : Int32, z = x4_5 + 1 := ⟨_, rfl⟩
        have hz_1 : iv 2 80 z_1 := iv_of ez_1 (iv_add hsx4_43 (iv_k (by decide) : iv 1 1 1) (by decide))
        have tz_1 : z_1.toInt = x4_5.toInt + 1 := by rw [ez_1]; exact iv_addE hsx4_43 (iv_k (by decide) : iv 1 1 1) (by decide)
        refine lv_iinc (v := z_1) (lv' := [(4, .int z_1), (0, .ref h0), (1, .int x), (2, .int kd), (3, .int bh)]) hx hb dX13_inner_43 hl (k := 0) rfl ez_1.symm (by decide) rfl (fun ls hl => ?_)
        refine lv_goto (tgt := 5) hx hb dX13_inner_46 (by decide) ?_
        exact ih5 _ (by rw [← hn5]; exact (iv_meas tz_1 hsx4_43 (by decide))) z_1 rfl (iv_w hz_1 (by decide)) hsx1_43 hsx2_43 hsx3_43 (by rw [s_cl hsx4_43 (by decide) tz_1]; exact NHB_s hnb hnq) (by rw [s_cl hsx4_43 (by decide) tz_1]; omega) _ _ _ hP hD hS (lv_sub hl [0, 1, 2, 3, 4] rfl)
      refine lv_iload hx hb dX13_inner_5 (lv_at hl 0 rfl) ?_
      refine lv_aload_n hx hb dX13_inner_7 rfl (lv_at hl 1 rfl) ?_
      refine mr_get (v := .int (sg 24)) hx hb htb inX13 hown hK hP 24 (by decide) (htb _ kw_1051) rfl dX13_inner_8 ?_
      refine lv_icmp_ge (tgt := 49) hx hb dX13_inner_11 (by decide) (fun c_2 => ?_) (fun c_2 => ?_)
      · have d_3 : ((sg 24) : Int32).toInt ≤ (x4_5 : Int32).toInt := Int32.le_iff_toInt_le.mp c_2
        refine lv_iconst (v := (-1)) hx hb dX13_inner_49 (by decide) ?_
        exact W.iret (v := (-1)) hx hb hr (fun t ht hW => ⟨⟨(-1), (sg, gm, lg), rfl, ⟨(iv_w (iv_k (by decide) : iv (-1) (-1) (-1)) (by decide)), (inn_no (show iv 0 80 (sg 24) from MI_s hI 24) hx4_5 (by have := i32_0; have := i32_1; have := i32_2; have := i32_m1; have := (show iv 0 80 (sg 24) from MI_s hI 24).1; have := (show iv 0 80 (sg 24) from MI_s hI 24).2; have := (hsx1_5).1; have := (hsx1_5).2; have := (hsx2_5).1; have := (hsx2_5).2; have := (hsx3_5).1; have := (hsx3_5).2; have := (hx4_5).1; have := (hx4_5).2; have := ((show iv 0 80 (sg 24) from MI_s hI 24)).1; have := ((show iv 0 80 (sg 24) from MI_s hI 24)).2; omega) hnb), rfl⟩, by rw [ht]; exact hP, va_K.moved hW.alike hK, hD⟩, hS.F ht⟩) hS.2.2 dX13_inner_50
      · have d_4 : (x4_5 : Int32).toInt < ((sg 24) : Int32).toInt := Int32.lt_iff_toInt_lt.mp (i32_lt c_2)
        have h_5 : iv 1 79 x4_5 := iv_ltL (i32_lt c_2) hx4_5 (show iv 0 80 (sg 24) from MI_s hI 24) (by decide)
        have h_6 : iv 2 80 (sg 24) := iv_ltR (i32_lt c_2) hx4_5 (show iv 0 80 (sg 24) from MI_s hI 24) (by decide)
        refine lv_aload_n hx hb dX13_inner_14 rfl (lv_at hl 1 rfl) ?_
        refine mr_get (v := .ref (ad 28)) hx hb htb inX13 hown hK hP 28 (by decide) (htb _ kw_1055) rfl dX13_inner_15 ?_
        refine lv_iload hx hb dX13_inner_18 (lv_at hl 0 rfl) ?_
        refine mr_iald hx hb hK hP 21 (k := 28) rfl rfl rfl (show vp_in x4_5 80 from (iv_in h_5 (by decide))) dX13_inner_20 ?_
        refine lv_topi (fun z_7 ez_7 => ?_)
        have hz_7 : iv (-1) 79 z_7 := iv_of ez_7 (MI_a hI 28 h_5 (by decide))
        refine lv_iload_n hx hb dX13_inner_21 rfl (lv_at hl 2 rfl) ?_
        refine lv_icmp_ne (tgt := 43) hx hb dX13_inner_22 (by decide) (fun c_8 => ?_) (fun c_8 => ?_)
        · exact hj43 h_5 hsx1_5 hsx2_5 hsx3_5 (qI_1 (by rw [← ez_7]; exact c_8)) _ _ _ hP hD hS (lv_sub hl [0, 1, 2, 3, 4] rfl)
        · have d_9 : (z_7 : Int32).toInt = (x : Int32).toInt := congrArg Int32.toInt c_8
          refine lv_iload_n hx hb dX13_inner_25 rfl (lv_at hl 3 rfl) ?_
          refine lv_if_eq (tgt := 40) hx hb dX13_inner_26 (by decide) (fun c_10 => ?_) (fun c_10 => ?_)
          · have h_11 : iv 0 0 kd := iv_eq c_10 hsx2_5 (iv_k (by decide) : iv 0 0 0) (by decide)
            exact hj40 x4_5 h_5 hsx1_5 (iv_w h_11 (by decide)) hsx3_5 (hnb) (hge) (qI_t (by rw [← ez_7]; exact c_8) (Or.inl c_10)) (by have := i32_0; have := i32_1; have := i32_2; have := i32_m1; have := (show iv 0 80 (sg 24) from MI_s hI 24).1; have := (show iv 0 80 (sg 24) from MI_s hI 24).2; have := (hsx1_5).1; have := (hsx1_5).2; have := (h_11).1; have := (h_11).2; have := (hsx3_5).1; have := (hsx3_5).2; have := (h_5).1; have := (h_5).2; have := (h_6).1; have := (h_6).2; have := (hz_7).1; have := (hz_7).2; omega) _ _ _ hP hD hS (lv_sub hl [0, 1, 2, 3, 4] rfl)
          · have h_12 : iv 1 10 kd := iv_neL c_10 hsx2_5 (by decide)
            refine lv_aload_n hx hb dX13_inner_29 rfl (lv_at hl 1 rfl) ?_
            refine mr_get (v := .ref (ad 26)) hx hb htb inX13 hown hK hP 26 (by decide) (htb _ kw_1053) rfl dX13_inner_30 ?_
            refine lv_iload hx hb dX13_inner_33 (lv_at hl 0 rfl) ?_
            refine mr_iald hx hb hK hP 19 (k := 26) rfl rfl rfl (show vp_in x4_5 80 from (iv_in h_5 (by decide))) dX13_inner_35 ?_
            refine lv_topi (fun z_13 ez_13 => ?_)
            have hz_13 : iv 0 10 z_13 := iv_of ez_13 (MI_a hI 26 h_5 (by decide))
            refine lv_iload_n hx hb dX13_inner_36 rfl (lv_at hl 3 rfl) ?_
            refine lv_icmp_ne (tgt := 43) hx hb dX13_inner_37 (by decide) (fun c_14 => ?_) (fun c_14 => ?_)
            · exact hj43 h_5 hsx1_5 (iv_w h_12 (by decide)) hsx3_5 (qI_2 c_10 (by rw [← ez_13]; exact c_14)) _ _ _ hP hD hS (lv_sub hl [0, 1, 2, 3, 4] rfl)
            · have d_15 : (z_13 : Int32).toInt = (kd : Int32).toInt := congrArg Int32.toInt c_14
              have h_16 : iv 1 10 z_13 := iv_eq c_14 hz_13 h_12 (by decide)
              exact hj40 x4_5 h_5 hsx1_5 (iv_w h_12 (by decide)) hsx3_5 (hnb) (hge) (qI_t (by rw [← ez_7]; exact c_8) (Or.inr (by rw [← ez_13]; exact c_14))) (by have := i32_0; have := i32_1; have := i32_2; have := i32_m1; have := (show iv 0 80 (sg 24) from MI_s hI 24).1; have := (show iv 0 80 (sg 24) from MI_s hI 24).2; have := (hsx1_5).1; have := (hsx1_5).2; have := (h_12).1; have := (h_12).2; have := (hsx3_5).1; have := (hsx3_5).2; have := (h_5).1; have := (h_5).2; have := (h_6).1; have := (h_6).2; have := (hz_7).1; have := (hz_7).2; have := (h_16).1; have := (h_16).2; omega) _ _ _ hP hD hS (lv_sub hl [0, 1, 2, 3, 4] rfl)
  refine lv_iload_n hx hb dX13_inner_0 rfl (lv_at hl 3 rfl) ?_
  refine lv_iconst (v := 1) hx hb dX13_inner_1 (by decide) ?_
  refine lv_iadd hx hb dX13_inner_2 ?_
  refine lv_topi (fun z_17 ez_17 => ?_)
  have hz_17 : iv 1 80 z_17 := iv_of ez_17 (iv_add hvbh (iv_k (by decide) : iv 1 1 1) (by decide))
  have tz_17 : z_17.toInt = (bh : Int32).toInt + 1 := by rw [ez_17]; exact iv_addE hvbh (iv_k (by decide) : iv 1 1 1) (by decide)
  refine lv_istore (lv' := [(4, .int z_17), (0, .ref h0), (1, .int x), (2, .int kd), (3, .int bh)]) hx hb dX13_inner_3 hl (by decide) rfl (fun ls hl => ?_)
  exact hj5 _ z_17 rfl hz_17 hvx hvkd hvbh (by rw [s_cl hvbh (by decide) tz_17]; exact NHB_0) (Nat.le_of_eq (s_cl hvbh (by decide) tz_17).symm) _ _ _ hP hD hS (lv_sub hl [0, 1, 2, 3, 4] rfl)

set_option maxHeartbeats 4000000 in
set_option maxRecDepth 100000 in
theorem f_tells (l : Launch) (dC : Nat → ClassId) (dI : Nat → Nat → Nat) (h0 : Nat) (ad : Nat → Nat) (cid : Nat → ClassId) (sg : Nat → Int32) (gm : Nat → Nat → Int32) (lg : Nat → Nat → Int64) (b : Int32) (nn : Int64) (hI : MI sg gm) (hvb : iv (-1) 79 b) (hbl : b.toInt < (sg 41).toInt) (hac : ACY sg gm lg) : MMi l dC dI yX13_tells wm_X13_tells ({ frames := 4, cells := 0, slots := 0, locals := 95 }) h0 ad cid [.int b, .long nn] sg gm lg (fun r v => (iv (-1) 79 r) ∧ (r = mTel sg gm lg b nn) ∧ v = (sg, gm, lg)) := by
  intro sz
  refine Met.ofW (cc := cX13_tells) (maxL := 5) (ret := (some .int)) (by decide) rfl ?_
  intro p e s m args below meth c s₁ B hml hv
  obtain ⟨rfl, hsz, hP, hK, hD0⟩ := hv
  have hx := B.exec
  have hb := B.bytes
  have hr := B.returns
  have hts := atoms_spec (ws := wm_X13_tells) B.pre
  have htb := fun (w : Cond) (h : w ∈ tb) => hts w (List.mem_cons_of_mem _ h)
  have hown : s.vm.findClass RX13 = some m.cls := findClass_of_methodNamed B.named
  have hlocks := B.notSynchronized
  subst hsz
  have hD := hD0.self (sz := s.heap.size)
  generalize hAe : va_A (mW h0 ad cid sg gm lg) s.heap.size = A at hD ⊢
  have hA : ∀ q : Nat, s.heap.size ≤ q → A q := fun q h => by rw [← hAe]; exact Or.inr h
  have hS : va_S A s.heap s.heap [] := va_S.rf
  have hl := lv_entry ([.ref h0, .int b, .long nn]) (n := 5) (Nat.le_of_ble_eq_true rfl)
  rw [lg_entry_eq]
  generalize (lg_sl ([.ref h0, .int b, .long nn]) ++ List.replicate (5 - (lg_sl ([.ref h0, .int b, .long nn])).length) Slot.unset).toArray = ls at hl ⊢
  have hl : lv_has ls 5 [(0, .ref h0), (1, .int b), (2, .long nn)] := hl
  have hj3 : ∀ (n : Nat) (x4_3 : Int32) (_ : dP sg gm lg x4_3 = n) (_ : iv (-1) 79 x4_3) (_ : iv (-1) 79 b) (_ : mTel sg gm lg b nn = mTel sg gm lg x4_3 nn) (_ : x4_3.toInt < (sg 41).toInt) (H : Heap) (locs : List Loc) (ls : Array Slot), va_P (dC, dI) vwCl (mW h0 ad cid sg gm lg) H → va_D A (mW h0 ad cid sg gm lg) → va_S A s.heap H locs → lv_has ls 5 [(4, .int x4_3), (0, .ref h0), (1, .int b), (2, .long nn)] → W p l e (headSpec wm_X13_tells ({ frames := 4, cells := 0, slots := 0, locals := 95 })).room s m ([.ref h0, .int b, .long nn] : List Value).toArray below meth c H locs 0 0 (MQ below (va_Qi (fun r v => (iv (-1) 79 r) ∧ (r = mTel sg gm lg b nn) ∧ v = (sg, gm, lg)) (MB dC dI h0 ad cid A) A) ([.ref h0, .int b, .long nn] : List Value).toArray s 0 0 A) (F0 m 3 ls []) := by
    intro n
    induction n using Nat.strongRecOn with
    | ind n ih3 =>
      intro x4_3 hn3 hx4_3 hsx1_3 htl hlb H locs ls hP hD hS hl
      refine lv_iload hx hb dX13_tells_3 (lv_at hl 0 rfl) ?_
      refine lv_iconst (v := (-1)) hx hb dX13_tells_5 (by decide) ?_
      refine lv_icmp_eq (tgt := 43) hx hb dX13_tells_6 (by decide) (fun c_1 => ?_) (fun c_1 => ?_)
      · have h_2 : iv (-1) (-1) x4_3 := iv_eq c_1 hx4_3 (iv_k (by decide) : iv (-1) (-1) (-1)) (by decide)
        refine lv_iconst (v := (-1)) hx hb dX13_tells_43 (by decide) ?_
        exact W.iret (v := (-1)) hx hb hr (fun t ht hW => ⟨⟨(-1), (sg, gm, lg), rfl, ⟨(iv_w (iv_k (by decide) : iv (-1) (-1) (-1)) (by decide)), (by rw [htl, c_1, tel_no]), rfl⟩, by rw [ht]; exact hP, va_K.moved hW.alike hK, hD⟩, hS.F ht⟩) hS.2.2 dX13_tells_44
      · have h_3 : iv 0 79 x4_3 := iv_neL c_1 hx4_3 (by decide)
        refine lv_aload_n hx hb dX13_tells_9 rfl (lv_at hl 1 rfl) ?_
        refine lv_aload_n hx hb dX13_tells_10 rfl (lv_at hl 1 rfl) ?_
        refine mr_get (v := .ref (ad 42)) hx hb htb inX13 hown hK hP 42 (by decide) (htb _ kw_1069) rfl dX13_tells_11 ?_
        refine lv_iload hx hb dX13_tells_14 (lv_at hl 0 rfl) ?_
        refine mr_iald hx hb hK hP 33 (k := 42) rfl rfl rfl (show vp_in x4_3 80 from (iv_in h_3 (by decide))) dX13_tells_16 ?_
        refine lv_topi (fun z_4 ez_4 => ?_)
        have hz_4 : iv 0 79 z_4 := iv_of ez_4 (MI_a hI 42 h_3 (by decide))
        refine lv_lload_n hx hb dX13_tells_17 rfl (lv_at hl 3 rfl) ?_
        refine mr_calli (rest := []) ⟨hx, hb, hml, hown, htb⟩ (f_has l dC dI h0 ad cid sg gm lg z_4 nn hI hz_4) (cwV 2 htb (gd_V kw_1197 kw_1198 kw_94 kw_160 kw_1601) rfl rfl rfl (by decide +kernel) ⟨Nat.le_of_ble_eq_true rfl, Nat.le_of_ble_eq_true rfl⟩) rfl hl.1 rfl (Nat.le_of_ble_eq_true rfl) dX13_tells_18 ⟨Nat.zero_le _, Nat.zero_le _⟩ hK hP hD hS hA (fun r_5 u_6 H locs hw hP hD hS => ?_)
        obtain ⟨hr_5, fH_r_5, rfl⟩ := hw
        have hP : va_P (dC, dI) vwCl (mW h0 ad cid sg gm lg) H := hP
        have hD : va_D A (mW h0 ad cid sg gm lg) := hD
        refine lv_if_eq (tgt := 32) hx hb dX13_tells_21 (by decide) (fun c_7 => ?_) (fun c_7 => ?_)
        · have h_8 : iv 0 0 r_5 := iv_eq c_7 hr_5 (iv_k (by decide) : iv 0 0 0) (by decide)
          refine lv_aload_n hx hb dX13_tells_32 rfl (lv_at hl 1 rfl) ?_
          refine lv_iload hx hb dX13_tells_33 (lv_at hl 0 rfl) ?_
          refine mr_calli (rest := []) ⟨hx, hb, hml, hown, htb⟩ (f_parentOf l dC dI h0 ad cid sg gm lg x4_3 hI h_3) (cwV 1 htb (gd_V kw_1223 kw_1224 kw_103 kw_160 kw_1611) rfl rfl rfl (by decide +kernel) ⟨Nat.le_of_ble_eq_true rfl, Nat.le_of_ble_eq_true rfl⟩) rfl hl.1 rfl (Nat.le_of_ble_eq_true rfl) dX13_tells_35 ⟨Nat.zero_le _, Nat.zero_le _⟩ hK hP hD hS hA (fun r_9 u_10 H locs hw hP hD hS => ?_)
          obtain ⟨hr_9, fP_r_9, rfl⟩ := hw
          have hP : va_P (dC, dI) vwCl (mW h0 ad cid sg gm lg) H := hP
          have hD : va_D A (mW h0 ad cid sg gm lg) := hD
          refine lv_istore (lv' := [(4, .int r_9), (0, .ref h0), (1, .int b), (2, .long nn)]) hx hb dX13_tells_38 hl (by decide) rfl (fun ls hl => ?_)
          refine lv_goto (tgt := 3) hx hb dX13_tells_40 (by decide) ?_
          exact ih3 _ (by rw [← hn3]; exact (dP_lt (show iv 0 80 (sg 41) from MI_s hI 41) hac (h_3).1 fP_r_9)) r_9 rfl hr_9 hsx1_3 (htl.trans (by rw [tel_n (show iv 0 80 (sg 41) from MI_s hI 41) hac (h_3).1 (by rw [← ez_4, ← fH_r_5]; exact c_7), ← fP_r_9])) (par_lt (show iv 0 80 (sg 41) from MI_s hI 41) fP_r_9) _ _ _ hP hD hS (lv_sub hl [0, 1, 2, 3] rfl)
        · have h_11 : iv 1 1 r_5 := iv_neL c_7 hr_5 (by decide)
          refine lv_aload_n hx hb dX13_tells_24 rfl (lv_at hl 1 rfl) ?_
          refine mr_get (v := .ref (ad 42)) hx hb htb inX13 hown hK hP 42 (by decide) (htb _ kw_1069) rfl dX13_tells_25 ?_
          refine lv_iload hx hb dX13_tells_28 (lv_at hl 0 rfl) ?_
          refine mr_iald hx hb hK hP 33 (k := 42) rfl rfl rfl (show vp_in x4_3 80 from (iv_in h_3 (by decide))) dX13_tells_30 ?_
          refine lv_topi (fun z_12 ez_12 => ?_)
          obtain rfl : z_4 = z_12 := ez_4.trans ez_12.symm
          exact W.iret (v := z_4) hx hb hr (fun t ht hW => ⟨⟨z_4, (sg, gm, lg), rfl, ⟨(iv_w hz_4 (by decide)), (by rw [htl, tel_y (show iv 0 80 (sg 41) from MI_s hI 41) hac (h_3).1 (by rw [← ez_4, ← fH_r_5]; exact c_7)]; exact ez_4), rfl⟩, by rw [ht]; exact hP, va_K.moved hW.alike hK, hD⟩, hS.F ht⟩) hS.2.2 dX13_tells_31
  refine lv_iload_n hx hb dX13_tells_0 rfl (lv_at hl 1 rfl) ?_
  refine lv_istore (lv' := [(4, .int b), (0, .ref h0), (1, .int b), (2, .long nn)]) hx hb dX13_tells_1 hl (by decide) rfl (fun ls hl => ?_)
  exact hj3 _ b rfl hvb hvb (rfl) (hbl) _ _ _ hP hD hS (lv_sub hl [0, 1, 2, 3] rfl)

set_option maxHeartbeats 4000000 in
set_option maxRecDepth 100000 in
theorem a_letter (l : Launch) (dC : Nat → ClassId) (dI : Nat → Nat → Nat) (h0 : Nat) (ad : Nat → Nat) (cid : Nat → ClassId) (sg : Nat → Int32) (gm : Nat → Nat → Int32) (lg : Nat → Nat → Int64) (b : Int32) (nn : Int64) (hI : MI sg gm) (hvb : iv (-1) 79 b) (hbl : b.toInt < (sg 41).toInt) (hac : ACY sg gm lg) : MMi l dC dI yX13_letter wm_X13_letter ({ frames := 5, cells := 0, slots := 0, locals := 119 }) h0 ad cid [.int b, .long nn] sg gm lg (fun r v => v = (sg, gm, lg)) := by
  intro sz
  refine Met.ofW (cc := cX13_letter) (maxL := 5) (ret := (some .int)) (by decide) rfl ?_
  intro p e s m args below meth c s₁ B hml hv
  obtain ⟨rfl, hsz, hP, hK, hD0⟩ := hv
  have hx := B.exec
  have hb := B.bytes
  have hr := B.returns
  have hts := atoms_spec (ws := wm_X13_letter) B.pre
  have htb := fun (w : Cond) (h : w ∈ tb) => hts w (List.mem_cons_of_mem _ h)
  have hown : s.vm.findClass RX13 = some m.cls := findClass_of_methodNamed B.named
  have hlocks := B.notSynchronized
  subst hsz
  have hD := hD0.self (sz := s.heap.size)
  generalize hAe : va_A (mW h0 ad cid sg gm lg) s.heap.size = A at hD ⊢
  have hA : ∀ q : Nat, s.heap.size ≤ q → A q := fun q h => by rw [← hAe]; exact Or.inr h
  have hS : va_S A s.heap s.heap [] := va_S.rf
  have hl := lv_entry ([.ref h0, .int b, .long nn]) (n := 5) (Nat.le_of_ble_eq_true rfl)
  rw [lg_entry_eq]
  generalize (lg_sl ([.ref h0, .int b, .long nn]) ++ List.replicate (5 - (lg_sl ([.ref h0, .int b, .long nn])).length) Slot.unset).toArray = ls at hl ⊢
  have hl : lv_has ls 5 [(0, .ref h0), (1, .int b), (2, .long nn)] := hl
  have hj29 : ∀ (x4_29 : Int32) (y0_29 : Int32) (_ : iv (-1) 79 x4_29) (_ : iv (-1) 79 b) (H : Heap) (locs : List Loc) (ls : Array Slot), va_P (dC, dI) vwCl (mW h0 ad cid sg gm lg) H → va_D A (mW h0 ad cid sg gm lg) → va_S A s.heap H locs → lv_has ls 5 [(4, .int x4_29), (0, .ref h0), (1, .int b), (2, .long nn)] → W p l e (headSpec wm_X13_letter ({ frames := 5, cells := 0, slots := 0, locals := 119 })).room s m ([.ref h0, .int b, .long nn] : List Value).toArray below meth c H locs 0 0 (MQ below (va_Qi (fun r v => v = (sg, gm, lg)) (MB dC dI h0 ad cid A) A) ([.ref h0, .int b, .long nn] : List Value).toArray s 0 0 A) (F0 m 29 ls [.int y0_29]) := by
    intro x4_29 y0_29 hx4_29 hsx1_29 H locs ls hP hD hS hl
    exact W.iret (v := y0_29) hx hb hr (fun t ht hW => ⟨⟨y0_29, (sg, gm, lg), rfl, rfl, by rw [ht]; exact hP, va_K.moved hW.alike hK, hD⟩, hS.F ht⟩) hS.2.2 dX13_letter_29
  refine lv_aload_n hx hb dX13_letter_0 rfl (lv_at hl 0 rfl) ?_
  refine lv_iload_n hx hb dX13_letter_1 rfl (lv_at hl 1 rfl) ?_
  refine lv_lload_n hx hb dX13_letter_2 rfl (lv_at hl 2 rfl) ?_
  refine mr_calli (rest := []) ⟨hx, hb, hml, hown, htb⟩ (f_tells l dC dI h0 ad cid sg gm lg b nn hI hvb (by have := i32_0; have := i32_1; have := i32_2; have := i32_m1; have := (show iv 0 80 (sg 41) from MI_s hI 41).1; have := (show iv 0 80 (sg 41) from MI_s hI 41).2; have := (hvb).1; have := (hvb).2; omega) hac) (cwV 2 htb (gd_V kw_1263 kw_1264 kw_120 kw_160 kw_1630) rfl rfl rfl (by decide +kernel) ⟨Nat.le_of_ble_eq_true rfl, Nat.le_of_ble_eq_true rfl⟩) rfl hl.1 rfl (Nat.le_of_ble_eq_true rfl) dX13_letter_3 ⟨Nat.zero_le _, Nat.zero_le _⟩ hK hP hD hS hA (fun r_1 u_2 H locs hw hP hD hS => ?_)
  obtain ⟨hr_1, fL_r_1, rfl⟩ := hw
  have hP : va_P (dC, dI) vwCl (mW h0 ad cid sg gm lg) H := hP
  have hD : va_D A (mW h0 ad cid sg gm lg) := hD
  refine lv_istore (lv' := [(4, .int r_1), (0, .ref h0), (1, .int b), (2, .long nn)]) hx hb dX13_letter_6 hl (by decide) rfl (fun ls hl => ?_)
  refine lv_iload hx hb dX13_letter_8 (lv_at hl 0 rfl) ?_
  refine lv_iconst (v := (-1)) hx hb dX13_letter_10 (by decide) ?_
  refine lv_icmp_ne (tgt := 18) hx hb dX13_letter_11 (by decide) (fun c_3 => ?_) (fun c_3 => ?_)
  · have h_4 : iv 0 79 r_1 := iv_neL c_3 hr_1 (by decide)
    refine lv_aload_n hx hb dX13_letter_18 rfl (lv_at hl 1 rfl) ?_
    refine lv_iload hx hb dX13_letter_19 (lv_at hl 0 rfl) ?_
    refine lv_lload_n hx hb dX13_letter_21 rfl (lv_at hl 3 rfl) ?_
    refine mr_calll (rest := []) ⟨hx, hb, hml, hown, htb⟩ (f_word l dC dI h0 ad cid sg gm lg r_1 nn hI h_4) (cwV 2 htb (gd_V kw_1201 kw_1202 kw_96 kw_160 kw_1603) rfl rfl rfl (by decide +kernel) ⟨Nat.le_of_ble_eq_true rfl, Nat.le_of_ble_eq_true rfl⟩) rfl hl.1 rfl (Nat.le_of_ble_eq_true rfl) dX13_letter_22 ⟨Nat.zero_le _, Nat.zero_le _⟩ hK hP hD hS hA (fun r_5 u_6 H locs hw hP hD hS => ?_)
    obtain ⟨fW_r_5, rfl⟩ := hw
    have hP : va_P (dC, dI) vwCl (mW h0 ad cid sg gm lg) H := hP
    have hD : va_D A (mW h0 ad cid sg gm lg) := hD
    refine lv_l2i (v := (r_5).toInt32) hx hb dX13_letter_25 rfl ?_
    refine lv_topi (fun z_7 ez_7 => ?_)
    refine lv_bipush (v := 97) hx hb dX13_letter_26 (by decide) ?_
    refine lv_isub hx hb dX13_letter_28 ?_
    refine lv_topi (fun z_8 ez_8 => ?_)
    exact hj29 r_1 z_8 (iv_w h_4 (by decide)) hvb _ _ _ hP hD hS (lv_sub hl [0, 1, 2, 3] rfl)
  · have h_9 : iv (-1) (-1) r_1 := iv_eq c_3 hr_1 (iv_k (by decide) : iv (-1) (-1) (-1)) (by decide)
    refine lv_iconst (v := (-1)) hx hb dX13_letter_14 (by decide) ?_
    refine lv_goto (tgt := 29) hx hb dX13_letter_15 (by decide) ?_
    exact hj29 r_1 (-1) (iv_w h_9 (by decide)) hvb _ _ _ hP hD hS (lv_sub hl [0, 1, 2, 3] rfl)

set_option maxHeartbeats 4000000 in
set_option maxRecDepth 100000 in
theorem a_classOf (l : Launch) (dC : Nat → ClassId) (dI : Nat → Nat → Nat) (h0 : Nat) (ad : Nat → Nat) (cid : Nat → ClassId) (sg : Nat → Int32) (gm : Nat → Nat → Int32) (lg : Nat → Nat → Int64) (b : Int32) (hI : MI sg gm) (hvb : iv (-1) 79 b) (hbl : b.toInt < (sg 41).toInt) (hac : ACY sg gm lg) : MMi l dC dI yX13_classOf wm_X13_classOf ({ frames := 5, cells := 0, slots := 0, locals := 119 }) h0 ad cid [.int b] sg gm lg (fun r v => (iv (-1) 7 r) ∧ v = (sg, gm, lg)) := by
  intro sz
  refine Met.ofW (cc := cX13_classOf) (maxL := 3) (ret := (some .int)) (by decide) rfl ?_
  intro p e s m args below meth c s₁ B hml hv
  obtain ⟨rfl, hsz, hP, hK, hD0⟩ := hv
  have hx := B.exec
  have hb := B.bytes
  have hr := B.returns
  have hts := atoms_spec (ws := wm_X13_classOf) B.pre
  have htb := fun (w : Cond) (h : w ∈ tb) => hts w (List.mem_cons_of_mem _ h)
  have hown : s.vm.findClass RX13 = some m.cls := findClass_of_methodNamed B.named
  have hlocks := B.notSynchronized
  subst hsz
  have hD := hD0.self (sz := s.heap.size)
  generalize hAe : va_A (mW h0 ad cid sg gm lg) s.heap.size = A at hD ⊢
  have hA : ∀ q : Nat, s.heap.size ≤ q → A q := fun q h => by rw [← hAe]; exact Or.inr h
  have hS : va_S A s.heap s.heap [] := va_S.rf
  have hl := lv_entry ([.ref h0, .int b]) (n := 3) (Nat.le_of_ble_eq_true rfl)
  rw [lg_entry_eq]
  generalize (lg_sl ([.ref h0, .int b]) ++ List.replicate (3 - (lg_sl ([.ref h0, .int b])).length) Slot.unset).toArray = ls at hl ⊢
  have hl : lv_has ls 3 [(0, .ref h0), (1, .int b)] := hl
  have hj29 : ∀ (x2_29 : Int32) (y0_29 : Int32) (_ : iv (-1) 79 x2_29) (_ : iv (-1) 79 b) (_ : iv (-1) 7 y0_29) (H : Heap) (locs : List Loc) (ls : Array Slot), va_P (dC, dI) vwCl (mW h0 ad cid sg gm lg) H → va_D A (mW h0 ad cid sg gm lg) → va_S A s.heap H locs → lv_has ls 3 [(2, .int x2_29), (0, .ref h0), (1, .int b)] → W p l e (headSpec wm_X13_classOf ({ frames := 5, cells := 0, slots := 0, locals := 119 })).room s m ([.ref h0, .int b] : List Value).toArray below meth c H locs 0 0 (MQ below (va_Qi (fun r v => (iv (-1) 7 r) ∧ v = (sg, gm, lg)) (MB dC dI h0 ad cid A) A) ([.ref h0, .int b] : List Value).toArray s 0 0 A) (F0 m 29 ls [.int y0_29]) := by
    intro x2_29 y0_29 hx2_29 hsx1_29 hy0_29 H locs ls hP hD hS hl
    exact W.iret (v := y0_29) hx hb hr (fun t ht hW => ⟨⟨y0_29, (sg, gm, lg), rfl, ⟨hy0_29, rfl⟩, by rw [ht]; exact hP, va_K.moved hW.alike hK, hD⟩, hS.F ht⟩) hS.2.2 dX13_classOf_29
  refine lv_aload_n hx hb dX13_classOf_0 rfl (lv_at hl 0 rfl) ?_
  refine lv_iload_n hx hb dX13_classOf_1 rfl (lv_at hl 1 rfl) ?_
  refine lv_ldc2 (own := RX13) (v := 427020088179) hx hb hown (htb _ kw_1181) dX13_classOf_2 ?_
  refine mr_calli (rest := []) ⟨hx, hb, hml, hown, htb⟩ (f_tells l dC dI h0 ad cid sg gm lg b 427020088179 hI hvb (by have := i32_0; have := i32_1; have := i32_2; have := i32_m1; have := (show iv 0 80 (sg 41) from MI_s hI 41).1; have := (show iv 0 80 (sg 41) from MI_s hI 41).2; have := (hvb).1; have := (hvb).2; omega) hac) (cwV 2 htb (gd_V kw_1263 kw_1264 kw_120 kw_160 kw_1630) rfl rfl rfl (by decide +kernel) ⟨Nat.le_of_ble_eq_true rfl, Nat.le_of_ble_eq_true rfl⟩) rfl hl.1 rfl (Nat.le_of_ble_eq_true rfl) dX13_classOf_5 ⟨Nat.zero_le _, Nat.zero_le _⟩ hK hP hD hS hA (fun r_1 u_2 H locs hw hP hD hS => ?_)
  obtain ⟨hr_1, fL_r_1, rfl⟩ := hw
  have hP : va_P (dC, dI) vwCl (mW h0 ad cid sg gm lg) H := hP
  have hD : va_D A (mW h0 ad cid sg gm lg) := hD
  refine lv_istore_n (lv' := [(2, .int r_1), (0, .ref h0), (1, .int b)]) hx hb dX13_classOf_8 rfl hl (by decide) rfl (fun ls hl => ?_)
  refine lv_iload_n hx hb dX13_classOf_9 rfl (lv_at hl 0 rfl) ?_
  refine lv_iconst (v := (-1)) hx hb dX13_classOf_10 (by decide) ?_
  refine lv_icmp_ne (tgt := 18) hx hb dX13_classOf_11 (by decide) (fun c_3 => ?_) (fun c_3 => ?_)
  · have h_4 : iv 0 79 r_1 := iv_neL c_3 hr_1 (by decide)
    refine lv_aload_n hx hb dX13_classOf_18 rfl (lv_at hl 1 rfl) ?_
    refine lv_iload_n hx hb dX13_classOf_19 rfl (lv_at hl 0 rfl) ?_
    refine lv_ldc2 (own := RX13) (v := 427020088179) hx hb hown (htb _ kw_1181) dX13_classOf_20 ?_
    refine mr_calll (rest := []) ⟨hx, hb, hml, hown, htb⟩ (f_word l dC dI h0 ad cid sg gm lg r_1 427020088179 hI h_4) (cwV 2 htb (gd_V kw_1201 kw_1202 kw_96 kw_160 kw_1603) rfl rfl rfl (by decide +kernel) ⟨Nat.le_of_ble_eq_true rfl, Nat.le_of_ble_eq_true rfl⟩) rfl hl.1 rfl (Nat.le_of_ble_eq_true rfl) dX13_classOf_23 ⟨Nat.zero_le _, Nat.zero_le _⟩ hK hP hD hS hA (fun r_5 u_6 H locs hw hP hD hS => ?_)
    obtain ⟨fW_r_5, rfl⟩ := hw
    have hP : va_P (dC, dI) vwCl (mW h0 ad cid sg gm lg) H := hP
    have hD : va_D A (mW h0 ad cid sg gm lg) := hD
    have hPc := hP.sub (ws' := []) [] rfl
    have hDc := hD.sub (ws' := []) [] (by decide) rfl
    have hKc := hK.sub (tys' := []) [] rfl
    have hFc := va_free (wc := []) hD hS hA [] rfl
    refine va_calli (va_runS (As := [.long r_5]) (rest := []) ⟨hx, hb, hml, hown, htb⟩ (a_classIn l dC dI H.size r_5) (va_cwS 1 htb (gd_S kw_1205 kw_1206 kw_160 kw_1604) rfl rfl rfl (by decide +kernel) ⟨Nat.le_of_ble_eq_true rfl, Nat.le_of_ble_eq_true rfl⟩) ⟨fun a U g mk q => by obtain ⟨q0, q1, qP, qK, qD⟩ := q; exact ⟨q0, q1, qP, va_K.moved (u := U) (U := U.calling g mk a) (Vm.Alike.refl U.vm) qK, qD⟩, fun U hU hW => ⟨rfl, by rw [hU], by rw [hU]; exact hPc, va_K.moved hW.alike hKc, hDc.weaken (fun _ _ _ _ => trivial)⟩⟩ rfl rfl hl.1 rfl (lv_room (Nat.le_of_ble_eq_true rfl)) dX13_classOf_26 ⟨Nat.zero_le _, Nat.zero_le _⟩) hS (fun q _ h => hFc q h) hFc (fun r_7 u9 t H1 locs ht hvm hw hB hz1 hk1 hS => ?_)
    have hP := ms_kept hP hz1 hk1
    generalize H1 = H at hP hS ⊢
    have hr_7 := hw
    exact hj29 r_1 r_7 (iv_w h_4 (by decide)) hvb hr_7 _ _ _ hP hD hS (lv_sub hl [0, 1, 2] rfl)
  · have h_8 : iv (-1) (-1) r_1 := iv_eq c_3 hr_1 (iv_k (by decide) : iv (-1) (-1) (-1)) (by decide)
    refine lv_iconst (v := (-1)) hx hb dX13_classOf_14 (by decide) ?_
    refine lv_goto (tgt := 29) hx hb dX13_classOf_15 (by decide) ?_
    exact hj29 r_1 (-1) (iv_w h_8 (by decide)) hvb (iv_w (iv_k (by decide) : iv (-1) (-1) (-1)) (by decide)) _ _ _ hP hD hS (lv_sub hl [0, 1, 2] rfl)

set_option maxHeartbeats 4000000 in
set_option maxRecDepth 100000 in
theorem f_argsOf (l : Launch) (dC : Nat → ClassId) (dI : Nat → Nat → Nat) (h0 : Nat) (ad : Nat → Nat) (cid : Nat → ClassId) (sg : Nat → Int32) (gm : Nat → Nat → Int32) (lg : Nat → Nat → Int64) (b : Int32) (hI : MI sg gm) (hvb : iv 0 79 b) (hbl : b.toInt < (sg 41).toInt) (hac : ACY sg gm lg) : MMi l dC dI yX13_argsOf wm_X13_argsOf ({ frames := 4, cells := 0, slots := 0, locals := 95 }) h0 ad cid [.int b] sg gm lg (fun r v => (iv 0 79 r) ∧ (r = mAO sg gm lg b) ∧ (r.toInt < (sg 41).toInt) ∧ v = (sg, gm, lg)) := by
  intro sz
  refine Met.ofW (cc := cX13_argsOf) (maxL := 3) (ret := (some .int)) (by decide) rfl ?_
  intro p e s m args below meth c s₁ B hml hv
  obtain ⟨rfl, hsz, hP, hK, hD0⟩ := hv
  have hx := B.exec
  have hb := B.bytes
  have hr := B.returns
  have hts := atoms_spec (ws := wm_X13_argsOf) B.pre
  have htb := fun (w : Cond) (h : w ∈ tb) => hts w (List.mem_cons_of_mem _ h)
  have hown : s.vm.findClass RX13 = some m.cls := findClass_of_methodNamed B.named
  have hlocks := B.notSynchronized
  subst hsz
  have hD := hD0.self (sz := s.heap.size)
  generalize hAe : va_A (mW h0 ad cid sg gm lg) s.heap.size = A at hD ⊢
  have hA : ∀ q : Nat, s.heap.size ≤ q → A q := fun q h => by rw [← hAe]; exact Or.inr h
  have hS : va_S A s.heap s.heap [] := va_S.rf
  have hl := lv_entry ([.ref h0, .int b]) (n := 3) (Nat.le_of_ble_eq_true rfl)
  rw [lg_entry_eq]
  generalize (lg_sl ([.ref h0, .int b]) ++ List.replicate (3 - (lg_sl ([.ref h0, .int b])).length) Slot.unset).toArray = ls at hl ⊢
  have hl : lv_has ls 3 [(0, .ref h0), (1, .int b)] := hl
  have hj36 : ∀ (x2_36 : Int32) (_ : iv 0 79 x2_36) (_ : iv 0 79 b) (_ : x2_36 = mAO sg gm lg b) (_ : x2_36.toInt < (sg 41).toInt) (H : Heap) (locs : List Loc) (ls : Array Slot), va_P (dC, dI) vwCl (mW h0 ad cid sg gm lg) H → va_D A (mW h0 ad cid sg gm lg) → va_S A s.heap H locs → lv_has ls 3 [(2, .int x2_36), (0, .ref h0), (1, .int b)] → W p l e (headSpec wm_X13_argsOf ({ frames := 4, cells := 0, slots := 0, locals := 95 })).room s m ([.ref h0, .int b] : List Value).toArray below meth c H locs 0 0 (MQ below (va_Qi (fun r v => (iv 0 79 r) ∧ (r = mAO sg gm lg b) ∧ (r.toInt < (sg 41).toInt) ∧ v = (sg, gm, lg)) (MB dC dI h0 ad cid A) A) ([.ref h0, .int b] : List Value).toArray s 0 0 A) (F0 m 36 ls []) := by
    intro x2_36 hx2_36 hsx1_36 hao hlb H locs ls hP hD hS hl
    refine lv_iload_n hx hb dX13_argsOf_36 rfl (lv_at hl 0 rfl) ?_
    exact W.iret (v := x2_36) hx hb hr (fun t ht hW => ⟨⟨x2_36, (sg, gm, lg), rfl, ⟨hx2_36, (hao), (hlb), rfl⟩, by rw [ht]; exact hP, va_K.moved hW.alike hK, hD⟩, hS.F ht⟩) hS.2.2 dX13_argsOf_37
  have hj2 : ∀ (n : Nat) (x2_2 : Int32) (_ : dP sg gm lg x2_2 = n) (_ : iv 0 79 x2_2) (_ : iv 0 79 b) (_ : mAO sg gm lg b = mAO sg gm lg x2_2) (_ : x2_2.toInt < (sg 41).toInt) (H : Heap) (locs : List Loc) (ls : Array Slot), va_P (dC, dI) vwCl (mW h0 ad cid sg gm lg) H → va_D A (mW h0 ad cid sg gm lg) → va_S A s.heap H locs → lv_has ls 3 [(2, .int x2_2), (0, .ref h0), (1, .int b)] → W p l e (headSpec wm_X13_argsOf ({ frames := 4, cells := 0, slots := 0, locals := 95 })).room s m ([.ref h0, .int b] : List Value).toArray below meth c H locs 0 0 (MQ below (va_Qi (fun r v => (iv 0 79 r) ∧ (r = mAO sg gm lg b) ∧ (r.toInt < (sg 41).toInt) ∧ v = (sg, gm, lg)) (MB dC dI h0 ad cid A) A) ([.ref h0, .int b] : List Value).toArray s 0 0 A) (F0 m 2 ls []) := by
    intro n
    induction n using Nat.strongRecOn with
    | ind n ih2 =>
      intro x2_2 hn2 hx2_2 hsx1_2 hao hlb H locs ls hP hD hS hl
      refine lv_aload_n hx hb dX13_argsOf_2 rfl (lv_at hl 1 rfl) ?_
      refine lv_aload_n hx hb dX13_argsOf_3 rfl (lv_at hl 1 rfl) ?_
      refine mr_get (v := .ref (ad 42)) hx hb htb inX13 hown hK hP 42 (by decide) (htb _ kw_1069) rfl dX13_argsOf_4 ?_
      refine lv_iload_n hx hb dX13_argsOf_7 rfl (lv_at hl 0 rfl) ?_
      refine mr_iald hx hb hK hP 33 (k := 42) rfl rfl rfl (show vp_in x2_2 80 from (iv_in hx2_2 (by decide))) dX13_argsOf_8 ?_
      refine lv_topi (fun z_1 ez_1 => ?_)
      have hz_1 : iv 0 79 z_1 := iv_of ez_1 (MI_a hI 42 hx2_2 (by decide))
      refine lv_iconst (v := 4) hx hb dX13_argsOf_9 (by decide) ?_
      refine lv_iconst (v := 0) hx hb dX13_argsOf_10 (by decide) ?_
      refine mr_calli (rest := []) ⟨hx, hb, hml, hown, htb⟩ (f_inner l dC dI h0 ad cid sg gm lg z_1 4 0 hI (iv_w hz_1 (by decide)) (iv_w (iv_k (by decide) : iv 4 4 4) (by decide)) (iv_w (iv_k (by decide) : iv 0 0 0) (by decide))) (cwV 3 htb (gd_V kw_1231 kw_1232 kw_107 kw_160 kw_1615) rfl rfl rfl (by decide +kernel) ⟨Nat.le_of_ble_eq_true rfl, Nat.le_of_ble_eq_true rfl⟩) rfl hl.1 rfl (Nat.le_of_ble_eq_true rfl) dX13_argsOf_11 ⟨Nat.zero_le _, Nat.zero_le _⟩ hK hP hD hS hA (fun r_2 u_3 H locs hw hP hD hS => ?_)
      obtain ⟨hr_2, fN_r_2, rfl⟩ := hw
      have hP : va_P (dC, dI) vwCl (mW h0 ad cid sg gm lg) H := hP
      have hD : va_D A (mW h0 ad cid sg gm lg) := hD
      refine lv_iconst (v := (-1)) hx hb dX13_argsOf_14 (by decide) ?_
      refine lv_icmp_ne (tgt := 36) hx hb dX13_argsOf_15 (by decide) (fun c_4 => ?_) (fun c_4 => ?_)
      · have h_5 : iv 0 79 r_2 := iv_neL c_4 hr_2 (by decide)
        exact hj36 x2_2 hx2_2 hsx1_2 ((hao.trans (ao_y (show iv 0 80 (sg 41) from MI_s hI 41) hac (hx2_2).1 (fun q9 => c_4 (by rw [fN_r_2, ez_1]; exact q9.1)))).symm) (hlb) _ _ _ hP hD hS (lv_sub hl [0, 1, 2] rfl)
      · have h_6 : iv (-1) (-1) r_2 := iv_eq c_4 hr_2 (iv_k (by decide) : iv (-1) (-1) (-1)) (by decide)
        refine lv_aload_n hx hb dX13_argsOf_18 rfl (lv_at hl 1 rfl) ?_
        refine lv_iload_n hx hb dX13_argsOf_19 rfl (lv_at hl 0 rfl) ?_
        refine mr_calli (rest := []) ⟨hx, hb, hml, hown, htb⟩ (f_parentOf l dC dI h0 ad cid sg gm lg x2_2 hI hx2_2) (cwV 1 htb (gd_V kw_1223 kw_1224 kw_103 kw_160 kw_1611) rfl rfl rfl (by decide +kernel) ⟨Nat.le_of_ble_eq_true rfl, Nat.le_of_ble_eq_true rfl⟩) rfl hl.1 rfl (Nat.le_of_ble_eq_true rfl) dX13_argsOf_20 ⟨Nat.zero_le _, Nat.zero_le _⟩ hK hP hD hS hA (fun r_7 u_8 H locs hw hP hD hS => ?_)
        obtain ⟨hr_7, fP_r_7, rfl⟩ := hw
        have hP : va_P (dC, dI) vwCl (mW h0 ad cid sg gm lg) H := hP
        have hD : va_D A (mW h0 ad cid sg gm lg) := hD
        refine lv_iconst (v := (-1)) hx hb dX13_argsOf_23 (by decide) ?_
        refine lv_icmp_eq (tgt := 36) hx hb dX13_argsOf_24 (by decide) (fun c_9 => ?_) (fun c_9 => ?_)
        · have h_10 : iv (-1) (-1) r_7 := iv_eq c_9 hr_7 (iv_k (by decide) : iv (-1) (-1) (-1)) (by decide)
          exact hj36 x2_2 hx2_2 hsx1_2 ((hao.trans (ao_y (show iv 0 80 (sg 41) from MI_s hI 41) hac (hx2_2).1 (fun q9 => q9.2 (by rw [← fP_r_7]; exact c_9)))).symm) (hlb) _ _ _ hP hD hS (lv_sub hl [0, 1, 2] rfl)
        · have h_11 : iv 0 79 r_7 := iv_neL c_9 hr_7 (by decide)
          refine lv_aload_n hx hb dX13_argsOf_27 rfl (lv_at hl 1 rfl) ?_
          refine lv_iload_n hx hb dX13_argsOf_28 rfl (lv_at hl 0 rfl) ?_
          refine mr_calli (rest := []) ⟨hx, hb, hml, hown, htb⟩ (f_parentOf l dC dI h0 ad cid sg gm lg x2_2 hI hx2_2) (cwV 1 htb (gd_V kw_1223 kw_1224 kw_103 kw_160 kw_1611) rfl rfl rfl (by decide +kernel) ⟨Nat.le_of_ble_eq_true rfl, Nat.le_of_ble_eq_true rfl⟩) rfl hl.1 rfl (Nat.le_of_ble_eq_true rfl) dX13_argsOf_29 ⟨Nat.zero_le _, Nat.zero_le _⟩ hK hP hD hS hA (fun r_12 u_13 H locs hw hP hD hS => ?_)
          obtain ⟨hr_12, fP_r_12, rfl⟩ := hw
          have hP : va_P (dC, dI) vwCl (mW h0 ad cid sg gm lg) H := hP
          have hD : va_D A (mW h0 ad cid sg gm lg) := hD
          obtain rfl : r_7 = r_12 := fP_r_7.trans fP_r_12.symm
          refine lv_istore_n (lv' := [(2, .int r_7), (0, .ref h0), (1, .int b)]) hx hb dX13_argsOf_32 rfl hl (by decide) rfl (fun ls hl => ?_)
          refine lv_goto (tgt := 2) hx hb dX13_argsOf_33 (by decide) ?_
          exact ih2 _ (by rw [← hn2]; exact (dP_lt (show iv 0 80 (sg 41) from MI_s hI 41) hac (hx2_2).1 fP_r_7)) r_7 rfl h_11 hsx1_2 (hao.trans (by rw [ao_n (show iv 0 80 (sg 41) from MI_s hI 41) hac (hx2_2).1 ⟨by rw [← ez_1, ← fN_r_2]; exact c_4, by rw [← fP_r_7]; exact c_9⟩, ← fP_r_7])) (par_lt (show iv 0 80 (sg 41) from MI_s hI 41) fP_r_7) _ _ _ hP hD hS (lv_sub hl [0, 1, 2] rfl)
  refine lv_iload_n hx hb dX13_argsOf_0 rfl (lv_at hl 1 rfl) ?_
  refine lv_istore_n (lv' := [(2, .int b), (0, .ref h0), (1, .int b)]) hx hb dX13_argsOf_1 rfl hl (by decide) rfl (fun ls hl => ?_)
  exact hj2 _ b rfl hvb hvb (rfl) (hbl) _ _ _ hP hD hS (lv_sub hl [0, 1, 2] rfl)

set_option maxHeartbeats 4000000 in
set_option maxRecDepth 100000 in
theorem f_arg (l : Launch) (dC : Nat → ClassId) (dI : Nat → Nat → Nat) (h0 : Nat) (ad : Nat → Nat) (cid : Nat → ClassId) (sg : Nat → Int32) (gm : Nat → Nat → Int32) (lg : Nat → Nat → Int64) (b : Int32) (nx : Int32) (hI : MI sg gm) (hvb : iv 0 79 b) (hvnx : iv 0 80 nx) (hbl : b.toInt < (sg 41).toInt) (hac : ACY sg gm lg) : MMi l dC dI yX13_arg wm_X13_arg ({ frames := 5, cells := 0, slots := 0, locals := 117 }) h0 ad cid [.int b, .int nx] sg gm lg (fun r v => (iv (-1) 79 r) ∧ (r = mArg sg gm lg b nx.toNatClampNeg) ∧ v = (sg, gm, lg)) := by
  intro sz
  refine Met.ofW (cc := cX13_arg) (maxL := 6) (ret := (some .int)) (by decide) rfl ?_
  intro p e s m args below meth c s₁ B hml hv
  obtain ⟨rfl, hsz, hP, hK, hD0⟩ := hv
  have hx := B.exec
  have hb := B.bytes
  have hr := B.returns
  have hts := atoms_spec (ws := wm_X13_arg) B.pre
  have htb := fun (w : Cond) (h : w ∈ tb) => hts w (List.mem_cons_of_mem _ h)
  have hown : s.vm.findClass RX13 = some m.cls := findClass_of_methodNamed B.named
  have hlocks := B.notSynchronized
  subst hsz
  have hD := hD0.self (sz := s.heap.size)
  generalize hAe : va_A (mW h0 ad cid sg gm lg) s.heap.size = A at hD ⊢
  have hA : ∀ q : Nat, s.heap.size ≤ q → A q := fun q h => by rw [← hAe]; exact Or.inr h
  have hS : va_S A s.heap s.heap [] := va_S.rf
  have hl := lv_entry ([.ref h0, .int b, .int nx]) (n := 6) (Nat.le_of_ble_eq_true rfl)
  rw [lg_entry_eq]
  generalize (lg_sl ([.ref h0, .int b, .int nx]) ++ List.replicate (6 - (lg_sl ([.ref h0, .int b, .int nx])).length) Slot.unset).toArray = ls at hl ⊢
  have hl : lv_has ls 6 [(0, .ref h0), (1, .int b), (2, .int nx)] := hl
  have hj51 : ∀ (x5_51 : Int32) (x4_51 : Int32) (x3_51 : Int32) (_ : iv 0 80 x5_51) (_ : iv (-1) 79 x4_51) (_ : iv 0 79 x3_51) (_ : iv 0 79 b) (_ : iv 0 80 nx) (_ : x4_51 = mArg sg gm lg b nx.toNatClampNeg) (H : Heap) (locs : List Loc) (ls : Array Slot), va_P (dC, dI) vwCl (mW h0 ad cid sg gm lg) H → va_D A (mW h0 ad cid sg gm lg) → va_S A s.heap H locs → lv_has ls 6 [(5, .int x5_51), (4, .int x4_51), (3, .int x3_51), (0, .ref h0), (1, .int b), (2, .int nx)] → W p l e (headSpec wm_X13_arg ({ frames := 5, cells := 0, slots := 0, locals := 117 })).room s m ([.ref h0, .int b, .int nx] : List Value).toArray below meth c H locs 0 0 (MQ below (va_Qi (fun r v => (iv (-1) 79 r) ∧ (r = mArg sg gm lg b nx.toNatClampNeg) ∧ v = (sg, gm, lg)) (MB dC dI h0 ad cid A) A) ([.ref h0, .int b, .int nx] : List Value).toArray s 0 0 A) (F0 m 51 ls []) := by
    intro x5_51 x4_51 x3_51 hx5_51 hx4_51 hx3_51 hsx1_51 hsx2_51 hr9 H locs ls hP hD hS hl
    refine lv_iload hx hb dX13_arg_51 (lv_at hl 1 rfl) ?_
    exact W.iret (v := x4_51) hx hb hr (fun t ht hW => ⟨⟨x4_51, (sg, gm, lg), rfl, ⟨hx4_51, (hr9), rfl⟩, by rw [ht]; exact hP, va_K.moved hW.alike hK, hD⟩, hS.F ht⟩) hS.2.2 dX13_arg_53
  have hj23 : ∀ (n : Nat) (x5_23 : Int32) (x4_23 : Int32) (x3_23 : Int32) (_ : (80 - x5_23.toInt).toNat = n) (_ : iv 0 80 x5_23) (_ : iv (-1) 79 x4_23) (_ : iv 0 79 x3_23) (_ : iv 0 79 b) (_ : iv 0 80 nx) (_ : x4_23 = argF sg gm x3_23 x5_23.toNatClampNeg) (_ : x5_23.toInt ≤ nx.toInt) (_ : x3_23 = gm 42 (mAO sg gm lg b).toNatClampNeg) (H : Heap) (locs : List Loc) (ls : Array Slot), va_P (dC, dI) vwCl (mW h0 ad cid sg gm lg) H → va_D A (mW h0 ad cid sg gm lg) → va_S A s.heap H locs → lv_has ls 6 [(5, .int x5_23), (4, .int x4_23), (3, .int x3_23), (0, .ref h0), (1, .int b), (2, .int nx)] → W p l e (headSpec wm_X13_arg ({ frames := 5, cells := 0, slots := 0, locals := 117 })).room s m ([.ref h0, .int b, .int nx] : List Value).toArray below meth c H locs 0 0 (MQ below (va_Qi (fun r v => (iv (-1) 79 r) ∧ (r = mArg sg gm lg b nx.toNatClampNeg) ∧ v = (sg, gm, lg)) (MB dC dI h0 ad cid A) A) ([.ref h0, .int b, .int nx] : List Value).toArray s 0 0 A) (F0 m 23 ls []) := by
    intro n
    induction n using Nat.strongRecOn with
    | ind n ih23 =>
      intro x5_23 x4_23 x3_23 hn23 hx5_23 hx4_23 hx3_23 hsx1_23 hsx2_23 hag hln he9 H locs ls hP hD hS hl
      refine lv_iload hx hb dX13_arg_23 (lv_at hl 0 rfl) ?_
      refine lv_iload_n hx hb dX13_arg_25 rfl (lv_at hl 5 rfl) ?_
      refine lv_icmp_ge (tgt := 51) hx hb dX13_arg_26 (by decide) (fun c_1 => ?_) (fun c_1 => ?_)
      · have d_2 : (nx : Int32).toInt ≤ (x5_23 : Int32).toInt := Int32.le_iff_toInt_le.mp c_1
        exact hj51 x5_23 x4_23 x3_23 hx5_23 hx4_23 hx3_23 hsx1_23 hsx2_23 (by have q9 : x5_23.toNatClampNeg = nx.toNatClampNeg := (by have := le_cl hx5_23 hvnx (by decide) (by decide) hln; have := le_cl hvnx hx5_23 (by decide) (by decide) (by have := i32_0; have := i32_1; have := i32_2; have := i32_m1; have := (hsx1_23).1; have := (hsx1_23).2; have := (hsx2_23).1; have := (hsx2_23).2; have := (hx5_23).1; have := (hx5_23).2; have := (hx4_23).1; have := (hx4_23).2; have := (hx3_23).1; have := (hx3_23).2; omega); omega); unfold mArg; rw [← he9, ← q9]; exact hag) _ _ _ hP hD hS (lv_sub hl [0, 1, 2, 3, 4, 5] rfl)
      · have d_3 : (x5_23 : Int32).toInt < (nx : Int32).toInt := Int32.lt_iff_toInt_lt.mp (i32_lt c_1)
        have h_4 : iv 0 79 x5_23 := iv_ltL (i32_lt c_1) hx5_23 hsx2_23 (by decide)
        have h_5 : iv 1 80 nx := iv_ltR (i32_lt c_1) hx5_23 hsx2_23 (by decide)
        refine lv_iload hx hb dX13_arg_29 (lv_at hl 1 rfl) ?_
        refine lv_iconst (v := (-1)) hx hb dX13_arg_31 (by decide) ?_
        refine lv_icmp_eq (tgt := 51) hx hb dX13_arg_32 (by decide) (fun c_6 => ?_) (fun c_6 => ?_)
        · have h_7 : iv (-1) (-1) x4_23 := iv_eq c_6 hx4_23 (iv_k (by decide) : iv (-1) (-1) (-1)) (by decide)
          exact hj51 x5_23 x4_23 x3_23 (iv_w h_4 (by decide)) (iv_w h_7 (by decide)) hx3_23 hsx1_23 (iv_w h_5 (by decide)) (by unfold mArg; rw [← he9, argF_no (hag.symm.trans c_6) _ (le_cl (show iv 0 80 x5_23 from (iv_w h_4 (by decide))) hvnx (by decide) (by decide) hln)]; exact c_6) _ _ _ hP hD hS (lv_sub hl [0, 1, 2, 3, 4, 5] rfl)
        · have h_8 : iv 0 79 x4_23 := iv_neL c_6 hx4_23 (by decide)
          refine lv_aload_n hx hb dX13_arg_35 rfl (lv_at hl 3 rfl) ?_
          refine lv_iload_n hx hb dX13_arg_36 rfl (lv_at hl 2 rfl) ?_
          refine lv_iconst (v := 4) hx hb dX13_arg_37 (by decide) ?_
          refine lv_iload hx hb dX13_arg_38 (lv_at hl 1 rfl) ?_
          refine mr_calli (rest := []) ⟨hx, hb, hml, hown, htb⟩ (f_inner l dC dI h0 ad cid sg gm lg x3_23 4 x4_23 hI (iv_w hx3_23 (by decide)) (iv_w (iv_k (by decide) : iv 4 4 4) (by decide)) h_8) (cwV 3 htb (gd_V kw_1231 kw_1232 kw_107 kw_160 kw_1615) rfl rfl rfl (by decide +kernel) ⟨Nat.le_of_ble_eq_true rfl, Nat.le_of_ble_eq_true rfl⟩) rfl hl.1 rfl (Nat.le_of_ble_eq_true rfl) dX13_arg_40 ⟨Nat.zero_le _, Nat.zero_le _⟩ hK hP hD hS hA (fun r_9 u_10 H locs hw hP hD hS => ?_)
          obtain ⟨hr_9, fN_r_9, rfl⟩ := hw
          have hP : va_P (dC, dI) vwCl (mW h0 ad cid sg gm lg) H := hP
          have hD : va_D A (mW h0 ad cid sg gm lg) := hD
          refine lv_istore (lv' := [(4, .int r_9), (5, .int x5_23), (3, .int x3_23), (0, .ref h0), (1, .int b), (2, .int nx)]) hx hb dX13_arg_43 hl (by decide) rfl (fun ls hl => ?_)
          obtain ⟨z_11, ez_11⟩ : ∃ z : Int32, z = x5_23 + 1 := ⟨_, rfl⟩
          have hz_11 : iv 1 80 z_11 := iv_of ez_11 (iv_add h_4 (iv_k (by decide) : iv 1 1 1) (by decide))
          have tz_11 : z_11.toInt = x5_23.toInt + 1 := by rw [ez_11]; exact iv_addE h_4 (iv_k (by decide) : iv 1 1 1) (by decide)
          refine lv_iinc (v := z_11) (lv' := [(5, .int z_11), (4, .int r_9), (3, .int x3_23), (0, .ref h0), (1, .int b), (2, .int nx)]) hx hb dX13_arg_45 hl (k := 1) rfl ez_11.symm (by decide) rfl (fun ls hl => ?_)
          refine lv_goto (tgt := 23) hx hb dX13_arg_48 (by decide) ?_
          exact ih23 _ (by rw [← hn23]; exact (iv_meas tz_11 h_4 (by decide))) z_11 r_9 x3_23 rfl (iv_w hz_11 (by decide)) hr_9 hx3_23 hsx1_23 (iv_w h_5 (by decide)) (by rw [s_cl h_4 (by decide) tz_11]; exact argF_s hag c_6 fN_r_9) (by have := i32_0; have := i32_1; have := i32_2; have := i32_m1; have := (show iv 0 1200 (sg 20) from MI_s hI 20).1; have := (show iv 0 1200 (sg 20) from MI_s hI 20).2; have := (show iv 0 1201 (sg 21) from MI_s hI 21).1; have := (show iv 0 1201 (sg 21) from MI_s hI 21).2; have := (show iv 0 3 (sg 22) from MI_s hI 22).1; have := (show iv 0 3 (sg 22) from MI_s hI 22).2; have := (show iv 0 80 (sg 24) from MI_s hI 24).1; have := (show iv 0 80 (sg 24) from MI_s hI 24).2; have := (show iv 0 1201 (sg 25) from MI_s hI 25).1; have := (show iv 0 1201 (sg 25) from MI_s hI 25).2; have := (hsx1_23).1; have := (hsx1_23).2; have := (h_5).1; have := (h_5).2; have := (h_4).1; have := (h_4).2; have := (h_8).1; have := (h_8).2; have := (hx3_23).1; have := (hx3_23).2; have := (hr_9).1; have := (hr_9).2; have := (hz_11).1; have := (hz_11).2; omega) (he9) _ _ _ hP hD hS (lv_sub hl [0, 1, 2, 3, 4, 5] rfl)
  refine lv_aload_n hx hb dX13_arg_0 rfl (lv_at hl 0 rfl) ?_
  refine mr_get (v := .ref (ad 42)) hx hb htb inX13 hown hK hP 42 (by decide) (htb _ kw_1069) rfl dX13_arg_1 ?_
  refine lv_aload_n hx hb dX13_arg_4 rfl (lv_at hl 0 rfl) ?_
  refine lv_iload_n hx hb dX13_arg_5 rfl (lv_at hl 1 rfl) ?_
  refine mr_calli (rest := [.ref (ad 42)]) ⟨hx, hb, hml, hown, htb⟩ (f_argsOf l dC dI h0 ad cid sg gm lg b hI hvb (by have := i32_0; have := i32_1; have := i32_2; have := i32_m1; have := (show iv 0 80 (sg 41) from MI_s hI 41).1; have := (show iv 0 80 (sg 41) from MI_s hI 41).2; have := (hvb).1; have := (hvb).2; have := (hvnx).1; have := (hvnx).2; omega) hac) (cwV 1 htb (gd_V kw_1259 kw_1260 kw_118 kw_160 kw_1628) rfl rfl rfl (by decide +kernel) ⟨Nat.le_of_ble_eq_true rfl, Nat.le_of_ble_eq_true rfl⟩) rfl hl.1 rfl (Nat.le_of_ble_eq_true rfl) dX13_arg_6 ⟨Nat.zero_le _, Nat.zero_le _⟩ hK hP hD hS hA (fun r_12 u_13 H locs hw hP hD hS => ?_)
  obtain ⟨hr_12, fAO_r_12, fab_r_12, rfl⟩ := hw
  have hP : va_P (dC, dI) vwCl (mW h0 ad cid sg gm lg) H := hP
  have hD : va_D A (mW h0 ad cid sg gm lg) := hD
  refine mr_iald hx hb hK hP 33 (k := 42) rfl rfl rfl (show vp_in r_12 80 from (iv_in hr_12 (by decide))) dX13_arg_9 ?_
  refine lv_topi (fun z_14 ez_14 => ?_)
  have hz_14 : iv 0 79 z_14 := iv_of ez_14 (MI_a hI 42 hr_12 (by decide))
  refine lv_istore_n (lv' := [(3, .int z_14), (0, .ref h0), (1, .int b), (2, .int nx)]) hx hb dX13_arg_10 rfl hl (by decide) rfl (fun ls hl => ?_)
  refine lv_aload_n hx hb dX13_arg_11 rfl (lv_at hl 1 rfl) ?_
  refine lv_iload_n hx hb dX13_arg_12 rfl (lv_at hl 0 rfl) ?_
  refine lv_iconst (v := 4) hx hb dX13_arg_13 (by decide) ?_
  refine lv_iconst (v := 0) hx hb dX13_arg_14 (by decide) ?_
  refine mr_calli (rest := []) ⟨hx, hb, hml, hown, htb⟩ (f_inner l dC dI h0 ad cid sg gm lg z_14 4 0 hI (iv_w hz_14 (by decide)) (iv_w (iv_k (by decide) : iv 4 4 4) (by decide)) (iv_w (iv_k (by decide) : iv 0 0 0) (by decide))) (cwV 3 htb (gd_V kw_1231 kw_1232 kw_107 kw_160 kw_1615) rfl rfl rfl (by decide +kernel) ⟨Nat.le_of_ble_eq_true rfl, Nat.le_of_ble_eq_true rfl⟩) rfl hl.1 rfl (Nat.le_of_ble_eq_true rfl) dX13_arg_15 ⟨Nat.zero_le _, Nat.zero_le _⟩ hK hP hD hS hA (fun r_15 u_16 H locs hw hP hD hS => ?_)
  obtain ⟨hr_15, fN_r_15, rfl⟩ := hw
  have hP : va_P (dC, dI) vwCl (mW h0 ad cid sg gm lg) H := hP
  have hD : va_D A (mW h0 ad cid sg gm lg) := hD
  refine lv_istore (lv' := [(4, .int r_15), (3, .int z_14), (0, .ref h0), (1, .int b), (2, .int nx)]) hx hb dX13_arg_18 hl (by decide) rfl (fun ls hl => ?_)
  refine lv_iconst (v := 0) hx hb dX13_arg_20 (by decide) ?_
  refine lv_istore (lv' := [(5, .int 0), (4, .int r_15), (3, .int z_14), (0, .ref h0), (1, .int b), (2, .int nx)]) hx hb dX13_arg_21 hl (by decide) rfl (fun ls hl => ?_)
  exact hj23 _ 0 r_15 z_14 rfl (iv_w (iv_k (by decide) : iv 0 0 0) (by decide)) hr_15 hz_14 hvb hvnx (fN_r_15) (by have := i32_0; have := i32_1; have := i32_2; have := i32_m1; have := (show iv 0 1200 (sg 20) from MI_s hI 20).1; have := (show iv 0 1200 (sg 20) from MI_s hI 20).2; have := (show iv 0 1201 (sg 21) from MI_s hI 21).1; have := (show iv 0 1201 (sg 21) from MI_s hI 21).2; have := (show iv 0 3 (sg 22) from MI_s hI 22).1; have := (show iv 0 3 (sg 22) from MI_s hI 22).2; have := (show iv 0 80 (sg 24) from MI_s hI 24).1; have := (show iv 0 80 (sg 24) from MI_s hI 24).2; have := (show iv 0 1201 (sg 25) from MI_s hI 25).1; have := (show iv 0 1201 (sg 25) from MI_s hI 25).2; have := (hvb).1; have := (hvb).2; have := (hvnx).1; have := (hvnx).2; have := (hr_12).1; have := (hr_12).2; have := (hz_14).1; have := (hz_14).2; have := (hr_15).1; have := (hr_15).2; omega) (by rw [← fAO_r_12]; exact ez_14) _ _ _ hP hD hS (lv_sub hl [0, 1, 2, 3, 4, 5] rfl)

set_option maxHeartbeats 4000000 in
set_option maxRecDepth 100000 in
theorem f_args (l : Launch) (dC : Nat → ClassId) (dI : Nat → Nat → Nat) (h0 : Nat) (ad : Nat → Nat) (cid : Nat → ClassId) (sg : Nat → Int32) (gm : Nat → Nat → Int32) (lg : Nat → Nat → Int64) (b : Int32) (hI : MI sg gm) (hvb : iv 0 79 b) (hbl : b.toInt < (sg 41).toInt) (hac : ACY sg gm lg) (hst : STR sg gm lg) : MMi l dC dI yX13_args wm_X13_args ({ frames := 6, cells := 0, slots := 0, locals := 142 }) h0 ad cid [.int b] sg gm lg (fun r v => (iv 0 4 r) ∧ (∀ k9, 0 ≤ k9 → k9 < r.toNatClampNeg → ¬ mArg sg gm lg b k9 = -1) ∧ (mArg sg gm lg b r.toNatClampNeg = -1) ∧ v = (sg, gm, lg)) := by
  intro sz
  refine Met.ofW (cc := cX13_args) (maxL := 3) (ret := (some .int)) (by decide) rfl ?_
  intro p e s m args below meth c s₁ B hml hv
  obtain ⟨rfl, hsz, hP, hK, hD0⟩ := hv
  have hx := B.exec
  have hb := B.bytes
  have hr := B.returns
  have hts := atoms_spec (ws := wm_X13_args) B.pre
  have htb := fun (w : Cond) (h : w ∈ tb) => hts w (List.mem_cons_of_mem _ h)
  have hown : s.vm.findClass RX13 = some m.cls := findClass_of_methodNamed B.named
  have hlocks := B.notSynchronized
  subst hsz
  have hD := hD0.self (sz := s.heap.size)
  generalize hAe : va_A (mW h0 ad cid sg gm lg) s.heap.size = A at hD ⊢
  have hA : ∀ q : Nat, s.heap.size ≤ q → A q := fun q h => by rw [← hAe]; exact Or.inr h
  have hS : va_S A s.heap s.heap [] := va_S.rf
  have hl := lv_entry ([.ref h0, .int b]) (n := 3) (Nat.le_of_ble_eq_true rfl)
  rw [lg_entry_eq]
  generalize (lg_sl ([.ref h0, .int b]) ++ List.replicate (3 - (lg_sl ([.ref h0, .int b])).length) Slot.unset).toArray = ls at hl ⊢
  have hl : lv_has ls 3 [(0, .ref h0), (1, .int b)] := hl
  have hj2 : ∀ (n : Nat) (x2_2 : Int32) (_ : (4 - x2_2.toInt).toNat = n) (_ : iv 0 4 x2_2) (_ : iv 0 79 b) (_ : ∀ k9, 0 ≤ k9 → k9 < x2_2.toNatClampNeg → ¬ mArg sg gm lg b k9 = -1) (H : Heap) (locs : List Loc) (ls : Array Slot), va_P (dC, dI) vwCl (mW h0 ad cid sg gm lg) H → va_D A (mW h0 ad cid sg gm lg) → va_S A s.heap H locs → lv_has ls 3 [(2, .int x2_2), (0, .ref h0), (1, .int b)] → W p l e (headSpec wm_X13_args ({ frames := 6, cells := 0, slots := 0, locals := 142 })).room s m ([.ref h0, .int b] : List Value).toArray below meth c H locs 0 0 (MQ below (va_Qi (fun r v => (iv 0 4 r) ∧ (∀ k9, 0 ≤ k9 → k9 < r.toNatClampNeg → ¬ mArg sg gm lg b k9 = -1) ∧ (mArg sg gm lg b r.toNatClampNeg = -1) ∧ v = (sg, gm, lg)) (MB dC dI h0 ad cid A) A) ([.ref h0, .int b] : List Value).toArray s 0 0 A) (F0 m 2 ls []) := by
    intro n
    induction n using Nat.strongRecOn with
    | ind n ih2 =>
      intro x2_2 hn2 hx2_2 hsx1_2 hal H locs ls hP hD hS hl
      refine lv_aload_n hx hb dX13_args_2 rfl (lv_at hl 1 rfl) ?_
      refine lv_iload_n hx hb dX13_args_3 rfl (lv_at hl 2 rfl) ?_
      refine lv_iload_n hx hb dX13_args_4 rfl (lv_at hl 0 rfl) ?_
      refine mr_calli (rest := []) ⟨hx, hb, hml, hown, htb⟩ (f_arg l dC dI h0 ad cid sg gm lg b x2_2 hI hsx1_2 (iv_w hx2_2 (by decide)) (by have := i32_0; have := i32_1; have := i32_2; have := i32_m1; have := (show iv 0 80 (sg 41) from MI_s hI 41).1; have := (show iv 0 80 (sg 41) from MI_s hI 41).2; have := (hsx1_2).1; have := (hsx1_2).2; have := (hx2_2).1; have := (hx2_2).2; omega) hac) (cwV 2 htb (gd_V kw_1257 kw_1258 kw_117 kw_160 kw_1627) rfl rfl rfl (by decide +kernel) ⟨Nat.le_of_ble_eq_true rfl, Nat.le_of_ble_eq_true rfl⟩) rfl hl.1 rfl (Nat.le_of_ble_eq_true rfl) dX13_args_5 ⟨Nat.zero_le _, Nat.zero_le _⟩ hK hP hD hS hA (fun r_1 u_2 H locs hw hP hD hS => ?_)
      obtain ⟨hr_1, fR_r_1, rfl⟩ := hw
      have hP : va_P (dC, dI) vwCl (mW h0 ad cid sg gm lg) H := hP
      have hD : va_D A (mW h0 ad cid sg gm lg) := hD
      refine lv_iconst (v := (-1)) hx hb dX13_args_8 (by decide) ?_
      refine lv_icmp_eq (tgt := 18) hx hb dX13_args_9 (by decide) (fun c_3 => ?_) (fun c_3 => ?_)
      · have h_4 : iv (-1) (-1) r_1 := iv_eq c_3 hr_1 (iv_k (by decide) : iv (-1) (-1) (-1)) (by decide)
        refine lv_iload_n hx hb dX13_args_18 rfl (lv_at hl 0 rfl) ?_
        exact W.iret (v := x2_2) hx hb hr (fun t ht hW => ⟨⟨x2_2, (sg, gm, lg), rfl, ⟨hx2_2, (hal), (by rw [← fR_r_1]; exact c_3), rfl⟩, by rw [ht]; exact hP, va_K.moved hW.alike hK, hD⟩, hS.F ht⟩) hS.2.2 dX13_args_19
      · have h_5 : iv 0 79 r_1 := iv_neL c_3 hr_1 (by decide)
        have hA9 : ¬ mArg sg gm lg b x2_2.toNatClampNeg = -1 := by rw [← fR_r_1]; exact c_3
        have h12 : iv 0 3 x2_2 := ⟨(hx2_2).1, by have q8 := arg_lt (show iv 0 80 (sg 24) from MI_s hI 24) hst hA9; have q9 := iv_cl hx2_2 (by decide); omega⟩
        obtain ⟨z_6, ez_6⟩ : ∃ z : Int32, z = x2_2 + 1 := ⟨_, rfl⟩
        have hz_6 : iv 1 4 z_6 := iv_of ez_6 (iv_add h12 (iv_k (by decide) : iv 1 1 1) (by decide))
        have tz_6 : z_6.toInt = x2_2.toInt + 1 := by rw [ez_6]; exact iv_addE h12 (iv_k (by decide) : iv 1 1 1) (by decide)
        refine lv_iinc (v := z_6) (lv' := [(2, .int z_6), (0, .ref h0), (1, .int b)]) hx hb dX13_args_12 hl (k := 0) rfl ez_6.symm (by decide) rfl (fun ls hl => ?_)
        refine lv_goto (tgt := 2) hx hb dX13_args_15 (by decide) ?_
        exact ih2 _ (by rw [← hn2]; exact (iv_meas tz_6 h12 (by decide))) z_6 rfl (iv_w hz_6 (by decide)) hsx1_2 (all_s h12 (by decide) tz_6 hal hA9) _ _ _ hP hD hS (lv_sub hl [0, 1, 2] rfl)
  refine lv_iconst (v := 0) hx hb dX13_args_0 (by decide) ?_
  refine lv_istore_n (lv' := [(2, .int 0), (0, .ref h0), (1, .int b)]) hx hb dX13_args_1 rfl hl (by decide) rfl (fun ls hl => ?_)
  exact hj2 _ 0 rfl (iv_w (iv_k (by decide) : iv 0 0 0) (by decide)) hvb (fun k9 _ h9 => absurd h9 (Nat.not_lt_zero _)) _ _ _ hP hD hS (lv_sub hl [0, 1, 2] rfl)
end
section
/-- the rows that the document's readers look at are alike -/
def DK0 (sg : Nat → Int32) (gm : Nat → Nat → Int32) (lg : Nat → Nat → Int64) (sg2 : Nat → Int32) (gm2 : Nat → Nat → Int32) (lg2 : Nat → Nat → Int64) : Prop := sg2 24 = sg 24 ∧ gm2 26 = gm 26 ∧ gm2 28 = gm 28 ∧ gm2 29 = gm 29 ∧ gm2 30 = gm 30 ∧ gm2 36 = gm 36 ∧ gm2 37 = gm 37 ∧ gm2 38 = gm 38 ∧ lg2 35 = lg 35
def DK (sg : Nat → Int32) (gm : Nat → Nat → Int32) (lg : Nat → Nat → Int64) (sg2 : Nat → Int32) (gm2 : Nat → Nat → Int32) (lg2 : Nat → Nat → Int64) : Prop := DK0 sg gm lg sg2 gm2 lg2 ∧ sg2 41 = sg 41 ∧ gm2 42 = gm 42 ∧ gm2 43 = gm 43
theorem DK0_of {sg sg2 : Nat → Int32} {gm gm2 : Nat → Nat → Int32} {lg lg2 : Nat → Nat → Int64} {Ls Lg Ll : List Nat} (h1 : KS Ls sg sg2) (h2 : KS Lg gm gm2) (h3 : KS Ll lg lg2) (q1 : Ls.contains 24 = false) (q2 : ([26, 28, 29, 30, 36, 37, 38].all fun k => !Lg.contains k) = true) (q3 : Ll.contains 35 = false) : DK0 sg gm lg sg2 gm2 lg2 := by
  have g : ∀ k ∈ [26, 28, 29, 30, 36, 37, 38], gm2 k = gm k := fun k hk => h2 k (by have := List.all_eq_true.mp q2 k hk; simpa using this)
  exact ⟨h1 24 q1, g 26 (by decide), g 28 (by decide), g 29 (by decide), g 30 (by decide), g 36 (by decide), g 37 (by decide), g 38 (by decide), h3 35 q3⟩
theorem DK_of {sg sg2 : Nat → Int32} {gm gm2 : Nat → Nat → Int32} {lg lg2 : Nat → Nat → Int64} {Ls Lg Ll : List Nat} (h1 : KS Ls sg sg2) (h2 : KS Lg gm gm2) (h3 : KS Ll lg lg2) (q1 : (Ls.contains 24 || Ls.contains 41) = false) (q2 : ([26, 28, 29, 30, 36, 37, 38, 42, 43].all fun k => !Lg.contains k) = true) (q3 : Ll.contains 35 = false) : DK sg gm lg sg2 gm2 lg2 := by
  have g : ∀ k ∈ [26, 28, 29, 30, 36, 37, 38, 42, 43], gm2 k = gm k := fun k hk => h2 k (by have := List.all_eq_true.mp q2 k hk; simpa using this)
  have q4 := Bool.or_eq_false_iff.mp q1
  exact ⟨⟨h1 24 q4.1, g 26 (by decide), g 28 (by decide), g 29 (by decide), g 30 (by decide), g 36 (by decide), g 37 (by decide), g 38 (by decide), h3 35 q3⟩, h1 41 q4.2, g 42 (by decide), g 43 (by decide)⟩
section DKL
variable {sg sg2 : Nat → Int32} {gm gm2 : Nat → Nat → Int32} {lg lg2 : Nat → Nat → Int64}
theorem mFind_k (h : DK0 sg gm lg sg2 gm2 lg2) (e : Nat) (nn : Int64) : mFind gm2 lg2 e nn = mFind gm lg e nn := by
  obtain ⟨h24, h26, h28, h29, h30, h36, h37, h38, h35⟩ := h
  unfold mFind; rw [h30, h35]
theorem mHas_k (h : DK0 sg gm lg sg2 gm2 lg2) (e : Nat) (nn : Int64) : mHas gm2 lg2 e nn = mHas gm lg e nn := by
  unfold mHas; rw [mFind_k h]
theorem mWord_k (h : DK0 sg gm lg sg2 gm2 lg2) (e : Nat) (nn : Int64) : mWord gm2 lg2 e nn = mWord gm lg e nn := by
  have f := mFind_k h e nn
  obtain ⟨h24, h26, h28, h29, h30, h36, h37, h38, h35⟩ := h
  unfold mWord; rw [f, h36, h37, h38]
theorem ahN_k (h : DK0 sg gm lg sg2 gm2 lg2) (e : Nat) : ∀ k, ahN gm2 e k = ahN gm e k := by
  obtain ⟨h24, h26, h28, h29, h30, h36, h37, h38, h35⟩ := h
  intro k
  induction k with
  | zero => rfl
  | succ k ih => show ahN gm2 e k + _ = ahN gm e k + _; rw [ih, h28, h26]
theorem GOOD_k (h : DK0 sg gm lg sg2 gm2 lg2) {e : Nat} (q : GOOD gm lg e) : GOOD gm2 lg2 e := by
  have f1 := mHas_k h e
  have f2 := mWord_k h e
  have f3 := ahN_k h e e
  obtain ⟨h24, h26, h28, h29, h30, h36, h37, h38, h35⟩ := h
  unfold GOOD HOLD OL at *
  rw [h26, h29, f1, f1, f1, f2, f2, f3]
  exact q
theorem STR_k (h : DK0 sg gm lg sg2 gm2 lg2) (q : STR sg gm lg) : STR sg2 gm2 lg2 := by
  have f := @GOOD_k _ _ _ _ _ _ h
  obtain ⟨h24, h26, h28, h29, h30, h36, h37, h38, h35⟩ := h
  refine ⟨fun k hk => f (q.1 k (by rw [← h24]; exact hk)), ?_⟩
  rw [h24, h26]; exact q.2
theorem TRE_k (h : DK0 sg gm lg sg2 gm2 lg2) (q : TRE sg gm) : TRE sg2 gm2 := by
  obtain ⟨h24, h26, h28, h29, h30, h36, h37, h38, h35⟩ := h
  exact TRE_keep q h24 h28 h29
theorem qWid_k (h : DK sg gm lg sg2 gm2 lg2) (w : Int64) : qWid gm2 lg2 w = qWid gm lg w := by
  funext j
  have f := mWord_k h.1
  obtain ⟨⟨h24, h26, h28, h29, h30, h36, h37, h38, h35⟩, h41, h42, h43⟩ := h
  unfold qWid; rw [h42, h28, f]
theorem mWid_k (h : DK sg gm lg sg2 gm2 lg2) (w : Int64) : mWid sg2 gm2 lg2 w = mWid sg gm lg w := by
  unfold mWid; rw [qWid_k h, h.2.1]
theorem mPar_k (h : DK sg gm lg sg2 gm2 lg2) : mPar sg2 gm2 lg2 = mPar sg gm lg := by
  funext b
  unfold mPar; rw [mHas_k h.1, mWord_k h.1, mWid_k h, h.2.2.1]
theorem BEL_k (h : DK sg gm lg sg2 gm2 lg2) (q : BEL sg gm) : BEL sg2 gm2 := by
  obtain ⟨⟨h24, h26, h28, h29, h30, h36, h37, h38, h35⟩, h41, h42, h43⟩ := h
  unfold BEL at *; rw [h41, h42, h24, h26, h43]; exact q
theorem ACY_k (h : DK sg gm lg sg2 gm2 lg2) (q : ACY sg gm lg) : ACY sg2 gm2 lg2 := by
  unfold ACY; rw [mPar_k h, h.2.1]; exact q
theorem dP_k (h : DK sg gm lg sg2 gm2 lg2) : dP sg2 gm2 lg2 = dP sg gm lg := by
  funext b; unfold dP; rw [mPar_k h]
theorem qInn_k (h : DK0 sg gm lg sg2 gm2 lg2) (a kd : Int32) : qInn gm2 a kd = qInn gm a kd := by
  funext j
  obtain ⟨h24, h26, h28, h29, h30, h36, h37, h38, h35⟩ := h
  unfold qInn; rw [h28, h26]
theorem mInn_k (h : DK0 sg gm lg sg2 gm2 lg2) (a kd bh : Int32) : mInn sg2 gm2 a kd bh = mInn sg gm a kd bh := by
  unfold mInn; rw [qInn_k h, h.1]
theorem telF_k (h : DK sg gm lg sg2 gm2 lg2) (nn : Int64) : ∀ n b, telF sg2 gm2 lg2 nn n b = telF sg gm lg nn n b := by
  intro n
  induction n with
  | zero => intro b; rfl
  | succ n ih => intro b; show (if _ then _ else _) = (if _ then _ else _); rw [mHas_k h.1, ih, mPar_k h, h.2.2.1]
theorem mTel_k (h : DK sg gm lg sg2 gm2 lg2) (b : Int32) (nn : Int64) : mTel sg2 gm2 lg2 b nn = mTel sg gm lg b nn := by
  unfold mTel; rw [telF_k h, dP_k h]
theorem aoF_k (h : DK sg gm lg sg2 gm2 lg2) : ∀ n b, aoF sg2 gm2 lg2 n b = aoF sg gm lg n b := by
  intro n
  induction n with
  | zero => intro b; rfl
  | succ n ih => intro b; show (if _ then _ else _) = (if _ then _ else _); rw [mInn_k h.1, ih, mPar_k h, h.2.2.1]
theorem mAO_k (h : DK sg gm lg sg2 gm2 lg2) (b : Int32) : mAO sg2 gm2 lg2 b = mAO sg gm lg b := by
  unfold mAO; rw [aoF_k h, dP_k h]
theorem argF_k (h : DK0 sg gm lg sg2 gm2 lg2) (a : Int32) : ∀ n, argF sg2 gm2 a n = argF sg gm a n := by
  intro n
  induction n with
  | zero => exact mInn_k h a 4 0
  | succ n ih => show (if _ then _ else _) = (if _ then _ else _); rw [ih, mInn_k h]
theorem mArg_k (h : DK sg gm lg sg2 gm2 lg2) (b : Int32) (n : Nat) : mArg sg2 gm2 lg2 b n = mArg sg gm lg b n := by
  unfold mArg; rw [argF_k h.1, mAO_k h, h.2.2.1]
end DKL
def mWn (gm : Nat → Nat → Int32) (lg : Nat → Nat → Int64) (e : Nat) : Int64 := mWord gm lg e 1851878757
theorem mWn_k {sg sg2 : Nat → Int32} {gm gm2 : Nat → Nat → Int32} {lg lg2 : Nat → Nat → Int64} (h : DK0 sg gm lg sg2 gm2 lg2) : mWn gm2 lg2 = mWn gm lg := by
  funext e; exact mWord_k h e _
def LW (W : Nat → Int64) (e : Nat) : Prop := 97 ≤ (W e).toInt ∧ (W e).toInt ≤ 122
/-- a row of elements whose names are letters, no two alike -/
def ROWL (W : Nat → Int64) (f : Nat → Int32) (B n : Nat) : Prop := ∀ k, k < n → LW W (f (B + k)).toNatClampNeg ∧ ∀ i, i < k → ¬ W (f (B + i)).toNatClampNeg = W (f (B + k)).toNatClampNeg
theorem row_room {W : Nat → Int64} {f : Nat → Int32} {B n : Nat} {x : Int32} (h : ROWL W f B n) (hx : LW W x.toNatClampNeg) (hn : n ≤ 26) (hne : ∀ k, 0 ≤ k → k < n → ¬ W (f (B + k)).toNatClampNeg = W x.toNatClampNeg) : n ≤ 25 := by
  by_cases h25 : n ≤ 25
  · exact h25
  exfalso
  have e26 : n = 26 := by omega
  subst e26
  obtain ⟨i, j, h1, h2, h3⟩ := pigeon 26 (fun k => if k < 26 then ((W (f (B + k)).toNatClampNeg).toInt - 97).toNat else ((W x.toNatClampNeg).toInt - 97).toNat) (fun k hk => by
    show (if k < 26 then _ else _) < 26
    by_cases q : k < 26
    · rw [if_pos q]; have := (h k q).1; unfold LW at this; omega
    · rw [if_neg q]; unfold LW at hx; omega)
  have h3 : (if i < 26 then ((W (f (B + i)).toNatClampNeg).toInt - 97).toNat else ((W x.toNatClampNeg).toInt - 97).toNat) = (if j < 26 then ((W (f (B + j)).toNatClampNeg).toInt - 97).toNat else ((W x.toNatClampNeg).toInt - 97).toNat) := h3
  rw [if_pos (show i < 26 by omega)] at h3
  have gi := (h i (by omega)).1
  unfold LW at gi hx
  by_cases q : j < 26
  · rw [if_pos q] at h3
    have gj := h j q
    have gj1 := gj.1
    unfold LW at gj1
    exact gj.2 i h1 (Int64.toInt_inj.mp (by omega))
  · rw [if_neg q] at h3
    exact hne i (Nat.zero_le _) (by omega) (Int64.toInt_inj.mp (by omega))
def RWF (f f2 : Nat → Int32) (B : Nat) : Prop := ∀ j, j < B ∨ B + 26 ≤ j → f2 j = f j
def RWK (f f2 : Nat → Int32) (B n n2 : Nat) (x : Int32) : Prop := ∀ k, k < n2 → f2 (B + k) = x ∨ (k < n ∧ f2 (B + k) = f (B + k))
theorem row_rep {W : Nat → Int64} {f f2 : Nat → Int32} {B n k j : Nat} {x : Int32} (h : ROWL W f B n) (h2 : f2 = upd f j x) (hj : j = B + k) (hk : k < n) (hn : n ≤ 26) (hw : W (f (B + k)).toNatClampNeg = W x.toNatClampNeg) : ROWL W f2 B n ∧ RWF f f2 B ∧ RWK f f2 B n n x := by
  subst hj
  have o : ∀ i, i ≠ k → f2 (B + i) = f (B + i) := fun i hi => by rw [h2, upd_ne (by omega)]
  have a : f2 (B + k) = x := by rw [h2, upd_at]
  have w : ∀ i, W (f2 (B + i)).toNatClampNeg = W (f (B + i)).toNatClampNeg := fun i => by
    by_cases q : i = k
    · subst q; rw [a]; exact hw.symm
    · rw [o i q]
  refine ⟨fun i hi => ⟨?_, fun i2 h3 => ?_⟩, fun i hi => ?_, fun i hi => ?_⟩
  · have := (h i hi).1; unfold LW at *; rw [w]; exact this
  · rw [w, w]; exact (h i hi).2 i2 h3
  · rw [h2, upd_ne (by omega)]
  · by_cases q : i = k
    · subst q; exact Or.inl a
    · exact Or.inr ⟨hi, o i q⟩
theorem row_app {W : Nat → Int64} {f f2 : Nat → Int32} {B n j : Nat} {x : Int32} (h : ROWL W f B n) (hx : LW W x.toNatClampNeg) (hn : n ≤ 25) (hne : ∀ k, 0 ≤ k → k < n → ¬ W (f (B + k)).toNatClampNeg = W x.toNatClampNeg) (h2 : f2 = upd f j x) (hj : j = B + n) : ROWL W f2 B (n + 1) ∧ RWF f f2 B ∧ RWK f f2 B n (n + 1) x := by
  subst hj
  have o : ∀ i, i ≠ n → f2 (B + i) = f (B + i) := fun i hi => by rw [h2, upd_ne (by omega)]
  have a : f2 (B + n) = x := by rw [h2, upd_at]
  refine ⟨fun i hi => ?_, fun i hi => ?_, fun i hi => ?_⟩
  · by_cases q : i = n
    · subst q
      rw [a]
      exact ⟨hx, fun i2 h3 => by rw [o i2 (by omega)]; exact hne i2 (Nat.zero_le _) h3⟩
    · rw [o i q]
      exact ⟨(h i (by omega)).1, fun i2 h3 => by rw [o i2 (by omega)]; exact (h i (by omega)).2 i2 h3⟩
  · rw [h2, upd_ne (by omega)]
  · by_cases q : i = n
    · subst q; exact Or.inl a
    · exact Or.inr ⟨by omega, o i q⟩
theorem cl_add {x y z : Int32} {a b c d : Int} (hx : iv a b x) (hy : iv c d y) (ha : 0 ≤ a) (hc : 0 ≤ c) (h : z.toInt = x.toInt + y.toInt) : z.toNatClampNeg = x.toNatClampNeg + y.toNatClampNeg := by
  have k1 := iv_cl hx ha
  have k2 := iv_cl hy hc
  have k3 := iv_cl (a := 0) (b := z.toInt) (x := z) ⟨by have := hx.1; have := hy.1; omega, Int.le_refl _⟩ (by decide)
  omega
/-- the rows of bean b while they are put together -/
def MBS (W : Nat → Int64) (K : Int32 → Prop) (gm gm2 : Nat → Nat → Int32) (b : Nat) : Prop := ROWL W (gm2 45) (26 * b) (gm2 44 b).toNatClampNeg ∧ (∀ k, k < (gm2 44 b).toNatClampNeg → K (gm2 45 (26 * b + k))) ∧ (∀ j, j ≠ b → gm2 44 j = gm 44 j) ∧ RWF (gm 45) (gm2 45) (26 * b) ∧ ROWL W (gm2 47) (26 * b) (gm2 46 b).toNatClampNeg
theorem MBS_0 {W : Nat → Int64} {K : Int32 → Prop} {gm gm2 : Nat → Nat → Int32} {b : Nat} (h44 : gm2 44 = upd (gm 44) b 0) (h46 : gm2 46 = upd (gm 46) b 0) (h45 : gm2 45 = gm 45) : MBS W K gm gm2 b := by
  have e1 : (gm2 44 b).toNatClampNeg = 0 := by rw [h44, upd_at]; rfl
  have e2 : (gm2 46 b).toNatClampNeg = 0 := by rw [h46, upd_at]; rfl
  unfold MBS
  rw [e1, e2]
  exact ⟨fun k hk => by omega, fun k hk => by omega, fun j hj => by rw [h44, upd_ne hj], fun j _ => by rw [h45], fun k hk => by omega⟩
theorem MBS_s {W : Nat → Int64} {K : Int32 → Prop} {gm gm2 gm3 gm4 : Nat → Nat → Int32} {b : Nat} {x r : Int32} (h : MBS W K gm gm2 b) (h1 : ROWL W (gm3 45) (26 * b) r.toNatClampNeg) (h2 : RWF (gm2 45) (gm3 45) (26 * b)) (h3 : RWK (gm2 45) (gm3 45) (26 * b) (gm2 44 b).toNatClampNeg r.toNatClampNeg x) (hx : K x) (e44 : gm4 44 = upd (gm2 44) b r) (e45 : gm4 45 = gm3 45) (e46 : gm4 46 = gm2 46) (e47 : gm4 47 = gm2 47) : MBS W K gm gm4 b := by
  obtain ⟨a1, a2, a3, a4, a5⟩ := h
  have e1 : gm4 44 b = r := by rw [e44, upd_at]
  unfold MBS
  rw [e1, e45, e46, e47]
  refine ⟨h1, fun k hk => ?_, fun j hj => by rw [e44, upd_ne hj]; exact a3 j hj, fun j hj => (h2 j hj).trans (a4 j hj), a5⟩
  rcases h3 k hk with q | ⟨q1, q2⟩
  · rw [q]; exact hx
  · rw [q2]; exact a2 k q1
theorem MBS_l {W : Nat → Int64} {K : Int32 → Prop} {gm gm2 gm4 : Nat → Nat → Int32} {b : Nat} {r : Int32} (h : MBS W K gm gm2 b) (h1 : ROWL W (gm4 47) (26 * b) r.toNatClampNeg) (e46 : gm4 46 = upd (gm2 46) b r) (e45 : gm4 45 = gm2 45) (e44 : gm4 44 = gm2 44) : MBS W K gm gm4 b := by
  obtain ⟨a1, a2, a3, a4, a5⟩ := h
  have e1 : gm4 46 b = r := by rw [e46, upd_at]
  unfold MBS
  rw [e1, e45, e44]
  exact ⟨a1, a2, a3, a4, h1⟩
/-- an element of this kind, of those there are -/
def SEK (sg : Nat → Int32) (gm : Nat → Nat → Int32) (kd : Int32) (x : Int32) : Prop := iv 0 79 x ∧ gm 26 x.toNatClampNeg = kd ∧ x.toNatClampNeg < (sg 24).toNatClampNeg
theorem SEK_of {sg : Nat → Int32} {gm : Nat → Nat → Int32} {a kd bh r : Int32} (hn : iv 0 80 (sg 24)) (hk : ¬ kd = 0) (hr : r = mInn sg gm a kd bh) : r = -1 ∨ (SEK sg gm kd r ∧ bh.toNatClampNeg < r.toNatClampNeg) := by
  rcases mInn_or (gm := gm) (a := a) (kd := kd) (bh := bh) hn with q | ⟨q1, q2, q3, q4, q5, _⟩
  · exact Or.inl (hr.trans q.1)
  · rw [← hr] at q1 q2 q3 q4 q5
    exact Or.inr ⟨⟨iv_w q1 (by decide), q5.resolve_left hk, q3⟩, q2⟩
def mE (x : Int32) : Nat := if x = -1 then 0 else (81 - x.toInt).toNat
theorem mE_lt {x r : Int32} (hx : iv 0 79 x) (hr : iv (-1) 79 r) (h : r = -1 ∨ x.toNatClampNeg < r.toNatClampNeg) : mE r < mE x := by
  have k1 := iv_cl hx (by decide)
  have k2 := hx.2
  have hm : ¬ x = -1 := fun q => by have := hx.1; rw [q] at this; exact absurd this (by decide)
  unfold mE
  rw [if_neg hm]
  rcases h with h | h
  · rw [if_pos h]; omega
  · by_cases q : r = -1
    · rw [if_pos q]; omega
    · rw [if_neg q]
      have q5 : r.toInt ≠ -1 := fun z => q (Int32.toInt_inj.mp z)
      have k3 := iv_cl (show iv 0 79 r from ⟨by have := hr.1; omega, hr.2⟩) (by decide)
      omega
theorem dpF_le (f : Int32 → Int32) : ∀ n b, dpF f n b ≤ n := by
  intro n
  induction n with
  | zero => intro b; exact Nat.le_refl 0
  | succ n ih =>
    intro b
    have h1 := ih (f b)
    rw [dpF_s]
    by_cases h : b = -1
    · rw [if_pos h]; omega
    · rw [if_neg h]; omega
theorem dP_le {sg : Nat → Int32} {gm : Nat → Nat → Int32} {lg : Nat → Nat → Int64} (b : Int32) : dP sg gm lg b ≤ 81 := dpF_le _ 81 b
theorem cl26 {b z : Int32} (hb : iv 0 79 b) (h : z.toInt = 26 * b.toInt) : z.toNatClampNeg = 26 * b.toNatClampNeg := by
  have k1 := iv_cl hb (by decide)
  have k3 := iv_cl (a := 0) (b := z.toInt) (x := z) ⟨by have := hb.1; omega, Int.le_refl _⟩ (by decide)
  omega
theorem SEK_ol {sg : Nat → Int32} {gm : Nat → Nat → Int32} {lg : Nat → Nat → Int64} {kd x : Int32} (h : STR sg gm lg) (hx : SEK sg gm kd x) (hk : kd = 5 ∨ kd = 10) : LW (mWn gm lg) x.toNatClampNeg := by
  obtain ⟨h1, h2, h3⟩ := hx
  refine (h.1 _ h3).2.2.1 ?_
  rw [h2]
  rcases hk with rfl | rfl
  · exact Or.inl rfl
  · exact Or.inr rfl
def DOC1 (sg : Nat → Int32) (gm : Nat → Nat → Int32) (lg : Nat → Nat → Int64) : Prop := TRE sg gm ∧ STR sg gm lg ∧ BEL sg gm ∧ ACY sg gm lg
theorem DOC1_k {sg sg2 : Nat → Int32} {gm gm2 : Nat → Nat → Int32} {lg lg2 : Nat → Nat → Int64} (h : DK sg gm lg sg2 gm2 lg2) (q : DOC1 sg gm lg) : DOC1 sg2 gm2 lg2 := ⟨TRE_k h.1 q.1, STR_k h.1 q.2.1, BEL_k h q.2.2.1, ACY_k h q.2.2.2⟩
def SETn (sg : Nat → Int32) (gm : Nat → Nat → Int32) (n : Nat) : Prop := ∀ b, b < n → ∀ k, k < (gm 44 b).toNatClampNeg → SEK sg gm 5 (gm 45 (26 * b + k))
def DOC (sg : Nat → Int32) (gm : Nat → Nat → Int32) (lg : Nat → Nat → Int64) : Prop := DOC1 sg gm lg ∧ SETn sg gm (sg 41).toNatClampNeg
theorem SETn_k {sg sg2 : Nat → Int32} {gm gm2 : Nat → Nat → Int32} {n : Nat} (h24 : sg2 24 = sg 24) (h26 : gm2 26 = gm 26) (h44 : gm2 44 = gm 44) (h45 : gm2 45 = gm 45) (q : SETn sg gm n) : SETn sg2 gm2 n := by
  unfold SETn SEK at *; rw [h24, h26, h44, h45]; exact q
theorem DOC_k {sg sg2 : Nat → Int32} {gm gm2 : Nat → Nat → Int32} {lg lg2 : Nat → Nat → Int64} (h : DK sg gm lg sg2 gm2 lg2) (h44 : gm2 44 = gm 44) (h45 : gm2 45 = gm 45) (q : DOC sg gm lg) : DOC sg2 gm2 lg2 := ⟨DOC1_k h q.1, by rw [h.2.1]; exact SETn_k h.1.1 h.1.2.1 h44 h45 q.2⟩
theorem DOC_of {sg sg2 : Nat → Int32} {gm gm2 : Nat → Nat → Int32} {lg lg2 : Nat → Nat → Int64} {Ls Lg Ll : List Nat} (q : DOC sg gm lg) (h1 : KS Ls sg sg2) (h2 : KS Lg gm gm2) (h3 : KS Ll lg lg2) (q1 : (Ls.contains 24 || Ls.contains 41) = false) (q2 : ([26, 28, 29, 30, 36, 37, 38, 42, 43].all fun k => !Lg.contains k) = true) (q3 : Ll.contains 35 = false) (q4 : (Lg.contains 44 || Lg.contains 45) = false) : DOC sg2 gm2 lg2 := by
  have q5 := Bool.or_eq_false_iff.mp q4
  exact DOC_k (DK_of h1 h2 h3 q1 q2 q3) (h2 44 q5.1) (h2 45 q5.2) q
theorem SETn_s {W : Nat → Int64} {sg sg2 : Nat → Int32} {gm gm2 : Nat → Nat → Int32} {n : Nat} (hI : MI sg gm) (hn : n < 80) (h : SETn sg gm n) (hb : MBS W (SEK sg gm 5) gm gm2 n) (h24 : sg2 24 = sg 24) (h26 : gm2 26 = gm 26) : SETn sg2 gm2 (n + 1) := by
  obtain ⟨a1, a2, a3, a4, a5⟩ := hb
  have tr : ∀ x, SEK sg gm 5 x → SEK sg2 gm2 5 x := fun x hx => by unfold SEK at *; rw [h24, h26]; exact hx
  intro b h1 k h2
  by_cases q : b = n
  · subst q; exact tr _ (a2 k h2)
  · rw [a3 b q] at h2
    have r1 : iv 0 26 (gm 44 b) := hI.2 44 b (show b < 80 by omega)
    have r2 := iv_cl r1 (by decide)
    have r3 := r1.2
    rw [a4 (26 * b + k) (by omega)]
    exact tr _ (h b (by omega) k h2)
def BELn (sg : Nat → Int32) (gm : Nat → Nat → Int32) (n : Nat) : Prop := (∀ x : Nat, x < n → (gm 26 x).toInt = 3 → (gm 43 x).toInt < (sg 41).toInt) ∧ ∀ b, b < (sg 41).toNatClampNeg → 1 ≤ (gm 42 b).toNatClampNeg ∧ (gm 42 b).toNatClampNeg < n ∧ (gm 26 (gm 42 b).toNatClampNeg).toInt = 3 ∧ gm 43 (gm 42 b).toNatClampNeg = nI b
theorem BELn_0 {sg : Nat → Int32} {gm : Nat → Nat → Int32} (h : (sg 41).toInt = 0) : BELn sg gm 0 := ⟨fun x hx => absurd hx (Nat.not_lt_zero _), fun b hb => by
  have := iv_cl (a := 0) (b := 0) (x := sg 41) ⟨by omega, by omega⟩ (by decide)
  omega⟩
theorem BELn_w {sg : Nat → Int32} {gm : Nat → Nat → Int32} {n : Nat} (h : BELn sg gm n) (hk : (gm 26 n).toInt ≠ 3) : BELn sg gm (n + 1) := ⟨fun x hx h3 => by
  by_cases q : x = n
  · subst q; exact absurd h3 hk
  · exact h.1 x (by omega) h3, fun b hb => by
  obtain ⟨h1, h2, h3, h4⟩ := h.2 b hb
  exact ⟨h1, by omega, h3, h4⟩⟩
theorem BELn_e {sg : Nat → Int32} {gm : Nat → Nat → Int32} {x : Int32} (hx : iv 0 80 x) (hn : iv 0 80 (sg 24)) (hl : (sg 24).toInt ≤ x.toInt) (h2 : x.toInt ≤ (sg 24).toInt) (h : BELn sg gm x.toNatClampNeg) : BEL sg gm := by
  have k1 := iv_cl hx (by decide)
  have k2 := iv_cl hn (by decide)
  have e1 : x.toNatClampNeg = (sg 24).toNatClampNeg := by omega
  rw [e1] at h
  exact h
theorem BELn_s {sg sg2 : Nat → Int32} {gm gm2 : Nat → Nat → Int32} {x : Int32} (hx : iv 0 79 x) (hb : iv 0 79 (sg 41)) (h : BELn sg gm x.toNatClampNeg) (h1 : (sg2 41).toInt = (sg 41).toInt + 1) (h43 : gm2 43 = upd (gm 43) x.toNatClampNeg (sg 41)) (h42 : gm2 42 = upd (gm 42) (sg 41).toNatClampNeg x) (h26 : gm2 26 = gm 26) (hk : (gm 26 x.toNatClampNeg).toInt = 3) (h0 : (gm 26 0).toInt ≠ 3) : BELn sg2 gm2 (x.toNatClampNeg + 1) := by
  have k1 := s_cl hb (by decide) h1
  refine ⟨fun y hy h3 => ?_, ?_⟩
  · rw [h26] at h3
    rw [h43]
    by_cases q : y = x.toNatClampNeg
    · subst q; rw [upd_at]; omega
    · rw [upd_ne q]; have := h.1 y (by omega) h3; omega
  intro b hlt
  have x0 : x.toNatClampNeg ≠ 0 := fun q => by rw [q] at hk; exact h0 hk
  rw [h26]
  by_cases q : b = (sg 41).toNatClampNeg
  · subst q
    have e1 : gm2 42 (sg 41).toNatClampNeg = x := by rw [h42, upd_at]
    rw [e1]
    refine ⟨by omega, by omega, hk, ?_⟩
    rw [h43, upd_at, iv_nI hb (by decide)]
  · obtain ⟨a1, a2, a3, a4⟩ := h.2 b (by omega)
    have e1 : gm2 42 b = gm 42 b := by rw [h42, upd_ne q]
    rw [e1]
    refine ⟨a1, by omega, a3, ?_⟩
    rw [h43, upd_ne (by omega)]
    exact a4
/-- nothing is made, nothing is being made -/
def CLn (gm : Nat → Nat → Int32) (n : Nat) : Prop := ∀ j, 0 ≤ j → j < n → gm 60 j = -1 ∧ gm 61 j = 0 ∧ gm 62 j = 0
def CLR (sg : Nat → Int32) (gm : Nat → Nat → Int32) : Prop := (sg 50).toInt = 0 ∧ CLn gm 80
theorem CLR_k {sg sg2 : Nat → Int32} {gm gm2 : Nat → Nat → Int32} (h50 : sg2 50 = sg 50) (h60 : gm2 60 = gm 60) (h61 : gm2 61 = gm 61) (h62 : gm2 62 = gm 62) (h : CLR sg gm) : CLR sg2 gm2 := by
  unfold CLR CLn at *; rw [h50, h60, h61, h62]; exact h
theorem CLn_s {gm gm2 : Nat → Nat → Int32} {n j1 j2 j3 : Nat} (h : CLn gm n) (h61 : gm2 61 = upd (gm 61) j1 0) (h62 : gm2 62 = upd (gm 62) j2 0) (h60 : gm2 60 = upd (gm 60) j3 (-1)) (q1 : j1 = n) (q2 : j2 = n) (q3 : j3 = n) : CLn gm2 (n + 1) := by
  subst q1 q2 q3
  intro j h1 h2
  by_cases q : j = j3
  · subst q; rw [h60, h61, h62, upd_at, upd_at, upd_at]; exact ⟨rfl, rfl, rfl⟩
  · rw [h60, h61, h62, upd_ne q, upd_ne q, upd_ne q]; exact h j h1 (by omega)
end
section
def vok (kd v : Int32) : Prop := (kd.toInt = 1 → v.toInt ≤ 59) ∧ (kd.toInt = 0 → v.toInt ≤ 959 ∨ 1000 ≤ v.toInt) ∧ (kd.toInt = 3 → v.toInt ≤ 6)
/-- every value that is kept is one of its kind -/
def VAL (gm : Nat → Nat → Int32) : Prop := (∀ j, j < 405 → vok (gm 70 j) (gm 71 j)) ∧ ∀ j, j < 2430 → vok (gm 72 j) (gm 73 j)
theorem VAL_k {gm gm2 : Nat → Nat → Int32} (h70 : gm2 70 = gm 70) (h71 : gm2 71 = gm 71) (h72 : gm2 72 = gm 72) (h73 : gm2 73 = gm 73) (h : VAL gm) : VAL gm2 := by
  unfold VAL at *; rw [h70, h71, h72, h73]; exact h
theorem upd2 {f g f2 g2 : Nat → Int32} {n i i2 : Nat} {a b : Int32} {P : Int32 → Int32 → Prop} (h : ∀ j, j < n → P (f j) (g j)) (h1 : f2 = upd f i a) (h2 : g2 = upd g i2 b) (hi : i2 = i) (hp : P a b) : ∀ j, j < n → P (f2 j) (g2 j) := by
  subst hi
  intro j hj
  by_cases q : j = i2
  · subst q; rw [h1, h2, upd_at, upd_at]; exact hp
  · rw [h1, h2, upd_ne q, upd_ne q]; exact h j hj
theorem VAL_v {gm gm2 : Nat → Nat → Int32} {i i2 : Nat} {a b : Int32} (h : VAL gm) (h70 : gm2 70 = upd (gm 70) i a) (h71 : gm2 71 = upd (gm 71) i2 b) (h72 : gm2 72 = gm 72) (h73 : gm2 73 = gm 73) (hi : i2 = i) (hp : vok a b) : VAL gm2 := ⟨upd2 h.1 h70 h71 hi hp, by rw [h72, h73]; exact h.2⟩
theorem VAL_i {gm gm2 : Nat → Nat → Int32} {i i2 : Nat} {a b : Int32} (h : VAL gm) (h72 : gm2 72 = upd (gm 72) i a) (h73 : gm2 73 = upd (gm 73) i2 b) (h70 : gm2 70 = gm 70) (h71 : gm2 71 = gm 71) (hi : i2 = i) (hp : vok a b) : VAL gm2 := ⟨by rw [h70, h71]; exact h.1, upd2 h.2 h72 h73 hi hp⟩
theorem VAL_at {gm : Nat → Nat → Int32} {x z1 z2 : Int32} (h : VAL gm) (hx : iv 0 404 x) (e1 : z1 = gm 70 x.toNatClampNeg) (e2 : z2 = gm 71 x.toNatClampNeg) : vok z1 z2 := by
  have k1 := iv_cl hx (by decide)
  have k2 := hx.2
  rw [e1, e2]; exact h.1 _ (by omega)
theorem VAL_it {gm : Nat → Nat → Int32} {x z1 z2 : Int32} (h : VAL gm) (hx : iv 0 2429 x) (e1 : z1 = gm 72 x.toNatClampNeg) (e2 : z2 = gm 73 x.toNatClampNeg) : vok z1 z2 := by
  have k1 := iv_cl hx (by decide)
  have k2 := hx.2
  rw [e1, e2]; exact h.2 _ (by omega)
/-- a bean that is made anew whenever it is asked for -/
def mMny (gm : Nat → Nat → Int32) (lg : Nat → Nat → Int64) (b : Nat) : Prop := ¬ gm 28 (gm 42 b).toNatClampNeg = 0 ∨ mWord gm lg (gm 42 b).toNatClampNeg 495589486693 = lg 1 3

set_option maxHeartbeats 4000000 in
set_option maxRecDepth 100000 in
theorem f_fails (l : Launch) (dC : Nat → ClassId) (dI : Nat → Nat → Nat) (h0 : Nat) (ad : Nat → Nat) (cid : Nat → ClassId) (sg : Nat → Int32) (gm : Nat → Nat → Int32) (lg : Nat → Nat → Int64) (x : Int32) (hI : MI sg gm) (hvx : iv 1 8 x) : MMv l dC dI yX13_fails wm_X13_fails ({ frames := 0, cells := 0, slots := 0, locals := 0 }) h0 ad cid [.int x] sg gm lg (fun v => ∃ (sg2 : Nat → Int32) (gm2 : Nat → Nat → Int32) (lg2 : Nat → Nat → Int64), v = (sg2, gm2, lg2) ∧ MI sg2 gm2 ∧ KS [51, 52] sg sg2 ∧ KS [] gm gm2 ∧ KS [] lg lg2 ∧ (1 ≤ (sg2 51).toInt)) := by
  intro sz
  refine Met.ofW (cc := cX13_fails) (maxL := 2) (ret := none) (by decide) rfl ?_
  intro p e s m args below meth c s₁ B hml hv
  obtain ⟨rfl, hsz, hP, hK, hD0⟩ := hv
  have hx := B.exec
  have hb := B.bytes
  have hr := B.returns
  have hts := atoms_spec (ws := wm_X13_fails) B.pre
  have htb := fun (w : Cond) (h : w ∈ tb) => hts w (List.mem_cons_of_mem _ h)
  have hown : s.vm.findClass RX13 = some m.cls := findClass_of_methodNamed B.named
  have hlocks := B.notSynchronized
  subst hsz
  have hD := hD0.self (sz := s.heap.size)
  generalize hAe : va_A (mW h0 ad cid sg gm lg) s.heap.size = A at hD ⊢
  have hA : ∀ q : Nat, s.heap.size ≤ q → A q := fun q h => by rw [← hAe]; exact Or.inr h
  have hS : va_S A s.heap s.heap [] := va_S.rf
  have hl := lv_entry ([.ref h0, .int x]) (n := 2) (Nat.le_of_ble_eq_true rfl)
  rw [lg_entry_eq]
  generalize (lg_sl ([.ref h0, .int x]) ++ List.replicate (2 - (lg_sl ([.ref h0, .int x])).length) Slot.unset).toArray = ls at hl ⊢
  have hl : lv_has ls 2 [(0, .ref h0), (1, .int x)] := hl
  have hj36 : ∀ (sg_j36 : Nat → Int32) (y0_36 : Int32) (_ : iv 1 8 x) (_ : iv (-1) 79 y0_36) (_ : KS [51] sg sg_j36) (_ : MI sg_j36 gm) (_ : 1 ≤ (sg_j36 51).toInt) (H : Heap) (locs : List Loc) (ls : Array Slot), va_P (dC, dI) vwCl (mW h0 ad cid sg_j36 gm lg) H → va_D A (mW h0 ad cid sg_j36 gm lg) → va_S A s.heap H locs → lv_has ls 2 [(0, .ref h0), (1, .int x)] → W p l e (headSpec wm_X13_fails ({ frames := 0, cells := 0, slots := 0, locals := 0 })).room s m ([.ref h0, .int x] : List Value).toArray below meth c H locs 0 0 (MQ below (va_Qv (fun v => ∃ (sg2 : Nat → Int32) (gm2 : Nat → Nat → Int32) (lg2 : Nat → Nat → Int64), v = (sg2, gm2, lg2) ∧ MI sg2 gm2 ∧ KS [51, 52] sg sg2 ∧ KS [] gm gm2 ∧ KS [] lg lg2 ∧ (1 ≤ (sg2 51).toInt)) (MB dC dI h0 ad cid A) A) ([.ref h0, .int x] : List Value).toArray s 0 0 A) (F0 m 36 ls [.int y0_36, .ref h0]) := by
    intro sg_j36 y0_36 hsx1_36 hy0_36 hks_j36 hI_j36 h51 H locs ls hP hD hS hl
    refine ma_put (x := y0_36) hx hb htb inX13 hown hK hP hD hS 52 (by decide) (by decide) (htb _ kw_1079) rfl rfl rfl dX13_fails_36 (fun sg_1 H locs esg_1 hP hD hS => ?_)
    have hI_sg_1 := MI_put hI_j36 esg_1 hy0_36 (by decide)
    exact W.vret hx hb hr (fun t ht hW => ⟨⟨(sg_1, gm, lg), rfl, ⟨sg_1, gm, lg, rfl, hI_sg_1, (KS_up (KS_tr (L := [51, 52]) KS_rf hks_j36 (by decide)) esg_1 (by decide)), KS_rf, KS_rf, (by have := i32_0; have := i32_1; have := i32_2; have := i32_m1; have := congrArg Int32.toInt (show sg_1 51 = sg_j36 51 from up_ne esg_1 (by decide)); have := (show iv 0 8 (sg_j36 51) from MI_s hI_j36 51).1; have := (show iv 0 8 (sg_j36 51) from MI_s hI_j36 51).2; have := (show iv 0 8 (sg 51) from MI_s hI 51).1; have := (show iv 0 8 (sg 51) from MI_s hI 51).2; have := (hsx1_36).1; have := (hsx1_36).2; have := (hy0_36).1; have := (hy0_36).2; omega)⟩, by rw [ht]; exact hP, va_K.moved hW.alike hK, hD⟩, hS.F ht⟩) hS.2.2 dX13_fails_39
  refine lv_aload_n hx hb dX13_fails_0 rfl (lv_at hl 0 rfl) ?_
  refine mr_get (v := .int (sg 51)) hx hb htb inX13 hown hK hP 51 (by decide) (htb _ kw_1078) rfl dX13_fails_1 ?_
  refine lv_if_eq (tgt := 8) hx hb dX13_fails_4 (by decide) (fun c_2 => ?_) (fun c_2 => ?_)
  · have h_3 : iv 0 0 (sg 51) := iv_eq c_2 (show iv 0 8 (sg 51) from MI_s hI 51) (iv_k (by decide) : iv 0 0 0) (by decide)
    refine lv_aload_n hx hb dX13_fails_8 rfl (lv_at hl 0 rfl) ?_
    refine lv_iload_n hx hb dX13_fails_9 rfl (lv_at hl 1 rfl) ?_
    refine ma_put (x := x) hx hb htb inX13 hown hK hP hD hS 51 (by decide) (by decide) (htb _ kw_1078) rfl rfl rfl dX13_fails_10 (fun sg_4 H locs esg_4 hP hD hS => ?_)
    have hI_sg_4 := MI_put hI esg_4 hvx (by decide)
    refine lv_aload_n hx hb dX13_fails_13 rfl (lv_at hl 0 rfl) ?_
    refine lv_aload_n hx hb dX13_fails_14 rfl (lv_at hl 0 rfl) ?_
    refine mr_get (v := .int (sg_4 63)) hx hb htb inX13 hown hK hP 63 (by decide) (htb _ kw_1090) rfl dX13_fails_15 ?_
    refine lv_topi (fun z_5 ez_5 => ?_)
    obtain rfl : (sg 63) = z_5 := (ez_5.trans (up_ne esg_4 (by decide))).symm
    refine lv_if_ne (tgt := 25) hx hb dX13_fails_18 (by decide) (fun c_6 => ?_) (fun c_6 => ?_)
    · have h_7 : iv 1 80 (sg 63) := iv_neL c_6 (show iv 0 80 (sg 63) from MI_s hI 63) (by decide)
      refine lv_aload_n hx hb dX13_fails_25 rfl (lv_at hl 0 rfl) ?_
      refine mr_get (v := .ref (ad 64)) hx hb htb inX13 hown hK hP 64 (by decide) (htb _ kw_1091) rfl dX13_fails_26 ?_
      refine lv_aload_n hx hb dX13_fails_29 rfl (lv_at hl 0 rfl) ?_
      refine mr_get (v := .int (sg_4 63)) hx hb htb inX13 hown hK hP 63 (by decide) (htb _ kw_1090) rfl dX13_fails_30 ?_
      refine lv_topi (fun z_8 ez_8 => ?_)
      obtain rfl : (sg 63) = z_8 := (ez_8.trans (up_ne esg_4 (by decide))).symm
      refine lv_iconst (v := 1) hx hb dX13_fails_33 (by decide) ?_
      refine lv_isub hx hb dX13_fails_34 ?_
      refine lv_topi (fun z_9 ez_9 => ?_)
      have hz_9 : iv 0 79 z_9 := iv_of ez_9 (iv_sub h_7 (iv_k (by decide) : iv 1 1 1) (by decide))
      have tz_9 : z_9.toInt = ((sg 63) : Int32).toInt - 1 := by rw [ez_9]; exact iv_subE h_7 (iv_k (by decide) : iv 1 1 1) (by decide)
      refine mr_iald hx hb hK hP 49 (k := 64) rfl rfl rfl (show vp_in z_9 81 from (iv_in hz_9 (by decide))) dX13_fails_35 ?_
      refine lv_topi (fun z_10 ez_10 => ?_)
      have hz_10 : iv 0 79 z_10 := iv_of ez_10 (MI_a hI_sg_4 64 hz_9 (by decide))
      exact hj36 sg_4 z_10 hvx (iv_w hz_10 (by decide)) (KS_up KS_rf esg_4 (by decide)) hI_sg_4 (by have := i32_0; have := i32_1; have := i32_2; have := i32_m1; have := congrArg Int32.toInt (show sg_4 51 = x from up_at esg_4); have := (hvx).1; have := (hvx).2; have := (h_3).1; have := (h_3).2; have := (h_7).1; have := (h_7).2; have := (hz_9).1; have := (hz_9).2; have := (hz_10).1; have := (hz_10).2; omega) _ _ _ hP hD hS (lv_sub hl [0, 1] rfl)
    · have h_11 : iv 0 0 (sg 63) := iv_eq c_6 (show iv 0 80 (sg 63) from MI_s hI 63) (iv_k (by decide) : iv 0 0 0) (by decide)
      refine lv_iconst (v := (-1)) hx hb dX13_fails_21 (by decide) ?_
      refine lv_goto (tgt := 36) hx hb dX13_fails_22 (by decide) ?_
      exact hj36 sg_4 (-1) hvx (iv_w (iv_k (by decide) : iv (-1) (-1) (-1)) (by decide)) (KS_up KS_rf esg_4 (by decide)) hI_sg_4 (by have := i32_0; have := i32_1; have := i32_2; have := i32_m1; have := congrArg Int32.toInt (show sg_4 51 = x from up_at esg_4); have := (hvx).1; have := (hvx).2; have := (h_3).1; have := (h_3).2; have := (h_11).1; have := (h_11).2; omega) _ _ _ hP hD hS (lv_sub hl [0, 1] rfl)
  · have h_12 : iv 1 8 (sg 51) := iv_neL c_2 (show iv 0 8 (sg 51) from MI_s hI 51) (by decide)
    exact W.vret hx hb hr (fun t ht hW => ⟨⟨(sg, gm, lg), rfl, ⟨sg, gm, lg, rfl, hI, KS_rf, KS_rf, KS_rf, (by have := i32_0; have := i32_1; have := i32_2; have := i32_m1; have := (show iv 0 8 (sg 51) from MI_s hI 51).1; have := (show iv 0 8 (sg 51) from MI_s hI 51).2; have := (hvx).1; have := (hvx).2; have := (h_12).1; have := (h_12).2; omega)⟩, by rw [ht]; exact hP, va_K.moved hW.alike hK, hD⟩, hS.F ht⟩) hS.2.2 dX13_fails_7

set_option maxHeartbeats 4000000 in
set_option maxRecDepth 100000 in
theorem f_isMany (l : Launch) (dC : Nat → ClassId) (dI : Nat → Nat → Nat) (h0 : Nat) (ad : Nat → Nat) (cid : Nat → ClassId) (sg : Nat → Int32) (gm : Nat → Nat → Int32) (lg : Nat → Nat → Int64) (b : Int32) (hI : MI sg gm) (hvb : iv 0 79 b) : MMi l dC dI yX13_isMany wm_X13_isMany ({ frames := 2, cells := 0, slots := 0, locals := 51 }) h0 ad cid [.int b] sg gm lg (fun r v => (iv 0 1 r) ∧ ((r.toInt = 0 ∧ ¬ mMny gm lg b.toNatClampNeg) ∨ (r.toInt = 1 ∧ mMny gm lg b.toNatClampNeg)) ∧ v = (sg, gm, lg)) := by
  intro sz
  refine Met.ofW (cc := cX13_isMany) (maxL := 2) (ret := (some .boolean)) (by decide) rfl ?_
  intro p e s m args below meth c s₁ B hml hv
  obtain ⟨rfl, hsz, hP, hK, hD0⟩ := hv
  have hx := B.exec
  have hb := B.bytes
  have hr := B.returns
  have hts := atoms_spec (ws := wm_X13_isMany) B.pre
  have htb := fun (w : Cond) (h : w ∈ tb) => hts w (List.mem_cons_of_mem _ h)
  have hown : s.vm.findClass RX13 = some m.cls := findClass_of_methodNamed B.named
  have hlocks := B.notSynchronized
  subst hsz
  have hD := hD0.self (sz := s.heap.size)
  generalize hAe : va_A (mW h0 ad cid sg gm lg) s.heap.size = A at hD ⊢
  have hA : ∀ q : Nat, s.heap.size ≤ q → A q := fun q h => by rw [← hAe]; exact Or.inr h
  have hS : va_S A s.heap s.heap [] := va_S.rf
  have hl := lv_entry ([.ref h0, .int b]) (n := 2) (Nat.le_of_ble_eq_true rfl)
  rw [lg_entry_eq]
  generalize (lg_sl ([.ref h0, .int b]) ++ List.replicate (2 - (lg_sl ([.ref h0, .int b])).length) Slot.unset).toArray = ls at hl ⊢
  have hl : lv_has ls 2 [(0, .ref h0), (1, .int b)] := hl
  have hj42 : ∀ (y0_42 : Int32) (_ : iv 0 79 b) (_ : iv 0 1 y0_42) (_ : (y0_42.toInt = 0 ∧ ¬ mMny gm lg b.toNatClampNeg) ∨ (y0_42.toInt = 1 ∧ mMny gm lg b.toNatClampNeg)) (H : Heap) (locs : List Loc) (ls : Array Slot), va_P (dC, dI) vwCl (mW h0 ad cid sg gm lg) H → va_D A (mW h0 ad cid sg gm lg) → va_S A s.heap H locs → lv_has ls 2 [(0, .ref h0), (1, .int b)] → W p l e (headSpec wm_X13_isMany ({ frames := 2, cells := 0, slots := 0, locals := 51 })).room s m ([.ref h0, .int b] : List Value).toArray below meth c H locs 0 0 (MQ below (va_Qi (fun r v => (iv 0 1 r) ∧ ((r.toInt = 0 ∧ ¬ mMny gm lg b.toNatClampNeg) ∨ (r.toInt = 1 ∧ mMny gm lg b.toNatClampNeg)) ∧ v = (sg, gm, lg)) (MB dC dI h0 ad cid A) A) ([.ref h0, .int b] : List Value).toArray s 0 0 A) (F0 m 42 ls [.int y0_42]) := by
    intro y0_42 hsx1_42 hy0_42 hm2 H locs ls hP hD hS hl
    exact W.zret (v := y0_42) hx hb hr (iv_nb hy0_42) (fun t ht hW => ⟨⟨y0_42, (sg, gm, lg), rfl, ⟨hy0_42, (hm2), rfl⟩, by rw [ht]; exact hP, va_K.moved hW.alike hK, hD⟩, hS.F ht⟩) hS.2.2 dX13_isMany_42
  have hj37 : ∀ (_ : iv 0 79 b) (_ : mMny gm lg b.toNatClampNeg) (H : Heap) (locs : List Loc) (ls : Array Slot), va_P (dC, dI) vwCl (mW h0 ad cid sg gm lg) H → va_D A (mW h0 ad cid sg gm lg) → va_S A s.heap H locs → lv_has ls 2 [(0, .ref h0), (1, .int b)] → W p l e (headSpec wm_X13_isMany ({ frames := 2, cells := 0, slots := 0, locals := 51 })).room s m ([.ref h0, .int b] : List Value).toArray below meth c H locs 0 0 (MQ below (va_Qi (fun r v => (iv 0 1 r) ∧ ((r.toInt = 0 ∧ ¬ mMny gm lg b.toNatClampNeg) ∨ (r.toInt = 1 ∧ mMny gm lg b.toNatClampNeg)) ∧ v = (sg, gm, lg)) (MB dC dI h0 ad cid A) A) ([.ref h0, .int b] : List Value).toArray s 0 0 A) (F0 m 37 ls []) := by
    intro  hsx1_37 hmy H locs ls hP hD hS hl
    refine lv_iconst (v := 1) hx hb dX13_isMany_37 (by decide) ?_
    refine lv_goto (tgt := 42) hx hb dX13_isMany_38 (by decide) ?_
    exact hj42 1 hsx1_37 (iv_w (iv_k (by decide) : iv 1 1 1) (by decide)) (Or.inr ⟨rfl, hmy⟩) _ _ _ hP hD hS (lv_sub hl [0, 1] rfl)
  refine lv_aload_n hx hb dX13_isMany_0 rfl (lv_at hl 0 rfl) ?_
  refine mr_get (v := .ref (ad 28)) hx hb htb inX13 hown hK hP 28 (by decide) (htb _ kw_1055) rfl dX13_isMany_1 ?_
  refine lv_aload_n hx hb dX13_isMany_4 rfl (lv_at hl 0 rfl) ?_
  refine mr_get (v := .ref (ad 42)) hx hb htb inX13 hown hK hP 42 (by decide) (htb _ kw_1069) rfl dX13_isMany_5 ?_
  refine lv_iload_n hx hb dX13_isMany_8 rfl (lv_at hl 1 rfl) ?_
  refine mr_iald hx hb hK hP 33 (k := 42) rfl rfl rfl (show vp_in b 80 from (iv_in hvb (by decide))) dX13_isMany_9 ?_
  refine lv_topi (fun z_1 ez_1 => ?_)
  have hz_1 : iv 0 79 z_1 := iv_of ez_1 (MI_a hI 42 hvb (by decide))
  refine mr_iald hx hb hK hP 21 (k := 28) rfl rfl rfl (show vp_in z_1 80 from (iv_in hz_1 (by decide))) dX13_isMany_10 ?_
  refine lv_topi (fun z_2 ez_2 => ?_)
  have hz_2 : iv (-1) 79 z_2 := iv_of ez_2 (MI_a hI 28 hz_1 (by decide))
  refine lv_if_ne (tgt := 37) hx hb dX13_isMany_11 (by decide) (fun c_3 => ?_) (fun c_3 => ?_)
  · have d_4 : ¬ (z_2 : Int32).toInt = 0 := lv_neT c_3 rfl
    exact hj37 hvb (Or.inl (by rw [← ez_1, ← ez_2]; exact c_3)) _ _ _ hP hD hS (lv_sub hl [0, 1] rfl)
  · have h_5 : iv 0 0 z_2 := iv_eq c_3 hz_2 (iv_k (by decide) : iv 0 0 0) (by decide)
    refine lv_aload_n hx hb dX13_isMany_14 rfl (lv_at hl 0 rfl) ?_
    refine lv_aload_n hx hb dX13_isMany_15 rfl (lv_at hl 0 rfl) ?_
    refine mr_get (v := .ref (ad 42)) hx hb htb inX13 hown hK hP 42 (by decide) (htb _ kw_1069) rfl dX13_isMany_16 ?_
    refine lv_iload_n hx hb dX13_isMany_19 rfl (lv_at hl 1 rfl) ?_
    refine mr_iald hx hb hK hP 33 (k := 42) rfl rfl rfl (show vp_in b 80 from (iv_in hvb (by decide))) dX13_isMany_20 ?_
    refine lv_topi (fun z_6 ez_6 => ?_)
    obtain rfl : z_1 = z_6 := ez_1.trans ez_6.symm
    refine lv_ldc2 (own := RX13) (v := 495589486693) hx hb hown (htb _ kw_1184) dX13_isMany_21 ?_
    refine mr_calll (rest := []) ⟨hx, hb, hml, hown, htb⟩ (f_word l dC dI h0 ad cid sg gm lg z_1 495589486693 hI hz_1) (cwV 2 htb (gd_V kw_1201 kw_1202 kw_96 kw_160 kw_1603) rfl rfl rfl (by decide +kernel) ⟨Nat.le_of_ble_eq_true rfl, Nat.le_of_ble_eq_true rfl⟩) rfl hl.1 rfl (Nat.le_of_ble_eq_true rfl) dX13_isMany_24 ⟨Nat.zero_le _, Nat.zero_le _⟩ hK hP hD hS hA (fun r_7 u_8 H locs hw hP hD hS => ?_)
    obtain ⟨fW_r_7, rfl⟩ := hw
    have hP : va_P (dC, dI) vwCl (mW h0 ad cid sg gm lg) H := hP
    have hD : va_D A (mW h0 ad cid sg gm lg) := hD
    refine lv_aload_n hx hb dX13_isMany_27 rfl (lv_at hl 0 rfl) ?_
    refine mr_get (v := .ref (ad 1)) hx hb htb inX13 hown hK hP 1 (by decide) (htb _ kw_1028) rfl dX13_isMany_28 ?_
    refine lv_iconst (v := 3) hx hb dX13_isMany_31 (by decide) ?_
    refine mr_lald hx hb hK hP 1 (k := 1) rfl rfl rfl (show vp_in 3 11 from (iv_in (iv_k (by decide) : iv 3 3 3) (by decide))) dX13_isMany_32 ?_
    refine lv_topl (fun z_9 ez_9 => ?_)
    refine W.lcmp hx hb dX13_isMany_33 ?_
    refine lv_topi (fun z_10 ez_10 => ?_)
    have hz_10 : iv (-1) 1 z_10 := iv_of ez_10 (iv_cmp _ _)
    refine lv_if_ne (tgt := 41) hx hb dX13_isMany_34 (by decide) (fun c_11 => ?_) (fun c_11 => ?_)
    · have d_12 : ¬ (z_10 : Int32).toInt = 0 := lv_neT c_11 rfl
      refine lv_iconst (v := 0) hx hb dX13_isMany_41 (by decide) ?_
      exact hj42 0 hvb (iv_w (iv_k (by decide) : iv 0 0 0) (by decide)) (Or.inl ⟨rfl, fun q9 => q9.elim (fun q8 => q8 (by rw [← ez_1, ← ez_2]; exact c_3)) (fun q8 => c_11 (ez_10.trans ((lg_cmp_eq _ _).mpr (by rw [fW_r_7, ez_1, ez_9]; exact q8))))⟩) _ _ _ hP hD hS (lv_sub hl [0, 1] rfl)
    · have h_13 : iv 0 0 z_10 := iv_eq c_11 hz_10 (iv_k (by decide) : iv 0 0 0) (by decide)
      exact hj37 hvb (Or.inr (by rw [← ez_1, ← fW_r_7]; exact ((lg_cmp_eq _ _).mp (ez_10.symm.trans c_11)).trans ez_9)) _ _ _ hP hD hS (lv_sub hl [0, 1] rfl)

set_option maxHeartbeats 4000000 in
set_option maxRecDepth 100000 in
theorem a_isAbstract (l : Launch) (dC : Nat → ClassId) (dI : Nat → Nat → Nat) (h0 : Nat) (ad : Nat → Nat) (cid : Nat → ClassId) (sg : Nat → Int32) (gm : Nat → Nat → Int32) (lg : Nat → Nat → Int64) (b : Int32) (hI : MI sg gm) (hvb : iv 0 79 b) : MMi l dC dI yX13_isAbstract wm_X13_isAbstract ({ frames := 2, cells := 0, slots := 0, locals := 51 }) h0 ad cid [.int b] sg gm lg (fun r v => (iv 0 1 r) ∧ v = (sg, gm, lg)) := by
  intro sz
  refine Met.ofW (cc := cX13_isAbstract) (maxL := 2) (ret := (some .boolean)) (by decide) rfl ?_
  intro p e s m args below meth c s₁ B hml hv
  obtain ⟨rfl, hsz, hP, hK, hD0⟩ := hv
  have hx := B.exec
  have hb := B.bytes
  have hr := B.returns
  have hts := atoms_spec (ws := wm_X13_isAbstract) B.pre
  have htb := fun (w : Cond) (h : w ∈ tb) => hts w (List.mem_cons_of_mem _ h)
  have hown : s.vm.findClass RX13 = some m.cls := findClass_of_methodNamed B.named
  have hlocks := B.notSynchronized
  subst hsz
  have hD := hD0.self (sz := s.heap.size)
  generalize hAe : va_A (mW h0 ad cid sg gm lg) s.heap.size = A at hD ⊢
  have hA : ∀ q : Nat, s.heap.size ≤ q → A q := fun q h => by rw [← hAe]; exact Or.inr h
  have hS : va_S A s.heap s.heap [] := va_S.rf
  have hl := lv_entry ([.ref h0, .int b]) (n := 2) (Nat.le_of_ble_eq_true rfl)
  rw [lg_entry_eq]
  generalize (lg_sl ([.ref h0, .int b]) ++ List.replicate (2 - (lg_sl ([.ref h0, .int b])).length) Slot.unset).toArray = ls at hl ⊢
  have hl : lv_has ls 2 [(0, .ref h0), (1, .int b)] := hl
  have hj28 : ∀ (y0_28 : Int32) (_ : iv 0 79 b) (_ : iv 0 1 y0_28) (H : Heap) (locs : List Loc) (ls : Array Slot), va_P (dC, dI) vwCl (mW h0 ad cid sg gm lg) H → va_D A (mW h0 ad cid sg gm lg) → va_S A s.heap H locs → lv_has ls 2 [(0, .ref h0), (1, .int b)] → W p l e (headSpec wm_X13_isAbstract ({ frames := 2, cells := 0, slots := 0, locals := 51 })).room s m ([.ref h0, .int b] : List Value).toArray below meth c H locs 0 0 (MQ below (va_Qi (fun r v => (iv 0 1 r) ∧ v = (sg, gm, lg)) (MB dC dI h0 ad cid A) A) ([.ref h0, .int b] : List Value).toArray s 0 0 A) (F0 m 28 ls [.int y0_28]) := by
    intro y0_28 hsx1_28 hy0_28 H locs ls hP hD hS hl
    exact W.zret (v := y0_28) hx hb hr (iv_nb hy0_28) (fun t ht hW => ⟨⟨y0_28, (sg, gm, lg), rfl, ⟨hy0_28, rfl⟩, by rw [ht]; exact hP, va_K.moved hW.alike hK, hD⟩, hS.F ht⟩) hS.2.2 dX13_isAbstract_28
  refine lv_aload_n hx hb dX13_isAbstract_0 rfl (lv_at hl 0 rfl) ?_
  refine lv_aload_n hx hb dX13_isAbstract_1 rfl (lv_at hl 0 rfl) ?_
  refine mr_get (v := .ref (ad 42)) hx hb htb inX13 hown hK hP 42 (by decide) (htb _ kw_1069) rfl dX13_isAbstract_2 ?_
  refine lv_iload_n hx hb dX13_isAbstract_5 rfl (lv_at hl 1 rfl) ?_
  refine mr_iald hx hb hK hP 33 (k := 42) rfl rfl rfl (show vp_in b 80 from (iv_in hvb (by decide))) dX13_isAbstract_6 ?_
  refine lv_topi (fun z_1 ez_1 => ?_)
  have hz_1 : iv 0 79 z_1 := iv_of ez_1 (MI_a hI 42 hvb (by decide))
  refine lv_ldc2 (own := RX13) (v := 7017298113369039732) hx hb hown (htb _ kw_1183) dX13_isAbstract_7 ?_
  refine mr_calll (rest := []) ⟨hx, hb, hml, hown, htb⟩ (f_word l dC dI h0 ad cid sg gm lg z_1 7017298113369039732 hI hz_1) (cwV 2 htb (gd_V kw_1201 kw_1202 kw_96 kw_160 kw_1603) rfl rfl rfl (by decide +kernel) ⟨Nat.le_of_ble_eq_true rfl, Nat.le_of_ble_eq_true rfl⟩) rfl hl.1 rfl (Nat.le_of_ble_eq_true rfl) dX13_isAbstract_10 ⟨Nat.zero_le _, Nat.zero_le _⟩ hK hP hD hS hA (fun r_2 u_3 H locs hw hP hD hS => ?_)
  obtain ⟨fW_r_2, rfl⟩ := hw
  have hP : va_P (dC, dI) vwCl (mW h0 ad cid sg gm lg) H := hP
  have hD : va_D A (mW h0 ad cid sg gm lg) := hD
  refine lv_aload_n hx hb dX13_isAbstract_13 rfl (lv_at hl 0 rfl) ?_
  refine mr_get (v := .ref (ad 1)) hx hb htb inX13 hown hK hP 1 (by decide) (htb _ kw_1028) rfl dX13_isAbstract_14 ?_
  refine lv_iconst (v := 0) hx hb dX13_isAbstract_17 (by decide) ?_
  refine mr_lald hx hb hK hP 1 (k := 1) rfl rfl rfl (show vp_in 0 11 from (iv_in (iv_k (by decide) : iv 0 0 0) (by decide))) dX13_isAbstract_18 ?_
  refine lv_topl (fun z_4 ez_4 => ?_)
  refine W.lcmp hx hb dX13_isAbstract_19 ?_
  refine lv_topi (fun z_5 ez_5 => ?_)
  have hz_5 : iv (-1) 1 z_5 := iv_of ez_5 (iv_cmp _ _)
  refine lv_if_ne (tgt := 27) hx hb dX13_isAbstract_20 (by decide) (fun c_6 => ?_) (fun c_6 => ?_)
  · have d_7 : ¬ (z_5 : Int32).toInt = 0 := lv_neT c_6 rfl
    refine lv_iconst (v := 0) hx hb dX13_isAbstract_27 (by decide) ?_
    exact hj28 0 hvb (iv_w (iv_k (by decide) : iv 0 0 0) (by decide)) _ _ _ hP hD hS (lv_sub hl [0, 1] rfl)
  · have h_8 : iv 0 0 z_5 := iv_eq c_6 hz_5 (iv_k (by decide) : iv 0 0 0) (by decide)
    refine lv_iconst (v := 1) hx hb dX13_isAbstract_23 (by decide) ?_
    refine lv_goto (tgt := 28) hx hb dX13_isAbstract_24 (by decide) ?_
    exact hj28 1 hvb (iv_w (iv_k (by decide) : iv 1 1 1) (by decide)) _ _ _ hP hD hS (lv_sub hl [0, 1] rfl)

theorem wid_lt {sg : Nat → Int32} {gm : Nat → Nat → Int32} {lg : Nat → Nat → Int64} {w : Int64} {r : Int32} (hn : iv 0 80 (sg 41)) (hr : r = mWid sg gm lg w) : r.toInt < (sg 41).toInt := by
  rcases (mWid_iv (sg := sg) (gm := gm) (lg := lg) w hn).2 with q | q
  · rw [hr]; exact q
  · rw [hr, q]; have := hn.1; show (-1 : Int) < _; omega
end
section
def ARGN (sg : Nat → Int32) (gm : Nat → Nat → Int32) (lg : Nat → Nat → Int64) (b : Int32) (m : Nat) : Prop := ∀ k, 0 ≤ k → k < m → ¬ mArg sg gm lg b k = -1
theorem ARGN_k {sg sg2 : Nat → Int32} {gm gm2 : Nat → Nat → Int32} {lg lg2 : Nat → Nat → Int64} {b : Int32} {m : Nat} (h : DK sg gm lg sg2 gm2 lg2) (q : ARGN sg gm lg b m) : ARGN sg2 gm2 lg2 b m := fun k h0 hk => by rw [mArg_k h]; exact q k h0 hk
theorem ARGN_r {sg sg2 : Nat → Int32} {gm gm2 : Nat → Nat → Int32} {lg lg2 : Nat → Nat → Int64} {b : Int32} {m : Nat} (h : DK sg gm lg sg2 gm2 lg2) (q : ARGN sg2 gm2 lg2 b m) : ARGN sg gm lg b m := fun k h0 hk => by rw [← mArg_k h]; exact q k h0 hk
def nAt (sg : Nat → Int32) (gm : Nat → Nat → Int32) (lg : Nat → Nat → Int64) (b : Int32) : Nat → Nat
  | 0 => 0
  | k + 1 => nAt sg gm lg b k + (if mHas gm lg (mArg sg gm lg b k).toNatClampNeg 24948 = 0 then 0 else 1)
theorem nAt_y {sg : Nat → Int32} {gm : Nat → Nat → Int32} {lg : Nat → Nat → Int64} {b : Int32} {k : Nat} (h : ¬ mHas gm lg (mArg sg gm lg b k).toNatClampNeg 24948 = 0) : nAt sg gm lg b (k + 1) = nAt sg gm lg b k + 1 := by
  show _ + _ = _; rw [if_neg h]
theorem nAt_n {sg : Nat → Int32} {gm : Nat → Nat → Int32} {lg : Nat → Nat → Int64} {b : Int32} {k : Nat} (h : mHas gm lg (mArg sg gm lg b k).toNatClampNeg 24948 = 0) : nAt sg gm lg b (k + 1) = nAt sg gm lg b k := by
  show _ + _ = _; rw [if_pos h]; rfl
theorem nAt_le {sg : Nat → Int32} {gm : Nat → Nat → Int32} {lg : Nat → Nat → Int64} {b : Int32} (j : Nat) : ∀ k, j ≤ k → nAt sg gm lg b k ≤ nAt sg gm lg b j + (k - j) := by
  intro k
  induction k with
  | zero => intro h; have h0 : j = 0 := by omega
            subst h0; exact Nat.le_refl _
  | succ k ih =>
    intro h
    by_cases hj : j = k + 1
    · subst hj; omega
    · have h1 := ih (by omega)
      by_cases q : mHas gm lg (mArg sg gm lg b k).toNatClampNeg 24948 = 0
      · rw [nAt_n q]; omega
      · rw [nAt_y q]; omega
def cF (f : Nat → Int32) : Nat → Nat
  | 0 => 0
  | k + 1 => cF f k + (if f k = -1 then 0 else 1)
theorem cF_s0 {f : Nat → Int32} {k : Nat} (h : f k = -1) : cF f (k + 1) = cF f k := by show _ + _ = _; rw [if_pos h]; rfl
theorem cF_s1 {f : Nat → Int32} {k : Nat} (h : ¬ f k = -1) : cF f (k + 1) = cF f k + 1 := by show _ + _ = _; rw [if_neg h]
theorem cF_le (f : Nat → Int32) : ∀ k, cF f k ≤ k := by
  intro k
  induction k with
  | zero => exact Nat.le_refl 0
  | succ k ih =>
    by_cases q : f k = -1
    · rw [cF_s0 q]; omega
    · rw [cF_s1 q]; omega
theorem cF_0 {f : Nat → Int32} : ∀ k, (∀ q, 0 ≤ q → q < k → f q = -1) → cF f k = 0 := by
  intro k
  induction k with
  | zero => intro _; rfl
  | succ k ih => intro h; rw [cF_s0 (h k (Nat.zero_le _) (by omega))]; exact ih (fun q q0 hq => h q q0 (by omega))
theorem cF_ge {f : Nat → Int32} {p9 : Nat} (h : ∀ q, 0 ≤ q → q < p9 → ¬ f q = -1) : ∀ k, p9 ≤ k → p9 ≤ cF f k := by
  have h1 : ∀ k, k ≤ p9 → cF f k = k := by
    intro k
    induction k with
    | zero => intro _; rfl
    | succ k ih => intro hk; rw [cF_s1 (h k (Nat.zero_le _) (by omega)), ih (by omega)]
  intro k
  induction k with
  | zero => intro hk; omega
  | succ k ih =>
    intro hk
    by_cases e9 : p9 = k + 1
    · rw [← e9, h1 p9 (Nat.le_refl _)]; exact Nat.le_refl _
    · have h2 := ih (by omega)
      by_cases q : f k = -1
      · rw [cF_s0 q]; exact h2
      · rw [cF_s1 q]; omega
theorem cF_ne {f f2 : Nat → Int32} : ∀ k, (∀ j, j < k → f2 j = f j) → cF f2 k = cF f k := by
  intro k
  induction k with
  | zero => intro _; rfl
  | succ k ih =>
    intro h
    by_cases q : f k = -1
    · rw [cF_s0 q, cF_s0 (by rw [h k (by omega)]; exact q)]; exact ih (fun j hj => h j (by omega))
    · rw [cF_s1 q, cF_s1 (by rw [h k (by omega)]; exact q), ih (fun j hj => h j (by omega))]
theorem cF_upd {f f2 : Nat → Int32} {i : Nat} {v : Int32} (h : f2 = upd f i v) (hv : ¬ v = -1) (hi : f i = -1) : ∀ k, i < k → cF f2 k = cF f k + 1 := by
  intro k
  induction k with
  | zero => intro q; omega
  | succ k ih =>
    intro hk
    by_cases e9 : i = k
    · subst e9
      rw [cF_s0 hi, cF_s1 (by rw [h, upd_at]; exact hv), cF_ne i (fun j hj => by rw [h, upd_ne (by omega)])]
    · have h1 := ih (by omega)
      have h2 : f2 k = f k := by rw [h, upd_ne (fun q => e9 q.symm)]
      by_cases q : f k = -1
      · rw [cF_s0 q, cF_s0 (by rw [h2]; exact q)]; exact h1
      · rw [cF_s1 q, cF_s1 (by rw [h2]; exact q), h1]
theorem cF_all {f : Nat → Int32} : ∀ k, cF f k = k → ∀ j, j < k → ¬ f j = -1 := by
  intro k
  induction k with
  | zero => intro _ j hj; omega
  | succ k ih =>
    intro h j hj
    have h1 := cF_le f k
    by_cases q : f k = -1
    · rw [cF_s0 q] at h; omega
    · rw [cF_s1 q] at h
      by_cases e9 : j = k
      · subst e9; exact q
      · exact ih (by omega) j (by omega)
/-- the spots: free, or one of the first n that holds one of the n -/
def SPo (f : Nat → Int32) (n : Nat) : Prop := ∀ q, q < 4 → f q = -1 ∨ (q < n ∧ 0 ≤ (f q).toInt ∧ (f q).toInt < (n : Int))
def SPF (f : Nat → Int32) (n : Nat) : Prop := ∀ q, q < n → 0 ≤ (f q).toInt ∧ (f q).toInt < (n : Int)
theorem SPo_0 {f : Nat → Int32} {n : Nat} {x : Int32} (hx : iv 4 4 x) (h : ∀ q, 0 ≤ q → q < x.toNatClampNeg → f q = -1) : SPo f n ∧ cF f 4 = 0 := by
  have k1 := iv_cl hx (by decide)
  have k2 := hx.1
  have h2 : ∀ q, 0 ≤ q → q < 4 → f q = -1 := fun q q0 hq => h q q0 (by omega)
  exact ⟨fun q hq => Or.inl (h2 q (Nat.zero_le _) hq), cF_0 4 h2⟩
theorem SPo_u {f f2 : Nat → Int32} {n i : Nat} {v : Int32} (h : SPo f n) (h2 : f2 = upd f i v) (hi : i < n) (v0 : 0 ≤ v.toInt) (v1 : v.toInt < (n : Int)) : SPo f2 n := by
  intro q hq
  by_cases e9 : q = i
  · subst e9; rw [h2, upd_at]; exact Or.inr ⟨hi, v0, v1⟩
  · rw [h2, upd_ne e9]; exact h q hq
theorem SPo_full {f : Nat → Int32} {n : Nat} (hn : n ≤ 4) (h : SPo f n) (hc : cF f 4 = n) : SPF f n := by
  have h1 : ∀ k, n ≤ k → k ≤ 4 → cF f k = cF f n := by
    intro k
    induction k with
    | zero => intro q _; have h0 : n = 0 := by omega
              subst h0; rfl
    | succ k ih =>
      intro q1 q2
      by_cases e9 : n = k + 1
      · rw [e9]
      · have h2 := ih (by omega) (by omega)
        rcases h k (by omega) with q | q
        · rw [cF_s0 q]; exact h2
        · omega
  have h3 := h1 4 hn (Nat.le_refl 4)
  intro q hq
  have h4 := cF_all n (h3.symm.trans hc) q hq
  rcases h q (by omega) with q5 | q5
  · exact absurd q5 h4
  · exact q5.2
theorem at_iv {w : Int64} {z z2 : Int32} (h : 48 ≤ w.toInt ∧ w.toInt ≤ 50) (e1 : z = w.toInt32) (e2 : z2 = z - 48) : iv 0 2 z2 := by
  have h1 : z.toInt = w.toInt := by rw [e1, Int64.toInt_toInt32, i32_bm ⟨by omega, by omega⟩]
  have h2 : (48 : Int32).toInt = 48 := rfl
  have h3 : z2.toInt = z.toInt - 48 := by rw [e2, Int32.toInt_sub, h2, i32_bm ⟨by omega, by omega⟩]
  exact ⟨by omega, by omega⟩
theorem arg_el {sg : Nat → Int32} {gm : Nat → Nat → Int32} {lg : Nat → Nat → Int64} {b r : Int32} {n : Nat} (hn : iv 0 80 (sg 24)) (hr : r = mArg sg gm lg b n) (h : ¬ mArg sg gm lg b n = -1) : iv 0 79 r ∧ r.toNatClampNeg < (sg 24).toNatClampNeg ∧ gm 26 r.toNatClampNeg = 4 := by
  obtain ⟨i1, i2, i3, i4, i5⟩ := argF_ok hn n h
  rw [hr]
  exact ⟨iv_w i1 (by decide), i2, i4⟩
theorem arg_at {sg : Nat → Int32} {gm : Nat → Nat → Int32} {lg : Nat → Nat → Int64} {r : Int32} (hs : STR sg gm lg) (h1 : r.toNatClampNeg < (sg 24).toNatClampNeg) (h2 : gm 26 r.toNatClampNeg = 4) (hh : ¬ mHas gm lg r.toNatClampNeg 24948 = 0) : 48 ≤ (mWord gm lg r.toNatClampNeg 24948).toInt ∧ (mWord gm lg r.toNatClampNeg 24948).toInt ≤ 50 :=
  ((hs.1 _ h1).2.1 (by rw [h2]; rfl)).2.resolve_left hh
/-- the maker or factory i can take the arguments of b -/
def CHO (sg : Nat → Int32) (gm : Nat → Nat → Int32) (lg : Nat → Nat → Int64) (b cs c i : Int32) : Prop := iv 0 31 i ∧ 0 ≤ c.toInt ∧ (¬ cs = 0 → ARGN sg gm lg b (gm 8 i.toNatClampNeg).toNatClampNeg) ∧ (cs = 0 → ARGN sg gm lg b (gm 16 i.toNatClampNeg).toNatClampNeg)
end
section
def BI (gm : Nat → Nat → Int32) (lg : Nat → Nat → Int64) (b : Nat) : Prop := ¬ gm 61 b = 0 → 0 ≤ (gm 60 b).toInt ∧ ¬ mMny gm lg b ∧ gm 62 b = 0
def cnt1 (f : Nat → Int32) : Nat → Nat
  | 0 => 0
  | k + 1 => cnt1 f k + (if f k = 0 then 0 else 1)
/-- what holds of the beans that are made, and of the values -/
def GI0 (sg : Nat → Int32) (gm : Nat → Nat → Int32) (lg : Nat → Nat → Int64) : Prop := VAL gm ∧ (∀ b, b < 80 → BI gm lg b) ∧ (sg 50).toInt ≤ (cnt1 (gm 61) 80 : Int)
theorem mMny_k {sg sg2 : Nat → Int32} {gm gm2 : Nat → Nat → Int32} {lg lg2 : Nat → Nat → Int64} (h : DK sg gm lg sg2 gm2 lg2) (h1 : lg2 1 = lg 1) (b : Nat) : mMny gm2 lg2 b = mMny gm lg b := by
  have f := mWord_k h.1
  obtain ⟨⟨h24, h26, h28, h29, h30, h36, h37, h38, h35⟩, h41, h42, h43⟩ := h
  unfold mMny; rw [h42, h28, f, h1]
theorem GI0_k {sg sg2 : Nat → Int32} {gm gm2 : Nat → Nat → Int32} {lg lg2 : Nat → Nat → Int64} (q : GI0 sg gm lg) (h : DK sg gm lg sg2 gm2 lg2) (h1 : lg2 1 = lg 1) (h60 : gm2 60 = gm 60) (h61 : gm2 61 = gm 61) (h62 : gm2 62 = gm 62) (hv : VAL gm2) (h50 : sg2 50 = sg 50) : GI0 sg2 gm2 lg2 := by
  refine ⟨hv, fun b hb => ?_, by rw [h50, h61]; exact q.2.2⟩
  have := q.2.1 b hb
  unfold BI at *
  rw [h60, h61, h62, mMny_k h h1]
  exact this
theorem GI0_of {sg sg2 : Nat → Int32} {gm gm2 : Nat → Nat → Int32} {lg lg2 : Nat → Nat → Int64} {Ls Lg Ll : List Nat} (q : GI0 sg gm lg) (h1 : KS Ls sg sg2) (h2 : KS Lg gm gm2) (h3 : KS Ll lg lg2) (q1 : (Ls.contains 24 || Ls.contains 41) = false) (q2 : ([26, 28, 29, 30, 36, 37, 38, 42, 43].all fun k => !Lg.contains k) = true) (q3 : Ll.contains 35 = false) (q4 : ([60, 61, 62, 70, 71, 72, 73].all fun k => !Lg.contains k) = true) (q5 : Ls.contains 50 = false) (q6 : Ll.contains 1 = false) : GI0 sg2 gm2 lg2 := by
  have g : ∀ k ∈ [60, 61, 62, 70, 71, 72, 73], gm2 k = gm k := fun k hk => h2 k (by have := List.all_eq_true.mp q4 k hk; simpa using this)
  exact GI0_k q (DK_of h1 h2 h3 q1 q2 q3) (h3 1 q6) (g 60 (by decide)) (g 61 (by decide)) (g 62 (by decide)) (VAL_k (g 70 (by decide)) (g 71 (by decide)) (g 72 (by decide)) (g 73 (by decide)) q.1) (h1 50 q5)
theorem GI0_push {sg sg2 : Nat → Int32} {gm gm2 : Nat → Nat → Int32} {lg lg2 : Nat → Nat → Int64} {b : Nat} {v : Int32} (q : GI0 sg gm lg) (h : DK sg gm lg sg2 gm2 lg2) (h1 : lg2 1 = lg 1) (h60 : gm2 60 = gm 60) (h61 : gm2 61 = gm 61) (h62 : gm2 62 = upd (gm 62) b v) (h70 : gm2 70 = gm 70) (h71 : gm2 71 = gm 71) (h72 : gm2 72 = gm 72) (h73 : gm2 73 = gm 73) (h50 : sg2 50 = sg 50) (hb : gm 61 b = 0) : GI0 sg2 gm2 lg2 := by
  refine ⟨VAL_k h70 h71 h72 h73 q.1, fun k hk => ?_, by rw [h50, h61]; exact q.2.2⟩
  have := q.2.1 k hk
  unfold BI at *
  rw [h60, h61, mMny_k h h1]
  intro h9
  have h8 := this h9
  refine ⟨h8.1, h8.2.1, ?_⟩
  rw [h62, upd_ne (fun e9 => h9 (by rw [e9]; exact hb))]
  exact h8.2.2
def PIL (sg : Nat → Int32) (gm : Nat → Nat → Int32) : Prop := ∀ j, j < (sg 63).toNatClampNeg → ¬ gm 62 (gm 64 j).toNatClampNeg = 0 ∧ iv 0 79 (gm 64 j) ∧ (gm 64 j).toInt < (sg 41).toInt ∧ ∀ i, i < j → ¬ gm 64 i = gm 64 j
theorem PIL_room {sg : Nat → Int32} {gm : Nat → Nat → Int32} {b : Int32} (h : PIL sg gm) (hh : iv 0 80 (sg 63)) (hb : iv 0 79 b) (hm : gm 62 b.toNatClampNeg = 0) : (sg 63).toInt ≤ 79 := by
  by_cases q : (sg 63).toInt ≤ 79
  · exact q
  exfalso
  have k1 := iv_cl hh (by decide)
  have k2 := hh.2
  have k3 := hb.1
  have k4 := hb.2
  obtain ⟨i, j, h1, h2, h3⟩ := pigeon 80 (fun k => if k < 80 then (gm 64 k).toInt.toNat else b.toInt.toNat) (fun k hk => by
    show (if k < 80 then _ else _) < 80
    by_cases q5 : k < 80
    · rw [if_pos q5]; have := (h k (by omega)).2.1.1; have := (h k (by omega)).2.1.2; omega
    · rw [if_neg q5]; omega)
  have h3 : (if i < 80 then (gm 64 i).toInt.toNat else b.toInt.toNat) = (if j < 80 then (gm 64 j).toInt.toNat else b.toInt.toNat) := h3
  rw [if_pos (show i < 80 by omega)] at h3
  have gi := h i (by omega)
  have gi1 := gi.2.1.1
  by_cases q5 : j < 80
  · rw [if_pos q5] at h3
    have gj := h j (by omega)
    have gj1 := gj.2.1.1
    exact gj.2.2.2 i h1 (Int32.toInt_inj.mp (by omega))
  · rw [if_neg q5] at h3
    have e9 : gm 64 i = b := Int32.toInt_inj.mp (by omega)
    have := gi.1
    rw [e9] at this
    exact this hm
/-- a bean is put on top of the pile -/
def PUSH (sg : Nat → Int32) (gm : Nat → Nat → Int32) (g67 : Nat → Int32) (sg2 : Nat → Int32) (gm2 : Nat → Nat → Int32) (b : Int32) : Prop :=
  (sg2 63).toInt = (sg 63).toInt + 1 ∧ (sg 63).toInt ≤ 79 ∧ gm2 64 = upd (gm 64) (sg 63).toNatClampNeg b ∧ gm2 65 = upd (gm 65) (sg 63).toNatClampNeg 0 ∧ gm2 66 = upd (gm 66) (sg 63).toNatClampNeg 0 ∧ gm2 67 = upd g67 (sg 63).toNatClampNeg 0 ∧ gm2 69 = upd (gm 69) (sg 63).toNatClampNeg (-1) ∧ gm2 62 = upd (gm 62) b.toNatClampNeg 1 ∧ gm 62 b.toNatClampNeg = 0 ∧ iv 0 79 b ∧ b.toInt < (sg 41).toInt ∧ sg2 51 = sg 51
def SAMEP (sg : Nat → Int32) (gm : Nat → Nat → Int32) (sg2 : Nat → Int32) (gm2 : Nat → Nat → Int32) : Prop := sg2 63 = sg 63 ∧ gm2 62 = gm 62 ∧ gm2 64 = gm 64 ∧ gm2 65 = gm 65 ∧ gm2 66 = gm 66 ∧ gm2 67 = gm 67 ∧ gm2 68 = gm 68 ∧ gm2 69 = gm 69 ∧ sg2 51 = sg 51
def GETS (sg : Nat → Int32) (gm : Nat → Nat → Int32) (sg2 : Nat → Int32) (gm2 : Nat → Nat → Int32) (r : Int32) : Prop := (r.toInt = 1 ∧ 0 ≤ (sg2 74).toInt ∧ SAMEP sg gm sg2 gm2) ∨ (r.toInt = 0 ∧ (1 ≤ (sg2 51).toInt ∨ ∃ b, PUSH sg gm (gm 67) sg2 gm2 b))
def WRK (sg : Nat → Int32) (gm : Nat → Nat → Int32) (sg2 : Nat → Int32) (gm2 : Nat → Nat → Int32) (r : Int32) : Prop := (r.toInt = 1 ∧ SAMEP sg gm sg2 gm2) ∨ (r.toInt = 0 ∧ (1 ≤ (sg2 51).toInt ∨ ∃ b, PUSH sg gm (gm 67) sg2 gm2 b))
theorem SAMEP_tr {sg sg1 sg2 : Nat → Int32} {gm gm1 gm2 : Nat → Nat → Int32} (h : SAMEP sg gm sg1 gm1) (h2 : SAMEP sg1 gm1 sg2 gm2) : SAMEP sg gm sg2 gm2 := by
  obtain ⟨a1, a2, a3, a4, a5, a6, a7, a8, a9⟩ := h
  obtain ⟨b1, b2, b3, b4, b5, b6, b7, b8, b9⟩ := h2
  exact ⟨b1.trans a1, b2.trans a2, b3.trans a3, b4.trans a4, b5.trans a5, b6.trans a6, b7.trans a7, b8.trans a8, b9.trans a9⟩
theorem vok_0 {v : Int32} (h : v.toInt ≤ 959 ∨ 1000 ≤ v.toInt) : vok 0 v := ⟨fun q => absurd q (by decide), fun _ => h, fun q => absurd q (by decide)⟩
theorem vok_1 {v : Int32} (h : v.toInt ≤ 59) : vok 1 v := ⟨fun _ => h, fun q => absurd q (by decide), fun q => absurd q (by decide)⟩
theorem vok_2 {v : Int32} : vok 2 v := ⟨fun q => absurd q (by decide), fun q => absurd q (by decide), fun q => absurd q (by decide)⟩
theorem vok_3 {v : Int32} (h : v.toInt ≤ 6) : vok 3 v := ⟨fun q => absurd q (by decide), fun q => absurd q (by decide), fun _ => h⟩
theorem has_find {gm : Nat → Nat → Int32} {lg : Nat → Nat → Int64} {e : Nat} {nn : Int64} (h : ¬ mHas gm lg e nn = 0) : ¬ mFind gm lg e nn = -1 := fun q => h (by unfold mHas; rw [if_pos q])
end
section
/-- the n-th element within a -/
def chF (sg : Nat → Int32) (gm : Nat → Nat → Int32) (a : Int32) : Nat → Int32
  | 0 => mInn sg gm a 0 a
  | n + 1 => if chF sg gm a n = -1 then -1 else mInn sg gm a 0 (chF sg gm a n)
theorem chF_s {sg : Nat → Int32} {gm : Nat → Nat → Int32} {a x r : Int32} {n : Nat} (hx : x = chF sg gm a n) (h : ¬ x = -1) (hr : r = mInn sg gm a 0 x) : r = chF sg gm a (n + 1) := by
  show _ = (if _ then _ else _)
  rw [← hx, if_neg h, hr]
theorem cA_gap {gm : Nat → Nat → Int32} {x : Int32} {a : Nat} (hx : 0 ≤ x.toInt) : ∀ b, a ≤ b → NHB (qInn gm x 0) a b → cntA (gm 28) x.toNatClampNeg b = cntA (gm 28) x.toNatClampNeg a := by
  have kx : ((x.toNatClampNeg : Nat) : Int) = x.toInt := iv_cl (a := 0) (b := x.toInt) ⟨hx, Int.le_refl _⟩ (by decide)
  intro b
  induction b with
  | zero => intro h _; have h0 : a = 0 := by omega
            subst h0; rfl
  | succ b ih =>
    intro h hn
    by_cases e9 : a = b + 1
    · subst e9; rfl
    · have h1 := ih (by omega) (fun k q1 q2 => hn k q1 (by omega))
      have h2 := hn b (by omega) (by omega)
      have h3 : ¬ gm 28 b = x := fun q => by rw [qI_t q (Or.inl rfl)] at h2; cases h2
      show cntA (gm 28) x.toNatClampNeg b + _ = _
      rw [if_neg (fun q => h3 (Int32.toInt_inj.mp (by omega))), h1]
      rfl
theorem cA_low {sg : Nat → Int32} {gm : Nat → Nat → Int32} {x : Int32} (ht : TRE sg gm) (hx : 0 ≤ x.toInt) (hl : x.toNatClampNeg < (sg 24).toNatClampNeg) : ∀ m, m ≤ x.toNatClampNeg + 1 → cntA (gm 28) x.toNatClampNeg m = 0 := by
  intro m
  induction m with
  | zero => intro _; rfl
  | succ m ih =>
    intro hm
    have h1 := (ht.1 m (by omega)).1
    show cntA (gm 28) x.toNatClampNeg m + _ = 0
    rw [ih (by omega), if_neg (by omega)]
theorem chF_ok {sg : Nat → Int32} {gm : Nat → Nat → Int32} {x : Int32} (ht : TRE sg gm) (hn : iv 0 80 (sg 24)) (hx : iv 0 79 x) (hl : x.toNatClampNeg < (sg 24).toNatClampNeg) : ∀ n, (chF sg gm x n = -1 ∧ cntA (gm 28) x.toNatClampNeg (sg 24).toNatClampNeg ≤ n) ∨ (iv 0 79 (chF sg gm x n) ∧ (chF sg gm x n).toNatClampNeg < (sg 24).toNatClampNeg ∧ cntA (gm 28) x.toNatClampNeg (chF sg gm x n).toNatClampNeg = n ∧ gm 28 (chF sg gm x n).toNatClampNeg = x) := by
  intro n
  induction n with
  | zero =>
    rcases mInn_or (gm := gm) (a := x) (kd := 0) (bh := x) hn with ⟨q, q9⟩ | ⟨q1, q2, q3, q4, q5, q6⟩
    · refine Or.inl ⟨q, ?_⟩
      rw [cA_gap hx.1 _ (by omega) q9, cA_low ht hx.1 hl _ (Nat.le_refl _)]
      exact Nat.le_refl 0
    · refine Or.inr ⟨iv_w q1 (by decide), q3, ?_, q4⟩
      show cntA _ _ (mInn sg gm x 0 x).toNatClampNeg = 0
      rw [cA_gap hx.1 _ (by omega) q6, cA_low ht hx.1 hl _ (Nat.le_refl _)]
  | succ n ih =>
    rcases ih with ⟨i1, i2⟩ | ⟨i1, i2, i3, i4⟩
    · refine Or.inl ⟨?_, by omega⟩
      show (if _ then _ else _) = _
      rw [if_pos i1]
    · have hm : ¬ chF sg gm x n = -1 := fun q => by have := i1.1; rw [q] at this; exact absurd this (by decide)
      have e1 : chF sg gm x (n + 1) = mInn sg gm x 0 (chF sg gm x n) := by show (if _ then _ else _) = _; rw [if_neg hm]
      have kx := iv_cl hx (by decide)
      have e2 : cntA (gm 28) x.toNatClampNeg ((chF sg gm x n).toNatClampNeg + 1) = n + 1 := by
        show _ + _ = _
        rw [i3, if_pos (by rw [i4]; omega)]
      rw [e1]
      rcases mInn_or (gm := gm) (a := x) (kd := 0) (bh := chF sg gm x n) hn with ⟨q, q9⟩ | ⟨q1, q2, q3, q4, q5, q6⟩
      · refine Or.inl ⟨q, ?_⟩
        rw [cA_gap hx.1 _ (by omega) q9, e2]
        exact Nat.le_refl _
      · refine Or.inr ⟨iv_w q1 (by decide), q3, ?_, q4⟩
        rw [cA_gap hx.1 _ (by omega) q6, e2]
theorem cA_mono {f : Nat → Int32} {a : Nat} (j : Nat) : ∀ k, j ≤ k → cntA f a j ≤ cntA f a k := by
  intro k
  induction k with
  | zero => intro h; have h0 : j = 0 := by omega
            subst h0; exact Nat.le_refl _
  | succ k ih =>
    intro h
    by_cases hj : j = k + 1
    · subst hj; exact Nat.le_refl _
    · have := ih (by omega)
      show _ ≤ cntA f a k + _
      omega
/-- within the element x there are more than n: the n-th is there -/
theorem chF_in {sg : Nat → Int32} {gm : Nat → Nat → Int32} {x r : Int32} {n : Nat} (ht : TRE sg gm) (hn : iv 0 80 (sg 24)) (hx : iv 0 79 x) (hl : x.toNatClampNeg < (sg 24).toNatClampNeg) (hr : r = chF sg gm x n) (h : (n : Int) < (gm 29 x.toNatClampNeg).toInt) : iv 0 79 r ∧ r.toNatClampNeg < (sg 24).toNatClampNeg := by
  rcases chF_ok ht hn hx hl n with ⟨q1, q2⟩ | ⟨q1, q2, _, _⟩
  · have := ht.2 _ hl; omega
  · rw [hr]; exact ⟨q1, q2⟩
theorem chF_lt {sg : Nat → Int32} {gm : Nat → Nat → Int32} {x r : Int32} {n : Nat} (ht : TRE sg gm) (hn : iv 0 80 (sg 24)) (hx : iv 0 79 x) (hl : x.toNatClampNeg < (sg 24).toNatClampNeg) (hr : r = chF sg gm x n) (h : ¬ r = -1) : (n : Int) < (gm 29 x.toNatClampNeg).toInt ∧ iv 0 79 r ∧ r.toNatClampNeg < (sg 24).toNatClampNeg := by
  rcases chF_ok ht hn hx hl n with ⟨q1, q2⟩ | ⟨q1, q2, q3, q4⟩
  · exact absurd (hr.trans q1) h
  · have h1 := ht.2 _ hl
    have kx := iv_cl hx (by decide)
    have e2 : cntA (gm 28) x.toNatClampNeg ((chF sg gm x n).toNatClampNeg + 1) = n + 1 := by
      show _ + _ = _
      rw [q3, if_pos (by rw [q4]; omega)]
    have h2 := cA_mono (f := gm 28) (a := x.toNatClampNeg) ((chF sg gm x n).toNatClampNeg + 1) (sg 24).toNatClampNeg (by omega)
    rw [hr]
    exact ⟨by omega, q1, q2⟩
/-- how many values the holder x takes -/
def LIM (sg : Nat → Int32) (gm : Nat → Nat → Int32) (x : Int32) : Int := if 0 < (gm 29 x.toNatClampNeg).toInt ∧ gm 26 (mInn sg gm x 0 x).toNatClampNeg = 6 then (gm 29 (mInn sg gm x 0 x).toNatClampNeg).toInt else 1
def WIN (sg : Nat → Int32) (gm : Nat → Nat → Int32) (x y : Int32) : Prop := iv 0 79 y ∧ y.toNatClampNeg < (sg 24).toNatClampNeg ∧ ((y = x ∧ (gm 29 x.toNatClampNeg).toInt = 0) ∨ (y = mInn sg gm x 0 x ∧ (gm 29 x.toNatClampNeg).toInt = 1))
def LST (sg : Nat → Int32) (gm : Nat → Nat → Int32) (x y : Int32) : Prop := iv 0 79 y ∧ y.toNatClampNeg < (sg 24).toNatClampNeg ∧ LIM sg gm x = (gm 29 y.toNatClampNeg).toInt ∧ (gm 29 y.toNatClampNeg).toInt ≤ 6
theorem WIN_1 {sg : Nat → Int32} {gm : Nat → Nat → Int32} {x y : Int32} (h : WIN sg gm x y) (hk : ¬ gm 26 y.toNatClampNeg = 6) : LIM sg gm x = 1 := by
  obtain ⟨h1, h2, ⟨h3, h4⟩ | ⟨h3, h4⟩⟩ := h
  · unfold LIM; rw [if_neg (fun q => by omega)]
  · unfold LIM; rw [if_neg (fun q => hk (by rw [h3]; exact q.2))]
theorem WIN_6 {sg : Nat → Int32} {gm : Nat → Nat → Int32} {lg : Nat → Nat → Int64} {x y : Int32} (hs : STR sg gm lg) (hx : (gm 26 x.toNatClampNeg).toInt = 4 ∨ (gm 26 x.toNatClampNeg).toInt = 5) (h : WIN sg gm x y) (hk : gm 26 y.toNatClampNeg = 6) : LST sg gm x y := by
  obtain ⟨h1, h2, ⟨h3, h4⟩ | ⟨h3, h4⟩⟩ := h
  · rw [h3] at hk; rw [hk] at hx; exact absurd hx (by decide)
  · refine ⟨h1, h2, ?_, (hs.1 _ h2).2.2.2 (by rw [hk]; rfl)⟩
    unfold LIM; rw [if_pos ⟨by omega, by rw [← h3]; exact hk⟩, ← h3]
theorem WIN_s {sg : Nat → Int32} {gm : Nat → Nat → Int32} {lg : Nat → Nat → Int64} {x : Int32} (hs : STR sg gm lg) (hx : iv 0 79 x) (hl : x.toNatClampNeg < (sg 24).toNatClampNeg) (hk : (gm 26 x.toNatClampNeg).toInt = 4 ∨ (gm 26 x.toNatClampNeg).toInt = 5) (hh : ¬ mHas gm lg x.toNatClampNeg 508440638821 = 0 ∨ ¬ mHas gm lg x.toNatClampNeg 7497062 = 0) : WIN sg gm x x := by
  refine ⟨hx, hl, Or.inl ⟨rfl, ?_⟩⟩
  rcases (hs.1 _ hl).1 hk with q | q
  · exact q.2
  · rcases hh with z | z
    · exact absurd q.1 z
    · exact absurd q.2.1 z
theorem WIN_i {sg : Nat → Int32} {gm : Nat → Nat → Int32} {lg : Nat → Nat → Int64} {x r : Int32} (ht : TRE sg gm) (hn : iv 0 80 (sg 24)) (hs : STR sg gm lg) (hx : iv 0 79 x) (hl : x.toNatClampNeg < (sg 24).toNatClampNeg) (hk : (gm 26 x.toNatClampNeg).toInt = 4 ∨ (gm 26 x.toNatClampNeg).toInt = 5) (h1 : mHas gm lg x.toNatClampNeg 508440638821 = 0) (h2 : mHas gm lg x.toNatClampNeg 7497062 = 0) (hr : r = mInn sg gm x 0 x) : WIN sg gm x r := by
  rcases (hs.1 _ hl).1 hk with q | q
  · rcases q.1 with z | z
    · exact absurd h1 z
    · exact absurd h2 z
  · obtain ⟨q1, q2⟩ := chF_in (n := 0) ht hn hx hl hr (by have := q.2.2; omega)
    exact ⟨q1, q2, Or.inr ⟨hr, q.2.2⟩⟩
theorem LIM_iv {sg : Nat → Int32} {gm : Nat → Nat → Int32} {lg : Nat → Nat → Int64} {x : Int32} (ht : TRE sg gm) (hn : iv 0 80 (sg 24)) (hs : STR sg gm lg) (hx : iv 0 79 x) (hl : x.toNatClampNeg < (sg 24).toNatClampNeg) : 0 ≤ LIM sg gm x ∧ LIM sg gm x ≤ 6 := by
  unfold LIM
  by_cases q : 0 < (gm 29 x.toNatClampNeg).toInt ∧ gm 26 (mInn sg gm x 0 x).toNatClampNeg = 6
  · rw [if_pos q]
    obtain ⟨q1, q2⟩ := chF_in (n := 0) ht hn hx hl rfl (by have := q.1; omega)
    have q3 := (hs.1 _ q2).2.2.2 (by show (gm 26 (mInn sg gm x 0 x).toNatClampNeg).toInt = 6; rw [q.2]; rfl)
    have q4 := ht.2 _ q2
    exact ⟨by show 0 ≤ (gm 29 (chF sg gm x 0).toNatClampNeg).toInt; omega, q3⟩
  · rw [if_neg q]; exact ⟨by decide, by decide⟩
def TOPn (sg : Nat → Int32) : Nat := (sg 63).toNatClampNeg - 1
def SAMEQ (sg : Nat → Int32) (gm : Nat → Nat → Int32) (sg2 : Nat → Int32) (gm2 : Nat → Nat → Int32) : Prop := sg2 63 = sg 63 ∧ gm2 62 = gm 62 ∧ gm2 64 = gm 64 ∧ gm2 65 = gm 65 ∧ gm2 66 = gm 66 ∧ gm2 68 = gm 68 ∧ gm2 69 = gm 69 ∧ sg2 51 = sg 51 ∧ ∀ j, j ≠ TOPn sg → gm2 67 j = gm 67 j
def WOUT (sg : Nat → Int32) (gm : Nat → Nat → Int32) (lim : Int) (sg2 : Nat → Int32) (gm2 : Nat → Nat → Int32) (r : Int32) : Prop := (r.toInt = 1 ∧ SAMEQ sg gm sg2 gm2) ∨ (r.toInt = 0 ∧ (1 ≤ (sg2 51).toInt ∨ ∃ b g67, PUSH sg gm g67 sg2 gm2 b ∧ (∀ j, j ≠ TOPn sg → g67 j = gm 67 j) ∧ (gm 67 (TOPn sg)).toInt ≤ (g67 (TOPn sg)).toInt ∧ (g67 (TOPn sg)).toInt < lim))
theorem SAMEQ_rf {sg : Nat → Int32} {gm : Nat → Nat → Int32} : SAMEQ sg gm sg gm := ⟨rfl, rfl, rfl, rfl, rfl, rfl, rfl, rfl, fun _ _ => rfl⟩
theorem SAMEQ_p {sg sg1 sg2 : Nat → Int32} {gm gm1 gm2 : Nat → Nat → Int32} (h : SAMEQ sg gm sg1 gm1) (h2 : SAMEP sg1 gm1 sg2 gm2) : SAMEQ sg gm sg2 gm2 := by
  obtain ⟨a1, a2, a3, a4, a5, a7, a8, a9, a10⟩ := h
  obtain ⟨b1, b2, b3, b4, b5, b6, b7, b8, b9⟩ := h2
  exact ⟨b1.trans a1, b2.trans a2, b3.trans a3, b4.trans a4, b5.trans a5, b7.trans a7, b8.trans a8, b9.trans a9, fun j hj => by rw [b6]; exact a10 j hj⟩
theorem SAMEQ_u {sg sg2 : Nat → Int32} {gm gm2 gm3 : Nat → Nat → Int32} {t : Nat} {v : Int32} (h : SAMEQ sg gm sg2 gm2) (h67 : gm3 67 = upd (gm2 67) t v) (ht : t = TOPn sg) (h62 : gm3 62 = gm2 62) (h64 : gm3 64 = gm2 64) (h65 : gm3 65 = gm2 65) (h66 : gm3 66 = gm2 66) (h68 : gm3 68 = gm2 68) (h69 : gm3 69 = gm2 69) : SAMEQ sg gm sg2 gm3 := by
  obtain ⟨a1, a2, a3, a4, a5, a7, a8, a9, a10⟩ := h
  exact ⟨a1, h62.trans a2, h64.trans a3, h65.trans a4, h66.trans a5, h68.trans a7, h69.trans a8, a9, fun j hj => by rw [h67, upd_ne (by rw [ht]; exact hj)]; exact a10 j hj⟩
theorem SAMEQ_v {sg sg2 : Nat → Int32} {gm gm2 gm3 : Nat → Nat → Int32} (h : SAMEQ sg gm sg2 gm2) (h62 : gm3 62 = gm2 62) (h64 : gm3 64 = gm2 64) (h65 : gm3 65 = gm2 65) (h66 : gm3 66 = gm2 66) (h67 : gm3 67 = gm2 67) (h68 : gm3 68 = gm2 68) (h69 : gm3 69 = gm2 69) : SAMEQ sg gm sg2 gm3 := by
  obtain ⟨a1, a2, a3, a4, a5, a7, a8, a9, a10⟩ := h
  exact ⟨a1, h62.trans a2, h64.trans a3, h65.trans a4, h66.trans a5, h68.trans a7, h69.trans a8, a9, fun j hj => by rw [h67]; exact a10 j hj⟩
theorem PUSH_tr {sg sg1 sg2 : Nat → Int32} {gm gm1 gm2 : Nat → Nat → Int32} {g67 : Nat → Int32} {b : Int32} (h : SAMEQ sg gm sg1 gm1) (h41 : sg1 41 = sg 41) (h2 : PUSH sg1 gm1 g67 sg2 gm2 b) : PUSH sg gm g67 sg2 gm2 b := by
  obtain ⟨a1, a2, a3, a4, a5, a7, a8, a9, a10⟩ := h
  unfold PUSH at *
  rw [a1, a2, a3, a4, a5, a8, a9, h41] at h2
  exact h2
theorem PIL_k {sg sg2 : Nat → Int32} {gm gm2 : Nat → Nat → Int32} (h63 : sg2 63 = sg 63) (h41 : sg2 41 = sg 41) (h62 : gm2 62 = gm 62) (h64 : gm2 64 = gm 64) (h : PIL sg gm) : PIL sg2 gm2 := by
  unfold PIL at *; rw [h63, h41, h62, h64]; exact h
theorem WOUT_0 {sg sg1 sg2 : Nat → Int32} {gm gm1 gm2 : Nat → Nat → Int32} {lim : Int} {r : Int32} (h : SAMEQ sg gm sg1 gm1) (h41 : sg1 41 = sg 41) (hw : WRK sg1 gm1 sg2 gm2 r) (hr : r.toInt = 0) (h1 : (gm 67 (TOPn sg)).toInt ≤ (gm1 67 (TOPn sg)).toInt) (h2 : (gm1 67 (TOPn sg)).toInt < lim) : WOUT sg gm lim sg2 gm2 r := by
  rcases hw with ⟨q, _⟩ | ⟨_, q | ⟨b, q⟩⟩
  · omega
  · exact Or.inr ⟨hr, Or.inl q⟩
  · exact Or.inr ⟨hr, Or.inr ⟨b, gm1 67, PUSH_tr h h41 q, h.2.2.2.2.2.2.2.2, h1, h2⟩⟩
theorem WRK_1 {sg sg2 : Nat → Int32} {gm gm2 : Nat → Nat → Int32} {r : Int32} (hw : WRK sg gm sg2 gm2 r) (hr : ¬ r.toInt = 0) : SAMEP sg gm sg2 gm2 := by
  rcases hw with ⟨_, q⟩ | ⟨q, _⟩
  · exact q
  · exact absurd q hr
theorem top_n {sg : Nat → Int32} {z : Int32} (h : iv 1 80 (sg 63)) (hz : z.toInt = (sg 63).toInt - 1) : z.toNatClampNeg = TOPn sg := by
  have k1 := iv_cl h (by decide)
  have k2 := h.1
  have k3 := iv_cl (a := 0) (b := z.toInt) (x := z) ⟨by omega, Int.le_refl _⟩ (by decide)
  unfold TOPn
  omega
end
section
def LM (sg : Nat → Int32) (gm : Nat → Nat → Int32) (lg : Nat → Nat → Int64) (b p9 ix : Int32) : Int := if p9.toInt = 3 then (if mArg sg gm lg b ix.toNatClampNeg = -1 then 0 else LIM sg gm (mArg sg gm lg b ix.toNatClampNeg)) else (if ix.toInt < (gm 44 b.toNatClampNeg).toInt then LIM sg gm (gm 45 (26 * b.toNatClampNeg + ix.toNatClampNeg)) else 0)
/-- what holds of a frame of the pile; w is 1 for one that waits -/
def FRv (sg : Nat → Int32) (gm : Nat → Nat → Int32) (lg : Nat → Nat → Int64) (b p9 ix it ob : Int32) (w : Int) : Prop := (p9.toInt = 3 ∨ p9.toInt = 4 → it.toInt + w ≤ LM sg gm lg b p9 ix) ∧ (p9.toInt ≤ 2 → ix.toInt = 0 ∧ it.toInt = 0) ∧ (p9.toInt = 3 → ARGN sg gm lg b ix.toNatClampNeg) ∧ (p9.toInt = 4 → ix.toInt ≤ (gm 44 b.toNatClampNeg).toInt ∧ 0 ≤ ob.toInt ∧ (¬ mMny gm lg b.toNatClampNeg → 0 ≤ (gm 60 b.toNatClampNeg).toInt))
def FR (sg : Nat → Int32) (gm : Nat → Nat → Int32) (lg : Nat → Nat → Int64) (j : Nat) (w : Int) : Prop := FRv sg gm lg (gm 64 j) (gm 65 j) (gm 66 j) (gm 67 j) (gm 69 j) w
theorem LIM_k {sg sg2 : Nat → Int32} {gm gm2 : Nat → Nat → Int32} {lg lg2 : Nat → Nat → Int64} (h : DK0 sg gm lg sg2 gm2 lg2) (x : Int32) : LIM sg2 gm2 x = LIM sg gm x := by
  unfold LIM; rw [mInn_k h, h.2.1, h.2.2.2.1]
theorem LM_k {sg sg2 : Nat → Int32} {gm gm2 : Nat → Nat → Int32} {lg lg2 : Nat → Nat → Int64} (h : DK sg gm lg sg2 gm2 lg2) (h44 : gm2 44 = gm 44) (h45 : gm2 45 = gm 45) (b p9 ix : Int32) : LM sg2 gm2 lg2 b p9 ix = LM sg gm lg b p9 ix := by
  unfold LM; rw [mArg_k h, LIM_k h.1, LIM_k h.1, h44, h45]
theorem FRv_k {sg sg2 : Nat → Int32} {gm gm2 : Nat → Nat → Int32} {lg lg2 : Nat → Nat → Int64} {b p9 ix it ob : Int32} {w : Int} (h : DK sg gm lg sg2 gm2 lg2) (h44 : gm2 44 = gm 44) (h45 : gm2 45 = gm 45) (h1 : lg2 1 = lg 1) (ho : ∀ k, 0 ≤ (gm 60 k).toInt → 0 ≤ (gm2 60 k).toInt) (q : FRv sg gm lg b p9 ix it ob w) : FRv sg2 gm2 lg2 b p9 ix it ob w := by
  obtain ⟨a1, a2, a3, a4⟩ := q
  refine ⟨fun z => by rw [LM_k h h44 h45]; exact a1 z, a2, fun z => ARGN_k h (a3 z), fun z => ?_⟩
  obtain ⟨c1, c2, c3⟩ := a4 z
  refine ⟨by rw [h44]; exact c1, c2, fun z2 => ho _ (c3 ?_)⟩
  rw [mMny_k h h1] at z2
  exact z2
/-- the one on top takes what it waited for -/
def DLV (sg : Nat → Int32) (gm gm2 : Nat → Nat → Int32) : Prop := ((gm 65 (TOPn sg)).toInt ≤ 2 ∧ gm2 67 = gm 67) ∨ (3 ≤ (gm 65 (TOPn sg)).toInt ∧ ∃ v, gm2 67 = upd (gm 67) (TOPn sg) v ∧ v.toInt = (gm 67 (TOPn sg)).toInt + 1)
/-- the element that a frame works at -/
def HEL (sg : Nat → Int32) (gm : Nat → Nat → Int32) (x : Int32) (it : Int) : Prop := iv 0 79 x ∧ x.toNatClampNeg < (sg 24).toNatClampNeg ∧ ((gm 26 x.toNatClampNeg).toInt = 4 ∨ (gm 26 x.toNatClampNeg).toInt = 5) ∧ it ≤ LIM sg gm x
theorem FR_3 {sg : Nat → Int32} {gm : Nat → Nat → Int32} {lg : Nat → Nat → Int64} {b p9 ix it ob r : Int32} (hn : iv 0 80 (sg 24)) (hs : STR sg gm lg) (h : FRv sg gm lg b p9 ix it ob 1) (hp : p9.toInt = 3) (hi : 0 ≤ it.toInt) (hr : r = mArg sg gm lg b ix.toNatClampNeg) : HEL sg gm r (it.toInt + 1) ∧ ix.toNatClampNeg ≤ 3 := by
  have h1 := h.1 (Or.inl hp)
  unfold LM at h1
  rw [if_pos hp] at h1
  by_cases q : mArg sg gm lg b ix.toNatClampNeg = -1
  · rw [if_pos q] at h1; omega
  · rw [if_neg q, ← hr] at h1
    obtain ⟨a1, a2, a3⟩ := arg_el hn hr q
    exact ⟨⟨a1, a2, Or.inl (by rw [a3]; rfl), h1⟩, arg_lt hn hs q⟩
theorem FR_4 {sg : Nat → Int32} {gm : Nat → Nat → Int32} {lg : Nat → Nat → Int64} {b p9 ix it ob : Int32} (h : FRv sg gm lg b p9 ix it ob 1) (hp : p9.toInt = 4) (hi : 0 ≤ it.toInt) : ix.toInt < (gm 44 b.toNatClampNeg).toInt ∧ it.toInt + 1 ≤ LIM sg gm (gm 45 (26 * b.toNatClampNeg + ix.toNatClampNeg)) := by
  have h1 := h.1 (Or.inr hp)
  unfold LM at h1
  rw [if_neg (by omega)] at h1
  by_cases q : ix.toInt < (gm 44 b.toNatClampNeg).toInt
  · rw [if_pos q] at h1; exact ⟨q, h1⟩
  · rw [if_neg q] at h1; omega
theorem HEL_5 {sg : Nat → Int32} {gm : Nat → Nat → Int32} {x : Int32} {it : Int} (h : SEK sg gm 5 x) (hi : it ≤ LIM sg gm x) : HEL sg gm x it := ⟨h.1, h.2.2, Or.inr (by rw [h.2.1]; rfl), hi⟩

set_option maxHeartbeats 4000000 in
set_option maxRecDepth 100000 in
theorem f_next (l : Launch) (dC : Nat → ClassId) (dI : Nat → Nat → Nat) (h0 : Nat) (ad : Nat → Nat) (cid : Nat → ClassId) (sg : Nat → Int32) (gm : Nat → Nat → Int32) (lg : Nat → Nat → Int64) (f : Int32) (tp : Int32) (hI : MI sg gm) (hvf : iv 0 1 f) (hvtp : iv 0 79 tp) (hn25 : (gm 66 tp.toNatClampNeg).toInt ≤ 25 ∨ f.toInt = 0) : MMv l dC dI yX13_next wm_X13_next ({ frames := 0, cells := 0, slots := 0, locals := 0 }) h0 ad cid [.int f, .int tp] sg gm lg (fun v => ∃ (sg2 : Nat → Int32) (gm2 : Nat → Nat → Int32) (lg2 : Nat → Nat → Int64), v = (sg2, gm2, lg2) ∧ MI sg2 gm2 ∧ KS [] sg sg2 ∧ KS [66, 67] gm gm2 ∧ KS [] lg lg2 ∧ ((f.toInt = 0 ∧ gm2 66 = gm 66 ∧ gm2 67 = gm 67) ∨ (f.toInt = 1 ∧ gm2 67 = upd (gm 67) tp.toNatClampNeg 0 ∧ ∃ v, gm2 66 = upd (gm 66) tp.toNatClampNeg v ∧ v.toInt = (gm 66 tp.toNatClampNeg).toInt + 1))) := by
  intro sz
  refine Met.ofW (cc := cX13_next) (maxL := 3) (ret := none) (by decide) rfl ?_
  intro p e s m args below meth c s₁ B hml hv
  obtain ⟨rfl, hsz, hP, hK, hD0⟩ := hv
  have hx := B.exec
  have hb := B.bytes
  have hr := B.returns
  have hts := atoms_spec (ws := wm_X13_next) B.pre
  have htb := fun (w : Cond) (h : w ∈ tb) => hts w (List.mem_cons_of_mem _ h)
  have hown : s.vm.findClass RX13 = some m.cls := findClass_of_methodNamed B.named
  have hlocks := B.notSynchronized
  subst hsz
  have hD := hD0.self (sz := s.heap.size)
  generalize hAe : va_A (mW h0 ad cid sg gm lg) s.heap.size = A at hD ⊢
  have hA : ∀ q : Nat, s.heap.size ≤ q → A q := fun q h => by rw [← hAe]; exact Or.inr h
  have hS : va_S A s.heap s.heap [] := va_S.rf
  have hl := lv_entry ([.ref h0, .int f, .int tp]) (n := 3) (Nat.le_of_ble_eq_true rfl)
  rw [lg_entry_eq]
  generalize (lg_sl ([.ref h0, .int f, .int tp]) ++ List.replicate (3 - (lg_sl ([.ref h0, .int f, .int tp])).length) Slot.unset).toArray = ls at hl ⊢
  have hl : lv_has ls 3 [(0, .ref h0), (1, .int f), (2, .int tp)] := hl
  refine lv_iload_n hx hb dX13_next_0 rfl (lv_at hl 1 rfl) ?_
  refine lv_if_ne (tgt := 5) hx hb dX13_next_1 (by decide) (fun c_1 => ?_) (fun c_1 => ?_)
  · have h_2 : iv 1 1 f := iv_neL c_1 hvf (by decide)
    refine lv_aload_n hx hb dX13_next_5 rfl (lv_at hl 0 rfl) ?_
    refine mr_get (v := .ref (ad 66)) hx hb htb inX13 hown hK hP 66 (by decide) (htb _ kw_1093) rfl dX13_next_6 ?_
    refine lv_iload_n hx hb dX13_next_9 rfl (lv_at hl 2 rfl) ?_
    refine lv_dup2_11 hx hb dX13_next_10 rfl rfl ?_
    refine mr_iald hx hb hK hP 51 (k := 66) rfl rfl rfl (show vp_in tp 81 from (iv_in hvtp (by decide))) dX13_next_11 ?_
    refine lv_topi (fun z_3 ez_3 => ?_)
    have hz_3 : iv 0 26 z_3 := iv_of ez_3 (MI_a hI 66 hvtp (by decide))
    have h_4 : iv 0 25 z_3 := ⟨(hz_3).1, by rw [ez_3]; have := (h_2).1; omega⟩
    refine lv_iconst (v := 1) hx hb dX13_next_12 (by decide) ?_
    refine lv_iadd hx hb dX13_next_13 ?_
    refine lv_topi (fun z_5 ez_5 => ?_)
    have hz_5 : iv 1 26 z_5 := iv_of ez_5 (iv_add h_4 (iv_k (by decide) : iv 1 1 1) (by decide))
    have tz_5 : z_5.toInt = (z_3 : Int32).toInt + 1 := by rw [ez_5]; exact iv_addE h_4 (iv_k (by decide) : iv 1 1 1) (by decide)
    refine ma_iast (x := z_5) hx hb hK hP hD hS 51 (k := 66) rfl rfl rfl (show vp_in tp 81 from (iv_in hvtp (by decide))) dX13_next_14 (fun gm_6 H locs egm_6 hP hD hS => ?_)
    have hI_gm_6 := MI_st hI egm_6 hz_5 (by decide)
    refine lv_aload_n hx hb dX13_next_15 rfl (lv_at hl 0 rfl) ?_
    refine mr_get (v := .ref (ad 67)) hx hb htb inX13 hown hK hP 67 (by decide) (htb _ kw_1094) rfl dX13_next_16 ?_
    refine lv_iload_n hx hb dX13_next_19 rfl (lv_at hl 2 rfl) ?_
    refine lv_iconst (v := 0) hx hb dX13_next_20 (by decide) ?_
    refine ma_iast (x := 0) hx hb hK hP hD hS 52 (k := 67) rfl rfl rfl (show vp_in tp 81 from (iv_in hvtp (by decide))) dX13_next_21 (fun gm_7 H locs egm_7 hP hD hS => ?_)
    have hI_gm_7 := MI_st hI_gm_6 egm_7 (iv_k (by decide) : iv 0 0 0) (by decide)
    exact W.vret hx hb hr (fun t ht hW => ⟨⟨(sg, gm_7, lg), rfl, ⟨sg, gm_7, lg, rfl, hI_gm_7, KS_rf, (KS_up (KS_up KS_rf egm_6 (by decide)) egm_7 (by decide)), KS_rf, (Or.inr ⟨by have := i32_0; have := i32_1; have := i32_2; have := i32_m1; have := (h_2).1; have := (h_2).2; have := (hvtp).1; have := (hvtp).2; have := (h_4).1; have := (h_4).2; have := (hz_5).1; have := (hz_5).2; omega, (show gm_7 67 = upd (gm 67) (tp : Int32).toNatClampNeg 0 from ((up_at egm_7).trans (by rw [show gm_6 67 = gm 67 from ((up_ne egm_6 (by decide)).trans rfl)]))), _, (show gm_7 66 = upd (gm 66) (tp : Int32).toNatClampNeg z_5 from ((up_ne egm_7 (by decide)).trans ((up_at egm_6).trans (by rw [show gm 66 = gm 66 from rfl])))), by have := tz_5; have := congrArg Int32.toInt ez_3; omega⟩)⟩, by rw [ht]; exact hP, va_K.moved hW.alike hK, hD⟩, hS.F ht⟩) hS.2.2 dX13_next_22
  · have h_8 : iv 0 0 f := iv_eq c_1 hvf (iv_k (by decide) : iv 0 0 0) (by decide)
    exact W.vret hx hb hr (fun t ht hW => ⟨⟨(sg, gm, lg), rfl, ⟨sg, gm, lg, rfl, hI, KS_rf, KS_rf, KS_rf, (Or.inl ⟨by have := i32_0; have := i32_1; have := i32_2; have := i32_m1; have := (h_8).1; have := (h_8).2; have := (hvtp).1; have := (hvtp).2; omega, rfl, rfl⟩)⟩, by rw [ht]; exact hP, va_K.moved hW.alike hK, hD⟩, hS.F ht⟩) hS.2.2 dX13_next_4
end
section
theorem GI0_own {sg sg2 : Nat → Int32} {gm gm2 : Nat → Nat → Int32} {lg lg2 : Nat → Nat → Int64} {b : Nat} {v : Int32} (q : GI0 sg gm lg) (h : DK sg gm lg sg2 gm2 lg2) (h1 : lg2 1 = lg 1) (h60 : gm2 60 = upd (gm 60) b v) (h61 : gm2 61 = gm 61) (h62 : gm2 62 = gm 62) (h70 : gm2 70 = gm 70) (h71 : gm2 71 = gm 71) (h72 : gm2 72 = gm 72) (h73 : gm2 73 = gm 73) (h50 : sg2 50 = sg 50) (hv : 0 ≤ v.toInt) : GI0 sg2 gm2 lg2 := by
  refine ⟨VAL_k h70 h71 h72 h73 q.1, fun k hk => ?_, by rw [h50, h61]; exact q.2.2⟩
  have := q.2.1 k hk
  unfold BI at *
  rw [h61, h62, mMny_k h h1]
  intro h9
  have h8 := this h9
  refine ⟨?_, h8.2.1, h8.2.2⟩
  by_cases e9 : k = b
  · subst e9; rw [h60, upd_at]; exact hv
  · rw [h60, upd_ne e9]; exact h8.1
/-- an object is made for the bean on top -/
def MKO (sg : Nat → Int32) (gm : Nat → Nat → Int32) (lg : Nat → Nat → Int64) (b : Int32) (gm2 : Nat → Nat → Int32) : Prop := 0 ≤ (gm2 69 (TOPn sg)).toInt ∧ (¬ mMny gm lg b.toNatClampNeg → 0 ≤ (gm2 60 b.toNatClampNeg).toInt) ∧ (∀ j, j ≠ TOPn sg → gm2 69 j = gm 69 j) ∧ ∀ k, 0 ≤ (gm 60 k).toInt → 0 ≤ (gm2 60 k).toInt
theorem MKO_k {sg : Nat → Int32} {gm gm1 gm2 : Nat → Nat → Int32} {lg : Nat → Nat → Int64} {b : Int32} (h : MKO sg gm lg b gm1) (h69 : gm2 69 = gm1 69) (h60 : gm2 60 = gm1 60) : MKO sg gm lg b gm2 := by
  unfold MKO at *; rw [h69, h60]; exact h
theorem MKO_m {sg : Nat → Int32} {gm gm2 : Nat → Nat → Int32} {lg : Nat → Nat → Int64} {b v : Int32} {t : Nat} (h69 : gm2 69 = upd (gm 69) t v) (ht : t = TOPn sg) (h60 : gm2 60 = gm 60) (hv : 0 ≤ v.toInt) (hm : mMny gm lg b.toNatClampNeg) : MKO sg gm lg b gm2 := by
  subst ht
  refine ⟨by rw [h69, upd_at]; exact hv, fun q => absurd hm q, fun j hj => by rw [h69, upd_ne hj], fun k hk => by rw [h60]; exact hk⟩
theorem MKO_o {sg : Nat → Int32} {gm gm2 : Nat → Nat → Int32} {lg : Nat → Nat → Int64} {b v : Int32} {t : Nat} (h69 : gm2 69 = upd (gm 69) t v) (ht : t = TOPn sg) (h60 : gm2 60 = upd (gm 60) b.toNatClampNeg v) (hv : 0 ≤ v.toInt) : MKO sg gm lg b gm2 := by
  subst ht
  refine ⟨by rw [h69, upd_at]; exact hv, fun q => by rw [h60, upd_at]; exact hv, fun j hj => by rw [h69, upd_ne hj], fun k hk => ?_⟩
  by_cases q : k = b.toNatClampNeg
  · subst q; rw [h60, upd_at]; exact hv
  · rw [h60, upd_ne q]; exact hk
end
section
def INVo (sg : Nat → Int32) (gm : Nat → Nat → Int32) (lg : Nat → Nat → Int64) : Prop := PIL sg gm ∧ (∀ j, j + 1 < (sg 63).toNatClampNeg → FR sg gm lg j 1) ∧ ((sg 63).toInt = 0 ∨ FR sg gm lg (TOPn sg) 0)
end
