def cNum (t : Nat) : Nat := match t with
  | 7 => 8
  | 8 => 64
  | 9 => 80
  | 10 => 80
  | 11 => 240
  | 27 => 64
  | 28 => 8
  | 29 => 8
  | 30 => 8
  | 31 => 80
  | _ => 1
def cNf (t : Nat) : Nat := match t with
  | 0 => 12
  | 1 => 8
  | 2 => 6
  | 3 => 1
  | 4 => 4
  | 5 => 2
  | 6 => 13
  | 7 => 8
  | 8 => 7
  | 9 => 21
  | 10 => 19
  | 11 => 3
  | _ => 0
def cIx (t : Nat) : Nat := match t with
  | 0 => 11
  | 1 => 6
  | 2 => 7
  | 3 => 9
  | 4 => 10
  | 5 => 4
  | 6 => 5
  | 7 => 2
  | 8 => 8
  | 9 => 3
  | 10 => 1
  | 11 => 0
  | _ => 0
def cKd (t j : Nat) : Nat := match t, j with
  | 0, 0 => 5
  | 0, 1 => 5
  | 0, 2 => 5
  | 0, 3 => 5
  | 0, 4 => 5
  | 0, 5 => 5
  | 0, 6 => 5
  | 0, 7 => 5
  | 0, 8 => 0
  | 0, 9 => 0
  | 0, 10 => 0
  | 0, 11 => 0
  | 1, 0 => 5
  | 1, 1 => 5
  | 1, 2 => 5
  | 1, 3 => 5
  | 1, 4 => 5
  | 1, 5 => 0
  | 1, 6 => 0
  | 1, 7 => 0
  | 2, 0 => 5
  | 2, 1 => 3
  | 2, 2 => 0
  | 2, 3 => 0
  | 2, 4 => 0
  | 2, 5 => 3
  | 3, 0 => 5
  | 4, 0 => 5
  | 4, 1 => 5
  | 4, 2 => 5
  | 4, 3 => 0
  | 5, 0 => 5
  | 5, 1 => 0
  | 6, 0 => 5
  | 6, 1 => 5
  | 6, 2 => 5
  | 6, 3 => 5
  | 6, 4 => 5
  | 6, 5 => 0
  | 6, 6 => 5
  | 6, 7 => 0
  | 6, 8 => 5
  | 6, 9 => 5
  | 6, 10 => 3
  | 6, 11 => 0
  | 6, 12 => 0
  | 7, 0 => 5
  | 7, 1 => 5
  | 7, 2 => 1
  | 7, 3 => 1
  | 7, 4 => 1
  | 7, 5 => 5
  | 7, 6 => 1
  | 7, 7 => 4
  | 8, 0 => 1
  | 8, 1 => 1
  | 8, 2 => 5
  | 8, 3 => 1
  | 8, 4 => 1
  | 8, 5 => 1
  | 8, 6 => 1
  | 9, 0 => 5
  | 9, 1 => 1
  | 9, 2 => 1
  | 9, 3 => 1
  | 9, 4 => 4
  | 9, 5 => 4
  | 9, 6 => 4
  | 9, 7 => 4
  | 9, 8 => 1
  | 9, 9 => 1
  | 9, 10 => 1
  | 9, 11 => 2
  | 9, 12 => 2
  | 9, 13 => 2
  | 9, 14 => 1
  | 9, 15 => 1
  | 9, 16 => 1
  | 9, 17 => 1
  | 9, 18 => 4
  | 9, 19 => 4
  | 9, 20 => 4
  | 10, 0 => 1
  | 10, 1 => 5
  | 10, 2 => 5
  | 10, 3 => 5
  | 10, 4 => 4
  | 10, 5 => 2
  | 10, 6 => 2
  | 10, 7 => 2
  | 10, 8 => 2
  | 10, 9 => 1
  | 10, 10 => 1
  | 10, 11 => 1
  | 10, 12 => 1
  | 10, 13 => 1
  | 10, 14 => 1
  | 10, 15 => 1
  | 10, 16 => 1
  | 10, 17 => 1
  | 10, 18 => 1
  | 11, 0 => 1
  | 11, 1 => 6
  | 11, 2 => 1
  | _, _ => 9
def cKy (t j : Nat) : Nat := match t, j with
  | 0, 8 => 0
  | 0, 9 => 1
  | 0, 10 => 2
  | 0, 11 => 3
  | 1, 5 => 4
  | 1, 6 => 5
  | 1, 7 => 6
  | 2, 1 => 7
  | 2, 2 => 8
  | 2, 3 => 9
  | 2, 4 => 10
  | 2, 5 => 11
  | 4, 3 => 12
  | 5, 1 => 13
  | 6, 5 => 14
  | 6, 7 => 15
  | 6, 10 => 16
  | 6, 11 => 17
  | 6, 12 => 18
  | 7, 2 => 0
  | 7, 3 => 1
  | 7, 4 => 2
  | 7, 6 => 3
  | 7, 7 => 4
  | 8, 0 => 5
  | 8, 1 => 6
  | 8, 3 => 7
  | 8, 4 => 8
  | 8, 5 => 9
  | 8, 6 => 10
  | 9, 1 => 11
  | 9, 2 => 12
  | 9, 3 => 13
  | 9, 4 => 14
  | 9, 5 => 15
  | 9, 6 => 16
  | 9, 7 => 17
  | 9, 8 => 18
  | 9, 9 => 19
  | 9, 10 => 20
  | 9, 11 => 1
  | 9, 12 => 2
  | 9, 13 => 3
  | 9, 14 => 21
  | 9, 15 => 22
  | 9, 16 => 23
  | 9, 17 => 24
  | 9, 18 => 25
  | 9, 19 => 26
  | 9, 20 => 27
  | 10, 0 => 28
  | 10, 4 => 29
  | 10, 5 => 4
  | 10, 6 => 5
  | 10, 7 => 6
  | 10, 8 => 7
  | 10, 9 => 30
  | 10, 10 => 31
  | 10, 11 => 32
  | 10, 12 => 33
  | 10, 13 => 34
  | 10, 14 => 35
  | 10, 15 => 36
  | 10, 16 => 37
  | 10, 17 => 38
  | 10, 18 => 39
  | 11, 0 => 40
  | 11, 2 => 41
  | _, _ => 999
def cTg (t j : Nat) : Nat := match t, j with
  | 0, 0 => 12
  | 0, 1 => 13
  | 0, 2 => 1
  | 0, 3 => 2
  | 0, 4 => 3
  | 0, 5 => 4
  | 0, 6 => 5
  | 0, 7 => 6
  | 1, 0 => 14
  | 1, 1 => 15
  | 1, 2 => 16
  | 1, 3 => 17
  | 1, 4 => 18
  | 2, 0 => 1
  | 2, 1 => 13
  | 2, 5 => 9
  | 3, 0 => 1
  | 4, 0 => 1
  | 4, 1 => 19
  | 4, 2 => 20
  | 5, 0 => 21
  | 6, 0 => 4
  | 6, 1 => 12
  | 6, 2 => 5
  | 6, 3 => 22
  | 6, 4 => 23
  | 6, 6 => 24
  | 6, 8 => 25
  | 6, 9 => 26
  | 6, 10 => 10
  | 7, 0 => 28
  | 7, 1 => 29
  | 7, 5 => 30
  | 7, 7 => 7
  | 8, 2 => 27
  | 9, 0 => 31
  | 9, 4 => 33
  | 9, 5 => 9
  | 9, 6 => 9
  | 9, 7 => 9
  | 9, 18 => 33
  | 9, 19 => 9
  | 9, 20 => 10
  | 10, 1 => 11
  | 10, 2 => 11
  | 10, 3 => 11
  | 10, 4 => 9
  | _, _ => 0
def cMu (t j : Nat) : Nat := match t, j with
  | 7, 0 => 1
  | 7, 1 => 1
  | 7, 5 => 1
  | 8, 2 => 1
  | 9, 0 => 1
  | 10, 1 => 3
  | 10, 2 => 3
  | 10, 3 => 3
  | _, _ => 0
def cOf (t j : Nat) : Nat := match t, j with
  | 10, 2 => 1
  | 10, 3 => 2
  | _, _ => 0
def cAk (t : Nat) : Nat := match t with
  | 12 => 3
  | 13 => 0
  | 14 => 3
  | 15 => 1
  | 16 => 0
  | 17 => 0
  | 18 => 0
  | 19 => 3
  | 20 => 2
  | 21 => 0
  | 22 => 0
  | 23 => 0
  | 24 => 2
  | 25 => 0
  | 26 => 0
  | 27 => 0
  | 28 => 3
  | 29 => 3
  | 30 => 0
  | 31 => 0
  | _ => 9
def cAy (t : Nat) : Nat := match t with
  | 13 => 43
  | 15 => 0
  | 16 => 44
  | 17 => 45
  | 18 => 46
  | 20 => 47
  | 21 => 48
  | 22 => 49
  | 23 => 50
  | 24 => 51
  | 25 => 52
  | 26 => 53
  | 27 => 54
  | 30 => 55
  | 31 => 56
  | _ => 998
def cAw (t : Nat) : Nat := match t with
  | 27 => 3
  | 30 => 26
  | 31 => 24
  | _ => 0
def cAt (t : Nat) : Nat := match t with
  | 12 => 7
  | 14 => 9
  | 19 => 10
  | 20 => 10
  | 24 => 10
  | 28 => 8
  | 29 => 8
  | _ => 0
def cAm (t : Nat) : Nat := match t with
  | 28 => 8
  | 29 => 8
  | _ => 0
def cAo (t : Nat) : Nat := match t with
  | 29 => 4
  | _ => 0
def cLen (t : Nat) : Nat := match t with
  | 12 => 8
  | 13 => 1200
  | 14 => 80
  | 15 => 240
  | 16 => 240
  | 17 => 240
  | 18 => 1200
  | 19 => 80
  | 20 => 80
  | 21 => 1600
  | 22 => 60
  | 23 => 60
  | 24 => 80
  | 25 => 960
  | 26 => 3
  | 27 => 3
  | 28 => 4
  | 29 => 4
  | 30 => 26
  | 31 => 24
  | _ => 0
def cTy (t : Nat) : FieldType := match t with
  | 12 => .object RX2
  | 13 => .char
  | 14 => .object RX3
  | 15 => .long
  | 16 => .int
  | 17 => .int
  | 18 => .char
  | 19 => .object RX1
  | 20 => .object RX1
  | 21 => .int
  | 22 => .int
  | 23 => .int
  | 24 => .object RX1
  | 25 => .int
  | 26 => .int
  | 27 => .int
  | 28 => .object RX8
  | 29 => .object RX8
  | 30 => .int
  | 31 => .char
  | _ => .object "java/lang/Object"
def crLen (t : Nat) : Nat := match t with
  | 0 => 8
  | 1 => 8
  | 2 => 8
  | 3 => 8
  | 4 => 8
  | 5 => 64
  | 6 => 64
  | 7 => 64
  | 8 => 64
  | 9 => 64
  | 10 => 64
  | 11 => 80
  | 12 => 80
  | 13 => 80
  | 14 => 80
  | 15 => 80
  | 16 => 80
  | 17 => 80
  | 18 => 80
  | 19 => 80
  | 20 => 80
  | 21 => 80
  | 22 => 80
  | 23 => 80
  | 24 => 80
  | 25 => 80
  | 26 => 80
  | 27 => 80
  | 28 => 80
  | 29 => 80
  | 30 => 80
  | 31 => 80
  | 32 => 80
  | 33 => 80
  | 34 => 80
  | 35 => 80
  | 36 => 80
  | 37 => 80
  | 38 => 80
  | 39 => 80
  | 40 => 240
  | 41 => 240
  | 42 => 240
  | 43 => 1200
  | 44 => 240
  | 45 => 240
  | 46 => 1200
  | 47 => 80
  | 48 => 1600
  | 49 => 60
  | 50 => 60
  | 51 => 80
  | 52 => 960
  | 53 => 3
  | 54 => 192
  | 55 => 208
  | 56 => 1920
  | 57 => 30720
  | _ => 0
def csLo (k : Nat) : Int := match k with
  | 0 => 0
  | 1 => 0
  | 2 => 0
  | 3 => -1
  | 4 => 0
  | 5 => 0
  | 6 => 0
  | 7 => -1
  | 8 => 0
  | 9 => 0
  | 10 => -1201
  | 11 => -1
  | 12 => 0
  | 13 => 0
  | 14 => 0
  | 15 => 0
  | 16 => -1
  | 17 => 0
  | 18 => -1
  | _ => -2147483648
def csHi (k : Nat) : Int := match k with
  | 0 => 1200
  | 1 => 1
  | 2 => 3
  | 3 => 1201
  | 4 => 80
  | 5 => 240
  | 6 => 1200
  | 7 => 0
  | 8 => 1200
  | 9 => 1201
  | 10 => 6
  | 11 => 79
  | 12 => 80
  | 13 => 400
  | 14 => 60
  | 15 => 80
  | 16 => 79
  | 17 => 8
  | 18 => 79
  | _ => 2147483647
def caLo (k : Nat) : Int := match k with
  | 0 => 0
  | 1 => 0
  | 2 => 0
  | 3 => 0
  | 4 => -1
  | 5 => 0
  | 6 => 0
  | 7 => 0
  | 8 => -1
  | 9 => 0
  | 10 => 0
  | 11 => 0
  | 12 => 0
  | 13 => 0
  | 14 => -1
  | 15 => -1
  | 16 => -1
  | 17 => -1
  | 18 => 0
  | 19 => 0
  | 20 => 0
  | 21 => -1
  | 22 => -1
  | 23 => -1
  | 24 => -1
  | 25 => -1
  | 26 => -1
  | 27 => -1
  | 28 => 0
  | 29 => -1
  | 30 => -1
  | 31 => -1
  | 32 => -1
  | 33 => -1
  | 34 => 0
  | 35 => 0
  | 36 => 0
  | 37 => 0
  | 38 => 0
  | 39 => -1
  | 41 => 0
  | 42 => 0
  | 43 => 0
  | 44 => 0
  | 45 => 0
  | 46 => 0
  | 47 => -1
  | 49 => 0
  | 50 => 0
  | 51 => -1
  | 53 => -1
  | 55 => -1
  | 56 => 0
  | 57 => -1
  | _ => -2147483648
def caHi (k : Nat) : Int := match k with
  | 0 => 4
  | 1 => 4
  | 2 => 7
  | 3 => 8
  | 4 => 7
  | 5 => 7
  | 6 => 3
  | 7 => 3
  | 8 => 25
  | 9 => 1
  | 10 => 7
  | 11 => 24
  | 12 => 2000000
  | 13 => 1201
  | 14 => 33
  | 15 => 79
  | 16 => 79
  | 17 => 79
  | 18 => 2000000
  | 19 => 240
  | 20 => 12
  | 21 => 1
  | 22 => 25
  | 23 => 2
  | 24 => 15
  | 25 => 33
  | 26 => 79
  | 27 => 79
  | 28 => 79
  | 29 => 79
  | 30 => 7
  | 31 => 25
  | 32 => 25
  | 33 => 25
  | 34 => 1
  | 35 => 1
  | 36 => 1
  | 37 => 1
  | 38 => 1
  | 39 => 59
  | 41 => 80
  | 42 => 127
  | 43 => 65535
  | 44 => 1200
  | 45 => 24
  | 46 => 65535
  | 47 => 79
  | 49 => 7
  | 50 => 79
  | 51 => 79
  | 53 => 2
  | 55 => 15
  | 56 => 65535
  | 57 => 79
  | _ => 2147483647
/-- a place of a row that holds a reference: negative for null -/
def er (a : Nat → Nat) (x : Int32) : Option Nat := if x.toInt < 0 then none else some (a x.toNatClampNeg)
def eV (a : Nat → Nat) (x : Int32) : Value := va_rf (er a x)
theorem er_some {a : Nat → Nat} {x : Int32} (h : 0 ≤ x.toInt) : er a x = some (a x.toNatClampNeg) := by unfold er; rw [if_neg (by omega)]
theorem er_none {a : Nat → Nat} {x : Int32} (h : x.toInt < 0) : er a x = none := by unfold er; rw [if_pos h]
theorem eV_ref {a : Nat → Nat} {x : Int32} (h : 0 ≤ x.toInt) : eV a x = .ref (a x.toNatClampNeg) := by unfold eV; rw [er_some h]; rfl
theorem eV_null {a : Nat → Nat} {x : Int32} (h : x.toInt < 0) : eV a x = .null := by unfold eV; rw [er_none h]; rfl
theorem eV_is (a : Nat → Nat) (x : Int32) : eV a x = .null ∨ ∃ q, eV a x = .ref q := by
  by_cases h : x.toInt < 0
  · exact Or.inl (eV_null h)
  · exact Or.inr ⟨_, eV_ref (by omega)⟩
theorem eV_cat (a : Nat → Nat) (x : Int32) : (eV a x).category = 1 := by
  rcases eV_is a x with h | ⟨q, h⟩ <;> rw [h] <;> rfl
def cPL : List (Nat × Nat) := (List.range 32).flatMap (fun t => (List.range (cNum t)).map (fun i => (t, i)))
section CW
variable (ad : Nat → Nat → Nat) (cid : Nat → ClassId) (a2 : Nat → Nat) (lx : List Nat) (sg : Nat → Int32) (gm : Nat → Nat → Int32) (lg : Nat → Nat → Int64)
def cV (t j i : Nat) : Value := if cKd t j = 0 then .int (sg (cKy t j)) else if cKd t j = 1 then .int (gm (cKy t j) i) else if cKd t j = 2 then .long (lg (cKy t j) i) else if cKd t j = 3 then eV (ad (cTg t j)) (sg (cKy t j)) else if cKd t j = 4 then eV (ad (cTg t j)) (gm (cKy t j) i) else if cKd t j = 5 then .ref (ad (cTg t j) (cMu t j * i + cOf t j)) else .ref (if (gm 42 i).toInt = 0 then ad 34 0 else a2 i)
def cFs (t i : Nat) : List Value := (List.range (cNf t)).map (fun j => cV ad a2 sg gm lg t j i)
def cAi (t i j : Nat) : Int32 := if cAw t = 0 then gm (cAy t) j else if j < cAw t then gm (cAy t) (cAw t * i + j) else 0
def cAr (t i j : Nat) : Option Nat := if cAk t = 2 then er (ad (cAt t)) (gm (cAy t) j) else some (ad (cAt t) (cAm t * i + cAo t + j))
def cE (t i : Nat) : va_E := if t < 12 then .inr (cIx t, cFs ad a2 sg gm lg t i) else .inl (cid t, cLen t, if cAk t = 0 then .inl (cAi gm t i) else if cAk t = 1 then .inr (.inl (lg (cAy t))) else .inr (.inr (.inr (.inr (cAr ad gm t i)))))
def cDr (q j : Nat) : Option Nat := if j < 128 then er (ad 9) (gm 57 (128 * q + j)) else none
def cD (q : Nat) : va_E := .inl (cid 32, (gm 42 q).toNatClampNeg, .inr (.inr (.inr (.inr (cDr ad gm q)))))
def cFx : va_W := cPL.map (fun x => (ad x.1 x.2, cE ad cid a2 sg gm lg x.1 x.2))
def cW : va_W := cFx ad cid a2 sg gm lg ++ lx.map (fun q => (a2 q, cD ad cid gm q))
end CW
def cT (cid : Nat → ClassId) : List (ClassId × FieldType) := (List.range 33).map (fun t => (cid t, cTy t))
theorem cT_at {cid : Nat → ClassId} {t : Nat} (h : t < 33) : (cT cid)[t]? = some (cid t, cTy t) := by
  unfold cT; rw [List.getElem?_map, List.getElem?_range h]; rfl
theorem cPL_at {t i : Nat} (ht : t < 32) (hi : i < cNum t) : ∃ p9 : Nat, cPL[p9]? = some (t, i) := List.getElem?_of_mem (by
  unfold cPL; exact List.mem_flatMap.mpr ⟨t, List.mem_range.mpr ht, List.mem_map.mpr ⟨i, List.mem_range.mpr hi, rfl⟩⟩)
theorem cPL_in {p9 : Nat} {x : Nat × Nat} (h : cPL[p9]? = some x) : x.1 < 32 ∧ x.2 < cNum x.1 := by
  have h1 := List.mem_of_getElem? h
  unfold cPL at h1
  obtain ⟨t, ht, h2⟩ := List.mem_flatMap.mp h1
  obtain ⟨i, hi, rfl⟩ := List.mem_map.mp h2
  exact ⟨List.mem_range.mp ht, List.mem_range.mp hi⟩
def cOff (t : Nat) : Nat := ((List.range t).map cNum).sum
set_option maxRecDepth 100000 in
theorem cPL_pos : ((List.range cPL.length).all fun p9 => match cPL[p9]? with | some x => p9 == cOff x.1 + x.2 | none => true) = true := by decide +kernel
theorem cPL_inj {p9 q9 : Nat} {x : Nat × Nat} (h1 : cPL[p9]? = some x) (h2 : cPL[q9]? = some x) : p9 = q9 := by
  have key : ∀ k, cPL[k]? = some x → k = cOff x.1 + x.2 := fun k hk => by
    have := List.all_eq_true.mp cPL_pos k (List.mem_range.mpr (List.getElem?_eq_some_iff.mp hk).1)
    rw [hk] at this
    simpa using this
  rw [key _ h1, key _ h2]
section CR
variable {ad : Nat → Nat → Nat} {cid : Nat → ClassId} {a2 : Nat → Nat} {lx : List Nat} {sg sg2 : Nat → Int32} {gm gm2 : Nat → Nat → Int32} {lg lg2 : Nat → Nat → Int64}
theorem cW_at {p9 t i : Nat} (h : cPL[p9]? = some (t, i)) : (cW ad cid a2 lx sg gm lg)[p9]? = some (ad t i, cE ad cid a2 sg gm lg t i) := by
  unfold cW cFx
  rw [List.getElem?_append_left (by rw [List.length_map]; exact (List.getElem?_eq_some_iff.mp h).1), List.getElem?_map, h]
  rfl
theorem cW_setG {PL : List (Nat × Nat)} {f g : Nat × Nat → Nat × va_E} {d : va_W} {p9 : Nat} {x9 : Nat × Nat} (h : PL[p9]? = some x9) (hne : ∀ j x, PL[j]? = some x → j ≠ p9 → g x = f x) : (PL.map f ++ d).set p9 (g x9) = PL.map g ++ d := by
  have hp := (List.getElem?_eq_some_iff.mp h).1
  rw [List.set_append_left (h := by rw [List.length_map]; exact hp)]
  congr 1
  apply List.ext_getElem?
  intro j
  by_cases hj : j = p9
  · subst hj
    rw [List.getElem?_set_self (by rw [List.length_map]; exact hp), List.getElem?_map, h]
    rfl
  · rw [List.getElem?_set_ne (Ne.symm hj), List.getElem?_map, List.getElem?_map]
    cases hb : PL[j]? with
    | none => rfl
    | some x =>
      show some (f x) = some (g x)
      rw [hne j x hb hj]
theorem cW_set {p9 t i : Nat} (h : cPL[p9]? = some (t, i)) (hne : ∀ t' i', t' < 32 → i' < cNum t' → ¬ (t' = t ∧ i' = i) → cE ad cid a2 sg2 gm2 lg2 t' i' = cE ad cid a2 sg gm lg t' i') (hd : ∀ q, cD ad cid gm2 q = cD ad cid gm q) : (cW ad cid a2 lx sg gm lg).set p9 (ad t i, cE ad cid a2 sg2 gm2 lg2 t i) = cW ad cid a2 lx sg2 gm2 lg2 := by
  have e2 : (fun q => (a2 q, cD ad cid gm2 q)) = (fun q => (a2 q, cD ad cid gm q)) := funext fun q => by rw [hd q]
  unfold cW cFx
  rw [e2]
  exact cW_setG (g := fun x => (ad x.1 x.2, cE ad cid a2 sg2 gm2 lg2 x.1 x.2)) h (fun j x hb hj => by
    obtain ⟨b1, b2⟩ := cPL_in hb
    have hx : ¬ (x.1 = t ∧ x.2 = i) := fun z => hj (cPL_inj hb (by rw [h, ← z.1, ← z.2]))
    show (ad x.1 x.2, cE ad cid a2 sg2 gm2 lg2 x.1 x.2) = (ad x.1 x.2, cE ad cid a2 sg gm lg x.1 x.2)
    rw [hne x.1 x.2 b1 b2 hx])
theorem cFs_get {t j i : Nat} (hj : j < cNf t) : (cFs ad a2 sg gm lg t i)[j]? = some (cV ad a2 sg gm lg t j i) := by
  unfold cFs; rw [List.getElem?_map, List.getElem?_range hj]; rfl
theorem cFs_len {t i : Nat} : (cFs ad a2 sg gm lg t i).length = cNf t := by unfold cFs; rw [List.length_map, List.length_range]
theorem cFs_set {t j i : Nat} (hj : j < cNf t) (hne : ∀ j', j' < cNf t → j' ≠ j → cV ad a2 sg2 gm2 lg2 t j' i = cV ad a2 sg gm lg t j' i) : (cFs ad a2 sg gm lg t i).set j (cV ad a2 sg2 gm2 lg2 t j i) = cFs ad a2 sg2 gm2 lg2 t i := by
  apply List.ext_getElem?
  intro k
  by_cases hk : k = j
  · subst hk
    rw [List.getElem?_set_self (by rw [cFs_len]; exact hj), cFs_get hj]
  · rw [List.getElem?_set_ne (Ne.symm hk)]
    by_cases h7 : k < cNf t
    · rw [cFs_get h7, cFs_get h7, hne k h7 hk]
    · rw [List.getElem?_eq_none (by rw [cFs_len]; omega), List.getElem?_eq_none (by rw [cFs_len]; omega)]
theorem cE_o {t i : Nat} (ht : t < 12) : cE ad cid a2 sg gm lg t i = .inr (cIx t, cFs ad a2 sg gm lg t i) := by unfold cE; rw [if_pos ht]
theorem cE_eq {t i : Nat} (hv : ∀ j, j < cNf t → cV ad a2 sg2 gm2 lg2 t j i = cV ad a2 sg gm lg t j i) (hi : 12 ≤ t → cAk t = 0 → ∀ j, cAi gm2 t i j = cAi gm t i j) (hl : 12 ≤ t → cAk t = 1 → lg2 (cAy t) = lg (cAy t)) (hr : 12 ≤ t → ∀ j, cAr ad gm2 t i j = cAr ad gm t i j) : cE ad cid a2 sg2 gm2 lg2 t i = cE ad cid a2 sg gm lg t i := by
  unfold cE
  by_cases h : t < 12
  · rw [if_pos h, if_pos h]
    have : cFs ad a2 sg2 gm2 lg2 t i = cFs ad a2 sg gm lg t i := by
      unfold cFs
      exact List.map_congr_left (fun j hj => hv j (List.mem_range.mp hj))
    rw [this]
  · rw [if_neg h, if_neg h]
    by_cases h0 : cAk t = 0
    · rw [if_pos h0, if_pos h0, show cAi gm2 t i = cAi gm t i from funext (hi (by omega) h0)]
    · rw [if_neg h0, if_neg h0]
      by_cases h1 : cAk t = 1
      · rw [if_pos h1, if_pos h1, hl (by omega) h1]
      · rw [if_neg h1, if_neg h1, show cAr ad gm2 t i = cAr ad gm t i from funext (hr (by omega))]
theorem cNf21 : ∀ t, t < 32 → cNf t ≤ 21 := by decide +kernel
theorem cNf0 : ∀ t, t < 32 → 12 ≤ t → cNf t = 0 := by decide +kernel
theorem cAw1 : ∀ t, t < 32 → 12 ≤ t → cAw t = 0 → cAk t = 0 → cNum t = 1 := by decide +kernel
theorem cAw2 : ∀ t, t < 32 → 12 ≤ t → ¬ cAw t = 0 → cAw t = cLen t := by decide +kernel
def cKc (t j : Nat) : Nat := if cKd t j = 1 then 1 else if cKd t j = 4 then 1 else if cKd t j = 0 then 2 else if cKd t j = 3 then 2 else if cKd t j = 2 then 3 else 0
set_option maxRecDepth 100000 in
theorem cUnB : ((List.range 12).all fun t => (List.range (cNf t)).all fun j => (List.range 12).all fun t' => (List.range (cNf t')).all fun j' => !(cKy t j == cKy t' j') || !(cKc t j == cKc t' j') || (cKc t j == 0) || (t == t' && j == j')) = true := by decide +kernel
/-- no key is used twice -/
theorem cUn {t j t' j' : Nat} (ht : t < 12) (hj : j < cNf t) (ht' : t' < 12) (hj' : j' < cNf t') (h : cKy t j = cKy t' j') (hc : cKc t j = cKc t' j') (h0 : ¬ cKc t j = 0) : t = t' ∧ j = j' := by
  have h1 := List.all_eq_true.mp (List.all_eq_true.mp (List.all_eq_true.mp (List.all_eq_true.mp cUnB t (List.mem_range.mpr ht)) j (List.mem_range.mpr hj)) t' (List.mem_range.mpr ht')) j' (List.mem_range.mpr hj')
  simp [h, hc] at h1
  rcases h1 with q | q
  · exact absurd (hc.trans q) h0
  · exact q
theorem cKc_1 {t j : Nat} (h : cKd t j = 1 ∨ cKd t j = 4) : cKc t j = 1 := by
  unfold cKc
  rcases h with h | h
  · rw [if_pos h]
  · rw [if_neg (by omega), if_pos h]
theorem cKc_2 {t j : Nat} (h : cKd t j = 0 ∨ cKd t j = 3) : cKc t j = 2 := by
  unfold cKc
  rcases h with h | h
  · rw [if_neg (by omega), if_neg (by omega), if_pos h]
  · rw [if_neg (by omega), if_neg (by omega), if_neg (by omega), if_pos h]
theorem cKc_3 {t j : Nat} (h : cKd t j = 2) : cKc t j = 3 := by
  unfold cKc
  rw [if_neg (by omega), if_neg (by omega), if_neg (by omega), if_neg (by omega), if_pos h]
theorem cUk : ∀ t, t < 12 → ∀ j, j < 21 → ((cKd t j = 1 ∨ cKd t j = 4) → cKy t j < 42) ∧ (cKd t j = 2 → 1 ≤ cKy t j ∧ cKy t j < 998) ∧ ((cKd t j = 0 ∨ cKd t j = 3) → cKy t j < 998) := by decide +kernel
theorem cUa : ∀ t, t < 32 → 12 ≤ t → ((cAk t = 0 ∨ cAk t = 2) → 43 ≤ cAy t ∧ cAy t < 57) ∧ (cAk t = 1 → cAy t = 0 ∧ t = 15) := by decide +kernel
theorem cUbB : ((List.range 32).all fun t => (List.range 32).all fun t' => !(decide (12 ≤ t)) || !(decide (12 ≤ t')) || !(cAk t == 0 || cAk t == 2) || !(cAk t' == 0 || cAk t' == 2) || !(cAy t == cAy t') || (t == t')) = true := by decide +kernel
theorem cUb (t : Nat) (ht : t < 32) (h12 : 12 ≤ t) (t' : Nat) (ht' : t' < 32) (h12' : 12 ≤ t') (hk : cAk t = 0 ∨ cAk t = 2) (hk' : cAk t' = 0 ∨ cAk t' = 2) (h : cAy t = cAy t') : t = t' := by
  have h1 := List.all_eq_true.mp (List.all_eq_true.mp cUbB t (List.mem_range.mpr ht)) t' (List.mem_range.mpr ht')
  simp [h, h12, h12'] at h1
  omega
/-- a field of a row is written -/
theorem cV_g {t j i : Nat} {x : Int32} (ht : t < 12) (hj : j < cNf t) (hk : cKd t j = 1 ∨ cKd t j = 4) {t' j' i' : Nat} (ht' : t' < 12) (hj' : j' < cNf t') (hne : ¬ (t' = t ∧ j' = j ∧ i' = i)) : cV ad a2 sg (va_up gm (cKy t j) (upd (gm (cKy t j)) i x)) lg t' j' i' = cV ad a2 sg gm lg t' j' i' := by
  have k42 := (cUk t ht j (by have := cNf21 t (by omega); omega)).1 hk
  have e42 : va_up gm (cKy t j) (upd (gm (cKy t j)) i x) 42 = gm 42 := va_up_ne _ _ (by omega)
  have key : (cKd t' j' = 1 ∨ cKd t' j' = 4) → va_up gm (cKy t j) (upd (gm (cKy t j)) i x) (cKy t' j') i' = gm (cKy t' j') i' := fun h => by
    by_cases q : cKy t' j' = cKy t j
    · have := cUn ht hj ht' hj' q.symm ((cKc_1 hk).trans (cKc_1 h).symm) (by rw [cKc_1 hk]; decide)
      obtain ⟨rfl, rfl⟩ := this
      rw [va_up_self]
      exact upd_ne (fun z => hne ⟨rfl, rfl, z⟩)
    · rw [va_up_ne _ _ q]
  unfold cV
  rw [e42]
  by_cases h1 : cKd t' j' = 1
  · rw [key (Or.inl h1)]
  · by_cases h4 : cKd t' j' = 4
    · rw [key (Or.inr h4)]
    · simp only [h1, h4, if_false]
theorem cAi_k {t i : Nat} {k : Nat} {f : Nat → Int32} (ht : t < 32) (h12 : 12 ≤ t) (hk : k < 43) (h0 : cAk t = 0) (j : Nat) : cAi (va_up gm k f) t i j = cAi gm t i j := by
  have := ((cUa t ht h12).1 (Or.inl h0)).1
  unfold cAi
  rw [va_up_ne gm f (by omega)]
theorem cAr_k {t i : Nat} {k : Nat} {f : Nat → Int32} (ht : t < 32) (h12 : 12 ≤ t) (hk : k < 43 ∨ k = 57) (j : Nat) : cAr ad (va_up gm k f) t i j = cAr ad gm t i j := by
  unfold cAr
  by_cases h2 : cAk t = 2
  · have := (cUa t ht h12).1 (Or.inr h2)
    rw [va_up_ne gm f (by omega)]
  · rw [if_neg h2, if_neg h2]
theorem cE_g {t j i : Nat} {x : Int32} (ht : t < 12) (hj : j < cNf t) (hk : cKd t j = 1 ∨ cKd t j = 4) {t' i' : Nat} (ht' : t' < 32) (hne : ¬ (t' = t ∧ i' = i)) : cE ad cid a2 sg (va_up gm (cKy t j) (upd (gm (cKy t j)) i x)) lg t' i' = cE ad cid a2 sg gm lg t' i' := by
  have n1 := cNf21 t (by omega)
  have k42 := (cUk t ht j (by omega)).1 hk
  refine cE_eq (fun j' hj' => ?_) (fun h h0 j' => cAi_k ht' h (by omega) h0 j') (fun _ _ => rfl) (fun h j' => cAr_k ht' h (Or.inl (by omega)) j')
  have n2 := cNf21 t' ht'
  have h12 : t' < 12 := Decidable.byContradiction (fun z => by have := cNf0 t' ht' (by omega); omega)
  exact cV_g ht (by omega) hk h12 (by omega) (fun z => hne ⟨z.1, z.2.2⟩)
theorem cD_k {k : Nat} {f : Nat → Int32} (h1 : k ≠ 42) (h2 : k ≠ 57) (q : Nat) : cD ad cid (va_up gm k f) q = cD ad cid gm q := by
  unfold cD
  have : cDr ad (va_up gm k f) q = cDr ad gm q := funext fun j => by unfold cDr; rw [va_up_ne gm f (Ne.symm h2)]
  rw [this, va_up_ne gm f (Ne.symm h1)]
theorem cW_g {p9 t j i : Nat} {x : Int32} (h : cPL[p9]? = some (t, i)) (ht : t < 12) (hj : j < cNf t) (hk : cKd t j = 1 ∨ cKd t j = 4) : (cW ad cid a2 lx sg gm lg).set p9 (ad t i, .inr (cIx t, (cFs ad a2 sg gm lg t i).set j (cV ad a2 sg (va_up gm (cKy t j) (upd (gm (cKy t j)) i x)) lg t j i))) = cW ad cid a2 lx sg (va_up gm (cKy t j) (upd (gm (cKy t j)) i x)) lg := by
  have n1 := cNf21 t (by omega)
  have k42 := (cUk t ht j (by omega)).1 hk
  rw [cFs_set hj (fun j' hj' hn => cV_g ht (by omega) hk ht (by omega) (fun z => hn z.2.1)), ← cE_o (cid := cid) ht]
  exact cW_set h (fun t' i' h1 _ hn => cE_g ht hj hk h1 hn) (cD_k (by omega) (by omega))
/-- a field of a single object is written -/
theorem cV_s {t j : Nat} {x : Int32} (ht : t < 12) (hj : j < cNf t) (hk : cKd t j = 0 ∨ cKd t j = 3) {t' j' i' : Nat} (ht' : t' < 12) (hj' : j' < cNf t') (hne : ¬ (t' = t ∧ j' = j)) : cV ad a2 (va_up sg (cKy t j) x) gm lg t' j' i' = cV ad a2 sg gm lg t' j' i' := by
  have key : (cKd t' j' = 0 ∨ cKd t' j' = 3) → va_up sg (cKy t j) x (cKy t' j') = sg (cKy t' j') := fun h => by
    by_cases q : cKy t' j' = cKy t j
    · exact absurd (cUn ht hj ht' hj' q.symm ((cKc_2 hk).trans (cKc_2 h).symm) (by rw [cKc_2 hk]; decide)) (fun z => hne ⟨z.1.symm, z.2.symm⟩)
    · rw [va_up_ne _ _ q]
  unfold cV
  by_cases h1 : cKd t' j' = 0
  · rw [key (Or.inl h1)]
  · by_cases h4 : cKd t' j' = 3
    · rw [key (Or.inr h4)]
    · simp only [h1, h4, if_false]
theorem cW_s {p9 t j i : Nat} {x : Int32} (h : cPL[p9]? = some (t, i)) (ht : t < 12) (hj : j < cNf t) (hk : cKd t j = 0 ∨ cKd t j = 3) (hn1 : cNum t = 1) : (cW ad cid a2 lx sg gm lg).set p9 (ad t i, .inr (cIx t, (cFs ad a2 sg gm lg t i).set j (cV ad a2 (va_up sg (cKy t j) x) gm lg t j i))) = cW ad cid a2 lx (va_up sg (cKy t j) x) gm lg := by
  have n1 := cNf21 t (by omega)
  have b := cPL_in h
  rw [cFs_set hj (fun j' hj' hn => cV_s ht (by omega) hk ht (by omega) (fun z => hn z.2)), ← cE_o (cid := cid) ht]
  refine cW_set h (fun t' i' h1 h2 hn => cE_eq (fun j' hj' => ?_) (fun _ _ _ => rfl) (fun _ _ => rfl) (fun _ _ => rfl)) (fun _ => rfl)
  have n2 := cNf21 t' h1
  have h12 : t' < 12 := Decidable.byContradiction (fun z => by have := cNf0 t' h1 (by omega); omega)
  refine cV_s ht (by omega) hk h12 (by omega) (fun z => hn ⟨z.1, ?_⟩)
  have b2 := b.2
  have : i < 1 := by rw [← hn1]; exact b2
  have : i' < 1 := by rw [← hn1, ← z.1]; exact h2
  omega
/-- a long field is written -/
theorem cV_l {t j i : Nat} {x : Int64} (ht : t < 12) (hj : j < cNf t) (hk : cKd t j = 2) {t' j' i' : Nat} (ht' : t' < 12) (hj' : j' < cNf t') (hne : ¬ (t' = t ∧ j' = j ∧ i' = i)) : cV ad a2 sg gm (va_up lg (cKy t j) (vp_updL (lg (cKy t j)) i x)) t' j' i' = cV ad a2 sg gm lg t' j' i' := by
  unfold cV
  by_cases h1 : cKd t' j' = 2
  · have : va_up lg (cKy t j) (vp_updL (lg (cKy t j)) i x) (cKy t' j') i' = lg (cKy t' j') i' := by
      by_cases q : cKy t' j' = cKy t j
      · obtain ⟨rfl, rfl⟩ := cUn ht hj ht' hj' q.symm ((cKc_3 hk).trans (cKc_3 h1).symm) (by rw [cKc_3 hk]; decide)
        rw [va_up_self]
        exact pk_uLn (fun z => hne ⟨rfl, rfl, z⟩)
      · rw [va_up_ne _ _ q]
    rw [this]
  · simp only [h1, if_false]
theorem cW_l {p9 t j i : Nat} {x : Int64} (h : cPL[p9]? = some (t, i)) (ht : t < 12) (hj : j < cNf t) (hk : cKd t j = 2) : (cW ad cid a2 lx sg gm lg).set p9 (ad t i, .inr (cIx t, (cFs ad a2 sg gm lg t i).set j (cV ad a2 sg gm (va_up lg (cKy t j) (vp_updL (lg (cKy t j)) i x)) t j i))) = cW ad cid a2 lx sg gm (va_up lg (cKy t j) (vp_updL (lg (cKy t j)) i x)) := by
  have n1 := cNf21 t (by omega)
  have k1 := (cUk t ht j (by omega)).2.1 hk
  rw [cFs_set hj (fun j' hj' hn => cV_l ht (by omega) hk ht (by omega) (fun z => hn z.2.1)), ← cE_o (cid := cid) ht]
  refine cW_set h (fun t' i' h1 _ hn => cE_eq (fun j' hj' => ?_) (fun _ _ _ => rfl) (fun h12 h9 => ?_) (fun _ _ => rfl)) (fun _ => rfl)
  · have n2 := cNf21 t' h1
    have h12 : t' < 12 := Decidable.byContradiction (fun z => by have := cNf0 t' h1 (by omega); omega)
    exact cV_l ht (by omega) hk h12 (by omega) (fun z => hn ⟨z.1, z.2.2⟩)
  · have := ((cUa t' h1 h12).2 h9).1
    rw [va_up_ne _ _ (by omega)]
/-- a place of an array of numbers is written -/
theorem cAi_st {t i n : Nat} {x : Int32} (ht : t < 32) (h12 : 12 ≤ t) (h0 : cAk t = 0) (hw : cAw t = 0 ∨ n < cAw t) : cAi (va_up gm (cAy t) (upd (gm (cAy t)) (cAw t * i + n) x)) t i = upd (cAi gm t i) n x := by
  funext j
  show _ = (if j = n then x else _)
  unfold cAi
  rw [va_up_self]
  by_cases h1 : cAw t = 0
  · rw [if_pos h1, if_pos h1, h1, Nat.zero_mul, Nat.zero_add]
    rfl
  · rw [if_neg h1, if_neg h1]
    have hn := hw.resolve_left h1
    by_cases h2 : j = n
    · subst h2; rw [if_pos hn, if_pos rfl, upd_at]
    · rw [if_neg h2]
      by_cases h3 : j < cAw t
      · rw [if_pos h3, if_pos h3, upd_ne (by omega)]
      · rw [if_neg h3, if_neg h3]
theorem cW_a {p9 t i n : Nat} {x : Int32} (h : cPL[p9]? = some (t, i)) (h12 : 12 ≤ t) (h0 : cAk t = 0) (hw : cAw t = 0 ∨ n < cAw t) : (cW ad cid a2 lx sg gm lg).set p9 (ad t i, .inl (cid t, cLen t, .inl (upd (cAi gm t i) n x))) = cW ad cid a2 lx sg (va_up gm (cAy t) (upd (gm (cAy t)) (cAw t * i + n) x)) lg := by
  have ht := (cPL_in h).1
  have hi9 := (cPL_in h).2
  have ka := (cUa t ht h12).1 (Or.inl h0)
  rw [← cAi_st ht h12 h0 hw]
  have e1 : (Sum.inl (cid t, cLen t, Sum.inl (cAi (va_up gm (cAy t) (upd (gm (cAy t)) (cAw t * i + n) x)) t i)) : va_E) = cE ad cid a2 sg (va_up gm (cAy t) (upd (gm (cAy t)) (cAw t * i + n) x)) lg t i := by
    unfold cE; rw [if_neg (by omega), if_pos h0]
  rw [e1]
  refine cW_set h (fun t' i' h1 h2 hn => cE_eq (fun j' hj' => ?_) (fun g12 g0 j' => ?_) (fun _ _ => rfl) (fun g12 j' => ?_)) (cD_k (by omega) (by omega))
  · have n2 := cNf21 t' h1
    have g12 : t' < 12 := Decidable.byContradiction (fun z => by have := cNf0 t' h1 (by omega); omega)
    have key : (cKd t' j' = 1 ∨ cKd t' j' = 4) → va_up gm (cAy t) (upd (gm (cAy t)) (cAw t * i + n) x) (cKy t' j') = gm (cKy t' j') := fun q => by
      have := (cUk t' g12 j' (by omega)).1 q
      exact va_up_ne _ _ (by omega)
    have e42 : va_up gm (cAy t) (upd (gm (cAy t)) (cAw t * i + n) x) 42 = gm 42 := va_up_ne _ _ (by omega)
    unfold cV
    rw [e42]
    by_cases q1 : cKd t' j' = 1
    · rw [key (Or.inl q1)]
    · by_cases q4 : cKd t' j' = 4
      · rw [key (Or.inr q4)]
      · simp only [q1, q4, if_false]
  · unfold cAi
    by_cases q : cAy t' = cAy t
    · have e := cUb t' h1 g12 t ht h12 (Or.inl g0) (Or.inl h0) q
      subst e
      rw [va_up_self]
      have hii : i' ≠ i := fun z => hn ⟨rfl, z⟩
      by_cases q2 : cAw t' = 0
      · have c1 := cAw1 t' h1 g12 q2 g0
        rw [c1] at h2
        have h3 : i < 1 := by rw [← c1]; exact hi9
        omega
      · rw [if_neg q2, if_neg q2]
        by_cases q3 : j' < cAw t'
        · rw [if_pos q3, if_pos q3, upd_ne ?_]
          have hn2 := hw.resolve_left q2
          intro z
          rcases Nat.lt_or_gt_of_ne hii with g | g
          · have := Nat.mul_le_mul_left (cAw t') (show i' + 1 ≤ i from g)
            rw [Nat.mul_add, Nat.mul_one] at this
            omega
          · have := Nat.mul_le_mul_left (cAw t') (show i + 1 ≤ i' from g)
            rw [Nat.mul_add, Nat.mul_one] at this
            omega
        · rw [if_neg q3, if_neg q3]
    · rw [va_up_ne _ _ q]
  · unfold cAr
    by_cases q2 : cAk t' = 2
    · have : cAy t' ≠ cAy t := fun q => by
        have e := cUb t' h1 g12 t ht h12 (Or.inr q2) (Or.inl h0) q
        rw [e, h0] at q2
        exact absurd q2 (by decide)
      rw [va_up_ne _ _ this]
    · rw [if_neg q2, if_neg q2]
theorem cW_al {p9 n : Nat} {x : Int64} (h : cPL[p9]? = some (15, 0)) : (cW ad cid a2 lx sg gm lg).set p9 (ad 15 0, .inl (cid 15, cLen 15, .inr (.inl (vp_updL (lg 0) n x)))) = cW ad cid a2 lx sg gm (va_up lg 0 (vp_updL (lg 0) n x)) := by
  have e1 : (Sum.inl (cid 15, cLen 15, Sum.inr (Sum.inl (vp_updL (lg 0) n x))) : va_E) = cE ad cid a2 sg gm (va_up lg 0 (vp_updL (lg 0) n x)) 15 0 := by
    unfold cE; rw [if_neg (by decide), if_neg (by decide), if_pos (by decide), show cAy 15 = 0 from rfl, va_up_self]
  rw [e1]
  refine cW_set h (fun t' i' h1 h2 hn => cE_eq (fun j' hj' => ?_) (fun _ _ _ => rfl) (fun g12 g1 => ?_) (fun _ _ => rfl)) (fun _ => rfl)
  · have n2 := cNf21 t' h1
    have g12 : t' < 12 := Decidable.byContradiction (fun z => by have := cNf0 t' h1 (by omega); omega)
    unfold cV
    by_cases q1 : cKd t' j' = 2
    · have := ((cUk t' g12 j' (by omega)).2.1 q1).1
      rw [va_up_ne lg _ (by omega)]
    · simp only [q1, if_false]
  · have e := ((cUa t' h1 g12).2 g1).2
    subst e
    have h3 : i' < 1 := h2
    exact absurd ⟨rfl, by omega⟩ hn
/-- a place of an array of references is written -/
theorem cAr_st {t i n : Nat} {x : Int32} (h2 : cAk t = 2) : cAr ad (va_up gm (cAy t) (upd (gm (cAy t)) n x)) t i = va_up (cAr ad gm t i) n (er (ad (cAt t)) x) := by
  funext j
  by_cases hj : j = n
  · subst hj
    rw [va_up_self]
    unfold cAr
    rw [if_pos h2, va_up_self, upd_at]
  · rw [va_up_ne _ _ hj]
    unfold cAr
    rw [if_pos h2, if_pos h2, va_up_self, upd_ne hj]
theorem cUr : ∀ t, t < 32 → 12 ≤ t → cAk t = 2 → cNum t = 1 := by decide +kernel
theorem cW_r {p9 t i n : Nat} {x : Int32} (h : cPL[p9]? = some (t, i)) (h12 : 12 ≤ t) (h2 : cAk t = 2) : (cW ad cid a2 lx sg gm lg).set p9 (ad t i, .inl (cid t, cLen t, .inr (.inr (.inr (.inr (va_up (cAr ad gm t i) n (er (ad (cAt t)) x))))))) = cW ad cid a2 lx sg (va_up gm (cAy t) (upd (gm (cAy t)) n x)) lg := by
  have ht := (cPL_in h).1
  have hi9 := (cPL_in h).2
  have ka := (cUa t ht h12).1 (Or.inr h2)
  rw [← cAr_st h2]
  have e1 : (Sum.inl (cid t, cLen t, Sum.inr (Sum.inr (Sum.inr (Sum.inr (cAr ad (va_up gm (cAy t) (upd (gm (cAy t)) n x)) t i))))) : va_E) = cE ad cid a2 sg (va_up gm (cAy t) (upd (gm (cAy t)) n x)) lg t i := by
    unfold cE; rw [if_neg (by omega), if_neg (by omega), if_neg (by omega)]
  rw [e1]
  refine cW_set h (fun t' i' h1 g2 hn => cE_eq (fun j' hj' => ?_) (fun g12 g0 j' => ?_) (fun _ _ => rfl) (fun g12 j' => ?_)) (cD_k (by omega) (by omega))
  · have n2 := cNf21 t' h1
    have g12 : t' < 12 := Decidable.byContradiction (fun z => by have := cNf0 t' h1 (by omega); omega)
    have key : (cKd t' j' = 1 ∨ cKd t' j' = 4) → va_up gm (cAy t) (upd (gm (cAy t)) n x) (cKy t' j') = gm (cKy t' j') := fun q => by
      have := (cUk t' g12 j' (by omega)).1 q
      exact va_up_ne _ _ (by omega)
    have e42 : va_up gm (cAy t) (upd (gm (cAy t)) n x) 42 = gm 42 := va_up_ne _ _ (by omega)
    unfold cV
    rw [e42]
    by_cases q1 : cKd t' j' = 1
    · rw [key (Or.inl q1)]
    · by_cases q4 : cKd t' j' = 4
      · rw [key (Or.inr q4)]
      · simp only [q1, q4, if_false]
  · unfold cAi
    have : cAy t' ≠ cAy t := fun q => by
      have e := cUb t' h1 g12 t ht h12 (Or.inl g0) (Or.inr h2) q
      rw [e, h2] at g0
      exact absurd g0 (by decide)
    rw [va_up_ne _ _ this]
  · unfold cAr
    by_cases q2 : cAk t' = 2
    · have : cAy t' ≠ cAy t := fun q => by
        have e := cUb t' h1 g12 t ht h12 (Or.inr q2) (Or.inr h2) q
        subst e
        have c1 := cUr t' h1 g12 q2
        rw [c1] at g2 hi9
        exact hn ⟨rfl, by omega⟩
      rw [va_up_ne _ _ this]
    · rw [if_neg q2, if_neg q2]
end CR
