def sLo (k : Nat) : Int := match k with
  | 20 => 0
  | 21 => 0
  | 22 => 0
  | 24 => 0
  | 25 => 0
  | 40 => 0
  | 41 => 0
  | 48 => 0
  | 49 => 0
  | 50 => 0
  | 51 => 0
  | 52 => -1
  | 63 => 0
  | 74 => -1
  | 76 => 0
  | _ => -2147483648
def sHi (k : Nat) : Int := match k with
  | 20 => 1200
  | 21 => 1201
  | 22 => 3
  | 24 => 80
  | 25 => 1201
  | 40 => 1
  | 41 => 80
  | 48 => 60
  | 49 => 400
  | 50 => 80
  | 51 => 8
  | 52 => 79
  | 63 => 80
  | 74 => 59
  | 76 => 1
  | _ => 2147483647
def aLo (k : Nat) : Int := match k with
  | 3 => 3
  | 4 => 34
  | 6 => -1
  | 7 => 0
  | 8 => 0
  | 10 => 0
  | 11 => 0
  | 12 => 0
  | 13 => 0
  | 14 => 0
  | 15 => 0
  | 16 => 0
  | 18 => 0
  | 19 => 0
  | 26 => 0
  | 27 => 0
  | 28 => -1
  | 29 => 0
  | 30 => 0
  | 31 => 0
  | 32 => 0
  | 36 => 0
  | 37 => 0
  | 38 => -128
  | 39 => -128
  | 42 => 0
  | 43 => 0
  | 44 => 0
  | 45 => 0
  | 46 => 0
  | 47 => 0
  | 53 => 0
  | 54 => 0
  | 59 => 0
  | 60 => -1
  | 61 => 0
  | 62 => 0
  | 64 => 0
  | 65 => 0
  | 66 => 0
  | 67 => 0
  | 68 => -1
  | 69 => -1
  | 70 => 0
  | 71 => 0
  | 72 => 0
  | 73 => 0
  | 75 => -1
  | _ => -2147483648
def aHi (k : Nat) : Int := match k with
  | 3 => 5
  | 4 => 62
  | 6 => 7
  | 7 => 4
  | 8 => 3
  | 10 => 8
  | 11 => 25
  | 12 => 15
  | 13 => 4
  | 14 => 25
  | 15 => 7
  | 16 => 3
  | 18 => 1
  | 19 => 126
  | 26 => 10
  | 27 => 1201
  | 28 => 79
  | 29 => 80
  | 30 => 12
  | 31 => 24
  | 32 => 1201
  | 36 => 1201
  | 37 => 24
  | 38 => 127
  | 39 => 127
  | 42 => 79
  | 43 => 79
  | 44 => 26
  | 45 => 79
  | 46 => 26
  | 47 => 79
  | 53 => 7
  | 54 => 79
  | 59 => 79
  | 60 => 59
  | 61 => 1
  | 62 => 1
  | 64 => 79
  | 65 => 4
  | 66 => 26
  | 67 => 6
  | 68 => 59
  | 69 => 59
  | 70 => 3
  | 71 => 1079
  | 72 => 3
  | 73 => 1079
  | 75 => 3
  | _ => 2147483647
/-- every field and every cell of the reference keeps to its range -/
def MI (sg : Nat → Int32) (gm : Nat → Nat → Int32) : Prop := (∀ k, iv (sLo k) (sHi k) (sg k)) ∧ ∀ k i, i < mLen k → iv (aLo k) (aHi k) (gm k i)
theorem MI_s {sg : Nat → Int32} {gm : Nat → Nat → Int32} (h : MI sg gm) (k : Nat) : iv (sLo k) (sHi k) (sg k) := h.1 k
theorem MI_a {sg : Nat → Int32} {gm : Nat → Nat → Int32} {a b : Int} {x : Int32} (h : MI sg gm) (k : Nat) (hx : iv a b x) (q : 0 ≤ a ∧ b < (mLen k : Int)) : iv (aLo k) (aHi k) (gm k x.toNatClampNeg) := h.2 k _ (by
  have h1 := iv_cl hx q.1
  have h2 := hx.2
  have h3 := q.2
  omega)
theorem MI_put {sg sg1 : Nat → Int32} {gm : Nat → Nat → Int32} {a b : Int} {x : Int32} {k : Nat} (h : MI sg gm) (q : sg1 = va_up sg k x) (hx : iv a b x) (hk : sLo k ≤ a ∧ b ≤ sHi k) : MI sg1 gm := ⟨fun j => by
  by_cases hj : j = k
  · subst hj; rw [up_at q]; exact iv_w hx hk
  · rw [up_ne q hj]; exact h.1 j, h.2⟩
theorem MI_st {sg : Nat → Int32} {gm gm1 : Nat → Nat → Int32} {a b : Int} {x : Int32} {k j : Nat} (h : MI sg gm) (q : gm1 = va_up gm k (upd (gm k) j x)) (hx : iv a b x) (hk : aLo k ≤ a ∧ b ≤ aHi k) : MI sg gm1 := ⟨h.1, fun i n hn => by
  by_cases hj : i = k
  · subst hj
    rw [up_at q]
    show iv _ _ (if n = j then x else gm i n)
    by_cases e9 : n = j
    · rw [if_pos e9]; exact iv_w hx hk
    · rw [if_neg e9]; exact h.2 i n hn
  · rw [up_ne q hj]; exact h.2 i n hn⟩
section MA
variable {p : Program} {l : Launch} {e : Env} {R : Room} {s : State} {m : MethodId} {args : Array Value} {below : List Frame} {meth : Method} {c : Code} {H : Heap} {locs : List Loc} {cells slots : Nat} {Q : State → Prop} {cc : ByteArray} {pc : Nat} {ls : Array Slot} {rest : List Value} {A : Nat → Prop} {H0 : Heap}
variable {dC : Nat → ClassId} {dI : Nat → Nat → Nat} {h0 : Nat} {ad : Nat → Nat} {cid : Nat → ClassId} {sg : Nat → Int32} {gm : Nat → Nat → Int32} {lg : Nat → Nat → Int64} {Ts : List Cond} {own : String} {index : Nat}
theorem ma_put (hexec : p.tables.exec = Jvm.exec) (hb : c.code = cc) (hts : ∀ w ∈ Ts, w.before args s = true) (hin : ∀ w ∈ u_ws RX13 TX13 77, w ∈ Ts) (hown : s.vm.findClass own = some m.cls) (hK : va_K (dC, dI) vwCl (mT cid) s) (hP : va_P (dC, dI) vwCl (mW h0 ad cid sg gm lg) H) (hD : va_D A (mW h0 ad cid sg gm lg)) (hS : va_S A H0 H locs) (k : Nat) (hk : k < 77) (hm : mArr k = false) (hlink : (Cond.fieldLink own index (TX13 k).1 (TX13 k).2.1 (TX13 k).2.2.1).before args s = true) (hfin : (TX13 k).2.2.2 = false) {x : Int32} (hn : narrow (tyX13 k) (.int x) = .int x) (hfit : fits (tyX13 k) (.int x) = true) (hdg : decode cc pc = .ok (.putfield index, 3))
    (kk : ∀ (sg1 : Nat → Int32) (H1 : Heap) (locs1 : List Loc), sg1 = va_up sg k x → va_P (dC, dI) vwCl (mW h0 ad cid sg1 gm lg) H1 → va_D A (mW h0 ad cid sg1 gm lg) → va_S A H0 H1 locs1 → W p l e R s m args below meth c H1 locs1 cells slots Q (F0 m (pc + 3) ls rest)) : W p l e R s m args below meth c H locs cells slots Q (F0 m pc ls (.int x :: .ref h0 :: rest)) :=
  mr_put hexec hb hts hin hown hK hP hD hS k hk hm hlink hfin hn hfit hdg (fun H1 locs1 => kk _ H1 locs1 rfl)
theorem ma_iast (hexec : p.tables.exec = Jvm.exec) (hb : c.code = cc) (hK : va_K (dC, dI) vwCl (mT cid) s) (hP : va_P (dC, dI) vwCl (mW h0 ad cid sg gm lg) H) (hD : va_D A (mW h0 ad cid sg gm lg)) (hS : va_S A H0 H locs) (i : Nat) {k : Nat} (hi : mK[i]? = some k) (hl : mLong k = false) (ht : mTy k = .int) {j x : Int32} (hin : vp_in j (mLen k)) (hdg : decode cc pc = .ok (.iastore, 1))
    (kk : ∀ (gm1 : Nat → Nat → Int32) (H1 : Heap) (locs1 : List Loc), gm1 = va_up gm k (upd (gm k) j.toNatClampNeg x) → va_P (dC, dI) vwCl (mW h0 ad cid sg gm1 lg) H1 → va_D A (mW h0 ad cid sg gm1 lg) → va_S A H0 H1 locs1 → W p l e R s m args below meth c H1 locs1 cells slots Q (F0 m (pc + 1) ls rest)) : W p l e R s m args below meth c H locs cells slots Q (F0 m pc ls (.int x :: .int j :: .ref (ad k) :: rest)) :=
  mr_iast hexec hb hK hP hD hS i hi hl ht hin hdg (fun H1 locs1 => kk _ H1 locs1 rfl)
theorem ma_zast (hexec : p.tables.exec = Jvm.exec) (hb : c.code = cc) (hK : va_K (dC, dI) vwCl (mT cid) s) (hP : va_P (dC, dI) vwCl (mW h0 ad cid sg gm lg) H) (hD : va_D A (mW h0 ad cid sg gm lg)) (hS : va_S A H0 H locs) (i : Nat) {k : Nat} (hi : mK[i]? = some k) (hl : mLong k = false) (ht : mTy k = .boolean) {j x : Int32} (hin : vp_in j (mLen k)) (hdg : decode cc pc = .ok (.bastore, 1))
    (kk : ∀ (gm1 : Nat → Nat → Int32) (H1 : Heap) (locs1 : List Loc), gm1 = va_up gm k (upd (gm k) j.toNatClampNeg (vp_nar .boolean x)) → va_P (dC, dI) vwCl (mW h0 ad cid sg gm1 lg) H1 → va_D A (mW h0 ad cid sg gm1 lg) → va_S A H0 H1 locs1 → W p l e R s m args below meth c H1 locs1 cells slots Q (F0 m (pc + 1) ls rest)) : W p l e R s m args below meth c H locs cells slots Q (F0 m pc ls (.int x :: .int j :: .ref (ad k) :: rest)) :=
  mr_zast hexec hb hK hP hD hS i hi hl ht hin hdg (fun H1 locs1 => kk _ H1 locs1 rfl)
theorem ma_bast (hexec : p.tables.exec = Jvm.exec) (hb : c.code = cc) (hK : va_K (dC, dI) vwCl (mT cid) s) (hP : va_P (dC, dI) vwCl (mW h0 ad cid sg gm lg) H) (hD : va_D A (mW h0 ad cid sg gm lg)) (hS : va_S A H0 H locs) (i : Nat) {k : Nat} (hi : mK[i]? = some k) (hl : mLong k = false) (ht : mTy k = .byte) {j x : Int32} (hin : vp_in j (mLen k)) (hdg : decode cc pc = .ok (.bastore, 1))
    (kk : ∀ (gm1 : Nat → Nat → Int32) (H1 : Heap) (locs1 : List Loc), gm1 = va_up gm k (upd (gm k) j.toNatClampNeg (vp_nar .byte x)) → va_P (dC, dI) vwCl (mW h0 ad cid sg gm1 lg) H1 → va_D A (mW h0 ad cid sg gm1 lg) → va_S A H0 H1 locs1 → W p l e R s m args below meth c H1 locs1 cells slots Q (F0 m (pc + 1) ls rest)) : W p l e R s m args below meth c H locs cells slots Q (F0 m pc ls (.int x :: .int j :: .ref (ad k) :: rest)) :=
  mr_bast hexec hb hK hP hD hS i hi hl ht hin hdg (fun H1 locs1 => kk _ H1 locs1 rfl)
theorem ma_last (hexec : p.tables.exec = Jvm.exec) (hb : c.code = cc) (hK : va_K (dC, dI) vwCl (mT cid) s) (hP : va_P (dC, dI) vwCl (mW h0 ad cid sg gm lg) H) (hD : va_D A (mW h0 ad cid sg gm lg)) (hS : va_S A H0 H locs) (i : Nat) {k : Nat} (hi : mK[i]? = some k) (hl : mLong k = true) (ht : mTy k = .long) {j : Int32} {x : Int64} (hin : vp_in j (mLen k)) (hdg : decode cc pc = .ok (.lastore, 1))
    (kk : ∀ (lg1 : Nat → Nat → Int64) (H1 : Heap) (locs1 : List Loc), lg1 = va_up lg k (vp_updL (lg k) j.toNatClampNeg x) → va_P (dC, dI) vwCl (mW h0 ad cid sg gm lg1) H1 → va_D A (mW h0 ad cid sg gm lg1) → va_S A H0 H1 locs1 → W p l e R s m args below meth c H1 locs1 cells slots Q (F0 m (pc + 1) ls rest)) : W p l e R s m args below meth c H locs cells slots Q (F0 m pc ls (.long x :: .int j :: .ref (ad k) :: rest)) :=
  mr_last hexec hb hK hP hD hS i hi hl ht hin hdg (fun H1 locs1 => kk _ H1 locs1 rfl)
end MA
