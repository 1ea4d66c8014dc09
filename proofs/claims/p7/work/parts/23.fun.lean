theorem MMi_imp {l : Launch} {dC : Nat → ClassId} {dI : Nat → Nat → Nat} {y : MethodName} {ws : List Cond} {rm : Room} {h0 : Nat} {ad : Nat → Nat} {cid : Nat → ClassId} {as : List Value} {sg : Nat → Int32} {gm : Nat → Nat → Int32} {lg : Nat → Nat → Int64} {post post' : Int32 → MSt → Prop} (h : MMi l dC dI y ws rm h0 ad cid as sg gm lg post) (q : ∀ r v, post r v → post' r v) : MMi l dC dI y ws rm h0 ad cid as sg gm lg post' := by
  intro sz p e h1 h2 h3 s m args below hf hs hp hk
  obtain ⟨n, o, a1, a2, a3, ⟨⟨r, u, b1, b2, b3⟩, b4⟩, b5⟩ := h sz p e h1 h2 h3 s m args below hf hs hp hk
  exact ⟨n, o, a1, a2, a3, ⟨⟨r, u, b1, q r u b2, b3⟩, b4⟩, b5⟩
theorem mAtt_of {sg : Nat → Int32} {gm : Nat → Nat → Int32} (h : MI sg gm) {x : Int32} (hx : iv 0 79 x) : mAtt gm x.toNatClampNeg := by
  have k1 := iv_cl hx (by decide)
  have k2 := hx.2
  have a1 : iv 0 12 (gm 30 x.toNatClampNeg) := h.2 30 _ (show _ < 80 by omega)
  have a2 := iv_cl a1 (by decide)
  have a3 := a1.2
  refine ⟨(gm 30 x.toNatClampNeg).toNatClampNeg, by omega, (iv_nI a1 (by decide)).symm, fun j hj => ?_⟩
  have b1 : iv 0 1201 (gm 36 (12 * x.toNatClampNeg + j)) := h.2 36 _ (show _ < 960 by omega)
  have b2 : iv 0 24 (gm 37 (12 * x.toNatClampNeg + j)) := h.2 37 _ (show _ < 960 by omega)
  have b3 := iv_cl b1 (by decide)
  have b4 := iv_cl b2 (by decide)
  have b5 := b1.2
  have b6 := b2.2
  exact ⟨_, _, (iv_nI b1 (by decide)).symm, (iv_nI b2 (by decide)).symm, by omega, by omega⟩
theorem mFind_iv {sg : Nat → Int32} {gm : Nat → Nat → Int32} {lg : Nat → Nat → Int64} (h : MI sg gm) {x : Int32} (hx : iv 0 79 x) (nn : Int64) : iv (-1) 959 (mFind gm lg x.toNatClampNeg nn) := by
  obtain ⟨a, h1, h2, _⟩ := mAtt_of h hx
  rcases mFind_or (lg := lg) nn h1 h2 with h3 | ⟨j, h4, h5⟩
  · rw [h3]; exact iv_k (by decide)
  · have k1 := iv_cl hx (by decide)
    have k2 := hx.2
    rw [h5]
    refine ⟨?_, ?_⟩ <;> rw [nI_toInt (by omega)] <;> omega
theorem mHas_iv {gm : Nat → Nat → Int32} {lg : Nat → Nat → Int64} {x : Nat} (nn : Int64) : iv 0 1 (mHas gm lg x nn) := by
  unfold mHas; split <;> exact iv_k (by decide)
theorem allF_iv (ch : Nat → Int32) (q : Nat) : ∀ n i, iv 0 1 (allF ch q n i) := by
  intro n
  induction n with
  | zero => intro i; exact (iv_k (by decide) : iv 0 1 1)
  | succ n ih =>
    intro i
    have e1 : allF ch q (n + 1) i = if mSmall (ch (q + i)) = 0 then 0 else allF ch q n (i + 1) := rfl
    rw [e1]
    by_cases h : mSmall (ch (q + i)) = 0
    · rw [if_pos h]; exact (iv_k (by decide) : iv 0 1 0)
    · rw [if_neg h]; exact ih _
theorem mIsW_iv {gm : Nat → Nat → Int32} {lg : Nat → Nat → Int64} {x : Nat} (nn : Int64) : iv 0 1 (mIsW gm lg x nn) := by
  unfold mIsW; (repeat' split) <;> first | exact iv_k (by decide) | exact allF_iv _ _ _ _

theorem f_find (l : Launch) (dC : Nat → ClassId) (dI : Nat → Nat → Nat) (h0 : Nat) (ad : Nat → Nat) (cid : Nat → ClassId) (sg : Nat → Int32) (gm : Nat → Nat → Int32) (lg : Nat → Nat → Int64) (x : Int32) (nn : Int64) (hI : MI sg gm) (hvx : iv 0 79 x) : MMi l dC dI yX13_find wm_X13_find ({ frames := 0, cells := 0, slots := 0, locals := 0 }) h0 ad cid [.int x, .long nn] sg gm lg (fun r v => (iv (-1) 959 r) ∧ (r = mFind gm lg x.toNatClampNeg nn) ∧ v = (sg, gm, lg)) := by
  have h := k_find l dC dI h0 ad cid sg gm lg x.toNatClampNeg nn (by have k1 := iv_cl hvx (by decide); have k2 := hvx.2; omega) (mAtt_of hI hvx)
  rw [iv_nI hvx (by decide)] at h
  exact MMi_imp h (fun r v q => ⟨by rw [q.1]; exact mFind_iv hI hvx nn, q.1, q.2⟩)

theorem f_has (l : Launch) (dC : Nat → ClassId) (dI : Nat → Nat → Nat) (h0 : Nat) (ad : Nat → Nat) (cid : Nat → ClassId) (sg : Nat → Int32) (gm : Nat → Nat → Int32) (lg : Nat → Nat → Int64) (x : Int32) (nn : Int64) (hI : MI sg gm) (hvx : iv 0 79 x) : MMi l dC dI yX13_has wm_X13_has ({ frames := 1, cells := 0, slots := 0, locals := 24 }) h0 ad cid [.int x, .long nn] sg gm lg (fun r v => (iv 0 1 r) ∧ (r = mHas gm lg x.toNatClampNeg nn) ∧ v = (sg, gm, lg)) := by
  have h := k_has l dC dI h0 ad cid sg gm lg x.toNatClampNeg nn (by have k1 := iv_cl hvx (by decide); have k2 := hvx.2; omega) (mAtt_of hI hvx)
  rw [iv_nI hvx (by decide)] at h
  exact MMi_imp h (fun r v q => ⟨by rw [q.1]; exact mHas_iv nn, q.1, q.2⟩)

theorem f_word (l : Launch) (dC : Nat → ClassId) (dI : Nat → Nat → Nat) (h0 : Nat) (ad : Nat → Nat) (cid : Nat → ClassId) (sg : Nat → Int32) (gm : Nat → Nat → Int32) (lg : Nat → Nat → Int64) (x : Int32) (nn : Int64) (hI : MI sg gm) (hvx : iv 0 79 x) : MMl l dC dI yX13_word wm_X13_word ({ frames := 1, cells := 0, slots := 0, locals := 24 }) h0 ad cid [.int x, .long nn] sg gm lg (fun r v => (r = mWord gm lg x.toNatClampNeg nn) ∧ v = (sg, gm, lg)) := by
  have h := k_word l dC dI h0 ad cid sg gm lg x.toNatClampNeg nn (by have k1 := iv_cl hvx (by decide); have k2 := hvx.2; omega) (mAtt_of hI hvx)
  rw [iv_nI hvx (by decide)] at h
  exact h

theorem f_isWord (l : Launch) (dC : Nat → ClassId) (dI : Nat → Nat → Nat) (h0 : Nat) (ad : Nat → Nat) (cid : Nat → ClassId) (sg : Nat → Int32) (gm : Nat → Nat → Int32) (lg : Nat → Nat → Int64) (x : Int32) (nn : Int64) (hI : MI sg gm) (hvx : iv 0 79 x) : MMi l dC dI yX13_isWord wm_X13_isWord ({ frames := 1, cells := 0, slots := 0, locals := 24 }) h0 ad cid [.int x, .long nn] sg gm lg (fun r v => (iv 0 1 r) ∧ (r = mIsW gm lg x.toNatClampNeg nn) ∧ v = (sg, gm, lg)) := by
  have h := k_isWord l dC dI h0 ad cid sg gm lg x.toNatClampNeg nn (by have k1 := iv_cl hvx (by decide); have k2 := hvx.2; omega) (mAtt_of hI hvx)
  rw [iv_nI hvx (by decide)] at h
  exact MMi_imp h (fun r v q => ⟨by rw [q.1]; exact mIsW_iv nn, q.1, q.2⟩)

def OL (gm : Nat → Nat → Int32) (lg : Nat → Nat → Int64) (e : Nat) (nn : Int64) : Prop := 97 ≤ (mWord gm lg e nn).toInt ∧ (mWord gm lg e nn).toInt ≤ 122
theorem small_iv {x : Int32} (h : ¬ mSmall x = 0) : 97 ≤ x.toInt ∧ x.toInt ≤ 122 := by
  unfold mSmall at h
  split at h
  · exact absurd rfl h
  · rename_i h1
    split at h
    · rename_i h2
      exact ⟨Int32.le_iff_toInt_le.mp (i32_ge h1), Int32.le_iff_toInt_le.mp h2⟩
    · exact absurd rfl h
theorem allF_all {ch : Nat → Int32} {q : Nat} : ∀ {n i : Nat}, ¬ allF ch q n i = 0 → ∀ j, i ≤ j → j < i + n → 97 ≤ (ch (q + j)).toInt ∧ (ch (q + j)).toInt ≤ 122 := by
  intro n
  induction n with
  | zero => intro i _ j h1 h2; omega
  | succ n ih =>
    intro i h j h1 h2
    have h : ¬ (if mSmall (ch (q + i)) = 0 then 0 else allF ch q n (i + 1)) = 0 := h
    by_cases h3 : mSmall (ch (q + i)) = 0
    · rw [if_pos h3] at h; exact absurd rfl h
    · rw [if_neg h3] at h
      by_cases h4 : j = i
      · subst h4; exact small_iv h3
      · exact ih h j (by omega) (by omega)
theorem pow_hi {k : Nat} (h : k ≤ 7) : (256 : Int) ^ k ≤ 2 ^ 56 := by
  rcases (show k = 0 ∨ k = 1 ∨ k = 2 ∨ k = 3 ∨ k = 4 ∨ k = 5 ∨ k = 6 ∨ k = 7 by omega) with h9 | h9 | h9 | h9 | h9 | h9 | h9 | h9 <;> rw [h9] <;> decide
theorem wordF_ge {ch : Nat → Int32} {q : Nat} : ∀ (n i k : Nat) (v : Int64), n + k ≤ 8 → 0 ≤ v.toInt → 2 * v.toInt < (256 : Int) ^ k → (∀ j, i ≤ j → j < i + n → 97 ≤ (ch (q + j)).toInt ∧ (ch (q + j)).toInt ≤ 122) → v.toInt ≤ (wordF ch q n i v).toInt := by
  intro n
  induction n with
  | zero => intro i k v _ _ _ _; exact Int.le_refl _
  | succ n ih =>
    intro i k v h1 h2 h3 h4
    have c := h4 i (by omega) (by omega)
    have hp := pow_hi (k := k) (by omega)
    have a1 := lor8 (x := ch (q + i)) h2 (by omega) (by omega) (by omega)
    have a2 := ih (i + 1) (k + 1) ((v <<< ((8 : Int32).toInt64 &&& 63)) ||| (ch (q + i) : Int32).toInt64) (by omega) (by omega) (by rw [a1, Int.pow_succ]; omega) (fun j q1 q2 => h4 j (by omega) (by omega))
    show v.toInt ≤ (wordF ch q n (i + 1) _).toInt
    omega
theorem one_letter {gm : Nat → Nat → Int32} {lg : Nat → Nat → Int64} {e : Nat} {nn : Int64} (h : ¬ mIsW gm lg e nn = 0) (h2 : mWord gm lg e nn < 256) : OL gm lg e nn := by
  have h3 : (mWord gm lg e nn).toInt < 256 := Int64.lt_iff_toInt_lt.mp h2
  unfold OL
  unfold mIsW at h
  split at h
  · exact absurd rfl h
  rename_i f1
  split at h
  · exact absurd rfl h
  rename_i f2
  split at h
  rotate_left
  · exact absurd rfl h
  rename_i f3
  unfold mWord at h3 ⊢
  rw [if_neg f1, if_pos f3] at h3 ⊢
  generalize gm 37 (mFind gm lg e nn).toNatClampNeg = z at *
  generalize (gm 36 (mFind gm lg e nn).toNatClampNeg).toNatClampNeg = q at *
  have g1 := Int32.le_iff_toInt_le.mp (i32_ge f2)
  have g2 := Int32.le_iff_toInt_le.mp f3
  have g3 : (1 : Int32).toInt = 1 := rfl
  have g4 : (8 : Int32).toInt = 8 := rfl
  have hz : iv 1 8 z := ⟨by omega, by omega⟩
  have k1 := iv_cl hz (by decide)
  have al := allF_all h
  generalize z.toNatClampNeg = n at *
  have c0 := al 0 (by omega) (by omega)
  have z0 : (0 : Int64).toInt = 0 := rfl
  have a1 := lor8 (v := 0) (x := gm 38 (q + 0)) (by decide) (by decide) (by omega) (by omega)
  obtain ⟨c, rfl⟩ : ∃ c, n = c + 1 := ⟨n - 1, by omega⟩
  by_cases hc : c = 0
  · subst hc
    have e1 : wordF (gm 38) q (0 + 1) 0 0 = ((0 : Int64) <<< ((8 : Int32).toInt64 &&& 63)) ||| (gm 38 (q + 0)).toInt64 := rfl
    rw [e1, a1, z0]; omega
  · obtain ⟨b, rfl⟩ : ∃ b, c = b + 1 := ⟨c - 1, by omega⟩
    have c1 := al 1 (by omega) (by omega)
    have h3 : (wordF (gm 38) q b 2 ((((0 : Int64) <<< ((8 : Int32).toInt64 &&& 63)) ||| (gm 38 (q + 0)).toInt64) <<< ((8 : Int32).toInt64 &&& 63) ||| (gm 38 (q + 1)).toInt64)).toInt < 256 := h3
    have a2 := lor8 (v := ((0 : Int64) <<< ((8 : Int32).toInt64 &&& 63)) ||| (gm 38 (q + 0)).toInt64) (x := gm 38 (q + 1)) (by omega) (by omega) (by omega) (by omega)
    have p2 : (256 : Int) ^ 2 = 65536 := by decide
    have a3 := wordF_ge (ch := gm 38) (q := q) b 2 2 _ (by omega) (by rw [a2]; omega) (by rw [a2, a1, z0, p2]; omega) (fun j q1 q2 => al j (by omega) (by omega))
    omega
/-- e holds one thing: its value, its ref, or what stands within it -/
def HOLD (gm : Nat → Nat → Int32) (lg : Nat → Nat → Int64) (e : Nat) : Prop := ((¬ mHas gm lg e 508440638821 = 0 ∨ ¬ mHas gm lg e 7497062 = 0) ∧ (gm 29 e).toInt = 0) ∨ (mHas gm lg e 508440638821 = 0 ∧ mHas gm lg e 7497062 = 0 ∧ (gm 29 e).toInt = 1)
def ahN (gm : Nat → Nat → Int32) (e : Nat) : Nat → Nat
  | 0 => 0
  | k + 1 => ahN gm e k + (if gm 28 k = gm 28 e ∧ gm 26 k = gm 26 e then 1 else 0)
def AQ (gm : Nat → Nat → Int32) (e k : Nat) : Prop := gm 28 k = gm 28 e ∧ gm 26 k = gm 26 e
theorem ah_s {gm : Nat → Nat → Int32} {f i i2 n t z : Int32} {e : Nat} (hi : iv 0 78 i) (h2 : i2.toInt = i.toInt + 1) (hz : z.toInt = n.toInt + t.toInt) (hn : f.toInt ≠ 0 ∨ n.toInt = (ahN gm e i.toNatClampNeg : Int)) (ht : f.toInt ≠ 0 ∨ (AQ gm e i.toNatClampNeg ∧ t = 1) ∨ (¬ AQ gm e i.toNatClampNeg ∧ t = 0)) : f.toInt ≠ 0 ∨ z.toInt = (ahN gm e i2.toNatClampNeg : Int) := by
  rcases hn with hn | hn
  · exact Or.inl hn
  rcases ht with ht | ht
  · exact Or.inl ht
  refine Or.inr ?_
  have k0 := hi.1
  have k1 := hi.2
  have k2 := iv_cl hi (by decide)
  have k3 := iv_cl (show iv 0 79 i2 from ⟨by omega, by omega⟩) (by decide)
  have k4 : i2.toNatClampNeg = i.toNatClampNeg + 1 := by omega
  rw [k4]
  show _ = ((ahN gm e i.toNatClampNeg + (if gm 28 i.toNatClampNeg = gm 28 e ∧ gm 26 i.toNatClampNeg = gm 26 e then 1 else 0) : Nat) : Int)
  rcases ht with ⟨t1, t2⟩ | ⟨t1, t2⟩
  · have t1 : gm 28 i.toNatClampNeg = gm 28 e ∧ gm 26 i.toNatClampNeg = gm 26 e := t1
    rw [if_pos t1, hz, hn, t2]; rfl
  · have t1 : ¬ (gm 28 i.toNatClampNeg = gm 28 e ∧ gm 26 i.toNatClampNeg = gm 26 e) := t1
    rw [if_neg t1, hz, hn, t2]; rfl
/-- what is known of an element where nothing is wrong -/
def GOOD (gm : Nat → Nat → Int32) (lg : Nat → Nat → Int64) (e : Nat) : Prop := ((gm 26 e).toInt = 4 ∨ (gm 26 e).toInt = 5 → HOLD gm lg e) ∧ ((gm 26 e).toInt = 4 → ahN gm e e < 4 ∧ (mHas gm lg e 24948 = 0 ∨ (48 ≤ (mWord gm lg e 24948).toInt ∧ (mWord gm lg e 24948).toInt ≤ 50))) ∧ ((gm 26 e).toInt = 5 ∨ (gm 26 e).toInt = 10 → OL gm lg e 1851878757) ∧ ((gm 26 e).toInt = 6 → (gm 29 e).toInt ≤ 6)
theorem GOOD_o {gm : Nat → Nat → Int32} {lg : Nat → Nat → Int64} {e : Nat} (h : (gm 26 e).toInt ≠ 4 ∧ (gm 26 e).toInt ≠ 5 ∧ (gm 26 e).toInt ≠ 6 ∧ (gm 26 e).toInt ≠ 10) : GOOD gm lg e := ⟨fun q => absurd q (by omega), fun q => absurd q (by omega), fun q => absurd q (by omega), fun q => absurd q (by omega)⟩
theorem GOOD_4 {gm : Nat → Nat → Int32} {lg : Nat → Nat → Int64} {e : Nat} (h : (gm 26 e).toInt = 4) (h1 : HOLD gm lg e) (h2 : ahN gm e e < 4) (h3 : mHas gm lg e 24948 = 0 ∨ (48 ≤ (mWord gm lg e 24948).toInt ∧ (mWord gm lg e 24948).toInt ≤ 50)) : GOOD gm lg e := ⟨fun _ => h1, fun _ => ⟨h2, h3⟩, fun q => absurd q (by omega), fun q => absurd q (by omega)⟩
theorem GOOD_5 {gm : Nat → Nat → Int32} {lg : Nat → Nat → Int64} {e : Nat} (h : (gm 26 e).toInt = 5) (h1 : HOLD gm lg e) (h2 : OL gm lg e 1851878757) : GOOD gm lg e := ⟨fun _ => h1, fun q => absurd q (by omega), fun _ => h2, fun q => absurd q (by omega)⟩
theorem GOOD_6 {gm : Nat → Nat → Int32} {lg : Nat → Nat → Int64} {e : Nat} (h : (gm 26 e).toInt = 6) (h1 : (gm 29 e).toInt ≤ 6) : GOOD gm lg e := ⟨fun q => absurd q (by omega), fun q => absurd q (by omega), fun q => absurd q (by omega), fun _ => h1⟩
theorem GOOD_10 {gm : Nat → Nat → Int32} {lg : Nat → Nat → Int64} {e : Nat} (h : (gm 26 e).toInt = 10) (h2 : OL gm lg e 1851878757) : GOOD gm lg e := ⟨fun q => absurd q (by omega), fun q => absurd q (by omega), fun _ => h2, fun q => absurd q (by omega)⟩
theorem ah_lt {gm : Nat → Nat → Int32} {x r : Int32} {j : Int} (hf : (0 : Int32).toInt ≠ 0 ∨ r.toInt = (ahN gm x.toNatClampNeg x.toNatClampNeg : Int)) (h : r.toInt ≤ j) : (ahN gm x.toNatClampNeg x.toNatClampNeg : Int) ≤ j := by
  rcases hf with hf | hf
  · exact absurd rfl hf
  · omega
theorem cmp_ge {w : Int64} {x y : Int32} {k : Int64} (h : x = lg_cmp w k) (hx : ¬ x < 0) : k.toInt ≤ w.toInt := by
  subst h
  exact Int64.le_iff_toInt_le.mp (Int64.not_lt.mp (fun q => hx ((lg_cmp_lt _ _).mpr q)))
theorem cmp_le {w : Int64} {x y : Int32} {k : Int64} (h : x = lg_cmp w k) (hx : ¬ 0 < x) : w.toInt ≤ k.toInt := by
  subst h
  exact Int64.le_iff_toInt_le.mp (Int64.not_lt.mp (fun q => hx ((lg_cmp_gt _ _).mpr q)))

set_option maxHeartbeats 4000000 in
set_option maxRecDepth 100000 in
theorem f_isOneLetter (l : Launch) (dC : Nat → ClassId) (dI : Nat → Nat → Nat) (h0 : Nat) (ad : Nat → Nat) (cid : Nat → ClassId) (sg : Nat → Int32) (gm : Nat → Nat → Int32) (lg : Nat → Nat → Int64) (x : Int32) (nn : Int64) (hI : MI sg gm) (hvx : iv 0 79 x) : MMi l dC dI yX13_isOneLetter wm_X13_isOneLetter ({ frames := 2, cells := 0, slots := 0, locals := 51 }) h0 ad cid [.int x, .long nn] sg gm lg (fun r v => (iv 0 1 r) ∧ (r.toInt = 0 ∨ OL gm lg x.toNatClampNeg nn) ∧ v = (sg, gm, lg)) := by
  intro sz
  refine Met.ofW (cc := cX13_isOneLetter) (maxL := 4) (ret := (some .boolean)) (by decide) rfl ?_
  intro p e s m args below meth c s₁ B hml hv
  obtain ⟨rfl, hsz, hP, hK, hD0⟩ := hv
  have hx := B.exec
  have hb := B.bytes
  have hr := B.returns
  have hts := atoms_spec (ws := wm_X13_isOneLetter) B.pre
  have htb := fun (w : Cond) (h : w ∈ tb) => hts w (List.mem_cons_of_mem _ h)
  have hown : s.vm.findClass RX13 = some m.cls := findClass_of_methodNamed B.named
  have hlocks := B.notSynchronized
  subst hsz
  have hD := hD0.self (sz := s.heap.size)
  generalize hAe : va_A (mW h0 ad cid sg gm lg) s.heap.size = A at hD ⊢
  have hA : ∀ q : Nat, s.heap.size ≤ q → A q := fun q h => by rw [← hAe]; exact Or.inr h
  have hS : va_S A s.heap s.heap [] := va_S.rf
  have hl := lv_entry ([.ref h0, .int x, .long nn]) (n := 4) (Nat.le_of_ble_eq_true rfl)
  rw [lg_entry_eq]
  generalize (lg_sl ([.ref h0, .int x, .long nn]) ++ List.replicate (4 - (lg_sl ([.ref h0, .int x, .long nn])).length) Slot.unset).toArray = ls at hl ⊢
  have hl : lv_has ls 4 [(0, .ref h0), (1, .int x), (2, .long nn)] := hl
  have hj27 : ∀ (y0_27 : Int32) (_ : iv 0 79 x) (_ : iv 0 1 y0_27) (_ : y0_27.toInt = 0 ∨ OL gm lg x.toNatClampNeg nn) (H : Heap) (locs : List Loc) (ls : Array Slot), va_P (dC, dI) vwCl (mW h0 ad cid sg gm lg) H → va_D A (mW h0 ad cid sg gm lg) → va_S A s.heap H locs → lv_has ls 4 [(0, .ref h0), (1, .int x), (2, .long nn)] → W p l e (headSpec wm_X13_isOneLetter ({ frames := 2, cells := 0, slots := 0, locals := 51 })).room s m ([.ref h0, .int x, .long nn] : List Value).toArray below meth c H locs 0 0 (MQ below (va_Qi (fun r v => (iv 0 1 r) ∧ (r.toInt = 0 ∨ OL gm lg x.toNatClampNeg nn) ∧ v = (sg, gm, lg)) (MB dC dI h0 ad cid A) A) ([.ref h0, .int x, .long nn] : List Value).toArray s 0 0 A) (F0 m 27 ls [.int y0_27]) := by
    intro y0_27 hsx1_27 hy0_27 ho H locs ls hP hD hS hl
    exact W.zret (v := y0_27) hx hb hr (iv_nb hy0_27) (fun t ht hW => ⟨⟨y0_27, (sg, gm, lg), rfl, ⟨hy0_27, (ho), rfl⟩, by rw [ht]; exact hP, va_K.moved hW.alike hK, hD⟩, hS.F ht⟩) hS.2.2 dX13_isOneLetter_27
  have hj26 : ∀ (_ : iv 0 79 x) (H : Heap) (locs : List Loc) (ls : Array Slot), va_P (dC, dI) vwCl (mW h0 ad cid sg gm lg) H → va_D A (mW h0 ad cid sg gm lg) → va_S A s.heap H locs → lv_has ls 4 [(0, .ref h0), (1, .int x), (2, .long nn)] → W p l e (headSpec wm_X13_isOneLetter ({ frames := 2, cells := 0, slots := 0, locals := 51 })).room s m ([.ref h0, .int x, .long nn] : List Value).toArray below meth c H locs 0 0 (MQ below (va_Qi (fun r v => (iv 0 1 r) ∧ (r.toInt = 0 ∨ OL gm lg x.toNatClampNeg nn) ∧ v = (sg, gm, lg)) (MB dC dI h0 ad cid A) A) ([.ref h0, .int x, .long nn] : List Value).toArray s 0 0 A) (F0 m 26 ls []) := by
    intro  hsx1_26 H locs ls hP hD hS hl
    refine lv_iconst (v := 0) hx hb dX13_isOneLetter_26 (by decide) ?_
    exact hj27 0 hsx1_26 (iv_w (iv_k (by decide) : iv 0 0 0) (by decide)) (Or.inl rfl) _ _ _ hP hD hS (lv_sub hl [0, 1, 2] rfl)
  refine lv_aload_n hx hb dX13_isOneLetter_0 rfl (lv_at hl 0 rfl) ?_
  refine lv_iload_n hx hb dX13_isOneLetter_1 rfl (lv_at hl 1 rfl) ?_
  refine lv_lload_n hx hb dX13_isOneLetter_2 rfl (lv_at hl 2 rfl) ?_
  refine mr_calli (rest := []) ⟨hx, hb, hml, hown, htb⟩ (f_isWord l dC dI h0 ad cid sg gm lg x nn hI hvx) (cwV 2 htb (gd_V kw_910 kw_911 kw_912 kw_5 kw_1541) rfl rfl rfl (by decide +kernel) ⟨Nat.le_of_ble_eq_true rfl, Nat.le_of_ble_eq_true rfl⟩) rfl hl.1 rfl (Nat.le_of_ble_eq_true rfl) dX13_isOneLetter_3 ⟨Nat.zero_le _, Nat.zero_le _⟩ hK hP hD hS hA (fun r_1 u_2 H locs hw hP hD hS => ?_)
  obtain ⟨hr_1, fI_r_1, rfl⟩ := hw
  have hP : va_P (dC, dI) vwCl (mW h0 ad cid sg gm lg) H := hP
  have hD : va_D A (mW h0 ad cid sg gm lg) := hD
  refine lv_if_eq (tgt := 26) hx hb dX13_isOneLetter_6 (by decide) (fun c_3 => ?_) (fun c_3 => ?_)
  · have h_4 : iv 0 0 r_1 := iv_eq c_3 hr_1 (iv_k (by decide) : iv 0 0 0) (by decide)
    exact hj26 hvx _ _ _ hP hD hS (lv_sub hl [0, 1, 2] rfl)
  · have h_5 : iv 1 1 r_1 := iv_neL c_3 hr_1 (by decide)
    refine lv_aload_n hx hb dX13_isOneLetter_9 rfl (lv_at hl 0 rfl) ?_
    refine lv_iload_n hx hb dX13_isOneLetter_10 rfl (lv_at hl 1 rfl) ?_
    refine lv_lload_n hx hb dX13_isOneLetter_11 rfl (lv_at hl 2 rfl) ?_
    refine mr_calll (rest := []) ⟨hx, hb, hml, hown, htb⟩ (f_word l dC dI h0 ad cid sg gm lg x nn hI hvx) (cwV 2 htb (gd_V kw_923 kw_924 kw_925 kw_5 kw_1545) rfl rfl rfl (by decide +kernel) ⟨Nat.le_of_ble_eq_true rfl, Nat.le_of_ble_eq_true rfl⟩) rfl hl.1 rfl (Nat.le_of_ble_eq_true rfl) dX13_isOneLetter_12 ⟨Nat.zero_le _, Nat.zero_le _⟩ hK hP hD hS hA (fun r_6 u_7 H locs hw hP hD hS => ?_)
    obtain ⟨fW_r_6, rfl⟩ := hw
    have hP : va_P (dC, dI) vwCl (mW h0 ad cid sg gm lg) H := hP
    have hD : va_D A (mW h0 ad cid sg gm lg) := hD
    refine lv_ldc2 (own := RX13) (v := 256) hx hb hown (htb _ kw_922) dX13_isOneLetter_15 ?_
    refine W.lcmp hx hb dX13_isOneLetter_18 ?_
    refine lv_topi (fun z_8 ez_8 => ?_)
    have hz_8 : iv (-1) 1 z_8 := iv_of ez_8 (iv_cmp _ _)
    refine lv_if_ge (tgt := 26) hx hb dX13_isOneLetter_19 (by decide) (fun c_9 => ?_) (fun c_9 => ?_)
    · have h_10 : iv 0 1 z_8 := iv_leR c_9 (iv_k (by decide) : iv 0 0 0) hz_8 (by decide)
      exact hj26 hvx _ _ _ hP hD hS (lv_sub hl [0, 1, 2] rfl)
    · have h_11 : iv (-1) (-1) z_8 := iv_ltL (i32_lt c_9) hz_8 (iv_k (by decide) : iv 0 0 0) (by decide)
      refine lv_iconst (v := 1) hx hb dX13_isOneLetter_22 (by decide) ?_
      refine lv_goto (tgt := 27) hx hb dX13_isOneLetter_23 (by decide) ?_
      exact hj27 1 hvx (iv_w (iv_k (by decide) : iv 1 1 1) (by decide)) (Or.inr (one_letter (by rw [← fI_r_1]; exact c_3) (by rw [← fW_r_6]; exact (lg_cmp_lt _ _).mp (by rw [← ez_8]; exact i32_lt c_9)))) _ _ _ hP hD hS (lv_sub hl [0, 1, 2] rfl)

set_option maxHeartbeats 4000000 in
set_option maxRecDepth 100000 in
theorem f_isGoodHolder (l : Launch) (dC : Nat → ClassId) (dI : Nat → Nat → Nat) (h0 : Nat) (ad : Nat → Nat) (cid : Nat → ClassId) (sg : Nat → Int32) (gm : Nat → Nat → Int32) (lg : Nat → Nat → Int64) (x : Int32) (hI : MI sg gm) (hvx : iv 0 79 x) : MMi l dC dI yX13_isGoodHolder wm_X13_isGoodHolder ({ frames := 2, cells := 0, slots := 0, locals := 49 }) h0 ad cid [.int x] sg gm lg (fun r v => (iv 0 1 r) ∧ (r.toInt = 0 ∨ HOLD gm lg x.toNatClampNeg) ∧ v = (sg, gm, lg)) := by
  intro sz
  refine Met.ofW (cc := cX13_isGoodHolder) (maxL := 3) (ret := (some .boolean)) (by decide) rfl ?_
  intro p e s m args below meth c s₁ B hml hv
  obtain ⟨rfl, hsz, hP, hK, hD0⟩ := hv
  have hx := B.exec
  have hb := B.bytes
  have hr := B.returns
  have hts := atoms_spec (ws := wm_X13_isGoodHolder) B.pre
  have htb := fun (w : Cond) (h : w ∈ tb) => hts w (List.mem_cons_of_mem _ h)
  have hown : s.vm.findClass RX13 = some m.cls := findClass_of_methodNamed B.named
  have hlocks := B.notSynchronized
  subst hsz
  have hD := hD0.self (sz := s.heap.size)
  generalize hAe : va_A (mW h0 ad cid sg gm lg) s.heap.size = A at hD ⊢
  have hA : ∀ q : Nat, s.heap.size ≤ q → A q := fun q h => by rw [← hAe]; exact Or.inr h
  have hS : va_S A s.heap s.heap [] := va_S.rf
  have hl := lv_entry ([.ref h0, .int x]) (n := 3) (Nat.le_of_ble_eq_true rfl)
  rw [lg_entry_eq]
  generalize (lg_sl ([.ref h0, .int x]) ++ List.replicate (3 - (lg_sl ([.ref h0, .int x])).length) Slot.unset).toArray = ls at hl ⊢
  have hl : lv_has ls 3 [(0, .ref h0), (1, .int x)] := hl
  have hj73 : ∀ (x2_73 : Int32) (y0_73 : Int32) (_ : iv 0 82 x2_73) (_ : iv 0 79 x) (_ : iv 0 1 y0_73) (_ : y0_73.toInt = 0 ∨ HOLD gm lg x.toNatClampNeg) (H : Heap) (locs : List Loc) (ls : Array Slot), va_P (dC, dI) vwCl (mW h0 ad cid sg gm lg) H → va_D A (mW h0 ad cid sg gm lg) → va_S A s.heap H locs → lv_has ls 3 [(2, .int x2_73), (0, .ref h0), (1, .int x)] → W p l e (headSpec wm_X13_isGoodHolder ({ frames := 2, cells := 0, slots := 0, locals := 49 })).room s m ([.ref h0, .int x] : List Value).toArray below meth c H locs 0 0 (MQ below (va_Qi (fun r v => (iv 0 1 r) ∧ (r.toInt = 0 ∨ HOLD gm lg x.toNatClampNeg) ∧ v = (sg, gm, lg)) (MB dC dI h0 ad cid A) A) ([.ref h0, .int x] : List Value).toArray s 0 0 A) (F0 m 73 ls [.int y0_73]) := by
    intro x2_73 y0_73 hx2_73 hsx1_73 hy0_73 hG H locs ls hP hD hS hl
    exact W.zret (v := y0_73) hx hb hr (iv_nb hy0_73) (fun t ht hW => ⟨⟨y0_73, (sg, gm, lg), rfl, ⟨hy0_73, (hG), rfl⟩, by rw [ht]; exact hP, va_K.moved hW.alike hK, hD⟩, hS.F ht⟩) hS.2.2 dX13_isGoodHolder_73
  have hj72 : ∀ (x2_72 : Int32) (_ : iv 0 82 x2_72) (_ : iv 0 79 x) (H : Heap) (locs : List Loc) (ls : Array Slot), va_P (dC, dI) vwCl (mW h0 ad cid sg gm lg) H → va_D A (mW h0 ad cid sg gm lg) → va_S A s.heap H locs → lv_has ls 3 [(2, .int x2_72), (0, .ref h0), (1, .int x)] → W p l e (headSpec wm_X13_isGoodHolder ({ frames := 2, cells := 0, slots := 0, locals := 49 })).room s m ([.ref h0, .int x] : List Value).toArray below meth c H locs 0 0 (MQ below (va_Qi (fun r v => (iv 0 1 r) ∧ (r.toInt = 0 ∨ HOLD gm lg x.toNatClampNeg) ∧ v = (sg, gm, lg)) (MB dC dI h0 ad cid A) A) ([.ref h0, .int x] : List Value).toArray s 0 0 A) (F0 m 72 ls []) := by
    intro x2_72 hx2_72 hsx1_72 H locs ls hP hD hS hl
    refine lv_iconst (v := 0) hx hb dX13_isGoodHolder_72 (by decide) ?_
    exact hj73 x2_72 0 hx2_72 hsx1_72 (iv_w (iv_k (by decide) : iv 0 0 0) (by decide)) (Or.inl rfl) _ _ _ hP hD hS (lv_sub hl [0, 1, 2] rfl)
  have hj68 : ∀ (x2_68 : Int32) (_ : iv 1 1 x2_68) (_ : iv 0 79 x) (_ : HOLD gm lg x.toNatClampNeg) (H : Heap) (locs : List Loc) (ls : Array Slot), va_P (dC, dI) vwCl (mW h0 ad cid sg gm lg) H → va_D A (mW h0 ad cid sg gm lg) → va_S A s.heap H locs → lv_has ls 3 [(2, .int x2_68), (0, .ref h0), (1, .int x)] → W p l e (headSpec wm_X13_isGoodHolder ({ frames := 2, cells := 0, slots := 0, locals := 49 })).room s m ([.ref h0, .int x] : List Value).toArray below meth c H locs 0 0 (MQ below (va_Qi (fun r v => (iv 0 1 r) ∧ (r.toInt = 0 ∨ HOLD gm lg x.toNatClampNeg) ∧ v = (sg, gm, lg)) (MB dC dI h0 ad cid A) A) ([.ref h0, .int x] : List Value).toArray s 0 0 A) (F0 m 68 ls []) := by
    intro x2_68 hx2_68 hsx1_68 hHO H locs ls hP hD hS hl
    refine lv_iconst (v := 1) hx hb dX13_isGoodHolder_68 (by decide) ?_
    refine lv_goto (tgt := 73) hx hb dX13_isGoodHolder_69 (by decide) ?_
    exact hj73 x2_68 1 (iv_w hx2_68 (by decide)) hsx1_68 (iv_w (iv_k (by decide) : iv 1 1 1) (by decide)) (Or.inr hHO) _ _ _ hP hD hS (lv_sub hl [0, 1, 2] rfl)
  have hj32 : ∀ (y0_32 : Int32) (y1_32 : Int32) (_ : iv 0 79 x) (_ : iv 0 1 y0_32) (_ : iv 0 1 y1_32) (_ : (y0_32 = 0 ∧ mHas gm lg x.toNatClampNeg 7497062 = 0) ∨ (y0_32 = 1 ∧ ¬ mHas gm lg x.toNatClampNeg 7497062 = 0)) (_ : (y1_32 = 0 ∧ mHas gm lg x.toNatClampNeg 508440638821 = 0) ∨ (y1_32 = 1 ∧ ¬ mHas gm lg x.toNatClampNeg 508440638821 = 0)) (H : Heap) (locs : List Loc) (ls : Array Slot), va_P (dC, dI) vwCl (mW h0 ad cid sg gm lg) H → va_D A (mW h0 ad cid sg gm lg) → va_S A s.heap H locs → lv_has ls 3 [(0, .ref h0), (1, .int x)] → W p l e (headSpec wm_X13_isGoodHolder ({ frames := 2, cells := 0, slots := 0, locals := 49 })).room s m ([.ref h0, .int x] : List Value).toArray below meth c H locs 0 0 (MQ below (va_Qi (fun r v => (iv 0 1 r) ∧ (r.toInt = 0 ∨ HOLD gm lg x.toNatClampNeg) ∧ v = (sg, gm, lg)) (MB dC dI h0 ad cid A) A) ([.ref h0, .int x] : List Value).toArray s 0 0 A) (F0 m 32 ls [.int y0_32, .int y1_32]) := by
    intro y0_32 y1_32 hsx1_32 hy0_32 hy1_32 h32 h16 H locs ls hP hD hS hl
    refine lv_iadd hx hb dX13_isGoodHolder_32 ?_
    refine lv_topi (fun z_1 ez_1 => ?_)
    have hz_1 : iv 0 2 z_1 := iv_of ez_1 (iv_add hy1_32 hy0_32 (by decide))
    have tz_1 : z_1.toInt = (y1_32 : Int32).toInt + (y0_32 : Int32).toInt := by rw [ez_1]; exact iv_addE hy1_32 hy0_32 (by decide)
    refine lv_aload_n hx hb dX13_isGoodHolder_33 rfl (lv_at hl 0 rfl) ?_
    refine mr_get (v := .ref (ad 29)) hx hb htb inX13 hown hK hP 29 (by decide) (htb _ kw_185) rfl dX13_isGoodHolder_34 ?_
    refine lv_iload_n hx hb dX13_isGoodHolder_37 rfl (lv_at hl 1 rfl) ?_
    refine mr_iald hx hb hK hP 22 (k := 29) rfl rfl rfl (show vp_in x 80 from (iv_in hsx1_32 (by decide))) dX13_isGoodHolder_38 ?_
    refine lv_topi (fun z_2 ez_2 => ?_)
    have hz_2 : iv 0 80 z_2 := iv_of ez_2 (MI_a hI 29 hsx1_32 (by decide))
    refine lv_iadd hx hb dX13_isGoodHolder_39 ?_
    refine lv_topi (fun z_3 ez_3 => ?_)
    have hz_3 : iv 0 82 z_3 := iv_of ez_3 (iv_add hz_1 hz_2 (by decide))
    have tz_3 : z_3.toInt = (z_1 : Int32).toInt + (z_2 : Int32).toInt := by rw [ez_3]; exact iv_addE hz_1 hz_2 (by decide)
    refine lv_istore_n (lv' := [(2, .int z_3), (0, .ref h0), (1, .int x)]) hx hb dX13_isGoodHolder_40 rfl hl (by decide) rfl (fun ls hl => ?_)
    refine lv_iload_n hx hb dX13_isGoodHolder_41 rfl (lv_at hl 0 rfl) ?_
    refine lv_iconst (v := 1) hx hb dX13_isGoodHolder_42 (by decide) ?_
    refine lv_icmp_ne (tgt := 72) hx hb dX13_isGoodHolder_43 (by decide) (fun c_4 => ?_) (fun c_4 => ?_)
    · have d_5 : ¬ (z_3 : Int32).toInt = 1 := lv_neT c_4 rfl
      exact hj72 z_3 hz_3 hsx1_32 _ _ _ hP hD hS (lv_sub hl [0, 1, 2] rfl)
    · have h_6 : iv 1 1 z_3 := iv_eq c_4 hz_3 (iv_k (by decide) : iv 1 1 1) (by decide)
      have hHO : HOLD gm lg x.toNatClampNeg := by have q1 := tz_1; have q2 := tz_3; have q3 := congrArg Int32.toInt ez_2; have q4 := (h_6).1; have q8 := (h_6).2; have q5 := (hz_2).1; have q6 := i32_0; have q7 := i32_1; rcases h16 with ⟨a1, a2⟩ | ⟨a1, a2⟩ <;> rcases h32 with ⟨b1, b2⟩ | ⟨b1, b2⟩ <;> rw [a1, b1] at q1 <;> unfold HOLD <;> first | exact Or.inr ⟨a2, b2, by omega⟩ | exact Or.inl ⟨Or.inl a2, by omega⟩ | exact Or.inl ⟨Or.inr b2, by omega⟩ | (exfalso; omega)
      refine lv_aload_n hx hb dX13_isGoodHolder_46 rfl (lv_at hl 1 rfl) ?_
      refine lv_iload_n hx hb dX13_isGoodHolder_47 rfl (lv_at hl 2 rfl) ?_
      refine lv_ldc2 (own := RX13) (v := 7497062) hx hb hown (htb _ kw_141) dX13_isGoodHolder_48 ?_
      refine mr_calli (rest := []) ⟨hx, hb, hml, hown, htb⟩ (f_has l dC dI h0 ad cid sg gm lg x 7497062 hI hsx1_32) (cwV 2 htb (gd_V kw_916 kw_917 kw_918 kw_5 kw_1543) rfl rfl rfl (by decide +kernel) ⟨Nat.le_of_ble_eq_true rfl, Nat.le_of_ble_eq_true rfl⟩) rfl hl.1 rfl (Nat.le_of_ble_eq_true rfl) dX13_isGoodHolder_51 ⟨Nat.zero_le _, Nat.zero_le _⟩ hK hP hD hS hA (fun r_7 u_8 H locs hw hP hD hS => ?_)
      obtain ⟨hr_7, fH_r_7, rfl⟩ := hw
      have hP : va_P (dC, dI) vwCl (mW h0 ad cid sg gm lg) H := hP
      have hD : va_D A (mW h0 ad cid sg gm lg) := hD
      refine lv_if_eq (tgt := 68) hx hb dX13_isGoodHolder_54 (by decide) (fun c_9 => ?_) (fun c_9 => ?_)
      · have h_10 : iv 0 0 r_7 := iv_eq c_9 hr_7 (iv_k (by decide) : iv 0 0 0) (by decide)
        exact hj68 z_3 h_6 hsx1_32 (hHO) _ _ _ hP hD hS (lv_sub hl [0, 1, 2] rfl)
      · have h_11 : iv 1 1 r_7 := iv_neL c_9 hr_7 (by decide)
        refine lv_aload_n hx hb dX13_isGoodHolder_57 rfl (lv_at hl 1 rfl) ?_
        refine lv_iload_n hx hb dX13_isGoodHolder_58 rfl (lv_at hl 2 rfl) ?_
        refine lv_ldc2 (own := RX13) (v := 7497062) hx hb hown (htb _ kw_141) dX13_isGoodHolder_59 ?_
        refine mr_calli (rest := []) ⟨hx, hb, hml, hown, htb⟩ (f_isWord l dC dI h0 ad cid sg gm lg x 7497062 hI hsx1_32) (cwV 2 htb (gd_V kw_910 kw_911 kw_912 kw_5 kw_1541) rfl rfl rfl (by decide +kernel) ⟨Nat.le_of_ble_eq_true rfl, Nat.le_of_ble_eq_true rfl⟩) rfl hl.1 rfl (Nat.le_of_ble_eq_true rfl) dX13_isGoodHolder_62 ⟨Nat.zero_le _, Nat.zero_le _⟩ hK hP hD hS hA (fun r_12 u_13 H locs hw hP hD hS => ?_)
        obtain ⟨hr_12, fI_r_12, rfl⟩ := hw
        have hP : va_P (dC, dI) vwCl (mW h0 ad cid sg gm lg) H := hP
        have hD : va_D A (mW h0 ad cid sg gm lg) := hD
        refine lv_if_eq (tgt := 72) hx hb dX13_isGoodHolder_65 (by decide) (fun c_14 => ?_) (fun c_14 => ?_)
        · have h_15 : iv 0 0 r_12 := iv_eq c_14 hr_12 (iv_k (by decide) : iv 0 0 0) (by decide)
          exact hj72 z_3 (iv_w h_6 (by decide)) hsx1_32 _ _ _ hP hD hS (lv_sub hl [0, 1, 2] rfl)
        · have h_16 : iv 1 1 r_12 := iv_neL c_14 hr_12 (by decide)
          exact hj68 z_3 h_6 hsx1_32 (hHO) _ _ _ hP hD hS (lv_sub hl [0, 1, 2] rfl)
  have hj16 : ∀ (y0_16 : Int32) (_ : iv 0 79 x) (_ : iv 0 1 y0_16) (_ : (y0_16 = 0 ∧ mHas gm lg x.toNatClampNeg 508440638821 = 0) ∨ (y0_16 = 1 ∧ ¬ mHas gm lg x.toNatClampNeg 508440638821 = 0)) (H : Heap) (locs : List Loc) (ls : Array Slot), va_P (dC, dI) vwCl (mW h0 ad cid sg gm lg) H → va_D A (mW h0 ad cid sg gm lg) → va_S A s.heap H locs → lv_has ls 3 [(0, .ref h0), (1, .int x)] → W p l e (headSpec wm_X13_isGoodHolder ({ frames := 2, cells := 0, slots := 0, locals := 49 })).room s m ([.ref h0, .int x] : List Value).toArray below meth c H locs 0 0 (MQ below (va_Qi (fun r v => (iv 0 1 r) ∧ (r.toInt = 0 ∨ HOLD gm lg x.toNatClampNeg) ∧ v = (sg, gm, lg)) (MB dC dI h0 ad cid A) A) ([.ref h0, .int x] : List Value).toArray s 0 0 A) (F0 m 16 ls [.int y0_16]) := by
    intro y0_16 hsx1_16 hy0_16 h16 H locs ls hP hD hS hl
    refine lv_aload_n hx hb dX13_isGoodHolder_16 rfl (lv_at hl 0 rfl) ?_
    refine lv_iload_n hx hb dX13_isGoodHolder_17 rfl (lv_at hl 1 rfl) ?_
    refine lv_ldc2 (own := RX13) (v := 7497062) hx hb hown (htb _ kw_141) dX13_isGoodHolder_18 ?_
    refine mr_calli (rest := [.int y0_16]) ⟨hx, hb, hml, hown, htb⟩ (f_has l dC dI h0 ad cid sg gm lg x 7497062 hI hsx1_16) (cwV 2 htb (gd_V kw_916 kw_917 kw_918 kw_5 kw_1543) rfl rfl rfl (by decide +kernel) ⟨Nat.le_of_ble_eq_true rfl, Nat.le_of_ble_eq_true rfl⟩) rfl hl.1 rfl (Nat.le_of_ble_eq_true rfl) dX13_isGoodHolder_21 ⟨Nat.zero_le _, Nat.zero_le _⟩ hK hP hD hS hA (fun r_17 u_18 H locs hw hP hD hS => ?_)
    obtain ⟨hr_17, fH_r_17, rfl⟩ := hw
    have hP : va_P (dC, dI) vwCl (mW h0 ad cid sg gm lg) H := hP
    have hD : va_D A (mW h0 ad cid sg gm lg) := hD
    refine lv_if_eq (tgt := 31) hx hb dX13_isGoodHolder_24 (by decide) (fun c_19 => ?_) (fun c_19 => ?_)
    · have h_20 : iv 0 0 r_17 := iv_eq c_19 hr_17 (iv_k (by decide) : iv 0 0 0) (by decide)
      refine lv_iconst (v := 0) hx hb dX13_isGoodHolder_31 (by decide) ?_
      exact hj32 0 y0_16 hsx1_16 (iv_w (iv_k (by decide) : iv 0 0 0) (by decide)) hy0_16 (Or.inl ⟨rfl, by rw [← fH_r_17]; exact c_19⟩) (h16) _ _ _ hP hD hS (lv_sub hl [0, 1] rfl)
    · have h_21 : iv 1 1 r_17 := iv_neL c_19 hr_17 (by decide)
      refine lv_iconst (v := 1) hx hb dX13_isGoodHolder_27 (by decide) ?_
      refine lv_goto (tgt := 32) hx hb dX13_isGoodHolder_28 (by decide) ?_
      exact hj32 1 y0_16 hsx1_16 (iv_w (iv_k (by decide) : iv 1 1 1) (by decide)) hy0_16 (Or.inr ⟨rfl, by rw [← fH_r_17]; exact c_19⟩) (h16) _ _ _ hP hD hS (lv_sub hl [0, 1] rfl)
  refine lv_aload_n hx hb dX13_isGoodHolder_0 rfl (lv_at hl 0 rfl) ?_
  refine lv_iload_n hx hb dX13_isGoodHolder_1 rfl (lv_at hl 1 rfl) ?_
  refine lv_ldc2 (own := RX13) (v := 508440638821) hx hb hown (htb _ kw_140) dX13_isGoodHolder_2 ?_
  refine mr_calli (rest := []) ⟨hx, hb, hml, hown, htb⟩ (f_has l dC dI h0 ad cid sg gm lg x 508440638821 hI hvx) (cwV 2 htb (gd_V kw_916 kw_917 kw_918 kw_5 kw_1543) rfl rfl rfl (by decide +kernel) ⟨Nat.le_of_ble_eq_true rfl, Nat.le_of_ble_eq_true rfl⟩) rfl hl.1 rfl (Nat.le_of_ble_eq_true rfl) dX13_isGoodHolder_5 ⟨Nat.zero_le _, Nat.zero_le _⟩ hK hP hD hS hA (fun r_22 u_23 H locs hw hP hD hS => ?_)
  obtain ⟨hr_22, fH_r_22, rfl⟩ := hw
  have hP : va_P (dC, dI) vwCl (mW h0 ad cid sg gm lg) H := hP
  have hD : va_D A (mW h0 ad cid sg gm lg) := hD
  refine lv_if_eq (tgt := 15) hx hb dX13_isGoodHolder_8 (by decide) (fun c_24 => ?_) (fun c_24 => ?_)
  · have h_25 : iv 0 0 r_22 := iv_eq c_24 hr_22 (iv_k (by decide) : iv 0 0 0) (by decide)
    refine lv_iconst (v := 0) hx hb dX13_isGoodHolder_15 (by decide) ?_
    exact hj16 0 hvx (iv_w (iv_k (by decide) : iv 0 0 0) (by decide)) (Or.inl ⟨rfl, by rw [← fH_r_22]; exact c_24⟩) _ _ _ hP hD hS (lv_sub hl [0, 1] rfl)
  · have h_26 : iv 1 1 r_22 := iv_neL c_24 hr_22 (by decide)
    refine lv_iconst (v := 1) hx hb dX13_isGoodHolder_11 (by decide) ?_
    refine lv_goto (tgt := 16) hx hb dX13_isGoodHolder_12 (by decide) ?_
    exact hj16 1 hvx (iv_w (iv_k (by decide) : iv 1 1 1) (by decide)) (Or.inr ⟨rfl, by rw [← fH_r_22]; exact c_24⟩) _ _ _ hP hD hS (lv_sub hl [0, 1] rfl)

set_option maxHeartbeats 4000000 in
set_option maxRecDepth 100000 in
theorem f_ahead (l : Launch) (dC : Nat → ClassId) (dI : Nat → Nat → Nat) (h0 : Nat) (ad : Nat → Nat) (cid : Nat → ClassId) (sg : Nat → Int32) (gm : Nat → Nat → Int32) (lg : Nat → Nat → Int64) (x : Int32) (f : Int32) (hI : MI sg gm) (hvx : iv 0 79 x) (hvf : iv 0 1 f) : MMi l dC dI yX13_ahead wm_X13_ahead ({ frames := 2, cells := 0, slots := 0, locals := 51 }) h0 ad cid [.int x, .int f] sg gm lg (fun r v => (iv 0 79 r) ∧ (f.toInt ≠ 0 ∨ r.toInt = (ahN gm x.toNatClampNeg x.toNatClampNeg : Int)) ∧ v = (sg, gm, lg)) := by
  intro sz
  refine Met.ofW (cc := cX13_ahead) (maxL := 5) (ret := (some .int)) (by decide) rfl ?_
  intro p e s m args below meth c s₁ B hml hv
  obtain ⟨rfl, hsz, hP, hK, hD0⟩ := hv
  have hx := B.exec
  have hb := B.bytes
  have hr := B.returns
  have hts := atoms_spec (ws := wm_X13_ahead) B.pre
  have htb := fun (w : Cond) (h : w ∈ tb) => hts w (List.mem_cons_of_mem _ h)
  have hown : s.vm.findClass RX13 = some m.cls := findClass_of_methodNamed B.named
  have hlocks := B.notSynchronized
  subst hsz
  have hD := hD0.self (sz := s.heap.size)
  generalize hAe : va_A (mW h0 ad cid sg gm lg) s.heap.size = A at hD ⊢
  have hA : ∀ q : Nat, s.heap.size ≤ q → A q := fun q h => by rw [← hAe]; exact Or.inr h
  have hS : va_S A s.heap s.heap [] := va_S.rf
  have hl := lv_entry ([.ref h0, .int x, .int f]) (n := 5) (Nat.le_of_ble_eq_true rfl)
  rw [lg_entry_eq]
  generalize (lg_sl ([.ref h0, .int x, .int f]) ++ List.replicate (5 - (lg_sl ([.ref h0, .int x, .int f])).length) Slot.unset).toArray = ls at hl ⊢
  have hl : lv_has ls 5 [(0, .ref h0), (1, .int x), (2, .int f)] := hl
  have hj5 : ∀ (n : Nat) (x4_5 : Int32) (x3_5 : Int32) (_ : (79 - x4_5.toInt).toNat = n) (_ : iv 0 79 x4_5) (_ : iv 0 79 x3_5) (_ : iv 0 79 x) (_ : iv 0 1 f) (_ : f.toInt ≠ 0 ∨ x3_5.toInt = (ahN gm x.toNatClampNeg x4_5.toNatClampNeg : Int)) (_ : x3_5.toInt ≤ x4_5.toInt) (_ : x4_5.toInt ≤ x.toInt) (H : Heap) (locs : List Loc) (ls : Array Slot), va_P (dC, dI) vwCl (mW h0 ad cid sg gm lg) H → va_D A (mW h0 ad cid sg gm lg) → va_S A s.heap H locs → lv_has ls 5 [(4, .int x4_5), (3, .int x3_5), (0, .ref h0), (1, .int x), (2, .int f)] → W p l e (headSpec wm_X13_ahead ({ frames := 2, cells := 0, slots := 0, locals := 51 })).room s m ([.ref h0, .int x, .int f] : List Value).toArray below meth c H locs 0 0 (MQ below (va_Qi (fun r v => (iv 0 79 r) ∧ (f.toInt ≠ 0 ∨ r.toInt = (ahN gm x.toNatClampNeg x.toNatClampNeg : Int)) ∧ v = (sg, gm, lg)) (MB dC dI h0 ad cid A) A) ([.ref h0, .int x, .int f] : List Value).toArray s 0 0 A) (F0 m 5 ls []) := by
    intro n
    induction n using Nat.strongRecOn with
    | ind n ih5 =>
      intro x4_5 x3_5 hn5 hx4_5 hx3_5 hsx1_5 hsx2_5 hc hle hlx H locs ls hP hD hS hl
      have hj74 : ∀ (y0_74 : Int32) (_ : iv 0 78 x4_5) (_ : iv 0 79 x3_5) (_ : iv 1 79 x) (_ : iv 0 1 f) (_ : iv 0 1 y0_74) (_ : iv 0 79 x3_5) (_ : x4_5.toInt < x.toInt) (_ : f.toInt ≠ 0 ∨ (AQ gm x.toNatClampNeg x4_5.toNatClampNeg ∧ y0_74 = 1) ∨ (¬ AQ gm x.toNatClampNeg x4_5.toNatClampNeg ∧ y0_74 = 0)) (H : Heap) (locs : List Loc) (ls : Array Slot), va_P (dC, dI) vwCl (mW h0 ad cid sg gm lg) H → va_D A (mW h0 ad cid sg gm lg) → va_S A s.heap H locs → lv_has ls 5 [(4, .int x4_5), (3, .int x3_5), (0, .ref h0), (1, .int x), (2, .int f)] → W p l e (headSpec wm_X13_ahead ({ frames := 2, cells := 0, slots := 0, locals := 51 })).room s m ([.ref h0, .int x, .int f] : List Value).toArray below meth c H locs 0 0 (MQ below (va_Qi (fun r v => (iv 0 79 r) ∧ (f.toInt ≠ 0 ∨ r.toInt = (ahN gm x.toNatClampNeg x.toNatClampNeg : Int)) ∧ v = (sg, gm, lg)) (MB dC dI h0 ad cid A) A) ([.ref h0, .int x, .int f] : List Value).toArray s 0 0 A) (F0 m 74 ls [.int y0_74, .int x3_5]) := by
        intro y0_74 hsx4_74 hsx3_74 hsx1_74 hsx2_74 hy0_74 hsy1_74 hl4 ht H locs ls hP hD hS hl
        refine lv_iadd hx hb dX13_ahead_74 ?_
        refine lv_topi (fun z_1 ez_1 => ?_)
        have hz_1 : iv 0 80 z_1 := iv_of ez_1 (iv_add hsy1_74 hy0_74 (by decide))
        have tz_1 : z_1.toInt = (x3_5 : Int32).toInt + (y0_74 : Int32).toInt := by rw [ez_1]; exact iv_addE hsy1_74 hy0_74 (by decide)
        have h75 : iv 0 79 z_1 := ⟨(hz_1).1, by have := i32_0; have := i32_1; have := i32_2; have := i32_m1; have := (hsx1_74).1; have := (hsx1_74).2; have := (hsx2_74).1; have := (hsx2_74).2; have := (hsx4_74).1; have := (hsx4_74).2; have := (hsy1_74).1; have := (hsy1_74).2; have := (hy0_74).1; have := (hy0_74).2; have := (hz_1).1; have := (hz_1).2; omega⟩
        refine lv_istore_n (lv' := [(3, .int z_1), (4, .int x4_5), (0, .ref h0), (1, .int x), (2, .int f)]) hx hb dX13_ahead_75 rfl hl (by decide) rfl (fun ls hl => ?_)
        obtain ⟨z_2, ez_2⟩ : ∃ z : Int32, z = x4_5 + 1 := ⟨_, rfl⟩
        have hz_2 : iv 1 79 z_2 := iv_of ez_2 (iv_add hsx4_74 (iv_k (by decide) : iv 1 1 1) (by decide))
        have tz_2 : z_2.toInt = x4_5.toInt + 1 := by rw [ez_2]; exact iv_addE hsx4_74 (iv_k (by decide) : iv 1 1 1) (by decide)
        refine lv_iinc (v := z_2) (lv' := [(4, .int z_2), (3, .int z_1), (0, .ref h0), (1, .int x), (2, .int f)]) hx hb dX13_ahead_76 hl (k := 1) rfl ez_2.symm (by decide) rfl (fun ls hl => ?_)
        refine lv_goto (tgt := 5) hx hb dX13_ahead_79 (by decide) ?_
        exact ih5 _ (by rw [← hn5]; exact (iv_meas tz_2 hsx4_74 (by decide))) z_2 z_1 rfl (iv_w hz_2 (by decide)) h75 (iv_w hsx1_74 (by decide)) hsx2_74 (ah_s hsx4_74 tz_2 tz_1 hc ht) (by have := i32_0; have := i32_1; have := i32_2; have := i32_m1; have := (show iv 0 1200 (sg 20) from MI_s hI 20).1; have := (show iv 0 1200 (sg 20) from MI_s hI 20).2; have := (show iv 0 1201 (sg 21) from MI_s hI 21).1; have := (show iv 0 1201 (sg 21) from MI_s hI 21).2; have := (show iv 0 3 (sg 22) from MI_s hI 22).1; have := (show iv 0 3 (sg 22) from MI_s hI 22).2; have := (show iv 0 80 (sg 24) from MI_s hI 24).1; have := (show iv 0 80 (sg 24) from MI_s hI 24).2; have := (show iv 0 1201 (sg 25) from MI_s hI 25).1; have := (show iv 0 1201 (sg 25) from MI_s hI 25).2; have := (hsx1_74).1; have := (hsx1_74).2; have := (hsx2_74).1; have := (hsx2_74).2; have := (hsx4_74).1; have := (hsx4_74).2; have := (hsy1_74).1; have := (hsy1_74).2; have := (hy0_74).1; have := (hy0_74).2; have := (h75).1; have := (h75).2; have := (hz_2).1; have := (hz_2).2; omega) (by have := i32_0; have := i32_1; have := i32_2; have := i32_m1; have := (show iv 0 1200 (sg 20) from MI_s hI 20).1; have := (show iv 0 1200 (sg 20) from MI_s hI 20).2; have := (show iv 0 1201 (sg 21) from MI_s hI 21).1; have := (show iv 0 1201 (sg 21) from MI_s hI 21).2; have := (show iv 0 3 (sg 22) from MI_s hI 22).1; have := (show iv 0 3 (sg 22) from MI_s hI 22).2; have := (show iv 0 80 (sg 24) from MI_s hI 24).1; have := (show iv 0 80 (sg 24) from MI_s hI 24).2; have := (show iv 0 1201 (sg 25) from MI_s hI 25).1; have := (show iv 0 1201 (sg 25) from MI_s hI 25).2; have := (hsx1_74).1; have := (hsx1_74).2; have := (hsx2_74).1; have := (hsx2_74).2; have := (hsx4_74).1; have := (hsx4_74).2; have := (hsy1_74).1; have := (hsy1_74).2; have := (hy0_74).1; have := (hy0_74).2; have := (h75).1; have := (h75).2; have := (hz_2).1; have := (hz_2).2; omega) _ _ _ hP hD hS (lv_sub hl [0, 1, 2, 3, 4] rfl)
      have hj73 : ∀ (_ : iv 0 78 x4_5) (_ : iv 0 79 x3_5) (_ : iv 1 79 x) (_ : iv 0 1 f) (_ : iv 0 79 x3_5) (_ : f.toInt ≠ 0 ∨ ¬ AQ gm x.toNatClampNeg x4_5.toNatClampNeg) (_ : x4_5.toInt < x.toInt) (H : Heap) (locs : List Loc) (ls : Array Slot), va_P (dC, dI) vwCl (mW h0 ad cid sg gm lg) H → va_D A (mW h0 ad cid sg gm lg) → va_S A s.heap H locs → lv_has ls 5 [(4, .int x4_5), (3, .int x3_5), (0, .ref h0), (1, .int x), (2, .int f)] → W p l e (headSpec wm_X13_ahead ({ frames := 2, cells := 0, slots := 0, locals := 51 })).room s m ([.ref h0, .int x, .int f] : List Value).toArray below meth c H locs 0 0 (MQ below (va_Qi (fun r v => (iv 0 79 r) ∧ (f.toInt ≠ 0 ∨ r.toInt = (ahN gm x.toNatClampNeg x.toNatClampNeg : Int)) ∧ v = (sg, gm, lg)) (MB dC dI h0 ad cid A) A) ([.ref h0, .int x, .int f] : List Value).toArray s 0 0 A) (F0 m 73 ls [.int x3_5]) := by
        intro  hsx4_73 hsx3_73 hsx1_73 hsx2_73 hsy0_73 hn9 hl4 H locs ls hP hD hS hl
        refine lv_iconst (v := 0) hx hb dX13_ahead_73 (by decide) ?_
        exact hj74 0 hsx4_73 hsy0_73 hsx1_73 hsx2_73 (iv_w (iv_k (by decide) : iv 0 0 0) (by decide)) hsy0_73 (by have := i32_0; have := i32_1; have := i32_2; have := i32_m1; have := (show iv 0 1200 (sg 20) from MI_s hI 20).1; have := (show iv 0 1200 (sg 20) from MI_s hI 20).2; have := (show iv 0 1201 (sg 21) from MI_s hI 21).1; have := (show iv 0 1201 (sg 21) from MI_s hI 21).2; have := (show iv 0 3 (sg 22) from MI_s hI 22).1; have := (show iv 0 3 (sg 22) from MI_s hI 22).2; have := (show iv 0 80 (sg 24) from MI_s hI 24).1; have := (show iv 0 80 (sg 24) from MI_s hI 24).2; have := (show iv 0 1201 (sg 25) from MI_s hI 25).1; have := (show iv 0 1201 (sg 25) from MI_s hI 25).2; have := (hsx1_73).1; have := (hsx1_73).2; have := (hsx2_73).1; have := (hsx2_73).2; have := (hsx4_73).1; have := (hsx4_73).2; have := (hsy0_73).1; have := (hsy0_73).2; omega) (hn9.imp id (fun q9 => Or.inr ⟨q9, rfl⟩)) _ _ _ hP hD hS (lv_sub hl [0, 1, 2, 3, 4] rfl)
      have hj69 : ∀ (_ : iv 0 78 x4_5) (_ : iv 0 79 x3_5) (_ : iv 1 79 x) (_ : iv 0 1 f) (_ : iv 0 79 x3_5) (_ : AQ gm x.toNatClampNeg x4_5.toNatClampNeg) (_ : x4_5.toInt < x.toInt) (H : Heap) (locs : List Loc) (ls : Array Slot), va_P (dC, dI) vwCl (mW h0 ad cid sg gm lg) H → va_D A (mW h0 ad cid sg gm lg) → va_S A s.heap H locs → lv_has ls 5 [(4, .int x4_5), (3, .int x3_5), (0, .ref h0), (1, .int x), (2, .int f)] → W p l e (headSpec wm_X13_ahead ({ frames := 2, cells := 0, slots := 0, locals := 51 })).room s m ([.ref h0, .int x, .int f] : List Value).toArray below meth c H locs 0 0 (MQ below (va_Qi (fun r v => (iv 0 79 r) ∧ (f.toInt ≠ 0 ∨ r.toInt = (ahN gm x.toNatClampNeg x.toNatClampNeg : Int)) ∧ v = (sg, gm, lg)) (MB dC dI h0 ad cid A) A) ([.ref h0, .int x, .int f] : List Value).toArray s 0 0 A) (F0 m 69 ls [.int x3_5]) := by
        intro  hsx4_69 hsx3_69 hsx1_69 hsx2_69 hsy0_69 hy hl4 H locs ls hP hD hS hl
        refine lv_iconst (v := 1) hx hb dX13_ahead_69 (by decide) ?_
        refine lv_goto (tgt := 74) hx hb dX13_ahead_70 (by decide) ?_
        exact hj74 1 hsx4_69 hsy0_69 hsx1_69 hsx2_69 (iv_w (iv_k (by decide) : iv 1 1 1) (by decide)) hsy0_69 (by have := i32_0; have := i32_1; have := i32_2; have := i32_m1; have := (show iv 0 1200 (sg 20) from MI_s hI 20).1; have := (show iv 0 1200 (sg 20) from MI_s hI 20).2; have := (show iv 0 1201 (sg 21) from MI_s hI 21).1; have := (show iv 0 1201 (sg 21) from MI_s hI 21).2; have := (show iv 0 3 (sg 22) from MI_s hI 22).1; have := (show iv 0 3 (sg 22) from MI_s hI 22).2; have := (show iv 0 80 (sg 24) from MI_s hI 24).1; have := (show iv 0 80 (sg 24) from MI_s hI 24).2; have := (show iv 0 1201 (sg 25) from MI_s hI 25).1; have := (show iv 0 1201 (sg 25) from MI_s hI 25).2; have := (hsx1_69).1; have := (hsx1_69).2; have := (hsx2_69).1; have := (hsx2_69).2; have := (hsx4_69).1; have := (hsx4_69).2; have := (hsy0_69).1; have := (hsy0_69).2; omega) (Or.inr (Or.inl ⟨hy, rfl⟩)) _ _ _ hP hD hS (lv_sub hl [0, 1, 2, 3, 4] rfl)
      refine lv_iload hx hb dX13_ahead_5 (lv_at hl 0 rfl) ?_
      refine lv_iload_n hx hb dX13_ahead_7 rfl (lv_at hl 3 rfl) ?_
      refine lv_icmp_ge (tgt := 82) hx hb dX13_ahead_8 (by decide) (fun c_3 => ?_) (fun c_3 => ?_)
      · have d_4 : (x : Int32).toInt ≤ (x4_5 : Int32).toInt := Int32.le_iff_toInt_le.mp c_3
        refine lv_iload_n hx hb dX13_ahead_82 rfl (lv_at hl 1 rfl) ?_
        exact W.iret (v := x3_5) hx hb hr (fun t ht hW => ⟨⟨x3_5, (sg, gm, lg), rfl, ⟨hx3_5, (by have q9 : x4_5.toNatClampNeg = x.toNatClampNeg := (by have := iv_cl hx4_5 (by decide); have := iv_cl hvx (by decide); have := hlx; omega); rw [q9] at hc; exact hc), rfl⟩, by rw [ht]; exact hP, va_K.moved hW.alike hK, hD⟩, hS.F ht⟩) hS.2.2 dX13_ahead_83
      · have d_5 : (x4_5 : Int32).toInt < (x : Int32).toInt := Int32.lt_iff_toInt_lt.mp (i32_lt c_3)
        have h_6 : iv 0 78 x4_5 := iv_ltL (i32_lt c_3) hx4_5 hsx1_5 (by decide)
        have h_7 : iv 1 79 x := iv_ltR (i32_lt c_3) hx4_5 hsx1_5 (by decide)
        refine lv_iload_n hx hb dX13_ahead_11 rfl (lv_at hl 1 rfl) ?_
        refine lv_aload_n hx hb dX13_ahead_12 rfl (lv_at hl 2 rfl) ?_
        refine mr_get (v := .ref (ad 28)) hx hb htb inX13 hown hK hP 28 (by decide) (htb _ kw_184) rfl dX13_ahead_13 ?_
        refine lv_iload hx hb dX13_ahead_16 (lv_at hl 0 rfl) ?_
        refine mr_iald hx hb hK hP 21 (k := 28) rfl rfl rfl (show vp_in x4_5 80 from (iv_in h_6 (by decide))) dX13_ahead_18 ?_
        refine lv_topi (fun z_8 ez_8 => ?_)
        have hz_8 : iv (-1) 79 z_8 := iv_of ez_8 (MI_a hI 28 h_6 (by decide))
        refine lv_aload_n hx hb dX13_ahead_19 rfl (lv_at hl 2 rfl) ?_
        refine mr_get (v := .ref (ad 28)) hx hb htb inX13 hown hK hP 28 (by decide) (htb _ kw_184) rfl dX13_ahead_20 ?_
        refine lv_iload_n hx hb dX13_ahead_23 rfl (lv_at hl 3 rfl) ?_
        refine mr_iald hx hb hK hP 21 (k := 28) rfl rfl rfl (show vp_in x 80 from (iv_in h_7 (by decide))) dX13_ahead_24 ?_
        refine lv_topi (fun z_9 ez_9 => ?_)
        have hz_9 : iv (-1) 79 z_9 := iv_of ez_9 (MI_a hI 28 h_7 (by decide))
        refine lv_icmp_ne (tgt := 73) hx hb dX13_ahead_25 (by decide) (fun c_10 => ?_) (fun c_10 => ?_)
        · exact hj73 h_6 hx3_5 h_7 hsx2_5 hx3_5 (Or.inr (fun q9 => c_10 (by rw [ez_8, ez_9]; exact q9.1))) (by have := i32_0; have := i32_1; have := i32_2; have := i32_m1; have := (show iv 0 1200 (sg 20) from MI_s hI 20).1; have := (show iv 0 1200 (sg 20) from MI_s hI 20).2; have := (show iv 0 1201 (sg 21) from MI_s hI 21).1; have := (show iv 0 1201 (sg 21) from MI_s hI 21).2; have := (show iv 0 3 (sg 22) from MI_s hI 22).1; have := (show iv 0 3 (sg 22) from MI_s hI 22).2; have := (show iv 0 80 (sg 24) from MI_s hI 24).1; have := (show iv 0 80 (sg 24) from MI_s hI 24).2; have := (show iv 0 1201 (sg 25) from MI_s hI 25).1; have := (show iv 0 1201 (sg 25) from MI_s hI 25).2; have := (h_7).1; have := (h_7).2; have := (hsx2_5).1; have := (hsx2_5).2; have := (h_6).1; have := (h_6).2; have := (hx3_5).1; have := (hx3_5).2; have := (hz_8).1; have := (hz_8).2; have := (hz_9).1; have := (hz_9).2; omega) _ _ _ hP hD hS (lv_sub hl [0, 1, 2, 3, 4] rfl)
        · have d_11 : (z_8 : Int32).toInt = (z_9 : Int32).toInt := congrArg Int32.toInt c_10
          refine lv_aload_n hx hb dX13_ahead_28 rfl (lv_at hl 2 rfl) ?_
          refine mr_get (v := .ref (ad 26)) hx hb htb inX13 hown hK hP 26 (by decide) (htb _ kw_182) rfl dX13_ahead_29 ?_
          refine lv_iload hx hb dX13_ahead_32 (lv_at hl 0 rfl) ?_
          refine mr_iald hx hb hK hP 19 (k := 26) rfl rfl rfl (show vp_in x4_5 80 from (iv_in h_6 (by decide))) dX13_ahead_34 ?_
          refine lv_topi (fun z_12 ez_12 => ?_)
          have hz_12 : iv 0 10 z_12 := iv_of ez_12 (MI_a hI 26 h_6 (by decide))
          refine lv_aload_n hx hb dX13_ahead_35 rfl (lv_at hl 2 rfl) ?_
          refine mr_get (v := .ref (ad 26)) hx hb htb inX13 hown hK hP 26 (by decide) (htb _ kw_182) rfl dX13_ahead_36 ?_
          refine lv_iload_n hx hb dX13_ahead_39 rfl (lv_at hl 3 rfl) ?_
          refine mr_iald hx hb hK hP 19 (k := 26) rfl rfl rfl (show vp_in x 80 from (iv_in h_7 (by decide))) dX13_ahead_40 ?_
          refine lv_topi (fun z_13 ez_13 => ?_)
          have hz_13 : iv 0 10 z_13 := iv_of ez_13 (MI_a hI 26 h_7 (by decide))
          refine lv_icmp_ne (tgt := 73) hx hb dX13_ahead_41 (by decide) (fun c_14 => ?_) (fun c_14 => ?_)
          · exact hj73 h_6 hx3_5 h_7 hsx2_5 hx3_5 (Or.inr (fun q9 => c_14 (by rw [ez_12, ez_13]; exact q9.2))) (by have := i32_0; have := i32_1; have := i32_2; have := i32_m1; have := (show iv 0 1200 (sg 20) from MI_s hI 20).1; have := (show iv 0 1200 (sg 20) from MI_s hI 20).2; have := (show iv 0 1201 (sg 21) from MI_s hI 21).1; have := (show iv 0 1201 (sg 21) from MI_s hI 21).2; have := (show iv 0 3 (sg 22) from MI_s hI 22).1; have := (show iv 0 3 (sg 22) from MI_s hI 22).2; have := (show iv 0 80 (sg 24) from MI_s hI 24).1; have := (show iv 0 80 (sg 24) from MI_s hI 24).2; have := (show iv 0 1201 (sg 25) from MI_s hI 25).1; have := (show iv 0 1201 (sg 25) from MI_s hI 25).2; have := (h_7).1; have := (h_7).2; have := (hsx2_5).1; have := (hsx2_5).2; have := (h_6).1; have := (h_6).2; have := (hx3_5).1; have := (hx3_5).2; have := (hz_8).1; have := (hz_8).2; have := (hz_9).1; have := (hz_9).2; have := (hz_12).1; have := (hz_12).2; have := (hz_13).1; have := (hz_13).2; omega) _ _ _ hP hD hS (lv_sub hl [0, 1, 2, 3, 4] rfl)
          · have d_15 : (z_12 : Int32).toInt = (z_13 : Int32).toInt := congrArg Int32.toInt c_14
            refine lv_iload_n hx hb dX13_ahead_44 rfl (lv_at hl 4 rfl) ?_
            refine lv_if_eq (tgt := 69) hx hb dX13_ahead_45 (by decide) (fun c_16 => ?_) (fun c_16 => ?_)
            · have h_17 : iv 0 0 f := iv_eq c_16 hsx2_5 (iv_k (by decide) : iv 0 0 0) (by decide)
              exact hj69 h_6 hx3_5 h_7 (iv_w h_17 (by decide)) hx3_5 (And.intro (by rw [← ez_8, ← ez_9]; exact c_10) (by rw [← ez_12, ← ez_13]; exact c_14)) (by have := i32_0; have := i32_1; have := i32_2; have := i32_m1; have := (show iv 0 1200 (sg 20) from MI_s hI 20).1; have := (show iv 0 1200 (sg 20) from MI_s hI 20).2; have := (show iv 0 1201 (sg 21) from MI_s hI 21).1; have := (show iv 0 1201 (sg 21) from MI_s hI 21).2; have := (show iv 0 3 (sg 22) from MI_s hI 22).1; have := (show iv 0 3 (sg 22) from MI_s hI 22).2; have := (show iv 0 80 (sg 24) from MI_s hI 24).1; have := (show iv 0 80 (sg 24) from MI_s hI 24).2; have := (show iv 0 1201 (sg 25) from MI_s hI 25).1; have := (show iv 0 1201 (sg 25) from MI_s hI 25).2; have := (h_7).1; have := (h_7).2; have := (h_17).1; have := (h_17).2; have := (h_6).1; have := (h_6).2; have := (hx3_5).1; have := (hx3_5).2; have := (hz_8).1; have := (hz_8).2; have := (hz_9).1; have := (hz_9).2; have := (hz_12).1; have := (hz_12).2; have := (hz_13).1; have := (hz_13).2; omega) _ _ _ hP hD hS (lv_sub hl [0, 1, 2, 3, 4] rfl)
            · have h_18 : iv 1 1 f := iv_neL c_16 hsx2_5 (by decide)
              refine lv_aload_n hx hb dX13_ahead_48 rfl (lv_at hl 2 rfl) ?_
              refine lv_iload hx hb dX13_ahead_49 (lv_at hl 0 rfl) ?_
              refine lv_ldc2 (own := RX13) (v := 1851878757) hx hb hown (htb _ kw_887) dX13_ahead_51 ?_
              refine mr_calll (rest := [.int x3_5]) ⟨hx, hb, hml, hown, htb⟩ (f_word l dC dI h0 ad cid sg gm lg x4_5 1851878757 hI (iv_w h_6 (by decide))) (cwV 2 htb (gd_V kw_923 kw_924 kw_925 kw_5 kw_1545) rfl rfl rfl (by decide +kernel) ⟨Nat.le_of_ble_eq_true rfl, Nat.le_of_ble_eq_true rfl⟩) rfl hl.1 rfl (Nat.le_of_ble_eq_true rfl) dX13_ahead_54 ⟨Nat.zero_le _, Nat.zero_le _⟩ hK hP hD hS hA (fun r_19 u_20 H locs hw hP hD hS => ?_)
              obtain ⟨fW_r_19, rfl⟩ := hw
              have hP : va_P (dC, dI) vwCl (mW h0 ad cid sg gm lg) H := hP
              have hD : va_D A (mW h0 ad cid sg gm lg) := hD
              refine lv_aload_n hx hb dX13_ahead_57 rfl (lv_at hl 2 rfl) ?_
              refine lv_iload_n hx hb dX13_ahead_58 rfl (lv_at hl 3 rfl) ?_
              refine lv_ldc2 (own := RX13) (v := 1851878757) hx hb hown (htb _ kw_887) dX13_ahead_59 ?_
              refine mr_calll (rest := [.long r_19, .int x3_5]) ⟨hx, hb, hml, hown, htb⟩ (f_word l dC dI h0 ad cid sg gm lg x 1851878757 hI (iv_w h_7 (by decide))) (cwV 2 htb (gd_V kw_923 kw_924 kw_925 kw_5 kw_1545) rfl rfl rfl (by decide +kernel) ⟨Nat.le_of_ble_eq_true rfl, Nat.le_of_ble_eq_true rfl⟩) rfl hl.1 rfl (Nat.le_of_ble_eq_true rfl) dX13_ahead_62 ⟨Nat.zero_le _, Nat.zero_le _⟩ hK hP hD hS hA (fun r_21 u_22 H locs hw hP hD hS => ?_)
              obtain ⟨fW_r_21, rfl⟩ := hw
              have hP : va_P (dC, dI) vwCl (mW h0 ad cid sg gm lg) H := hP
              have hD : va_D A (mW h0 ad cid sg gm lg) := hD
              refine W.lcmp hx hb dX13_ahead_65 ?_
              refine lv_topi (fun z_23 ez_23 => ?_)
              have hz_23 : iv (-1) 1 z_23 := iv_of ez_23 (iv_cmp _ _)
              refine lv_if_ne (tgt := 73) hx hb dX13_ahead_66 (by decide) (fun c_24 => ?_) (fun c_24 => ?_)
              · have d_25 : ¬ (z_23 : Int32).toInt = 0 := lv_neT c_24 rfl
                exact hj73 h_6 hx3_5 h_7 (iv_w h_18 (by decide)) hx3_5 (Or.inl (fun q9 => c_16 (Int32.toInt_inj.mp q9))) (by have := i32_0; have := i32_1; have := i32_2; have := i32_m1; have := (show iv 0 1200 (sg 20) from MI_s hI 20).1; have := (show iv 0 1200 (sg 20) from MI_s hI 20).2; have := (show iv 0 1201 (sg 21) from MI_s hI 21).1; have := (show iv 0 1201 (sg 21) from MI_s hI 21).2; have := (show iv 0 3 (sg 22) from MI_s hI 22).1; have := (show iv 0 3 (sg 22) from MI_s hI 22).2; have := (show iv 0 80 (sg 24) from MI_s hI 24).1; have := (show iv 0 80 (sg 24) from MI_s hI 24).2; have := (show iv 0 1201 (sg 25) from MI_s hI 25).1; have := (show iv 0 1201 (sg 25) from MI_s hI 25).2; have := (h_7).1; have := (h_7).2; have := (h_18).1; have := (h_18).2; have := (h_6).1; have := (h_6).2; have := (hx3_5).1; have := (hx3_5).2; have := (hz_8).1; have := (hz_8).2; have := (hz_9).1; have := (hz_9).2; have := (hz_12).1; have := (hz_12).2; have := (hz_13).1; have := (hz_13).2; have := (hz_23).1; have := (hz_23).2; omega) _ _ _ hP hD hS (lv_sub hl [0, 1, 2, 3, 4] rfl)
              · have h_26 : iv 0 0 z_23 := iv_eq c_24 hz_23 (iv_k (by decide) : iv 0 0 0) (by decide)
                exact hj69 h_6 hx3_5 h_7 (iv_w h_18 (by decide)) hx3_5 (And.intro (by rw [← ez_8, ← ez_9]; exact c_10) (by rw [← ez_12, ← ez_13]; exact c_14)) (by have := i32_0; have := i32_1; have := i32_2; have := i32_m1; have := (show iv 0 1200 (sg 20) from MI_s hI 20).1; have := (show iv 0 1200 (sg 20) from MI_s hI 20).2; have := (show iv 0 1201 (sg 21) from MI_s hI 21).1; have := (show iv 0 1201 (sg 21) from MI_s hI 21).2; have := (show iv 0 3 (sg 22) from MI_s hI 22).1; have := (show iv 0 3 (sg 22) from MI_s hI 22).2; have := (show iv 0 80 (sg 24) from MI_s hI 24).1; have := (show iv 0 80 (sg 24) from MI_s hI 24).2; have := (show iv 0 1201 (sg 25) from MI_s hI 25).1; have := (show iv 0 1201 (sg 25) from MI_s hI 25).2; have := (h_7).1; have := (h_7).2; have := (h_18).1; have := (h_18).2; have := (h_6).1; have := (h_6).2; have := (hx3_5).1; have := (hx3_5).2; have := (hz_8).1; have := (hz_8).2; have := (hz_9).1; have := (hz_9).2; have := (hz_12).1; have := (hz_12).2; have := (hz_13).1; have := (hz_13).2; have := (h_26).1; have := (h_26).2; omega) _ _ _ hP hD hS (lv_sub hl [0, 1, 2, 3, 4] rfl)
  refine lv_iconst (v := 0) hx hb dX13_ahead_0 (by decide) ?_
  refine lv_istore_n (lv' := [(3, .int 0), (0, .ref h0), (1, .int x), (2, .int f)]) hx hb dX13_ahead_1 rfl hl (by decide) rfl (fun ls hl => ?_)
  refine lv_iconst (v := 0) hx hb dX13_ahead_2 (by decide) ?_
  refine lv_istore (lv' := [(4, .int 0), (3, .int 0), (0, .ref h0), (1, .int x), (2, .int f)]) hx hb dX13_ahead_3 hl (by decide) rfl (fun ls hl => ?_)
  exact hj5 _ 0 0 rfl (iv_w (iv_k (by decide) : iv 0 0 0) (by decide)) (iv_w (iv_k (by decide) : iv 0 0 0) (by decide)) hvx hvf (Or.inr rfl) (by have := i32_0; have := i32_1; have := i32_2; have := i32_m1; have := (show iv 0 1200 (sg 20) from MI_s hI 20).1; have := (show iv 0 1200 (sg 20) from MI_s hI 20).2; have := (show iv 0 1201 (sg 21) from MI_s hI 21).1; have := (show iv 0 1201 (sg 21) from MI_s hI 21).2; have := (show iv 0 3 (sg 22) from MI_s hI 22).1; have := (show iv 0 3 (sg 22) from MI_s hI 22).2; have := (show iv 0 80 (sg 24) from MI_s hI 24).1; have := (show iv 0 80 (sg 24) from MI_s hI 24).2; have := (show iv 0 1201 (sg 25) from MI_s hI 25).1; have := (show iv 0 1201 (sg 25) from MI_s hI 25).2; have := (hvx).1; have := (hvx).2; have := (hvf).1; have := (hvf).2; omega) (by have := i32_0; have := i32_1; have := i32_2; have := i32_m1; have := (show iv 0 1200 (sg 20) from MI_s hI 20).1; have := (show iv 0 1200 (sg 20) from MI_s hI 20).2; have := (show iv 0 1201 (sg 21) from MI_s hI 21).1; have := (show iv 0 1201 (sg 21) from MI_s hI 21).2; have := (show iv 0 3 (sg 22) from MI_s hI 22).1; have := (show iv 0 3 (sg 22) from MI_s hI 22).2; have := (show iv 0 80 (sg 24) from MI_s hI 24).1; have := (show iv 0 80 (sg 24) from MI_s hI 24).2; have := (show iv 0 1201 (sg 25) from MI_s hI 25).1; have := (show iv 0 1201 (sg 25) from MI_s hI 25).2; have := (hvx).1; have := (hvx).2; have := (hvf).1; have := (hvf).2; omega) _ _ _ hP hD hS (lv_sub hl [0, 1, 2, 3, 4] rfl)

set_option maxHeartbeats 4000000 in
set_option maxRecDepth 100000 in
theorem a_typeIn (l : Launch) (dC : Nat → ClassId) (dI : Nat → Nat → Nat) (h0 : Nat) (ad : Nat → Nat) (cid : Nat → ClassId) (sg : Nat → Int32) (gm : Nat → Nat → Int32) (lg : Nat → Nat → Int64) (x : Int32) (hI : MI sg gm) (hvx : iv 0 79 x) : MMi l dC dI yX13_typeIn wm_X13_typeIn ({ frames := 2, cells := 0, slots := 0, locals := 51 }) h0 ad cid [.int x] sg gm lg (fun r v => (iv (-1) 15 r) ∧ v = (sg, gm, lg)) := by
  intro sz
  refine Met.ofW (cc := cX13_typeIn) (maxL := 5) (ret := (some .int)) (by decide) rfl ?_
  intro p e s m args below meth c s₁ B hml hv
  obtain ⟨rfl, hsz, hP, hK, hD0⟩ := hv
  have hx := B.exec
  have hb := B.bytes
  have hr := B.returns
  have hts := atoms_spec (ws := wm_X13_typeIn) B.pre
  have htb := fun (w : Cond) (h : w ∈ tb) => hts w (List.mem_cons_of_mem _ h)
  have hown : s.vm.findClass RX13 = some m.cls := findClass_of_methodNamed B.named
  have hlocks := B.notSynchronized
  subst hsz
  have hD := hD0.self (sz := s.heap.size)
  generalize hAe : va_A (mW h0 ad cid sg gm lg) s.heap.size = A at hD ⊢
  have hA : ∀ q : Nat, s.heap.size ≤ q → A q := fun q h => by rw [← hAe]; exact Or.inr h
  have hS : va_S A s.heap s.heap [] := va_S.rf
  have hl := lv_entry ([.ref h0, .int x]) (n := 5) (Nat.le_of_ble_eq_true rfl)
  rw [lg_entry_eq]
  generalize (lg_sl ([.ref h0, .int x]) ++ List.replicate (5 - (lg_sl ([.ref h0, .int x])).length) Slot.unset).toArray = ls at hl ⊢
  have hl : lv_has ls 5 [(0, .ref h0), (1, .int x)] := hl
  have hj71 : ∀ (x4_71 : Int32) (x2_71 : Int64) (y0_71 : Int32) (_ : iv 5 6 x4_71) (_ : iv 0 79 x) (_ : iv (-1) 15 y0_71) (H : Heap) (locs : List Loc) (ls : Array Slot), va_P (dC, dI) vwCl (mW h0 ad cid sg gm lg) H → va_D A (mW h0 ad cid sg gm lg) → va_S A s.heap H locs → lv_has ls 5 [(4, .int x4_71), (2, .long x2_71), (0, .ref h0), (1, .int x)] → W p l e (headSpec wm_X13_typeIn ({ frames := 2, cells := 0, slots := 0, locals := 51 })).room s m ([.ref h0, .int x] : List Value).toArray below meth c H locs 0 0 (MQ below (va_Qi (fun r v => (iv (-1) 15 r) ∧ v = (sg, gm, lg)) (MB dC dI h0 ad cid A) A) ([.ref h0, .int x] : List Value).toArray s 0 0 A) (F0 m 71 ls [.int y0_71]) := by
    intro x4_71 x2_71 y0_71 hx4_71 hsx1_71 hy0_71 H locs ls hP hD hS hl
    exact W.iret (v := y0_71) hx hb hr (fun t ht hW => ⟨⟨y0_71, (sg, gm, lg), rfl, ⟨hy0_71, rfl⟩, by rw [ht]; exact hP, va_K.moved hW.alike hK, hD⟩, hS.F ht⟩) hS.2.2 dX13_typeIn_71
  have hj70 : ∀ (x4_70 : Int32) (x2_70 : Int64) (_ : iv 5 6 x4_70) (_ : iv 0 79 x) (H : Heap) (locs : List Loc) (ls : Array Slot), va_P (dC, dI) vwCl (mW h0 ad cid sg gm lg) H → va_D A (mW h0 ad cid sg gm lg) → va_S A s.heap H locs → lv_has ls 5 [(4, .int x4_70), (2, .long x2_70), (0, .ref h0), (1, .int x)] → W p l e (headSpec wm_X13_typeIn ({ frames := 2, cells := 0, slots := 0, locals := 51 })).room s m ([.ref h0, .int x] : List Value).toArray below meth c H locs 0 0 (MQ below (va_Qi (fun r v => (iv (-1) 15 r) ∧ v = (sg, gm, lg)) (MB dC dI h0 ad cid A) A) ([.ref h0, .int x] : List Value).toArray s 0 0 A) (F0 m 70 ls []) := by
    intro x4_70 x2_70 hx4_70 hsx1_70 H locs ls hP hD hS hl
    refine lv_iconst (v := (-1)) hx hb dX13_typeIn_70 (by decide) ?_
    exact hj71 x4_70 x2_70 (-1) hx4_70 hsx1_70 (iv_w (iv_k (by decide) : iv (-1) (-1) (-1)) (by decide)) _ _ _ hP hD hS (lv_sub hl [0, 1, 2, 3] rfl)
  have hj12 : ∀ (n : Nat) (x4_12 : Int32) (x2_12 : Int64) (_ : (6 - x4_12.toInt).toNat = n) (_ : iv 0 6 x4_12) (_ : iv 0 79 x) (H : Heap) (locs : List Loc) (ls : Array Slot), va_P (dC, dI) vwCl (mW h0 ad cid sg gm lg) H → va_D A (mW h0 ad cid sg gm lg) → va_S A s.heap H locs → lv_has ls 5 [(4, .int x4_12), (2, .long x2_12), (0, .ref h0), (1, .int x)] → W p l e (headSpec wm_X13_typeIn ({ frames := 2, cells := 0, slots := 0, locals := 51 })).room s m ([.ref h0, .int x] : List Value).toArray below meth c H locs 0 0 (MQ below (va_Qi (fun r v => (iv (-1) 15 r) ∧ v = (sg, gm, lg)) (MB dC dI h0 ad cid A) A) ([.ref h0, .int x] : List Value).toArray s 0 0 A) (F0 m 12 ls []) := by
    intro n
    induction n using Nat.strongRecOn with
    | ind n ih12 =>
      intro x4_12 x2_12 hn12 hx4_12 hsx1_12 H locs ls hP hD hS hl
      refine lv_iload hx hb dX13_typeIn_12 (lv_at hl 0 rfl) ?_
      refine lv_iconst (v := 5) hx hb dX13_typeIn_14 (by decide) ?_
      refine lv_icmp_ge (tgt := 41) hx hb dX13_typeIn_15 (by decide) (fun c_1 => ?_) (fun c_1 => ?_)
      · have h_2 : iv 5 6 x4_12 := iv_leR c_1 (iv_k (by decide) : iv 5 5 5) hx4_12 (by decide)
        refine lv_aload_n hx hb dX13_typeIn_41 rfl (lv_at hl 2 rfl) ?_
        refine lv_iload_n hx hb dX13_typeIn_42 rfl (lv_at hl 3 rfl) ?_
        refine lv_ldc2 (own := RX13) (v := 1954115685) hx hb hown (htb _ kw_892) dX13_typeIn_43 ?_
        refine mr_calli (rest := []) ⟨hx, hb, hml, hown, htb⟩ (f_has l dC dI h0 ad cid sg gm lg x 1954115685 hI hsx1_12) (cwV 2 htb (gd_V kw_916 kw_917 kw_918 kw_5 kw_1543) rfl rfl rfl (by decide +kernel) ⟨Nat.le_of_ble_eq_true rfl, Nat.le_of_ble_eq_true rfl⟩) rfl hl.1 rfl (Nat.le_of_ble_eq_true rfl) dX13_typeIn_46 ⟨Nat.zero_le _, Nat.zero_le _⟩ hK hP hD hS hA (fun r_3 u_4 H locs hw hP hD hS => ?_)
        obtain ⟨hr_3, fH_r_3, rfl⟩ := hw
        have hP : va_P (dC, dI) vwCl (mW h0 ad cid sg gm lg) H := hP
        have hD : va_D A (mW h0 ad cid sg gm lg) := hD
        refine lv_if_eq (tgt := 70) hx hb dX13_typeIn_49 (by decide) (fun c_5 => ?_) (fun c_5 => ?_)
        · have h_6 : iv 0 0 r_3 := iv_eq c_5 hr_3 (iv_k (by decide) : iv 0 0 0) (by decide)
          exact hj70 x4_12 x2_12 h_2 hsx1_12 _ _ _ hP hD hS (lv_sub hl [0, 1, 2, 3] rfl)
        · have h_7 : iv 1 1 r_3 := iv_neL c_5 hr_3 (by decide)
          refine lv_lload_n hx hb dX13_typeIn_52 rfl (lv_at hl 1 rfl) ?_
          have hPc := hP.sub (ws' := []) [] rfl
          have hDc := hD.sub (ws' := []) [] (by decide) rfl
          have hKc := hK.sub (tys' := []) [] rfl
          have hFc := va_free (wc := []) hD hS hA [] rfl
          refine va_calli (va_runS (As := [.long x2_12]) (rest := []) ⟨hx, hb, hml, hown, htb⟩ (a_classIn l dC dI H.size x2_12) (va_cwS 1 htb (gd_S kw_927 kw_928 kw_5 kw_1546) rfl rfl rfl (by decide +kernel) ⟨Nat.le_of_ble_eq_true rfl, Nat.le_of_ble_eq_true rfl⟩) ⟨fun a U g mk q => by obtain ⟨q0, q1, qP, qK, qD⟩ := q; exact ⟨q0, q1, qP, va_K.moved (u := U) (U := U.calling g mk a) (Vm.Alike.refl U.vm) qK, qD⟩, fun U hU hW => ⟨rfl, by rw [hU], by rw [hU]; exact hPc, va_K.moved hW.alike hKc, hDc.weaken (fun _ _ _ _ => trivial)⟩⟩ rfl rfl hl.1 rfl (lv_room (Nat.le_of_ble_eq_true rfl)) dX13_typeIn_53 ⟨Nat.zero_le _, Nat.zero_le _⟩) hS (fun q _ h => hFc q h) hFc (fun r_8 u9 t H1 locs ht hvm hw hB hz1 hk1 hS => ?_)
          have hP := ms_kept hP hz1 hk1
          generalize H1 = H at hP hS ⊢
          have hr_8 := hw
          refine lv_iconst (v := (-1)) hx hb dX13_typeIn_56 (by decide) ?_
          refine lv_icmp_eq (tgt := 70) hx hb dX13_typeIn_57 (by decide) (fun c_9 => ?_) (fun c_9 => ?_)
          · have h_10 : iv (-1) (-1) r_8 := iv_eq c_9 hr_8 (iv_k (by decide) : iv (-1) (-1) (-1)) (by decide)
            exact hj70 x4_12 x2_12 h_2 hsx1_12 _ _ _ hP hD hS (lv_sub hl [0, 1, 2, 3] rfl)
          · have h_11 : iv 0 7 r_8 := iv_neL c_9 hr_8 (by decide)
            refine lv_bipush (v := 8) hx hb dX13_typeIn_60 (by decide) ?_
            refine lv_lload_n hx hb dX13_typeIn_62 rfl (lv_at hl 1 rfl) ?_
            have hPc := hP.sub (ws' := []) [] rfl
            have hDc := hD.sub (ws' := []) [] (by decide) rfl
            have hKc := hK.sub (tys' := []) [] rfl
            have hFc := va_free (wc := []) hD hS hA [] rfl
            refine va_calli (va_runS (As := [.long x2_12]) (rest := [.int 8]) ⟨hx, hb, hml, hown, htb⟩ (a_classIn l dC dI H.size x2_12) (va_cwS 1 htb (gd_S kw_927 kw_928 kw_5 kw_1546) rfl rfl rfl (by decide +kernel) ⟨Nat.le_of_ble_eq_true rfl, Nat.le_of_ble_eq_true rfl⟩) ⟨fun a U g mk q => by obtain ⟨q0, q1, qP, qK, qD⟩ := q; exact ⟨q0, q1, qP, va_K.moved (u := U) (U := U.calling g mk a) (Vm.Alike.refl U.vm) qK, qD⟩, fun U hU hW => ⟨rfl, by rw [hU], by rw [hU]; exact hPc, va_K.moved hW.alike hKc, hDc.weaken (fun _ _ _ _ => trivial)⟩⟩ rfl rfl hl.1 rfl (lv_room (Nat.le_of_ble_eq_true rfl)) dX13_typeIn_63 ⟨Nat.zero_le _, Nat.zero_le _⟩) hS (fun q _ h => hFc q h) hFc (fun r_12 u9 t H1 locs ht hvm hw hB hz1 hk1 hS => ?_)
            have hP := ms_kept hP hz1 hk1
            generalize H1 = H at hP hS ⊢
            have hr_12 := hw
            refine lv_iadd hx hb dX13_typeIn_66 ?_
            refine lv_topi (fun z_13 ez_13 => ?_)
            have hz_13 : iv 7 15 z_13 := iv_of ez_13 (iv_add (iv_k (by decide) : iv 8 8 8) hr_12 (by decide))
            have tz_13 : z_13.toInt = 8 + (r_12 : Int32).toInt := by rw [ez_13]; exact iv_addE (iv_k (by decide) : iv 8 8 8) hr_12 (by decide)
            refine lv_goto (tgt := 71) hx hb dX13_typeIn_67 (by decide) ?_
            exact hj71 x4_12 x2_12 z_13 h_2 hsx1_12 (iv_w hz_13 (by decide)) _ _ _ hP hD hS (lv_sub hl [0, 1, 2, 3] rfl)
      · have h_14 : iv 0 4 x4_12 := iv_ltL (i32_lt c_1) hx4_12 (iv_k (by decide) : iv 5 5 5) (by decide)
        refine lv_lload_n hx hb dX13_typeIn_18 rfl (lv_at hl 1 rfl) ?_
        refine lv_aload_n hx hb dX13_typeIn_19 rfl (lv_at hl 2 rfl) ?_
        refine mr_get (v := .ref (ad 1)) hx hb htb inX13 hown hK hP 1 (by decide) (htb _ kw_156) rfl dX13_typeIn_20 ?_
        refine lv_iconst (v := 4) hx hb dX13_typeIn_23 (by decide) ?_
        refine lv_iload hx hb dX13_typeIn_24 (lv_at hl 0 rfl) ?_
        refine lv_iadd hx hb dX13_typeIn_26 ?_
        refine lv_topi (fun z_15 ez_15 => ?_)
        have hz_15 : iv 4 8 z_15 := iv_of ez_15 (iv_add (iv_k (by decide) : iv 4 4 4) h_14 (by decide))
        have tz_15 : z_15.toInt = 4 + (x4_12 : Int32).toInt := by rw [ez_15]; exact iv_addE (iv_k (by decide) : iv 4 4 4) h_14 (by decide)
        refine mr_lald hx hb hK hP 1 (k := 1) rfl rfl rfl (show vp_in z_15 11 from (iv_in hz_15 (by decide))) dX13_typeIn_27 ?_
        refine lv_topl (fun z_16 ez_16 => ?_)
        refine W.lcmp hx hb dX13_typeIn_28 ?_
        refine lv_topi (fun z_17 ez_17 => ?_)
        have hz_17 : iv (-1) 1 z_17 := iv_of ez_17 (iv_cmp _ _)
        refine lv_if_ne (tgt := 35) hx hb dX13_typeIn_29 (by decide) (fun c_18 => ?_) (fun c_18 => ?_)
        · have d_19 : ¬ (z_17 : Int32).toInt = 0 := lv_neT c_18 rfl
          obtain ⟨z_20, ez_20⟩ : ∃ z : Int32, z = x4_12 + 1 := ⟨_, rfl⟩
          have hz_20 : iv 1 5 z_20 := iv_of ez_20 (iv_add h_14 (iv_k (by decide) : iv 1 1 1) (by decide))
          have tz_20 : z_20.toInt = x4_12.toInt + 1 := by rw [ez_20]; exact iv_addE h_14 (iv_k (by decide) : iv 1 1 1) (by decide)
          refine lv_iinc (v := z_20) (lv' := [(4, .int z_20), (2, .long x2_12), (0, .ref h0), (1, .int x)]) hx hb dX13_typeIn_35 hl (k := 0) rfl ez_20.symm (by decide) rfl (fun ls hl => ?_)
          refine lv_goto (tgt := 12) hx hb dX13_typeIn_38 (by decide) ?_
          exact ih12 _ (by rw [← hn12]; exact (iv_meas tz_20 h_14 (by decide))) z_20 x2_12 rfl (iv_w hz_20 (by decide)) hsx1_12 _ _ _ hP hD hS (lv_sub hl [0, 1, 2, 3] rfl)
        · have h_21 : iv 0 0 z_17 := iv_eq c_18 hz_17 (iv_k (by decide) : iv 0 0 0) (by decide)
          refine lv_iload hx hb dX13_typeIn_32 (lv_at hl 0 rfl) ?_
          exact W.iret (v := x4_12) hx hb hr (fun t ht hW => ⟨⟨x4_12, (sg, gm, lg), rfl, ⟨(iv_w h_14 (by decide)), rfl⟩, by rw [ht]; exact hP, va_K.moved hW.alike hK, hD⟩, hS.F ht⟩) hS.2.2 dX13_typeIn_34
  refine lv_aload_n hx hb dX13_typeIn_0 rfl (lv_at hl 0 rfl) ?_
  refine lv_iload_n hx hb dX13_typeIn_1 rfl (lv_at hl 1 rfl) ?_
  refine lv_ldc2 (own := RX13) (v := 1954115685) hx hb hown (htb _ kw_892) dX13_typeIn_2 ?_
  refine mr_calll (rest := []) ⟨hx, hb, hml, hown, htb⟩ (f_word l dC dI h0 ad cid sg gm lg x 1954115685 hI hvx) (cwV 2 htb (gd_V kw_923 kw_924 kw_925 kw_5 kw_1545) rfl rfl rfl (by decide +kernel) ⟨Nat.le_of_ble_eq_true rfl, Nat.le_of_ble_eq_true rfl⟩) rfl hl.1 rfl (Nat.le_of_ble_eq_true rfl) dX13_typeIn_5 ⟨Nat.zero_le _, Nat.zero_le _⟩ hK hP hD hS hA (fun r_22 u_23 H locs hw hP hD hS => ?_)
  obtain ⟨fW_r_22, rfl⟩ := hw
  have hP : va_P (dC, dI) vwCl (mW h0 ad cid sg gm lg) H := hP
  have hD : va_D A (mW h0 ad cid sg gm lg) := hD
  refine lv_lstore_n (lv' := [(2, .long r_22), (0, .ref h0), (1, .int x)]) hx hb dX13_typeIn_8 rfl hl (by decide) rfl (fun ls hl => ?_)
  refine lv_iconst (v := 0) hx hb dX13_typeIn_9 (by decide) ?_
  refine lv_istore (lv' := [(4, .int 0), (2, .long r_22), (0, .ref h0), (1, .int x)]) hx hb dX13_typeIn_10 hl (by decide) rfl (fun ls hl => ?_)
  exact hj12 _ 0 r_22 rfl (iv_w (iv_k (by decide) : iv 0 0 0) (by decide)) hvx _ _ _ hP hD hS (lv_sub hl [0, 1, 2, 3] rfl)

set_option maxHeartbeats 4000000 in
set_option maxRecDepth 100000 in
theorem a_isGoodBean (l : Launch) (dC : Nat → ClassId) (dI : Nat → Nat → Nat) (h0 : Nat) (ad : Nat → Nat) (cid : Nat → ClassId) (sg : Nat → Int32) (gm : Nat → Nat → Int32) (lg : Nat → Nat → Int64) (x : Int32) (hI : MI sg gm) (hvx : iv 0 79 x) (hab : 0 ≤ (gm 28 x.toNatClampNeg).toInt) : MMi l dC dI yX13_isGoodBean wm_X13_isGoodBean ({ frames := 3, cells := 0, slots := 0, locals := 76 }) h0 ad cid [.int x] sg gm lg (fun r v => (iv 0 1 r) ∧ v = (sg, gm, lg)) := by
  intro sz
  refine Met.ofW (cc := cX13_isGoodBean) (maxL := 8) (ret := (some .boolean)) (by decide) rfl ?_
  intro p e s m args below meth c s₁ B hml hv
  obtain ⟨rfl, hsz, hP, hK, hD0⟩ := hv
  have hx := B.exec
  have hb := B.bytes
  have hr := B.returns
  have hts := atoms_spec (ws := wm_X13_isGoodBean) B.pre
  have htb := fun (w : Cond) (h : w ∈ tb) => hts w (List.mem_cons_of_mem _ h)
  have hown : s.vm.findClass RX13 = some m.cls := findClass_of_methodNamed B.named
  have hlocks := B.notSynchronized
  subst hsz
  have hD := hD0.self (sz := s.heap.size)
  generalize hAe : va_A (mW h0 ad cid sg gm lg) s.heap.size = A at hD ⊢
  have hA : ∀ q : Nat, s.heap.size ≤ q → A q := fun q h => by rw [← hAe]; exact Or.inr h
  have hS : va_S A s.heap s.heap [] := va_S.rf
  have hl := lv_entry ([.ref h0, .int x]) (n := 8) (Nat.le_of_ble_eq_true rfl)
  rw [lg_entry_eq]
  generalize (lg_sl ([.ref h0, .int x]) ++ List.replicate (8 - (lg_sl ([.ref h0, .int x])).length) Slot.unset).toArray = ls at hl ⊢
  have hl : lv_has ls 8 [(0, .ref h0), (1, .int x)] := hl
  have hj424 : ∀ (x7_424 : Int32) (x6_424 : Int32) (x5_424 : Int32) (x4_424 : Int32) (x3_424 : Int32) (x2_424 : Int32) (y0_424 : Int32) (_ : iv 0 1 x7_424) (_ : iv 0 1 x6_424) (_ : iv 0 1 x5_424) (_ : iv 0 1 x4_424) (_ : iv 0 1 x3_424) (_ : iv 0 1 x2_424) (_ : iv 0 79 x) (_ : iv 0 1 y0_424) (H : Heap) (locs : List Loc) (ls : Array Slot), va_P (dC, dI) vwCl (mW h0 ad cid sg gm lg) H → va_D A (mW h0 ad cid sg gm lg) → va_S A s.heap H locs → lv_has ls 8 [(7, .int x7_424), (6, .int x6_424), (5, .int x5_424), (4, .int x4_424), (3, .int x3_424), (2, .int x2_424), (0, .ref h0), (1, .int x)] → W p l e (headSpec wm_X13_isGoodBean ({ frames := 3, cells := 0, slots := 0, locals := 76 })).room s m ([.ref h0, .int x] : List Value).toArray below meth c H locs 0 0 (MQ below (va_Qi (fun r v => (iv 0 1 r) ∧ v = (sg, gm, lg)) (MB dC dI h0 ad cid A) A) ([.ref h0, .int x] : List Value).toArray s 0 0 A) (F0 m 424 ls [.int y0_424]) := by
    intro x7_424 x6_424 x5_424 x4_424 x3_424 x2_424 y0_424 hx7_424 hx6_424 hx5_424 hx4_424 hx3_424 hx2_424 hsx1_424 hy0_424 H locs ls hP hD hS hl
    exact W.zret (v := y0_424) hx hb hr (iv_nb hy0_424) (fun t ht hW => ⟨⟨y0_424, (sg, gm, lg), rfl, ⟨hy0_424, rfl⟩, by rw [ht]; exact hP, va_K.moved hW.alike hK, hD⟩, hS.F ht⟩) hS.2.2 dX13_isGoodBean_424
  have hj423 : ∀ (x7_423 : Int32) (x6_423 : Int32) (x5_423 : Int32) (x4_423 : Int32) (x3_423 : Int32) (x2_423 : Int32) (_ : iv 0 1 x7_423) (_ : iv 0 1 x6_423) (_ : iv 0 1 x5_423) (_ : iv 0 1 x4_423) (_ : iv 0 1 x3_423) (_ : iv 0 1 x2_423) (_ : iv 0 79 x) (H : Heap) (locs : List Loc) (ls : Array Slot), va_P (dC, dI) vwCl (mW h0 ad cid sg gm lg) H → va_D A (mW h0 ad cid sg gm lg) → va_S A s.heap H locs → lv_has ls 8 [(7, .int x7_423), (6, .int x6_423), (5, .int x5_423), (4, .int x4_423), (3, .int x3_423), (2, .int x2_423), (0, .ref h0), (1, .int x)] → W p l e (headSpec wm_X13_isGoodBean ({ frames := 3, cells := 0, slots := 0, locals := 76 })).room s m ([.ref h0, .int x] : List Value).toArray below meth c H locs 0 0 (MQ below (va_Qi (fun r v => (iv 0 1 r) ∧ v = (sg, gm, lg)) (MB dC dI h0 ad cid A) A) ([.ref h0, .int x] : List Value).toArray s 0 0 A) (F0 m 423 ls []) := by
    intro x7_423 x6_423 x5_423 x4_423 x3_423 x2_423 hx7_423 hx6_423 hx5_423 hx4_423 hx3_423 hx2_423 hsx1_423 H locs ls hP hD hS hl
    refine lv_iconst (v := 0) hx hb dX13_isGoodBean_423 (by decide) ?_
    exact hj424 x7_423 x6_423 x5_423 x4_423 x3_423 x2_423 0 hx7_423 hx6_423 hx5_423 hx4_423 hx3_423 hx2_423 hsx1_423 (iv_w (iv_k (by decide) : iv 0 0 0) (by decide)) _ _ _ hP hD hS (lv_sub hl [0, 1, 2, 3, 4, 5, 6, 7] rfl)
  have hj419 : ∀ (x7_419 : Int32) (x6_419 : Int32) (x5_419 : Int32) (x4_419 : Int32) (x3_419 : Int32) (x2_419 : Int32) (_ : iv 1 1 x7_419) (_ : iv 1 1 x6_419) (_ : iv 1 1 x5_419) (_ : iv 1 1 x4_419) (_ : iv 1 1 x3_419) (_ : iv 0 1 x2_419) (_ : iv 0 79 x) (H : Heap) (locs : List Loc) (ls : Array Slot), va_P (dC, dI) vwCl (mW h0 ad cid sg gm lg) H → va_D A (mW h0 ad cid sg gm lg) → va_S A s.heap H locs → lv_has ls 8 [(7, .int x7_419), (6, .int x6_419), (5, .int x5_419), (4, .int x4_419), (3, .int x3_419), (2, .int x2_419), (0, .ref h0), (1, .int x)] → W p l e (headSpec wm_X13_isGoodBean ({ frames := 3, cells := 0, slots := 0, locals := 76 })).room s m ([.ref h0, .int x] : List Value).toArray below meth c H locs 0 0 (MQ below (va_Qi (fun r v => (iv 0 1 r) ∧ v = (sg, gm, lg)) (MB dC dI h0 ad cid A) A) ([.ref h0, .int x] : List Value).toArray s 0 0 A) (F0 m 419 ls []) := by
    intro x7_419 x6_419 x5_419 x4_419 x3_419 x2_419 hx7_419 hx6_419 hx5_419 hx4_419 hx3_419 hx2_419 hsx1_419 H locs ls hP hD hS hl
    refine lv_iconst (v := 1) hx hb dX13_isGoodBean_419 (by decide) ?_
    refine lv_goto (tgt := 424) hx hb dX13_isGoodBean_420 (by decide) ?_
    exact hj424 x7_419 x6_419 x5_419 x4_419 x3_419 x2_419 1 (iv_w hx7_419 (by decide)) (iv_w hx6_419 (by decide)) (iv_w hx5_419 (by decide)) (iv_w hx4_419 (by decide)) (iv_w hx3_419 (by decide)) hx2_419 hsx1_419 (iv_w (iv_k (by decide) : iv 1 1 1) (by decide)) _ _ _ hP hD hS (lv_sub hl [0, 1, 2, 3, 4, 5, 6, 7] rfl)
  have hj371 : ∀ (x6_371 : Int32) (x5_371 : Int32) (x4_371 : Int32) (x3_371 : Int32) (x2_371 : Int32) (y0_371 : Int32) (_ : iv 0 1 x6_371) (_ : iv 0 1 x5_371) (_ : iv 0 1 x4_371) (_ : iv 0 1 x3_371) (_ : iv 0 1 x2_371) (_ : iv 0 79 x) (_ : iv 0 1 y0_371) (H : Heap) (locs : List Loc) (ls : Array Slot), va_P (dC, dI) vwCl (mW h0 ad cid sg gm lg) H → va_D A (mW h0 ad cid sg gm lg) → va_S A s.heap H locs → lv_has ls 8 [(6, .int x6_371), (5, .int x5_371), (4, .int x4_371), (3, .int x3_371), (2, .int x2_371), (0, .ref h0), (1, .int x)] → W p l e (headSpec wm_X13_isGoodBean ({ frames := 3, cells := 0, slots := 0, locals := 76 })).room s m ([.ref h0, .int x] : List Value).toArray below meth c H locs 0 0 (MQ below (va_Qi (fun r v => (iv 0 1 r) ∧ v = (sg, gm, lg)) (MB dC dI h0 ad cid A) A) ([.ref h0, .int x] : List Value).toArray s 0 0 A) (F0 m 371 ls [.int y0_371]) := by
    intro x6_371 x5_371 x4_371 x3_371 x2_371 y0_371 hx6_371 hx5_371 hx4_371 hx3_371 hx2_371 hsx1_371 hy0_371 H locs ls hP hD hS hl
    refine lv_istore (lv' := [(7, .int y0_371), (6, .int x6_371), (5, .int x5_371), (4, .int x4_371), (3, .int x3_371), (2, .int x2_371), (0, .ref h0), (1, .int x)]) hx hb dX13_isGoodBean_371 hl (by decide) rfl (fun ls hl => ?_)
    refine lv_iload_n hx hb dX13_isGoodBean_373 rfl (lv_at hl 4 rfl) ?_
    refine lv_if_eq (tgt := 423) hx hb dX13_isGoodBean_374 (by decide) (fun c_1 => ?_) (fun c_1 => ?_)
    · have h_2 : iv 0 0 x3_371 := iv_eq c_1 hx3_371 (iv_k (by decide) : iv 0 0 0) (by decide)
      exact hj423 y0_371 x6_371 x5_371 x4_371 x3_371 x2_371 hy0_371 hx6_371 hx5_371 hx4_371 (iv_w h_2 (by decide)) hx2_371 hsx1_371 _ _ _ hP hD hS (lv_sub hl [0, 1, 2, 3, 4, 5, 6, 7] rfl)
    · have h_3 : iv 1 1 x3_371 := iv_neL c_1 hx3_371 (by decide)
      refine lv_iload hx hb dX13_isGoodBean_377 (lv_at hl 3 rfl) ?_
      refine lv_if_eq (tgt := 423) hx hb dX13_isGoodBean_379 (by decide) (fun c_4 => ?_) (fun c_4 => ?_)
      · have h_5 : iv 0 0 x4_371 := iv_eq c_4 hx4_371 (iv_k (by decide) : iv 0 0 0) (by decide)
        exact hj423 y0_371 x6_371 x5_371 x4_371 x3_371 x2_371 hy0_371 hx6_371 hx5_371 (iv_w h_5 (by decide)) (iv_w h_3 (by decide)) hx2_371 hsx1_371 _ _ _ hP hD hS (lv_sub hl [0, 1, 2, 3, 4, 5, 6, 7] rfl)
      · have h_6 : iv 1 1 x4_371 := iv_neL c_4 hx4_371 (by decide)
        refine lv_iload hx hb dX13_isGoodBean_382 (lv_at hl 2 rfl) ?_
        refine lv_if_eq (tgt := 423) hx hb dX13_isGoodBean_384 (by decide) (fun c_7 => ?_) (fun c_7 => ?_)
        · have h_8 : iv 0 0 x5_371 := iv_eq c_7 hx5_371 (iv_k (by decide) : iv 0 0 0) (by decide)
          exact hj423 y0_371 x6_371 x5_371 x4_371 x3_371 x2_371 hy0_371 hx6_371 (iv_w h_8 (by decide)) (iv_w h_6 (by decide)) (iv_w h_3 (by decide)) hx2_371 hsx1_371 _ _ _ hP hD hS (lv_sub hl [0, 1, 2, 3, 4, 5, 6, 7] rfl)
        · have h_9 : iv 1 1 x5_371 := iv_neL c_7 hx5_371 (by decide)
          refine lv_iload hx hb dX13_isGoodBean_387 (lv_at hl 1 rfl) ?_
          refine lv_if_eq (tgt := 423) hx hb dX13_isGoodBean_389 (by decide) (fun c_10 => ?_) (fun c_10 => ?_)
          · have h_11 : iv 0 0 x6_371 := iv_eq c_10 hx6_371 (iv_k (by decide) : iv 0 0 0) (by decide)
            exact hj423 y0_371 x6_371 x5_371 x4_371 x3_371 x2_371 hy0_371 (iv_w h_11 (by decide)) (iv_w h_9 (by decide)) (iv_w h_6 (by decide)) (iv_w h_3 (by decide)) hx2_371 hsx1_371 _ _ _ hP hD hS (lv_sub hl [0, 1, 2, 3, 4, 5, 6, 7] rfl)
          · have h_12 : iv 1 1 x6_371 := iv_neL c_10 hx6_371 (by decide)
            refine lv_iload hx hb dX13_isGoodBean_392 (lv_at hl 0 rfl) ?_
            refine lv_if_eq (tgt := 423) hx hb dX13_isGoodBean_394 (by decide) (fun c_13 => ?_) (fun c_13 => ?_)
            · have h_14 : iv 0 0 y0_371 := iv_eq c_13 hy0_371 (iv_k (by decide) : iv 0 0 0) (by decide)
              exact hj423 y0_371 x6_371 x5_371 x4_371 x3_371 x2_371 (iv_w h_14 (by decide)) (iv_w h_12 (by decide)) (iv_w h_9 (by decide)) (iv_w h_6 (by decide)) (iv_w h_3 (by decide)) hx2_371 hsx1_371 _ _ _ hP hD hS (lv_sub hl [0, 1, 2, 3, 4, 5, 6, 7] rfl)
            · have h_15 : iv 1 1 y0_371 := iv_neL c_13 hy0_371 (by decide)
              refine lv_aload_n hx hb dX13_isGoodBean_397 rfl (lv_at hl 6 rfl) ?_
              refine lv_iload_n hx hb dX13_isGoodBean_398 rfl (lv_at hl 7 rfl) ?_
              refine lv_ldc2 (own := RX13) (v := 28817527407604345) hx hb hown (htb _ kw_905) dX13_isGoodBean_399 ?_
              refine mr_calli (rest := []) ⟨hx, hb, hml, hown, htb⟩ (f_has l dC dI h0 ad cid sg gm lg x 28817527407604345 hI hsx1_371) (cwV 2 htb (gd_V kw_916 kw_917 kw_918 kw_5 kw_1543) rfl rfl rfl (by decide +kernel) ⟨Nat.le_of_ble_eq_true rfl, Nat.le_of_ble_eq_true rfl⟩) rfl hl.1 rfl (Nat.le_of_ble_eq_true rfl) dX13_isGoodBean_402 ⟨Nat.zero_le _, Nat.zero_le _⟩ hK hP hD hS hA (fun r_16 u_17 H locs hw hP hD hS => ?_)
              obtain ⟨hr_16, fH_r_16, rfl⟩ := hw
              have hP : va_P (dC, dI) vwCl (mW h0 ad cid sg gm lg) H := hP
              have hD : va_D A (mW h0 ad cid sg gm lg) := hD
              refine lv_if_eq (tgt := 419) hx hb dX13_isGoodBean_405 (by decide) (fun c_18 => ?_) (fun c_18 => ?_)
              · have h_19 : iv 0 0 r_16 := iv_eq c_18 hr_16 (iv_k (by decide) : iv 0 0 0) (by decide)
                exact hj419 y0_371 x6_371 x5_371 x4_371 x3_371 x2_371 h_15 h_12 h_9 h_6 h_3 hx2_371 hsx1_371 _ _ _ hP hD hS (lv_sub hl [0, 1, 2, 3, 4, 5, 6, 7] rfl)
              · have h_20 : iv 1 1 r_16 := iv_neL c_18 hr_16 (by decide)
                refine lv_aload_n hx hb dX13_isGoodBean_408 rfl (lv_at hl 6 rfl) ?_
                refine lv_iload_n hx hb dX13_isGoodBean_409 rfl (lv_at hl 7 rfl) ?_
                refine lv_ldc2 (own := RX13) (v := 120282512125796) hx hb hown (htb _ kw_906) dX13_isGoodBean_410 ?_
                refine mr_calli (rest := []) ⟨hx, hb, hml, hown, htb⟩ (f_has l dC dI h0 ad cid sg gm lg x 120282512125796 hI hsx1_371) (cwV 2 htb (gd_V kw_916 kw_917 kw_918 kw_5 kw_1543) rfl rfl rfl (by decide +kernel) ⟨Nat.le_of_ble_eq_true rfl, Nat.le_of_ble_eq_true rfl⟩) rfl hl.1 rfl (Nat.le_of_ble_eq_true rfl) dX13_isGoodBean_413 ⟨Nat.zero_le _, Nat.zero_le _⟩ hK hP hD hS hA (fun r_21 u_22 H locs hw hP hD hS => ?_)
                obtain ⟨hr_21, fH_r_21, rfl⟩ := hw
                have hP : va_P (dC, dI) vwCl (mW h0 ad cid sg gm lg) H := hP
                have hD : va_D A (mW h0 ad cid sg gm lg) := hD
                refine lv_if_eq (tgt := 423) hx hb dX13_isGoodBean_416 (by decide) (fun c_23 => ?_) (fun c_23 => ?_)
                · have h_24 : iv 0 0 r_21 := iv_eq c_23 hr_21 (iv_k (by decide) : iv 0 0 0) (by decide)
                  exact hj423 y0_371 x6_371 x5_371 x4_371 x3_371 x2_371 (iv_w h_15 (by decide)) (iv_w h_12 (by decide)) (iv_w h_9 (by decide)) (iv_w h_6 (by decide)) (iv_w h_3 (by decide)) hx2_371 hsx1_371 _ _ _ hP hD hS (lv_sub hl [0, 1, 2, 3, 4, 5, 6, 7] rfl)
                · have h_25 : iv 1 1 r_21 := iv_neL c_23 hr_21 (by decide)
                  exact hj419 y0_371 x6_371 x5_371 x4_371 x3_371 x2_371 h_15 h_12 h_9 h_6 h_3 hx2_371 hsx1_371 _ _ _ hP hD hS (lv_sub hl [0, 1, 2, 3, 4, 5, 6, 7] rfl)
  have hj366 : ∀ (x6_366 : Int32) (x5_366 : Int32) (x4_366 : Int32) (x3_366 : Int32) (x2_366 : Int32) (_ : iv 0 1 x6_366) (_ : iv 0 1 x5_366) (_ : iv 0 1 x4_366) (_ : iv 0 1 x3_366) (_ : iv 0 1 x2_366) (_ : iv 0 79 x) (H : Heap) (locs : List Loc) (ls : Array Slot), va_P (dC, dI) vwCl (mW h0 ad cid sg gm lg) H → va_D A (mW h0 ad cid sg gm lg) → va_S A s.heap H locs → lv_has ls 8 [(6, .int x6_366), (5, .int x5_366), (4, .int x4_366), (3, .int x3_366), (2, .int x2_366), (0, .ref h0), (1, .int x)] → W p l e (headSpec wm_X13_isGoodBean ({ frames := 3, cells := 0, slots := 0, locals := 76 })).room s m ([.ref h0, .int x] : List Value).toArray below meth c H locs 0 0 (MQ below (va_Qi (fun r v => (iv 0 1 r) ∧ v = (sg, gm, lg)) (MB dC dI h0 ad cid A) A) ([.ref h0, .int x] : List Value).toArray s 0 0 A) (F0 m 366 ls []) := by
    intro x6_366 x5_366 x4_366 x3_366 x2_366 hx6_366 hx5_366 hx4_366 hx3_366 hx2_366 hsx1_366 H locs ls hP hD hS hl
    refine lv_iconst (v := 1) hx hb dX13_isGoodBean_366 (by decide) ?_
    refine lv_goto (tgt := 371) hx hb dX13_isGoodBean_367 (by decide) ?_
    exact hj371 x6_366 x5_366 x4_366 x3_366 x2_366 1 hx6_366 hx5_366 hx4_366 hx3_366 hx2_366 hsx1_366 (iv_w (iv_k (by decide) : iv 1 1 1) (by decide)) _ _ _ hP hD hS (lv_sub hl [0, 1, 2, 3, 4, 5, 6] rfl)
  have hj313 : ∀ (x5_313 : Int32) (x4_313 : Int32) (x3_313 : Int32) (x2_313 : Int32) (y0_313 : Int32) (_ : iv 0 1 x5_313) (_ : iv 0 1 x4_313) (_ : iv 0 1 x3_313) (_ : iv 0 1 x2_313) (_ : iv 0 79 x) (_ : iv 0 1 y0_313) (H : Heap) (locs : List Loc) (ls : Array Slot), va_P (dC, dI) vwCl (mW h0 ad cid sg gm lg) H → va_D A (mW h0 ad cid sg gm lg) → va_S A s.heap H locs → lv_has ls 8 [(5, .int x5_313), (4, .int x4_313), (3, .int x3_313), (2, .int x2_313), (0, .ref h0), (1, .int x)] → W p l e (headSpec wm_X13_isGoodBean ({ frames := 3, cells := 0, slots := 0, locals := 76 })).room s m ([.ref h0, .int x] : List Value).toArray below meth c H locs 0 0 (MQ below (va_Qi (fun r v => (iv 0 1 r) ∧ v = (sg, gm, lg)) (MB dC dI h0 ad cid A) A) ([.ref h0, .int x] : List Value).toArray s 0 0 A) (F0 m 313 ls [.int y0_313]) := by
    intro x5_313 x4_313 x3_313 x2_313 y0_313 hx5_313 hx4_313 hx3_313 hx2_313 hsx1_313 hy0_313 H locs ls hP hD hS hl
    refine lv_istore (lv' := [(6, .int y0_313), (5, .int x5_313), (4, .int x4_313), (3, .int x3_313), (2, .int x2_313), (0, .ref h0), (1, .int x)]) hx hb dX13_isGoodBean_313 hl (by decide) rfl (fun ls hl => ?_)
    refine lv_aload_n hx hb dX13_isGoodBean_315 rfl (lv_at hl 5 rfl) ?_
    refine lv_iload_n hx hb dX13_isGoodBean_316 rfl (lv_at hl 6 rfl) ?_
    refine lv_ldc2 (own := RX13) (v := 7017298113369039732) hx hb hown (htb _ kw_902) dX13_isGoodBean_317 ?_
    refine mr_calll (rest := []) ⟨hx, hb, hml, hown, htb⟩ (f_word l dC dI h0 ad cid sg gm lg x 7017298113369039732 hI hsx1_313) (cwV 2 htb (gd_V kw_923 kw_924 kw_925 kw_5 kw_1545) rfl rfl rfl (by decide +kernel) ⟨Nat.le_of_ble_eq_true rfl, Nat.le_of_ble_eq_true rfl⟩) rfl hl.1 rfl (Nat.le_of_ble_eq_true rfl) dX13_isGoodBean_320 ⟨Nat.zero_le _, Nat.zero_le _⟩ hK hP hD hS hA (fun r_26 u_27 H locs hw hP hD hS => ?_)
    obtain ⟨fW_r_26, rfl⟩ := hw
    have hP : va_P (dC, dI) vwCl (mW h0 ad cid sg gm lg) H := hP
    have hD : va_D A (mW h0 ad cid sg gm lg) := hD
    refine lv_aload_n hx hb dX13_isGoodBean_323 rfl (lv_at hl 5 rfl) ?_
    refine mr_get (v := .ref (ad 1)) hx hb htb inX13 hown hK hP 1 (by decide) (htb _ kw_156) rfl dX13_isGoodBean_324 ?_
    refine lv_iconst (v := 0) hx hb dX13_isGoodBean_327 (by decide) ?_
    refine mr_lald hx hb hK hP 1 (k := 1) rfl rfl rfl (show vp_in 0 11 from (iv_in (iv_k (by decide) : iv 0 0 0) (by decide))) dX13_isGoodBean_328 ?_
    refine lv_topl (fun z_28 ez_28 => ?_)
    refine W.lcmp hx hb dX13_isGoodBean_329 ?_
    refine lv_topi (fun z_29 ez_29 => ?_)
    have hz_29 : iv (-1) 1 z_29 := iv_of ez_29 (iv_cmp _ _)
    refine lv_if_eq (tgt := 366) hx hb dX13_isGoodBean_330 (by decide) (fun c_30 => ?_) (fun c_30 => ?_)
    · have h_31 : iv 0 0 z_29 := iv_eq c_30 hz_29 (iv_k (by decide) : iv 0 0 0) (by decide)
      exact hj366 y0_313 x5_313 x4_313 x3_313 x2_313 hy0_313 hx5_313 hx4_313 hx3_313 hx2_313 hsx1_313 _ _ _ hP hD hS (lv_sub hl [0, 1, 2, 3, 4, 5, 6] rfl)
    · have d_32 : ¬ (z_29 : Int32).toInt = 0 := lv_neT c_30 rfl
      refine lv_aload_n hx hb dX13_isGoodBean_333 rfl (lv_at hl 5 rfl) ?_
      refine lv_iload_n hx hb dX13_isGoodBean_334 rfl (lv_at hl 6 rfl) ?_
      refine lv_ldc2 (own := RX13) (v := 427020088179) hx hb hown (htb _ kw_900) dX13_isGoodBean_335 ?_
      refine mr_calli (rest := []) ⟨hx, hb, hml, hown, htb⟩ (f_has l dC dI h0 ad cid sg gm lg x 427020088179 hI hsx1_313) (cwV 2 htb (gd_V kw_916 kw_917 kw_918 kw_5 kw_1543) rfl rfl rfl (by decide +kernel) ⟨Nat.le_of_ble_eq_true rfl, Nat.le_of_ble_eq_true rfl⟩) rfl hl.1 rfl (Nat.le_of_ble_eq_true rfl) dX13_isGoodBean_338 ⟨Nat.zero_le _, Nat.zero_le _⟩ hK hP hD hS hA (fun r_33 u_34 H locs hw hP hD hS => ?_)
      obtain ⟨hr_33, fH_r_33, rfl⟩ := hw
      have hP : va_P (dC, dI) vwCl (mW h0 ad cid sg gm lg) H := hP
      have hD : va_D A (mW h0 ad cid sg gm lg) := hD
      refine lv_if_ne (tgt := 366) hx hb dX13_isGoodBean_341 (by decide) (fun c_35 => ?_) (fun c_35 => ?_)
      · have h_36 : iv 1 1 r_33 := iv_neL c_35 hr_33 (by decide)
        exact hj366 y0_313 x5_313 x4_313 x3_313 x2_313 hy0_313 hx5_313 hx4_313 hx3_313 hx2_313 hsx1_313 _ _ _ hP hD hS (lv_sub hl [0, 1, 2, 3, 4, 5, 6] rfl)
      · have h_37 : iv 0 0 r_33 := iv_eq c_35 hr_33 (iv_k (by decide) : iv 0 0 0) (by decide)
        refine lv_aload_n hx hb dX13_isGoodBean_344 rfl (lv_at hl 5 rfl) ?_
        refine lv_iload_n hx hb dX13_isGoodBean_345 rfl (lv_at hl 6 rfl) ?_
        refine lv_ldc2 (own := RX13) (v := 123563833388660) hx hb hown (htb _ kw_901) dX13_isGoodBean_346 ?_
        refine mr_calli (rest := []) ⟨hx, hb, hml, hown, htb⟩ (f_has l dC dI h0 ad cid sg gm lg x 123563833388660 hI hsx1_313) (cwV 2 htb (gd_V kw_916 kw_917 kw_918 kw_5 kw_1543) rfl rfl rfl (by decide +kernel) ⟨Nat.le_of_ble_eq_true rfl, Nat.le_of_ble_eq_true rfl⟩) rfl hl.1 rfl (Nat.le_of_ble_eq_true rfl) dX13_isGoodBean_349 ⟨Nat.zero_le _, Nat.zero_le _⟩ hK hP hD hS hA (fun r_38 u_39 H locs hw hP hD hS => ?_)
        obtain ⟨hr_38, fH_r_38, rfl⟩ := hw
        have hP : va_P (dC, dI) vwCl (mW h0 ad cid sg gm lg) H := hP
        have hD : va_D A (mW h0 ad cid sg gm lg) := hD
        refine lv_if_ne (tgt := 366) hx hb dX13_isGoodBean_352 (by decide) (fun c_40 => ?_) (fun c_40 => ?_)
        · have h_41 : iv 1 1 r_38 := iv_neL c_40 hr_38 (by decide)
          exact hj366 y0_313 x5_313 x4_313 x3_313 x2_313 hy0_313 hx5_313 hx4_313 hx3_313 hx2_313 hsx1_313 _ _ _ hP hD hS (lv_sub hl [0, 1, 2, 3, 4, 5, 6] rfl)
        · have h_42 : iv 0 0 r_38 := iv_eq c_40 hr_38 (iv_k (by decide) : iv 0 0 0) (by decide)
          refine lv_aload_n hx hb dX13_isGoodBean_355 rfl (lv_at hl 5 rfl) ?_
          refine lv_iload_n hx hb dX13_isGoodBean_356 rfl (lv_at hl 6 rfl) ?_
          refine lv_ldc2 (own := RX13) (v := 28817527407604345) hx hb hown (htb _ kw_905) dX13_isGoodBean_357 ?_
          refine mr_calli (rest := []) ⟨hx, hb, hml, hown, htb⟩ (f_has l dC dI h0 ad cid sg gm lg x 28817527407604345 hI hsx1_313) (cwV 2 htb (gd_V kw_916 kw_917 kw_918 kw_5 kw_1543) rfl rfl rfl (by decide +kernel) ⟨Nat.le_of_ble_eq_true rfl, Nat.le_of_ble_eq_true rfl⟩) rfl hl.1 rfl (Nat.le_of_ble_eq_true rfl) dX13_isGoodBean_360 ⟨Nat.zero_le _, Nat.zero_le _⟩ hK hP hD hS hA (fun r_43 u_44 H locs hw hP hD hS => ?_)
          obtain ⟨hr_43, fH_r_43, rfl⟩ := hw
          have hP : va_P (dC, dI) vwCl (mW h0 ad cid sg gm lg) H := hP
          have hD : va_D A (mW h0 ad cid sg gm lg) := hD
          refine lv_if_eq (tgt := 370) hx hb dX13_isGoodBean_363 (by decide) (fun c_45 => ?_) (fun c_45 => ?_)
          · have h_46 : iv 0 0 r_43 := iv_eq c_45 hr_43 (iv_k (by decide) : iv 0 0 0) (by decide)
            refine lv_iconst (v := 0) hx hb dX13_isGoodBean_370 (by decide) ?_
            exact hj371 y0_313 x5_313 x4_313 x3_313 x2_313 0 hy0_313 hx5_313 hx4_313 hx3_313 hx2_313 hsx1_313 (iv_w (iv_k (by decide) : iv 0 0 0) (by decide)) _ _ _ hP hD hS (lv_sub hl [0, 1, 2, 3, 4, 5, 6] rfl)
          · have h_47 : iv 1 1 r_43 := iv_neL c_45 hr_43 (by decide)
            exact hj366 y0_313 x5_313 x4_313 x3_313 x2_313 hy0_313 hx5_313 hx4_313 hx3_313 hx2_313 hsx1_313 _ _ _ hP hD hS (lv_sub hl [0, 1, 2, 3, 4, 5, 6] rfl)
  have hj301 : ∀ (x5_301 : Int32) (x4_301 : Int32) (x3_301 : Int32) (x2_301 : Int32) (_ : iv 0 1 x5_301) (_ : iv 0 1 x4_301) (_ : iv 0 1 x3_301) (_ : iv 1 1 x2_301) (_ : iv 0 79 x) (H : Heap) (locs : List Loc) (ls : Array Slot), va_P (dC, dI) vwCl (mW h0 ad cid sg gm lg) H → va_D A (mW h0 ad cid sg gm lg) → va_S A s.heap H locs → lv_has ls 8 [(5, .int x5_301), (4, .int x4_301), (3, .int x3_301), (2, .int x2_301), (0, .ref h0), (1, .int x)] → W p l e (headSpec wm_X13_isGoodBean ({ frames := 3, cells := 0, slots := 0, locals := 76 })).room s m ([.ref h0, .int x] : List Value).toArray below meth c H locs 0 0 (MQ below (va_Qi (fun r v => (iv 0 1 r) ∧ v = (sg, gm, lg)) (MB dC dI h0 ad cid A) A) ([.ref h0, .int x] : List Value).toArray s 0 0 A) (F0 m 301 ls []) := by
    intro x5_301 x4_301 x3_301 x2_301 hx5_301 hx4_301 hx3_301 hx2_301 hsx1_301 H locs ls hP hD hS hl
    refine lv_iconst (v := 0) hx hb dX13_isGoodBean_301 (by decide) ?_
    refine lv_goto (tgt := 313) hx hb dX13_isGoodBean_302 (by decide) ?_
    exact hj313 x5_301 x4_301 x3_301 x2_301 0 hx5_301 hx4_301 hx3_301 (iv_w hx2_301 (by decide)) hsx1_301 (iv_w (iv_k (by decide) : iv 0 0 0) (by decide)) _ _ _ hP hD hS (lv_sub hl [0, 1, 2, 3, 4, 5] rfl)
  have hj258 : ∀ (x4_258 : Int32) (x3_258 : Int32) (x2_258 : Int32) (y0_258 : Int32) (_ : iv 0 1 x4_258) (_ : iv 0 1 x3_258) (_ : iv 0 1 x2_258) (_ : iv 0 79 x) (_ : iv 0 1 y0_258) (H : Heap) (locs : List Loc) (ls : Array Slot), va_P (dC, dI) vwCl (mW h0 ad cid sg gm lg) H → va_D A (mW h0 ad cid sg gm lg) → va_S A s.heap H locs → lv_has ls 8 [(4, .int x4_258), (3, .int x3_258), (2, .int x2_258), (0, .ref h0), (1, .int x)] → W p l e (headSpec wm_X13_isGoodBean ({ frames := 3, cells := 0, slots := 0, locals := 76 })).room s m ([.ref h0, .int x] : List Value).toArray below meth c H locs 0 0 (MQ below (va_Qi (fun r v => (iv 0 1 r) ∧ v = (sg, gm, lg)) (MB dC dI h0 ad cid A) A) ([.ref h0, .int x] : List Value).toArray s 0 0 A) (F0 m 258 ls [.int y0_258]) := by
    intro x4_258 x3_258 x2_258 y0_258 hx4_258 hx3_258 hx2_258 hsx1_258 hy0_258 H locs ls hP hD hS hl
    refine lv_istore (lv' := [(5, .int y0_258), (4, .int x4_258), (3, .int x3_258), (2, .int x2_258), (0, .ref h0), (1, .int x)]) hx hb dX13_isGoodBean_258 hl (by decide) rfl (fun ls hl => ?_)
    refine lv_iload_n hx hb dX13_isGoodBean_260 rfl (lv_at hl 3 rfl) ?_
    refine lv_if_eq (tgt := 305) hx hb dX13_isGoodBean_261 (by decide) (fun c_48 => ?_) (fun c_48 => ?_)
    · have h_49 : iv 0 0 x2_258 := iv_eq c_48 hx2_258 (iv_k (by decide) : iv 0 0 0) (by decide)
      refine lv_aload_n hx hb dX13_isGoodBean_305 rfl (lv_at hl 4 rfl) ?_
      refine lv_iload_n hx hb dX13_isGoodBean_306 rfl (lv_at hl 5 rfl) ?_
      refine lv_ldc2 (own := RX13) (v := 26980) hx hb hown (htb _ kw_899) dX13_isGoodBean_307 ?_
      refine mr_calli (rest := []) ⟨hx, hb, hml, hown, htb⟩ (f_has l dC dI h0 ad cid sg gm lg x 26980 hI hsx1_258) (cwV 2 htb (gd_V kw_916 kw_917 kw_918 kw_5 kw_1543) rfl rfl rfl (by decide +kernel) ⟨Nat.le_of_ble_eq_true rfl, Nat.le_of_ble_eq_true rfl⟩) rfl hl.1 rfl (Nat.le_of_ble_eq_true rfl) dX13_isGoodBean_310 ⟨Nat.zero_le _, Nat.zero_le _⟩ hK hP hD hS hA (fun r_50 u_51 H locs hw hP hD hS => ?_)
      obtain ⟨hr_50, fH_r_50, rfl⟩ := hw
      have hP : va_P (dC, dI) vwCl (mW h0 ad cid sg gm lg) H := hP
      have hD : va_D A (mW h0 ad cid sg gm lg) := hD
      exact hj313 y0_258 x4_258 x3_258 x2_258 r_50 hy0_258 hx4_258 hx3_258 (iv_w h_49 (by decide)) hsx1_258 hr_50 _ _ _ hP hD hS (lv_sub hl [0, 1, 2, 3, 4, 5] rfl)
    · have h_52 : iv 1 1 x2_258 := iv_neL c_48 hx2_258 (by decide)
      refine lv_aload_n hx hb dX13_isGoodBean_264 rfl (lv_at hl 4 rfl) ?_
      refine lv_iload_n hx hb dX13_isGoodBean_265 rfl (lv_at hl 5 rfl) ?_
      refine lv_ldc2 (own := RX13) (v := 26980) hx hb hown (htb _ kw_899) dX13_isGoodBean_266 ?_
      refine mr_calli (rest := []) ⟨hx, hb, hml, hown, htb⟩ (f_has l dC dI h0 ad cid sg gm lg x 26980 hI hsx1_258) (cwV 2 htb (gd_V kw_916 kw_917 kw_918 kw_5 kw_1543) rfl rfl rfl (by decide +kernel) ⟨Nat.le_of_ble_eq_true rfl, Nat.le_of_ble_eq_true rfl⟩) rfl hl.1 rfl (Nat.le_of_ble_eq_true rfl) dX13_isGoodBean_269 ⟨Nat.zero_le _, Nat.zero_le _⟩ hK hP hD hS hA (fun r_53 u_54 H locs hw hP hD hS => ?_)
      obtain ⟨hr_53, fH_r_53, rfl⟩ := hw
      have hP : va_P (dC, dI) vwCl (mW h0 ad cid sg gm lg) H := hP
      have hD : va_D A (mW h0 ad cid sg gm lg) := hD
      refine lv_if_ne (tgt := 301) hx hb dX13_isGoodBean_272 (by decide) (fun c_55 => ?_) (fun c_55 => ?_)
      · have h_56 : iv 1 1 r_53 := iv_neL c_55 hr_53 (by decide)
        exact hj301 y0_258 x4_258 x3_258 x2_258 hy0_258 hx4_258 hx3_258 h_52 hsx1_258 _ _ _ hP hD hS (lv_sub hl [0, 1, 2, 3, 4, 5] rfl)
      · have h_57 : iv 0 0 r_53 := iv_eq c_55 hr_53 (iv_k (by decide) : iv 0 0 0) (by decide)
        refine lv_aload_n hx hb dX13_isGoodBean_275 rfl (lv_at hl 4 rfl) ?_
        refine lv_iload_n hx hb dX13_isGoodBean_276 rfl (lv_at hl 5 rfl) ?_
        refine lv_ldc2 (own := RX13) (v := 7017298113369039732) hx hb hown (htb _ kw_902) dX13_isGoodBean_277 ?_
        refine mr_calli (rest := []) ⟨hx, hb, hml, hown, htb⟩ (f_has l dC dI h0 ad cid sg gm lg x 7017298113369039732 hI hsx1_258) (cwV 2 htb (gd_V kw_916 kw_917 kw_918 kw_5 kw_1543) rfl rfl rfl (by decide +kernel) ⟨Nat.le_of_ble_eq_true rfl, Nat.le_of_ble_eq_true rfl⟩) rfl hl.1 rfl (Nat.le_of_ble_eq_true rfl) dX13_isGoodBean_280 ⟨Nat.zero_le _, Nat.zero_le _⟩ hK hP hD hS hA (fun r_58 u_59 H locs hw hP hD hS => ?_)
        obtain ⟨hr_58, fH_r_58, rfl⟩ := hw
        have hP : va_P (dC, dI) vwCl (mW h0 ad cid sg gm lg) H := hP
        have hD : va_D A (mW h0 ad cid sg gm lg) := hD
        refine lv_if_ne (tgt := 301) hx hb dX13_isGoodBean_283 (by decide) (fun c_60 => ?_) (fun c_60 => ?_)
        · have h_61 : iv 1 1 r_58 := iv_neL c_60 hr_58 (by decide)
          exact hj301 y0_258 x4_258 x3_258 x2_258 hy0_258 hx4_258 hx3_258 h_52 hsx1_258 _ _ _ hP hD hS (lv_sub hl [0, 1, 2, 3, 4, 5] rfl)
        · have h_62 : iv 0 0 r_58 := iv_eq c_60 hr_58 (iv_k (by decide) : iv 0 0 0) (by decide)
          refine lv_aload_n hx hb dX13_isGoodBean_286 rfl (lv_at hl 4 rfl) ?_
          refine lv_iload_n hx hb dX13_isGoodBean_287 rfl (lv_at hl 5 rfl) ?_
          refine lv_ldc2 (own := RX13) (v := 1818327673) hx hb hown (htb _ kw_904) dX13_isGoodBean_288 ?_
          refine mr_calli (rest := []) ⟨hx, hb, hml, hown, htb⟩ (f_has l dC dI h0 ad cid sg gm lg x 1818327673 hI hsx1_258) (cwV 2 htb (gd_V kw_916 kw_917 kw_918 kw_5 kw_1543) rfl rfl rfl (by decide +kernel) ⟨Nat.le_of_ble_eq_true rfl, Nat.le_of_ble_eq_true rfl⟩) rfl hl.1 rfl (Nat.le_of_ble_eq_true rfl) dX13_isGoodBean_291 ⟨Nat.zero_le _, Nat.zero_le _⟩ hK hP hD hS hA (fun r_63 u_64 H locs hw hP hD hS => ?_)
          obtain ⟨hr_63, fH_r_63, rfl⟩ := hw
          have hP : va_P (dC, dI) vwCl (mW h0 ad cid sg gm lg) H := hP
          have hD : va_D A (mW h0 ad cid sg gm lg) := hD
          refine lv_if_ne (tgt := 301) hx hb dX13_isGoodBean_294 (by decide) (fun c_65 => ?_) (fun c_65 => ?_)
          · have h_66 : iv 1 1 r_63 := iv_neL c_65 hr_63 (by decide)
            exact hj301 y0_258 x4_258 x3_258 x2_258 hy0_258 hx4_258 hx3_258 h_52 hsx1_258 _ _ _ hP hD hS (lv_sub hl [0, 1, 2, 3, 4, 5] rfl)
          · have h_67 : iv 0 0 r_63 := iv_eq c_65 hr_63 (iv_k (by decide) : iv 0 0 0) (by decide)
            refine lv_iconst (v := 1) hx hb dX13_isGoodBean_297 (by decide) ?_
            refine lv_goto (tgt := 313) hx hb dX13_isGoodBean_298 (by decide) ?_
            exact hj313 y0_258 x4_258 x3_258 x2_258 1 hy0_258 hx4_258 hx3_258 (iv_w h_52 (by decide)) hsx1_258 (iv_w (iv_k (by decide) : iv 1 1 1) (by decide)) _ _ _ hP hD hS (lv_sub hl [0, 1, 2, 3, 4, 5] rfl)
  have hj257 : ∀ (x4_257 : Int32) (x3_257 : Int32) (x2_257 : Int32) (_ : iv 0 1 x4_257) (_ : iv 0 1 x3_257) (_ : iv 0 1 x2_257) (_ : iv 0 79 x) (H : Heap) (locs : List Loc) (ls : Array Slot), va_P (dC, dI) vwCl (mW h0 ad cid sg gm lg) H → va_D A (mW h0 ad cid sg gm lg) → va_S A s.heap H locs → lv_has ls 8 [(4, .int x4_257), (3, .int x3_257), (2, .int x2_257), (0, .ref h0), (1, .int x)] → W p l e (headSpec wm_X13_isGoodBean ({ frames := 3, cells := 0, slots := 0, locals := 76 })).room s m ([.ref h0, .int x] : List Value).toArray below meth c H locs 0 0 (MQ below (va_Qi (fun r v => (iv 0 1 r) ∧ v = (sg, gm, lg)) (MB dC dI h0 ad cid A) A) ([.ref h0, .int x] : List Value).toArray s 0 0 A) (F0 m 257 ls []) := by
    intro x4_257 x3_257 x2_257 hx4_257 hx3_257 hx2_257 hsx1_257 H locs ls hP hD hS hl
    refine lv_iconst (v := 0) hx hb dX13_isGoodBean_257 (by decide) ?_
    exact hj258 x4_257 x3_257 x2_257 0 hx4_257 hx3_257 hx2_257 hsx1_257 (iv_w (iv_k (by decide) : iv 0 0 0) (by decide)) _ _ _ hP hD hS (lv_sub hl [0, 1, 2, 3, 4] rfl)
  have hj214 : ∀ (x4_214 : Int32) (x3_214 : Int32) (x2_214 : Int32) (_ : iv 0 1 x4_214) (_ : iv 0 1 x3_214) (_ : iv 0 1 x2_214) (_ : iv 0 79 x) (H : Heap) (locs : List Loc) (ls : Array Slot), va_P (dC, dI) vwCl (mW h0 ad cid sg gm lg) H → va_D A (mW h0 ad cid sg gm lg) → va_S A s.heap H locs → lv_has ls 8 [(4, .int x4_214), (3, .int x3_214), (2, .int x2_214), (0, .ref h0), (1, .int x)] → W p l e (headSpec wm_X13_isGoodBean ({ frames := 3, cells := 0, slots := 0, locals := 76 })).room s m ([.ref h0, .int x] : List Value).toArray below meth c H locs 0 0 (MQ below (va_Qi (fun r v => (iv 0 1 r) ∧ v = (sg, gm, lg)) (MB dC dI h0 ad cid A) A) ([.ref h0, .int x] : List Value).toArray s 0 0 A) (F0 m 214 ls []) := by
    intro x4_214 x3_214 x2_214 hx4_214 hx3_214 hx2_214 hsx1_214 H locs ls hP hD hS hl
    refine lv_aload_n hx hb dX13_isGoodBean_214 rfl (lv_at hl 3 rfl) ?_
    refine lv_iload_n hx hb dX13_isGoodBean_215 rfl (lv_at hl 4 rfl) ?_
    refine lv_ldc2 (own := RX13) (v := 7017298113369039732) hx hb hown (htb _ kw_902) dX13_isGoodBean_216 ?_
    refine lv_iconst (v := 0) hx hb dX13_isGoodBean_219 (by decide) ?_
    refine lv_iconst (v := 1) hx hb dX13_isGoodBean_220 (by decide) ?_
    refine mr_calli (rest := []) ⟨hx, hb, hml, hown, htb⟩ (a_isOneOf l dC dI h0 ad cid sg gm lg x 7017298113369039732 0 1 hI hsx1_214 (iv_w (iv_k (by decide) : iv 0 0 0) (by decide)) (iv_w (iv_k (by decide) : iv 1 1 1) (by decide))) (cwV 4 htb (gd_V kw_931 kw_932 kw_933 kw_5 kw_1547) rfl rfl rfl (by decide +kernel) ⟨Nat.le_of_ble_eq_true rfl, Nat.le_of_ble_eq_true rfl⟩) rfl hl.1 rfl (Nat.le_of_ble_eq_true rfl) dX13_isGoodBean_221 ⟨Nat.zero_le _, Nat.zero_le _⟩ hK hP hD hS hA (fun r_68 u_69 H locs hw hP hD hS => ?_)
    obtain ⟨hr_68, rfl⟩ := hw
    have hP : va_P (dC, dI) vwCl (mW h0 ad cid sg gm lg) H := hP
    have hD : va_D A (mW h0 ad cid sg gm lg) := hD
    refine lv_if_eq (tgt := 257) hx hb dX13_isGoodBean_224 (by decide) (fun c_70 => ?_) (fun c_70 => ?_)
    · have h_71 : iv 0 0 r_68 := iv_eq c_70 hr_68 (iv_k (by decide) : iv 0 0 0) (by decide)
      exact hj257 x4_214 x3_214 x2_214 hx4_214 hx3_214 hx2_214 hsx1_214 _ _ _ hP hD hS (lv_sub hl [0, 1, 2, 3, 4] rfl)
    · have h_72 : iv 1 1 r_68 := iv_neL c_70 hr_68 (by decide)
      refine lv_aload_n hx hb dX13_isGoodBean_227 rfl (lv_at hl 3 rfl) ?_
      refine lv_iload_n hx hb dX13_isGoodBean_228 rfl (lv_at hl 4 rfl) ?_
      refine lv_ldc2 (own := RX13) (v := 1818327673) hx hb hown (htb _ kw_904) dX13_isGoodBean_229 ?_
      refine lv_iconst (v := 0) hx hb dX13_isGoodBean_232 (by decide) ?_
      refine lv_iconst (v := 1) hx hb dX13_isGoodBean_233 (by decide) ?_
      refine mr_calli (rest := []) ⟨hx, hb, hml, hown, htb⟩ (a_isOneOf l dC dI h0 ad cid sg gm lg x 1818327673 0 1 hI hsx1_214 (iv_w (iv_k (by decide) : iv 0 0 0) (by decide)) (iv_w (iv_k (by decide) : iv 1 1 1) (by decide))) (cwV 4 htb (gd_V kw_931 kw_932 kw_933 kw_5 kw_1547) rfl rfl rfl (by decide +kernel) ⟨Nat.le_of_ble_eq_true rfl, Nat.le_of_ble_eq_true rfl⟩) rfl hl.1 rfl (Nat.le_of_ble_eq_true rfl) dX13_isGoodBean_234 ⟨Nat.zero_le _, Nat.zero_le _⟩ hK hP hD hS hA (fun r_73 u_74 H locs hw hP hD hS => ?_)
      obtain ⟨hr_73, rfl⟩ := hw
      have hP : va_P (dC, dI) vwCl (mW h0 ad cid sg gm lg) H := hP
      have hD : va_D A (mW h0 ad cid sg gm lg) := hD
      refine lv_if_eq (tgt := 257) hx hb dX13_isGoodBean_237 (by decide) (fun c_75 => ?_) (fun c_75 => ?_)
      · have h_76 : iv 0 0 r_73 := iv_eq c_75 hr_73 (iv_k (by decide) : iv 0 0 0) (by decide)
        exact hj257 x4_214 x3_214 x2_214 hx4_214 hx3_214 hx2_214 hsx1_214 _ _ _ hP hD hS (lv_sub hl [0, 1, 2, 3, 4] rfl)
      · have h_77 : iv 1 1 r_73 := iv_neL c_75 hr_73 (by decide)
        refine lv_aload_n hx hb dX13_isGoodBean_240 rfl (lv_at hl 3 rfl) ?_
        refine lv_iload_n hx hb dX13_isGoodBean_241 rfl (lv_at hl 4 rfl) ?_
        refine lv_ldc2 (own := RX13) (v := 495589486693) hx hb hown (htb _ kw_903) dX13_isGoodBean_242 ?_
        refine lv_iconst (v := 2) hx hb dX13_isGoodBean_245 (by decide) ?_
        refine lv_iconst (v := 3) hx hb dX13_isGoodBean_246 (by decide) ?_
        refine mr_calli (rest := []) ⟨hx, hb, hml, hown, htb⟩ (a_isOneOf l dC dI h0 ad cid sg gm lg x 495589486693 2 3 hI hsx1_214 (iv_w (iv_k (by decide) : iv 2 2 2) (by decide)) (iv_w (iv_k (by decide) : iv 3 3 3) (by decide))) (cwV 4 htb (gd_V kw_931 kw_932 kw_933 kw_5 kw_1547) rfl rfl rfl (by decide +kernel) ⟨Nat.le_of_ble_eq_true rfl, Nat.le_of_ble_eq_true rfl⟩) rfl hl.1 rfl (Nat.le_of_ble_eq_true rfl) dX13_isGoodBean_247 ⟨Nat.zero_le _, Nat.zero_le _⟩ hK hP hD hS hA (fun r_78 u_79 H locs hw hP hD hS => ?_)
        obtain ⟨hr_78, rfl⟩ := hw
        have hP : va_P (dC, dI) vwCl (mW h0 ad cid sg gm lg) H := hP
        have hD : va_D A (mW h0 ad cid sg gm lg) := hD
        refine lv_if_eq (tgt := 257) hx hb dX13_isGoodBean_250 (by decide) (fun c_80 => ?_) (fun c_80 => ?_)
        · have h_81 : iv 0 0 r_78 := iv_eq c_80 hr_78 (iv_k (by decide) : iv 0 0 0) (by decide)
          exact hj257 x4_214 x3_214 x2_214 hx4_214 hx3_214 hx2_214 hsx1_214 _ _ _ hP hD hS (lv_sub hl [0, 1, 2, 3, 4] rfl)
        · have h_82 : iv 1 1 r_78 := iv_neL c_80 hr_78 (by decide)
          refine lv_iconst (v := 1) hx hb dX13_isGoodBean_253 (by decide) ?_
          refine lv_goto (tgt := 258) hx hb dX13_isGoodBean_254 (by decide) ?_
          exact hj258 x4_214 x3_214 x2_214 1 hx4_214 hx3_214 hx2_214 hsx1_214 (iv_w (iv_k (by decide) : iv 1 1 1) (by decide)) _ _ _ hP hD hS (lv_sub hl [0, 1, 2, 3, 4] rfl)
  have hj186 : ∀ (x3_186 : Int32) (x2_186 : Int32) (y0_186 : Int32) (_ : iv 0 1 x3_186) (_ : iv 0 1 x2_186) (_ : iv 0 79 x) (_ : iv 0 1 y0_186) (H : Heap) (locs : List Loc) (ls : Array Slot), va_P (dC, dI) vwCl (mW h0 ad cid sg gm lg) H → va_D A (mW h0 ad cid sg gm lg) → va_S A s.heap H locs → lv_has ls 8 [(3, .int x3_186), (2, .int x2_186), (0, .ref h0), (1, .int x)] → W p l e (headSpec wm_X13_isGoodBean ({ frames := 3, cells := 0, slots := 0, locals := 76 })).room s m ([.ref h0, .int x] : List Value).toArray below meth c H locs 0 0 (MQ below (va_Qi (fun r v => (iv 0 1 r) ∧ v = (sg, gm, lg)) (MB dC dI h0 ad cid A) A) ([.ref h0, .int x] : List Value).toArray s 0 0 A) (F0 m 186 ls [.int y0_186]) := by
    intro x3_186 x2_186 y0_186 hx3_186 hx2_186 hsx1_186 hy0_186 H locs ls hP hD hS hl
    refine lv_istore (lv' := [(4, .int y0_186), (3, .int x3_186), (2, .int x2_186), (0, .ref h0), (1, .int x)]) hx hb dX13_isGoodBean_186 hl (by decide) rfl (fun ls hl => ?_)
    refine lv_aload_n hx hb dX13_isGoodBean_188 rfl (lv_at hl 3 rfl) ?_
    refine lv_iload_n hx hb dX13_isGoodBean_189 rfl (lv_at hl 4 rfl) ?_
    refine lv_ldc2 (own := RX13) (v := 427020088179) hx hb hown (htb _ kw_900) dX13_isGoodBean_190 ?_
    refine mr_calli (rest := []) ⟨hx, hb, hml, hown, htb⟩ (f_has l dC dI h0 ad cid sg gm lg x 427020088179 hI hsx1_186) (cwV 2 htb (gd_V kw_916 kw_917 kw_918 kw_5 kw_1543) rfl rfl rfl (by decide +kernel) ⟨Nat.le_of_ble_eq_true rfl, Nat.le_of_ble_eq_true rfl⟩) rfl hl.1 rfl (Nat.le_of_ble_eq_true rfl) dX13_isGoodBean_193 ⟨Nat.zero_le _, Nat.zero_le _⟩ hK hP hD hS hA (fun r_83 u_84 H locs hw hP hD hS => ?_)
    obtain ⟨hr_83, fH_r_83, rfl⟩ := hw
    have hP : va_P (dC, dI) vwCl (mW h0 ad cid sg gm lg) H := hP
    have hD : va_D A (mW h0 ad cid sg gm lg) := hD
    refine lv_if_eq (tgt := 214) hx hb dX13_isGoodBean_196 (by decide) (fun c_85 => ?_) (fun c_85 => ?_)
    · have h_86 : iv 0 0 r_83 := iv_eq c_85 hr_83 (iv_k (by decide) : iv 0 0 0) (by decide)
      exact hj214 y0_186 x3_186 x2_186 hy0_186 hx3_186 hx2_186 hsx1_186 _ _ _ hP hD hS (lv_sub hl [0, 1, 2, 3, 4] rfl)
    · have h_87 : iv 1 1 r_83 := iv_neL c_85 hr_83 (by decide)
      refine lv_aload_n hx hb dX13_isGoodBean_199 rfl (lv_at hl 3 rfl) ?_
      refine lv_iload_n hx hb dX13_isGoodBean_200 rfl (lv_at hl 4 rfl) ?_
      refine lv_ldc2 (own := RX13) (v := 427020088179) hx hb hown (htb _ kw_900) dX13_isGoodBean_201 ?_
      refine mr_calll (rest := []) ⟨hx, hb, hml, hown, htb⟩ (f_word l dC dI h0 ad cid sg gm lg x 427020088179 hI hsx1_186) (cwV 2 htb (gd_V kw_923 kw_924 kw_925 kw_5 kw_1545) rfl rfl rfl (by decide +kernel) ⟨Nat.le_of_ble_eq_true rfl, Nat.le_of_ble_eq_true rfl⟩) rfl hl.1 rfl (Nat.le_of_ble_eq_true rfl) dX13_isGoodBean_204 ⟨Nat.zero_le _, Nat.zero_le _⟩ hK hP hD hS hA (fun r_88 u_89 H locs hw hP hD hS => ?_)
      obtain ⟨fW_r_88, rfl⟩ := hw
      have hP : va_P (dC, dI) vwCl (mW h0 ad cid sg gm lg) H := hP
      have hD : va_D A (mW h0 ad cid sg gm lg) := hD
      have hPc := hP.sub (ws' := []) [] rfl
      have hDc := hD.sub (ws' := []) [] (by decide) rfl
      have hKc := hK.sub (tys' := []) [] rfl
      have hFc := va_free (wc := []) hD hS hA [] rfl
      refine va_calli (va_runS (As := [.long r_88]) (rest := []) ⟨hx, hb, hml, hown, htb⟩ (a_classIn l dC dI H.size r_88) (va_cwS 1 htb (gd_S kw_927 kw_928 kw_5 kw_1546) rfl rfl rfl (by decide +kernel) ⟨Nat.le_of_ble_eq_true rfl, Nat.le_of_ble_eq_true rfl⟩) ⟨fun a U g mk q => by obtain ⟨q0, q1, qP, qK, qD⟩ := q; exact ⟨q0, q1, qP, va_K.moved (u := U) (U := U.calling g mk a) (Vm.Alike.refl U.vm) qK, qD⟩, fun U hU hW => ⟨rfl, by rw [hU], by rw [hU]; exact hPc, va_K.moved hW.alike hKc, hDc.weaken (fun _ _ _ _ => trivial)⟩⟩ rfl rfl hl.1 rfl (lv_room (Nat.le_of_ble_eq_true rfl)) dX13_isGoodBean_207 ⟨Nat.zero_le _, Nat.zero_le _⟩) hS (fun q _ h => hFc q h) hFc (fun r_90 u9 t H1 locs ht hvm hw hB hz1 hk1 hS => ?_)
      have hP := ms_kept hP hz1 hk1
      generalize H1 = H at hP hS ⊢
      have hr_90 := hw
      refine lv_iconst (v := (-1)) hx hb dX13_isGoodBean_210 (by decide) ?_
      refine lv_icmp_eq (tgt := 257) hx hb dX13_isGoodBean_211 (by decide) (fun c_91 => ?_) (fun c_91 => ?_)
      · have h_92 : iv (-1) (-1) r_90 := iv_eq c_91 hr_90 (iv_k (by decide) : iv (-1) (-1) (-1)) (by decide)
        exact hj257 y0_186 x3_186 x2_186 hy0_186 hx3_186 hx2_186 hsx1_186 _ _ _ hP hD hS (lv_sub hl [0, 1, 2, 3, 4] rfl)
      · have h_93 : iv 0 7 r_90 := iv_neL c_91 hr_90 (by decide)
        exact hj214 y0_186 x3_186 x2_186 hy0_186 hx3_186 hx2_186 hsx1_186 _ _ _ hP hD hS (lv_sub hl [0, 1, 2, 3, 4] rfl)
  have hj181 : ∀ (x3_181 : Int32) (x2_181 : Int32) (_ : iv 0 1 x3_181) (_ : iv 0 1 x2_181) (_ : iv 0 79 x) (H : Heap) (locs : List Loc) (ls : Array Slot), va_P (dC, dI) vwCl (mW h0 ad cid sg gm lg) H → va_D A (mW h0 ad cid sg gm lg) → va_S A s.heap H locs → lv_has ls 8 [(3, .int x3_181), (2, .int x2_181), (0, .ref h0), (1, .int x)] → W p l e (headSpec wm_X13_isGoodBean ({ frames := 3, cells := 0, slots := 0, locals := 76 })).room s m ([.ref h0, .int x] : List Value).toArray below meth c H locs 0 0 (MQ below (va_Qi (fun r v => (iv 0 1 r) ∧ v = (sg, gm, lg)) (MB dC dI h0 ad cid A) A) ([.ref h0, .int x] : List Value).toArray s 0 0 A) (F0 m 181 ls []) := by
    intro x3_181 x2_181 hx3_181 hx2_181 hsx1_181 H locs ls hP hD hS hl
    refine lv_iconst (v := 1) hx hb dX13_isGoodBean_181 (by decide) ?_
    refine lv_goto (tgt := 186) hx hb dX13_isGoodBean_182 (by decide) ?_
    exact hj186 x3_181 x2_181 1 hx3_181 hx2_181 hsx1_181 (iv_w (iv_k (by decide) : iv 1 1 1) (by decide)) _ _ _ hP hD hS (lv_sub hl [0, 1, 2, 3] rfl)
  have hj185 : ∀ (x3_185 : Int32) (x2_185 : Int32) (_ : iv 0 1 x3_185) (_ : iv 0 1 x2_185) (_ : iv 0 79 x) (H : Heap) (locs : List Loc) (ls : Array Slot), va_P (dC, dI) vwCl (mW h0 ad cid sg gm lg) H → va_D A (mW h0 ad cid sg gm lg) → va_S A s.heap H locs → lv_has ls 8 [(3, .int x3_185), (2, .int x2_185), (0, .ref h0), (1, .int x)] → W p l e (headSpec wm_X13_isGoodBean ({ frames := 3, cells := 0, slots := 0, locals := 76 })).room s m ([.ref h0, .int x] : List Value).toArray below meth c H locs 0 0 (MQ below (va_Qi (fun r v => (iv 0 1 r) ∧ v = (sg, gm, lg)) (MB dC dI h0 ad cid A) A) ([.ref h0, .int x] : List Value).toArray s 0 0 A) (F0 m 185 ls []) := by
    intro x3_185 x2_185 hx3_185 hx2_185 hsx1_185 H locs ls hP hD hS hl
    refine lv_iconst (v := 0) hx hb dX13_isGoodBean_185 (by decide) ?_
    exact hj186 x3_185 x2_185 0 hx3_185 hx2_185 hsx1_185 (iv_w (iv_k (by decide) : iv 0 0 0) (by decide)) _ _ _ hP hD hS (lv_sub hl [0, 1, 2, 3] rfl)
  have hj159 : ∀ (x3_159 : Int32) (x2_159 : Int32) (_ : iv 0 1 x3_159) (_ : iv 0 1 x2_159) (_ : iv 0 79 x) (H : Heap) (locs : List Loc) (ls : Array Slot), va_P (dC, dI) vwCl (mW h0 ad cid sg gm lg) H → va_D A (mW h0 ad cid sg gm lg) → va_S A s.heap H locs → lv_has ls 8 [(3, .int x3_159), (2, .int x2_159), (0, .ref h0), (1, .int x)] → W p l e (headSpec wm_X13_isGoodBean ({ frames := 3, cells := 0, slots := 0, locals := 76 })).room s m ([.ref h0, .int x] : List Value).toArray below meth c H locs 0 0 (MQ below (va_Qi (fun r v => (iv 0 1 r) ∧ v = (sg, gm, lg)) (MB dC dI h0 ad cid A) A) ([.ref h0, .int x] : List Value).toArray s 0 0 A) (F0 m 159 ls []) := by
    intro x3_159 x2_159 hx3_159 hx2_159 hsx1_159 H locs ls hP hD hS hl
    refine lv_aload_n hx hb dX13_isGoodBean_159 rfl (lv_at hl 2 rfl) ?_
    refine lv_iload_n hx hb dX13_isGoodBean_160 rfl (lv_at hl 3 rfl) ?_
    refine lv_ldc2 (own := RX13) (v := 28259044220366713) hx hb hown (htb _ kw_908) dX13_isGoodBean_161 ?_
    refine mr_calli (rest := []) ⟨hx, hb, hml, hown, htb⟩ (f_has l dC dI h0 ad cid sg gm lg x 28259044220366713 hI hsx1_159) (cwV 2 htb (gd_V kw_916 kw_917 kw_918 kw_5 kw_1543) rfl rfl rfl (by decide +kernel) ⟨Nat.le_of_ble_eq_true rfl, Nat.le_of_ble_eq_true rfl⟩) rfl hl.1 rfl (Nat.le_of_ble_eq_true rfl) dX13_isGoodBean_164 ⟨Nat.zero_le _, Nat.zero_le _⟩ hK hP hD hS hA (fun r_94 u_95 H locs hw hP hD hS => ?_)
    obtain ⟨hr_94, fH_r_94, rfl⟩ := hw
    have hP : va_P (dC, dI) vwCl (mW h0 ad cid sg gm lg) H := hP
    have hD : va_D A (mW h0 ad cid sg gm lg) := hD
    refine lv_if_eq (tgt := 181) hx hb dX13_isGoodBean_167 (by decide) (fun c_96 => ?_) (fun c_96 => ?_)
    · have h_97 : iv 0 0 r_94 := iv_eq c_96 hr_94 (iv_k (by decide) : iv 0 0 0) (by decide)
      exact hj181 x3_159 x2_159 hx3_159 hx2_159 hsx1_159 _ _ _ hP hD hS (lv_sub hl [0, 1, 2, 3] rfl)
    · have h_98 : iv 1 1 r_94 := iv_neL c_96 hr_94 (by decide)
      refine lv_aload_n hx hb dX13_isGoodBean_170 rfl (lv_at hl 2 rfl) ?_
      refine lv_iload_n hx hb dX13_isGoodBean_171 rfl (lv_at hl 3 rfl) ?_
      refine lv_ldc2 (own := RX13) (v := 28259044220366713) hx hb hown (htb _ kw_908) dX13_isGoodBean_172 ?_
      refine mr_calli (rest := []) ⟨hx, hb, hml, hown, htb⟩ (f_isOneLetter l dC dI h0 ad cid sg gm lg x 28259044220366713 hI hsx1_159) (cwV 2 htb (gd_V kw_919 kw_920 kw_921 kw_5 kw_1544) rfl rfl rfl (by decide +kernel) ⟨Nat.le_of_ble_eq_true rfl, Nat.le_of_ble_eq_true rfl⟩) rfl hl.1 rfl (Nat.le_of_ble_eq_true rfl) dX13_isGoodBean_175 ⟨Nat.zero_le _, Nat.zero_le _⟩ hK hP hD hS hA (fun r_99 u_100 H locs hw hP hD hS => ?_)
      obtain ⟨hr_99, fO_r_99, rfl⟩ := hw
      have hP : va_P (dC, dI) vwCl (mW h0 ad cid sg gm lg) H := hP
      have hD : va_D A (mW h0 ad cid sg gm lg) := hD
      refine lv_if_eq (tgt := 185) hx hb dX13_isGoodBean_178 (by decide) (fun c_101 => ?_) (fun c_101 => ?_)
      · have h_102 : iv 0 0 r_99 := iv_eq c_101 hr_99 (iv_k (by decide) : iv 0 0 0) (by decide)
        exact hj185 x3_159 x2_159 hx3_159 hx2_159 hsx1_159 _ _ _ hP hD hS (lv_sub hl [0, 1, 2, 3] rfl)
      · have h_103 : iv 1 1 r_99 := iv_neL c_101 hr_99 (by decide)
        exact hj181 x3_159 x2_159 hx3_159 hx2_159 hsx1_159 _ _ _ hP hD hS (lv_sub hl [0, 1, 2, 3] rfl)
  have hj137 : ∀ (x3_137 : Int32) (x2_137 : Int32) (_ : iv 0 1 x3_137) (_ : iv 0 1 x2_137) (_ : iv 0 79 x) (H : Heap) (locs : List Loc) (ls : Array Slot), va_P (dC, dI) vwCl (mW h0 ad cid sg gm lg) H → va_D A (mW h0 ad cid sg gm lg) → va_S A s.heap H locs → lv_has ls 8 [(3, .int x3_137), (2, .int x2_137), (0, .ref h0), (1, .int x)] → W p l e (headSpec wm_X13_isGoodBean ({ frames := 3, cells := 0, slots := 0, locals := 76 })).room s m ([.ref h0, .int x] : List Value).toArray below meth c H locs 0 0 (MQ below (va_Qi (fun r v => (iv 0 1 r) ∧ v = (sg, gm, lg)) (MB dC dI h0 ad cid A) A) ([.ref h0, .int x] : List Value).toArray s 0 0 A) (F0 m 137 ls []) := by
    intro x3_137 x2_137 hx3_137 hx2_137 hsx1_137 H locs ls hP hD hS hl
    refine lv_aload_n hx hb dX13_isGoodBean_137 rfl (lv_at hl 2 rfl) ?_
    refine lv_iload_n hx hb dX13_isGoodBean_138 rfl (lv_at hl 3 rfl) ?_
    refine lv_ldc2 (own := RX13) (v := 1768843636) hx hb hown (htb _ kw_907) dX13_isGoodBean_139 ?_
    refine mr_calli (rest := []) ⟨hx, hb, hml, hown, htb⟩ (f_has l dC dI h0 ad cid sg gm lg x 1768843636 hI hsx1_137) (cwV 2 htb (gd_V kw_916 kw_917 kw_918 kw_5 kw_1543) rfl rfl rfl (by decide +kernel) ⟨Nat.le_of_ble_eq_true rfl, Nat.le_of_ble_eq_true rfl⟩) rfl hl.1 rfl (Nat.le_of_ble_eq_true rfl) dX13_isGoodBean_142 ⟨Nat.zero_le _, Nat.zero_le _⟩ hK hP hD hS hA (fun r_104 u_105 H locs hw hP hD hS => ?_)
    obtain ⟨hr_104, fH_r_104, rfl⟩ := hw
    have hP : va_P (dC, dI) vwCl (mW h0 ad cid sg gm lg) H := hP
    have hD : va_D A (mW h0 ad cid sg gm lg) := hD
    refine lv_if_eq (tgt := 159) hx hb dX13_isGoodBean_145 (by decide) (fun c_106 => ?_) (fun c_106 => ?_)
    · have h_107 : iv 0 0 r_104 := iv_eq c_106 hr_104 (iv_k (by decide) : iv 0 0 0) (by decide)
      exact hj159 x3_137 x2_137 hx3_137 hx2_137 hsx1_137 _ _ _ hP hD hS (lv_sub hl [0, 1, 2, 3] rfl)
    · have h_108 : iv 1 1 r_104 := iv_neL c_106 hr_104 (by decide)
      refine lv_aload_n hx hb dX13_isGoodBean_148 rfl (lv_at hl 2 rfl) ?_
      refine lv_iload_n hx hb dX13_isGoodBean_149 rfl (lv_at hl 3 rfl) ?_
      refine lv_ldc2 (own := RX13) (v := 1768843636) hx hb hown (htb _ kw_907) dX13_isGoodBean_150 ?_
      refine mr_calli (rest := []) ⟨hx, hb, hml, hown, htb⟩ (f_isOneLetter l dC dI h0 ad cid sg gm lg x 1768843636 hI hsx1_137) (cwV 2 htb (gd_V kw_919 kw_920 kw_921 kw_5 kw_1544) rfl rfl rfl (by decide +kernel) ⟨Nat.le_of_ble_eq_true rfl, Nat.le_of_ble_eq_true rfl⟩) rfl hl.1 rfl (Nat.le_of_ble_eq_true rfl) dX13_isGoodBean_153 ⟨Nat.zero_le _, Nat.zero_le _⟩ hK hP hD hS hA (fun r_109 u_110 H locs hw hP hD hS => ?_)
      obtain ⟨hr_109, fO_r_109, rfl⟩ := hw
      have hP : va_P (dC, dI) vwCl (mW h0 ad cid sg gm lg) H := hP
      have hD : va_D A (mW h0 ad cid sg gm lg) := hD
      refine lv_if_eq (tgt := 185) hx hb dX13_isGoodBean_156 (by decide) (fun c_111 => ?_) (fun c_111 => ?_)
      · have h_112 : iv 0 0 r_109 := iv_eq c_111 hr_109 (iv_k (by decide) : iv 0 0 0) (by decide)
        exact hj185 x3_137 x2_137 hx3_137 hx2_137 hsx1_137 _ _ _ hP hD hS (lv_sub hl [0, 1, 2, 3] rfl)
      · have h_113 : iv 1 1 r_109 := iv_neL c_111 hr_109 (by decide)
        exact hj159 x3_137 x2_137 hx3_137 hx2_137 hsx1_137 _ _ _ hP hD hS (lv_sub hl [0, 1, 2, 3] rfl)
  have hj114 : ∀ (x2_114 : Int32) (y0_114 : Int32) (_ : iv 0 1 x2_114) (_ : iv 0 79 x) (_ : iv 0 1 y0_114) (H : Heap) (locs : List Loc) (ls : Array Slot), va_P (dC, dI) vwCl (mW h0 ad cid sg gm lg) H → va_D A (mW h0 ad cid sg gm lg) → va_S A s.heap H locs → lv_has ls 8 [(2, .int x2_114), (0, .ref h0), (1, .int x)] → W p l e (headSpec wm_X13_isGoodBean ({ frames := 3, cells := 0, slots := 0, locals := 76 })).room s m ([.ref h0, .int x] : List Value).toArray below meth c H locs 0 0 (MQ below (va_Qi (fun r v => (iv 0 1 r) ∧ v = (sg, gm, lg)) (MB dC dI h0 ad cid A) A) ([.ref h0, .int x] : List Value).toArray s 0 0 A) (F0 m 114 ls [.int y0_114]) := by
    intro x2_114 y0_114 hx2_114 hsx1_114 hy0_114 H locs ls hP hD hS hl
    refine lv_istore_n (lv' := [(3, .int y0_114), (2, .int x2_114), (0, .ref h0), (1, .int x)]) hx hb dX13_isGoodBean_114 rfl hl (by decide) rfl (fun ls hl => ?_)
    refine lv_aload_n hx hb dX13_isGoodBean_115 rfl (lv_at hl 2 rfl) ?_
    refine lv_iload_n hx hb dX13_isGoodBean_116 rfl (lv_at hl 3 rfl) ?_
    refine lv_ldc2 (own := RX13) (v := 120282512125796) hx hb hown (htb _ kw_906) dX13_isGoodBean_117 ?_
    refine mr_calli (rest := []) ⟨hx, hb, hml, hown, htb⟩ (f_has l dC dI h0 ad cid sg gm lg x 120282512125796 hI hsx1_114) (cwV 2 htb (gd_V kw_916 kw_917 kw_918 kw_5 kw_1543) rfl rfl rfl (by decide +kernel) ⟨Nat.le_of_ble_eq_true rfl, Nat.le_of_ble_eq_true rfl⟩) rfl hl.1 rfl (Nat.le_of_ble_eq_true rfl) dX13_isGoodBean_120 ⟨Nat.zero_le _, Nat.zero_le _⟩ hK hP hD hS hA (fun r_114 u_115 H locs hw hP hD hS => ?_)
    obtain ⟨hr_114, fH_r_114, rfl⟩ := hw
    have hP : va_P (dC, dI) vwCl (mW h0 ad cid sg gm lg) H := hP
    have hD : va_D A (mW h0 ad cid sg gm lg) := hD
    refine lv_if_eq (tgt := 137) hx hb dX13_isGoodBean_123 (by decide) (fun c_116 => ?_) (fun c_116 => ?_)
    · have h_117 : iv 0 0 r_114 := iv_eq c_116 hr_114 (iv_k (by decide) : iv 0 0 0) (by decide)
      exact hj137 y0_114 x2_114 hy0_114 hx2_114 hsx1_114 _ _ _ hP hD hS (lv_sub hl [0, 1, 2, 3] rfl)
    · have h_118 : iv 1 1 r_114 := iv_neL c_116 hr_114 (by decide)
      refine lv_aload_n hx hb dX13_isGoodBean_126 rfl (lv_at hl 2 rfl) ?_
      refine lv_iload_n hx hb dX13_isGoodBean_127 rfl (lv_at hl 3 rfl) ?_
      refine lv_ldc2 (own := RX13) (v := 120282512125796) hx hb hown (htb _ kw_906) dX13_isGoodBean_128 ?_
      refine mr_calli (rest := []) ⟨hx, hb, hml, hown, htb⟩ (f_isOneLetter l dC dI h0 ad cid sg gm lg x 120282512125796 hI hsx1_114) (cwV 2 htb (gd_V kw_919 kw_920 kw_921 kw_5 kw_1544) rfl rfl rfl (by decide +kernel) ⟨Nat.le_of_ble_eq_true rfl, Nat.le_of_ble_eq_true rfl⟩) rfl hl.1 rfl (Nat.le_of_ble_eq_true rfl) dX13_isGoodBean_131 ⟨Nat.zero_le _, Nat.zero_le _⟩ hK hP hD hS hA (fun r_119 u_120 H locs hw hP hD hS => ?_)
      obtain ⟨hr_119, fO_r_119, rfl⟩ := hw
      have hP : va_P (dC, dI) vwCl (mW h0 ad cid sg gm lg) H := hP
      have hD : va_D A (mW h0 ad cid sg gm lg) := hD
      refine lv_if_eq (tgt := 185) hx hb dX13_isGoodBean_134 (by decide) (fun c_121 => ?_) (fun c_121 => ?_)
      · have h_122 : iv 0 0 r_119 := iv_eq c_121 hr_119 (iv_k (by decide) : iv 0 0 0) (by decide)
        exact hj185 y0_114 x2_114 hy0_114 hx2_114 hsx1_114 _ _ _ hP hD hS (lv_sub hl [0, 1, 2, 3] rfl)
      · have h_123 : iv 1 1 r_119 := iv_neL c_121 hr_119 (by decide)
        exact hj137 y0_114 x2_114 hy0_114 hx2_114 hsx1_114 _ _ _ hP hD hS (lv_sub hl [0, 1, 2, 3] rfl)
  have hj109 : ∀ (x2_109 : Int32) (_ : iv 0 1 x2_109) (_ : iv 0 79 x) (H : Heap) (locs : List Loc) (ls : Array Slot), va_P (dC, dI) vwCl (mW h0 ad cid sg gm lg) H → va_D A (mW h0 ad cid sg gm lg) → va_S A s.heap H locs → lv_has ls 8 [(2, .int x2_109), (0, .ref h0), (1, .int x)] → W p l e (headSpec wm_X13_isGoodBean ({ frames := 3, cells := 0, slots := 0, locals := 76 })).room s m ([.ref h0, .int x] : List Value).toArray below meth c H locs 0 0 (MQ below (va_Qi (fun r v => (iv 0 1 r) ∧ v = (sg, gm, lg)) (MB dC dI h0 ad cid A) A) ([.ref h0, .int x] : List Value).toArray s 0 0 A) (F0 m 109 ls []) := by
    intro x2_109 hx2_109 hsx1_109 H locs ls hP hD hS hl
    refine lv_iconst (v := 1) hx hb dX13_isGoodBean_109 (by decide) ?_
    refine lv_goto (tgt := 114) hx hb dX13_isGoodBean_110 (by decide) ?_
    exact hj114 x2_109 1 hx2_109 hsx1_109 (iv_w (iv_k (by decide) : iv 1 1 1) (by decide)) _ _ _ hP hD hS (lv_sub hl [0, 1, 2] rfl)
  have hj113 : ∀ (x2_113 : Int32) (_ : iv 0 1 x2_113) (_ : iv 0 79 x) (H : Heap) (locs : List Loc) (ls : Array Slot), va_P (dC, dI) vwCl (mW h0 ad cid sg gm lg) H → va_D A (mW h0 ad cid sg gm lg) → va_S A s.heap H locs → lv_has ls 8 [(2, .int x2_113), (0, .ref h0), (1, .int x)] → W p l e (headSpec wm_X13_isGoodBean ({ frames := 3, cells := 0, slots := 0, locals := 76 })).room s m ([.ref h0, .int x] : List Value).toArray below meth c H locs 0 0 (MQ below (va_Qi (fun r v => (iv 0 1 r) ∧ v = (sg, gm, lg)) (MB dC dI h0 ad cid A) A) ([.ref h0, .int x] : List Value).toArray s 0 0 A) (F0 m 113 ls []) := by
    intro x2_113 hx2_113 hsx1_113 H locs ls hP hD hS hl
    refine lv_iconst (v := 0) hx hb dX13_isGoodBean_113 (by decide) ?_
    exact hj114 x2_113 0 hx2_113 hsx1_113 (iv_w (iv_k (by decide) : iv 0 0 0) (by decide)) _ _ _ hP hD hS (lv_sub hl [0, 1, 2] rfl)
  have hj87 : ∀ (x2_87 : Int32) (_ : iv 0 1 x2_87) (_ : iv 0 79 x) (H : Heap) (locs : List Loc) (ls : Array Slot), va_P (dC, dI) vwCl (mW h0 ad cid sg gm lg) H → va_D A (mW h0 ad cid sg gm lg) → va_S A s.heap H locs → lv_has ls 8 [(2, .int x2_87), (0, .ref h0), (1, .int x)] → W p l e (headSpec wm_X13_isGoodBean ({ frames := 3, cells := 0, slots := 0, locals := 76 })).room s m ([.ref h0, .int x] : List Value).toArray below meth c H locs 0 0 (MQ below (va_Qi (fun r v => (iv 0 1 r) ∧ v = (sg, gm, lg)) (MB dC dI h0 ad cid A) A) ([.ref h0, .int x] : List Value).toArray s 0 0 A) (F0 m 87 ls []) := by
    intro x2_87 hx2_87 hsx1_87 H locs ls hP hD hS hl
    refine lv_aload_n hx hb dX13_isGoodBean_87 rfl (lv_at hl 1 rfl) ?_
    refine lv_iload_n hx hb dX13_isGoodBean_88 rfl (lv_at hl 2 rfl) ?_
    refine lv_ldc2 (own := RX13) (v := 28259031083541619) hx hb hown (htb _ kw_909) dX13_isGoodBean_89 ?_
    refine mr_calli (rest := []) ⟨hx, hb, hml, hown, htb⟩ (f_has l dC dI h0 ad cid sg gm lg x 28259031083541619 hI hsx1_87) (cwV 2 htb (gd_V kw_916 kw_917 kw_918 kw_5 kw_1543) rfl rfl rfl (by decide +kernel) ⟨Nat.le_of_ble_eq_true rfl, Nat.le_of_ble_eq_true rfl⟩) rfl hl.1 rfl (Nat.le_of_ble_eq_true rfl) dX13_isGoodBean_92 ⟨Nat.zero_le _, Nat.zero_le _⟩ hK hP hD hS hA (fun r_124 u_125 H locs hw hP hD hS => ?_)
    obtain ⟨hr_124, fH_r_124, rfl⟩ := hw
    have hP : va_P (dC, dI) vwCl (mW h0 ad cid sg gm lg) H := hP
    have hD : va_D A (mW h0 ad cid sg gm lg) := hD
    refine lv_if_eq (tgt := 109) hx hb dX13_isGoodBean_95 (by decide) (fun c_126 => ?_) (fun c_126 => ?_)
    · have h_127 : iv 0 0 r_124 := iv_eq c_126 hr_124 (iv_k (by decide) : iv 0 0 0) (by decide)
      exact hj109 x2_87 hx2_87 hsx1_87 _ _ _ hP hD hS (lv_sub hl [0, 1, 2] rfl)
    · have h_128 : iv 1 1 r_124 := iv_neL c_126 hr_124 (by decide)
      refine lv_aload_n hx hb dX13_isGoodBean_98 rfl (lv_at hl 1 rfl) ?_
      refine lv_iload_n hx hb dX13_isGoodBean_99 rfl (lv_at hl 2 rfl) ?_
      refine lv_ldc2 (own := RX13) (v := 28259031083541619) hx hb hown (htb _ kw_909) dX13_isGoodBean_100 ?_
      refine mr_calli (rest := []) ⟨hx, hb, hml, hown, htb⟩ (f_isWord l dC dI h0 ad cid sg gm lg x 28259031083541619 hI hsx1_87) (cwV 2 htb (gd_V kw_910 kw_911 kw_912 kw_5 kw_1541) rfl rfl rfl (by decide +kernel) ⟨Nat.le_of_ble_eq_true rfl, Nat.le_of_ble_eq_true rfl⟩) rfl hl.1 rfl (Nat.le_of_ble_eq_true rfl) dX13_isGoodBean_103 ⟨Nat.zero_le _, Nat.zero_le _⟩ hK hP hD hS hA (fun r_129 u_130 H locs hw hP hD hS => ?_)
      obtain ⟨hr_129, fI_r_129, rfl⟩ := hw
      have hP : va_P (dC, dI) vwCl (mW h0 ad cid sg gm lg) H := hP
      have hD : va_D A (mW h0 ad cid sg gm lg) := hD
      refine lv_if_eq (tgt := 113) hx hb dX13_isGoodBean_106 (by decide) (fun c_131 => ?_) (fun c_131 => ?_)
      · have h_132 : iv 0 0 r_129 := iv_eq c_131 hr_129 (iv_k (by decide) : iv 0 0 0) (by decide)
        exact hj113 x2_87 hx2_87 hsx1_87 _ _ _ hP hD hS (lv_sub hl [0, 1, 2] rfl)
      · have h_133 : iv 1 1 r_129 := iv_neL c_131 hr_129 (by decide)
        exact hj109 x2_87 hx2_87 hsx1_87 _ _ _ hP hD hS (lv_sub hl [0, 1, 2] rfl)
  have hj65 : ∀ (x2_65 : Int32) (_ : iv 0 1 x2_65) (_ : iv 0 79 x) (H : Heap) (locs : List Loc) (ls : Array Slot), va_P (dC, dI) vwCl (mW h0 ad cid sg gm lg) H → va_D A (mW h0 ad cid sg gm lg) → va_S A s.heap H locs → lv_has ls 8 [(2, .int x2_65), (0, .ref h0), (1, .int x)] → W p l e (headSpec wm_X13_isGoodBean ({ frames := 3, cells := 0, slots := 0, locals := 76 })).room s m ([.ref h0, .int x] : List Value).toArray below meth c H locs 0 0 (MQ below (va_Qi (fun r v => (iv 0 1 r) ∧ v = (sg, gm, lg)) (MB dC dI h0 ad cid A) A) ([.ref h0, .int x] : List Value).toArray s 0 0 A) (F0 m 65 ls []) := by
    intro x2_65 hx2_65 hsx1_65 H locs ls hP hD hS hl
    refine lv_aload_n hx hb dX13_isGoodBean_65 rfl (lv_at hl 1 rfl) ?_
    refine lv_iload_n hx hb dX13_isGoodBean_66 rfl (lv_at hl 2 rfl) ?_
    refine lv_ldc2 (own := RX13) (v := 28817527407604345) hx hb hown (htb _ kw_905) dX13_isGoodBean_67 ?_
    refine mr_calli (rest := []) ⟨hx, hb, hml, hown, htb⟩ (f_has l dC dI h0 ad cid sg gm lg x 28817527407604345 hI hsx1_65) (cwV 2 htb (gd_V kw_916 kw_917 kw_918 kw_5 kw_1543) rfl rfl rfl (by decide +kernel) ⟨Nat.le_of_ble_eq_true rfl, Nat.le_of_ble_eq_true rfl⟩) rfl hl.1 rfl (Nat.le_of_ble_eq_true rfl) dX13_isGoodBean_70 ⟨Nat.zero_le _, Nat.zero_le _⟩ hK hP hD hS hA (fun r_134 u_135 H locs hw hP hD hS => ?_)
    obtain ⟨hr_134, fH_r_134, rfl⟩ := hw
    have hP : va_P (dC, dI) vwCl (mW h0 ad cid sg gm lg) H := hP
    have hD : va_D A (mW h0 ad cid sg gm lg) := hD
    refine lv_if_eq (tgt := 87) hx hb dX13_isGoodBean_73 (by decide) (fun c_136 => ?_) (fun c_136 => ?_)
    · have h_137 : iv 0 0 r_134 := iv_eq c_136 hr_134 (iv_k (by decide) : iv 0 0 0) (by decide)
      exact hj87 x2_65 hx2_65 hsx1_65 _ _ _ hP hD hS (lv_sub hl [0, 1, 2] rfl)
    · have h_138 : iv 1 1 r_134 := iv_neL c_136 hr_134 (by decide)
      refine lv_aload_n hx hb dX13_isGoodBean_76 rfl (lv_at hl 1 rfl) ?_
      refine lv_iload_n hx hb dX13_isGoodBean_77 rfl (lv_at hl 2 rfl) ?_
      refine lv_ldc2 (own := RX13) (v := 28817527407604345) hx hb hown (htb _ kw_905) dX13_isGoodBean_78 ?_
      refine mr_calli (rest := []) ⟨hx, hb, hml, hown, htb⟩ (f_isWord l dC dI h0 ad cid sg gm lg x 28817527407604345 hI hsx1_65) (cwV 2 htb (gd_V kw_910 kw_911 kw_912 kw_5 kw_1541) rfl rfl rfl (by decide +kernel) ⟨Nat.le_of_ble_eq_true rfl, Nat.le_of_ble_eq_true rfl⟩) rfl hl.1 rfl (Nat.le_of_ble_eq_true rfl) dX13_isGoodBean_81 ⟨Nat.zero_le _, Nat.zero_le _⟩ hK hP hD hS hA (fun r_139 u_140 H locs hw hP hD hS => ?_)
      obtain ⟨hr_139, fI_r_139, rfl⟩ := hw
      have hP : va_P (dC, dI) vwCl (mW h0 ad cid sg gm lg) H := hP
      have hD : va_D A (mW h0 ad cid sg gm lg) := hD
      refine lv_if_eq (tgt := 113) hx hb dX13_isGoodBean_84 (by decide) (fun c_141 => ?_) (fun c_141 => ?_)
      · have h_142 : iv 0 0 r_139 := iv_eq c_141 hr_139 (iv_k (by decide) : iv 0 0 0) (by decide)
        exact hj113 x2_65 hx2_65 hsx1_65 _ _ _ hP hD hS (lv_sub hl [0, 1, 2] rfl)
      · have h_143 : iv 1 1 r_139 := iv_neL c_141 hr_139 (by decide)
        exact hj87 x2_65 hx2_65 hsx1_65 _ _ _ hP hD hS (lv_sub hl [0, 1, 2] rfl)
  have hj43 : ∀ (x2_43 : Int32) (_ : iv 0 1 x2_43) (_ : iv 0 79 x) (H : Heap) (locs : List Loc) (ls : Array Slot), va_P (dC, dI) vwCl (mW h0 ad cid sg gm lg) H → va_D A (mW h0 ad cid sg gm lg) → va_S A s.heap H locs → lv_has ls 8 [(2, .int x2_43), (0, .ref h0), (1, .int x)] → W p l e (headSpec wm_X13_isGoodBean ({ frames := 3, cells := 0, slots := 0, locals := 76 })).room s m ([.ref h0, .int x] : List Value).toArray below meth c H locs 0 0 (MQ below (va_Qi (fun r v => (iv 0 1 r) ∧ v = (sg, gm, lg)) (MB dC dI h0 ad cid A) A) ([.ref h0, .int x] : List Value).toArray s 0 0 A) (F0 m 43 ls []) := by
    intro x2_43 hx2_43 hsx1_43 H locs ls hP hD hS hl
    refine lv_aload_n hx hb dX13_isGoodBean_43 rfl (lv_at hl 1 rfl) ?_
    refine lv_iload_n hx hb dX13_isGoodBean_44 rfl (lv_at hl 2 rfl) ?_
    refine lv_ldc2 (own := RX13) (v := 123563833388660) hx hb hown (htb _ kw_901) dX13_isGoodBean_45 ?_
    refine mr_calli (rest := []) ⟨hx, hb, hml, hown, htb⟩ (f_has l dC dI h0 ad cid sg gm lg x 123563833388660 hI hsx1_43) (cwV 2 htb (gd_V kw_916 kw_917 kw_918 kw_5 kw_1543) rfl rfl rfl (by decide +kernel) ⟨Nat.le_of_ble_eq_true rfl, Nat.le_of_ble_eq_true rfl⟩) rfl hl.1 rfl (Nat.le_of_ble_eq_true rfl) dX13_isGoodBean_48 ⟨Nat.zero_le _, Nat.zero_le _⟩ hK hP hD hS hA (fun r_144 u_145 H locs hw hP hD hS => ?_)
    obtain ⟨hr_144, fH_r_144, rfl⟩ := hw
    have hP : va_P (dC, dI) vwCl (mW h0 ad cid sg gm lg) H := hP
    have hD : va_D A (mW h0 ad cid sg gm lg) := hD
    refine lv_if_eq (tgt := 65) hx hb dX13_isGoodBean_51 (by decide) (fun c_146 => ?_) (fun c_146 => ?_)
    · have h_147 : iv 0 0 r_144 := iv_eq c_146 hr_144 (iv_k (by decide) : iv 0 0 0) (by decide)
      exact hj65 x2_43 hx2_43 hsx1_43 _ _ _ hP hD hS (lv_sub hl [0, 1, 2] rfl)
    · have h_148 : iv 1 1 r_144 := iv_neL c_146 hr_144 (by decide)
      refine lv_aload_n hx hb dX13_isGoodBean_54 rfl (lv_at hl 1 rfl) ?_
      refine lv_iload_n hx hb dX13_isGoodBean_55 rfl (lv_at hl 2 rfl) ?_
      refine lv_ldc2 (own := RX13) (v := 123563833388660) hx hb hown (htb _ kw_901) dX13_isGoodBean_56 ?_
      refine mr_calli (rest := []) ⟨hx, hb, hml, hown, htb⟩ (f_isWord l dC dI h0 ad cid sg gm lg x 123563833388660 hI hsx1_43) (cwV 2 htb (gd_V kw_910 kw_911 kw_912 kw_5 kw_1541) rfl rfl rfl (by decide +kernel) ⟨Nat.le_of_ble_eq_true rfl, Nat.le_of_ble_eq_true rfl⟩) rfl hl.1 rfl (Nat.le_of_ble_eq_true rfl) dX13_isGoodBean_59 ⟨Nat.zero_le _, Nat.zero_le _⟩ hK hP hD hS hA (fun r_149 u_150 H locs hw hP hD hS => ?_)
      obtain ⟨hr_149, fI_r_149, rfl⟩ := hw
      have hP : va_P (dC, dI) vwCl (mW h0 ad cid sg gm lg) H := hP
      have hD : va_D A (mW h0 ad cid sg gm lg) := hD
      refine lv_if_eq (tgt := 113) hx hb dX13_isGoodBean_62 (by decide) (fun c_151 => ?_) (fun c_151 => ?_)
      · have h_152 : iv 0 0 r_149 := iv_eq c_151 hr_149 (iv_k (by decide) : iv 0 0 0) (by decide)
        exact hj113 x2_43 hx2_43 hsx1_43 _ _ _ hP hD hS (lv_sub hl [0, 1, 2] rfl)
      · have h_153 : iv 1 1 r_149 := iv_neL c_151 hr_149 (by decide)
        exact hj65 x2_43 hx2_43 hsx1_43 _ _ _ hP hD hS (lv_sub hl [0, 1, 2] rfl)
  have hj20 : ∀ (y0_20 : Int32) (_ : iv 0 79 x) (_ : iv 0 1 y0_20) (H : Heap) (locs : List Loc) (ls : Array Slot), va_P (dC, dI) vwCl (mW h0 ad cid sg gm lg) H → va_D A (mW h0 ad cid sg gm lg) → va_S A s.heap H locs → lv_has ls 8 [(0, .ref h0), (1, .int x)] → W p l e (headSpec wm_X13_isGoodBean ({ frames := 3, cells := 0, slots := 0, locals := 76 })).room s m ([.ref h0, .int x] : List Value).toArray below meth c H locs 0 0 (MQ below (va_Qi (fun r v => (iv 0 1 r) ∧ v = (sg, gm, lg)) (MB dC dI h0 ad cid A) A) ([.ref h0, .int x] : List Value).toArray s 0 0 A) (F0 m 20 ls [.int y0_20]) := by
    intro y0_20 hsx1_20 hy0_20 H locs ls hP hD hS hl
    refine lv_istore_n (lv' := [(2, .int y0_20), (0, .ref h0), (1, .int x)]) hx hb dX13_isGoodBean_20 rfl hl (by decide) rfl (fun ls hl => ?_)
    refine lv_aload_n hx hb dX13_isGoodBean_21 rfl (lv_at hl 1 rfl) ?_
    refine lv_iload_n hx hb dX13_isGoodBean_22 rfl (lv_at hl 2 rfl) ?_
    refine lv_ldc2 (own := RX13) (v := 26980) hx hb hown (htb _ kw_899) dX13_isGoodBean_23 ?_
    refine mr_calli (rest := []) ⟨hx, hb, hml, hown, htb⟩ (f_has l dC dI h0 ad cid sg gm lg x 26980 hI hsx1_20) (cwV 2 htb (gd_V kw_916 kw_917 kw_918 kw_5 kw_1543) rfl rfl rfl (by decide +kernel) ⟨Nat.le_of_ble_eq_true rfl, Nat.le_of_ble_eq_true rfl⟩) rfl hl.1 rfl (Nat.le_of_ble_eq_true rfl) dX13_isGoodBean_26 ⟨Nat.zero_le _, Nat.zero_le _⟩ hK hP hD hS hA (fun r_154 u_155 H locs hw hP hD hS => ?_)
    obtain ⟨hr_154, fH_r_154, rfl⟩ := hw
    have hP : va_P (dC, dI) vwCl (mW h0 ad cid sg gm lg) H := hP
    have hD : va_D A (mW h0 ad cid sg gm lg) := hD
    refine lv_if_eq (tgt := 43) hx hb dX13_isGoodBean_29 (by decide) (fun c_156 => ?_) (fun c_156 => ?_)
    · have h_157 : iv 0 0 r_154 := iv_eq c_156 hr_154 (iv_k (by decide) : iv 0 0 0) (by decide)
      exact hj43 y0_20 hy0_20 hsx1_20 _ _ _ hP hD hS (lv_sub hl [0, 1, 2] rfl)
    · have h_158 : iv 1 1 r_154 := iv_neL c_156 hr_154 (by decide)
      refine lv_aload_n hx hb dX13_isGoodBean_32 rfl (lv_at hl 1 rfl) ?_
      refine lv_iload_n hx hb dX13_isGoodBean_33 rfl (lv_at hl 2 rfl) ?_
      refine lv_ldc2 (own := RX13) (v := 26980) hx hb hown (htb _ kw_899) dX13_isGoodBean_34 ?_
      refine mr_calli (rest := []) ⟨hx, hb, hml, hown, htb⟩ (f_isWord l dC dI h0 ad cid sg gm lg x 26980 hI hsx1_20) (cwV 2 htb (gd_V kw_910 kw_911 kw_912 kw_5 kw_1541) rfl rfl rfl (by decide +kernel) ⟨Nat.le_of_ble_eq_true rfl, Nat.le_of_ble_eq_true rfl⟩) rfl hl.1 rfl (Nat.le_of_ble_eq_true rfl) dX13_isGoodBean_37 ⟨Nat.zero_le _, Nat.zero_le _⟩ hK hP hD hS hA (fun r_159 u_160 H locs hw hP hD hS => ?_)
      obtain ⟨hr_159, fI_r_159, rfl⟩ := hw
      have hP : va_P (dC, dI) vwCl (mW h0 ad cid sg gm lg) H := hP
      have hD : va_D A (mW h0 ad cid sg gm lg) := hD
      refine lv_if_eq (tgt := 113) hx hb dX13_isGoodBean_40 (by decide) (fun c_161 => ?_) (fun c_161 => ?_)
      · have h_162 : iv 0 0 r_159 := iv_eq c_161 hr_159 (iv_k (by decide) : iv 0 0 0) (by decide)
        exact hj113 y0_20 hy0_20 hsx1_20 _ _ _ hP hD hS (lv_sub hl [0, 1, 2] rfl)
      · have h_163 : iv 1 1 r_159 := iv_neL c_161 hr_159 (by decide)
        exact hj43 y0_20 hy0_20 hsx1_20 _ _ _ hP hD hS (lv_sub hl [0, 1, 2] rfl)
  refine lv_aload_n hx hb dX13_isGoodBean_0 rfl (lv_at hl 0 rfl) ?_
  refine mr_get (v := .ref (ad 26)) hx hb htb inX13 hown hK hP 26 (by decide) (htb _ kw_182) rfl dX13_isGoodBean_1 ?_
  refine lv_aload_n hx hb dX13_isGoodBean_4 rfl (lv_at hl 0 rfl) ?_
  refine mr_get (v := .ref (ad 28)) hx hb htb inX13 hown hK hP 28 (by decide) (htb _ kw_184) rfl dX13_isGoodBean_5 ?_
  refine lv_iload_n hx hb dX13_isGoodBean_8 rfl (lv_at hl 1 rfl) ?_
  refine mr_iald hx hb hK hP 21 (k := 28) rfl rfl rfl (show vp_in x 80 from (iv_in hvx (by decide))) dX13_isGoodBean_9 ?_
  refine lv_topi (fun z_164 ez_164 => ?_)
  have hz_164 : iv (-1) 79 z_164 := iv_of ez_164 (MI_a hI 28 hvx (by decide))
  have h_165 : iv 0 79 z_164 := ⟨by rw [ez_164]; exact hab, (hz_164).2⟩
  refine mr_iald hx hb hK hP 19 (k := 26) rfl rfl rfl (show vp_in z_164 80 from (iv_in h_165 (by decide))) dX13_isGoodBean_10 ?_
  refine lv_topi (fun z_166 ez_166 => ?_)
  have hz_166 : iv 0 10 z_166 := iv_of ez_166 (MI_a hI 26 h_165 (by decide))
  refine lv_iconst (v := 1) hx hb dX13_isGoodBean_11 (by decide) ?_
  refine lv_icmp_eq (tgt := 19) hx hb dX13_isGoodBean_12 (by decide) (fun c_167 => ?_) (fun c_167 => ?_)
  · have h_168 : iv 1 1 z_166 := iv_eq c_167 hz_166 (iv_k (by decide) : iv 1 1 1) (by decide)
    refine lv_iconst (v := 0) hx hb dX13_isGoodBean_19 (by decide) ?_
    exact hj20 0 hvx (iv_w (iv_k (by decide) : iv 0 0 0) (by decide)) _ _ _ hP hD hS (lv_sub hl [0, 1] rfl)
  · have d_169 : ¬ (z_166 : Int32).toInt = 1 := lv_neT c_167 rfl
    refine lv_iconst (v := 1) hx hb dX13_isGoodBean_15 (by decide) ?_
    refine lv_goto (tgt := 20) hx hb dX13_isGoodBean_16 (by decide) ?_
    exact hj20 1 hvx (iv_w (iv_k (by decide) : iv 1 1 1) (by decide)) _ _ _ hP hD hS (lv_sub hl [0, 1] rfl)
