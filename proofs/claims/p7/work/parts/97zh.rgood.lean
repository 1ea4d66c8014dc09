/-- what an element of its kind must be -/
def GK7 (gm : Nat → Nat → Int32) (lg : Nat → Nat → Int64) (x : Nat) : Prop := (gm 26 x).toInt = 1 ∨ ((gm 26 x).toInt = 2 ∧ ((mIsW gm lg x 1851878757).toInt = 1 ∧ (mIsW gm lg x 29807).toInt = 1 ∧ (gm 29 x).toInt = 0)) ∨ ((gm 26 x).toInt = 3 ∧ ((((mHas gm lg x 26980).toInt = 0 ∨ (mIsW gm lg x 26980).toInt = 1) ∧ ((mHas gm lg x 123563833388660).toInt = 0 ∨ (mIsW gm lg x 123563833388660).toInt = 1) ∧ ((mHas gm lg x 28817527407604345).toInt = 0 ∨ (mIsW gm lg x 28817527407604345).toInt = 1) ∧ ((mHas gm lg x 28259031083541619).toInt = 0 ∨ (mIsW gm lg x 28259031083541619).toInt = 1)) ∧ (((mHas gm lg x 120282512125796).toInt = 0 ∨ ((mIsW gm lg x 120282512125796).toInt = 1 ∧ (mWord gm lg x 120282512125796).toInt < 256)) ∧ ((mHas gm lg x 1768843636).toInt = 0 ∨ ((mIsW gm lg x 1768843636).toInt = 1 ∧ (mWord gm lg x 1768843636).toInt < 256)) ∧ ((mHas gm lg x 28259044220366713).toInt = 0 ∨ ((mIsW gm lg x 28259044220366713).toInt = 1 ∧ (mWord gm lg x 28259044220366713).toInt < 256))) ∧ (((mHas gm lg x 427020088179).toInt = 0 ∨ CLSV (mWord gm lg x 427020088179).toInt) ∧ ((mHas gm lg x 7017298113369039732).toInt = 0 ∨ (mWord gm lg x 7017298113369039732).toInt = 7955827 ∨ (mWord gm lg x 7017298113369039732).toInt = 28271) ∧ ((mHas gm lg x 1818327673).toInt = 0 ∨ (mWord gm lg x 1818327673).toInt = 7955827 ∨ (mWord gm lg x 1818327673).toInt = 28271) ∧ ((mHas gm lg x 495589486693).toInt = 0 ∨ (mWord gm lg x 495589486693).toInt = 7302757 ∨ (mWord gm lg x 495589486693).toInt = 1835101817)) ∧ (((gm 26 (gm 28 x).toNatClampNeg).toInt = 1 ∧ (mHas gm lg x 26980).toInt = 1) ∨ (¬ (gm 26 (gm 28 x).toNatClampNeg).toInt = 1 ∧ (mHas gm lg x 26980).toInt = 0 ∧ (mHas gm lg x 7017298113369039732).toInt = 0 ∧ (mHas gm lg x 1818327673).toInt = 0)) ∧ ((mWord gm lg x 7017298113369039732).toInt = 7955827 ∨ (mHas gm lg x 427020088179).toInt = 1 ∨ (mHas gm lg x 123563833388660).toInt = 1 ∨ (mHas gm lg x 28817527407604345).toInt = 1) ∧ ((mHas gm lg x 28817527407604345).toInt = 0 ∨ (mHas gm lg x 120282512125796).toInt = 1))) ∨ ((gm 26 x).toInt = 4 ∧ ((((mHas gm lg x 508440638821).toInt + (mHas gm lg x 7497062).toInt + (gm 29 x).toInt = 1 ∧ ((mHas gm lg x 7497062).toInt = 0 ∨ (mIsW gm lg x 7497062).toInt = 1)) ∧ (ahF gm lg 0 x x : Int) < 4 ∧ ((mHas gm lg x 24948).toInt = 0 ∨ (48 ≤ (mWord gm lg x 24948).toInt ∧ (mWord gm lg x 24948).toInt ≤ 50))) ∧ ((mHas gm lg x 1954115685).toInt = 0 ∨ ((mWord gm lg x 1954115685).toInt = 6909556 ∨ (mWord gm lg x 1954115685).toInt = 500136506472 ∨ (mWord gm lg x 1954115685).toInt = 1667785074 ∨ (mWord gm lg x 1954115685).toInt = 1952807028 ∨ (mWord gm lg x 1954115685).toInt = 7499639) ∨ ((mHas gm lg x 1954115685).toInt = 1 ∧ CLSV (mWord gm lg x 1954115685).toInt)))) ∨ ((gm 26 x).toInt = 5 ∧ (((mHas gm lg x 508440638821).toInt + (mHas gm lg x 7497062).toInt + (gm 29 x).toInt = 1 ∧ ((mHas gm lg x 7497062).toInt = 0 ∨ (mIsW gm lg x 7497062).toInt = 1)) ∧ ((mIsW gm lg x 1851878757).toInt = 1 ∧ (mWord gm lg x 1851878757).toInt < 256) ∧ (ahF gm lg 0 x x : Int) < 8 ∧ (ahF gm lg 1 x x : Int) = 0)) ∨ ((gm 26 x).toInt = 6 ∧ ((gm 29 x).toInt ≤ 6)) ∨ (((gm 26 x).toInt = 7 ∨ (gm 26 x).toInt = 9) ∧ ((gm 29 x).toInt = 0)) ∨ ((gm 26 x).toInt = 8 ∧ ((mIsW gm lg x 1650811246).toInt = 1 ∧ (gm 29 x).toInt = 0)) ∨ ((gm 26 x).toInt = 10 ∧ (((mIsW gm lg x 1851878757).toInt = 1 ∧ (mWord gm lg x 1851878757).toInt < 256) ∧ (mIsW gm lg x 1650811246).toInt = 1 ∧ (gm 29 x).toInt = 0 ∧ (ahF gm lg 0 x x : Int) < 2 ∧ (ahF gm lg 1 x x : Int) = 0))

theorem GK7_2 {gm : Nat → Nat → Int32} {lg : Nat → Nat → Int64} {x : Nat} (h : (gm 26 x).toInt = 2) : GK7 gm lg x ↔ ((mIsW gm lg x 1851878757).toInt = 1 ∧ (mIsW gm lg x 29807).toInt = 1 ∧ (gm 29 x).toInt = 0) := by
  constructor
  · intro g
    unfold GK7 at g
    rcases g with q | ⟨q, p⟩ | ⟨q, p⟩ | ⟨q, p⟩ | ⟨q, p⟩ | ⟨q, p⟩ | ⟨q, p⟩ | ⟨q, p⟩ | ⟨q, p⟩ <;> first | (clear p; exfalso; omega) | (exfalso; omega) | exact p
  · intro p
    exact Or.inr (Or.inl ⟨h, p⟩)

theorem GK7_3 {gm : Nat → Nat → Int32} {lg : Nat → Nat → Int64} {x : Nat} (h : (gm 26 x).toInt = 3) : GK7 gm lg x ↔ ((((mHas gm lg x 26980).toInt = 0 ∨ (mIsW gm lg x 26980).toInt = 1) ∧ ((mHas gm lg x 123563833388660).toInt = 0 ∨ (mIsW gm lg x 123563833388660).toInt = 1) ∧ ((mHas gm lg x 28817527407604345).toInt = 0 ∨ (mIsW gm lg x 28817527407604345).toInt = 1) ∧ ((mHas gm lg x 28259031083541619).toInt = 0 ∨ (mIsW gm lg x 28259031083541619).toInt = 1)) ∧ (((mHas gm lg x 120282512125796).toInt = 0 ∨ ((mIsW gm lg x 120282512125796).toInt = 1 ∧ (mWord gm lg x 120282512125796).toInt < 256)) ∧ ((mHas gm lg x 1768843636).toInt = 0 ∨ ((mIsW gm lg x 1768843636).toInt = 1 ∧ (mWord gm lg x 1768843636).toInt < 256)) ∧ ((mHas gm lg x 28259044220366713).toInt = 0 ∨ ((mIsW gm lg x 28259044220366713).toInt = 1 ∧ (mWord gm lg x 28259044220366713).toInt < 256))) ∧ (((mHas gm lg x 427020088179).toInt = 0 ∨ CLSV (mWord gm lg x 427020088179).toInt) ∧ ((mHas gm lg x 7017298113369039732).toInt = 0 ∨ (mWord gm lg x 7017298113369039732).toInt = 7955827 ∨ (mWord gm lg x 7017298113369039732).toInt = 28271) ∧ ((mHas gm lg x 1818327673).toInt = 0 ∨ (mWord gm lg x 1818327673).toInt = 7955827 ∨ (mWord gm lg x 1818327673).toInt = 28271) ∧ ((mHas gm lg x 495589486693).toInt = 0 ∨ (mWord gm lg x 495589486693).toInt = 7302757 ∨ (mWord gm lg x 495589486693).toInt = 1835101817)) ∧ (((gm 26 (gm 28 x).toNatClampNeg).toInt = 1 ∧ (mHas gm lg x 26980).toInt = 1) ∨ (¬ (gm 26 (gm 28 x).toNatClampNeg).toInt = 1 ∧ (mHas gm lg x 26980).toInt = 0 ∧ (mHas gm lg x 7017298113369039732).toInt = 0 ∧ (mHas gm lg x 1818327673).toInt = 0)) ∧ ((mWord gm lg x 7017298113369039732).toInt = 7955827 ∨ (mHas gm lg x 427020088179).toInt = 1 ∨ (mHas gm lg x 123563833388660).toInt = 1 ∨ (mHas gm lg x 28817527407604345).toInt = 1) ∧ ((mHas gm lg x 28817527407604345).toInt = 0 ∨ (mHas gm lg x 120282512125796).toInt = 1)) := by
  constructor
  · intro g
    unfold GK7 at g
    rcases g with q | ⟨q, p⟩ | ⟨q, p⟩ | ⟨q, p⟩ | ⟨q, p⟩ | ⟨q, p⟩ | ⟨q, p⟩ | ⟨q, p⟩ | ⟨q, p⟩ <;> first | (clear p; exfalso; omega) | (exfalso; omega) | exact p
  · intro p
    exact Or.inr (Or.inr (Or.inl ⟨h, p⟩))

theorem GK7_4 {gm : Nat → Nat → Int32} {lg : Nat → Nat → Int64} {x : Nat} (h : (gm 26 x).toInt = 4) : GK7 gm lg x ↔ ((((mHas gm lg x 508440638821).toInt + (mHas gm lg x 7497062).toInt + (gm 29 x).toInt = 1 ∧ ((mHas gm lg x 7497062).toInt = 0 ∨ (mIsW gm lg x 7497062).toInt = 1)) ∧ (ahF gm lg 0 x x : Int) < 4 ∧ ((mHas gm lg x 24948).toInt = 0 ∨ (48 ≤ (mWord gm lg x 24948).toInt ∧ (mWord gm lg x 24948).toInt ≤ 50))) ∧ ((mHas gm lg x 1954115685).toInt = 0 ∨ ((mWord gm lg x 1954115685).toInt = 6909556 ∨ (mWord gm lg x 1954115685).toInt = 500136506472 ∨ (mWord gm lg x 1954115685).toInt = 1667785074 ∨ (mWord gm lg x 1954115685).toInt = 1952807028 ∨ (mWord gm lg x 1954115685).toInt = 7499639) ∨ ((mHas gm lg x 1954115685).toInt = 1 ∧ CLSV (mWord gm lg x 1954115685).toInt))) := by
  constructor
  · intro g
    unfold GK7 at g
    rcases g with q | ⟨q, p⟩ | ⟨q, p⟩ | ⟨q, p⟩ | ⟨q, p⟩ | ⟨q, p⟩ | ⟨q, p⟩ | ⟨q, p⟩ | ⟨q, p⟩ <;> first | (clear p; exfalso; omega) | (exfalso; omega) | exact p
  · intro p
    exact Or.inr (Or.inr (Or.inr (Or.inl ⟨h, p⟩)))

theorem GK7_5 {gm : Nat → Nat → Int32} {lg : Nat → Nat → Int64} {x : Nat} (h : (gm 26 x).toInt = 5) : GK7 gm lg x ↔ (((mHas gm lg x 508440638821).toInt + (mHas gm lg x 7497062).toInt + (gm 29 x).toInt = 1 ∧ ((mHas gm lg x 7497062).toInt = 0 ∨ (mIsW gm lg x 7497062).toInt = 1)) ∧ ((mIsW gm lg x 1851878757).toInt = 1 ∧ (mWord gm lg x 1851878757).toInt < 256) ∧ (ahF gm lg 0 x x : Int) < 8 ∧ (ahF gm lg 1 x x : Int) = 0) := by
  constructor
  · intro g
    unfold GK7 at g
    rcases g with q | ⟨q, p⟩ | ⟨q, p⟩ | ⟨q, p⟩ | ⟨q, p⟩ | ⟨q, p⟩ | ⟨q, p⟩ | ⟨q, p⟩ | ⟨q, p⟩ <;> first | (clear p; exfalso; omega) | (exfalso; omega) | exact p
  · intro p
    exact Or.inr (Or.inr (Or.inr (Or.inr (Or.inl ⟨h, p⟩))))

theorem GK7_6 {gm : Nat → Nat → Int32} {lg : Nat → Nat → Int64} {x : Nat} (h : (gm 26 x).toInt = 6) : GK7 gm lg x ↔ ((gm 29 x).toInt ≤ 6) := by
  constructor
  · intro g
    unfold GK7 at g
    rcases g with q | ⟨q, p⟩ | ⟨q, p⟩ | ⟨q, p⟩ | ⟨q, p⟩ | ⟨q, p⟩ | ⟨q, p⟩ | ⟨q, p⟩ | ⟨q, p⟩ <;> first | (clear p; exfalso; omega) | (exfalso; omega) | exact p
  · intro p
    exact Or.inr (Or.inr (Or.inr (Or.inr (Or.inr (Or.inl ⟨h, p⟩)))))

theorem GK7_7 {gm : Nat → Nat → Int32} {lg : Nat → Nat → Int64} {x : Nat} (h : ((gm 26 x).toInt = 7 ∨ (gm 26 x).toInt = 9)) : GK7 gm lg x ↔ ((gm 29 x).toInt = 0) := by
  constructor
  · intro g
    unfold GK7 at g
    rcases g with q | ⟨q, p⟩ | ⟨q, p⟩ | ⟨q, p⟩ | ⟨q, p⟩ | ⟨q, p⟩ | ⟨q, p⟩ | ⟨q, p⟩ | ⟨q, p⟩ <;> first | (clear p; exfalso; omega) | (exfalso; omega) | exact p
  · intro p
    exact Or.inr (Or.inr (Or.inr (Or.inr (Or.inr (Or.inr (Or.inl ⟨h, p⟩))))))

theorem GK7_8 {gm : Nat → Nat → Int32} {lg : Nat → Nat → Int64} {x : Nat} (h : (gm 26 x).toInt = 8) : GK7 gm lg x ↔ ((mIsW gm lg x 1650811246).toInt = 1 ∧ (gm 29 x).toInt = 0) := by
  constructor
  · intro g
    unfold GK7 at g
    rcases g with q | ⟨q, p⟩ | ⟨q, p⟩ | ⟨q, p⟩ | ⟨q, p⟩ | ⟨q, p⟩ | ⟨q, p⟩ | ⟨q, p⟩ | ⟨q, p⟩ <;> first | (clear p; exfalso; omega) | (exfalso; omega) | exact p
  · intro p
    exact Or.inr (Or.inr (Or.inr (Or.inr (Or.inr (Or.inr (Or.inr (Or.inl ⟨h, p⟩)))))))

theorem GK7_10 {gm : Nat → Nat → Int32} {lg : Nat → Nat → Int64} {x : Nat} (h : (gm 26 x).toInt = 10) : GK7 gm lg x ↔ (((mIsW gm lg x 1851878757).toInt = 1 ∧ (mWord gm lg x 1851878757).toInt < 256) ∧ (mIsW gm lg x 1650811246).toInt = 1 ∧ (gm 29 x).toInt = 0 ∧ (ahF gm lg 0 x x : Int) < 2 ∧ (ahF gm lg 1 x x : Int) = 0) := by
  constructor
  · intro g
    unfold GK7 at g
    rcases g with q | ⟨q, p⟩ | ⟨q, p⟩ | ⟨q, p⟩ | ⟨q, p⟩ | ⟨q, p⟩ | ⟨q, p⟩ | ⟨q, p⟩ | ⟨q, p⟩ <;> first | (clear p; exfalso; omega) | (exfalso; omega) | exact p
  · intro p
    exact Or.inr (Or.inr (Or.inr (Or.inr (Or.inr (Or.inr (Or.inr (Or.inr (⟨h, p⟩))))))))

def COM7 (gm : Nat → Nat → Int32) (lg : Nat → Nat → Int64) (x : Nat) : Prop := (INP7 ((gm 26 x).toInt) (abk gm x) ∧ ((gm 26 x).toInt = 7 ∨ (gm 31 x).toInt ≤ 0)) ∧ ∀ k, 0 ≤ k → k < (gm 30 x).toNatClampNeg → ALW ((gm 26 x).toInt) (lg 35 (12 * x + k)).toInt
def GOOD7 (gm : Nat → Nat → Int32) (lg : Nat → Nat → Int64) (x : Nat) : Prop := COM7 gm lg x ∧ GK7 gm lg x

set_option maxHeartbeats 4000000 in
set_option maxRecDepth 100000 in
theorem f_isGood2 (l : Launch) (dC : Nat → ClassId) (dI : Nat → Nat → Nat) (h0 : Nat) (ad : Nat → Nat) (cid : Nat → ClassId) (sg : Nat → Int32) (gm : Nat → Nat → Int32) (lg : Nat → Nat → Int64) (x : Int32) (hI : MI sg gm) (hvx : iv 0 79 x) (hg : 0 ≤ (gm 28 x.toNatClampNeg).toInt ∨ (gm 26 x.toNatClampNeg).toInt = 1) (hwd : WRD7 (lg 0) (lg 1)) : MMi l dC dI yX13_isGood wm_X13_isGood ({ frames := 4, cells := 0, slots := 0, locals := 103 }) h0 ad cid [.int x] sg gm lg (fun r v => (iv 0 1 r) ∧ ((r.toInt = 1 ∧ (GOOD7 gm lg x.toNatClampNeg)) ∨ (r.toInt = 0 ∧ ¬ (GOOD7 gm lg x.toNatClampNeg))) ∧ v = (sg, gm, lg)) := by
  intro sz
  refine Met.ofW (cc := cX13_isGood) (maxL := 3) (ret := (some .boolean)) (by decide) rfl ?_
  intro p e s m args below meth c s₁ B hml hv
  obtain ⟨rfl, hsz, hP, hK, hD0⟩ := hv
  have hx := B.exec
  have hb := B.bytes
  have hr := B.returns
  have hts := atoms_spec (ws := wm_X13_isGood) B.pre
  have htb := fun (w : Cond) (h : w ∈ tb) => hts w (List.mem_cons_of_mem _ h)
  have hown : s.vm.findClass RX13 = some m.cls := findClass_of_methodNamed B.named
  have hlocks := B.notSynchronized
  subst hsz
  have hD := hD0.self (sz := s.heap.size)
  generalize hAe : va_A (mW h0 ad cid sg gm lg) s.heap.size = A at hD ⊢
  have hA : ∀ q : Nat, s.heap.size ≤ q → A q := fun q h => by rw [← hAe]; exact Or.inr h
  have hS : va_S A s.heap s.heap [] := va_S.rf
  have hl := lv_entry ([.ref h0, .int x]) (n := 3) (Nat.le_of_ble_eq_true rfl)
  rw [lg_entry_eq]
  generalize (lg_sl ([.ref h0, .int x]) ++ List.replicate (3 - (lg_sl ([.ref h0, .int x])).length) Slot.unset).toArray = ls at hl ⊢
  have hl : lv_has ls 3 [(0, .ref h0), (1, .int x)] := hl
  have hj28 : ∀ (_ : iv 0 79 x) (_ : ¬ (INP7 ((gm 26 x.toNatClampNeg).toInt) (abk gm x.toNatClampNeg) ∧ ((gm 26 x.toNatClampNeg).toInt = 7 ∨ (gm 31 x.toNatClampNeg).toInt ≤ 0))) (H : Heap) (locs : List Loc) (ls : Array Slot), va_P (dC, dI) vwCl (mW h0 ad cid sg gm lg) H → va_D A (mW h0 ad cid sg gm lg) → va_S A s.heap H locs → lv_has ls 3 [(0, .ref h0), (1, .int x)] → W p l e (headSpec wm_X13_isGood ({ frames := 4, cells := 0, slots := 0, locals := 103 })).room s m ([.ref h0, .int x] : List Value).toArray below meth c H locs 0 0 (MQ below (va_Qi (fun r v => (iv 0 1 r) ∧ ((r.toInt = 1 ∧ (GOOD7 gm lg x.toNatClampNeg)) ∨ (r.toInt = 0 ∧ ¬ (GOOD7 gm lg x.toNatClampNeg))) ∧ v = (sg, gm, lg)) (MB dC dI h0 ad cid A) A) ([.ref h0, .int x] : List Value).toArray s 0 0 A) (F0 m 28 ls []) := by
    intro  hsx1_28 u28 H locs ls hP hD hS hl
    refine lv_iconst (v := 0) hx hb dX13_isGood_28 (by decide) ?_
    exact W.zret (v := 0) hx hb hr (iv_nb (iv_w (iv_k (by decide) : iv 0 0 0) (by decide))) (fun t ht hW => ⟨⟨0, (sg, gm, lg), rfl, ⟨(iv_w (iv_k (by decide) : iv 0 0 0) (by decide)), (Or.inr ⟨rfl, fun h => u28 h.1.1⟩), rfl⟩, by rw [ht]; exact hP, va_K.moved hW.alike hK, hD⟩, hS.F ht⟩) hS.2.2 dX13_isGood_29
  have hj168 : ∀ (x2_168 : Int32) (y0_168 : Int32) (_ : iv 0 12 x2_168) (_ : iv 0 79 x) (_ : iv 0 1 y0_168) (_ : (y0_168.toInt = 1 ∧ (GOOD7 gm lg x.toNatClampNeg)) ∨ (y0_168.toInt = 0 ∧ ¬ (GOOD7 gm lg x.toNatClampNeg))) (H : Heap) (locs : List Loc) (ls : Array Slot), va_P (dC, dI) vwCl (mW h0 ad cid sg gm lg) H → va_D A (mW h0 ad cid sg gm lg) → va_S A s.heap H locs → lv_has ls 3 [(2, .int x2_168), (0, .ref h0), (1, .int x)] → W p l e (headSpec wm_X13_isGood ({ frames := 4, cells := 0, slots := 0, locals := 103 })).room s m ([.ref h0, .int x] : List Value).toArray below meth c H locs 0 0 (MQ below (va_Qi (fun r v => (iv 0 1 r) ∧ ((r.toInt = 1 ∧ (GOOD7 gm lg x.toNatClampNeg)) ∨ (r.toInt = 0 ∧ ¬ (GOOD7 gm lg x.toNatClampNeg))) ∧ v = (sg, gm, lg)) (MB dC dI h0 ad cid A) A) ([.ref h0, .int x] : List Value).toArray s 0 0 A) (F0 m 168 ls [.int y0_168]) := by
    intro x2_168 y0_168 hx2_168 hsx1_168 hy0_168 u168 H locs ls hP hD hS hl
    exact W.zret (v := y0_168) hx hb hr (iv_nb hy0_168) (fun t ht hW => ⟨⟨y0_168, (sg, gm, lg), rfl, ⟨hy0_168, (u168), rfl⟩, by rw [ht]; exact hP, va_K.moved hW.alike hK, hD⟩, hS.F ht⟩) hS.2.2 dX13_isGood_168
  have hj167 : ∀ (x2_167 : Int32) (_ : iv 0 12 x2_167) (_ : iv 0 79 x) (_ : ¬ GOOD7 gm lg x.toNatClampNeg) (H : Heap) (locs : List Loc) (ls : Array Slot), va_P (dC, dI) vwCl (mW h0 ad cid sg gm lg) H → va_D A (mW h0 ad cid sg gm lg) → va_S A s.heap H locs → lv_has ls 3 [(2, .int x2_167), (0, .ref h0), (1, .int x)] → W p l e (headSpec wm_X13_isGood ({ frames := 4, cells := 0, slots := 0, locals := 103 })).room s m ([.ref h0, .int x] : List Value).toArray below meth c H locs 0 0 (MQ below (va_Qi (fun r v => (iv 0 1 r) ∧ ((r.toInt = 1 ∧ (GOOD7 gm lg x.toNatClampNeg)) ∨ (r.toInt = 0 ∧ ¬ (GOOD7 gm lg x.toNatClampNeg))) ∧ v = (sg, gm, lg)) (MB dC dI h0 ad cid A) A) ([.ref h0, .int x] : List Value).toArray s 0 0 A) (F0 m 167 ls []) := by
    intro x2_167 hx2_167 hsx1_167 u167 H locs ls hP hD hS hl
    refine lv_iconst (v := 0) hx hb dX13_isGood_167 (by decide) ?_
    exact hj168 x2_167 0 hx2_167 hsx1_167 (iv_w (iv_k (by decide) : iv 0 0 0) (by decide)) (Or.inr ⟨rfl, u167⟩) _ _ _ hP hD hS (lv_sub hl [0, 1, 2] rfl)
  have hj259 : ∀ (x2_259 : Int32) (y0_259 : Int32) (_ : iv 0 12 x2_259) (_ : iv 0 79 x) (_ : iv 0 1 y0_259) (_ : (y0_259.toInt = 1 ∧ (GOOD7 gm lg x.toNatClampNeg)) ∨ (y0_259.toInt = 0 ∧ ¬ (GOOD7 gm lg x.toNatClampNeg))) (H : Heap) (locs : List Loc) (ls : Array Slot), va_P (dC, dI) vwCl (mW h0 ad cid sg gm lg) H → va_D A (mW h0 ad cid sg gm lg) → va_S A s.heap H locs → lv_has ls 3 [(2, .int x2_259), (0, .ref h0), (1, .int x)] → W p l e (headSpec wm_X13_isGood ({ frames := 4, cells := 0, slots := 0, locals := 103 })).room s m ([.ref h0, .int x] : List Value).toArray below meth c H locs 0 0 (MQ below (va_Qi (fun r v => (iv 0 1 r) ∧ ((r.toInt = 1 ∧ (GOOD7 gm lg x.toNatClampNeg)) ∨ (r.toInt = 0 ∧ ¬ (GOOD7 gm lg x.toNatClampNeg))) ∧ v = (sg, gm, lg)) (MB dC dI h0 ad cid A) A) ([.ref h0, .int x] : List Value).toArray s 0 0 A) (F0 m 259 ls [.int y0_259]) := by
    intro x2_259 y0_259 hx2_259 hsx1_259 hy0_259 u259 H locs ls hP hD hS hl
    exact W.zret (v := y0_259) hx hb hr (iv_nb hy0_259) (fun t ht hW => ⟨⟨y0_259, (sg, gm, lg), rfl, ⟨hy0_259, (u259), rfl⟩, by rw [ht]; exact hP, va_K.moved hW.alike hK, hD⟩, hS.F ht⟩) hS.2.2 dX13_isGood_259
  have hj258 : ∀ (x2_258 : Int32) (_ : iv 0 12 x2_258) (_ : iv 0 79 x) (_ : ¬ GOOD7 gm lg x.toNatClampNeg) (H : Heap) (locs : List Loc) (ls : Array Slot), va_P (dC, dI) vwCl (mW h0 ad cid sg gm lg) H → va_D A (mW h0 ad cid sg gm lg) → va_S A s.heap H locs → lv_has ls 3 [(2, .int x2_258), (0, .ref h0), (1, .int x)] → W p l e (headSpec wm_X13_isGood ({ frames := 4, cells := 0, slots := 0, locals := 103 })).room s m ([.ref h0, .int x] : List Value).toArray below meth c H locs 0 0 (MQ below (va_Qi (fun r v => (iv 0 1 r) ∧ ((r.toInt = 1 ∧ (GOOD7 gm lg x.toNatClampNeg)) ∨ (r.toInt = 0 ∧ ¬ (GOOD7 gm lg x.toNatClampNeg))) ∧ v = (sg, gm, lg)) (MB dC dI h0 ad cid A) A) ([.ref h0, .int x] : List Value).toArray s 0 0 A) (F0 m 258 ls []) := by
    intro x2_258 hx2_258 hsx1_258 u258 H locs ls hP hD hS hl
    refine lv_iconst (v := 0) hx hb dX13_isGood_258 (by decide) ?_
    exact hj259 x2_258 0 hx2_258 hsx1_258 (iv_w (iv_k (by decide) : iv 0 0 0) (by decide)) (Or.inr ⟨rfl, u258⟩) _ _ _ hP hD hS (lv_sub hl [0, 1, 2] rfl)
  have hj254 : ∀ (x2_254 : Int32) (_ : iv 0 12 x2_254) (_ : iv 0 79 x) (_ : GOOD7 gm lg x.toNatClampNeg) (H : Heap) (locs : List Loc) (ls : Array Slot), va_P (dC, dI) vwCl (mW h0 ad cid sg gm lg) H → va_D A (mW h0 ad cid sg gm lg) → va_S A s.heap H locs → lv_has ls 3 [(2, .int x2_254), (0, .ref h0), (1, .int x)] → W p l e (headSpec wm_X13_isGood ({ frames := 4, cells := 0, slots := 0, locals := 103 })).room s m ([.ref h0, .int x] : List Value).toArray below meth c H locs 0 0 (MQ below (va_Qi (fun r v => (iv 0 1 r) ∧ ((r.toInt = 1 ∧ (GOOD7 gm lg x.toNatClampNeg)) ∨ (r.toInt = 0 ∧ ¬ (GOOD7 gm lg x.toNatClampNeg))) ∧ v = (sg, gm, lg)) (MB dC dI h0 ad cid A) A) ([.ref h0, .int x] : List Value).toArray s 0 0 A) (F0 m 254 ls []) := by
    intro x2_254 hx2_254 hsx1_254 u254 H locs ls hP hD hS hl
    refine lv_iconst (v := 1) hx hb dX13_isGood_254 (by decide) ?_
    refine lv_goto (tgt := 259) hx hb dX13_isGood_255 (by decide) ?_
    exact hj259 x2_254 1 hx2_254 hsx1_254 (iv_w (iv_k (by decide) : iv 1 1 1) (by decide)) (Or.inl ⟨rfl, u254⟩) _ _ _ hP hD hS (lv_sub hl [0, 1, 2] rfl)
  have hj234 : ∀ (x2_234 : Int32) (_ : iv 0 12 x2_234) (_ : iv 0 79 x) (_ : COM7 gm lg x.toNatClampNeg) (_ : (gm 26 x.toNatClampNeg).toInt = 4) (_ : ((mHas gm lg x.toNatClampNeg 508440638821).toInt + (mHas gm lg x.toNatClampNeg 7497062).toInt + (gm 29 x.toNatClampNeg).toInt = 1 ∧ ((mHas gm lg x.toNatClampNeg 7497062).toInt = 0 ∨ (mIsW gm lg x.toNatClampNeg 7497062).toInt = 1)) ∧ (ahF gm lg 0 x.toNatClampNeg x.toNatClampNeg : Int) < 4 ∧ ((mHas gm lg x.toNatClampNeg 24948).toInt = 0 ∨ (48 ≤ (mWord gm lg x.toNatClampNeg 24948).toInt ∧ (mWord gm lg x.toNatClampNeg 24948).toInt ≤ 50))) (H : Heap) (locs : List Loc) (ls : Array Slot), va_P (dC, dI) vwCl (mW h0 ad cid sg gm lg) H → va_D A (mW h0 ad cid sg gm lg) → va_S A s.heap H locs → lv_has ls 3 [(2, .int x2_234), (0, .ref h0), (1, .int x)] → W p l e (headSpec wm_X13_isGood ({ frames := 4, cells := 0, slots := 0, locals := 103 })).room s m ([.ref h0, .int x] : List Value).toArray below meth c H locs 0 0 (MQ below (va_Qi (fun r v => (iv 0 1 r) ∧ ((r.toInt = 1 ∧ (GOOD7 gm lg x.toNatClampNeg)) ∨ (r.toInt = 0 ∧ ¬ (GOOD7 gm lg x.toNatClampNeg))) ∧ v = (sg, gm, lg)) (MB dC dI h0 ad cid A) A) ([.ref h0, .int x] : List Value).toArray s 0 0 A) (F0 m 234 ls []) := by
    intro x2_234 hx2_234 hsx1_234 hCO hk u234 H locs ls hP hD hS hl
    refine lv_aload_n hx hb dX13_isGood_234 rfl (lv_at hl 1 rfl) ?_
    refine lv_iload_n hx hb dX13_isGood_235 rfl (lv_at hl 2 rfl) ?_
    refine lv_ldc2 (own := RX13) (v := 1954115685) hx hb hown (htb _ kw_892) dX13_isGood_236 ?_
    refine mr_calli (rest := []) ⟨hx, hb, hml, hown, htb⟩ (f_has l dC dI h0 ad cid sg gm lg x 1954115685 hI hsx1_234) (cwV 2 htb (gd_V kw_916 kw_917 kw_918 kw_5 kw_1543) rfl rfl rfl (by decide +kernel) ⟨Nat.le_of_ble_eq_true rfl, Nat.le_of_ble_eq_true rfl⟩) rfl hl.1 rfl (Nat.le_of_ble_eq_true rfl) dX13_isGood_239 ⟨Nat.zero_le _, Nat.zero_le _⟩ hK hP hD hS hA (fun r_1 u_2 H locs hw hP hD hS => ?_)
    obtain ⟨hr_1, fH_r_1, rfl⟩ := hw
    have hP : va_P (dC, dI) vwCl (mW h0 ad cid sg gm lg) H := hP
    have hD : va_D A (mW h0 ad cid sg gm lg) := hD
    refine lv_if_eq (tgt := 254) hx hb dX13_isGood_242 (by decide) (fun c_3 => ?_) (fun c_3 => ?_)
    · have h_4 : iv 0 0 r_1 := iv_eq c_3 hr_1 (iv_k (by decide) : iv 0 0 0) (by decide)
      exact hj254 x2_234 hx2_234 hsx1_234 (⟨hCO, (GK7_4 (x := x.toNatClampNeg) hk).mpr ⟨u234, (by have := congrArg Int32.toInt fH_r_1; have := (mHas_iv (gm := gm) (lg := lg) (x := x.toNatClampNeg) 24948).1; have := (mHas_iv (gm := gm) (lg := lg) (x := x.toNatClampNeg) 24948).2; have := (mHas_iv (gm := gm) (lg := lg) (x := x.toNatClampNeg) 1954115685).1; have := (mHas_iv (gm := gm) (lg := lg) (x := x.toNatClampNeg) 1954115685).2; have := i32_0; have := i32_1; have := i32_2; have := i32_m1; have := (hsx1_234).1; have := (hsx1_234).2; have := (hx2_234).1; have := (hx2_234).2; have := (h_4).1; have := (h_4).2; omega)⟩⟩) _ _ _ hP hD hS (lv_sub hl [0, 1, 2] rfl)
    · have h_5 : iv 1 1 r_1 := iv_neL c_3 hr_1 (by decide)
      refine lv_aload_n hx hb dX13_isGood_245 rfl (lv_at hl 1 rfl) ?_
      refine lv_iload_n hx hb dX13_isGood_246 rfl (lv_at hl 2 rfl) ?_
      refine mr_calli (rest := []) ⟨hx, hb, hml, hown, htb⟩ (f_typeIn2 l dC dI h0 ad cid sg gm lg x hI hsx1_234 (WRD7_k hwd rfl rfl)) (cwV 1 htb (gd_V kw_940 kw_941 kw_942 kw_5 kw_1550) rfl rfl rfl (by decide +kernel) ⟨Nat.le_of_ble_eq_true rfl, Nat.le_of_ble_eq_true rfl⟩) rfl hl.1 rfl (Nat.le_of_ble_eq_true rfl) dX13_isGood_247 ⟨Nat.zero_le _, Nat.zero_le _⟩ hK hP hD hS hA (fun r_6 u_7 H locs hw hP hD hS => ?_)
      obtain ⟨hr_6, fT_r_6, rfl⟩ := hw
      have hP : va_P (dC, dI) vwCl (mW h0 ad cid sg gm lg) H := hP
      have hD : va_D A (mW h0 ad cid sg gm lg) := hD
      refine lv_iconst (v := (-1)) hx hb dX13_isGood_250 (by decide) ?_
      refine lv_icmp_eq (tgt := 258) hx hb dX13_isGood_251 (by decide) (fun c_8 => ?_) (fun c_8 => ?_)
      · have h_9 : iv (-1) (-1) r_6 := iv_eq c_8 hr_6 (iv_k (by decide) : iv (-1) (-1) (-1)) (by decide)
        exact hj258 x2_234 hx2_234 hsx1_234 ((fun h => by have p := (GK7_4 (x := x.toNatClampNeg) hk).mp h.2; have := congrArg Int32.toInt fH_r_1; have := (mHas_iv (gm := gm) (lg := lg) (x := x.toNatClampNeg) 24948).1; have := (mHas_iv (gm := gm) (lg := lg) (x := x.toNatClampNeg) 24948).2; have := (mHas_iv (gm := gm) (lg := lg) (x := x.toNatClampNeg) 1954115685).1; have := (mHas_iv (gm := gm) (lg := lg) (x := x.toNatClampNeg) 1954115685).2; have := i32_0; have := i32_1; have := i32_2; have := i32_m1; have := (hsx1_234).1; have := (hsx1_234).2; have := (hx2_234).1; have := (hx2_234).2; have := (h_5).1; have := (h_5).2; have := (h_9).1; have := (h_9).2; omega)) _ _ _ hP hD hS (lv_sub hl [0, 1, 2] rfl)
      · have h_10 : iv 0 15 r_6 := iv_neL c_8 hr_6 (by decide)
        exact hj254 x2_234 hx2_234 hsx1_234 (⟨hCO, (GK7_4 (x := x.toNatClampNeg) hk).mpr ⟨u234, (by have := congrArg Int32.toInt fH_r_1; have := (mHas_iv (gm := gm) (lg := lg) (x := x.toNatClampNeg) 24948).1; have := (mHas_iv (gm := gm) (lg := lg) (x := x.toNatClampNeg) 24948).2; have := (mHas_iv (gm := gm) (lg := lg) (x := x.toNatClampNeg) 1954115685).1; have := (mHas_iv (gm := gm) (lg := lg) (x := x.toNatClampNeg) 1954115685).2; have := i32_0; have := i32_1; have := i32_2; have := i32_m1; have := (hsx1_234).1; have := (hsx1_234).2; have := (hx2_234).1; have := (hx2_234).2; have := (h_5).1; have := (h_5).2; have := (h_10).1; have := (h_10).2; omega)⟩⟩) _ _ _ hP hD hS (lv_sub hl [0, 1, 2] rfl)
  have hj304 : ∀ (x2_304 : Int32) (y0_304 : Int32) (_ : iv 0 12 x2_304) (_ : iv 0 79 x) (_ : iv 0 1 y0_304) (_ : (y0_304.toInt = 1 ∧ (GOOD7 gm lg x.toNatClampNeg)) ∨ (y0_304.toInt = 0 ∧ ¬ (GOOD7 gm lg x.toNatClampNeg))) (H : Heap) (locs : List Loc) (ls : Array Slot), va_P (dC, dI) vwCl (mW h0 ad cid sg gm lg) H → va_D A (mW h0 ad cid sg gm lg) → va_S A s.heap H locs → lv_has ls 3 [(2, .int x2_304), (0, .ref h0), (1, .int x)] → W p l e (headSpec wm_X13_isGood ({ frames := 4, cells := 0, slots := 0, locals := 103 })).room s m ([.ref h0, .int x] : List Value).toArray below meth c H locs 0 0 (MQ below (va_Qi (fun r v => (iv 0 1 r) ∧ ((r.toInt = 1 ∧ (GOOD7 gm lg x.toNatClampNeg)) ∨ (r.toInt = 0 ∧ ¬ (GOOD7 gm lg x.toNatClampNeg))) ∧ v = (sg, gm, lg)) (MB dC dI h0 ad cid A) A) ([.ref h0, .int x] : List Value).toArray s 0 0 A) (F0 m 304 ls [.int y0_304]) := by
    intro x2_304 y0_304 hx2_304 hsx1_304 hy0_304 u304 H locs ls hP hD hS hl
    exact W.zret (v := y0_304) hx hb hr (iv_nb hy0_304) (fun t ht hW => ⟨⟨y0_304, (sg, gm, lg), rfl, ⟨hy0_304, (u304), rfl⟩, by rw [ht]; exact hP, va_K.moved hW.alike hK, hD⟩, hS.F ht⟩) hS.2.2 dX13_isGood_304
  have hj303 : ∀ (x2_303 : Int32) (_ : iv 0 12 x2_303) (_ : iv 0 79 x) (_ : ¬ GOOD7 gm lg x.toNatClampNeg) (H : Heap) (locs : List Loc) (ls : Array Slot), va_P (dC, dI) vwCl (mW h0 ad cid sg gm lg) H → va_D A (mW h0 ad cid sg gm lg) → va_S A s.heap H locs → lv_has ls 3 [(2, .int x2_303), (0, .ref h0), (1, .int x)] → W p l e (headSpec wm_X13_isGood ({ frames := 4, cells := 0, slots := 0, locals := 103 })).room s m ([.ref h0, .int x] : List Value).toArray below meth c H locs 0 0 (MQ below (va_Qi (fun r v => (iv 0 1 r) ∧ ((r.toInt = 1 ∧ (GOOD7 gm lg x.toNatClampNeg)) ∨ (r.toInt = 0 ∧ ¬ (GOOD7 gm lg x.toNatClampNeg))) ∧ v = (sg, gm, lg)) (MB dC dI h0 ad cid A) A) ([.ref h0, .int x] : List Value).toArray s 0 0 A) (F0 m 303 ls []) := by
    intro x2_303 hx2_303 hsx1_303 u303 H locs ls hP hD hS hl
    refine lv_iconst (v := 0) hx hb dX13_isGood_303 (by decide) ?_
    exact hj304 x2_303 0 hx2_303 hsx1_303 (iv_w (iv_k (by decide) : iv 0 0 0) (by decide)) (Or.inr ⟨rfl, u303⟩) _ _ _ hP hD hS (lv_sub hl [0, 1, 2] rfl)
  have hj321 : ∀ (x2_321 : Int32) (y0_321 : Int32) (_ : iv 0 12 x2_321) (_ : iv 0 79 x) (_ : iv 0 1 y0_321) (_ : (y0_321.toInt = 1 ∧ (GOOD7 gm lg x.toNatClampNeg)) ∨ (y0_321.toInt = 0 ∧ ¬ (GOOD7 gm lg x.toNatClampNeg))) (H : Heap) (locs : List Loc) (ls : Array Slot), va_P (dC, dI) vwCl (mW h0 ad cid sg gm lg) H → va_D A (mW h0 ad cid sg gm lg) → va_S A s.heap H locs → lv_has ls 3 [(2, .int x2_321), (0, .ref h0), (1, .int x)] → W p l e (headSpec wm_X13_isGood ({ frames := 4, cells := 0, slots := 0, locals := 103 })).room s m ([.ref h0, .int x] : List Value).toArray below meth c H locs 0 0 (MQ below (va_Qi (fun r v => (iv 0 1 r) ∧ ((r.toInt = 1 ∧ (GOOD7 gm lg x.toNatClampNeg)) ∨ (r.toInt = 0 ∧ ¬ (GOOD7 gm lg x.toNatClampNeg))) ∧ v = (sg, gm, lg)) (MB dC dI h0 ad cid A) A) ([.ref h0, .int x] : List Value).toArray s 0 0 A) (F0 m 321 ls [.int y0_321]) := by
    intro x2_321 y0_321 hx2_321 hsx1_321 hy0_321 u321 H locs ls hP hD hS hl
    exact W.zret (v := y0_321) hx hb hr (iv_nb hy0_321) (fun t ht hW => ⟨⟨y0_321, (sg, gm, lg), rfl, ⟨hy0_321, (u321), rfl⟩, by rw [ht]; exact hP, va_K.moved hW.alike hK, hD⟩, hS.F ht⟩) hS.2.2 dX13_isGood_321
  have hj336 : ∀ (x2_336 : Int32) (y0_336 : Int32) (_ : iv 0 12 x2_336) (_ : iv 0 79 x) (_ : iv 0 1 y0_336) (_ : (y0_336.toInt = 1 ∧ (GOOD7 gm lg x.toNatClampNeg)) ∨ (y0_336.toInt = 0 ∧ ¬ (GOOD7 gm lg x.toNatClampNeg))) (H : Heap) (locs : List Loc) (ls : Array Slot), va_P (dC, dI) vwCl (mW h0 ad cid sg gm lg) H → va_D A (mW h0 ad cid sg gm lg) → va_S A s.heap H locs → lv_has ls 3 [(2, .int x2_336), (0, .ref h0), (1, .int x)] → W p l e (headSpec wm_X13_isGood ({ frames := 4, cells := 0, slots := 0, locals := 103 })).room s m ([.ref h0, .int x] : List Value).toArray below meth c H locs 0 0 (MQ below (va_Qi (fun r v => (iv 0 1 r) ∧ ((r.toInt = 1 ∧ (GOOD7 gm lg x.toNatClampNeg)) ∨ (r.toInt = 0 ∧ ¬ (GOOD7 gm lg x.toNatClampNeg))) ∧ v = (sg, gm, lg)) (MB dC dI h0 ad cid A) A) ([.ref h0, .int x] : List Value).toArray s 0 0 A) (F0 m 336 ls [.int y0_336]) := by
    intro x2_336 y0_336 hx2_336 hsx1_336 hy0_336 u336 H locs ls hP hD hS hl
    exact W.zret (v := y0_336) hx hb hr (iv_nb hy0_336) (fun t ht hW => ⟨⟨y0_336, (sg, gm, lg), rfl, ⟨hy0_336, (u336), rfl⟩, by rw [ht]; exact hP, va_K.moved hW.alike hK, hD⟩, hS.F ht⟩) hS.2.2 dX13_isGood_336
  have hj322 : ∀ (x2_322 : Int32) (_ : iv 0 12 x2_322) (_ : iv 0 79 x) (_ : COM7 gm lg x.toNatClampNeg) (_ : ((gm 26 x.toNatClampNeg).toInt = 7 ∨ (gm 26 x.toNatClampNeg).toInt = 9)) (H : Heap) (locs : List Loc) (ls : Array Slot), va_P (dC, dI) vwCl (mW h0 ad cid sg gm lg) H → va_D A (mW h0 ad cid sg gm lg) → va_S A s.heap H locs → lv_has ls 3 [(2, .int x2_322), (0, .ref h0), (1, .int x)] → W p l e (headSpec wm_X13_isGood ({ frames := 4, cells := 0, slots := 0, locals := 103 })).room s m ([.ref h0, .int x] : List Value).toArray below meth c H locs 0 0 (MQ below (va_Qi (fun r v => (iv 0 1 r) ∧ ((r.toInt = 1 ∧ (GOOD7 gm lg x.toNatClampNeg)) ∨ (r.toInt = 0 ∧ ¬ (GOOD7 gm lg x.toNatClampNeg))) ∧ v = (sg, gm, lg)) (MB dC dI h0 ad cid A) A) ([.ref h0, .int x] : List Value).toArray s 0 0 A) (F0 m 322 ls []) := by
    intro x2_322 hx2_322 hsx1_322 hCO hk H locs ls hP hD hS hl
    refine lv_aload_n hx hb dX13_isGood_322 rfl (lv_at hl 1 rfl) ?_
    refine mr_get (v := .ref (ad 29)) hx hb htb inX13 hown hK hP 29 (by decide) (htb _ kw_185) rfl dX13_isGood_323 ?_
    refine lv_iload_n hx hb dX13_isGood_326 rfl (lv_at hl 2 rfl) ?_
    refine mr_iald hx hb hK hP 22 (k := 29) rfl rfl rfl (show vp_in x 80 from (iv_in hsx1_322 (by decide))) dX13_isGood_327 ?_
    refine lv_topi (fun z_11 ez_11 => ?_)
    have hz_11 : iv 0 80 z_11 := iv_of ez_11 (MI_a hI 29 hsx1_322 (by decide))
    refine lv_if_ne (tgt := 335) hx hb dX13_isGood_328 (by decide) (fun c_12 => ?_) (fun c_12 => ?_)
    · have h_13 : iv 1 80 z_11 := iv_neL c_12 hz_11 (by decide)
      refine lv_iconst (v := 0) hx hb dX13_isGood_335 (by decide) ?_
      exact hj336 x2_322 0 hx2_322 hsx1_322 (iv_w (iv_k (by decide) : iv 0 0 0) (by decide)) (Or.inr ⟨rfl, (fun h => by have p := (GK7_7 (x := x.toNatClampNeg) hk).mp h.2; have := congrArg Int32.toInt ez_11; have := (mHas_iv (gm := gm) (lg := lg) (x := x.toNatClampNeg) 24948).1; have := (mHas_iv (gm := gm) (lg := lg) (x := x.toNatClampNeg) 24948).2; have := (mHas_iv (gm := gm) (lg := lg) (x := x.toNatClampNeg) 1954115685).1; have := (mHas_iv (gm := gm) (lg := lg) (x := x.toNatClampNeg) 1954115685).2; have := i32_0; have := i32_1; have := i32_2; have := i32_m1; have := (hsx1_322).1; have := (hsx1_322).2; have := (hx2_322).1; have := (hx2_322).2; have := (h_13).1; have := (h_13).2; omega)⟩) _ _ _ hP hD hS (lv_sub hl [0, 1, 2] rfl)
    · have h_14 : iv 0 0 z_11 := iv_eq c_12 hz_11 (iv_k (by decide) : iv 0 0 0) (by decide)
      refine lv_iconst (v := 1) hx hb dX13_isGood_331 (by decide) ?_
      refine lv_goto (tgt := 336) hx hb dX13_isGood_332 (by decide) ?_
      exact hj336 x2_322 1 hx2_322 hsx1_322 (iv_w (iv_k (by decide) : iv 1 1 1) (by decide)) (Or.inl ⟨rfl, ⟨hCO, (GK7_7 (x := x.toNatClampNeg) hk).mpr (by have := congrArg Int32.toInt ez_11; have := (mHas_iv (gm := gm) (lg := lg) (x := x.toNatClampNeg) 24948).1; have := (mHas_iv (gm := gm) (lg := lg) (x := x.toNatClampNeg) 24948).2; have := (mHas_iv (gm := gm) (lg := lg) (x := x.toNatClampNeg) 1954115685).1; have := (mHas_iv (gm := gm) (lg := lg) (x := x.toNatClampNeg) 1954115685).2; have := i32_0; have := i32_1; have := i32_2; have := i32_m1; have := (hsx1_322).1; have := (hsx1_322).2; have := (hx2_322).1; have := (hx2_322).2; have := (h_14).1; have := (h_14).2; omega)⟩⟩) _ _ _ hP hD hS (lv_sub hl [0, 1, 2] rfl)
  have hj362 : ∀ (x2_362 : Int32) (y0_362 : Int32) (_ : iv 0 12 x2_362) (_ : iv 0 79 x) (_ : iv 0 1 y0_362) (_ : (y0_362.toInt = 1 ∧ (GOOD7 gm lg x.toNatClampNeg)) ∨ (y0_362.toInt = 0 ∧ ¬ (GOOD7 gm lg x.toNatClampNeg))) (H : Heap) (locs : List Loc) (ls : Array Slot), va_P (dC, dI) vwCl (mW h0 ad cid sg gm lg) H → va_D A (mW h0 ad cid sg gm lg) → va_S A s.heap H locs → lv_has ls 3 [(2, .int x2_362), (0, .ref h0), (1, .int x)] → W p l e (headSpec wm_X13_isGood ({ frames := 4, cells := 0, slots := 0, locals := 103 })).room s m ([.ref h0, .int x] : List Value).toArray below meth c H locs 0 0 (MQ below (va_Qi (fun r v => (iv 0 1 r) ∧ ((r.toInt = 1 ∧ (GOOD7 gm lg x.toNatClampNeg)) ∨ (r.toInt = 0 ∧ ¬ (GOOD7 gm lg x.toNatClampNeg))) ∧ v = (sg, gm, lg)) (MB dC dI h0 ad cid A) A) ([.ref h0, .int x] : List Value).toArray s 0 0 A) (F0 m 362 ls [.int y0_362]) := by
    intro x2_362 y0_362 hx2_362 hsx1_362 hy0_362 u362 H locs ls hP hD hS hl
    exact W.zret (v := y0_362) hx hb hr (iv_nb hy0_362) (fun t ht hW => ⟨⟨y0_362, (sg, gm, lg), rfl, ⟨hy0_362, (u362), rfl⟩, by rw [ht]; exact hP, va_K.moved hW.alike hK, hD⟩, hS.F ht⟩) hS.2.2 dX13_isGood_362
  have hj361 : ∀ (x2_361 : Int32) (_ : iv 0 12 x2_361) (_ : iv 0 79 x) (_ : ¬ GOOD7 gm lg x.toNatClampNeg) (H : Heap) (locs : List Loc) (ls : Array Slot), va_P (dC, dI) vwCl (mW h0 ad cid sg gm lg) H → va_D A (mW h0 ad cid sg gm lg) → va_S A s.heap H locs → lv_has ls 3 [(2, .int x2_361), (0, .ref h0), (1, .int x)] → W p l e (headSpec wm_X13_isGood ({ frames := 4, cells := 0, slots := 0, locals := 103 })).room s m ([.ref h0, .int x] : List Value).toArray below meth c H locs 0 0 (MQ below (va_Qi (fun r v => (iv 0 1 r) ∧ ((r.toInt = 1 ∧ (GOOD7 gm lg x.toNatClampNeg)) ∨ (r.toInt = 0 ∧ ¬ (GOOD7 gm lg x.toNatClampNeg))) ∧ v = (sg, gm, lg)) (MB dC dI h0 ad cid A) A) ([.ref h0, .int x] : List Value).toArray s 0 0 A) (F0 m 361 ls []) := by
    intro x2_361 hx2_361 hsx1_361 u361 H locs ls hP hD hS hl
    refine lv_iconst (v := 0) hx hb dX13_isGood_361 (by decide) ?_
    exact hj362 x2_361 0 hx2_361 hsx1_361 (iv_w (iv_k (by decide) : iv 0 0 0) (by decide)) (Or.inr ⟨rfl, u361⟩) _ _ _ hP hD hS (lv_sub hl [0, 1, 2] rfl)
  have hj418 : ∀ (x2_418 : Int32) (y0_418 : Int32) (_ : iv 0 12 x2_418) (_ : iv 0 79 x) (_ : iv 0 1 y0_418) (_ : (y0_418.toInt = 1 ∧ (GOOD7 gm lg x.toNatClampNeg)) ∨ (y0_418.toInt = 0 ∧ ¬ (GOOD7 gm lg x.toNatClampNeg))) (H : Heap) (locs : List Loc) (ls : Array Slot), va_P (dC, dI) vwCl (mW h0 ad cid sg gm lg) H → va_D A (mW h0 ad cid sg gm lg) → va_S A s.heap H locs → lv_has ls 3 [(2, .int x2_418), (0, .ref h0), (1, .int x)] → W p l e (headSpec wm_X13_isGood ({ frames := 4, cells := 0, slots := 0, locals := 103 })).room s m ([.ref h0, .int x] : List Value).toArray below meth c H locs 0 0 (MQ below (va_Qi (fun r v => (iv 0 1 r) ∧ ((r.toInt = 1 ∧ (GOOD7 gm lg x.toNatClampNeg)) ∨ (r.toInt = 0 ∧ ¬ (GOOD7 gm lg x.toNatClampNeg))) ∧ v = (sg, gm, lg)) (MB dC dI h0 ad cid A) A) ([.ref h0, .int x] : List Value).toArray s 0 0 A) (F0 m 418 ls [.int y0_418]) := by
    intro x2_418 y0_418 hx2_418 hsx1_418 hy0_418 u418 H locs ls hP hD hS hl
    exact W.zret (v := y0_418) hx hb hr (iv_nb hy0_418) (fun t ht hW => ⟨⟨y0_418, (sg, gm, lg), rfl, ⟨hy0_418, (u418), rfl⟩, by rw [ht]; exact hP, va_K.moved hW.alike hK, hD⟩, hS.F ht⟩) hS.2.2 dX13_isGood_418
  have hj417 : ∀ (x2_417 : Int32) (_ : iv 0 12 x2_417) (_ : iv 0 79 x) (_ : ¬ GOOD7 gm lg x.toNatClampNeg) (H : Heap) (locs : List Loc) (ls : Array Slot), va_P (dC, dI) vwCl (mW h0 ad cid sg gm lg) H → va_D A (mW h0 ad cid sg gm lg) → va_S A s.heap H locs → lv_has ls 3 [(2, .int x2_417), (0, .ref h0), (1, .int x)] → W p l e (headSpec wm_X13_isGood ({ frames := 4, cells := 0, slots := 0, locals := 103 })).room s m ([.ref h0, .int x] : List Value).toArray below meth c H locs 0 0 (MQ below (va_Qi (fun r v => (iv 0 1 r) ∧ ((r.toInt = 1 ∧ (GOOD7 gm lg x.toNatClampNeg)) ∨ (r.toInt = 0 ∧ ¬ (GOOD7 gm lg x.toNatClampNeg))) ∧ v = (sg, gm, lg)) (MB dC dI h0 ad cid A) A) ([.ref h0, .int x] : List Value).toArray s 0 0 A) (F0 m 417 ls []) := by
    intro x2_417 hx2_417 hsx1_417 u417 H locs ls hP hD hS hl
    refine lv_iconst (v := 0) hx hb dX13_isGood_417 (by decide) ?_
    exact hj418 x2_417 0 hx2_417 hsx1_417 (iv_w (iv_k (by decide) : iv 0 0 0) (by decide)) (Or.inr ⟨rfl, u417⟩) _ _ _ hP hD hS (lv_sub hl [0, 1, 2] rfl)
  have hj32 : ∀ (n : Nat) (x2_32 : Int32) (_ : (12 - x2_32.toInt).toNat = n) (_ : iv 0 12 x2_32) (_ : iv 0 79 x) (_ : INP7 ((gm 26 x.toNatClampNeg).toInt) (abk gm x.toNatClampNeg) ∧ ((gm 26 x.toNatClampNeg).toInt = 7 ∨ (gm 31 x.toNatClampNeg).toInt ≤ 0)) (_ : ∀ k, 0 ≤ k → k < x2_32.toNatClampNeg → ALW ((gm 26 x.toNatClampNeg).toInt) (lg 35 (12 * x.toNatClampNeg + k)).toInt) (H : Heap) (locs : List Loc) (ls : Array Slot), va_P (dC, dI) vwCl (mW h0 ad cid sg gm lg) H → va_D A (mW h0 ad cid sg gm lg) → va_S A s.heap H locs → lv_has ls 3 [(2, .int x2_32), (0, .ref h0), (1, .int x)] → W p l e (headSpec wm_X13_isGood ({ frames := 4, cells := 0, slots := 0, locals := 103 })).room s m ([.ref h0, .int x] : List Value).toArray below meth c H locs 0 0 (MQ below (va_Qi (fun r v => (iv 0 1 r) ∧ ((r.toInt = 1 ∧ (GOOD7 gm lg x.toNatClampNeg)) ∨ (r.toInt = 0 ∧ ¬ (GOOD7 gm lg x.toNatClampNeg))) ∧ v = (sg, gm, lg)) (MB dC dI h0 ad cid A) A) ([.ref h0, .int x] : List Value).toArray s 0 0 A) (F0 m 32 ls []) := by
    intro n
    induction n using Nat.strongRecOn with
    | ind n ih32 =>
      intro x2_32 hn32 hx2_32 hsx1_32 u30 hal H locs ls hP hD hS hl
      refine lv_iload_n hx hb dX13_isGood_32 rfl (lv_at hl 0 rfl) ?_
      refine lv_aload_n hx hb dX13_isGood_33 rfl (lv_at hl 1 rfl) ?_
      refine mr_get (v := .ref (ad 30)) hx hb htb inX13 hown hK hP 30 (by decide) (htb _ kw_186) rfl dX13_isGood_34 ?_
      refine lv_iload_n hx hb dX13_isGood_37 rfl (lv_at hl 2 rfl) ?_
      refine mr_iald hx hb hK hP 23 (k := 30) rfl rfl rfl (show vp_in x 80 from (iv_in hsx1_32 (by decide))) dX13_isGood_38 ?_
      refine lv_topi (fun z_15 ez_15 => ?_)
      have hz_15 : iv 0 12 z_15 := iv_of ez_15 (MI_a hI 30 hsx1_32 (by decide))
      refine lv_icmp_ge (tgt := 74) hx hb dX13_isGood_39 (by decide) (fun c_16 => ?_) (fun c_16 => ?_)
      · have d_17 : (z_15 : Int32).toInt ≤ (x2_32 : Int32).toInt := Int32.le_iff_toInt_le.mp c_16
        have hCO : COM7 gm lg x.toNatClampNeg := ⟨u30, fun k h0 h1 => hal k h0 (by have := iv_cl hz_15 (by decide); have := iv_cl hx2_32 (by decide); rw [← ez_15] at h1; have := trivial; have := i32_0; have := i32_1; have := i32_2; have := i32_m1; have := (hsx1_32).1; have := (hsx1_32).2; have := (hx2_32).1; have := (hx2_32).2; have := (hz_15).1; have := (hz_15).2; omega)⟩
        refine lv_aload_n hx hb dX13_isGood_74 rfl (lv_at hl 1 rfl) ?_
        refine mr_get (v := .ref (ad 26)) hx hb htb inX13 hown hK hP 26 (by decide) (htb _ kw_182) rfl dX13_isGood_75 ?_
        refine lv_iload_n hx hb dX13_isGood_78 rfl (lv_at hl 2 rfl) ?_
        refine mr_iald hx hb hK hP 19 (k := 26) rfl rfl rfl (show vp_in x 80 from (iv_in hsx1_32 (by decide))) dX13_isGood_79 ?_
        refine lv_topi (fun z_18 ez_18 => ?_)
        have hz_18 : iv 0 10 z_18 := iv_of ez_18 (MI_a hI 26 hsx1_32 (by decide))
        by_cases c_19 : (z_18 : Int32).toInt = 2
        · refine lv_tableIn (tgt := 132) hx hb dX13_isGood_80 (by rw [c_19]; decide) (by rw [c_19]; decide) (by rw [c_19]; rfl) (by decide) ?_
          have h_20 : iv 2 2 z_18 := iv_at c_19
          refine lv_aload_n hx hb dX13_isGood_132 rfl (lv_at hl 1 rfl) ?_
          refine lv_iload_n hx hb dX13_isGood_133 rfl (lv_at hl 2 rfl) ?_
          refine lv_ldc2 (own := RX13) (v := 1851878757) hx hb hown (htb _ kw_887) dX13_isGood_134 ?_
          refine mr_calli (rest := []) ⟨hx, hb, hml, hown, htb⟩ (f_isWord l dC dI h0 ad cid sg gm lg x 1851878757 hI hsx1_32) (cwV 2 htb (gd_V kw_910 kw_911 kw_912 kw_5 kw_1541) rfl rfl rfl (by decide +kernel) ⟨Nat.le_of_ble_eq_true rfl, Nat.le_of_ble_eq_true rfl⟩) rfl hl.1 rfl (Nat.le_of_ble_eq_true rfl) dX13_isGood_137 ⟨Nat.zero_le _, Nat.zero_le _⟩ hK hP hD hS hA (fun r_21 u_22 H locs hw hP hD hS => ?_)
          obtain ⟨hr_21, fI_r_21, rfl⟩ := hw
          have hP : va_P (dC, dI) vwCl (mW h0 ad cid sg gm lg) H := hP
          have hD : va_D A (mW h0 ad cid sg gm lg) := hD
          refine lv_if_eq (tgt := 167) hx hb dX13_isGood_140 (by decide) (fun c_23 => ?_) (fun c_23 => ?_)
          · have h_24 : iv 0 0 r_21 := iv_eq c_23 hr_21 (iv_k (by decide) : iv 0 0 0) (by decide)
            exact hj167 x2_32 hx2_32 hsx1_32 ((fun h => by have p := (GK7_2 (x := x.toNatClampNeg) (by rw [← ez_18]; exact c_19)).mp h.2; have := congrArg Int32.toInt ez_18; have := congrArg Int32.toInt fI_r_21; have := (mHas_iv (gm := gm) (lg := lg) (x := x.toNatClampNeg) 24948).1; have := (mHas_iv (gm := gm) (lg := lg) (x := x.toNatClampNeg) 24948).2; have := (mHas_iv (gm := gm) (lg := lg) (x := x.toNatClampNeg) 1954115685).1; have := (mHas_iv (gm := gm) (lg := lg) (x := x.toNatClampNeg) 1954115685).2; have := i32_0; have := i32_1; have := i32_2; have := i32_m1; have := (hsx1_32).1; have := (hsx1_32).2; have := (hx2_32).1; have := (hx2_32).2; have := (hz_15).1; have := (hz_15).2; have := (h_20).1; have := (h_20).2; have := (h_24).1; have := (h_24).2; omega)) _ _ _ hP hD hS (lv_sub hl [0, 1, 2] rfl)
          · have h_25 : iv 1 1 r_21 := iv_neL c_23 hr_21 (by decide)
            refine lv_aload_n hx hb dX13_isGood_143 rfl (lv_at hl 1 rfl) ?_
            refine lv_iload_n hx hb dX13_isGood_144 rfl (lv_at hl 2 rfl) ?_
            refine lv_ldc2 (own := RX13) (v := 29807) hx hb hown (htb _ kw_888) dX13_isGood_145 ?_
            refine mr_calli (rest := []) ⟨hx, hb, hml, hown, htb⟩ (f_isWord l dC dI h0 ad cid sg gm lg x 29807 hI hsx1_32) (cwV 2 htb (gd_V kw_910 kw_911 kw_912 kw_5 kw_1541) rfl rfl rfl (by decide +kernel) ⟨Nat.le_of_ble_eq_true rfl, Nat.le_of_ble_eq_true rfl⟩) rfl hl.1 rfl (Nat.le_of_ble_eq_true rfl) dX13_isGood_148 ⟨Nat.zero_le _, Nat.zero_le _⟩ hK hP hD hS hA (fun r_26 u_27 H locs hw hP hD hS => ?_)
            obtain ⟨hr_26, fI_r_26, rfl⟩ := hw
            have hP : va_P (dC, dI) vwCl (mW h0 ad cid sg gm lg) H := hP
            have hD : va_D A (mW h0 ad cid sg gm lg) := hD
            refine lv_if_eq (tgt := 167) hx hb dX13_isGood_151 (by decide) (fun c_28 => ?_) (fun c_28 => ?_)
            · have h_29 : iv 0 0 r_26 := iv_eq c_28 hr_26 (iv_k (by decide) : iv 0 0 0) (by decide)
              exact hj167 x2_32 hx2_32 hsx1_32 ((fun h => by have p := (GK7_2 (x := x.toNatClampNeg) (by rw [← ez_18]; exact c_19)).mp h.2; have := congrArg Int32.toInt ez_18; have := congrArg Int32.toInt fI_r_21; have := congrArg Int32.toInt fI_r_26; have := (mHas_iv (gm := gm) (lg := lg) (x := x.toNatClampNeg) 24948).1; have := (mHas_iv (gm := gm) (lg := lg) (x := x.toNatClampNeg) 24948).2; have := (mHas_iv (gm := gm) (lg := lg) (x := x.toNatClampNeg) 1954115685).1; have := (mHas_iv (gm := gm) (lg := lg) (x := x.toNatClampNeg) 1954115685).2; have := i32_0; have := i32_1; have := i32_2; have := i32_m1; have := (hsx1_32).1; have := (hsx1_32).2; have := (hx2_32).1; have := (hx2_32).2; have := (hz_15).1; have := (hz_15).2; have := (h_20).1; have := (h_20).2; have := (h_25).1; have := (h_25).2; have := (h_29).1; have := (h_29).2; omega)) _ _ _ hP hD hS (lv_sub hl [0, 1, 2] rfl)
            · have h_30 : iv 1 1 r_26 := iv_neL c_28 hr_26 (by decide)
              refine lv_aload_n hx hb dX13_isGood_154 rfl (lv_at hl 1 rfl) ?_
              refine mr_get (v := .ref (ad 29)) hx hb htb inX13 hown hK hP 29 (by decide) (htb _ kw_185) rfl dX13_isGood_155 ?_
              refine lv_iload_n hx hb dX13_isGood_158 rfl (lv_at hl 2 rfl) ?_
              refine mr_iald hx hb hK hP 22 (k := 29) rfl rfl rfl (show vp_in x 80 from (iv_in hsx1_32 (by decide))) dX13_isGood_159 ?_
              refine lv_topi (fun z_31 ez_31 => ?_)
              have hz_31 : iv 0 80 z_31 := iv_of ez_31 (MI_a hI 29 hsx1_32 (by decide))
              refine lv_if_ne (tgt := 167) hx hb dX13_isGood_160 (by decide) (fun c_32 => ?_) (fun c_32 => ?_)
              · have h_33 : iv 1 80 z_31 := iv_neL c_32 hz_31 (by decide)
                exact hj167 x2_32 hx2_32 hsx1_32 ((fun h => by have p := (GK7_2 (x := x.toNatClampNeg) (by rw [← ez_18]; exact c_19)).mp h.2; have := congrArg Int32.toInt ez_18; have := congrArg Int32.toInt ez_31; have := congrArg Int32.toInt fI_r_21; have := congrArg Int32.toInt fI_r_26; have := (mHas_iv (gm := gm) (lg := lg) (x := x.toNatClampNeg) 24948).1; have := (mHas_iv (gm := gm) (lg := lg) (x := x.toNatClampNeg) 24948).2; have := (mHas_iv (gm := gm) (lg := lg) (x := x.toNatClampNeg) 1954115685).1; have := (mHas_iv (gm := gm) (lg := lg) (x := x.toNatClampNeg) 1954115685).2; have := i32_0; have := i32_1; have := i32_2; have := i32_m1; have := (hsx1_32).1; have := (hsx1_32).2; have := (hx2_32).1; have := (hx2_32).2; have := (hz_15).1; have := (hz_15).2; have := (h_20).1; have := (h_20).2; have := (h_25).1; have := (h_25).2; have := (h_30).1; have := (h_30).2; have := (h_33).1; have := (h_33).2; omega)) _ _ _ hP hD hS (lv_sub hl [0, 1, 2] rfl)
              · have h_34 : iv 0 0 z_31 := iv_eq c_32 hz_31 (iv_k (by decide) : iv 0 0 0) (by decide)
                refine lv_iconst (v := 1) hx hb dX13_isGood_163 (by decide) ?_
                refine lv_goto (tgt := 168) hx hb dX13_isGood_164 (by decide) ?_
                exact hj168 x2_32 1 hx2_32 hsx1_32 (iv_w (iv_k (by decide) : iv 1 1 1) (by decide)) (Or.inl ⟨rfl, ⟨hCO, (GK7_2 (x := x.toNatClampNeg) (by rw [← ez_18]; exact c_19)).mpr (by have := congrArg Int32.toInt ez_18; have := congrArg Int32.toInt ez_31; have := congrArg Int32.toInt fI_r_21; have := congrArg Int32.toInt fI_r_26; have := (mHas_iv (gm := gm) (lg := lg) (x := x.toNatClampNeg) 24948).1; have := (mHas_iv (gm := gm) (lg := lg) (x := x.toNatClampNeg) 24948).2; have := (mHas_iv (gm := gm) (lg := lg) (x := x.toNatClampNeg) 1954115685).1; have := (mHas_iv (gm := gm) (lg := lg) (x := x.toNatClampNeg) 1954115685).2; have := i32_0; have := i32_1; have := i32_2; have := i32_m1; have := (hsx1_32).1; have := (hsx1_32).2; have := (hx2_32).1; have := (hx2_32).2; have := (hz_15).1; have := (hz_15).2; have := (h_20).1; have := (h_20).2; have := (h_25).1; have := (h_25).2; have := (h_30).1; have := (h_30).2; have := (h_34).1; have := (h_34).2; omega)⟩⟩) _ _ _ hP hD hS (lv_sub hl [0, 1, 2] rfl)
        by_cases c_35 : (z_18 : Int32).toInt = 3
        · refine lv_tableIn (tgt := 169) hx hb dX13_isGood_80 (by rw [c_35]; decide) (by rw [c_35]; decide) (by rw [c_35]; rfl) (by decide) ?_
          have h_36 : iv 3 3 z_18 := iv_at c_35
          refine lv_aload_n hx hb dX13_isGood_169 rfl (lv_at hl 1 rfl) ?_
          refine lv_iload_n hx hb dX13_isGood_170 rfl (lv_at hl 2 rfl) ?_
          refine mr_calli (rest := []) ⟨hx, hb, hml, hown, htb⟩ (f_isGoodBean2 l dC dI h0 ad cid sg gm lg x hI hsx1_32 (hg.resolve_right (by have : (gm 26 x.toNatClampNeg).toInt = 3 := (by rw [← ez_18]; exact c_35); omega)) (WRD7_k hwd rfl rfl)) (cwV 1 htb (gd_V kw_913 kw_914 kw_915 kw_5 kw_1542) rfl rfl rfl (by decide +kernel) ⟨Nat.le_of_ble_eq_true rfl, Nat.le_of_ble_eq_true rfl⟩) rfl hl.1 rfl (Nat.le_of_ble_eq_true rfl) dX13_isGood_171 ⟨Nat.zero_le _, Nat.zero_le _⟩ hK hP hD hS hA (fun r_37 u_38 H locs hw hP hD hS => ?_)
          obtain ⟨hr_37, fB_r_37, rfl⟩ := hw
          have hP : va_P (dC, dI) vwCl (mW h0 ad cid sg gm lg) H := hP
          have hD : va_D A (mW h0 ad cid sg gm lg) := hD
          exact W.zret (v := r_37) hx hb hr (iv_nb hr_37) (fun t ht hW => ⟨⟨r_37, (sg, gm, lg), rfl, ⟨hr_37, ((fB_r_37.imp (fun w => ⟨w.1, hCO, (GK7_3 (x := x.toNatClampNeg) (by rw [← ez_18]; exact c_35)).mpr w.2⟩) (fun w => ⟨w.1, fun h => w.2 ((GK7_3 (x := x.toNatClampNeg) (by rw [← ez_18]; exact c_35)).mp h.2)⟩))), rfl⟩, by rw [ht]; exact hP, va_K.moved hW.alike hK, hD⟩, hS.F ht⟩) hS.2.2 dX13_isGood_174
        by_cases c_39 : (z_18 : Int32).toInt = 4
        · refine lv_tableIn (tgt := 175) hx hb dX13_isGood_80 (by rw [c_39]; decide) (by rw [c_39]; decide) (by rw [c_39]; rfl) (by decide) ?_
          have h_40 : iv 4 4 z_18 := iv_at c_39
          refine lv_aload_n hx hb dX13_isGood_175 rfl (lv_at hl 1 rfl) ?_
          refine lv_iload_n hx hb dX13_isGood_176 rfl (lv_at hl 2 rfl) ?_
          refine mr_calli (rest := []) ⟨hx, hb, hml, hown, htb⟩ (f_isGoodHolder2 l dC dI h0 ad cid sg gm lg x hI hsx1_32) (cwV 1 htb (gd_V kw_934 kw_935 kw_936 kw_5 kw_1548) rfl rfl rfl (by decide +kernel) ⟨Nat.le_of_ble_eq_true rfl, Nat.le_of_ble_eq_true rfl⟩) rfl hl.1 rfl (Nat.le_of_ble_eq_true rfl) dX13_isGood_177 ⟨Nat.zero_le _, Nat.zero_le _⟩ hK hP hD hS hA (fun r_41 u_42 H locs hw hP hD hS => ?_)
          obtain ⟨hr_41, fG_r_41, rfl⟩ := hw
          have hP : va_P (dC, dI) vwCl (mW h0 ad cid sg gm lg) H := hP
          have hD : va_D A (mW h0 ad cid sg gm lg) := hD
          refine lv_if_eq (tgt := 258) hx hb dX13_isGood_180 (by decide) (fun c_43 => ?_) (fun c_43 => ?_)
          · have h_44 : iv 0 0 r_41 := iv_eq c_43 hr_41 (iv_k (by decide) : iv 0 0 0) (by decide)
            exact hj258 x2_32 hx2_32 hsx1_32 ((fun h => by have p := (GK7_4 (x := x.toNatClampNeg) (by rw [← ez_18]; exact c_39)).mp h.2; have := congrArg Int32.toInt ez_18; have := (mHas_iv (gm := gm) (lg := lg) (x := x.toNatClampNeg) 24948).1; have := (mHas_iv (gm := gm) (lg := lg) (x := x.toNatClampNeg) 24948).2; have := (mHas_iv (gm := gm) (lg := lg) (x := x.toNatClampNeg) 1954115685).1; have := (mHas_iv (gm := gm) (lg := lg) (x := x.toNatClampNeg) 1954115685).2; have := i32_0; have := i32_1; have := i32_2; have := i32_m1; have := (hsx1_32).1; have := (hsx1_32).2; have := (hx2_32).1; have := (hx2_32).2; have := (hz_15).1; have := (hz_15).2; have := (h_40).1; have := (h_40).2; have := (h_44).1; have := (h_44).2; omega)) _ _ _ hP hD hS (lv_sub hl [0, 1, 2] rfl)
          · have h_45 : iv 1 1 r_41 := iv_neL c_43 hr_41 (by decide)
            refine lv_aload_n hx hb dX13_isGood_183 rfl (lv_at hl 1 rfl) ?_
            refine lv_iload_n hx hb dX13_isGood_184 rfl (lv_at hl 2 rfl) ?_
            refine lv_iconst (v := 0) hx hb dX13_isGood_185 (by decide) ?_
            refine mr_calli (rest := []) ⟨hx, hb, hml, hown, htb⟩ (f_ahead2 l dC dI h0 ad cid sg gm lg x 0 hI hsx1_32 (iv_w (iv_k (by decide) : iv 0 0 0) (by decide))) (cwV 2 htb (gd_V kw_937 kw_938 kw_939 kw_5 kw_1549) rfl rfl rfl (by decide +kernel) ⟨Nat.le_of_ble_eq_true rfl, Nat.le_of_ble_eq_true rfl⟩) rfl hl.1 rfl (Nat.le_of_ble_eq_true rfl) dX13_isGood_186 ⟨Nat.zero_le _, Nat.zero_le _⟩ hK hP hD hS hA (fun r_46 u_47 H locs hw hP hD hS => ?_)
            obtain ⟨hr_46, fA_r_46, rfl⟩ := hw
            have hP : va_P (dC, dI) vwCl (mW h0 ad cid sg gm lg) H := hP
            have hD : va_D A (mW h0 ad cid sg gm lg) := hD
            simp only [i32_0, i32_1] at fA_r_46
            refine lv_iconst (v := 4) hx hb dX13_isGood_189 (by decide) ?_
            refine lv_icmp_ge (tgt := 258) hx hb dX13_isGood_190 (by decide) (fun c_48 => ?_) (fun c_48 => ?_)
            · have h_49 : iv 4 79 r_46 := iv_leR c_48 (iv_k (by decide) : iv 4 4 4) hr_46 (by decide)
              exact hj258 x2_32 hx2_32 hsx1_32 ((fun h => by have p := (GK7_4 (x := x.toNatClampNeg) (by rw [← ez_18]; exact c_39)).mp h.2; have := congrArg Int32.toInt ez_18; have := (mHas_iv (gm := gm) (lg := lg) (x := x.toNatClampNeg) 24948).1; have := (mHas_iv (gm := gm) (lg := lg) (x := x.toNatClampNeg) 24948).2; have := (mHas_iv (gm := gm) (lg := lg) (x := x.toNatClampNeg) 1954115685).1; have := (mHas_iv (gm := gm) (lg := lg) (x := x.toNatClampNeg) 1954115685).2; have := i32_0; have := i32_1; have := i32_2; have := i32_m1; have := (hsx1_32).1; have := (hsx1_32).2; have := (hx2_32).1; have := (hx2_32).2; have := (hz_15).1; have := (hz_15).2; have := (h_40).1; have := (h_40).2; have := (h_45).1; have := (h_45).2; have := (h_49).1; have := (h_49).2; omega)) _ _ _ hP hD hS (lv_sub hl [0, 1, 2] rfl)
            · have h_50 : iv 0 3 r_46 := iv_ltL (i32_lt c_48) hr_46 (iv_k (by decide) : iv 4 4 4) (by decide)
              refine lv_aload_n hx hb dX13_isGood_193 rfl (lv_at hl 1 rfl) ?_
              refine lv_iload_n hx hb dX13_isGood_194 rfl (lv_at hl 2 rfl) ?_
              refine lv_ldc2 (own := RX13) (v := 24948) hx hb hown (htb _ kw_889) dX13_isGood_195 ?_
              refine mr_calli (rest := []) ⟨hx, hb, hml, hown, htb⟩ (f_has l dC dI h0 ad cid sg gm lg x 24948 hI hsx1_32) (cwV 2 htb (gd_V kw_916 kw_917 kw_918 kw_5 kw_1543) rfl rfl rfl (by decide +kernel) ⟨Nat.le_of_ble_eq_true rfl, Nat.le_of_ble_eq_true rfl⟩) rfl hl.1 rfl (Nat.le_of_ble_eq_true rfl) dX13_isGood_198 ⟨Nat.zero_le _, Nat.zero_le _⟩ hK hP hD hS hA (fun r_51 u_52 H locs hw hP hD hS => ?_)
              obtain ⟨hr_51, fH_r_51, rfl⟩ := hw
              have hP : va_P (dC, dI) vwCl (mW h0 ad cid sg gm lg) H := hP
              have hD : va_D A (mW h0 ad cid sg gm lg) := hD
              refine lv_if_eq (tgt := 234) hx hb dX13_isGood_201 (by decide) (fun c_53 => ?_) (fun c_53 => ?_)
              · have h_54 : iv 0 0 r_51 := iv_eq c_53 hr_51 (iv_k (by decide) : iv 0 0 0) (by decide)
                exact hj234 x2_32 hx2_32 hsx1_32 (hCO) ((by rw [← ez_18]; exact c_39)) ((by have := congrArg Int32.toInt ez_18; have := congrArg Int32.toInt fH_r_51; have := (mHas_iv (gm := gm) (lg := lg) (x := x.toNatClampNeg) 24948).1; have := (mHas_iv (gm := gm) (lg := lg) (x := x.toNatClampNeg) 24948).2; have := (mHas_iv (gm := gm) (lg := lg) (x := x.toNatClampNeg) 1954115685).1; have := (mHas_iv (gm := gm) (lg := lg) (x := x.toNatClampNeg) 1954115685).2; have := i32_0; have := i32_1; have := i32_2; have := i32_m1; have := (hsx1_32).1; have := (hsx1_32).2; have := (hx2_32).1; have := (hx2_32).2; have := (hz_15).1; have := (hz_15).2; have := (h_40).1; have := (h_40).2; have := (h_45).1; have := (h_45).2; have := (h_50).1; have := (h_50).2; have := (h_54).1; have := (h_54).2; omega)) _ _ _ hP hD hS (lv_sub hl [0, 1, 2] rfl)
              · have h_55 : iv 1 1 r_51 := iv_neL c_53 hr_51 (by decide)
                refine lv_aload_n hx hb dX13_isGood_204 rfl (lv_at hl 1 rfl) ?_
                refine lv_iload_n hx hb dX13_isGood_205 rfl (lv_at hl 2 rfl) ?_
                refine lv_ldc2 (own := RX13) (v := 24948) hx hb hown (htb _ kw_889) dX13_isGood_206 ?_
                refine mr_calll (rest := []) ⟨hx, hb, hml, hown, htb⟩ (f_word l dC dI h0 ad cid sg gm lg x 24948 hI hsx1_32) (cwV 2 htb (gd_V kw_923 kw_924 kw_925 kw_5 kw_1545) rfl rfl rfl (by decide +kernel) ⟨Nat.le_of_ble_eq_true rfl, Nat.le_of_ble_eq_true rfl⟩) rfl hl.1 rfl (Nat.le_of_ble_eq_true rfl) dX13_isGood_209 ⟨Nat.zero_le _, Nat.zero_le _⟩ hK hP hD hS hA (fun r_56 u_57 H locs hw hP hD hS => ?_)
                obtain ⟨fW_r_56, rfl⟩ := hw
                have hP : va_P (dC, dI) vwCl (mW h0 ad cid sg gm lg) H := hP
                have hD : va_D A (mW h0 ad cid sg gm lg) := hD
                refine lv_ldc2 (own := RX13) (v := 48) hx hb hown (htb _ kw_890) dX13_isGood_212 ?_
                refine W.lcmp hx hb dX13_isGood_215 ?_
                refine lv_topi (fun z_58 ez_58 => ?_)
                have hz_58 : iv (-1) 1 z_58 := iv_of ez_58 (iv_cmp _ _)
                have hl_z_58 := lg_tr7 ez_58
                rw [show (48 : Int64).toInt = 48 from by decide] at hl_z_58
                refine lv_if_lt (tgt := 258) hx hb dX13_isGood_216 (by decide) (fun c_59 => ?_) (fun c_59 => ?_)
                · have h_60 : iv (-1) (-1) z_58 := iv_ltL c_59 hz_58 (iv_k (by decide) : iv 0 0 0) (by decide)
                  exact hj258 x2_32 hx2_32 hsx1_32 ((fun h => by have p := (GK7_4 (x := x.toNatClampNeg) (by rw [← ez_18]; exact c_39)).mp h.2; have := congrArg Int32.toInt ez_18; have := congrArg Int32.toInt fH_r_51; have := congrArg Int64.toInt fW_r_56; have := (mHas_iv (gm := gm) (lg := lg) (x := x.toNatClampNeg) 24948).1; have := (mHas_iv (gm := gm) (lg := lg) (x := x.toNatClampNeg) 24948).2; have := (mHas_iv (gm := gm) (lg := lg) (x := x.toNatClampNeg) 1954115685).1; have := (mHas_iv (gm := gm) (lg := lg) (x := x.toNatClampNeg) 1954115685).2; have := i32_0; have := i32_1; have := i32_2; have := i32_m1; have := (hsx1_32).1; have := (hsx1_32).2; have := (hx2_32).1; have := (hx2_32).2; have := (hz_15).1; have := (hz_15).2; have := (h_40).1; have := (h_40).2; have := (h_45).1; have := (h_45).2; have := (h_50).1; have := (h_50).2; have := (h_55).1; have := (h_55).2; have := (h_60).1; have := (h_60).2; omega)) _ _ _ hP hD hS (lv_sub hl [0, 1, 2] rfl)
                · have h_61 : iv 0 1 z_58 := iv_leR (i32_ge c_59) (iv_k (by decide) : iv 0 0 0) hz_58 (by decide)
                  refine lv_aload_n hx hb dX13_isGood_219 rfl (lv_at hl 1 rfl) ?_
                  refine lv_iload_n hx hb dX13_isGood_220 rfl (lv_at hl 2 rfl) ?_
                  refine lv_ldc2 (own := RX13) (v := 24948) hx hb hown (htb _ kw_889) dX13_isGood_221 ?_
                  refine mr_calll (rest := []) ⟨hx, hb, hml, hown, htb⟩ (f_word l dC dI h0 ad cid sg gm lg x 24948 hI hsx1_32) (cwV 2 htb (gd_V kw_923 kw_924 kw_925 kw_5 kw_1545) rfl rfl rfl (by decide +kernel) ⟨Nat.le_of_ble_eq_true rfl, Nat.le_of_ble_eq_true rfl⟩) rfl hl.1 rfl (Nat.le_of_ble_eq_true rfl) dX13_isGood_224 ⟨Nat.zero_le _, Nat.zero_le _⟩ hK hP hD hS hA (fun r_62 u_63 H locs hw hP hD hS => ?_)
                  obtain ⟨fW_r_62, rfl⟩ := hw
                  have hP : va_P (dC, dI) vwCl (mW h0 ad cid sg gm lg) H := hP
                  have hD : va_D A (mW h0 ad cid sg gm lg) := hD
                  refine lv_ldc2 (own := RX13) (v := 50) hx hb hown (htb _ kw_891) dX13_isGood_227 ?_
                  refine W.lcmp hx hb dX13_isGood_230 ?_
                  refine lv_topi (fun z_64 ez_64 => ?_)
                  have hz_64 : iv (-1) 1 z_64 := iv_of ez_64 (iv_cmp _ _)
                  have hl_z_64 := lg_tr7 ez_64
                  rw [show (50 : Int64).toInt = 50 from by decide] at hl_z_64
                  refine lv_if_gt (tgt := 258) hx hb dX13_isGood_231 (by decide) (fun c_65 => ?_) (fun c_65 => ?_)
                  · have h_66 : iv 1 1 z_64 := iv_ltR c_65 (iv_k (by decide) : iv 0 0 0) hz_64 (by decide)
                    exact hj258 x2_32 hx2_32 hsx1_32 ((fun h => by have p := (GK7_4 (x := x.toNatClampNeg) (by rw [← ez_18]; exact c_39)).mp h.2; have := congrArg Int32.toInt ez_18; have := congrArg Int32.toInt fH_r_51; have := congrArg Int64.toInt fW_r_56; have := congrArg Int64.toInt fW_r_62; have := (mHas_iv (gm := gm) (lg := lg) (x := x.toNatClampNeg) 24948).1; have := (mHas_iv (gm := gm) (lg := lg) (x := x.toNatClampNeg) 24948).2; have := (mHas_iv (gm := gm) (lg := lg) (x := x.toNatClampNeg) 1954115685).1; have := (mHas_iv (gm := gm) (lg := lg) (x := x.toNatClampNeg) 1954115685).2; have := i32_0; have := i32_1; have := i32_2; have := i32_m1; have := (hsx1_32).1; have := (hsx1_32).2; have := (hx2_32).1; have := (hx2_32).2; have := (hz_15).1; have := (hz_15).2; have := (h_40).1; have := (h_40).2; have := (h_45).1; have := (h_45).2; have := (h_50).1; have := (h_50).2; have := (h_55).1; have := (h_55).2; have := (h_61).1; have := (h_61).2; have := (h_66).1; have := (h_66).2; omega)) _ _ _ hP hD hS (lv_sub hl [0, 1, 2] rfl)
                  · have h_67 : iv (-1) 0 z_64 := iv_leL (i32_ge c_65) hz_64 (iv_k (by decide) : iv 0 0 0) (by decide)
                    exact hj234 x2_32 hx2_32 hsx1_32 (hCO) ((by rw [← ez_18]; exact c_39)) ((by have := congrArg Int32.toInt ez_18; have := congrArg Int32.toInt fH_r_51; have := congrArg Int64.toInt fW_r_56; have := congrArg Int64.toInt fW_r_62; have := (mHas_iv (gm := gm) (lg := lg) (x := x.toNatClampNeg) 24948).1; have := (mHas_iv (gm := gm) (lg := lg) (x := x.toNatClampNeg) 24948).2; have := (mHas_iv (gm := gm) (lg := lg) (x := x.toNatClampNeg) 1954115685).1; have := (mHas_iv (gm := gm) (lg := lg) (x := x.toNatClampNeg) 1954115685).2; have := i32_0; have := i32_1; have := i32_2; have := i32_m1; have := (hsx1_32).1; have := (hsx1_32).2; have := (hx2_32).1; have := (hx2_32).2; have := (hz_15).1; have := (hz_15).2; have := (h_40).1; have := (h_40).2; have := (h_45).1; have := (h_45).2; have := (h_50).1; have := (h_50).2; have := (h_55).1; have := (h_55).2; have := (h_61).1; have := (h_61).2; have := (h_67).1; have := (h_67).2; omega)) _ _ _ hP hD hS (lv_sub hl [0, 1, 2] rfl)
        by_cases c_68 : (z_18 : Int32).toInt = 5
        · refine lv_tableIn (tgt := 260) hx hb dX13_isGood_80 (by rw [c_68]; decide) (by rw [c_68]; decide) (by rw [c_68]; rfl) (by decide) ?_
          have h_69 : iv 5 5 z_18 := iv_at c_68
          refine lv_aload_n hx hb dX13_isGood_260 rfl (lv_at hl 1 rfl) ?_
          refine lv_iload_n hx hb dX13_isGood_261 rfl (lv_at hl 2 rfl) ?_
          refine mr_calli (rest := []) ⟨hx, hb, hml, hown, htb⟩ (f_isGoodHolder2 l dC dI h0 ad cid sg gm lg x hI hsx1_32) (cwV 1 htb (gd_V kw_934 kw_935 kw_936 kw_5 kw_1548) rfl rfl rfl (by decide +kernel) ⟨Nat.le_of_ble_eq_true rfl, Nat.le_of_ble_eq_true rfl⟩) rfl hl.1 rfl (Nat.le_of_ble_eq_true rfl) dX13_isGood_262 ⟨Nat.zero_le _, Nat.zero_le _⟩ hK hP hD hS hA (fun r_70 u_71 H locs hw hP hD hS => ?_)
          obtain ⟨hr_70, fG_r_70, rfl⟩ := hw
          have hP : va_P (dC, dI) vwCl (mW h0 ad cid sg gm lg) H := hP
          have hD : va_D A (mW h0 ad cid sg gm lg) := hD
          refine lv_if_eq (tgt := 303) hx hb dX13_isGood_265 (by decide) (fun c_72 => ?_) (fun c_72 => ?_)
          · have h_73 : iv 0 0 r_70 := iv_eq c_72 hr_70 (iv_k (by decide) : iv 0 0 0) (by decide)
            exact hj303 x2_32 hx2_32 hsx1_32 ((fun h => by have p := (GK7_5 (x := x.toNatClampNeg) (by rw [← ez_18]; exact c_68)).mp h.2; have := congrArg Int32.toInt ez_18; have := (mHas_iv (gm := gm) (lg := lg) (x := x.toNatClampNeg) 24948).1; have := (mHas_iv (gm := gm) (lg := lg) (x := x.toNatClampNeg) 24948).2; have := (mHas_iv (gm := gm) (lg := lg) (x := x.toNatClampNeg) 1954115685).1; have := (mHas_iv (gm := gm) (lg := lg) (x := x.toNatClampNeg) 1954115685).2; have := i32_0; have := i32_1; have := i32_2; have := i32_m1; have := (hsx1_32).1; have := (hsx1_32).2; have := (hx2_32).1; have := (hx2_32).2; have := (hz_15).1; have := (hz_15).2; have := (h_69).1; have := (h_69).2; have := (h_73).1; have := (h_73).2; omega)) _ _ _ hP hD hS (lv_sub hl [0, 1, 2] rfl)
          · have h_74 : iv 1 1 r_70 := iv_neL c_72 hr_70 (by decide)
            refine lv_aload_n hx hb dX13_isGood_268 rfl (lv_at hl 1 rfl) ?_
            refine lv_iload_n hx hb dX13_isGood_269 rfl (lv_at hl 2 rfl) ?_
            refine lv_ldc2 (own := RX13) (v := 1851878757) hx hb hown (htb _ kw_887) dX13_isGood_270 ?_
            refine mr_calli (rest := []) ⟨hx, hb, hml, hown, htb⟩ (f_isOneLetter2 l dC dI h0 ad cid sg gm lg x 1851878757 hI hsx1_32) (cwV 2 htb (gd_V kw_919 kw_920 kw_921 kw_5 kw_1544) rfl rfl rfl (by decide +kernel) ⟨Nat.le_of_ble_eq_true rfl, Nat.le_of_ble_eq_true rfl⟩) rfl hl.1 rfl (Nat.le_of_ble_eq_true rfl) dX13_isGood_273 ⟨Nat.zero_le _, Nat.zero_le _⟩ hK hP hD hS hA (fun r_75 u_76 H locs hw hP hD hS => ?_)
            obtain ⟨hr_75, fO_r_75, rfl⟩ := hw
            have hP : va_P (dC, dI) vwCl (mW h0 ad cid sg gm lg) H := hP
            have hD : va_D A (mW h0 ad cid sg gm lg) := hD
            refine lv_if_eq (tgt := 303) hx hb dX13_isGood_276 (by decide) (fun c_77 => ?_) (fun c_77 => ?_)
            · have h_78 : iv 0 0 r_75 := iv_eq c_77 hr_75 (iv_k (by decide) : iv 0 0 0) (by decide)
              exact hj303 x2_32 hx2_32 hsx1_32 ((fun h => by have p := (GK7_5 (x := x.toNatClampNeg) (by rw [← ez_18]; exact c_68)).mp h.2; have := congrArg Int32.toInt ez_18; have := (mHas_iv (gm := gm) (lg := lg) (x := x.toNatClampNeg) 24948).1; have := (mHas_iv (gm := gm) (lg := lg) (x := x.toNatClampNeg) 24948).2; have := (mHas_iv (gm := gm) (lg := lg) (x := x.toNatClampNeg) 1954115685).1; have := (mHas_iv (gm := gm) (lg := lg) (x := x.toNatClampNeg) 1954115685).2; have := i32_0; have := i32_1; have := i32_2; have := i32_m1; have := (hsx1_32).1; have := (hsx1_32).2; have := (hx2_32).1; have := (hx2_32).2; have := (hz_15).1; have := (hz_15).2; have := (h_69).1; have := (h_69).2; have := (h_74).1; have := (h_74).2; have := (h_78).1; have := (h_78).2; omega)) _ _ _ hP hD hS (lv_sub hl [0, 1, 2] rfl)
            · have h_79 : iv 1 1 r_75 := iv_neL c_77 hr_75 (by decide)
              refine lv_aload_n hx hb dX13_isGood_279 rfl (lv_at hl 1 rfl) ?_
              refine lv_iload_n hx hb dX13_isGood_280 rfl (lv_at hl 2 rfl) ?_
              refine lv_iconst (v := 0) hx hb dX13_isGood_281 (by decide) ?_
              refine mr_calli (rest := []) ⟨hx, hb, hml, hown, htb⟩ (f_ahead2 l dC dI h0 ad cid sg gm lg x 0 hI hsx1_32 (iv_w (iv_k (by decide) : iv 0 0 0) (by decide))) (cwV 2 htb (gd_V kw_937 kw_938 kw_939 kw_5 kw_1549) rfl rfl rfl (by decide +kernel) ⟨Nat.le_of_ble_eq_true rfl, Nat.le_of_ble_eq_true rfl⟩) rfl hl.1 rfl (Nat.le_of_ble_eq_true rfl) dX13_isGood_282 ⟨Nat.zero_le _, Nat.zero_le _⟩ hK hP hD hS hA (fun r_80 u_81 H locs hw hP hD hS => ?_)
              obtain ⟨hr_80, fA_r_80, rfl⟩ := hw
              have hP : va_P (dC, dI) vwCl (mW h0 ad cid sg gm lg) H := hP
              have hD : va_D A (mW h0 ad cid sg gm lg) := hD
              simp only [i32_0, i32_1] at fA_r_80
              refine lv_bipush (v := 8) hx hb dX13_isGood_285 (by decide) ?_
              refine lv_icmp_ge (tgt := 303) hx hb dX13_isGood_287 (by decide) (fun c_82 => ?_) (fun c_82 => ?_)
              · have h_83 : iv 8 79 r_80 := iv_leR c_82 (iv_k (by decide) : iv 8 8 8) hr_80 (by decide)
                exact hj303 x2_32 hx2_32 hsx1_32 ((fun h => by have p := (GK7_5 (x := x.toNatClampNeg) (by rw [← ez_18]; exact c_68)).mp h.2; have := congrArg Int32.toInt ez_18; have := (mHas_iv (gm := gm) (lg := lg) (x := x.toNatClampNeg) 24948).1; have := (mHas_iv (gm := gm) (lg := lg) (x := x.toNatClampNeg) 24948).2; have := (mHas_iv (gm := gm) (lg := lg) (x := x.toNatClampNeg) 1954115685).1; have := (mHas_iv (gm := gm) (lg := lg) (x := x.toNatClampNeg) 1954115685).2; have := i32_0; have := i32_1; have := i32_2; have := i32_m1; have := (hsx1_32).1; have := (hsx1_32).2; have := (hx2_32).1; have := (hx2_32).2; have := (hz_15).1; have := (hz_15).2; have := (h_69).1; have := (h_69).2; have := (h_74).1; have := (h_74).2; have := (h_79).1; have := (h_79).2; have := (h_83).1; have := (h_83).2; omega)) _ _ _ hP hD hS (lv_sub hl [0, 1, 2] rfl)
              · have h_84 : iv 0 7 r_80 := iv_ltL (i32_lt c_82) hr_80 (iv_k (by decide) : iv 8 8 8) (by decide)
                refine lv_aload_n hx hb dX13_isGood_290 rfl (lv_at hl 1 rfl) ?_
                refine lv_iload_n hx hb dX13_isGood_291 rfl (lv_at hl 2 rfl) ?_
                refine lv_iconst (v := 1) hx hb dX13_isGood_292 (by decide) ?_
                refine mr_calli (rest := []) ⟨hx, hb, hml, hown, htb⟩ (f_ahead2 l dC dI h0 ad cid sg gm lg x 1 hI hsx1_32 (iv_w (iv_k (by decide) : iv 1 1 1) (by decide))) (cwV 2 htb (gd_V kw_937 kw_938 kw_939 kw_5 kw_1549) rfl rfl rfl (by decide +kernel) ⟨Nat.le_of_ble_eq_true rfl, Nat.le_of_ble_eq_true rfl⟩) rfl hl.1 rfl (Nat.le_of_ble_eq_true rfl) dX13_isGood_293 ⟨Nat.zero_le _, Nat.zero_le _⟩ hK hP hD hS hA (fun r_85 u_86 H locs hw hP hD hS => ?_)
                obtain ⟨hr_85, fA_r_85, rfl⟩ := hw
                have hP : va_P (dC, dI) vwCl (mW h0 ad cid sg gm lg) H := hP
                have hD : va_D A (mW h0 ad cid sg gm lg) := hD
                simp only [i32_0, i32_1] at fA_r_85
                refine lv_if_ne (tgt := 303) hx hb dX13_isGood_296 (by decide) (fun c_87 => ?_) (fun c_87 => ?_)
                · have h_88 : iv 1 79 r_85 := iv_neL c_87 hr_85 (by decide)
                  exact hj303 x2_32 hx2_32 hsx1_32 ((fun h => by have p := (GK7_5 (x := x.toNatClampNeg) (by rw [← ez_18]; exact c_68)).mp h.2; have := congrArg Int32.toInt ez_18; have := (mHas_iv (gm := gm) (lg := lg) (x := x.toNatClampNeg) 24948).1; have := (mHas_iv (gm := gm) (lg := lg) (x := x.toNatClampNeg) 24948).2; have := (mHas_iv (gm := gm) (lg := lg) (x := x.toNatClampNeg) 1954115685).1; have := (mHas_iv (gm := gm) (lg := lg) (x := x.toNatClampNeg) 1954115685).2; have := i32_0; have := i32_1; have := i32_2; have := i32_m1; have := (hsx1_32).1; have := (hsx1_32).2; have := (hx2_32).1; have := (hx2_32).2; have := (hz_15).1; have := (hz_15).2; have := (h_69).1; have := (h_69).2; have := (h_74).1; have := (h_74).2; have := (h_79).1; have := (h_79).2; have := (h_84).1; have := (h_84).2; have := (h_88).1; have := (h_88).2; omega)) _ _ _ hP hD hS (lv_sub hl [0, 1, 2] rfl)
                · have h_89 : iv 0 0 r_85 := iv_eq c_87 hr_85 (iv_k (by decide) : iv 0 0 0) (by decide)
                  refine lv_iconst (v := 1) hx hb dX13_isGood_299 (by decide) ?_
                  refine lv_goto (tgt := 304) hx hb dX13_isGood_300 (by decide) ?_
                  exact hj304 x2_32 1 hx2_32 hsx1_32 (iv_w (iv_k (by decide) : iv 1 1 1) (by decide)) (Or.inl ⟨rfl, ⟨hCO, (GK7_5 (x := x.toNatClampNeg) (by rw [← ez_18]; exact c_68)).mpr (by have := congrArg Int32.toInt ez_18; have := (mHas_iv (gm := gm) (lg := lg) (x := x.toNatClampNeg) 24948).1; have := (mHas_iv (gm := gm) (lg := lg) (x := x.toNatClampNeg) 24948).2; have := (mHas_iv (gm := gm) (lg := lg) (x := x.toNatClampNeg) 1954115685).1; have := (mHas_iv (gm := gm) (lg := lg) (x := x.toNatClampNeg) 1954115685).2; have := i32_0; have := i32_1; have := i32_2; have := i32_m1; have := (hsx1_32).1; have := (hsx1_32).2; have := (hx2_32).1; have := (hx2_32).2; have := (hz_15).1; have := (hz_15).2; have := (h_69).1; have := (h_69).2; have := (h_74).1; have := (h_74).2; have := (h_79).1; have := (h_79).2; have := (h_84).1; have := (h_84).2; have := (h_89).1; have := (h_89).2; omega)⟩⟩) _ _ _ hP hD hS (lv_sub hl [0, 1, 2] rfl)
        by_cases c_90 : (z_18 : Int32).toInt = 6
        · refine lv_tableIn (tgt := 305) hx hb dX13_isGood_80 (by rw [c_90]; decide) (by rw [c_90]; decide) (by rw [c_90]; rfl) (by decide) ?_
          have h_91 : iv 6 6 z_18 := iv_at c_90
          refine lv_aload_n hx hb dX13_isGood_305 rfl (lv_at hl 1 rfl) ?_
          refine mr_get (v := .ref (ad 29)) hx hb htb inX13 hown hK hP 29 (by decide) (htb _ kw_185) rfl dX13_isGood_306 ?_
          refine lv_iload_n hx hb dX13_isGood_309 rfl (lv_at hl 2 rfl) ?_
          refine mr_iald hx hb hK hP 22 (k := 29) rfl rfl rfl (show vp_in x 80 from (iv_in hsx1_32 (by decide))) dX13_isGood_310 ?_
          refine lv_topi (fun z_92 ez_92 => ?_)
          have hz_92 : iv 0 80 z_92 := iv_of ez_92 (MI_a hI 29 hsx1_32 (by decide))
          refine lv_bipush (v := 6) hx hb dX13_isGood_311 (by decide) ?_
          refine lv_icmp_gt (tgt := 320) hx hb dX13_isGood_313 (by decide) (fun c_93 => ?_) (fun c_93 => ?_)
          · have h_94 : iv 7 80 z_92 := iv_ltR c_93 (iv_k (by decide) : iv 6 6 6) hz_92 (by decide)
            refine lv_iconst (v := 0) hx hb dX13_isGood_320 (by decide) ?_
            exact hj321 x2_32 0 hx2_32 hsx1_32 (iv_w (iv_k (by decide) : iv 0 0 0) (by decide)) (Or.inr ⟨rfl, (fun h => by have p := (GK7_6 (x := x.toNatClampNeg) (by rw [← ez_18]; exact c_90)).mp h.2; have := congrArg Int32.toInt ez_18; have := congrArg Int32.toInt ez_92; have := (mHas_iv (gm := gm) (lg := lg) (x := x.toNatClampNeg) 24948).1; have := (mHas_iv (gm := gm) (lg := lg) (x := x.toNatClampNeg) 24948).2; have := (mHas_iv (gm := gm) (lg := lg) (x := x.toNatClampNeg) 1954115685).1; have := (mHas_iv (gm := gm) (lg := lg) (x := x.toNatClampNeg) 1954115685).2; have := i32_0; have := i32_1; have := i32_2; have := i32_m1; have := (hsx1_32).1; have := (hsx1_32).2; have := (hx2_32).1; have := (hx2_32).2; have := (hz_15).1; have := (hz_15).2; have := (h_91).1; have := (h_91).2; have := (h_94).1; have := (h_94).2; omega)⟩) _ _ _ hP hD hS (lv_sub hl [0, 1, 2] rfl)
          · have h_95 : iv 0 6 z_92 := iv_leL (i32_ge c_93) hz_92 (iv_k (by decide) : iv 6 6 6) (by decide)
            refine lv_iconst (v := 1) hx hb dX13_isGood_316 (by decide) ?_
            refine lv_goto (tgt := 321) hx hb dX13_isGood_317 (by decide) ?_
            exact hj321 x2_32 1 hx2_32 hsx1_32 (iv_w (iv_k (by decide) : iv 1 1 1) (by decide)) (Or.inl ⟨rfl, ⟨hCO, (GK7_6 (x := x.toNatClampNeg) (by rw [← ez_18]; exact c_90)).mpr (by have := congrArg Int32.toInt ez_18; have := congrArg Int32.toInt ez_92; have := (mHas_iv (gm := gm) (lg := lg) (x := x.toNatClampNeg) 24948).1; have := (mHas_iv (gm := gm) (lg := lg) (x := x.toNatClampNeg) 24948).2; have := (mHas_iv (gm := gm) (lg := lg) (x := x.toNatClampNeg) 1954115685).1; have := (mHas_iv (gm := gm) (lg := lg) (x := x.toNatClampNeg) 1954115685).2; have := i32_0; have := i32_1; have := i32_2; have := i32_m1; have := (hsx1_32).1; have := (hsx1_32).2; have := (hx2_32).1; have := (hx2_32).2; have := (hz_15).1; have := (hz_15).2; have := (h_91).1; have := (h_91).2; have := (h_95).1; have := (h_95).2; omega)⟩⟩) _ _ _ hP hD hS (lv_sub hl [0, 1, 2] rfl)
        by_cases c_96 : (z_18 : Int32).toInt = 7
        · refine lv_tableIn (tgt := 322) hx hb dX13_isGood_80 (by rw [c_96]; decide) (by rw [c_96]; decide) (by rw [c_96]; rfl) (by decide) ?_
          have h_97 : iv 7 7 z_18 := iv_at c_96
          exact hj322 x2_32 hx2_32 hsx1_32 (hCO) ((by have : (gm 26 x.toNatClampNeg).toInt = 7 := (by rw [← ez_18]; exact c_96); omega)) _ _ _ hP hD hS (lv_sub hl [0, 1, 2] rfl)
        by_cases c_98 : (z_18 : Int32).toInt = 8
        · refine lv_tableIn (tgt := 337) hx hb dX13_isGood_80 (by rw [c_98]; decide) (by rw [c_98]; decide) (by rw [c_98]; rfl) (by decide) ?_
          have h_99 : iv 8 8 z_18 := iv_at c_98
          refine lv_aload_n hx hb dX13_isGood_337 rfl (lv_at hl 1 rfl) ?_
          refine lv_iload_n hx hb dX13_isGood_338 rfl (lv_at hl 2 rfl) ?_
          refine lv_ldc2 (own := RX13) (v := 1650811246) hx hb hown (htb _ kw_136) dX13_isGood_339 ?_
          refine mr_calli (rest := []) ⟨hx, hb, hml, hown, htb⟩ (f_isWord l dC dI h0 ad cid sg gm lg x 1650811246 hI hsx1_32) (cwV 2 htb (gd_V kw_910 kw_911 kw_912 kw_5 kw_1541) rfl rfl rfl (by decide +kernel) ⟨Nat.le_of_ble_eq_true rfl, Nat.le_of_ble_eq_true rfl⟩) rfl hl.1 rfl (Nat.le_of_ble_eq_true rfl) dX13_isGood_342 ⟨Nat.zero_le _, Nat.zero_le _⟩ hK hP hD hS hA (fun r_100 u_101 H locs hw hP hD hS => ?_)
          obtain ⟨hr_100, fI_r_100, rfl⟩ := hw
          have hP : va_P (dC, dI) vwCl (mW h0 ad cid sg gm lg) H := hP
          have hD : va_D A (mW h0 ad cid sg gm lg) := hD
          refine lv_if_eq (tgt := 361) hx hb dX13_isGood_345 (by decide) (fun c_102 => ?_) (fun c_102 => ?_)
          · have h_103 : iv 0 0 r_100 := iv_eq c_102 hr_100 (iv_k (by decide) : iv 0 0 0) (by decide)
            exact hj361 x2_32 hx2_32 hsx1_32 ((fun h => by have p := (GK7_8 (x := x.toNatClampNeg) (by rw [← ez_18]; exact c_98)).mp h.2; have := congrArg Int32.toInt ez_18; have := congrArg Int32.toInt fI_r_100; have := (mHas_iv (gm := gm) (lg := lg) (x := x.toNatClampNeg) 24948).1; have := (mHas_iv (gm := gm) (lg := lg) (x := x.toNatClampNeg) 24948).2; have := (mHas_iv (gm := gm) (lg := lg) (x := x.toNatClampNeg) 1954115685).1; have := (mHas_iv (gm := gm) (lg := lg) (x := x.toNatClampNeg) 1954115685).2; have := i32_0; have := i32_1; have := i32_2; have := i32_m1; have := (hsx1_32).1; have := (hsx1_32).2; have := (hx2_32).1; have := (hx2_32).2; have := (hz_15).1; have := (hz_15).2; have := (h_99).1; have := (h_99).2; have := (h_103).1; have := (h_103).2; omega)) _ _ _ hP hD hS (lv_sub hl [0, 1, 2] rfl)
          · have h_104 : iv 1 1 r_100 := iv_neL c_102 hr_100 (by decide)
            refine lv_aload_n hx hb dX13_isGood_348 rfl (lv_at hl 1 rfl) ?_
            refine mr_get (v := .ref (ad 29)) hx hb htb inX13 hown hK hP 29 (by decide) (htb _ kw_185) rfl dX13_isGood_349 ?_
            refine lv_iload_n hx hb dX13_isGood_352 rfl (lv_at hl 2 rfl) ?_
            refine mr_iald hx hb hK hP 22 (k := 29) rfl rfl rfl (show vp_in x 80 from (iv_in hsx1_32 (by decide))) dX13_isGood_353 ?_
            refine lv_topi (fun z_105 ez_105 => ?_)
            have hz_105 : iv 0 80 z_105 := iv_of ez_105 (MI_a hI 29 hsx1_32 (by decide))
            refine lv_if_ne (tgt := 361) hx hb dX13_isGood_354 (by decide) (fun c_106 => ?_) (fun c_106 => ?_)
            · have h_107 : iv 1 80 z_105 := iv_neL c_106 hz_105 (by decide)
              exact hj361 x2_32 hx2_32 hsx1_32 ((fun h => by have p := (GK7_8 (x := x.toNatClampNeg) (by rw [← ez_18]; exact c_98)).mp h.2; have := congrArg Int32.toInt ez_18; have := congrArg Int32.toInt ez_105; have := congrArg Int32.toInt fI_r_100; have := (mHas_iv (gm := gm) (lg := lg) (x := x.toNatClampNeg) 24948).1; have := (mHas_iv (gm := gm) (lg := lg) (x := x.toNatClampNeg) 24948).2; have := (mHas_iv (gm := gm) (lg := lg) (x := x.toNatClampNeg) 1954115685).1; have := (mHas_iv (gm := gm) (lg := lg) (x := x.toNatClampNeg) 1954115685).2; have := i32_0; have := i32_1; have := i32_2; have := i32_m1; have := (hsx1_32).1; have := (hsx1_32).2; have := (hx2_32).1; have := (hx2_32).2; have := (hz_15).1; have := (hz_15).2; have := (h_99).1; have := (h_99).2; have := (h_104).1; have := (h_104).2; have := (h_107).1; have := (h_107).2; omega)) _ _ _ hP hD hS (lv_sub hl [0, 1, 2] rfl)
            · have h_108 : iv 0 0 z_105 := iv_eq c_106 hz_105 (iv_k (by decide) : iv 0 0 0) (by decide)
              refine lv_iconst (v := 1) hx hb dX13_isGood_357 (by decide) ?_
              refine lv_goto (tgt := 362) hx hb dX13_isGood_358 (by decide) ?_
              exact hj362 x2_32 1 hx2_32 hsx1_32 (iv_w (iv_k (by decide) : iv 1 1 1) (by decide)) (Or.inl ⟨rfl, ⟨hCO, (GK7_8 (x := x.toNatClampNeg) (by rw [← ez_18]; exact c_98)).mpr (by have := congrArg Int32.toInt ez_18; have := congrArg Int32.toInt ez_105; have := congrArg Int32.toInt fI_r_100; have := (mHas_iv (gm := gm) (lg := lg) (x := x.toNatClampNeg) 24948).1; have := (mHas_iv (gm := gm) (lg := lg) (x := x.toNatClampNeg) 24948).2; have := (mHas_iv (gm := gm) (lg := lg) (x := x.toNatClampNeg) 1954115685).1; have := (mHas_iv (gm := gm) (lg := lg) (x := x.toNatClampNeg) 1954115685).2; have := i32_0; have := i32_1; have := i32_2; have := i32_m1; have := (hsx1_32).1; have := (hsx1_32).2; have := (hx2_32).1; have := (hx2_32).2; have := (hz_15).1; have := (hz_15).2; have := (h_99).1; have := (h_99).2; have := (h_104).1; have := (h_104).2; have := (h_108).1; have := (h_108).2; omega)⟩⟩) _ _ _ hP hD hS (lv_sub hl [0, 1, 2] rfl)
        by_cases c_109 : (z_18 : Int32).toInt = 9
        · refine lv_tableIn (tgt := 322) hx hb dX13_isGood_80 (by rw [c_109]; decide) (by rw [c_109]; decide) (by rw [c_109]; rfl) (by decide) ?_
          have h_110 : iv 9 9 z_18 := iv_at c_109
          exact hj322 x2_32 hx2_32 hsx1_32 (hCO) ((by have : (gm 26 x.toNatClampNeg).toInt = 9 := (by rw [← ez_18]; exact c_109); omega)) _ _ _ hP hD hS (lv_sub hl [0, 1, 2] rfl)
        by_cases c_111 : (z_18 : Int32).toInt = 10
        · refine lv_tableIn (tgt := 363) hx hb dX13_isGood_80 (by rw [c_111]; decide) (by rw [c_111]; decide) (by rw [c_111]; rfl) (by decide) ?_
          have h_112 : iv 10 10 z_18 := iv_at c_111
          refine lv_aload_n hx hb dX13_isGood_363 rfl (lv_at hl 1 rfl) ?_
          refine lv_iload_n hx hb dX13_isGood_364 rfl (lv_at hl 2 rfl) ?_
          refine lv_ldc2 (own := RX13) (v := 1851878757) hx hb hown (htb _ kw_887) dX13_isGood_365 ?_
          refine mr_calli (rest := []) ⟨hx, hb, hml, hown, htb⟩ (f_isOneLetter2 l dC dI h0 ad cid sg gm lg x 1851878757 hI hsx1_32) (cwV 2 htb (gd_V kw_919 kw_920 kw_921 kw_5 kw_1544) rfl rfl rfl (by decide +kernel) ⟨Nat.le_of_ble_eq_true rfl, Nat.le_of_ble_eq_true rfl⟩) rfl hl.1 rfl (Nat.le_of_ble_eq_true rfl) dX13_isGood_368 ⟨Nat.zero_le _, Nat.zero_le _⟩ hK hP hD hS hA (fun r_113 u_114 H locs hw hP hD hS => ?_)
          obtain ⟨hr_113, fO_r_113, rfl⟩ := hw
          have hP : va_P (dC, dI) vwCl (mW h0 ad cid sg gm lg) H := hP
          have hD : va_D A (mW h0 ad cid sg gm lg) := hD
          refine lv_if_eq (tgt := 417) hx hb dX13_isGood_371 (by decide) (fun c_115 => ?_) (fun c_115 => ?_)
          · have h_116 : iv 0 0 r_113 := iv_eq c_115 hr_113 (iv_k (by decide) : iv 0 0 0) (by decide)
            exact hj417 x2_32 hx2_32 hsx1_32 ((fun h => by have p := (GK7_10 (x := x.toNatClampNeg) (by rw [← ez_18]; exact c_111)).mp h.2; have := congrArg Int32.toInt ez_18; have := (mHas_iv (gm := gm) (lg := lg) (x := x.toNatClampNeg) 24948).1; have := (mHas_iv (gm := gm) (lg := lg) (x := x.toNatClampNeg) 24948).2; have := (mHas_iv (gm := gm) (lg := lg) (x := x.toNatClampNeg) 1954115685).1; have := (mHas_iv (gm := gm) (lg := lg) (x := x.toNatClampNeg) 1954115685).2; have := i32_0; have := i32_1; have := i32_2; have := i32_m1; have := (hsx1_32).1; have := (hsx1_32).2; have := (hx2_32).1; have := (hx2_32).2; have := (hz_15).1; have := (hz_15).2; have := (h_112).1; have := (h_112).2; have := (h_116).1; have := (h_116).2; omega)) _ _ _ hP hD hS (lv_sub hl [0, 1, 2] rfl)
          · have h_117 : iv 1 1 r_113 := iv_neL c_115 hr_113 (by decide)
            refine lv_aload_n hx hb dX13_isGood_374 rfl (lv_at hl 1 rfl) ?_
            refine lv_iload_n hx hb dX13_isGood_375 rfl (lv_at hl 2 rfl) ?_
            refine lv_ldc2 (own := RX13) (v := 1650811246) hx hb hown (htb _ kw_136) dX13_isGood_376 ?_
            refine mr_calli (rest := []) ⟨hx, hb, hml, hown, htb⟩ (f_isWord l dC dI h0 ad cid sg gm lg x 1650811246 hI hsx1_32) (cwV 2 htb (gd_V kw_910 kw_911 kw_912 kw_5 kw_1541) rfl rfl rfl (by decide +kernel) ⟨Nat.le_of_ble_eq_true rfl, Nat.le_of_ble_eq_true rfl⟩) rfl hl.1 rfl (Nat.le_of_ble_eq_true rfl) dX13_isGood_379 ⟨Nat.zero_le _, Nat.zero_le _⟩ hK hP hD hS hA (fun r_118 u_119 H locs hw hP hD hS => ?_)
            obtain ⟨hr_118, fI_r_118, rfl⟩ := hw
            have hP : va_P (dC, dI) vwCl (mW h0 ad cid sg gm lg) H := hP
            have hD : va_D A (mW h0 ad cid sg gm lg) := hD
            refine lv_if_eq (tgt := 417) hx hb dX13_isGood_382 (by decide) (fun c_120 => ?_) (fun c_120 => ?_)
            · have h_121 : iv 0 0 r_118 := iv_eq c_120 hr_118 (iv_k (by decide) : iv 0 0 0) (by decide)
              exact hj417 x2_32 hx2_32 hsx1_32 ((fun h => by have p := (GK7_10 (x := x.toNatClampNeg) (by rw [← ez_18]; exact c_111)).mp h.2; have := congrArg Int32.toInt ez_18; have := congrArg Int32.toInt fI_r_118; have := (mHas_iv (gm := gm) (lg := lg) (x := x.toNatClampNeg) 24948).1; have := (mHas_iv (gm := gm) (lg := lg) (x := x.toNatClampNeg) 24948).2; have := (mHas_iv (gm := gm) (lg := lg) (x := x.toNatClampNeg) 1954115685).1; have := (mHas_iv (gm := gm) (lg := lg) (x := x.toNatClampNeg) 1954115685).2; have := i32_0; have := i32_1; have := i32_2; have := i32_m1; have := (hsx1_32).1; have := (hsx1_32).2; have := (hx2_32).1; have := (hx2_32).2; have := (hz_15).1; have := (hz_15).2; have := (h_112).1; have := (h_112).2; have := (h_117).1; have := (h_117).2; have := (h_121).1; have := (h_121).2; omega)) _ _ _ hP hD hS (lv_sub hl [0, 1, 2] rfl)
            · have h_122 : iv 1 1 r_118 := iv_neL c_120 hr_118 (by decide)
              refine lv_aload_n hx hb dX13_isGood_385 rfl (lv_at hl 1 rfl) ?_
              refine mr_get (v := .ref (ad 29)) hx hb htb inX13 hown hK hP 29 (by decide) (htb _ kw_185) rfl dX13_isGood_386 ?_
              refine lv_iload_n hx hb dX13_isGood_389 rfl (lv_at hl 2 rfl) ?_
              refine mr_iald hx hb hK hP 22 (k := 29) rfl rfl rfl (show vp_in x 80 from (iv_in hsx1_32 (by decide))) dX13_isGood_390 ?_
              refine lv_topi (fun z_123 ez_123 => ?_)
              have hz_123 : iv 0 80 z_123 := iv_of ez_123 (MI_a hI 29 hsx1_32 (by decide))
              refine lv_if_ne (tgt := 417) hx hb dX13_isGood_391 (by decide) (fun c_124 => ?_) (fun c_124 => ?_)
              · have h_125 : iv 1 80 z_123 := iv_neL c_124 hz_123 (by decide)
                exact hj417 x2_32 hx2_32 hsx1_32 ((fun h => by have p := (GK7_10 (x := x.toNatClampNeg) (by rw [← ez_18]; exact c_111)).mp h.2; have := congrArg Int32.toInt ez_18; have := congrArg Int32.toInt ez_123; have := congrArg Int32.toInt fI_r_118; have := (mHas_iv (gm := gm) (lg := lg) (x := x.toNatClampNeg) 24948).1; have := (mHas_iv (gm := gm) (lg := lg) (x := x.toNatClampNeg) 24948).2; have := (mHas_iv (gm := gm) (lg := lg) (x := x.toNatClampNeg) 1954115685).1; have := (mHas_iv (gm := gm) (lg := lg) (x := x.toNatClampNeg) 1954115685).2; have := i32_0; have := i32_1; have := i32_2; have := i32_m1; have := (hsx1_32).1; have := (hsx1_32).2; have := (hx2_32).1; have := (hx2_32).2; have := (hz_15).1; have := (hz_15).2; have := (h_112).1; have := (h_112).2; have := (h_117).1; have := (h_117).2; have := (h_122).1; have := (h_122).2; have := (h_125).1; have := (h_125).2; omega)) _ _ _ hP hD hS (lv_sub hl [0, 1, 2] rfl)
              · have h_126 : iv 0 0 z_123 := iv_eq c_124 hz_123 (iv_k (by decide) : iv 0 0 0) (by decide)
                refine lv_aload_n hx hb dX13_isGood_394 rfl (lv_at hl 1 rfl) ?_
                refine lv_iload_n hx hb dX13_isGood_395 rfl (lv_at hl 2 rfl) ?_
                refine lv_iconst (v := 0) hx hb dX13_isGood_396 (by decide) ?_
                refine mr_calli (rest := []) ⟨hx, hb, hml, hown, htb⟩ (f_ahead2 l dC dI h0 ad cid sg gm lg x 0 hI hsx1_32 (iv_w (iv_k (by decide) : iv 0 0 0) (by decide))) (cwV 2 htb (gd_V kw_937 kw_938 kw_939 kw_5 kw_1549) rfl rfl rfl (by decide +kernel) ⟨Nat.le_of_ble_eq_true rfl, Nat.le_of_ble_eq_true rfl⟩) rfl hl.1 rfl (Nat.le_of_ble_eq_true rfl) dX13_isGood_397 ⟨Nat.zero_le _, Nat.zero_le _⟩ hK hP hD hS hA (fun r_127 u_128 H locs hw hP hD hS => ?_)
                obtain ⟨hr_127, fA_r_127, rfl⟩ := hw
                have hP : va_P (dC, dI) vwCl (mW h0 ad cid sg gm lg) H := hP
                have hD : va_D A (mW h0 ad cid sg gm lg) := hD
                simp only [i32_0, i32_1] at fA_r_127
                refine lv_iconst (v := 2) hx hb dX13_isGood_400 (by decide) ?_
                refine lv_icmp_ge (tgt := 417) hx hb dX13_isGood_401 (by decide) (fun c_129 => ?_) (fun c_129 => ?_)
                · have h_130 : iv 2 79 r_127 := iv_leR c_129 (iv_k (by decide) : iv 2 2 2) hr_127 (by decide)
                  exact hj417 x2_32 hx2_32 hsx1_32 ((fun h => by have p := (GK7_10 (x := x.toNatClampNeg) (by rw [← ez_18]; exact c_111)).mp h.2; have := congrArg Int32.toInt ez_18; have := congrArg Int32.toInt ez_123; have := congrArg Int32.toInt fI_r_118; have := (mHas_iv (gm := gm) (lg := lg) (x := x.toNatClampNeg) 24948).1; have := (mHas_iv (gm := gm) (lg := lg) (x := x.toNatClampNeg) 24948).2; have := (mHas_iv (gm := gm) (lg := lg) (x := x.toNatClampNeg) 1954115685).1; have := (mHas_iv (gm := gm) (lg := lg) (x := x.toNatClampNeg) 1954115685).2; have := i32_0; have := i32_1; have := i32_2; have := i32_m1; have := (hsx1_32).1; have := (hsx1_32).2; have := (hx2_32).1; have := (hx2_32).2; have := (hz_15).1; have := (hz_15).2; have := (h_112).1; have := (h_112).2; have := (h_117).1; have := (h_117).2; have := (h_122).1; have := (h_122).2; have := (h_126).1; have := (h_126).2; have := (h_130).1; have := (h_130).2; omega)) _ _ _ hP hD hS (lv_sub hl [0, 1, 2] rfl)
                · have h_131 : iv 0 1 r_127 := iv_ltL (i32_lt c_129) hr_127 (iv_k (by decide) : iv 2 2 2) (by decide)
                  refine lv_aload_n hx hb dX13_isGood_404 rfl (lv_at hl 1 rfl) ?_
                  refine lv_iload_n hx hb dX13_isGood_405 rfl (lv_at hl 2 rfl) ?_
                  refine lv_iconst (v := 1) hx hb dX13_isGood_406 (by decide) ?_
                  refine mr_calli (rest := []) ⟨hx, hb, hml, hown, htb⟩ (f_ahead2 l dC dI h0 ad cid sg gm lg x 1 hI hsx1_32 (iv_w (iv_k (by decide) : iv 1 1 1) (by decide))) (cwV 2 htb (gd_V kw_937 kw_938 kw_939 kw_5 kw_1549) rfl rfl rfl (by decide +kernel) ⟨Nat.le_of_ble_eq_true rfl, Nat.le_of_ble_eq_true rfl⟩) rfl hl.1 rfl (Nat.le_of_ble_eq_true rfl) dX13_isGood_407 ⟨Nat.zero_le _, Nat.zero_le _⟩ hK hP hD hS hA (fun r_132 u_133 H locs hw hP hD hS => ?_)
                  obtain ⟨hr_132, fA_r_132, rfl⟩ := hw
                  have hP : va_P (dC, dI) vwCl (mW h0 ad cid sg gm lg) H := hP
                  have hD : va_D A (mW h0 ad cid sg gm lg) := hD
                  simp only [i32_0, i32_1] at fA_r_132
                  refine lv_if_ne (tgt := 417) hx hb dX13_isGood_410 (by decide) (fun c_134 => ?_) (fun c_134 => ?_)
                  · have h_135 : iv 1 79 r_132 := iv_neL c_134 hr_132 (by decide)
                    exact hj417 x2_32 hx2_32 hsx1_32 ((fun h => by have p := (GK7_10 (x := x.toNatClampNeg) (by rw [← ez_18]; exact c_111)).mp h.2; have := congrArg Int32.toInt ez_18; have := congrArg Int32.toInt ez_123; have := congrArg Int32.toInt fI_r_118; have := (mHas_iv (gm := gm) (lg := lg) (x := x.toNatClampNeg) 24948).1; have := (mHas_iv (gm := gm) (lg := lg) (x := x.toNatClampNeg) 24948).2; have := (mHas_iv (gm := gm) (lg := lg) (x := x.toNatClampNeg) 1954115685).1; have := (mHas_iv (gm := gm) (lg := lg) (x := x.toNatClampNeg) 1954115685).2; have := i32_0; have := i32_1; have := i32_2; have := i32_m1; have := (hsx1_32).1; have := (hsx1_32).2; have := (hx2_32).1; have := (hx2_32).2; have := (hz_15).1; have := (hz_15).2; have := (h_112).1; have := (h_112).2; have := (h_117).1; have := (h_117).2; have := (h_122).1; have := (h_122).2; have := (h_126).1; have := (h_126).2; have := (h_131).1; have := (h_131).2; have := (h_135).1; have := (h_135).2; omega)) _ _ _ hP hD hS (lv_sub hl [0, 1, 2] rfl)
                  · have h_136 : iv 0 0 r_132 := iv_eq c_134 hr_132 (iv_k (by decide) : iv 0 0 0) (by decide)
                    refine lv_iconst (v := 1) hx hb dX13_isGood_413 (by decide) ?_
                    refine lv_goto (tgt := 418) hx hb dX13_isGood_414 (by decide) ?_
                    exact hj418 x2_32 1 hx2_32 hsx1_32 (iv_w (iv_k (by decide) : iv 1 1 1) (by decide)) (Or.inl ⟨rfl, ⟨hCO, (GK7_10 (x := x.toNatClampNeg) (by rw [← ez_18]; exact c_111)).mpr (by have := congrArg Int32.toInt ez_18; have := congrArg Int32.toInt ez_123; have := congrArg Int32.toInt fI_r_118; have := (mHas_iv (gm := gm) (lg := lg) (x := x.toNatClampNeg) 24948).1; have := (mHas_iv (gm := gm) (lg := lg) (x := x.toNatClampNeg) 24948).2; have := (mHas_iv (gm := gm) (lg := lg) (x := x.toNatClampNeg) 1954115685).1; have := (mHas_iv (gm := gm) (lg := lg) (x := x.toNatClampNeg) 1954115685).2; have := i32_0; have := i32_1; have := i32_2; have := i32_m1; have := (hsx1_32).1; have := (hsx1_32).2; have := (hx2_32).1; have := (hx2_32).2; have := (hz_15).1; have := (hz_15).2; have := (h_112).1; have := (h_112).2; have := (h_117).1; have := (h_117).2; have := (h_122).1; have := (h_122).2; have := (h_126).1; have := (h_126).2; have := (h_131).1; have := (h_131).2; have := (h_136).1; have := (h_136).2; omega)⟩⟩) _ _ _ hP hD hS (lv_sub hl [0, 1, 2] rfl)
        refine lv_tableOut (tgt := 419) hx hb dX13_isGood_80 (by have q1 := (hz_18).1; have q2 := (hz_18).2; omega) (by decide) ?_
        have h_137 : iv 0 1 z_18 := ⟨by have q1 := (hz_18).1; have q2 := (hz_18).2; omega, by have q1 := (hz_18).1; have q2 := (hz_18).2; omega⟩
        refine lv_iconst (v := 1) hx hb dX13_isGood_419 (by decide) ?_
        exact W.zret (v := 1) hx hb hr (iv_nb (iv_w (iv_k (by decide) : iv 1 1 1) (by decide))) (fun t ht hW => ⟨⟨1, (sg, gm, lg), rfl, ⟨(iv_w (iv_k (by decide) : iv 1 1 1) (by decide)), (Or.inl ⟨rfl, hCO, Or.inl (by have := congrArg Int32.toInt ez_18; have := (h_137).2; have q9 := u30.1; unfold INP7 at q9; omega)⟩), rfl⟩, by rw [ht]; exact hP, va_K.moved hW.alike hK, hD⟩, hS.F ht⟩) hS.2.2 dX13_isGood_420
      · have d_138 : (x2_32 : Int32).toInt < (z_15 : Int32).toInt := Int32.lt_iff_toInt_lt.mp (i32_lt c_16)
        have h_139 : iv 0 11 x2_32 := iv_ltL (i32_lt c_16) hx2_32 hz_15 (by decide)
        have h_140 : iv 1 12 z_15 := iv_ltR (i32_lt c_16) hx2_32 hz_15 (by decide)
        refine lv_aload_n hx hb dX13_isGood_42 rfl (lv_at hl 1 rfl) ?_
        refine lv_aload_n hx hb dX13_isGood_43 rfl (lv_at hl 1 rfl) ?_
        refine mr_get (v := .ref (ad 26)) hx hb htb inX13 hown hK hP 26 (by decide) (htb _ kw_182) rfl dX13_isGood_44 ?_
        refine lv_iload_n hx hb dX13_isGood_47 rfl (lv_at hl 2 rfl) ?_
        refine mr_iald hx hb hK hP 19 (k := 26) rfl rfl rfl (show vp_in x 80 from (iv_in hsx1_32 (by decide))) dX13_isGood_48 ?_
        refine lv_topi (fun z_141 ez_141 => ?_)
        have hz_141 : iv 0 10 z_141 := iv_of ez_141 (MI_a hI 26 hsx1_32 (by decide))
        refine lv_aload_n hx hb dX13_isGood_49 rfl (lv_at hl 1 rfl) ?_
        refine mr_get (v := .ref (ad 35)) hx hb htb inX13 hown hK hP 35 (by decide) (htb _ kw_191) rfl dX13_isGood_50 ?_
        refine lv_bipush (v := 12) hx hb dX13_isGood_53 (by decide) ?_
        refine lv_iload_n hx hb dX13_isGood_55 rfl (lv_at hl 2 rfl) ?_
        refine lv_imul hx hb dX13_isGood_56 ?_
        refine lv_topi (fun z_142 ez_142 => ?_)
        have hz_142 : iv 0 948 z_142 := iv_of ez_142 (iv_mul (iv_k (by decide) : iv 12 12 12) hsx1_32 (by decide))
        have tz_142 : z_142.toInt = 12 * (x : Int32).toInt := by rw [ez_142]; exact iv_mulE (iv_k (by decide) : iv 12 12 12) hsx1_32 (by decide)
        refine lv_iload_n hx hb dX13_isGood_57 rfl (lv_at hl 0 rfl) ?_
        refine lv_iadd hx hb dX13_isGood_58 ?_
        refine lv_topi (fun z_143 ez_143 => ?_)
        have hz_143 : iv 0 959 z_143 := iv_of ez_143 (iv_add hz_142 h_139 (by decide))
        have tz_143 : z_143.toInt = (z_142 : Int32).toInt + (x2_32 : Int32).toInt := by rw [ez_143]; exact iv_addE hz_142 h_139 (by decide)
        refine mr_lald hx hb hK hP 28 (k := 35) rfl rfl rfl (show vp_in z_143 960 from (iv_in hz_143 (by decide))) dX13_isGood_59 ?_
        refine lv_topl (fun z_144 ez_144 => ?_)
        refine mr_calli (rest := []) ⟨hx, hb, hml, hown, htb⟩ (a_isAllowed2 l dC dI h0 ad cid sg gm lg z_141 z_144 hI) (cwV 2 htb (gd_V kw_896 kw_897 kw_898 kw_5 kw_1540) rfl rfl rfl (by decide +kernel) ⟨Nat.le_of_ble_eq_true rfl, Nat.le_of_ble_eq_true rfl⟩) rfl hl.1 rfl (Nat.le_of_ble_eq_true rfl) dX13_isGood_60 ⟨Nat.zero_le _, Nat.zero_le _⟩ hK hP hD hS hA (fun r_145 u_146 H locs hw hP hD hS => ?_)
        obtain ⟨hr_145, fA_r_145, rfl⟩ := hw
        have hP : va_P (dC, dI) vwCl (mW h0 ad cid sg gm lg) H := hP
        have hD : va_D A (mW h0 ad cid sg gm lg) := hD
        refine lv_if_ne (tgt := 68) hx hb dX13_isGood_63 (by decide) (fun c_147 => ?_) (fun c_147 => ?_)
        · have h_148 : iv 1 1 r_145 := iv_neL c_147 hr_145 (by decide)
          obtain ⟨z_149, ez_149⟩ : ∃ z : Int32, z = x2_32 + 1 := ⟨_, rfl⟩
          have hz_149 : iv 1 12 z_149 := iv_of ez_149 (iv_add h_139 (iv_k (by decide) : iv 1 1 1) (by decide))
          have tz_149 : z_149.toInt = x2_32.toInt + 1 := by rw [ez_149]; exact iv_addE h_139 (iv_k (by decide) : iv 1 1 1) (by decide)
          refine lv_iinc (v := z_149) (lv' := [(2, .int z_149), (0, .ref h0), (1, .int x)]) hx hb dX13_isGood_68 hl (k := 0) rfl ez_149.symm (by decide) rfl (fun ls hl => ?_)
          refine lv_goto (tgt := 32) hx hb dX13_isGood_71 (by decide) ?_
          exact ih32 _ (by rw [← hn32]; exact (iv_meas tz_149 h_139 (by decide))) z_149 rfl (iv_w hz_149 (by decide)) hsx1_32 (u30) ((all_s (P := fun k => ALW ((gm 26 x.toNatClampNeg).toInt) (lg 35 (12 * x.toNatClampNeg + k)).toInt) h_139 (by decide) tz_149 hal (by have q1 : z_143.toNatClampNeg = 12 * x.toNatClampNeg + x2_32.toNatClampNeg := (by have := iv_cl hz_143 (by decide); have := iv_cl hvx (by decide); have := iv_cl h_139 (by decide); have := tz_143; have := tz_142; omega); have q2 := (fA_r_145.resolve_right (fun w => absurd w.1 (by have := i32_0; have := i32_1; have := i32_2; have := i32_m1; have := (hsx1_32).1; have := (hsx1_32).2; have := (h_139).1; have := (h_139).2; have := (h_140).1; have := (h_140).2; have := (hz_141).1; have := (hz_141).2; have := (hz_142).1; have := (hz_142).2; have := (hz_143).1; have := (hz_143).2; have := (h_148).1; have := (h_148).2; have := (hz_149).1; have := (hz_149).2; omega))).2; rw [ez_144, ez_141, q1] at q2; exact q2))) _ _ _ hP hD hS (lv_sub hl [0, 1, 2] rfl)
        · have h_150 : iv 0 0 r_145 := iv_eq c_147 hr_145 (iv_k (by decide) : iv 0 0 0) (by decide)
          refine lv_iconst (v := 0) hx hb dX13_isGood_66 (by decide) ?_
          exact W.zret (v := 0) hx hb hr (iv_nb (iv_w (iv_k (by decide) : iv 0 0 0) (by decide))) (fun t ht hW => ⟨⟨0, (sg, gm, lg), rfl, ⟨(iv_w (iv_k (by decide) : iv 0 0 0) (by decide)), (Or.inr ⟨rfl, fun h => by have q1 : z_143.toNatClampNeg = 12 * x.toNatClampNeg + x2_32.toNatClampNeg := (by have := iv_cl hz_143 (by decide); have := iv_cl hvx (by decide); have := iv_cl h_139 (by decide); have := tz_143; have := tz_142; omega); have q2 := (fA_r_145.resolve_left (fun w => absurd w.1 (by have := i32_0; have := i32_1; have := i32_2; have := i32_m1; have := (hsx1_32).1; have := (hsx1_32).2; have := (h_139).1; have := (h_139).2; have := (h_140).1; have := (h_140).2; have := (hz_141).1; have := (hz_141).2; have := (hz_142).1; have := (hz_142).2; have := (hz_143).1; have := (hz_143).2; have := (h_150).1; have := (h_150).2; omega))).2; rw [ez_144, ez_141, q1] at q2; exact q2 (h.1.2 x2_32.toNatClampNeg (Nat.zero_le _) (by rw [← ez_15]; have := iv_cl h_140 (by decide); have := iv_cl h_139 (by decide); have := i32_0; have := i32_1; have := i32_2; have := i32_m1; have := (hsx1_32).1; have := (hsx1_32).2; have := (h_139).1; have := (h_139).2; have := (h_140).1; have := (h_140).2; have := (hz_141).1; have := (hz_141).2; have := (hz_142).1; have := (hz_142).2; have := (hz_143).1; have := (hz_143).2; have := (h_150).1; have := (h_150).2; omega))⟩), rfl⟩, by rw [ht]; exact hP, va_K.moved hW.alike hK, hD⟩, hS.F ht⟩) hS.2.2 dX13_isGood_67
  have hj30 : ∀ (_ : iv 0 79 x) (_ : INP7 ((gm 26 x.toNatClampNeg).toInt) (abk gm x.toNatClampNeg) ∧ ((gm 26 x.toNatClampNeg).toInt = 7 ∨ (gm 31 x.toNatClampNeg).toInt ≤ 0)) (H : Heap) (locs : List Loc) (ls : Array Slot), va_P (dC, dI) vwCl (mW h0 ad cid sg gm lg) H → va_D A (mW h0 ad cid sg gm lg) → va_S A s.heap H locs → lv_has ls 3 [(0, .ref h0), (1, .int x)] → W p l e (headSpec wm_X13_isGood ({ frames := 4, cells := 0, slots := 0, locals := 103 })).room s m ([.ref h0, .int x] : List Value).toArray below meth c H locs 0 0 (MQ below (va_Qi (fun r v => (iv 0 1 r) ∧ ((r.toInt = 1 ∧ (GOOD7 gm lg x.toNatClampNeg)) ∨ (r.toInt = 0 ∧ ¬ (GOOD7 gm lg x.toNatClampNeg))) ∧ v = (sg, gm, lg)) (MB dC dI h0 ad cid A) A) ([.ref h0, .int x] : List Value).toArray s 0 0 A) (F0 m 30 ls []) := by
    intro  hsx1_30 u30 H locs ls hP hD hS hl
    refine lv_iconst (v := 0) hx hb dX13_isGood_30 (by decide) ?_
    refine lv_istore_n (lv' := [(2, .int 0), (0, .ref h0), (1, .int x)]) hx hb dX13_isGood_31 rfl hl (by decide) rfl (fun ls hl => ?_)
    exact hj32 _ 0 rfl (iv_w (iv_k (by decide) : iv 0 0 0) (by decide)) hsx1_30 (u30) ((fun _ _ h => absurd h (Nat.not_lt_zero _))) _ _ _ hP hD hS (lv_sub hl [0, 1, 2] rfl)
  refine lv_aload_n hx hb dX13_isGood_0 rfl (lv_at hl 0 rfl) ?_
  refine lv_iload_n hx hb dX13_isGood_1 rfl (lv_at hl 1 rfl) ?_
  refine mr_calli (rest := []) ⟨hx, hb, hml, hown, htb⟩ (f_isInPlace2 l dC dI h0 ad cid sg gm lg x hI hvx) (cwV 1 htb (gd_V kw_893 kw_894 kw_895 kw_5 kw_1539) rfl rfl rfl (by decide +kernel) ⟨Nat.le_of_ble_eq_true rfl, Nat.le_of_ble_eq_true rfl⟩) rfl hl.1 rfl (Nat.le_of_ble_eq_true rfl) dX13_isGood_2 ⟨Nat.zero_le _, Nat.zero_le _⟩ hK hP hD hS hA (fun r_151 u_152 H locs hw hP hD hS => ?_)
  obtain ⟨hr_151, fP_r_151, rfl⟩ := hw
  have hP : va_P (dC, dI) vwCl (mW h0 ad cid sg gm lg) H := hP
  have hD : va_D A (mW h0 ad cid sg gm lg) := hD
  refine lv_if_eq (tgt := 28) hx hb dX13_isGood_5 (by decide) (fun c_153 => ?_) (fun c_153 => ?_)
  · have h_154 : iv 0 0 r_151 := iv_eq c_153 hr_151 (iv_k (by decide) : iv 0 0 0) (by decide)
    exact hj28 hvx ((fun h => (fP_r_151.resolve_left (fun w => absurd w.1 (by have := i32_0; have := i32_1; have := i32_2; have := i32_m1; have := (hvx).1; have := (hvx).2; have := (h_154).1; have := (h_154).2; omega))).2 h.1)) _ _ _ hP hD hS (lv_sub hl [0, 1] rfl)
  · have h_155 : iv 1 1 r_151 := iv_neL c_153 hr_151 (by decide)
    refine lv_aload_n hx hb dX13_isGood_8 rfl (lv_at hl 0 rfl) ?_
    refine mr_get (v := .ref (ad 26)) hx hb htb inX13 hown hK hP 26 (by decide) (htb _ kw_182) rfl dX13_isGood_9 ?_
    refine lv_iload_n hx hb dX13_isGood_12 rfl (lv_at hl 1 rfl) ?_
    refine mr_iald hx hb hK hP 19 (k := 26) rfl rfl rfl (show vp_in x 80 from (iv_in hvx (by decide))) dX13_isGood_13 ?_
    refine lv_topi (fun z_156 ez_156 => ?_)
    have hz_156 : iv 0 10 z_156 := iv_of ez_156 (MI_a hI 26 hvx (by decide))
    refine lv_bipush (v := 7) hx hb dX13_isGood_14 (by decide) ?_
    refine lv_icmp_eq (tgt := 30) hx hb dX13_isGood_16 (by decide) (fun c_157 => ?_) (fun c_157 => ?_)
    · have h_158 : iv 7 7 z_156 := iv_eq c_157 hz_156 (iv_k (by decide) : iv 7 7 7) (by decide)
      exact hj30 hvx (⟨(fP_r_151.resolve_right (fun w => absurd w.1 (by have := i32_0; have := i32_1; have := i32_2; have := i32_m1; have := (hvx).1; have := (hvx).2; have := (h_155).1; have := (h_155).2; have := (h_158).1; have := (h_158).2; omega))).2, (by (try clear fP_r_151); have := congrArg Int32.toInt ez_156; have := (mHas_iv (gm := gm) (lg := lg) (x := x.toNatClampNeg) 24948).1; have := (mHas_iv (gm := gm) (lg := lg) (x := x.toNatClampNeg) 24948).2; have := (mHas_iv (gm := gm) (lg := lg) (x := x.toNatClampNeg) 1954115685).1; have := (mHas_iv (gm := gm) (lg := lg) (x := x.toNatClampNeg) 1954115685).2; have := i32_0; have := i32_1; have := i32_2; have := i32_m1; have := (hvx).1; have := (hvx).2; have := (h_155).1; have := (h_155).2; have := (h_158).1; have := (h_158).2; omega)⟩) _ _ _ hP hD hS (lv_sub hl [0, 1] rfl)
    · have d_159 : ¬ (z_156 : Int32).toInt = 7 := lv_neT c_157 rfl
      refine lv_aload_n hx hb dX13_isGood_19 rfl (lv_at hl 0 rfl) ?_
      refine mr_get (v := .ref (ad 31)) hx hb htb inX13 hown hK hP 31 (by decide) (htb _ kw_187) rfl dX13_isGood_20 ?_
      refine lv_iload_n hx hb dX13_isGood_23 rfl (lv_at hl 1 rfl) ?_
      refine mr_iald hx hb hK hP 24 (k := 31) rfl rfl rfl (show vp_in x 80 from (iv_in hvx (by decide))) dX13_isGood_24 ?_
      refine lv_topi (fun z_160 ez_160 => ?_)
      have hz_160 : iv 0 24 z_160 := iv_of ez_160 (MI_a hI 31 hvx (by decide))
      refine lv_if_le (tgt := 30) hx hb dX13_isGood_25 (by decide) (fun c_161 => ?_) (fun c_161 => ?_)
      · have h_162 : iv 0 0 z_160 := iv_leL c_161 hz_160 (iv_k (by decide) : iv 0 0 0) (by decide)
        exact hj30 hvx (⟨(fP_r_151.resolve_right (fun w => absurd w.1 (by have := i32_0; have := i32_1; have := i32_2; have := i32_m1; have := (hvx).1; have := (hvx).2; have := (h_155).1; have := (h_155).2; have := (hz_156).1; have := (hz_156).2; have := (h_162).1; have := (h_162).2; omega))).2, (by (try clear fP_r_151); have := congrArg Int32.toInt ez_156; have := congrArg Int32.toInt ez_160; have := (mHas_iv (gm := gm) (lg := lg) (x := x.toNatClampNeg) 24948).1; have := (mHas_iv (gm := gm) (lg := lg) (x := x.toNatClampNeg) 24948).2; have := (mHas_iv (gm := gm) (lg := lg) (x := x.toNatClampNeg) 1954115685).1; have := (mHas_iv (gm := gm) (lg := lg) (x := x.toNatClampNeg) 1954115685).2; have := i32_0; have := i32_1; have := i32_2; have := i32_m1; have := (hvx).1; have := (hvx).2; have := (h_155).1; have := (h_155).2; have := (hz_156).1; have := (hz_156).2; have := (h_162).1; have := (h_162).2; omega)⟩) _ _ _ hP hD hS (lv_sub hl [0, 1] rfl)
      · have h_163 : iv 1 24 z_160 := iv_ltR (i32_lt c_161) (iv_k (by decide) : iv 0 0 0) hz_160 (by decide)
        exact hj28 hvx ((fun h => absurd h.2 (by (try clear fP_r_151); have := congrArg Int32.toInt ez_156; have := congrArg Int32.toInt ez_160; have := (mHas_iv (gm := gm) (lg := lg) (x := x.toNatClampNeg) 24948).1; have := (mHas_iv (gm := gm) (lg := lg) (x := x.toNatClampNeg) 24948).2; have := (mHas_iv (gm := gm) (lg := lg) (x := x.toNatClampNeg) 1954115685).1; have := (mHas_iv (gm := gm) (lg := lg) (x := x.toNatClampNeg) 1954115685).2; have := i32_0; have := i32_1; have := i32_2; have := i32_m1; have := (hvx).1; have := (hvx).2; have := (h_155).1; have := (h_155).2; have := (hz_156).1; have := (hz_156).2; have := (h_163).1; have := (h_163).2; omega))) _ _ _ hP hD hS (lv_sub hl [0, 1] rfl)
