def BM7 (k b : Int) : Prop := ((k = 26980 ∨ k = 7017298113369039732 ∨ k = 1818327673) ∧ b = 1) ∨ (k = 427020088179 ∨ k = 123563833388660 ∨ k = 495589486693 ∨ k = 28817527407604345 ∨ k = 120282512125796 ∨ k = 1768843636 ∨ k = 28259044220366713 ∨ k = 28259031083541619)
def MK7 (k : Int) : Prop := k = 1851878757 ∨ k = 29807 ∨ k = 26980 ∨ k = 7017298113369039732 ∨ k = 1818327673 ∨ k = 427020088179 ∨ k = 123563833388660 ∨ k = 495589486693 ∨ k = 28817527407604345 ∨ k = 120282512125796 ∨ k = 1768843636 ∨ k = 28259044220366713 ∨ k = 28259031083541619 ∨ k = 24948 ∨ k = 1954115685 ∨ k = 508440638821 ∨ k = 7497062 ∨ k = 1650811246
theorem MAY_k {kd i k : Int} (h : MAY kd i k) : MK7 k := by
  unfold MAY at h
  unfold MK7
  rcases h with ⟨_, q⟩ | ⟨_, ⟨q, _⟩ | q⟩ | ⟨_, q⟩ | ⟨_, q⟩ | ⟨_, q⟩ | ⟨_, q⟩ <;> omega
theorem MAY_b {i k b kd : Int} (hk : kd = 3) (hb : (b = 1 ∧ i = 1) ∨ (b = 0 ∧ ¬ i = 1)) : MAY kd i k ↔ BM7 k b := by
  rw [hk, MAY_3]
  unfold BM7
  refine or_congr (and_congr Iff.rfl ?_) Iff.rfl
  constructor <;> intro w <;> omega
theorem wkL {w : Int32} {x : Int64} {j : Nat} (hw : iv 0 33 w) (h : w.toInt = (j : Int)) (e : wKy.getD j 0 = x) : wKy.getD w.toNatClampNeg 0 = x := by
  have q1 := iv_cl hw (by decide)
  rw [show w.toNatClampNeg = j by omega]
  exact e
theorem rvg_L {kd : Int} {q : At7} {k : Int64} (h : PA7 q) (hk : k.toInt = 120282512125796 ∨ k.toInt = 1768843636 ∨ k.toInt = 28259044220366713) : RVL kd q k ↔ 0 ≤ lv7 q k := by
  rcases hk with e | e | e
  · obtain rfl : k = 120282512125796 := Int64.toInt_inj.mp (e.trans (by decide)); exact rv_METHOD h
  · obtain rfl : k = 1768843636 := Int64.toInt_inj.mp (e.trans (by decide)); exact rv_INIT h
  · obtain rfl : k = 28259044220366713 := Int64.toInt_inj.mp (e.trans (by decide)); exact rv_DESTROY h
theorem rvg_Y {kd : Int} {q : At7} {k : Int64} (h : PA7 q) (hk : k.toInt = 7017298113369039732 ∨ k.toInt = 1818327673) : RVL kd q k ↔ (nv7 q k = 7955827 ∨ nv7 q k = 28271) := by
  rw [nve_7955827 h, nve_28271 h]
  rcases hk with e | e
  · obtain rfl : k = 7017298113369039732 := Int64.toInt_inj.mp (e.trans (by decide)); exact rv_ABSTRACT h
  · obtain rfl : k = 1818327673 := Int64.toInt_inj.mp (e.trans (by decide)); exact rv_LAZY h
theorem rvg_O {kd : Int} {q : At7} {k : Int64} (h : PA7 q) (e : k.toInt = 495589486693) : RVL kd q k ↔ (nv7 q k = 7302757 ∨ nv7 q k = 1835101817) := by
  rw [nve_7302757 h, nve_1835101817 h]
  obtain rfl : k = 495589486693 := Int64.toInt_inj.mp (e.trans (by decide)); exact rv_SCOPE h
theorem rvg_C {kd : Int} {q : At7} {k : Int64} (h : PA7 q) (e : k.toInt = 427020088179) : RVL kd q k ↔ 0 ≤ cv7 q k := by
  obtain rfl : k = 427020088179 := Int64.toInt_inj.mp (e.trans (by decide)); exact rv_CLASS h
theorem rvg_A {kd : Int} {q : At7} {k : Int64} (h : PA7 q) (e : k.toInt = 24948) : RVL kd q k ↔ 0 ≤ pl7 q k := by
  obtain rfl : k = 24948 := Int64.toInt_inj.mp (e.trans (by decide)); exact rv_AT h
theorem rvg_V {kd : Int} {q : At7} {k : Int64} (h : PA7 q) (e : k.toInt = 508440638821) : RVL kd q k := by
  obtain rfl : k = 508440638821 := Int64.toInt_inj.mp (e.trans (by decide)); exact (rv_VALUE h).mpr trivial
theorem rvg_T {kd : Int} {q : At7} {k : Int64} (h : PA7 q) (e : k.toInt = 1954115685) : RVL kd q k ↔ ty7 q k := by
  obtain rfl : k = 1954115685 := Int64.toInt_inj.mp (e.trans (by decide))
  rw [rv_TYPE h]
  unfold ty7
  rw [nve_6909556 h, nve_500136506472 h, nve_1667785074 h, nve_1952807028 h, nve_7499639 h]
theorem rvg_N {kd : Int} {q : At7} {k : Int64} (h : PA7 q) (e : k.toInt = 1851878757) : RVL kd q k ↔ ((kd = 2 ∧ ¬ nv7 q k = 0) ∨ (¬ kd = 2 ∧ 0 ≤ lv7 q k)) := by
  rw [nv7_z h]
  obtain rfl : k = 1851878757 := Int64.toInt_inj.mp (e.trans (by decide)); exact rv_NAME h
theorem rvg_W {kd : Int} {q : At7} {k : Int64} (h : PA7 q) (hk : k.toInt = 26980 ∨ k.toInt = 123563833388660 ∨ k.toInt = 28817527407604345 ∨ k.toInt = 28259031083541619 ∨ k.toInt = 29807 ∨ k.toInt = 7497062 ∨ k.toInt = 1650811246) : RVL kd q k ↔ ¬ nv7 q k = 0 := by
  rw [nv7_z h]
  rcases hk with e | e | e | e | e | e | e
  · obtain rfl : k = 26980 := Int64.toInt_inj.mp (e.trans (by decide)); exact rv_ID h
  · obtain rfl : k = 123563833388660 := Int64.toInt_inj.mp (e.trans (by decide)); exact rv_PARENT h
  · obtain rfl : k = 28817527407604345 := Int64.toInt_inj.mp (e.trans (by decide)); exact rv_FACTORY h
  · obtain rfl : k = 28259031083541619 := Int64.toInt_inj.mp (e.trans (by decide)); exact rv_DEPENDS h
  · obtain rfl : k = 29807 := Int64.toInt_inj.mp (e.trans (by decide)); exact rv_TO h
  · obtain rfl : k = 7497062 := Int64.toInt_inj.mp (e.trans (by decide)); exact rv_REF h
  · obtain rfl : k = 1650811246 := Int64.toInt_inj.mp (e.trans (by decide)); exact rv_BEAN h
theorem ty_t {q : At7} {k : Int64} {r : Int32} {n : Nat} (hr : WKR r (nv7 q k)) (h0 : 0 ≤ r.toInt) (hn : r.toInt = (n : Int)) (h1 : 29 ≤ n) (h2 : n ≤ 33) : ty7 q k := by
  rcases hr with ⟨a1, a2, a3⟩ | ⟨a1, a2⟩
  · have e : r.toNatClampNeg = n := by show r.toInt.toNat = n; omega
    rw [e] at a3
    unfold ty7
    rcases (show n = 29 ∨ n = 30 ∨ n = 31 ∨ n = 32 ∨ n = 33 by omega) with rfl | rfl | rfl | rfl | rfl
    · exact Or.inr (Or.inl a3.symm)
    · exact Or.inr (Or.inr (Or.inl a3.symm))
    · exact Or.inr (Or.inr (Or.inr (Or.inl a3.symm)))
    · exact Or.inr (Or.inr (Or.inr (Or.inr (Or.inl a3.symm))))
    · exact Or.inr (Or.inr (Or.inr (Or.inr (Or.inr a3.symm))))
  · omega
theorem ty_f {q : At7} {k : Int64} {r : Int32} (hr : WKR r (nv7 q k)) (hc : cv7 q k = -1) (hn : ¬ (29 ≤ r.toInt ∧ r.toInt ≤ 33)) : ¬ ty7 q k := by
  have key : ∀ j, j < 34 → 29 ≤ j → (∀ a, a < 34 → wKy.getD a 0 = wKy.getD j 0 → a = j) → ¬ nv7 q k = wKy.getD j 0 := by
    intro j hj h29 inj e
    rcases hr with ⟨a1, a2, a3⟩ | ⟨a1, a2⟩
    · have := inj r.toNatClampNeg (by show r.toInt.toNat < 34; omega) (a3.trans e)
      have q : r.toNatClampNeg = r.toInt.toNat := rfl
      omega
    · exact a2 j hj e.symm
  intro w
  unfold ty7 at w
  rcases w with w | w | w | w | w | w
  · omega
  · exact key 29 (by decide) (by decide) (by decide) w
  · exact key 30 (by decide) (by decide) (by decide) w
  · exact key 31 (by decide) (by decide) (by decide) w
  · exact key 32 (by decide) (by decide) (by decide) w
  · exact key 33 (by decide) (by decide) (by decide) w
