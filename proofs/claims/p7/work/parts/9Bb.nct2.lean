section TL
variable {α : Type}
/-- what a loop of a constructor has left behind, the last first -/
def tl (F : Nat → α → va_W) (adr : Nat → α) : Nat → va_W
  | 0 => []
  | n + 1 => F n (adr n) ++ tl F adr n
theorem tl_lt {F : Nat → α → va_W} {adr : Nat → α} {i : Nat} {u : α} : ∀ n, n ≤ i → tl F (va_up adr i u) n = tl F adr n
  | 0, _ => rfl
  | n + 1, h => by
    show F n (va_up adr i u n) ++ tl F (va_up adr i u) n = F n (adr n) ++ tl F adr n
    rw [va_up_ne _ _ (by omega), tl_lt n (by omega)]
theorem tl_s {F : Nat → α → va_W} {adr : Nat → α} {i : Nat} {u : α} : tl F (va_up adr i u) (i + 1) = F i u ++ tl F adr i := by
  show F i (va_up adr i u i) ++ tl F (va_up adr i u) i = F i u ++ tl F adr i
  rw [va_up_self, tl_lt i (Nat.le_refl i)]
theorem fs_q {f : Nat → Option Nat} {adr : Nat → α} {i : Nat} {u : α} (pr : α → Nat) (hi : i < 2 ^ 31) (h : ∀ j, j < i → f j = some (pr (adr j))) : ∀ j, j < i + 1 → va_up f (nI i).toNatClampNeg (some (pr u)) j = some (pr (va_up adr i u j)) := by
  intro j hj
  rw [nI_clamp hi]
  by_cases e9 : j = i
  · rw [e9, va_up_self, va_up_self]
  · rw [va_up_ne _ _ e9, va_up_ne _ _ e9]; exact h j (by omega)
theorem pr_s {P : Nat → α → Prop} {adr : Nat → α} {i : Nat} {u : α} (h : ∀ j, j < i → P j (adr j)) (hu : P i u) : ∀ j, j < i + 1 → P j (va_up adr i u j) := by
  intro j hj
  by_cases e9 : j = i
  · rw [e9, va_up_self]; exact hu
  · rw [va_up_ne _ _ e9]; exact h j (by omega)
end TL
theorem fl_s {f : Nat → Int32} {x : Int32} {i : Nat} (hi : i < 2 ^ 31) (h : ∀ j, j < i → f j = x) : ∀ j, j < i + 1 → upd f (nI i).toNatClampNeg x j = x := by
  intro j hj
  rw [nI_clamp hi]
  by_cases e9 : j = i
  · rw [e9]; exact upd_at ..
  · rw [upd_ne e9]; exact h j (by omega)
section SW
variable {D : va_G} {cl : List vw_C} {H : Heap} {A : Nat → Prop} {E w T : va_W}
theorem sw_P (h : va_P D cl (w ++ (E ++ T)) H) : va_P D cl (E ++ (w ++ T)) H := vaP_p (List.perm_append_comm_assoc _ _ _) h
theorem sw_D (h : va_D A (w ++ (E ++ T))) : va_D A (E ++ (w ++ T)) := vaD_p (List.perm_append_comm_assoc _ _ _) h
end SW
theorem n_gen {p : Program} {l : Launch} {e : Env} {R : Room} {s : State} {m : MethodId} {args : Array Value} {below : List Frame} {meth : Method} {c : Code} {H : Heap} {locs : List Loc} {cells slots : Nat} {Q : State → Prop} {g : JFrame} (h : ∀ Q9, Q9 = Q → W p l e R s m args below meth c H locs cells slots Q9 g) : W p l e R s m args below meth c H locs cells slots Q g := h Q rfl
section WS
variable (ad : Nat → Nat → Nat) (cid : Nat → ClassId)
def sgW (c k : Int32) (h a : Nat) : va_W := (a, .inl (cid 27, 3, .inl (fun _ => 0))) :: (h, .inr (8, [.int c, .int k, .ref a, .int 0, .int 0, .int 0, .int 0])) :: []
def elW (h a : Nat) : va_W := (a, .inl (cid 31, 24, .inl (fun _ => 0))) :: (h, .inr (3, [.ref a, .int 0, .int 0, .int 0, .null, .null, .null, .null, .int 0, .int 0, .int 0, .long 0, .long 0, .long 0, .int 0, .int 0, .int 0, .int 0, .null, .null, .null])) :: []
def alW (h : Nat) : va_W := (h, .inr (0, [.int 0, .ref (ad 34 0), .int 0])) :: []
def rwW (h a : Nat) : va_W := (a, .inl (cid 21, 1600, .inl (fun _ => 0))) :: (h, .inr (4, [.ref a, .int 0])) :: []
def beW (n : Int32) (h a b c : Nat) : va_W := (h, .inr (1, [.int n, .ref a, .ref b, .ref c, .null, .long 0, .long 0, .long 0, .long 0, .int 0, .int 0, .int 0, .int 0, .int 0, .int 0, .int 0, .int 0, .int 0, .int 0])) :: (alW ad c ++ (alW ad b ++ (alW ad a ++ [])))
def mkW (h wi cs rw a b f w q : Nat) : va_W := (q, .inl (cid 26, 3, .inl (fun _ => 0))) :: (w, .inl (cid 25, 960, .inl (fun _ => 0))) :: (f, .inl (cid 24, 80, .inr (.inr (.inr (.inr (fun _ => none)))))) :: (b, .inl (cid 23, 60, .inl (fun _ => 0))) :: (a, .inl (cid 22, 60, .inl (fun _ => 0))) :: (h, .inr (5, [.ref wi, .ref cs, .ref rw, .ref a, .ref b, .int 0, .ref f, .int 0, .ref w, .ref q, .null, .int 0, .int (-1)])) :: []
def sgF (c : Int32) (k : Nat) (u : Nat × Nat × Nat × Nat) : va_W := sgW cid c (nI k) u.2.2.1 u.2.2.2 ++ sgW cid c (nI k) u.1 u.2.1
abbrev DU := (Nat × Nat × Nat × Nat) × (Nat → Nat × Nat × Nat × Nat) × ((Nat → Option Nat) × (Nat → Option Nat)) × (Nat → Int32)
def dcW (c : Int32) (u : DU) : va_W := (u.1.2.2.2, .inl (cid 30, 26, .inl u.2.2.2)) :: (u.1.2.2.1, .inl (cid 29, 4, .inr (.inr (.inr (.inr u.2.2.1.2))))) :: (u.1.2.1, .inl (cid 28, 4, .inr (.inr (.inr (.inr u.2.2.1.1))))) :: (u.1.1, .inr (2, [.ref u.1.2.1, .ref u.1.2.2.1, .int 0, .int 0, .int c, .ref u.1.2.2.2, .int 0, .null])) :: tl (sgF cid c) u.2.1 4
def dcP (u : DU) : Prop := (∀ j, j < 4 → u.2.2.1.1 j = some (u.2.1 j).1) ∧ (∀ j, j < 4 → u.2.2.1.2 j = some (u.2.1 j).2.2.1) ∧ ∀ j, j < 26 → u.2.2.2 j = -1
def dcF (k : Nat) (u : DU) : va_W := dcW cid (nI k) u
def elF (k : Nat) (u : Nat × Nat) : va_W := elW cid u.1 u.2
def beF (k : Nat) (u : Nat × Nat × Nat × Nat) : va_W := beW ad (nI k) u.1 u.2.1 u.2.2.1 u.2.2.2
abbrev PU := (Nat × Nat × Nat × Nat × Nat × Nat) × (Nat → Nat × Nat) × (Nat → Option Nat)
def paW (u : PU) : va_W := (u.1.2.2.2.2.2, .inl (cid 18, 1200, .inl (fun _ => 0))) :: (u.1.2.2.2.2.1, .inl (cid 17, 240, .inl (fun _ => 0))) :: (u.1.2.2.2.1, .inl (cid 16, 240, .inl (fun _ => 0))) :: (u.1.2.2.1, .inl (cid 15, 240, .inr (.inl (fun _ => 0)))) :: (u.1.2.1, .inl (cid 14, 80, .inr (.inr (.inr (.inr u.2.2))))) :: (u.1.1, .inr (6, [.ref u.1.2.1, .ref u.1.2.2.1, .ref u.1.2.2.2.1, .ref u.1.2.2.2.2.1, .ref u.1.2.2.2.2.2, .int 0, .int 0, .int 0])) :: tl (elF cid) u.2.1 80
def paP (u : PU) : Prop := ∀ j, j < 80 → u.2.2 j = some (u.2.1 j).1
abbrev WU := (Nat × Nat × Nat) × (Nat → Nat × Nat × Nat × Nat) × (Nat → Option Nat)
def wiW (pp : Nat) (u : WU) : va_W := (u.1.2.2, .inl (cid 20, 80, .inr (.inr (.inr (.inr (fun _ => none)))))) :: (u.1.2.1, .inl (cid 19, 80, .inr (.inr (.inr (.inr u.2.2))))) :: (u.1.1, .inr (10, [.ref pp, .ref u.1.2.1, .ref u.1.2.2, .int 0])) :: tl (beF ad) u.2.1 80
def wiP (u : WU) : Prop := ∀ j, j < 80 → u.2.2 j = some (u.2.1 j).1
end WS
abbrev nvJx4a65c : List Value := [.int 0, .null, .int 0]
theorem nwJx4a65c : ∀ j, j < 3 → defaultValue (tyJx4a65c j) = vp_V nvJx4a65c j := by
  intro j hj
  match j, hj with
  | 0, _ => rfl
  | 1, _ => rfl
  | 2, _ => rfl
  | n + 3, h => exact absurd h (by omega)
abbrev nvX1 : List Value := [.int 0, .null, .null, .null, .null, .long 0, .long 0, .long 0, .long 0, .int 0, .int 0, .int 0, .int 0, .int 0, .int 0, .int 0, .int 0, .int 0, .int 0]
theorem nwX1 : ∀ j, j < 19 → defaultValue (tyX1 j) = vp_V nvX1 j := by
  intro j hj
  match j, hj with
  | 0, _ => rfl
  | 1, _ => rfl
  | 2, _ => rfl
  | 3, _ => rfl
  | 4, _ => rfl
  | 5, _ => rfl
  | 6, _ => rfl
  | 7, _ => rfl
  | 8, _ => rfl
  | 9, _ => rfl
  | 10, _ => rfl
  | 11, _ => rfl
  | 12, _ => rfl
  | 13, _ => rfl
  | 14, _ => rfl
  | 15, _ => rfl
  | 16, _ => rfl
  | 17, _ => rfl
  | 18, _ => rfl
  | n + 19, h => exact absurd h (by omega)
abbrev nvX2 : List Value := [.null, .null, .int 0, .int 0, .int 0, .null, .int 0, .null]
theorem nwX2 : ∀ j, j < 8 → defaultValue (tyX2 j) = vp_V nvX2 j := by
  intro j hj
  match j, hj with
  | 0, _ => rfl
  | 1, _ => rfl
  | 2, _ => rfl
  | 3, _ => rfl
  | 4, _ => rfl
  | 5, _ => rfl
  | 6, _ => rfl
  | 7, _ => rfl
  | n + 8, h => exact absurd h (by omega)
abbrev nvX3 : List Value := [.null, .int 0, .int 0, .int 0, .null, .null, .null, .null, .int 0, .int 0, .int 0, .long 0, .long 0, .long 0, .int 0, .int 0, .int 0, .int 0, .null, .null, .null]
theorem nwX3 : ∀ j, j < 21 → defaultValue (tyX3 j) = vp_V nvX3 j := by
  intro j hj
  match j, hj with
  | 0, _ => rfl
  | 1, _ => rfl
  | 2, _ => rfl
  | 3, _ => rfl
  | 4, _ => rfl
  | 5, _ => rfl
  | 6, _ => rfl
  | 7, _ => rfl
  | 8, _ => rfl
  | 9, _ => rfl
  | 10, _ => rfl
  | 11, _ => rfl
  | 12, _ => rfl
  | 13, _ => rfl
  | 14, _ => rfl
  | 15, _ => rfl
  | 16, _ => rfl
  | 17, _ => rfl
  | 18, _ => rfl
  | 19, _ => rfl
  | 20, _ => rfl
  | n + 21, h => exact absurd h (by omega)
abbrev nvX4 : List Value := [.null, .int 0]
theorem nwX4 : ∀ j, j < 2 → defaultValue (tyX4 j) = vp_V nvX4 j := by
  intro j hj
  match j, hj with
  | 0, _ => rfl
  | 1, _ => rfl
  | n + 2, h => exact absurd h (by omega)
abbrev nvX5 : List Value := [.null, .null, .null, .null, .null, .int 0, .null, .int 0, .null, .null, .null, .int 0, .int 0]
theorem nwX5 : ∀ j, j < 13 → defaultValue (tyX5 j) = vp_V nvX5 j := by
  intro j hj
  match j, hj with
  | 0, _ => rfl
  | 1, _ => rfl
  | 2, _ => rfl
  | 3, _ => rfl
  | 4, _ => rfl
  | 5, _ => rfl
  | 6, _ => rfl
  | 7, _ => rfl
  | 8, _ => rfl
  | 9, _ => rfl
  | 10, _ => rfl
  | 11, _ => rfl
  | 12, _ => rfl
  | n + 13, h => exact absurd h (by omega)
abbrev nvX6 : List Value := [.null, .null, .null, .null, .null, .int 0, .int 0, .int 0]
theorem nwX6 : ∀ j, j < 8 → defaultValue (tyX6 j) = vp_V nvX6 j := by
  intro j hj
  match j, hj with
  | 0, _ => rfl
  | 1, _ => rfl
  | 2, _ => rfl
  | 3, _ => rfl
  | 4, _ => rfl
  | 5, _ => rfl
  | 6, _ => rfl
  | 7, _ => rfl
  | n + 8, h => exact absurd h (by omega)
abbrev nvX7 : List Value := [.null, .null, .int 0, .int 0, .int 0, .null]
theorem nwX7 : ∀ j, j < 6 → defaultValue (tyX7 j) = vp_V nvX7 j := by
  intro j hj
  match j, hj with
  | 0, _ => rfl
  | 1, _ => rfl
  | 2, _ => rfl
  | 3, _ => rfl
  | 4, _ => rfl
  | 5, _ => rfl
  | n + 6, h => exact absurd h (by omega)
abbrev nvX8 : List Value := [.int 0, .int 0, .null, .int 0, .int 0, .int 0, .int 0]
theorem nwX8 : ∀ j, j < 7 → defaultValue (tyX8 j) = vp_V nvX8 j := by
  intro j hj
  match j, hj with
  | 0, _ => rfl
  | 1, _ => rfl
  | 2, _ => rfl
  | 3, _ => rfl
  | 4, _ => rfl
  | 5, _ => rfl
  | 6, _ => rfl
  | n + 7, h => exact absurd h (by omega)
abbrev nvX9 : List Value := [.null]
theorem nwX9 : ∀ j, j < 1 → defaultValue (tyX9 j) = vp_V nvX9 j := by
  intro j hj
  match j, hj with
  | 0, _ => rfl
  | n + 1, h => exact absurd h (by omega)
abbrev nvX10 : List Value := [.null, .null, .null, .int 0]
theorem nwX10 : ∀ j, j < 4 → defaultValue (tyX10 j) = vp_V nvX10 j := by
  intro j hj
  match j, hj with
  | 0, _ => rfl
  | 1, _ => rfl
  | 2, _ => rfl
  | 3, _ => rfl
  | n + 4, h => exact absurd h (by omega)
abbrev nvX12 : List Value := [.null, .null, .null, .null, .null, .null, .null, .null, .int 0, .int 0, .int 0, .int 0]
theorem nwX12 : ∀ j, j < 12 → defaultValue (tyX12 j) = vp_V nvX12 j := by
  intro j hj
  match j, hj with
  | 0, _ => rfl
  | 1, _ => rfl
  | 2, _ => rfl
  | 3, _ => rfl
  | 4, _ => rfl
  | 5, _ => rfl
  | 6, _ => rfl
  | 7, _ => rfl
  | 8, _ => rfl
  | 9, _ => rfl
  | 10, _ => rfl
  | 11, _ => rfl
  | n + 12, h => exact absurd h (by omega)
