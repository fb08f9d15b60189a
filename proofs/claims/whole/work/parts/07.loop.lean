section LOOPS
variable {p : Program} {l : Launch} {e : Env} {R : Room} {s : State} {m : MethodId} {args : Array Value} {below : List Frame} {meth : Method} {c : Code} {cells slots : Nat} {Q : State → Prop} {D : va_G} {A : Nat → Prop}
/-- a loop that counts from k0 up to N: the world and the locals at its head by the count -/
theorem ct_count {head nL : Nat} {st : List Value} (N : Nat) (ws : Nat → va_W) (lv : Nat → List (Nat × Value))
    (hs : ∀ k, k < N → (∀ (H : Heap) (locs : List Loc) (ls : Array Slot), va_P D vwCl (ws (k + 1)) H → va_D A (ws (k + 1)) → va_S A s.heap H locs → lv_has ls nL (lv (k + 1)) → W p l e R s m args below meth c H locs cells slots Q (F0 m head ls st)) →
      ∀ (H : Heap) (locs : List Loc) (ls : Array Slot), va_P D vwCl (ws k) H → va_D A (ws k) → va_S A s.heap H locs → lv_has ls nL (lv k) → W p l e R s m args below meth c H locs cells slots Q (F0 m head ls st))
    (hx : ∀ (H : Heap) (locs : List Loc) (ls : Array Slot), va_P D vwCl (ws N) H → va_D A (ws N) → va_S A s.heap H locs → lv_has ls nL (lv N) → W p l e R s m args below meth c H locs cells slots Q (F0 m head ls st))
    (k0 : Nat) (hk : k0 ≤ N) {H : Heap} {locs : List Loc} {ls : Array Slot} (hP : va_P D vwCl (ws k0) H) (hD : va_D A (ws k0)) (hS : va_S A s.heap H locs) (hl : lv_has ls nL (lv k0)) : W p l e R s m args below meth c H locs cells slots Q (F0 m head ls st) := by
  have go : ∀ (n k : Nat), k + n = N → ∀ (H : Heap) (locs : List Loc) (ls : Array Slot), va_P D vwCl (ws k) H → va_D A (ws k) → va_S A s.heap H locs → lv_has ls nL (lv k) → W p l e R s m args below meth c H locs cells slots Q (F0 m head ls st) := by
    intro n
    induction n with
    | zero =>
      intro k h
      obtain rfl : k = N := by omega
      exact hx
    | succ n ih =>
      intro k h
      exact hs k (by omega) (ih (k + 1) (by omega))
  exact go (N - k0) k0 (by omega) H locs ls hP hD hS hl
/-- a loop that counts k down to 0 -/
theorem ct_down {head nL : Nat} {st : List Value} (ws : Nat → va_W) (lv : Nat → List (Nat × Value)) (K : Nat)
    (hs : ∀ k, k < K → (∀ (H : Heap) (locs : List Loc) (ls : Array Slot), va_P D vwCl (ws k) H → va_D A (ws k) → va_S A s.heap H locs → lv_has ls nL (lv k) → W p l e R s m args below meth c H locs cells slots Q (F0 m head ls st)) →
      ∀ (H : Heap) (locs : List Loc) (ls : Array Slot), va_P D vwCl (ws (k + 1)) H → va_D A (ws (k + 1)) → va_S A s.heap H locs → lv_has ls nL (lv (k + 1)) → W p l e R s m args below meth c H locs cells slots Q (F0 m head ls st))
    (hx : ∀ (H : Heap) (locs : List Loc) (ls : Array Slot), va_P D vwCl (ws 0) H → va_D A (ws 0) → va_S A s.heap H locs → lv_has ls nL (lv 0) → W p l e R s m args below meth c H locs cells slots Q (F0 m head ls st))
    {H : Heap} {locs : List Loc} {ls : Array Slot} (hP : va_P D vwCl (ws K) H) (hD : va_D A (ws K)) (hS : va_S A s.heap H locs) (hl : lv_has ls nL (lv K)) : W p l e R s m args below meth c H locs cells slots Q (F0 m head ls st) := by
  have go : ∀ (k : Nat), k ≤ K → ∀ (H : Heap) (locs : List Loc) (ls : Array Slot), va_P D vwCl (ws k) H → va_D A (ws k) → va_S A s.heap H locs → lv_has ls nL (lv k) → W p l e R s m args below meth c H locs cells slots Q (F0 m head ls st) := by
    intro k
    induction k with
    | zero => exact fun _ => hx
    | succ k ih => exact fun h => hs k (by omega) (ih (by omega))
  exact go K (Nat.le_refl K) H locs ls hP hD hS hl
end LOOPS
theorem ct_inc (k : Nat) : nI k + Int32.ofInt 1 = nI (k + 1) := by rw [nI_succ]; rfl
theorem ct_dec (k : Nat) : nI k + Int32.ofInt (-1) = nI k - 1 := by rw [Int32.sub_eq_add_neg]; rfl
