/-! the law: what holds between class and reference from call to call -/
def bs_rv (m0 m1 m2 m3 : Nat) : Nat → Value
  | 0 => .ref m0
  | 1 => .ref m1
  | 2 => .ref m2
  | 3 => .ref m3
  | _ => .null
def bs_rn : Nat → Int32
  | 0 => 0
  | 1 => 1
  | 2 => 2
  | 3 => 3
  | _ => -1
def lw_R (run : Nat) (σ0 : R6) (σ1 : R4) (σ2 : R6) (μ : MR) : Prop := (run = 0 → rel3 σ0 μ) ∧ (run = 1 → rel2 σ1 μ) ∧ (run = 2 → rel3 σ2 μ)
theorem lw_lt {i L : Nat} (hi : i ≤ 2048) (hL : L ≤ 2048) (h : ¬ nI L - 4 < nI i) : i + 4 ≤ L := by
  rcases Nat.lt_or_ge L (i + 4) with q | q
  · exact absurd (Int32.lt_iff_toInt_lt.mpr (by rw [show (4 : Int32) = nI 4 from rfl, pk_sub_toInt (by omega) (by decide), nI_toInt (by omega)]; omega)) h
  · exact q
theorem app_ok {z N : Nat} (hN : N ≤ 32) {n : Int32} (hz : z ≤ N) (h : ¬ n < 1 ∧ ¬ 8 < n ∧ nI z + n ≤ nI N) : ∃ mm, n = nI mm ∧ 1 ≤ mm ∧ mm ≤ 8 ∧ z + mm ≤ N := by
  obtain ⟨h1, h8, hs⟩ := h
  have h0 : ¬ n < 0 := fun q => h1 (Int32.lt_iff_toInt_lt.mpr (by have := Int32.lt_iff_toInt_lt.mp q; have e0 : (0 : Int32).toInt = 0 := rfl; have e1 : (1 : Int32).toInt = 1 := rfl; omega))
  obtain ⟨j, hj, rfl⟩ := nI_of h0
  have a1 : 1 ≤ j := by
    rcases Nat.lt_or_ge j 1 with q | q
    · exact absurd (nI_lt (b := 1) q (by decide)) h1
    · exact q
  have a8 : j ≤ 8 := by
    rcases Nat.lt_or_ge 8 j with q | q
    · exact absurd (nI_lt (a := 8) q hj) h8
    · exact q
  refine ⟨j, rfl, a1, a8, ?_⟩
  rw [nI_add] at hs
  exact (nI_leI (by omega) (by omega)).mp hs
theorem rng_ok {n : Int32} {lo hi : Nat} (hl : lo ≤ 1) (hh : hi < 2 ^ 31) (h : ¬ n < nI lo ∧ n ≤ nI hi) : ∃ k, n = nI k ∧ lo ≤ k ∧ k ≤ hi := by
  have h0 : ¬ n < 0 := fun q => h.1 (Int32.lt_iff_toInt_lt.mpr (by have := Int32.lt_iff_toInt_lt.mp q; have e0 : (0 : Int32).toInt = 0 := rfl; rw [nI_toInt (by omega)]; omega))
  obtain ⟨j, hj, rfl⟩ := nI_of h0
  refine ⟨j, rfl, ?_, (nI_leI hj hh).mp h.2⟩
  rcases Nat.lt_or_ge j lo with q | q
  · exact absurd (nI_lt q (by omega)) h.1
  · exact q
theorem tk01 (a b x y : Int32) : tk a b x y = 0 ∨ tk a b x y = 1 := by
  rw [tk]
  split
  · exact Or.inl rfl
  · split
    · exact Or.inl rfl
    · exact Or.inr rfl
theorem tk301 (x y : Int32) : tk3 x y = 0 ∨ tk3 x y = 1 := by
  rw [tk3]
  split
  · exact Or.inl rfl
  · split
    · exact Or.inl rfl
    · split
      · exact Or.inl rfl
      · exact Or.inr rfl
theorem tk_1 {a b x y : Nat} (ha : a ≤ 32) (hb : b ≤ 32) (hx : x ≤ 32) (hy : y ≤ 32) (h : tk (nI a) (nI b) (nI x) (nI y) = 1) : x = a ∧ y = b := by
  rw [tk] at h
  split at h
  · exact absurd h (by decide)
  · split at h
    · exact absurd h (by decide)
    · rename_i h1 h2
      exact ⟨(nI_eq (by omega) (by omega)).mp (Decidable.not_not.mp h1), (nI_eq (by omega) (by omega)).mp (Decidable.not_not.mp h2)⟩
theorem tk3_e {x : Nat} (y : Int32) (hx : x ≤ 32) : md_3 (nI x) y = tk3 (nI x) y := by
  rw [md_3, tk3, if_neg (show ¬ (32 : Int32) < nI x from nI_nlt (b := x) (a := 32) hx (by decide))]
theorem tk3_0 {x : Nat} {y : Int32} (h : tk3 (nI x) y = 1) : 0 < x := by
  rcases Nat.eq_zero_or_pos x with rfl | q
  · rw [tk3, if_pos (by decide)] at h
    exact absurd h (by decide)
  · exact q
theorem cnt_out {w : Int32} (h0 : ¬ w = 0) (h1 : ¬ w = 1) (h2 : ¬ w = 2) (h3 : ¬ w = 3) : w.toInt < 0 ∨ 3 < w.toInt := by
  have n0 : w.toInt ≠ 0 := fun q => h0 (Int32.toInt_inj.mp q)
  have n1 : w.toInt ≠ 1 := fun q => h1 (Int32.toInt_inj.mp q)
  have n2 : w.toInt ≠ 2 := fun q => h2 (Int32.toInt_inj.mp q)
  have n3 : w.toInt ≠ 3 := fun q => h3 (Int32.toInt_inj.mp q)
  omega
theorem beg_out {k : Int32} (h0 : ¬ k = 0) (h1 : ¬ k = 1) (h2 : ¬ k = 2) (h3 : ¬ k = 3) : ¬ k < 0 → ¬ k < nI 4 := by
  intro a q
  obtain ⟨j, hj, rfl⟩ := nI_of a
  have := (nI_ltI hj (by decide)).mp q
  rcases (show j = 0 ∨ j = 1 ∨ j = 2 ∨ j = 3 by omega) with rfl | rfl | rfl | rfl
  · exact h0 rfl
  · exact h1 rfl
  · exact h2 rfl
  · exact h3 rfl
theorem cmp_self (x : Int64) : lg_cmp x x = 0 := by simp [lg_cmp]
theorem bs_ms_e (m0 m1 m2 m3 : Nat) : va_up (va_up (va_up (va_up (fun _ => none) 0 (some m0)) 1 (some m1)) 2 (some m2)) 3 (some m3) = bs_ms m0 m1 m2 m3 := by
  funext k
  match k with
  | 0 => rfl
  | 1 => rfl
  | 2 => rfl
  | 3 => rfl
  | k + 4 => simp [va_up, bs_ms]
theorem x_in {i L j : Nat} (h : i + 4 ≤ L) (hj : j < 4) (hL : L ≤ 2048) : vp_in (nI (i + j)) L := vp_in_nI (by omega) (by omega)
