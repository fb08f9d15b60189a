/-! pure rows: bits of longs and registers -/
def bI (b : Bool) : Int32 := if b then 1 else 0
theorem bI_t : bI true = 1 := rfl
theorem bI_f : bI false = 0 := rfl
theorem bI_xor (a b : Bool) : bI a ^^^ bI b = bI (a ^^ b) := by cases a <;> cases b <;> decide
theorem bI_and (a b : Bool) : bI a &&& bI b = bI (a && b) := by cases a <;> cases b <;> decide
theorem bI_inj {a b : Bool} (h : bI a = bI b) : a = b := by cases a <;> cases b <;> first | rfl | (exact absurd h (by decide))
theorem sh_l : ∀ k, k < 64 → (((nI k).toInt64 &&& 63).toBitVec.smod 64).toNat = k := by decide +kernel
theorem sh_u : ∀ k, k < 128 → (((nI k).toInt64.toUInt64 &&& Int64.toUInt64 63).toBitVec % 64).toNat = k % 64 := by decide +kernel
theorem lL_bit (x : Int64) {k : Nat} (hk : k < 64) (i : Nat) : (lL x (nI k)).toBitVec.getLsbD i = (decide (i < 64) && !decide (i < k) && x.toBitVec.getLsbD (i - k)) := by
  show (x.toBitVec <<< (((nI k).toInt64 &&& 63).toBitVec.smod 64)).getLsbD i = _
  rw [BitVec.shiftLeft_eq', sh_l k hk, BitVec.getLsbD_shiftLeft]
theorem lU_bit (x : Int64) {k : Nat} (hk : k < 128) (i : Nat) : (lU x (nI k)).toBitVec.getLsbD i = x.toBitVec.getLsbD (k % 64 + i) := by
  show (x.toBitVec >>> (((nI k).toInt64.toUInt64 &&& Int64.toUInt64 63).toBitVec % 64)).getLsbD i = _
  rw [BitVec.ushiftRight_eq', sh_u k hk, BitVec.getLsbD_ushiftRight]
theorem lR_bit (x : Int64) {k : Nat} (hk : k < 64) {i : Nat} (h : k + i < 64) : (lR x (nI k)).toBitVec.getLsbD i = x.toBitVec.getLsbD (k + i) := by
  show (x.toBitVec.sshiftRight' (((nI k).toInt64 &&& 63).toBitVec.smod 64)).getLsbD i = _
  rw [BitVec.sshiftRight_eq', sh_l k hk, BitVec.getLsbD_sshiftRight, if_pos h]
  simp; omega
theorem b2l_bit (b : Bool) (i : Nat) : (bI b).toInt64.toBitVec.getLsbD i = (decide (i = 0) && b) := by
  cases b
  · show (0#64).getLsbD i = _
    simp
  · show (1#64).getLsbD i = _
    simp
theorem or_bit (x y : Int64) (i : Nat) : (x ||| y).toBitVec.getLsbD i = (x.toBitVec.getLsbD i || y.toBitVec.getLsbD i) := by
  show (x.toBitVec ||| y.toBitVec).getLsbD i = _
  exact BitVec.getLsbD_or
theorem xor_bit (x y : Int64) (i : Nat) : (x ^^^ y).toBitVec.getLsbD i = (x.toBitVec.getLsbD i ^^ y.toBitVec.getLsbD i) := by
  show (x.toBitVec ^^^ y.toBitVec).getLsbD i = _
  exact BitVec.getLsbD_xor
theorem and_bit (x y : Int64) (i : Nat) : (x &&& y).toBitVec.getLsbD i = (x.toBitVec.getLsbD i && y.toBitVec.getLsbD i) := by
  show (x.toBitVec &&& y.toBitVec).getLsbD i = _
  exact BitVec.getLsbD_and
theorem l_ext {x y : Int64} (h : ∀ i, i < 64 → x.toBitVec.getLsbD i = y.toBitVec.getLsbD i) : x = y := Int64.toBitVec.inj (BitVec.eq_of_getLsbD_eq h)
theorem i_ext {x y : Int32} (h : ∀ i, i < 32 → x.toBitVec.getLsbD i = y.toBitVec.getLsbD i) : x = y := Int32.toBitVec.inj (BitVec.eq_of_getLsbD_eq h)
theorem low_bit (x : Int64) {i : Nat} (h : i < 32) : x.toInt32.toBitVec.getLsbD i = x.toBitVec.getLsbD i := by
  show (x.toBitVec.signExtend 32).getLsbD i = _
  rw [BitVec.getLsbD_signExtend]
  simp [h, show i < 64 by omega]
theorem low1 (x : Int64) : x.toInt32 &&& 1 = bI (x.toBitVec.getLsbD 0) := by
  refine i_ext (fun i hi => ?_)
  show (x.toInt32.toBitVec &&& 1#32).getLsbD i = _
  rw [BitVec.getLsbD_and, low_bit x hi]
  cases h : x.toBitVec.getLsbD 0
  · show _ = (0#32).getLsbD i
    rcases Nat.eq_zero_or_pos i with rfl | q
    · rw [h]; simp
    · simp [show i ≠ 0 by omega]
  · show _ = (1#32).getLsbD i
    rcases Nat.eq_zero_or_pos i with rfl | q
    · rw [h]; simp
    · simp [show i ≠ 0 by omega]
theorem le64 {k : Nat} (h : k < 64) : ¬ (64 : Int32) ≤ nI k := nI_ge (b := 64) h (by decide)
theorem ge64 {k : Nat} (h : ¬ k < 64) (hk : k < 128) : (64 : Int32) ≤ nI k := nI_le (a := 64) (b := k) (by omega) (by omega)
/-- the bit k of a register -/
def rb (r : R2) (k : Nat) : Bool := if k < 64 then r.1.toBitVec.getLsbD k else r.2.toBitVec.getLsbD (k - 64)
theorem rg_b (r : R2) {k : Nat} (hk : k < 128) : rg_at r (nI k) = bI (rb r k) := by
  rw [rg_at, low1, lU_bit _ hk, Nat.add_zero, rb]
  by_cases h : k < 64
  · rw [if_neg (le64 h), if_pos h, Nat.mod_eq_of_lt h]
  · rw [if_pos (ge64 h hk), if_neg h, show k % 64 = k - 64 by omega]
theorem rb_0 (k : Nat) : rb rg_0 k = false := by
  rw [rb, rg_0]
  split
  · show (0#64).getLsbD k = false
    simp
  · show (0#64).getLsbD (k - 64) = false
    simp
theorem rb_up (r : R2) (b : Bool) {k : Nat} (hk : k < 128) : rb (rg_up r (bI b)) k = if k = 0 then b else rb r (k - 1) := by
  have e1 : (1 : Int32) = nI 1 := rfl
  have e63 : (63 : Int32) = nI 63 := rfl
  rw [rb, rg_up]
  by_cases h : k < 64
  · rw [if_pos h, e1, or_bit, lL_bit _ (by decide), b2l_bit]
    rcases Nat.eq_zero_or_pos k with rfl | q
    · simp
    · rw [if_neg (by omega), rb, if_pos (by omega)]
      simp [h, show ¬ k = 0 by omega]
  · rw [if_neg h, e1, e63, or_bit, lL_bit _ (by decide), lU_bit _ (by decide), if_neg (by omega), rb]
    by_cases q : k = 64
    · subst q
      simp
    · rw [if_neg (by omega), BitVec.getLsbD_of_ge r.1.toBitVec (63 % 64 + (k - 64)) (by omega), show k - 64 - 1 = k - 1 - 64 by omega]
      simp [show k - 64 < 64 by omega, show ¬ k - 64 < 1 by omega]
theorem rb_dn (r : R2) (b : Bool) {k : Nat} (hk : k < 128) : rb (rg_dn r (bI b)) k = if k = 127 then b else rb r (k + 1) := by
  have e1 : (1 : Int32) = nI 1 := rfl
  have e63 : (63 : Int32) = nI 63 := rfl
  rw [rb, rg_dn]
  by_cases h : k < 64
  · rw [if_pos h, if_neg (by omega), e1, e63, or_bit, lL_bit _ (by decide), lU_bit _ (by decide), rb]
    by_cases q : k = 63
    · subst q
      simp
    · rw [if_pos (by omega)]
      simp [h, show k < 63 by omega, Nat.add_comm]
  · rw [if_neg h, e1, e63, or_bit, lL_bit _ (by decide), lU_bit _ (by decide), b2l_bit]
    by_cases q : k = 127
    · subst q
      simp
    · rw [if_neg q, rb, if_neg (by omega), show k + 1 - 64 = 1 % 64 + (k - 64) by omega]
      simp [show k - 64 < 63 by omega]
theorem rb_add (r : R2) (b : Bool) {q k : Nat} (hq : q < 128) (hk : k < 128) : rb (rg_add r (nI q) (bI b)) k = if k = q then (rb r k ^^ b) else rb r k := by
  rw [rb, rg_add]
  by_cases h : q < 64
  · rw [if_neg (le64 h)]
    by_cases h2 : k < 64
    · rw [if_pos h2, xor_bit, lL_bit _ h, b2l_bit, rb, if_pos h2]
      by_cases e : k = q
      · subst e
        simp [h]
      · rw [if_neg e]
        rcases Nat.lt_or_ge k q with w | w
        · simp [w]
        · simp [show ¬ k - q = 0 by omega]
    · rw [if_neg h2, rb, if_neg h2, if_neg (by omega)]
  · rw [if_pos (ge64 h hq)]
    have e64 : ∀ x : Int64, lL x (nI q) = lL x (nI (q - 64)) := by
      intro x
      have : ∀ q, q < 128 → 64 ≤ q → ((nI q).toInt64 &&& 63) = ((nI (q - 64)).toInt64 &&& 63) := by decide +kernel
      rw [lL, lL, this q hq (by omega)]
    by_cases h2 : k < 64
    · rw [if_pos h2, rb, if_pos h2, if_neg (by omega)]
    · rw [if_neg h2, xor_bit, e64, lL_bit _ (by omega), b2l_bit, rb, if_neg h2]
      by_cases e : k = q
      · subst e
        simp [show k - 64 < 64 by omega]
      · rw [if_neg e]
        rcases Nat.lt_or_ge k q with w | w
        · simp [show k - 64 < q - 64 by omega]
        · simp [show ¬ k - 64 - (q - 64) = 0 by omega]
theorem m255l : ∀ i, i < 64 → (255 : Int64).toBitVec.getLsbD i = decide (i < 8) := by decide +kernel
theorem m255i : ∀ i, i < 32 → (255 : Int32).toBitVec.getLsbD i = decide (i < 8) := by decide +kernel
/-- the byte k of v, by either shift -/
theorem by_lr (v : Int64) {k : Nat} (hk : k < 8) : (lR v (8 * nI k) &&& 255).toInt32 = by_b v k := by
  have e : 8 * nI k = nI (8 * k) := pk_mul 8 k
  rw [by_b, e]
  refine i_ext (fun i hi => ?_)
  show _ = ((lU v (nI (8 * k))).toInt32.toBitVec &&& (255 : Int32).toBitVec).getLsbD i
  rw [BitVec.getLsbD_and, low_bit _ hi, low_bit _ hi, and_bit, lU_bit _ (by omega), m255l i (by omega), m255i i hi]
  by_cases h : i < 8
  · rw [lR_bit v (by omega) (by omega), Nat.mod_eq_of_lt (show 8 * k < 64 by omega)]
  · simp [h]
