/-! what load makes of key and start, on both sides -/
theorem kb_eq (f : Nat → Int32) {z k : Nat} (hk : k / 8 < z) (hz : z ≤ 32) : by_bit f (nI z) (nI k) = md_kb f k := by
  have e1 : nI k >>> ((3 : Int32) &&& 31) = nI (k / 8) := pk_shrN (by omega) _ 3 (by decide)
  have e2 : nI k &&& 7 = nI (k % 8) := pk_andN (by omega) 3 (by decide)
  rw [by_bit, md_kb, e1, e2, by_at, if_neg (nI_pos (by omega)), if_neg (nI_ge hk (by omega)), nI_clamp (by omega)]
theorem kb_ib (f : Nat → Int32) (k : Nat) : IB (md_kb f k) := IB.a1 _
theorem bb_ib (f : Nat → Int32) (z k : Int32) : IB (by_bit f z k) := IB.a1 _
theorem md_z_at (f : Nat → Int32) (n j : Nat) : md_z f n j = if j < n then 0 else f j := by
  induction n with
  | zero => rfl
  | succ n ih =>
    rw [md_z, up_at, ih]
    by_cases h : j = n
    · rw [if_pos h, if_pos (by omega)]
    · rw [if_neg h]
      by_cases h2 : j < n
      · rw [if_pos h2, if_pos (by omega)]
      · rw [if_neg h2, if_neg (by omega)]
abbrev mz (μ : MR) : MR := (md_z μ.1 384, md_z μ.2 3)
theorem mz_c (μ : MR) {q i : Nat} (hq : q < 3) (hi : i < 128) : md_cell (mz μ) q (nI i) = 0 := by
  show md_z μ.1 384 (128 * q + md_ix (md_z μ.2 3 q) (nI i)) = 0
  rw [md_z_at, if_pos]
  rw [md_ixn _ hi]
  omega
theorem mz_r (μ : MR) {q : Nat} (hq : q < 3) : RR rg_0 (mz μ) q := fun i hi => by rw [mz_c μ hq hi, rg_0_c hi]
theorem RR.putz {r : R2} {μ : MR} {q k : Nat} {v : Int32} (h : RR r μ q) (hv : IB v) (hk : k < 128) (h0 : rg_at r (nI k) = 0) : RR (rg_add r (nI k) v) (md_put μ q (nI k) v) q := by
  have := h.put hv hk
  rwa [h k hk, h0, Int32.zero_xor] at this
theorem tw_l1_c (f : Nat → Int32) (fz : Int32) {k i : Nat} (hk : k ≤ 128) (hi : i < 128) : rg_at (tw_l1 f fz k) (nI i) = if i < k then by_bit f fz (nI i) else 0 := by
  induction k with
  | zero => rw [tw_l1, rg_0_c hi, if_neg (by omega)]
  | succ k ih =>
    rw [tw_l1, rg_add_c _ (bb_ib _ _ _) (by omega) hi, ih (by omega)]
    by_cases h : i = k
    · rw [if_pos h, if_neg (by omega), if_pos (by omega), h, Int32.zero_xor]
    · rw [if_neg h]
      by_cases h2 : i < k
      · rw [if_pos h2, if_pos (by omega)]
      · rw [if_neg h2, if_neg (by omega)]
theorem tr_l1_e (f : Nat → Int32) (fz : Int32) (g : Nat → Int32) (gz : Int32) (k : Nat) : tr_l1 f fz g gz k = (tw_l1 f fz k, tw_l1 g gz k, rg_0) := by
  induction k with
  | zero => rfl
  | succ k ih => rw [tr_l1, ih]; rfl
theorem md_l1_c (μ : MR) (f g : Nat → Int32) {k i : Nat} (hk : k ≤ 128) (hi : i < 128) :
    md_cell (md_l1 μ f g k) 0 (nI i) = (if i < k then md_kb f i else md_cell μ 0 (nI i)) ∧ md_cell (md_l1 μ f g k) 1 (nI i) = (if i < k then md_kb g i else md_cell μ 1 (nI i)) ∧ md_cell (md_l1 μ f g k) 2 (nI i) = md_cell μ 2 (nI i) := by
  induction k with
  | zero => exact ⟨rfl, rfl, rfl⟩
  | succ k ih =>
    obtain ⟨h0, h1, h2⟩ := ih (by omega)
    have hk2 : k < 128 := by omega
    refine ⟨?_, ?_, ?_⟩
    · rw [md_l1, md_put_c _ _ _ _ hk2 hi, if_neg (by omega), md_put_c _ _ _ _ hk2 hi, h0]
      by_cases h : i = k
      · rw [if_pos ⟨rfl, h⟩, if_pos (by omega), h]
      · rw [if_neg (fun e => h e.2)]
        by_cases q : i < k
        · rw [if_pos q, if_pos (by omega)]
        · rw [if_neg q, if_neg (by omega)]
    · rw [md_l1, md_put_c _ _ _ _ hk2 hi, md_put_c _ _ _ _ hk2 hi, h1]
      by_cases h : i = k
      · rw [if_pos ⟨rfl, h⟩, if_pos (by omega), h]
      · rw [if_neg (fun e => h e.2), if_neg (by omega)]
        by_cases q : i < k
        · rw [if_pos q, if_pos (by omega)]
        · rw [if_neg q, if_neg (by omega)]
    · rw [md_l1, md_put_c _ _ _ _ hk2 hi, if_neg (by omega), md_put_c _ _ _ _ hk2 hi, if_neg (by omega), h2]
theorem tr_itr {σ : R6} {μ : MR} (h : rel3 σ μ) (n : Nat) : rel3 (tr_it σ n) (mit md_rstep μ n) := by
  induction n with
  | zero => exact h
  | succ n ih => exact tr_rel ih
theorem tr_loadr (f g : Nat → Int32) (μ : MR) : rel3 (tr_load f (nI 10) g (nI 10)) (md_B0 (mz μ) f g) := by
  refine tr_itr ?_ 1152
  have h1 : rel3 (tr_l1 f (nI 10) g (nI 10) 80) (md_l1 (mz μ) f g 80) := by
    rw [tr_l1_e]
    refine ⟨fun i hi => ?_, fun i hi => ?_, fun i hi => ?_⟩
    · rw [(md_l1_c _ f g (by decide) hi).1, mz_c μ (by decide) hi]
      show _ = rg_at (tw_l1 f (nI 10) 80) (nI i)
      rw [tw_l1_c _ _ (by decide) hi]
      by_cases q : i < 80
      · rw [if_pos q, if_pos q, kb_eq f (by omega) (by decide)]
      · rw [if_neg q, if_neg q]
    · rw [(md_l1_c _ f g (by decide) hi).2.1, mz_c μ (by decide) hi]
      show _ = rg_at (tw_l1 g (nI 10) 80) (nI i)
      rw [tw_l1_c _ _ (by decide) hi]
      by_cases q : i < 80
      · rw [if_pos q, if_pos q, kb_eq g (by omega) (by decide)]
      · rw [if_neg q, if_neg q]
    · rw [(md_l1_c _ f g (by decide) hi).2.2]
      exact mz_r μ (by decide) i hi
  have hz : (tr_l1 f (nI 10) g (nI 10) 80).2.2 = rg_0 := by rw [tr_l1_e]
  have h2 := h1.2.2
  rw [hz] at h2
  have a0 : rg_at rg_0 (nI 108) = 0 := rg_0_c (by decide)
  have a1 : rg_at (rg_add rg_0 (nI 108) 1) (nI 109) = 0 := by rw [rg_add_c _ IB.one (by decide) (by decide), if_neg (by decide)]; exact rg_0_c (by decide)
  have a2 : rg_at (rg_add (rg_add rg_0 (nI 108) 1) (nI 109) 1) (nI 110) = 0 := by rw [rg_add_c _ IB.one (by decide) (by decide), if_neg (by decide), rg_add_c _ IB.one (by decide) (by decide), if_neg (by decide)]; exact rg_0_c (by decide)
  refine ⟨?_, ?_, ?_⟩
  · exact ((h1.1.putN (k := 108) (by decide) (by decide)).putN (k := 109) (by decide) (by decide)).putN (k := 110) (by decide) (by decide)
  · exact ((h1.2.1.putN (k := 108) (by decide) (by decide)).putN (k := 109) (by decide) (by decide)).putN (k := 110) (by decide) (by decide)
  · rw [tr_l2, hz]
    exact ((h2.putz IB.one (by decide) a0).putz IB.one (by decide) a1).putz IB.one (by decide) a2
/-- machine 1 -/
theorem tw_l3_c (r : R2) {j i : Nat} (hj : j ≤ 31) (hi : i < 128) : rg_at (tw_l3 r j) (nI i) = if 96 ≤ i ∧ i < 96 + j then rg_at r (nI i) ^^^ 1 else rg_at r (nI i) := by
  induction j with
  | zero => rw [tw_l3, if_neg (by omega)]
  | succ j ih =>
    rw [tw_l3, rg_add_c _ IB.one (by omega) hi, ih (by omega)]
    by_cases h : i = 96 + j
    · rw [if_pos h, if_neg (by omega), if_pos (by omega)]
    · rw [if_neg h]
      by_cases q : 96 ≤ i ∧ i < 96 + j
      · rw [if_pos q, if_pos (by omega)]
      · rw [if_neg q, if_neg (by omega)]
theorem md_t1_c (μ : MR) (f g : Nat → Int32) {k i : Nat} (hk : k ≤ 128) (hi : i < 128) :
    md_cell (md_t1 μ f g k) 0 (nI i) = (if i < k then md_kb f i else md_cell μ 0 (nI i)) ∧ md_cell (md_t1 μ f g k) 1 (nI i) = (if i < k then md_tv g i else md_cell μ 1 (nI i)) := by
  induction k with
  | zero => exact ⟨rfl, rfl⟩
  | succ k ih =>
    obtain ⟨h0, h1⟩ := ih (by omega)
    have hk2 : k < 128 := by omega
    refine ⟨?_, ?_⟩
    · rw [md_t1, md_put_c _ _ _ _ hk2 hi, if_neg (by omega), md_put_c _ _ _ _ hk2 hi, h0]
      by_cases h : i = k
      · rw [if_pos ⟨rfl, h⟩, if_pos (by omega), h]
      · rw [if_neg (fun e => h e.2)]
        by_cases q : i < k
        · rw [if_pos q, if_pos (by omega)]
        · rw [if_neg q, if_neg (by omega)]
    · rw [md_t1, md_put_c _ _ _ _ hk2 hi, md_put_c _ _ _ _ hk2 hi, h1]
      by_cases h : i = k
      · rw [if_pos ⟨rfl, h⟩, if_pos (by omega), h]
      · rw [if_neg (fun e => h e.2), if_neg (by omega)]
        by_cases q : i < k
        · rw [if_pos q, if_pos (by omega)]
        · rw [if_neg q, if_neg (by omega)]
theorem n96 {i : Nat} (h : ¬ i < 96) (hi : i < 128) : (96 : Int32) ≤ nI i := nI_le (a := 96) (b := i) (by omega) (by omega)
theorem l96 {i : Nat} (h : i < 96) : ¬ (96 : Int32) ≤ nI i := nI_ge (b := 96) h (by decide)
theorem n127 {i : Nat} (h : ¬ i < 127) (hi : i < 128) : (127 : Int32) ≤ nI i := nI_le (a := 127) (b := i) (by omega) (by omega)
theorem l127 {i : Nat} (h : i < 127) : ¬ (127 : Int32) ≤ nI i := nI_ge (b := 127) h (by decide)
theorem tw_itr {σ : R4} {μ : MR} (h : rel2 σ μ) (n : Nat) : rel2 (tw_it σ n) (mit md_two1 μ n) := by
  induction n with
  | zero => exact h
  | succ n ih => exact tw_rel1 ih
theorem tw_loadr (f g : Nat → Int32) (μ : MR) : rel2 (tw_load f (nI 16) g (nI 12)) (md_B1 (mz μ) f g) := by
  refine tw_itr ?_ 256
  refine ⟨fun i hi => ?_, fun i hi => ?_⟩
  · rw [(md_t1_c _ f g (by decide) hi).1, if_pos (by omega)]
    show _ = rg_at (tw_l1 f (nI 16) 128) (nI i)
    rw [tw_l1_c _ _ (by decide) hi, if_pos (by omega), kb_eq f (by omega) (by decide)]
  · rw [(md_t1_c _ f g (by decide) hi).2, if_pos (by omega), md_tv]
    show _ = rg_at (tw_l3 (tw_l1 g (nI 12) 96) 31) (nI i)
    rw [tw_l3_c _ (by decide) hi, tw_l1_c _ _ (by decide) hi]
    by_cases h : i < 96
    · rw [if_neg (l96 h), if_neg (by omega), if_pos h, kb_eq g (by omega) (by decide)]
    · rw [if_pos (n96 h hi), if_neg h]
      by_cases q : i < 127
      · rw [if_neg (l127 q), if_pos (by omega)]
        decide
      · rw [if_pos (n127 q hi), if_neg (by omega)]
/-- machine 2 -/
theorem ss_itr {σ : R6} {μ : MR} (h : rel3 σ μ) (n : Nat) : rel3 (ss_it σ n) (mit md_s2 μ n) := by
  induction n with
  | zero => exact h
  | succ n ih => exact ss_rel ih
theorem ss_l1r (f : Nat → Int32) (μ : MR) {k : Nat} (hk : k ≤ 64) : rel3 (ss_l1 f (nI 8) k) (md_q1 (mz μ) f k) := by
  induction k with
  | zero => exact ⟨mz_r μ (by decide), mz_r μ (by decide), mz_r μ (by decide)⟩
  | succ k ih =>
    rw [ss_l1, md_q1, kb_eq f (by omega) (by decide)]
    exact ss_rfeed (ih (by omega)) (kb_ib _ _)
theorem ss_l2r (g : Nat → Int32) {σ : R6} {μ : MR} (h : rel3 σ μ) {k : Nat} (hk : k ≤ 22) : rel3 (ss_l2 σ g (nI 3) k) (md_q2 μ g k) := by
  induction k with
  | zero => exact h
  | succ k ih =>
    rw [ss_l2, md_q2, kb_eq g (by omega) (by decide)]
    exact ss_rfeed (ih (by omega)) (kb_ib _ _)
theorem ss_loadr (f g : Nat → Int32) (μ : MR) : rel3 (ss_load f (nI 8) g (nI 3)) (md_B2 (mz μ) f g) := ss_itr (ss_l2r g (ss_l1r f μ (by decide)) (by decide)) 100
/-- machine 3 -/
theorem ex_l2r (F g : Nat → Int32) {z : Nat} (hz0 : 0 < z) (hz : z ≤ 32) (k : Nat) : ex_l2 F g (nI z) k = ((md_l2 F g z k).1, (md_l2 F g z k).2, nI (k % z)) := by
  induction k with
  | zero => rw [ex_l2, md_l2, Nat.zero_mod]; rfl
  | succ k ih =>
    have hm := Nat.mod_lt k hz0
    have eb : by_at g (nI z) (nI (k % z)) = g (k % z) := by rw [by_at, if_neg (nI_pos (by omega)), if_neg (nI_ge hm (by omega)), nI_clamp (by omega)]
    have eo : ex_o (ex_l2 F g (nI z) k) g (nI z) k = ((md_l2 F g z k).2 + (md_l2 F g z k).1 k + g (k % z)) &&& 255 := by rw [ih, ex_o, eb]
    have ek : ex_kp (nI z) (nI (k % z)) = nI ((k + 1) % z) := by
      rw [ex_kp, nI_1, ← Nat.mod_add_mod]
      by_cases h : k % z + 1 = z
      · rw [if_pos (nI_le (by omega) (by omega)), h, Nat.mod_self]
        rfl
      · rw [if_neg (nI_ge (by omega) (by omega)), Nat.mod_eq_of_lt (show k % z + 1 < z by omega)]
    rw [ex_l2, eo, ih, md_l2, ek]
theorem ex_loadr (f : Nat → Int32) (τ : X5) {z : Nat} (hz0 : 0 < z) (hz : z ≤ 32) : ex_load f (nI z) τ = md_B3 τ f z := by
  rw [ex_load, md_B3, ex_l2r _ f hz0 hz]
/-- mix: the class lays the bits first and adds v then; the reference adds bit by bit -/
theorem IB.e {v : Int32} (h : IB v) : v = bI (decide (v = 1)) := by
  obtain ⟨b, rfl⟩ := h
  cases b <;> decide
theorem m1_bit (i : Nat) : (-1 : Int64).toBitVec.getLsbD i = decide (i < 64) := by
  have e : (-1 : Int64).toBitVec = BitVec.allOnes 64 := by decide
  rw [e, BitVec.getLsbD_allOnes]
theorem one_bit (i : Nat) : (1 : Int64).toBitVec.getLsbD i = decide (i = 0) := by
  show (1#64).getLsbD i = _
  simp
theorem mst_bit {α : Type} (f : α → α) (o : α → Int32) (σ : α) (b : Nat → Bool) (hb : ∀ j, o (mit f σ j) = bI (b j)) (j i : Nat) (hi : i < 64) : (mst f o σ j).toBitVec.getLsbD i = (decide (i < j) && b (j - 1 - i)) := by
  induction j generalizing i with
  | zero =>
    show (0#64).getLsbD i = _
    simp
  | succ j ih =>
    have e1 : (1 : Int32) = nI 1 := rfl
    rw [mst, or_bit, e1, lL_bit _ (by decide), hb, b2l_bit]
    rcases Nat.eq_zero_or_pos i with rfl | q
    · simp
    · rw [ih (i - 1) (by omega), show j + 1 - 1 - i = j - 1 - (i - 1) by omega]
      simp [hi, show ¬ i < 1 by omega, show ¬ i = 0 by omega, show (i - 1 < j) = (i < j + 1) by rw [eq_iff_iff]; omega]
theorem mds_bit {α : Type} (f : α → α) (o : α → Int32) (σ : α) (b : Nat → Bool) (hb : ∀ j, o (mit f σ j) = bI (b j)) (v : Int64) (n : Nat) (hn : n ≤ 64) (j : Nat) (hj : j ≤ n) (i : Nat) (hi : i < 64) : (mds f o σ v n j).toBitVec.getLsbD i = (decide (i < j) && (v.toBitVec.getLsbD (n - j + i) ^^ b (j - 1 - i))) := by
  induction j generalizing i with
  | zero =>
    show (0#64).getLsbD i = _
    simp
  | succ j ih =>
    have e1 : (1 : Int32) = nI 1 := rfl
    rw [mds, or_bit, e1, lL_bit _ (by decide), xor_bit, and_bit, hb, b2l_bit, one_bit]
    rcases Nat.eq_zero_or_pos i with rfl | q
    · rw [lR_bit v (by omega) (by omega), show n - 1 - j + 0 = n - (j + 1) + 0 by omega]
      simp
    · rw [ih (by omega) (i - 1) (by omega), show j + 1 - 1 - i = j - 1 - (i - 1) by omega, show n - j + (i - 1) = n - (j + 1) + i by omega]
      simp [hi, show ¬ i < 1 by omega, show ¬ i = 0 by omega, show (i - 1 < j) = (i < j + 1) by rw [eq_iff_iff]; omega]
theorem mix_eq {α β : Type} (f : α → α) (o : α → Int32) (σ : α) (f' : β → β) (o' : β → Int32) (σ' : β) (v : Int64) {n : Nat} (hn1 : 1 ≤ n) (hn : n ≤ 64) (h : ∀ j, o' (mit f' σ' j) = o (mit f σ j)) (hb : ∀ j, IB (o (mit f σ j))) : mds f' o' σ' v n n = mmx v n (mst f o σ n) := by
  refine l_ext (fun i hi => ?_)
  have e : (64 : Int32) - nI n = nI (64 - n) := pk_sub (a := 64) hn
  rw [mds_bit f' o' σ' (fun j => decide (o (mit f σ j) = 1)) (fun j => by rw [h j]; exact (hb j).e) v n hn n (Nat.le_refl n) i hi, mmx, xor_bit, and_bit, mst_bit f o σ (fun j => decide (o (mit f σ j) = 1)) (fun j => (hb j).e) n i hi, e, lU_bit _ (by omega), m1_bit, Nat.sub_self, Nat.zero_add, Nat.mod_eq_of_lt (show 64 - n < 64 by omega)]
  by_cases q : i < n
  · simp [q, show 64 - n + i < 64 by omega]
  · simp [q, show ¬ 64 - n + i < 64 by omega]
/-- runs of a machine on both sides -/
theorem tr_mit {σ : R6} {μ : MR} (h : rel3 σ μ) (n : Nat) : rel3 (mit tr_step σ n) (mit md_rstep μ n) := by
  induction n with
  | zero => exact h
  | succ n ih => exact tr_rel ih
theorem tw_mit {σ : R4} {μ : MR} (h : rel2 σ μ) (n : Nat) : rel2 (mit tw_step σ n) (mit md_two0 μ n) := by
  induction n with
  | zero => exact h
  | succ n ih => exact tw_rel0 ih
theorem ss_mit {σ : R6} {μ : MR} (h : rel3 σ μ) (n : Nat) : rel3 (mit ss_step σ n) (mit md_s2 μ n) := by
  induction n with
  | zero => exact h
  | succ n ih => exact ss_rel ih
theorem tr_mix {σ : R6} {μ : MR} (h : rel3 σ μ) (v : Int64) {n : Nat} (hn1 : 1 ≤ n) (hn : n ≤ 64) : mds md_rstep md_rout μ v n n = mmx v n (mst tr_step tr_out σ n) := mix_eq _ _ _ _ _ _ v hn1 hn (fun j => (tr_eq (tr_mit h j)).1) (fun _ => tr_iout _)
theorem tw_mix {σ : R4} {μ : MR} (h : rel2 σ μ) (v : Int64) {n : Nat} (hn1 : 1 ≤ n) (hn : n ≤ 64) : mds md_two0 md_y μ v n n = mmx v n (mst tw_step tw_out σ n) := mix_eq _ _ _ _ _ _ v hn1 hn (fun j => tw_ey (tw_mit h j)) (fun _ => tw_iout _)
theorem ss_mix {σ : R6} {μ : MR} (h : rel3 σ μ) (v : Int64) {n : Nat} (hn1 : 1 ≤ n) (hn : n ≤ 64) : mds md_s2 md_sout μ v n n = mmx v n (mst ss_step ss_out σ n) := mix_eq _ _ _ _ _ _ v hn1 hn (fun j => ss_oute (ss_mit h j)) (fun _ => ss_iout _)
theorem ex_mix (τ : X5) (v : Int64) {n : Nat} (hn1 : 1 ≤ n) (hn : n ≤ 64) : mds ex_step ex_out τ v n n = mmx v n (mst ex_step ex_out τ n) := mix_eq _ _ _ _ _ _ v hn1 hn (fun _ => rfl) (fun _ => ex_iout _)
