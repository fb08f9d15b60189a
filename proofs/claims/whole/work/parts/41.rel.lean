/-! the class's registers and the reference's rings hold the same -/
def tn (t : Int32) : Nat := t.toBitVec.toNat
theorem tn_nI {n : Nat} (h : n < 2 ^ 32) : tn (nI n) = n := pk_tn h
theorem md_ixn (t : Int32) {k : Nat} (hk : k < 128) : md_ix t (nI k) = (tn t + k) % 128 := by
  have h1 : (t + nI k).toBitVec.toNat = (tn t + k) % 4294967296 := by
    show (t.toBitVec + (nI k).toBitVec).toNat = _
    rw [BitVec.toNat_add, pk_tn (by omega)]
    rfl
  rw [md_ix, pk_and (t + nI k) 7 (by decide), h1, nI_clamp (by omega)]
  omega
theorem md_tm (t : Int32) : tn ((t - 1) &&& 127) = (tn t + 127) % 128 := by
  have h1 : (t - 1).toBitVec.toNat = (tn t + 4294967295) % 4294967296 := by
    show (t.toBitVec - 1#32).toNat = _
    rw [BitVec.toNat_sub]
    show (4294967296 - 1 + t.toBitVec.toNat) % 4294967296 = (t.toBitVec.toNat + 4294967295) % 4294967296
    rw [Nat.add_comm]
  rw [pk_and (t - 1) 7 (by decide), h1, tn_nI (by omega)]
  omega
theorem md_tp (t : Int32) : tn ((t + 1) &&& 127) = (tn t + 1) % 128 := by
  have h1 : (t + 1).toBitVec.toNat = (tn t + 1) % 4294967296 := by
    show (t.toBitVec + 1#32).toNat = _
    rw [BitVec.toNat_add]
    rfl
  rw [pk_and (t + 1) 7 (by decide), h1, tn_nI (by omega)]
  omega
theorem up_at {f : Nat → Int32} {k j : Nat} {x : Int32} : upd f k x j = if j = k then x else f j := by
  by_cases h : j = k
  · rw [h, pk_us, if_pos rfl]
  · rw [pk_un h, if_neg h]
theorem md_put_c (μ : MR) (r q : Nat) (v : Int32) {k i : Nat} (hk : k < 128) (hi : i < 128) : md_cell (md_put μ r (nI k) v) q (nI i) = if q = r ∧ i = k then v else md_cell μ q (nI i) := by
  show upd μ.1 (128 * r + md_ix (μ.2 r) (nI k)) v (128 * q + md_ix (μ.2 q) (nI i)) = _
  rw [up_at, md_ixn _ hk, md_ixn _ hi]
  by_cases h : q = r ∧ i = k
  · obtain ⟨rfl, rfl⟩ := h
    rw [if_pos rfl, if_pos ⟨rfl, rfl⟩]
  · rw [if_neg h, if_neg]
    · rw [md_cell, md_ixn _ hi]
    · intro e
      have hq : q = r := by omega
      subst hq
      exact h ⟨rfl, by omega⟩
theorem md_up_c (μ : MR) (r q : Nat) (v : Int32) {i : Nat} (hi : i < 128) : md_cell (md_up μ r v) q (nI i) = if q = r then (if i = 0 then v else md_cell μ r (nI (i - 1))) else md_cell μ q (nI i) := by
  show md_cell (md_put (μ.1, upd μ.2 r ((μ.2 r - 1) &&& 127)) r (nI 0) v) q (nI i) = _
  rw [md_put_c _ _ _ _ (by decide) hi]
  by_cases h : q = r
  · subst h
    by_cases h0 : i = 0
    · rw [if_pos ⟨rfl, h0⟩, if_pos rfl, if_pos h0]
    · rw [if_neg (fun e => h0 e.2), if_pos rfl, if_neg h0]
      show μ.1 (128 * q + md_ix (upd μ.2 q ((μ.2 q - 1) &&& 127) q) (nI i)) = μ.1 (128 * q + md_ix (μ.2 q) (nI (i - 1)))
      rw [pk_us, md_ixn _ hi, md_ixn _ (by omega), md_tm]
      exact congrArg (fun n => μ.1 (128 * q + n)) (by omega)
  · rw [if_neg (fun e => h e.1), if_neg h]
    show μ.1 (128 * q + md_ix (upd μ.2 r ((μ.2 r - 1) &&& 127) q) (nI i)) = μ.1 (128 * q + md_ix (μ.2 q) (nI i))
    rw [pk_un h]
theorem md_dn_c (μ : MR) (r q : Nat) (v : Int32) {i : Nat} (hi : i < 128) : md_cell (md_dn μ r v) q (nI i) = if q = r then (if i = 127 then v else md_cell μ r (nI (i + 1))) else md_cell μ q (nI i) := by
  show md_cell (md_put (μ.1, upd μ.2 r ((μ.2 r + 1) &&& 127)) r (nI 127) v) q (nI i) = _
  rw [md_put_c _ _ _ _ (by decide) hi]
  by_cases h : q = r
  · subst h
    by_cases h0 : i = 127
    · rw [if_pos ⟨rfl, h0⟩, if_pos rfl, if_pos h0]
    · rw [if_neg (fun e => h0 e.2), if_pos rfl, if_neg h0]
      show μ.1 (128 * q + md_ix (upd μ.2 q ((μ.2 q + 1) &&& 127) q) (nI i)) = μ.1 (128 * q + md_ix (μ.2 q) (nI (i + 1)))
      rw [pk_us, md_ixn _ hi, md_ixn _ (by omega), md_tp]
      exact congrArg (fun n => μ.1 (128 * q + n)) (by omega)
  · rw [if_neg (fun e => h e.1), if_neg h]
    show μ.1 (128 * q + md_ix (upd μ.2 r ((μ.2 r + 1) &&& 127) q) (nI i)) = μ.1 (128 * q + md_ix (μ.2 q) (nI i))
    rw [pk_un h]
/-- a bit as an int -/
def IB (v : Int32) : Prop := ∃ b : Bool, v = bI b
theorem IB.xor {x y : Int32} (hx : IB x) (hy : IB y) : IB (x ^^^ y) := by
  obtain ⟨a, rfl⟩ := hx
  obtain ⟨b, rfl⟩ := hy
  exact ⟨a ^^ b, bI_xor a b⟩
theorem IB.and {x y : Int32} (hx : IB x) (hy : IB y) : IB (x &&& y) := by
  obtain ⟨a, rfl⟩ := hx
  obtain ⟨b, rfl⟩ := hy
  exact ⟨a && b, bI_and a b⟩
theorem IB.a1 (x : Int32) : IB (x &&& 1) := by
  obtain ⟨j, hj, e⟩ := pk_andE x (m := 1) 1 (by decide)
  rcases (show j = 0 ∨ j = 1 by omega) with rfl | rfl
  · exact ⟨false, e⟩
  · exact ⟨true, e⟩
theorem IB.at (r : R2) (q : Int32) : IB (rg_at r q) := IB.a1 _
theorem IB.one : IB 1 := ⟨true, rfl⟩
theorem IB.zero : IB 0 := ⟨false, rfl⟩
/-- register r holds what the ring q of the reference holds -/
def RR (r : R2) (μ : MR) (q : Nat) : Prop := ∀ i, i < 128 → md_cell μ q (nI i) = rg_at r (nI i)
theorem rg_up_c (r : R2) {v : Int32} (hv : IB v) {i : Nat} (hi : i < 128) : rg_at (rg_up r v) (nI i) = if i = 0 then v else rg_at r (nI (i - 1)) := by
  obtain ⟨b, rfl⟩ := hv
  rw [rg_b _ hi, rb_up r b hi, rg_b _ (show i - 1 < 128 by omega)]
  split <;> rfl
theorem rg_dn_c (r : R2) {v : Int32} (hv : IB v) {i : Nat} (hi : i < 128) : rg_at (rg_dn r v) (nI i) = if i = 127 then v else rg_at r (nI (i + 1)) := by
  obtain ⟨b, rfl⟩ := hv
  rw [rg_b _ hi, rb_dn r b hi]
  by_cases h : i = 127
  · rw [if_pos h, if_pos h]
  · rw [if_neg h, if_neg h, rg_b _ (show i + 1 < 128 by omega)]
theorem rg_add_c (r : R2) {v : Int32} (hv : IB v) {k i : Nat} (hk : k < 128) (hi : i < 128) : rg_at (rg_add r (nI k) v) (nI i) = if i = k then rg_at r (nI i) ^^^ v else rg_at r (nI i) := by
  obtain ⟨b, rfl⟩ := hv
  rw [rg_b _ hi, rb_add r b hk hi, rg_b _ hi, bI_xor]
  split <;> rfl
theorem rg_0_c {i : Nat} (hi : i < 128) : rg_at rg_0 (nI i) = 0 := by rw [rg_b _ hi, rb_0]; rfl
theorem RR.up {r : R2} {μ : MR} {q : Nat} {v : Int32} (h : RR r μ q) (hv : IB v) : RR (rg_up r v) (md_up μ q v) q := fun i hi => by
  rw [md_up_c _ _ _ _ hi, if_pos rfl, rg_up_c _ hv hi]
  by_cases h0 : i = 0
  · rw [if_pos h0, if_pos h0]
  · rw [if_neg h0, if_neg h0, h _ (by omega)]
theorem RR.upN {r : R2} {μ : MR} {q q' : Nat} {v : Int32} (h : RR r μ q) (hq : q ≠ q') : RR r (md_up μ q' v) q := fun i hi => by
  rw [md_up_c _ _ _ _ hi, if_neg hq, h i hi]
theorem RR.dn {r : R2} {μ : MR} {q : Nat} {v : Int32} (h : RR r μ q) (hv : IB v) : RR (rg_dn r v) (md_dn μ q v) q := fun i hi => by
  rw [md_dn_c _ _ _ _ hi, if_pos rfl, rg_dn_c _ hv hi]
  by_cases h0 : i = 127
  · rw [if_pos h0, if_pos h0]
  · rw [if_neg h0, if_neg h0, h _ (by omega)]
theorem RR.dnN {r : R2} {μ : MR} {q q' : Nat} {v : Int32} (h : RR r μ q) (hq : q ≠ q') : RR r (md_dn μ q' v) q := fun i hi => by
  rw [md_dn_c _ _ _ _ hi, if_neg hq, h i hi]
theorem RR.put {r : R2} {μ : MR} {q k : Nat} {v : Int32} (h : RR r μ q) (hv : IB v) (hk : k < 128) : RR (rg_add r (nI k) v) (md_put μ q (nI k) (md_cell μ q (nI k) ^^^ v)) q := fun i hi => by
  rw [md_put_c _ _ _ _ hk hi, rg_add_c _ hv hk hi]
  by_cases e : i = k
  · rw [if_pos ⟨rfl, e⟩, if_pos e, h k hk, e]
  · rw [if_neg (fun x => e x.2), if_neg e, h i hi]
theorem RR.putN {r : R2} {μ : MR} {q q' k : Nat} {v : Int32} (h : RR r μ q) (hk : k < 128) (hq : q ≠ q') : RR r (md_put μ q' (nI k) v) q := fun i hi => by
  rw [md_put_c _ _ _ _ hk hi, if_neg (fun x => hq x.1), h i hi]
def rel3 (σ : R6) (μ : MR) : Prop := RR σ.1 μ 0 ∧ RR σ.2.1 μ 1 ∧ RR σ.2.2 μ 2
def rel2 (σ : R4) (μ : MR) : Prop := RR σ.1 μ 0 ∧ RR σ.2 μ 1
theorem ms_66 {σ : R6} {μ : MR} (h : rel3 σ μ) : md_s μ 66 = rg_at σ.1 65 := by
  rw [md_s, if_neg (by decide)]
  exact h.1 65 (by decide)
theorem ms_93 {σ : R6} {μ : MR} (h : rel3 σ μ) : md_s μ 93 = rg_at σ.1 92 := by
  rw [md_s, if_neg (by decide)]
  exact h.1 92 (by decide)
theorem ms_162 {σ : R6} {μ : MR} (h : rel3 σ μ) : md_s μ 162 = rg_at σ.2.1 68 := by
  rw [md_s, if_pos (by decide), if_neg (by decide)]
  exact h.2.1 68 (by decide)
theorem ms_177 {σ : R6} {μ : MR} (h : rel3 σ μ) : md_s μ 177 = rg_at σ.2.1 83 := by
  rw [md_s, if_pos (by decide), if_neg (by decide)]
  exact h.2.1 83 (by decide)
theorem ms_243 {σ : R6} {μ : MR} (h : rel3 σ μ) : md_s μ 243 = rg_at σ.2.2 65 := by
  rw [md_s, if_pos (by decide), if_pos (by decide)]
  exact h.2.2 65 (by decide)
theorem ms_288 {σ : R6} {μ : MR} (h : rel3 σ μ) : md_s μ 288 = rg_at σ.2.2 110 := by
  rw [md_s, if_pos (by decide), if_pos (by decide)]
  exact h.2.2 110 (by decide)
theorem ms_91 {σ : R6} {μ : MR} (h : rel3 σ μ) : md_s μ 91 = rg_at σ.1 90 := by
  rw [md_s, if_neg (by decide)]
  exact h.1 90 (by decide)
theorem ms_92 {σ : R6} {μ : MR} (h : rel3 σ μ) : md_s μ 92 = rg_at σ.1 91 := by
  rw [md_s, if_neg (by decide)]
  exact h.1 91 (by decide)
theorem ms_171 {σ : R6} {μ : MR} (h : rel3 σ μ) : md_s μ 171 = rg_at σ.2.1 77 := by
  rw [md_s, if_pos (by decide), if_neg (by decide)]
  exact h.2.1 77 (by decide)
theorem ms_175 {σ : R6} {μ : MR} (h : rel3 σ μ) : md_s μ 175 = rg_at σ.2.1 81 := by
  rw [md_s, if_pos (by decide), if_neg (by decide)]
  exact h.2.1 81 (by decide)
theorem ms_176 {σ : R6} {μ : MR} (h : rel3 σ μ) : md_s μ 176 = rg_at σ.2.1 82 := by
  rw [md_s, if_pos (by decide), if_neg (by decide)]
  exact h.2.1 82 (by decide)
theorem ms_264 {σ : R6} {μ : MR} (h : rel3 σ μ) : md_s μ 264 = rg_at σ.2.2 86 := by
  rw [md_s, if_pos (by decide), if_pos (by decide)]
  exact h.2.2 86 (by decide)
theorem ms_286 {σ : R6} {μ : MR} (h : rel3 σ μ) : md_s μ 286 = rg_at σ.2.2 108 := by
  rw [md_s, if_pos (by decide), if_pos (by decide)]
  exact h.2.2 108 (by decide)
theorem ms_287 {σ : R6} {μ : MR} (h : rel3 σ μ) : md_s μ 287 = rg_at σ.2.2 109 := by
  rw [md_s, if_pos (by decide), if_pos (by decide)]
  exact h.2.2 109 (by decide)
theorem ms_69 {σ : R6} {μ : MR} (h : rel3 σ μ) : md_s μ 69 = rg_at σ.1 68 := by
  rw [md_s, if_neg (by decide)]
  exact h.1 68 (by decide)
theorem tr_eq {σ : R6} {μ : MR} (h : rel3 σ μ) : md_rout μ = tr_out σ ∧ md_ra μ = tr_a σ ∧ md_rb μ = tr_b σ ∧ md_rc μ = tr_c σ := by
  refine ⟨?_, ?_, ?_, ?_⟩
  · simp only [md_rout, md_a1, md_b1, md_c1, tr_out, tr_a1, tr_b1, tr_c1, ms_66 h, ms_93 h, ms_162 h, ms_177 h, ms_243 h, ms_288 h, ms_91 h, ms_92 h, ms_171 h, ms_175 h, ms_176 h, ms_264 h, ms_286 h, ms_287 h, ms_69 h]
  · simp only [md_ra, md_a1, tr_a, tr_a1, ms_66 h, ms_93 h, ms_162 h, ms_177 h, ms_243 h, ms_288 h, ms_91 h, ms_92 h, ms_171 h, ms_175 h, ms_176 h, ms_264 h, ms_286 h, ms_287 h, ms_69 h, Int32.xor_assoc]
  · simp only [md_rb, md_b1, tr_b, tr_b1, ms_66 h, ms_93 h, ms_162 h, ms_177 h, ms_243 h, ms_288 h, ms_91 h, ms_92 h, ms_171 h, ms_175 h, ms_176 h, ms_264 h, ms_286 h, ms_287 h, ms_69 h, Int32.xor_assoc]
  · simp only [md_rc, md_c1, tr_c, tr_c1, ms_66 h, ms_93 h, ms_162 h, ms_177 h, ms_243 h, ms_288 h, ms_91 h, ms_92 h, ms_171 h, ms_175 h, ms_176 h, ms_264 h, ms_286 h, ms_287 h, ms_69 h, Int32.xor_assoc]
theorem tr_ib (σ : R6) : IB (tr_out σ) ∧ IB (tr_a σ) ∧ IB (tr_b σ) ∧ IB (tr_c σ) := by
  have a : ∀ (r : R2) (q : Int32), IB (rg_at r q) := IB.at
  refine ⟨?_, ?_, ?_, ?_⟩
  · exact (((a _ _).xor (a _ _)).xor ((a _ _).xor (a _ _))).xor ((a _ _).xor (a _ _))
  · exact ((a _ _).xor (a _ _)).xor (((a _ _).and (a _ _)).xor (a _ _))
  · exact ((a _ _).xor (a _ _)).xor (((a _ _).and (a _ _)).xor (a _ _))
  · exact ((a _ _).xor (a _ _)).xor (((a _ _).and (a _ _)).xor (a _ _))
theorem tr_rel {σ : R6} {μ : MR} (h : rel3 σ μ) : rel3 (tr_step σ) (md_rstep μ) := by
  obtain ⟨-, ea, eb, ec⟩ := tr_eq h
  obtain ⟨-, ia, ib, ic⟩ := tr_ib σ
  rw [md_rstep, ea, eb, ec, tr_step]
  exact ⟨((h.1.up ic).upN (by decide)).upN (by decide), ((h.2.1.upN (by decide)).up ia).upN (by decide), ((h.2.2.upN (by decide)).upN (by decide)).up ib⟩
theorem tw_ey {σ : R4} {μ : MR} (h : rel2 σ μ) : md_y μ = tw_out σ := by
  have e1_2 : md_cell μ 0 2 = rg_at σ.1 2 := h.1 2 (by decide)
  have e1_12 : md_cell μ 0 12 = rg_at σ.1 12 := h.1 12 (by decide)
  have e1_15 : md_cell μ 0 15 = rg_at σ.1 15 := h.1 15 (by decide)
  have e1_36 : md_cell μ 0 36 = rg_at σ.1 36 := h.1 36 (by decide)
  have e1_45 : md_cell μ 0 45 = rg_at σ.1 45 := h.1 45 (by decide)
  have e1_64 : md_cell μ 0 64 = rg_at σ.1 64 := h.1 64 (by decide)
  have e1_73 : md_cell μ 0 73 = rg_at σ.1 73 := h.1 73 (by decide)
  have e1_89 : md_cell μ 0 89 = rg_at σ.1 89 := h.1 89 (by decide)
  have e1_95 : md_cell μ 0 95 = rg_at σ.1 95 := h.1 95 (by decide)
  have e2_8 : md_cell μ 1 8 = rg_at σ.2 8 := h.2 8 (by decide)
  have e2_13 : md_cell μ 1 13 = rg_at σ.2 13 := h.2 13 (by decide)
  have e2_20 : md_cell μ 1 20 = rg_at σ.2 20 := h.2 20 (by decide)
  have e2_42 : md_cell μ 1 42 = rg_at σ.2 42 := h.2 42 (by decide)
  have e2_60 : md_cell μ 1 60 = rg_at σ.2 60 := h.2 60 (by decide)
  have e2_79 : md_cell μ 1 79 = rg_at σ.2 79 := h.2 79 (by decide)
  have e2_93 : md_cell μ 1 93 = rg_at σ.2 93 := h.2 93 (by decide)
  have e2_94 : md_cell μ 1 94 = rg_at σ.2 94 := h.2 94 (by decide)
  simp only [md_y, tw_out, e1_2, e1_12, e1_15, e1_36, e1_45, e1_64, e1_73, e1_89, e1_95, e2_8, e2_13, e2_20, e2_42, e2_60, e2_79, e2_93, e2_94]
theorem tw_iy (σ : R4) : IB (tw_out σ) := by
  have a : ∀ (r : R2) (q : Int32), IB (rg_at r q) := IB.at
  exact ((((((((((((((a _ _).and (a _ _)).xor ((a _ _).and (a _ _))).xor ((a _ _).and (a _ _))).xor ((a _ _).and (a _ _))).xor (((a _ _).and (a _ _)).and (a _ _))).xor (a _ _)).xor (a _ _)).xor (a _ _)).xor (a _ _)).xor (a _ _)).xor (a _ _)).xor (a _ _)).xor (a _ _))
theorem tw_es {σ : R4} {μ : MR} (h : rel2 σ μ) : md_ns μ = tw_ns σ := by
  have e2_0 : md_cell μ 1 0 = rg_at σ.2 0 := h.2 0 (by decide)
  have e2_7 : md_cell μ 1 7 = rg_at σ.2 7 := h.2 7 (by decide)
  have e2_38 : md_cell μ 1 38 = rg_at σ.2 38 := h.2 38 (by decide)
  have e2_70 : md_cell μ 1 70 = rg_at σ.2 70 := h.2 70 (by decide)
  have e2_81 : md_cell μ 1 81 = rg_at σ.2 81 := h.2 81 (by decide)
  have e2_96 : md_cell μ 1 96 = rg_at σ.2 96 := h.2 96 (by decide)
  simp only [md_ns, tw_ns, e2_0, e2_7, e2_38, e2_70, e2_81, e2_96]
theorem tw_is (σ : R4) : IB (tw_ns σ) := by
  have a : ∀ (r : R2) (q : Int32), IB (rg_at r q) := IB.at
  exact ((((((a _ _).xor (a _ _)).xor (a _ _)).xor (a _ _)).xor (a _ _)).xor (a _ _))
theorem tw_eb {σ : R4} {μ : MR} (h : rel2 σ μ) : md_nb μ = tw_nb σ := by
  have e1_0 : md_cell μ 0 0 = rg_at σ.1 0 := h.1 0 (by decide)
  have e1_3 : md_cell μ 0 3 = rg_at σ.1 3 := h.1 3 (by decide)
  have e1_11 : md_cell μ 0 11 = rg_at σ.1 11 := h.1 11 (by decide)
  have e1_13 : md_cell μ 0 13 = rg_at σ.1 13 := h.1 13 (by decide)
  have e1_17 : md_cell μ 0 17 = rg_at σ.1 17 := h.1 17 (by decide)
  have e1_18 : md_cell μ 0 18 = rg_at σ.1 18 := h.1 18 (by decide)
  have e1_22 : md_cell μ 0 22 = rg_at σ.1 22 := h.1 22 (by decide)
  have e1_24 : md_cell μ 0 24 = rg_at σ.1 24 := h.1 24 (by decide)
  have e1_25 : md_cell μ 0 25 = rg_at σ.1 25 := h.1 25 (by decide)
  have e1_26 : md_cell μ 0 26 = rg_at σ.1 26 := h.1 26 (by decide)
  have e1_27 : md_cell μ 0 27 = rg_at σ.1 27 := h.1 27 (by decide)
  have e1_40 : md_cell μ 0 40 = rg_at σ.1 40 := h.1 40 (by decide)
  have e1_48 : md_cell μ 0 48 = rg_at σ.1 48 := h.1 48 (by decide)
  have e1_56 : md_cell μ 0 56 = rg_at σ.1 56 := h.1 56 (by decide)
  have e1_59 : md_cell μ 0 59 = rg_at σ.1 59 := h.1 59 (by decide)
  have e1_61 : md_cell μ 0 61 = rg_at σ.1 61 := h.1 61 (by decide)
  have e1_65 : md_cell μ 0 65 = rg_at σ.1 65 := h.1 65 (by decide)
  have e1_67 : md_cell μ 0 67 = rg_at σ.1 67 := h.1 67 (by decide)
  have e1_68 : md_cell μ 0 68 = rg_at σ.1 68 := h.1 68 (by decide)
  have e1_70 : md_cell μ 0 70 = rg_at σ.1 70 := h.1 70 (by decide)
  have e1_78 : md_cell μ 0 78 = rg_at σ.1 78 := h.1 78 (by decide)
  have e1_82 : md_cell μ 0 82 = rg_at σ.1 82 := h.1 82 (by decide)
  have e1_84 : md_cell μ 0 84 = rg_at σ.1 84 := h.1 84 (by decide)
  have e1_88 : md_cell μ 0 88 = rg_at σ.1 88 := h.1 88 (by decide)
  have e1_91 : md_cell μ 0 91 = rg_at σ.1 91 := h.1 91 (by decide)
  have e1_92 : md_cell μ 0 92 = rg_at σ.1 92 := h.1 92 (by decide)
  have e1_93 : md_cell μ 0 93 = rg_at σ.1 93 := h.1 93 (by decide)
  have e1_95 : md_cell μ 0 95 = rg_at σ.1 95 := h.1 95 (by decide)
  have e1_96 : md_cell μ 0 96 = rg_at σ.1 96 := h.1 96 (by decide)
  have e2_0 : md_cell μ 1 0 = rg_at σ.2 0 := h.2 0 (by decide)
  simp only [md_nb, tw_nb, e1_0, e1_3, e1_11, e1_13, e1_17, e1_18, e1_22, e1_24, e1_25, e1_26, e1_27, e1_40, e1_48, e1_56, e1_59, e1_61, e1_65, e1_67, e1_68, e1_70, e1_78, e1_82, e1_84, e1_88, e1_91, e1_92, e1_93, e1_95, e1_96, e2_0]
theorem tw_ib (σ : R4) : IB (tw_nb σ) := by
  have a : ∀ (r : R2) (q : Int32), IB (rg_at r q) := IB.at
  exact ((((((((((((((((a _ _).xor (a _ _)).xor (a _ _)).xor (a _ _)).xor (a _ _)).xor (a _ _)).xor ((a _ _).and (a _ _))).xor ((a _ _).and (a _ _))).xor ((a _ _).and (a _ _))).xor ((a _ _).and (a _ _))).xor ((a _ _).and (a _ _))).xor ((a _ _).and (a _ _))).xor ((a _ _).and (a _ _))).xor ((((a _ _).and (a _ _)).and (a _ _)).and (a _ _))).xor (((a _ _).and (a _ _)).and (a _ _))).xor (((a _ _).and (a _ _)).and (a _ _)))
theorem tw_rel0 {σ : R4} {μ : MR} (h : rel2 σ μ) : rel2 (tw_step σ) (md_two0 μ) := by
  rw [md_two0, tw_es h, tw_eb h, tw_step, tw_move, Int32.xor_zero, Int32.xor_zero]
  exact ⟨(h.1.dnN (by decide)).dn (tw_ib σ), (h.2.dn (tw_is σ)).dnN (by decide)⟩
theorem tw_rel1 {σ : R4} {μ : MR} (h : rel2 σ μ) : rel2 (tw_move σ (tw_out σ)) (md_two1 μ) := by
  rw [md_two1, md_tstep, tw_es h, tw_eb h, tw_ey h, tw_move]
  exact ⟨(h.1.dnN (by decide)).dn ((tw_ib σ).xor (tw_iy σ)), (h.2.dn ((tw_is σ).xor (tw_iy σ))).dnN (by decide)⟩
/-- three that stop -/
theorem ss_v0 {r : R2} {μ : MR} (h : RR r μ 0) : RR (ss_gx r) (md_g0 μ) 0 := by
  have e : md_v0 μ = rg_at r 13 ^^^ rg_at r 16 ^^^ rg_at r 17 ^^^ rg_at r 18 := by
    have e1 : md_cell μ 0 13 = rg_at r 13 := h 13 (by decide)
    have e2 : md_cell μ 0 16 = rg_at r 16 := h 16 (by decide)
    have e3 : md_cell μ 0 17 = rg_at r 17 := h 17 (by decide)
    have e4 : md_cell μ 0 18 = rg_at r 18 := h 18 (by decide)
    rw [md_v0, e1, e2, e3, e4]
  rw [md_g0, e, ss_gx]
  exact h.up ((((IB.at _ _).xor (IB.at _ _)).xor (IB.at _ _)).xor (IB.at _ _))
theorem ss_v1 {r : R2} {μ : MR} (h : RR r μ 1) : RR (ss_gy r) (md_g1 μ) 1 := by
  have e : md_v1 μ = rg_at r 20 ^^^ rg_at r 21 := by
    have e1 : md_cell μ 1 20 = rg_at r 20 := h 20 (by decide)
    have e2 : md_cell μ 1 21 = rg_at r 21 := h 21 (by decide)
    rw [md_v1, e1, e2]
  rw [md_g1, e, ss_gy]
  exact h.up ((IB.at _ _).xor (IB.at _ _))
theorem ss_v2 {r : R2} {μ : MR} (h : RR r μ 2) : RR (ss_gz r) (md_g2 μ) 2 := by
  have e : md_v2 μ = rg_at r 7 ^^^ rg_at r 20 ^^^ rg_at r 21 ^^^ rg_at r 22 := by
    have e1 : md_cell μ 2 7 = rg_at r 7 := h 7 (by decide)
    have e2 : md_cell μ 2 20 = rg_at r 20 := h 20 (by decide)
    have e3 : md_cell μ 2 21 = rg_at r 21 := h 21 (by decide)
    have e4 : md_cell μ 2 22 = rg_at r 22 := h 22 (by decide)
    rw [md_v2, e1, e2, e3, e4]
  rw [md_g2, e, ss_gz]
  exact h.up ((((IB.at _ _).xor (IB.at _ _)).xor (IB.at _ _)).xor (IB.at _ _))
theorem md_g0N {r : R2} {μ : MR} {q : Nat} (h : RR r μ q) (hq : q ≠ 0) : RR r (md_g0 μ) q := h.upN hq
theorem md_g1N {r : R2} {μ : MR} {q : Nat} (h : RR r μ q) (hq : q ≠ 1) : RR r (md_g1 μ) q := h.upN hq
theorem md_g2N {r : R2} {μ : MR} {q : Nat} (h : RR r μ q) (hq : q ≠ 2) : RR r (md_g2 μ) q := h.upN hq
theorem al_eq (x y z : Bool) : (if bI x + bI y + bI z ≤ 1 then (0 : Int32) else 1) = if bI x + bI y + bI z < 2 then 0 else 1 := by
  cases x <;> cases y <;> cases z <;> decide
theorem ss_ale {σ : R6} {μ : MR} (h : rel3 σ μ) : md_al μ = ss_al σ := by
  have e1 : md_cell μ 0 8 = rg_at σ.1 8 := h.1 8 (by decide)
  have e2 : md_cell μ 1 10 = rg_at σ.2.1 10 := h.2.1 10 (by decide)
  have e3 : md_cell μ 2 10 = rg_at σ.2.2 10 := h.2.2 10 (by decide)
  rw [md_al, ss_al, e1, e2, e3]
  obtain ⟨x, hx⟩ := IB.at σ.1 8
  obtain ⟨y, hy⟩ := IB.at σ.2.1 10
  obtain ⟨z, hz⟩ := IB.at σ.2.2 10
  rw [hx, hy, hz]
  exact al_eq x y z
theorem ss_rel {σ : R6} {μ : MR} (h : rel3 σ μ) : rel3 (ss_step σ) (md_s2 μ) := by
  have e1 : md_cell μ 0 8 = rg_at σ.1 8 := h.1 8 (by decide)
  have e2 : md_cell μ 1 10 = rg_at σ.2.1 10 := h.2.1 10 (by decide)
  have e3 : md_cell μ 2 10 = rg_at σ.2.2 10 := h.2.2 10 (by decide)
  have h0 : rel3 (ss_x σ, σ.2.1, σ.2.2) (md_s0 μ) := by
    rw [md_s0, ss_x, e1, ss_ale h]
    split
    · exact ⟨ss_v0 h.1, md_g0N h.2.1 (by decide), md_g0N h.2.2 (by decide)⟩
    · exact h
  have h1 : rel3 (ss_x σ, ss_y σ, σ.2.2) (md_s1 μ) := by
    rw [md_s1, ss_y, e2, ss_ale h]
    split
    · exact ⟨md_g1N h0.1 (by decide), ss_v1 h0.2.1, md_g1N h0.2.2 (by decide)⟩
    · exact h0
  rw [md_s2, ss_step, ss_z, e3, ss_ale h]
  split
  · exact ⟨md_g2N h1.1 (by decide), md_g2N h1.2.1 (by decide), ss_v2 h1.2.2⟩
  · exact h1
theorem ss_oute {σ : R6} {μ : MR} (h : rel3 σ μ) : md_sout μ = ss_out σ := by
  have q := ss_rel h
  have e1 : md_cell (md_s2 μ) 0 18 = rg_at (ss_x σ) 18 := q.1 18 (by decide)
  have e2 : md_cell (md_s2 μ) 1 21 = rg_at (ss_y σ) 21 := q.2.1 21 (by decide)
  have e3 : md_cell (md_s2 μ) 2 22 = rg_at (ss_z σ) 22 := q.2.2 22 (by decide)
  rw [md_sout, ss_out, e1, e2, e3]
theorem ss_iout (σ : R6) : IB (ss_out σ) := ((IB.at _ _).xor (IB.at _ _)).xor (IB.at _ _)
theorem ss_rfeed {σ : R6} {μ : MR} {b : Int32} (h : rel3 σ μ) (hb : IB b) : rel3 (ss_feed σ b) (md_feed μ b) := by
  have h0 : rel3 (rg_add (ss_gx σ.1) (nI 0) b, σ.2.1, σ.2.2) (md_f0 μ b) := ⟨(ss_v0 h.1).put hb (by decide), (md_g0N h.2.1 (by decide)).putN (k := 0) (by decide) (by decide), (md_g0N h.2.2 (by decide)).putN (k := 0) (by decide) (by decide)⟩
  have h1 : rel3 (rg_add (ss_gx σ.1) (nI 0) b, rg_add (ss_gy σ.2.1) (nI 0) b, σ.2.2) (md_f1 (md_f0 μ b) b) := ⟨(md_g1N h0.1 (by decide)).putN (k := 0) (by decide) (by decide), (ss_v1 h0.2.1).put hb (by decide), (md_g1N h0.2.2 (by decide)).putN (k := 0) (by decide) (by decide)⟩
  exact ⟨(md_g2N h1.1 (by decide)).putN (k := 0) (by decide) (by decide), (md_g2N h1.2.1 (by decide)).putN (k := 0) (by decide) (by decide), (ss_v2 h1.2.2).put hb (by decide)⟩
theorem ex_iout (τ : X5) : IB (ex_out τ) := IB.a1 _
theorem tw_iout (σ : R4) : IB (tw_out σ) := tw_iy σ
theorem tr_iout (σ : R6) : IB (tr_out σ) := (tr_ib σ).1
