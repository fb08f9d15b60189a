section LAW
variable {p : Program} {l : Launch} {e : Env} {s : State} {m : MethodId} {below : List Frame} {meth : Method} {c : Code} {D : va_G} {b L : Nat} {xs : Nat → Int32} {h0 kb sb ms kq sq m0 a1 a2 a3 m1 b1 b2 m2 c1 c2 c3 m3 rq : Nat} {h9 nkq nsq ncq ntq nrq : Nat} {kA sA mA kR nk ns nc nt nr : ClassId}
set_option maxHeartbeats 8000000 in
set_option maxRecDepth 100000 in
/-- THE LAW'S LOOP: at its head class and reference agree -/
theorem law_loop (hL : L ≤ 2048) (C0 : lw_At p s m meth c b L xs) (hF : ct_F s) (hK : va_K D vwCl [(kA, .int), (sA, .int), (mA, .object "BitStreams$Machine"), (kR, .int), (nk, .int), (ns, .int), (nc, .int), (nt, .int), (nr, .int)] s) : ∀ (n i : Nat), i ≤ L → L + 1 ≤ i + n → ∀ (kz sz run : Nat) (f g : Nat → Int32) (us : Int32) (σ0 : R6) (σ1 : R4) (σ2 : R6) (τ : X5) (μ : MR), kz ≤ 32 → sz ≤ 12 → run ≤ 4 → lw_R run σ0 σ1 σ2 μ → ∀ (H : Heap) (locs : List Loc) (ls : Array Slot), va_P D vwCl [(h0, .inr (6, [.ref kb, .ref sb, .ref ms, bs_rv m0 m1 m2 m3 run, .int (bs_rn run), .int us])), (ms, .inl (mA, 4, .inr (.inr (.inr (.inr (bs_ms m0 m1 m2 m3)))))), (kb, .inr (0, [.ref kq, .int (nI kz)])), (kq, .inl (kA, 32, .inl f)), (sb, .inr (0, [.ref sq, .int (nI sz)])), (sq, .inl (sA, 12, .inl g)), (m0, .inr (3, [.ref a1, .ref a2, .ref a3])), (a1, .inr (1, [.long σ0.1.1, .long σ0.1.2])), (a2, .inr (1, [.long σ0.2.1.1, .long σ0.2.1.2])), (a3, .inr (1, [.long σ0.2.2.1, .long σ0.2.2.2])), (m1, .inr (5, [.ref b1, .ref b2])), (b1, .inr (1, [.long σ1.1.1, .long σ1.1.2])), (b2, .inr (1, [.long σ1.2.1, .long σ1.2.2])), (m2, .inr (4, [.ref c1, .ref c2, .ref c3])), (c1, .inr (1, [.long σ2.1.1, .long σ2.1.2])), (c2, .inr (1, [.long σ2.2.1.1, .long σ2.2.1.2])), (c3, .inr (1, [.long σ2.2.2.1, .long σ2.2.2.2])), (m3, .inr (2, [.ref rq, .int τ.1.2.1, .int τ.1.2.2, .int τ.2.1, .int τ.2.2])), (rq, .inl (kR, 256, .inl τ.1.1)), (h9, .inr (7, [.ref nkq, .ref nsq, .int (nI kz), .int (nI sz), .int (bs_rn run), .int us, .ref ncq, .ref ntq, .ref nrq, .int τ.1.2.1, .int τ.1.2.2, .int τ.2.1, .int τ.2.2])), (nkq, .inl (nk, 32, .inl f)), (nsq, .inl (ns, 12, .inl g)), (ncq, .inl (nc, 384, .inl μ.1)), (ntq, .inl (nt, 3, .inl μ.2)), (nrq, .inl (nr, 256, .inl τ.1.1))] H → va_D (fun q : Nat => s.heap.size ≤ q) [(h0, .inr (6, [.ref kb, .ref sb, .ref ms, bs_rv m0 m1 m2 m3 run, .int (bs_rn run), .int us])), (ms, .inl (mA, 4, .inr (.inr (.inr (.inr (bs_ms m0 m1 m2 m3)))))), (kb, .inr (0, [.ref kq, .int (nI kz)])), (kq, .inl (kA, 32, .inl f)), (sb, .inr (0, [.ref sq, .int (nI sz)])), (sq, .inl (sA, 12, .inl g)), (m0, .inr (3, [.ref a1, .ref a2, .ref a3])), (a1, .inr (1, [.long σ0.1.1, .long σ0.1.2])), (a2, .inr (1, [.long σ0.2.1.1, .long σ0.2.1.2])), (a3, .inr (1, [.long σ0.2.2.1, .long σ0.2.2.2])), (m1, .inr (5, [.ref b1, .ref b2])), (b1, .inr (1, [.long σ1.1.1, .long σ1.1.2])), (b2, .inr (1, [.long σ1.2.1, .long σ1.2.2])), (m2, .inr (4, [.ref c1, .ref c2, .ref c3])), (c1, .inr (1, [.long σ2.1.1, .long σ2.1.2])), (c2, .inr (1, [.long σ2.2.1.1, .long σ2.2.1.2])), (c3, .inr (1, [.long σ2.2.2.1, .long σ2.2.2.2])), (m3, .inr (2, [.ref rq, .int τ.1.2.1, .int τ.1.2.2, .int τ.2.1, .int τ.2.2])), (rq, .inl (kR, 256, .inl τ.1.1)), (h9, .inr (7, [.ref nkq, .ref nsq, .int (nI kz), .int (nI sz), .int (bs_rn run), .int us, .ref ncq, .ref ntq, .ref nrq, .int τ.1.2.1, .int τ.1.2.2, .int τ.2.1, .int τ.2.2])), (nkq, .inl (nk, 32, .inl f)), (nsq, .inl (ns, 12, .inl g)), (ncq, .inl (nc, 384, .inl μ.1)), (ntq, .inl (nt, 3, .inl μ.2)), (nrq, .inl (nr, 256, .inl τ.1.1))] → va_S (fun q : Nat => s.heap.size ≤ q) s.heap H locs → lv_has ls 4 [(3, .int (nI i)), (0, .ref b), (1, .ref h0), (2, .ref h9)] → W p l e room_1 s m #[Value.ref b] below meth c H locs 25 1043 (lw_Z below #[Value.ref b] s) (F0 m 18 ls []) := by
  obtain ⟨hx, hb, hr, hml, hown, hts0, hX, hbl, hlocks, hgv⟩ := id C0
  have hbA : ¬ (fun q : Nat => s.heap.size ≤ q) b := Nat.not_le.mpr hbl
  intro n
  induction n with
  | zero =>
    intro i h1 h2
    exact absurd h2 (by omega)
  | succ n ih =>
    intro i hi hin kz sz run f g us σ0 σ1 σ2 τ μ hkz hsz hrun hrel H locs ls hP hD hS hl
    refine lv_iload_n hx hb dL_law_18 rfl (lv_at hl 0 rfl) ?_
    refine lv_aload_n hx hb dL_law_19 rfl (lv_at hl 1 rfl) ?_
    refine va_slen hx hb hX hbl hbA hS dL_law_20 ?_
    refine lv_iconst (v := 4) hx hb dL_law_21 (by decide) ?_
    refine lv_isub hx hb dL_law_22 ?_
    refine lv_icmp_gt (tgt := 365) hx hb dL_law_23 (by decide) (fun _ => ?_) (fun hc => ?_)
    · refine lv_iconst (v := 1) hx hb dL_law_365 (by decide) ?_
      refine va_forget (fun q hq => hS.2.2 q hq) ?_
      refine W.widen (k := 600000) (n := 7302250) (Nat.le_of_ble_eq_true rfl) (Nat.le_of_ble_eq_true rfl) ?_
      exact lw_ret hx hb hr hlocks dL_law_366
    · have hi4 : i + 4 ≤ L := lw_lt (by omega) hL hc
      refine lv_aload_n hx hb dL_law_26 rfl (lv_at hl 1 rfl) ?_
      refine lv_iload_n hx hb dL_law_27 rfl (lv_at hl 0 rfl) ?_
      refine va_sld hx hb hX hbl hbA hS (x_in (j := 0) hi4 (by decide) hL) dL_law_28 ?_
      refine lv_bipush (v := 7) hx hb dL_law_29 (by decide) ?_
      refine lv_iand hx hb dL_law_31 ?_
      obtain ⟨j, hj, ej⟩ := pk_andE (xs (nI i).toNatClampNeg) (m := 7) 3 (by decide)
      rcases (show j = 0 ∨ j = 1 ∨ j = 2 ∨ j = 3 ∨ j = 4 ∨ j = 5 ∨ j = 6 ∨ j = 7 by omega) with rfl | rfl | rfl | rfl | rfl | rfl | rfl | rfl
      · refine ct_topi (y := 0) ej ?_
        refine lv_tableIn (off := 44) (tgt := 76) hx hb dL_law_32 (by decide) (by decide) (by decide) (by decide) ?_
        exact law_0 hL C0 hF hK hi4 (ih (i + 4) hi4 (by omega)) kz sz run f g us σ0 σ1 σ2 τ μ hkz hsz hrun hrel H locs ls hP hD hS hl
      · refine ct_topi (y := 1) ej ?_
        refine lv_tableIn (off := 107) (tgt := 139) hx hb dL_law_32 (by decide) (by decide) (by decide) (by decide) ?_
        exact law_1 hL C0 hF hK hi4 (ih (i + 4) hi4 (by omega)) kz sz run f g us σ0 σ1 σ2 τ μ hkz hsz hrun hrel H locs ls hP hD hS hl
      · refine ct_topi (y := 2) ej ?_
        refine lv_tableIn (off := 170) (tgt := 202) hx hb dL_law_32 (by decide) (by decide) (by decide) (by decide) ?_
        exact law_2 hL C0 hF hK hi4 (ih (i + 4) hi4 (by omega)) kz sz run f g us σ0 σ1 σ2 τ μ hkz hsz hrun hrel H locs ls hP hD hS hl
      · refine ct_topi (y := 3) ej ?_
        refine lv_tableIn (off := 193) (tgt := 225) hx hb dL_law_32 (by decide) (by decide) (by decide) (by decide) ?_
        exact law_3 hL C0 hF hK hi4 (ih (i + 4) hi4 (by omega)) kz sz run f g us σ0 σ1 σ2 τ μ hkz hsz hrun hrel H locs ls hP hD hS hl
      · refine ct_topi (y := 4) ej ?_
        refine lv_tableIn (off := 217) (tgt := 249) hx hb dL_law_32 (by decide) (by decide) (by decide) (by decide) ?_
        exact law_4 hL C0 hF hK hi4 (ih (i + 4) hi4 (by omega)) kz sz run f g us σ0 σ1 σ2 τ μ hkz hsz hrun hrel H locs ls hP hD hS hl
      · refine ct_topi (y := 5) ej ?_
        refine lv_tableIn (off := 240) (tgt := 272) hx hb dL_law_32 (by decide) (by decide) (by decide) (by decide) ?_
        exact law_5 hL C0 hF hK hi4 (ih (i + 4) hi4 (by omega)) kz sz run f g us σ0 σ1 σ2 τ μ hkz hsz hrun hrel H locs ls hP hD hS hl
      · refine ct_topi (y := 6) ej ?_
        refine lv_tableIn (off := 304) (tgt := 336) hx hb dL_law_32 (by decide) (by decide) (by decide) (by decide) ?_
        exact law_6 hL C0 hF hK hi4 (ih (i + 4) hi4 (by omega)) kz sz run f g us σ0 σ1 σ2 τ μ hkz hsz hrun hrel H locs ls hP hD hS hl
      · refine ct_topi (y := 7) ej ?_
        refine lv_tableOut (tgt := 359) hx hb dL_law_32 (by decide) (by decide) ?_
        refine lv_iinc (v := nI (i + 4)) (lv' := [(3, .int (nI (i + 4))), (0, .ref b), (1, .ref h0), (2, .ref h9)]) hx hb dL_law_359 hl (k := 0) rfl (nI_add i 4) (by decide) rfl (fun ls hl => ?_)
        refine lv_goto (tgt := 18) hx hb dL_law_362 (by decide) ?_
        exact ih (i + 4) hi4 (by omega) kz sz run f g us σ0 σ1 σ2 τ μ hkz hsz hrun hrel H locs ls hP hD hS hl
end LAW
