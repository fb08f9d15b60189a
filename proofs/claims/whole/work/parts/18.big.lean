set_option maxHeartbeats 4000000 in
set_option maxRecDepth 100000 in
/-- BitStreams.skip, no machine -/
theorem c_bs_skipN (l : Launch) (D : va_G) (h0 kb sb ms : Nat) (rn us : Int32) (n : Int32) : Cti l D yX7_skip wsX7_skip ({ frames := 6, cells := 0, slots := 0, locals := 120 } : Room) [.ref h0, .int n] [] [(h0, .inr (6, [.ref kb, .ref sb, .ref ms, .null, .int rn, .int us]))] [(h0, .inr (6, [.ref kb, .ref sb, .ref ms, .null, .int rn, .int us]))] 0 := by
  refine ct_of (cc := cX7_skip) (maxL := 3) (ret := (some .boolean)) (by decide) rfl (Nat.le_of_ble_eq_true rfl) ?_
  intro p e s m below meth c A H locs ls hx hb hr hml hts hown hlk hnm hF hP hK hD hA hS hl
  have hown : s.vm.findClass RX7 = some m.cls := hown
  have hl : lv_has ls 3 [(0, .ref h0), (1, .int n)] := hl
  have hf_39 := hts (.fieldLink RX7 39 "BitStreams" "running" "LBitStreams$Machine;") (by decide +kernel)
  have hi_X7 : ∀ w ∈ u_ws RX7 TX7 6, w ∈ wsX7_skip := by decide +kernel
  refine lv_aload_n hx hb dX7_skip_0 rfl (lv_at hl 0 rfl) ?_
  refine va_get (D := D) (ci := 6) (v := .null) (C := RX7) (T := TX7) (N := 6) hx hb hts hi_X7 hown hK hP 0 rfl rfl 3 (by decide) hf_39 (fun _ h9 => h9) rfl dX7_skip_1 ?_
  refine lv_ifnullN (tgt := 18) hx hb dX7_skip_4 (by decide) ?_
  refine lv_iconst (v := 0) hx hb dX7_skip_18 (by decide) ?_
  exact ct_zret hx hb hr hlk hP hK hD hS rfl rfl dX7_skip_19
set_option maxHeartbeats 4000000 in
set_option maxRecDepth 100000 in
/-- BitStreams.skip, refused -/
theorem c_bs_skipF (l : Launch) (D : va_G) (h0 kb sb ms mk : Nat) (rn us : Int32) (n : Int32) (hn : ¬ (¬ n < 0 ∧ n ≤ 5000)) : Cti l D yX7_skip wsX7_skip ({ frames := 6, cells := 0, slots := 0, locals := 120 } : Room) [.ref h0, .int n] [] [(h0, .inr (6, [.ref kb, .ref sb, .ref ms, .ref mk, .int rn, .int us]))] [(h0, .inr (6, [.ref kb, .ref sb, .ref ms, .ref mk, .int rn, .int us]))] 0 := by
  refine ct_of (cc := cX7_skip) (maxL := 3) (ret := (some .boolean)) (by decide) rfl (Nat.le_of_ble_eq_true rfl) ?_
  intro p e s m below meth c A H locs ls hx hb hr hml hts hown hlk hnm hF hP hK hD hA hS hl
  have hown : s.vm.findClass RX7 = some m.cls := hown
  have hl : lv_has ls 3 [(0, .ref h0), (1, .int n)] := hl
  have hf_39 := hts (.fieldLink RX7 39 "BitStreams" "running" "LBitStreams$Machine;") (by decide +kernel)
  have hi_X7 : ∀ w ∈ u_ws RX7 TX7 6, w ∈ wsX7_skip := by decide +kernel
  refine lv_aload_n hx hb dX7_skip_0 rfl (lv_at hl 0 rfl) ?_
  refine va_get (D := D) (ci := 6) (v := .ref mk) (C := RX7) (T := TX7) (N := 6) hx hb hts hi_X7 hown hK hP 0 rfl rfl 3 (by decide) hf_39 (fun _ h9 => h9) rfl dX7_skip_1 ?_
  refine lv_ifnull hx hb dX7_skip_4 ?_
  refine lv_iload_n hx hb dX7_skip_7 rfl (lv_at hl 1 rfl) ?_
  refine lv_if_lt (tgt := 18) hx hb dX7_skip_8 (by decide) (fun c_8_1 => ?_) (fun c_8_1 => ?_)
  · refine lv_iconst (v := 0) hx hb dX7_skip_18 (by decide) ?_
    exact ct_zret hx hb hr hlk hP hK hD hS rfl rfl dX7_skip_19
  · refine lv_iload_n hx hb dX7_skip_11 rfl (lv_at hl 1 rfl) ?_
    refine lv_sipush (v := 5000) hx hb dX7_skip_12 (by decide) ?_
    refine lv_icmp_le (tgt := 20) hx hb dX7_skip_15 (by decide) (fun hh => absurd hh (fun hle => hn ⟨c_8_1, hle⟩)) (fun _ => ?_)
    refine lv_iconst (v := 0) hx hb dX7_skip_18 (by decide) ?_
    exact ct_zret hx hb hr hlk hP hK hD hS rfl rfl dX7_skip_19
set_option maxHeartbeats 4000000 in
set_option maxRecDepth 100000 in
/-- BitStreams.mix, no machine -/
theorem c_bs_mixN (l : Launch) (D : va_G) (h0 kb sb ms : Nat) (rn us : Int32) (v : Int64) (n : Int32) : Ctl l D yX7_mix wsX7_mix ({ frames := 6, cells := 0, slots := 0, locals := 120 } : Room) [.ref h0, .long v, .int n] [] [(h0, .inr (6, [.ref kb, .ref sb, .ref ms, .null, .int rn, .int us]))] [(h0, .inr (6, [.ref kb, .ref sb, .ref ms, .null, .int rn, .int us]))] 0 := by
  refine ct_of (cc := cX7_mix) (maxL := 8) (ret := (some .long)) (by decide) rfl (Nat.le_of_ble_eq_true rfl) ?_
  intro p e s m below meth c A H locs ls hx hb hr hml hts hown hlk hnm hF hP hK hD hA hS hl
  have hown : s.vm.findClass RX7 = some m.cls := hown
  have hl : lv_has ls 8 [(0, .ref h0), (1, .long v), (3, .int n)] := hl
  have hf_39 := hts (.fieldLink RX7 39 "BitStreams" "running" "LBitStreams$Machine;") (by decide +kernel)
  have hi_X7 : ∀ w ∈ u_ws RX7 TX7 6, w ∈ wsX7_mix := by decide +kernel
  refine lv_aload_n hx hb dX7_mix_0 rfl (lv_at hl 0 rfl) ?_
  refine va_get (D := D) (ci := 6) (v := .null) (C := RX7) (T := TX7) (N := 6) hx hb hts hi_X7 hown hK hP 0 rfl rfl 3 (by decide) hf_39 (fun _ h9 => h9) rfl dX7_mix_1 ?_
  refine lv_ifnullN (tgt := 18) hx hb dX7_mix_4 (by decide) ?_
  refine lv_lconst (v := 0) hx hb dX7_mix_18 (by decide) ?_
  exact ct_lret hx hb hr hlk hP hK hD hS rfl dX7_mix_19
set_option maxHeartbeats 4000000 in
set_option maxRecDepth 100000 in
/-- BitStreams.mix, refused -/
theorem c_bs_mixF (l : Launch) (D : va_G) (h0 kb sb ms mk : Nat) (rn us : Int32) (v : Int64) (n : Int32) (hn : ¬ (¬ n < 1 ∧ n ≤ 64)) : Ctl l D yX7_mix wsX7_mix ({ frames := 6, cells := 0, slots := 0, locals := 120 } : Room) [.ref h0, .long v, .int n] [] [(h0, .inr (6, [.ref kb, .ref sb, .ref ms, .ref mk, .int rn, .int us]))] [(h0, .inr (6, [.ref kb, .ref sb, .ref ms, .ref mk, .int rn, .int us]))] 0 := by
  refine ct_of (cc := cX7_mix) (maxL := 8) (ret := (some .long)) (by decide) rfl (Nat.le_of_ble_eq_true rfl) ?_
  intro p e s m below meth c A H locs ls hx hb hr hml hts hown hlk hnm hF hP hK hD hA hS hl
  have hown : s.vm.findClass RX7 = some m.cls := hown
  have hl : lv_has ls 8 [(0, .ref h0), (1, .long v), (3, .int n)] := hl
  have hf_39 := hts (.fieldLink RX7 39 "BitStreams" "running" "LBitStreams$Machine;") (by decide +kernel)
  have hi_X7 : ∀ w ∈ u_ws RX7 TX7 6, w ∈ wsX7_mix := by decide +kernel
  refine lv_aload_n hx hb dX7_mix_0 rfl (lv_at hl 0 rfl) ?_
  refine va_get (D := D) (ci := 6) (v := .ref mk) (C := RX7) (T := TX7) (N := 6) hx hb hts hi_X7 hown hK hP 0 rfl rfl 3 (by decide) hf_39 (fun _ h9 => h9) rfl dX7_mix_1 ?_
  refine lv_ifnull hx hb dX7_mix_4 ?_
  refine lv_iload_n hx hb dX7_mix_7 rfl (lv_at hl 2 rfl) ?_
  refine lv_iconst (v := 1) hx hb dX7_mix_8 (by decide) ?_
  refine lv_icmp_lt (tgt := 18) hx hb dX7_mix_9 (by decide) (fun c_9_1 => ?_) (fun c_9_1 => ?_)
  · refine lv_lconst (v := 0) hx hb dX7_mix_18 (by decide) ?_
    exact ct_lret hx hb hr hlk hP hK hD hS rfl dX7_mix_19
  · refine lv_iload_n hx hb dX7_mix_12 rfl (lv_at hl 2 rfl) ?_
    refine lv_bipush (v := 64) hx hb dX7_mix_13 (by decide) ?_
    refine lv_icmp_le (tgt := 20) hx hb dX7_mix_15 (by decide) (fun hh => absurd hh (fun hle => hn ⟨c_9_1, hle⟩)) (fun _ => ?_)
    refine lv_lconst (v := 0) hx hb dX7_mix_18 (by decide) ?_
    exact ct_lret hx hb hr hlk hP hK hD hS rfl dX7_mix_19
set_option maxHeartbeats 4000000 in
set_option maxRecDepth 100000 in
/-- BitStreams.skip, machine 0 -/
theorem c_bs_skip0 (l : Launch) (D : va_G) (h0 kb sb ms m0 r1 r2 r3 : Nat) (rn us : Int32) (σ : R6) (n : Nat) (hn : n ≤ 5000) : Cti l D yX7_skip wsX7_skip ({ frames := 6, cells := 0, slots := 0, locals := 120 } : Room) [.ref h0, .int (nI n)] [] [(h0, .inr (6, [.ref kb, .ref sb, .ref ms, .ref m0, .int rn, .int us])), (m0, .inr (3, [.ref r1, .ref r2, .ref r3])), (r1, .inr (1, [.long σ.1.1, .long σ.1.2])), (r2, .inr (1, [.long σ.2.1.1, .long σ.2.1.2])), (r3, .inr (1, [.long σ.2.2.1, .long σ.2.2.2]))] [(h0, .inr (6, [.ref kb, .ref sb, .ref ms, .ref m0, .int rn, .int (us + nI n)])), (m0, .inr (3, [.ref r1, .ref r2, .ref r3])), (r1, .inr (1, [.long (((mit tr_step σ n).1).1), .long (((mit tr_step σ n).1).2)])), (r2, .inr (1, [.long (((mit tr_step σ n).2.1).1), .long (((mit tr_step σ n).2.1).2)])), (r3, .inr (1, [.long (((mit tr_step σ n).2.2).1), .long (((mit tr_step σ n).2.2).2)]))] 1 := by
  refine ct_of (cc := cX7_skip) (maxL := 3) (ret := (some .boolean)) (by decide) rfl (Nat.le_of_ble_eq_true rfl) ?_
  intro p e s m below meth c A H locs ls hx hb hr hml hts hown hlk hnm hF hP hK hD hA hS hl
  have hown : s.vm.findClass RX7 = some m.cls := hown
  have hl : lv_has ls 3 [(0, .ref h0), (1, .int (nI n))] := hl
  have hf_39 := hts (.fieldLink RX7 39 "BitStreams" "running" "LBitStreams$Machine;") (by decide +kernel)
  have hi_X7 : ∀ w ∈ u_ws RX7 TX7 6, w ∈ wsX7_skip := by decide +kernel
  have cw_X4_nextBit := va_cwA (R := ({ frames := 6, cells := 0, slots := 0, locals := 120 } : Room)) (rm := ({ frames := 1, cells := 0, slots := 0, locals := 21 } : Room)) 0 hts gX7_skip_X4_nextBit_u73X4 rfl rfl rfl hF.1.2.2 (by decide +kernel) ⟨Nat.le_of_ble_eq_true rfl, Nat.le_of_ble_eq_true rfl⟩
  have hf_47 := hts (.fieldLink RX7 47 "BitStreams" "used" "I") (by decide +kernel)
  refine lv_aload_n hx hb dX7_skip_0 rfl (lv_at hl 0 rfl) ?_
  refine va_get (D := D) (ci := 6) (v := .ref m0) (C := RX7) (T := TX7) (N := 6) hx hb hts hi_X7 hown hK hP 0 rfl rfl 3 (by decide) hf_39 (fun _ h9 => h9) rfl dX7_skip_1 ?_
  refine lv_ifnull hx hb dX7_skip_4 ?_
  refine lv_iload_n hx hb dX7_skip_7 rfl (lv_at hl 1 rfl) ?_
  refine lv_if_lt (tgt := 18) hx hb dX7_skip_8 (by decide) (fun hh => absurd hh (nI_pos (by omega))) (fun _ => ?_)
  refine lv_iload_n hx hb dX7_skip_11 rfl (lv_at hl 1 rfl) ?_
  refine lv_sipush (v := 5000) hx hb dX7_skip_12 (by decide) ?_
  refine lv_icmp_le (tgt := 20) hx hb dX7_skip_15 (by decide) (fun _ => ?_) (fun hh => absurd (nI_le hn (by decide)) hh)
  refine lv_iconst (v := 0) hx hb dX7_skip_20 (by decide) ?_
  refine lv_istore_n (lv' := [(2, .int 0), (0, .ref h0), (1, .int (nI n))]) hx hb dX7_skip_21 rfl hl (by decide) rfl (fun ls hl => ?_)
  refine ct_count n (fun k : Nat => [(h0, .inr (6, [.ref kb, .ref sb, .ref ms, .ref m0, .int rn, .int us])), (m0, .inr (3, [.ref r1, .ref r2, .ref r3])), (r1, .inr (1, [.long (((mit tr_step σ k).1).1), .long (((mit tr_step σ k).1).2)])), (r2, .inr (1, [.long (((mit tr_step σ k).2.1).1), .long (((mit tr_step σ k).2.1).2)])), (r3, .inr (1, [.long (((mit tr_step σ k).2.2).1), .long (((mit tr_step σ k).2.2).2)]))]) (fun k : Nat => [(2, .int (nI k)), (0, .ref h0), (1, .int (nI n))]) ?_ ?_ 0 (Nat.zero_le _) hP hD hS (lv_sub hl [0, 1, 2] rfl)
  · intro k hk ih22 H locs ls hP hD hS hl
    have hP : va_P D vwCl [(h0, .inr (6, [.ref kb, .ref sb, .ref ms, .ref m0, .int rn, .int us])), (m0, .inr (3, [.ref r1, .ref r2, .ref r3])), (r1, .inr (1, [.long (((mit tr_step σ k).1).1), .long (((mit tr_step σ k).1).2)])), (r2, .inr (1, [.long (((mit tr_step σ k).2.1).1), .long (((mit tr_step σ k).2.1).2)])), (r3, .inr (1, [.long (((mit tr_step σ k).2.2).1), .long (((mit tr_step σ k).2.2).2)]))] H := hP
    have hD : va_D A [(h0, .inr (6, [.ref kb, .ref sb, .ref ms, .ref m0, .int rn, .int us])), (m0, .inr (3, [.ref r1, .ref r2, .ref r3])), (r1, .inr (1, [.long (((mit tr_step σ k).1).1), .long (((mit tr_step σ k).1).2)])), (r2, .inr (1, [.long (((mit tr_step σ k).2.1).1), .long (((mit tr_step σ k).2.1).2)])), (r3, .inr (1, [.long (((mit tr_step σ k).2.2).1), .long (((mit tr_step σ k).2.2).2)]))] := hD
    have hl : lv_has ls 3 [(2, .int (nI k)), (0, .ref h0), (1, .int (nI n))] := hl
    refine lv_iload_n hx hb dX7_skip_22 rfl (lv_at hl 0 rfl) ?_
    refine lv_iload_n hx hb dX7_skip_23 rfl (lv_at hl 2 rfl) ?_
    refine lv_icmp_ge (tgt := 41) hx hb dX7_skip_24 (by decide) (fun hh => absurd hh (nI_ge hk (by omega))) (fun _ => ?_)
    refine lv_aload_n hx hb dX7_skip_27 rfl (lv_at hl 1 rfl) ?_
    refine va_get (D := D) (ci := 6) (v := .ref m0) (C := RX7) (T := TX7) (N := 6) hx hb hts hi_X7 hown hK hP 0 rfl rfl 3 (by decide) hf_39 (fun _ h9 => h9) rfl dX7_skip_28 ?_
    refine ct_callUi (As := []) (rest := []) (wr := [(h0, .inr (6, [.ref kb, .ref sb, .ref ms, .ref m0, .int rn, .int us]))]) (ws2 := [(h0, .inr (6, [.ref kb, .ref sb, .ref ms, .ref m0, .int rn, .int us])), (m0, .inr (3, [.ref r1, .ref r2, .ref r3])), (r1, .inr (1, [.long (((tr_step (mit tr_step σ k)).1).1), .long (((tr_step (mit tr_step σ k)).1).2)])), (r2, .inr (1, [.long (((tr_step (mit tr_step σ k)).2.1).1), .long (((tr_step (mit tr_step σ k)).2.1).2)])), (r3, .inr (1, [.long (((tr_step (mit tr_step σ k)).2.2).1), .long (((tr_step (mit tr_step σ k)).2.2).2)]))]) ⟨hx, hb, hml, hown, hts⟩ (c_tr_next l D m0 r1 r2 r3 (mit tr_step σ k)) cw_X4_nextBit [] rfl [1, 2, 3, 4] [0] [0, 1, 2, 3, 4] hF hK hP hD hS hA 0 3 rfl rfl rfl rfl (by decide) rfl (by decide) (by decide) rfl (by decide) rfl hl.1 rfl (Nat.le_of_ble_eq_true rfl) dX7_skip_31 ⟨Nat.zero_le _, Nat.zero_le _⟩ (fun H locs hP hD hS => ?_)
    refine lv_pop hx hb dX7_skip_34 rfl ?_
    refine lv_iinc (v := nI (k + 1)) (lv' := [(2, .int (nI (k + 1))), (0, .ref h0), (1, .int (nI n))]) hx hb dX7_skip_35 hl (k := 0) rfl (ct_inc k) (by decide) rfl (fun ls hl => ?_)
    refine lv_goto (tgt := 22) hx hb dX7_skip_38 (by decide) ?_
    exact ih22 H locs ls hP hD hS (lv_sub hl [0, 1, 2] rfl)
  · intro H locs ls hP hD hS hl
    have hP : va_P D vwCl [(h0, .inr (6, [.ref kb, .ref sb, .ref ms, .ref m0, .int rn, .int us])), (m0, .inr (3, [.ref r1, .ref r2, .ref r3])), (r1, .inr (1, [.long (((mit tr_step σ n).1).1), .long (((mit tr_step σ n).1).2)])), (r2, .inr (1, [.long (((mit tr_step σ n).2.1).1), .long (((mit tr_step σ n).2.1).2)])), (r3, .inr (1, [.long (((mit tr_step σ n).2.2).1), .long (((mit tr_step σ n).2.2).2)]))] H := hP
    have hD : va_D A [(h0, .inr (6, [.ref kb, .ref sb, .ref ms, .ref m0, .int rn, .int us])), (m0, .inr (3, [.ref r1, .ref r2, .ref r3])), (r1, .inr (1, [.long (((mit tr_step σ n).1).1), .long (((mit tr_step σ n).1).2)])), (r2, .inr (1, [.long (((mit tr_step σ n).2.1).1), .long (((mit tr_step σ n).2.1).2)])), (r3, .inr (1, [.long (((mit tr_step σ n).2.2).1), .long (((mit tr_step σ n).2.2).2)]))] := hD
    have hl : lv_has ls 3 [(2, .int (nI n)), (0, .ref h0), (1, .int (nI n))] := hl
    refine lv_iload_n hx hb dX7_skip_22 rfl (lv_at hl 0 rfl) ?_
    refine lv_iload_n hx hb dX7_skip_23 rfl (lv_at hl 2 rfl) ?_
    refine lv_icmp_ge (tgt := 41) hx hb dX7_skip_24 (by decide) (fun _ => ?_) (fun hh => absurd (Int32.le_refl _) hh)
    refine lv_aload_n hx hb dX7_skip_41 rfl (lv_at hl 1 rfl) ?_
    refine lv_dup hx hb dX7_skip_42 rfl ?_
    refine va_get (D := D) (ci := 6) (v := .int us) (C := RX7) (T := TX7) (N := 6) hx hb hts hi_X7 hown hK hP 0 rfl rfl 5 (by decide) hf_47 (fun _ h9 => h9) rfl dX7_skip_43 ?_
    refine lv_iload_n hx hb dX7_skip_46 rfl (lv_at hl 2 rfl) ?_
    refine lv_iadd hx hb dX7_skip_47 ?_
    refine va_put (D := D) (ci := 6) (v := .int (us + (nI n))) (ty := .int) (C := RX7) (T := TX7) (N := 6) hx hb hts hi_X7 tyX7 tyX7_ok nmX7 hown hK hP hD hS 0 rfl rfl 5 (by decide) hf_47 (fun _ h9 => h9) rfl (by decide +kernel) rfl rfl (Nat.le_of_ble_eq_true rfl) dX7_skip_48 (fun H locs hP hD hS => ?_)
    have hP : va_P D vwCl [(h0, .inr (6, [.ref kb, .ref sb, .ref ms, .ref m0, .int rn, .int (us + (nI n))])), (m0, .inr (3, [.ref r1, .ref r2, .ref r3])), (r1, .inr (1, [.long (((mit tr_step σ n).1).1), .long (((mit tr_step σ n).1).2)])), (r2, .inr (1, [.long (((mit tr_step σ n).2.1).1), .long (((mit tr_step σ n).2.1).2)])), (r3, .inr (1, [.long (((mit tr_step σ n).2.2).1), .long (((mit tr_step σ n).2.2).2)]))] H := hP
    have hD : va_D A [(h0, .inr (6, [.ref kb, .ref sb, .ref ms, .ref m0, .int rn, .int (us + (nI n))])), (m0, .inr (3, [.ref r1, .ref r2, .ref r3])), (r1, .inr (1, [.long (((mit tr_step σ n).1).1), .long (((mit tr_step σ n).1).2)])), (r2, .inr (1, [.long (((mit tr_step σ n).2.1).1), .long (((mit tr_step σ n).2.1).2)])), (r3, .inr (1, [.long (((mit tr_step σ n).2.2).1), .long (((mit tr_step σ n).2.2).2)]))] := hD
    refine lv_iconst (v := 1) hx hb dX7_skip_51 (by decide) ?_
    exact ct_zret hx hb hr hlk hP hK hD hS rfl rfl dX7_skip_52
set_option maxHeartbeats 4000000 in
set_option maxRecDepth 100000 in
/-- BitStreams.mix, machine 0 -/
theorem c_bs_mix0 (l : Launch) (D : va_G) (h0 kb sb ms m0 r1 r2 r3 : Nat) (rn us : Int32) (σ : R6) (v : Int64) (n : Nat) (hn1 : 1 ≤ n) (hn : n ≤ 64) : Ctl l D yX7_mix wsX7_mix ({ frames := 6, cells := 0, slots := 0, locals := 120 } : Room) [.ref h0, .long v, .int (nI n)] [] [(h0, .inr (6, [.ref kb, .ref sb, .ref ms, .ref m0, .int rn, .int us])), (m0, .inr (3, [.ref r1, .ref r2, .ref r3])), (r1, .inr (1, [.long σ.1.1, .long σ.1.2])), (r2, .inr (1, [.long σ.2.1.1, .long σ.2.1.2])), (r3, .inr (1, [.long σ.2.2.1, .long σ.2.2.2]))] [(h0, .inr (6, [.ref kb, .ref sb, .ref ms, .ref m0, .int rn, .int (us + nI n)])), (m0, .inr (3, [.ref r1, .ref r2, .ref r3])), (r1, .inr (1, [.long (((mit tr_step σ n).1).1), .long (((mit tr_step σ n).1).2)])), (r2, .inr (1, [.long (((mit tr_step σ n).2.1).1), .long (((mit tr_step σ n).2.1).2)])), (r3, .inr (1, [.long (((mit tr_step σ n).2.2).1), .long (((mit tr_step σ n).2.2).2)]))] (mmx v n (mst tr_step tr_out σ n)) := by
  refine ct_of (cc := cX7_mix) (maxL := 8) (ret := (some .long)) (by decide) rfl (Nat.le_of_ble_eq_true rfl) ?_
  intro p e s m below meth c A H locs ls hx hb hr hml hts hown hlk hnm hF hP hK hD hA hS hl
  have hown : s.vm.findClass RX7 = some m.cls := hown
  have hl : lv_has ls 8 [(0, .ref h0), (1, .long v), (3, .int (nI n))] := hl
  have hf_39 := hts (.fieldLink RX7 39 "BitStreams" "running" "LBitStreams$Machine;") (by decide +kernel)
  have hi_X7 : ∀ w ∈ u_ws RX7 TX7 6, w ∈ wsX7_mix := by decide +kernel
  have cw_X4_nextBit := va_cwA (R := ({ frames := 6, cells := 0, slots := 0, locals := 120 } : Room)) (rm := ({ frames := 1, cells := 0, slots := 0, locals := 21 } : Room)) 0 hts gX7_mix_X4_nextBit_u73X4 rfl rfl rfl hF.1.2.2 (by decide +kernel) ⟨Nat.le_of_ble_eq_true rfl, Nat.le_of_ble_eq_true rfl⟩
  have hf_47 := hts (.fieldLink RX7 47 "BitStreams" "used" "I") (by decide +kernel)
  have hc_76 := hts (.constantLong RX7 76 (-1)) (by decide +kernel)
  refine lv_aload_n hx hb dX7_mix_0 rfl (lv_at hl 0 rfl) ?_
  refine va_get (D := D) (ci := 6) (v := .ref m0) (C := RX7) (T := TX7) (N := 6) hx hb hts hi_X7 hown hK hP 0 rfl rfl 3 (by decide) hf_39 (fun _ h9 => h9) rfl dX7_mix_1 ?_
  refine lv_ifnull hx hb dX7_mix_4 ?_
  refine lv_iload_n hx hb dX7_mix_7 rfl (lv_at hl 2 rfl) ?_
  refine lv_iconst (v := 1) hx hb dX7_mix_8 (by decide) ?_
  refine lv_icmp_lt (tgt := 18) hx hb dX7_mix_9 (by decide) (fun hh => absurd hh (nI_nlt (a := n) (b := 1) hn1 (by omega))) (fun _ => ?_)
  refine lv_iload_n hx hb dX7_mix_12 rfl (lv_at hl 2 rfl) ?_
  refine lv_bipush (v := 64) hx hb dX7_mix_13 (by decide) ?_
  refine lv_icmp_le (tgt := 20) hx hb dX7_mix_15 (by decide) (fun _ => ?_) (fun hh => absurd (nI_le (b := 64) hn (by decide)) hh)
  refine lv_lconst (v := 0) hx hb dX7_mix_20 (by decide) ?_
  refine lv_lstore (lv' := [(4, .long 0), (0, .ref h0), (1, .long v), (3, .int (nI n))]) hx hb dX7_mix_21 hl (by decide) rfl (fun ls hl => ?_)
  refine lv_iconst (v := 0) hx hb dX7_mix_23 (by decide) ?_
  refine lv_istore (lv' := [(6, .int 0), (4, .long 0), (0, .ref h0), (1, .long v), (3, .int (nI n))]) hx hb dX7_mix_24 hl (by decide) rfl (fun ls hl => ?_)
  refine ct_count n (fun k : Nat => [(h0, .inr (6, [.ref kb, .ref sb, .ref ms, .ref m0, .int rn, .int us])), (m0, .inr (3, [.ref r1, .ref r2, .ref r3])), (r1, .inr (1, [.long (((mit tr_step σ k).1).1), .long (((mit tr_step σ k).1).2)])), (r2, .inr (1, [.long (((mit tr_step σ k).2.1).1), .long (((mit tr_step σ k).2.1).2)])), (r3, .inr (1, [.long (((mit tr_step σ k).2.2).1), .long (((mit tr_step σ k).2.2).2)]))]) (fun k : Nat => [(6, .int (nI k)), (4, .long (mst tr_step tr_out σ k)), (0, .ref h0), (1, .long v), (3, .int (nI n))]) ?_ ?_ 0 (Nat.zero_le _) hP hD hS (lv_sub hl [0, 1, 2, 3, 4] rfl)
  · intro k hk ih26 H locs ls hP hD hS hl
    have hP : va_P D vwCl [(h0, .inr (6, [.ref kb, .ref sb, .ref ms, .ref m0, .int rn, .int us])), (m0, .inr (3, [.ref r1, .ref r2, .ref r3])), (r1, .inr (1, [.long (((mit tr_step σ k).1).1), .long (((mit tr_step σ k).1).2)])), (r2, .inr (1, [.long (((mit tr_step σ k).2.1).1), .long (((mit tr_step σ k).2.1).2)])), (r3, .inr (1, [.long (((mit tr_step σ k).2.2).1), .long (((mit tr_step σ k).2.2).2)]))] H := hP
    have hD : va_D A [(h0, .inr (6, [.ref kb, .ref sb, .ref ms, .ref m0, .int rn, .int us])), (m0, .inr (3, [.ref r1, .ref r2, .ref r3])), (r1, .inr (1, [.long (((mit tr_step σ k).1).1), .long (((mit tr_step σ k).1).2)])), (r2, .inr (1, [.long (((mit tr_step σ k).2.1).1), .long (((mit tr_step σ k).2.1).2)])), (r3, .inr (1, [.long (((mit tr_step σ k).2.2).1), .long (((mit tr_step σ k).2.2).2)]))] := hD
    have hl : lv_has ls 8 [(6, .int (nI k)), (4, .long (mst tr_step tr_out σ k)), (0, .ref h0), (1, .long v), (3, .int (nI n))] := hl
    refine lv_iload hx hb dX7_mix_26 (lv_at hl 0 rfl) ?_
    refine lv_iload_n hx hb dX7_mix_28 rfl (lv_at hl 4 rfl) ?_
    refine lv_icmp_ge (tgt := 53) hx hb dX7_mix_29 (by decide) (fun hh => absurd hh (nI_ge hk (by omega))) (fun _ => ?_)
    refine lv_lload hx hb dX7_mix_32 (lv_at hl 1 rfl) ?_
    refine lv_iconst (v := 1) hx hb dX7_mix_34 (by decide) ?_
    refine lv_lshl (v := lL (mst tr_step tr_out σ k) 1) hx hb dX7_mix_35 rfl ?_
    refine lv_aload_n hx hb dX7_mix_36 rfl (lv_at hl 2 rfl) ?_
    refine va_get (D := D) (ci := 6) (v := .ref m0) (C := RX7) (T := TX7) (N := 6) hx hb hts hi_X7 hown hK hP 0 rfl rfl 3 (by decide) hf_39 (fun _ h9 => h9) rfl dX7_mix_37 ?_
    refine ct_callUi (As := []) (rest := [.long (lL (mst tr_step tr_out σ k) 1)]) (wr := [(h0, .inr (6, [.ref kb, .ref sb, .ref ms, .ref m0, .int rn, .int us]))]) (ws2 := [(h0, .inr (6, [.ref kb, .ref sb, .ref ms, .ref m0, .int rn, .int us])), (m0, .inr (3, [.ref r1, .ref r2, .ref r3])), (r1, .inr (1, [.long (((tr_step (mit tr_step σ k)).1).1), .long (((tr_step (mit tr_step σ k)).1).2)])), (r2, .inr (1, [.long (((tr_step (mit tr_step σ k)).2.1).1), .long (((tr_step (mit tr_step σ k)).2.1).2)])), (r3, .inr (1, [.long (((tr_step (mit tr_step σ k)).2.2).1), .long (((tr_step (mit tr_step σ k)).2.2).2)]))]) ⟨hx, hb, hml, hown, hts⟩ (c_tr_next l D m0 r1 r2 r3 (mit tr_step σ k)) cw_X4_nextBit [] rfl [1, 2, 3, 4] [0] [0, 1, 2, 3, 4] hF hK hP hD hS hA 0 3 rfl rfl rfl rfl (by decide) rfl (by decide) (by decide) rfl (by decide) rfl hl.1 rfl (Nat.le_of_ble_eq_true rfl) dX7_mix_40 ⟨Nat.zero_le _, Nat.zero_le _⟩ (fun H locs hP hD hS => ?_)
    refine lv_i2l hx hb dX7_mix_43 rfl ?_
    refine lv_lor hx hb dX7_mix_44 ?_
    refine lv_lstore (lv' := [(4, .long ((lL (mst tr_step tr_out σ k) 1) ||| ((tr_out (mit tr_step σ k)).toInt64))), (6, .int (nI k)), (0, .ref h0), (1, .long v), (3, .int (nI n))]) hx hb dX7_mix_45 hl (by decide) rfl (fun ls hl => ?_)
    refine lv_iinc (v := nI (k + 1)) (lv' := [(6, .int (nI (k + 1))), (4, .long ((lL (mst tr_step tr_out σ k) 1) ||| ((tr_out (mit tr_step σ k)).toInt64))), (0, .ref h0), (1, .long v), (3, .int (nI n))]) hx hb dX7_mix_47 hl (k := 1) rfl (ct_inc k) (by decide) rfl (fun ls hl => ?_)
    refine lv_goto (tgt := 26) hx hb dX7_mix_50 (by decide) ?_
    exact ih26 H locs ls hP hD hS (lv_sub hl [0, 1, 2, 3, 4] rfl)
  · intro H locs ls hP hD hS hl
    have hP : va_P D vwCl [(h0, .inr (6, [.ref kb, .ref sb, .ref ms, .ref m0, .int rn, .int us])), (m0, .inr (3, [.ref r1, .ref r2, .ref r3])), (r1, .inr (1, [.long (((mit tr_step σ n).1).1), .long (((mit tr_step σ n).1).2)])), (r2, .inr (1, [.long (((mit tr_step σ n).2.1).1), .long (((mit tr_step σ n).2.1).2)])), (r3, .inr (1, [.long (((mit tr_step σ n).2.2).1), .long (((mit tr_step σ n).2.2).2)]))] H := hP
    have hD : va_D A [(h0, .inr (6, [.ref kb, .ref sb, .ref ms, .ref m0, .int rn, .int us])), (m0, .inr (3, [.ref r1, .ref r2, .ref r3])), (r1, .inr (1, [.long (((mit tr_step σ n).1).1), .long (((mit tr_step σ n).1).2)])), (r2, .inr (1, [.long (((mit tr_step σ n).2.1).1), .long (((mit tr_step σ n).2.1).2)])), (r3, .inr (1, [.long (((mit tr_step σ n).2.2).1), .long (((mit tr_step σ n).2.2).2)]))] := hD
    have hl : lv_has ls 8 [(6, .int (nI n)), (4, .long (mst tr_step tr_out σ n)), (0, .ref h0), (1, .long v), (3, .int (nI n))] := hl
    refine lv_iload hx hb dX7_mix_26 (lv_at hl 0 rfl) ?_
    refine lv_iload_n hx hb dX7_mix_28 rfl (lv_at hl 4 rfl) ?_
    refine lv_icmp_ge (tgt := 53) hx hb dX7_mix_29 (by decide) (fun _ => ?_) (fun hh => absurd (Int32.le_refl _) hh)
    refine lv_aload_n hx hb dX7_mix_53 rfl (lv_at hl 2 rfl) ?_
    refine lv_dup hx hb dX7_mix_54 rfl ?_
    refine va_get (D := D) (ci := 6) (v := .int us) (C := RX7) (T := TX7) (N := 6) hx hb hts hi_X7 hown hK hP 0 rfl rfl 5 (by decide) hf_47 (fun _ h9 => h9) rfl dX7_mix_55 ?_
    refine lv_iload_n hx hb dX7_mix_58 rfl (lv_at hl 4 rfl) ?_
    refine lv_iadd hx hb dX7_mix_59 ?_
    refine va_put (D := D) (ci := 6) (v := .int (us + (nI n))) (ty := .int) (C := RX7) (T := TX7) (N := 6) hx hb hts hi_X7 tyX7 tyX7_ok nmX7 hown hK hP hD hS 0 rfl rfl 5 (by decide) hf_47 (fun _ h9 => h9) rfl (by decide +kernel) rfl rfl (Nat.le_of_ble_eq_true rfl) dX7_mix_60 (fun H locs hP hD hS => ?_)
    have hP : va_P D vwCl [(h0, .inr (6, [.ref kb, .ref sb, .ref ms, .ref m0, .int rn, .int (us + (nI n))])), (m0, .inr (3, [.ref r1, .ref r2, .ref r3])), (r1, .inr (1, [.long (((mit tr_step σ n).1).1), .long (((mit tr_step σ n).1).2)])), (r2, .inr (1, [.long (((mit tr_step σ n).2.1).1), .long (((mit tr_step σ n).2.1).2)])), (r3, .inr (1, [.long (((mit tr_step σ n).2.2).1), .long (((mit tr_step σ n).2.2).2)]))] H := hP
    have hD : va_D A [(h0, .inr (6, [.ref kb, .ref sb, .ref ms, .ref m0, .int rn, .int (us + (nI n))])), (m0, .inr (3, [.ref r1, .ref r2, .ref r3])), (r1, .inr (1, [.long (((mit tr_step σ n).1).1), .long (((mit tr_step σ n).1).2)])), (r2, .inr (1, [.long (((mit tr_step σ n).2.1).1), .long (((mit tr_step σ n).2.1).2)])), (r3, .inr (1, [.long (((mit tr_step σ n).2.2).1), .long (((mit tr_step σ n).2.2).2)]))] := hD
    refine lv_ldc2 (v := (-1)) hx hb hown hc_76 dX7_mix_63 ?_
    refine lv_bipush (v := 64) hx hb dX7_mix_66 (by decide) ?_
    refine lv_iload_n hx hb dX7_mix_68 rfl (lv_at hl 4 rfl) ?_
    refine lv_isub hx hb dX7_mix_69 ?_
    refine lv_lushr (v := lU (-1) (64 - (nI n))) hx hb dX7_mix_70 rfl ?_
    refine lv_lstore (lv' := [(6, .long (lU (-1) (64 - (nI n)))), (4, .long (mst tr_step tr_out σ n)), (0, .ref h0), (1, .long v), (3, .int (nI n))]) hx hb dX7_mix_71 hl (by decide) rfl (fun ls hl => ?_)
    refine lv_lload_n hx hb dX7_mix_73 rfl (lv_at hl 3 rfl) ?_
    refine lv_lload hx hb dX7_mix_74 (lv_at hl 0 rfl) ?_
    refine lv_land hx hb dX7_mix_76 ?_
    refine lv_lload hx hb dX7_mix_77 (lv_at hl 1 rfl) ?_
    refine lv_lxor hx hb dX7_mix_79 ?_
    exact ct_lret hx hb hr hlk hP hK hD hS rfl dX7_mix_80
set_option maxHeartbeats 4000000 in
set_option maxRecDepth 100000 in
/-- BitStreams.begin(0) -/
theorem c_bs_begin0F (l : Launch) (D : va_G) (h0 kb sb ms kq sq m0 m1 m2 m3 r1 r2 r3 : Nat) (rv : Value) (rn us : Int32) (kA sA mA : ClassId) (kz sz : Nat) (hkz : kz ≤ 32) (hsz : sz ≤ 12) (f g : Nat → Int32) (σ : R6) (ht : tk 10 10 (nI kz) (nI sz) = 0) : Cti l D yX7_begin wsX7_begin ({ frames := 6, cells := 0, slots := 0, locals := 120 } : Room) [.ref h0, .int 0] [(kA, .int), (sA, .int), (mA, .object "BitStreams$Machine")] [(h0, .inr (6, [.ref kb, .ref sb, .ref ms, rv, .int rn, .int us])), (ms, .inl (mA, 4, .inr (.inr (.inr (.inr (bs_ms m0 m1 m2 m3)))))), (kb, .inr (0, [.ref kq, .int (nI kz)])), (kq, .inl (kA, 32, .inl f)), (sb, .inr (0, [.ref sq, .int (nI sz)])), (sq, .inl (sA, 12, .inl g)), (m0, .inr (3, [.ref r1, .ref r2, .ref r3])), (r1, .inr (1, [.long σ.1.1, .long σ.1.2])), (r2, .inr (1, [.long σ.2.1.1, .long σ.2.1.2])), (r3, .inr (1, [.long σ.2.2.1, .long σ.2.2.2]))] [(h0, .inr (6, [.ref kb, .ref sb, .ref ms, rv, .int rn, .int us])), (ms, .inl (mA, 4, .inr (.inr (.inr (.inr (bs_ms m0 m1 m2 m3)))))), (kb, .inr (0, [.ref kq, .int (nI kz)])), (kq, .inl (kA, 32, .inl f)), (sb, .inr (0, [.ref sq, .int (nI sz)])), (sq, .inl (sA, 12, .inl g)), (m0, .inr (3, [.ref r1, .ref r2, .ref r3])), (r1, .inr (1, [.long σ.1.1, .long σ.1.2])), (r2, .inr (1, [.long σ.2.1.1, .long σ.2.1.2])), (r3, .inr (1, [.long σ.2.2.1, .long σ.2.2.2]))] 0 := by
  refine ct_of (cc := cX7_begin) (maxL := 3) (ret := (some .boolean)) (by decide) rfl (Nat.le_of_ble_eq_true rfl) ?_
  intro p e s m below meth c A H locs ls hx hb hr hml hts hown hlk hnm hF hP hK hD hA hS hl
  have hown : s.vm.findClass RX7 = some m.cls := hown
  have hl : lv_has ls 3 [(0, .ref h0), (1, .int 0)] := hl
  have hf_35 := hts (.fieldLink RX7 35 "BitStreams" "machines" "[LBitStreams$Machine;") (by decide +kernel)
  have hi_X7 : ∀ w ∈ u_ws RX7 TX7 6, w ∈ wsX7_begin := by decide +kernel
  have hf_14 := hts (.fieldLink RX7 14 "BitStreams" "keyBytes" "LBitStreams$Bytes;") (by decide +kernel)
  have cw_X0_size := cwV (R := ({ frames := 6, cells := 0, slots := 0, locals := 120 } : Room)) (rm := ({ frames := 0, cells := 0, slots := 0, locals := 0 } : Room)) 0 hts gX7_begin_X0_size rfl rfl rfl (by decide +kernel) ⟨Nat.le_of_ble_eq_true rfl, Nat.le_of_ble_eq_true rfl⟩
  have hf_18 := hts (.fieldLink RX7 18 "BitStreams" "startBytes" "LBitStreams$Bytes;") (by decide +kernel)
  have cw_X4_takes := va_cwA (R := ({ frames := 6, cells := 0, slots := 0, locals := 120 } : Room)) (rm := ({ frames := 0, cells := 0, slots := 0, locals := 0 } : Room)) 2 hts gX7_begin_X4_takes_u58X4 rfl rfl rfl hF.1.1 (by decide +kernel) ⟨Nat.le_of_ble_eq_true rfl, Nat.le_of_ble_eq_true rfl⟩
  refine lv_iload_n hx hb dX7_begin_0 rfl (lv_at hl 1 rfl) ?_
  refine lv_if_lt (tgt := 13) hx hb dX7_begin_1 (by decide) (fun hh => absurd hh (by decide)) (fun _ => ?_)
  refine lv_iload_n hx hb dX7_begin_4 rfl (lv_at hl 1 rfl) ?_
  refine lv_aload_n hx hb dX7_begin_5 rfl (lv_at hl 0 rfl) ?_
  refine va_get (D := D) (ci := 6) (v := .ref ms) (C := RX7) (T := TX7) (N := 6) hx hb hts hi_X7 hown hK hP 0 rfl rfl 2 (by decide) hf_35 (fun _ h9 => h9) rfl dX7_begin_6 ?_
  refine va_alen (v := nI 4) hx hb hK hP 1 2 rfl rfl rfl dX7_begin_9 ?_
  refine lv_icmp_lt (tgt := 15) hx hb dX7_begin_10 (by decide) (fun _ => ?_) (fun hh => absurd (by decide) hh)
  refine lv_aload_n hx hb dX7_begin_15 rfl (lv_at hl 0 rfl) ?_
  refine va_get (D := D) (ci := 6) (v := .ref ms) (C := RX7) (T := TX7) (N := 6) hx hb hts hi_X7 hown hK hP 0 rfl rfl 2 (by decide) hf_35 (fun _ h9 => h9) rfl dX7_begin_16 ?_
  refine lv_iload_n hx hb dX7_begin_19 rfl (lv_at hl 1 rfl) ?_
  refine va_aldq hx hb hK hP 1 2 rfl rfl (vp_in_nI (n := 0) (N := 4) (by decide) (by decide)) dX7_begin_20 ?_
  refine ct_topv (y := .ref m0) rfl ?_
  refine lv_astore_n (lv' := [(2, .ref m0), (0, .ref h0), (1, .int 0)]) hx hb dX7_begin_21 rfl hl (by decide) rfl (fun ls hl => ?_)
  refine lv_aload_n hx hb dX7_begin_22 rfl (lv_at hl 0 rfl) ?_
  refine lv_aload_n hx hb dX7_begin_23 rfl (lv_at hl 1 rfl) ?_
  refine va_get (D := D) (ci := 6) (v := .ref kb) (C := RX7) (T := TX7) (N := 6) hx hb hts hi_X7 hown hK hP 0 rfl rfl 0 (by decide) hf_14 (fun _ h9 => h9) rfl dX7_begin_24 ?_
  refine ct_callVi (As := []) (rest := [.ref m0]) (wr := [(h0, .inr (6, [.ref kb, .ref sb, .ref ms, rv, .int rn, .int us])), (ms, .inl (mA, 4, .inr (.inr (.inr (.inr (bs_ms m0 m1 m2 m3)))))), (kq, .inl (kA, 32, .inl f)), (sb, .inr (0, [.ref sq, .int (nI sz)])), (sq, .inl (sA, 12, .inl g)), (m0, .inr (3, [.ref r1, .ref r2, .ref r3])), (r1, .inr (1, [.long σ.1.1, .long σ.1.2])), (r2, .inr (1, [.long σ.2.1.1, .long σ.2.1.2])), (r3, .inr (1, [.long σ.2.2.1, .long σ.2.2.2]))]) (ws2 := [(h0, .inr (6, [.ref kb, .ref sb, .ref ms, rv, .int rn, .int us])), (ms, .inl (mA, 4, .inr (.inr (.inr (.inr (bs_ms m0 m1 m2 m3)))))), (kb, .inr (0, [.ref kq, .int (nI kz)])), (kq, .inl (kA, 32, .inl f)), (sb, .inr (0, [.ref sq, .int (nI sz)])), (sq, .inl (sA, 12, .inl g)), (m0, .inr (3, [.ref r1, .ref r2, .ref r3])), (r1, .inr (1, [.long σ.1.1, .long σ.1.2])), (r2, .inr (1, [.long σ.2.1.1, .long σ.2.1.2])), (r3, .inr (1, [.long σ.2.2.1, .long σ.2.2.2]))]) ⟨hx, hb, hml, hown, hts⟩ (c_by_size l D kb kq (nI kz)) cw_X0_size [] rfl [2] [0, 1, 3, 4, 5, 6, 7, 8, 9] [0, 1, 9, 2, 3, 4, 5, 6, 7, 8] hF hK hP hD hS hA 0 0 rfl rfl rfl rfl (by decide) rfl (by decide) (by decide) rfl (by decide) rfl hl.1 rfl (Nat.le_of_ble_eq_true rfl) dX7_begin_27 ⟨Nat.zero_le _, Nat.zero_le _⟩ (fun H locs hP hD hS => ?_)
  refine lv_aload_n hx hb dX7_begin_30 rfl (lv_at hl 1 rfl) ?_
  refine va_get (D := D) (ci := 6) (v := .ref sb) (C := RX7) (T := TX7) (N := 6) hx hb hts hi_X7 hown hK hP 0 rfl rfl 1 (by decide) hf_18 (fun _ h9 => h9) rfl dX7_begin_31 ?_
  refine ct_callVi (As := []) (rest := [.int (nI kz), .ref m0]) (wr := [(h0, .inr (6, [.ref kb, .ref sb, .ref ms, rv, .int rn, .int us])), (ms, .inl (mA, 4, .inr (.inr (.inr (.inr (bs_ms m0 m1 m2 m3)))))), (kb, .inr (0, [.ref kq, .int (nI kz)])), (kq, .inl (kA, 32, .inl f)), (sq, .inl (sA, 12, .inl g)), (m0, .inr (3, [.ref r1, .ref r2, .ref r3])), (r1, .inr (1, [.long σ.1.1, .long σ.1.2])), (r2, .inr (1, [.long σ.2.1.1, .long σ.2.1.2])), (r3, .inr (1, [.long σ.2.2.1, .long σ.2.2.2]))]) (ws2 := [(h0, .inr (6, [.ref kb, .ref sb, .ref ms, rv, .int rn, .int us])), (ms, .inl (mA, 4, .inr (.inr (.inr (.inr (bs_ms m0 m1 m2 m3)))))), (kb, .inr (0, [.ref kq, .int (nI kz)])), (kq, .inl (kA, 32, .inl f)), (sb, .inr (0, [.ref sq, .int (nI sz)])), (sq, .inl (sA, 12, .inl g)), (m0, .inr (3, [.ref r1, .ref r2, .ref r3])), (r1, .inr (1, [.long σ.1.1, .long σ.1.2])), (r2, .inr (1, [.long σ.2.1.1, .long σ.2.1.2])), (r3, .inr (1, [.long σ.2.2.1, .long σ.2.2.2]))]) ⟨hx, hb, hml, hown, hts⟩ (c_by_size l D sb sq (nI sz)) cw_X0_size [] rfl [4] [0, 1, 2, 3, 5, 6, 7, 8, 9] [0, 1, 2, 3, 9, 4, 5, 6, 7, 8] hF hK hP hD hS hA 0 0 rfl rfl rfl rfl (by decide) rfl (by decide) (by decide) rfl (by decide) rfl hl.1 rfl (Nat.le_of_ble_eq_true rfl) dX7_begin_34 ⟨Nat.zero_le _, Nat.zero_le _⟩ (fun H locs hP hD hS => ?_)
  refine ct_callUi (As := [.int (nI kz), .int (nI sz)]) (rest := []) (wr := [(h0, .inr (6, [.ref kb, .ref sb, .ref ms, rv, .int rn, .int us])), (ms, .inl (mA, 4, .inr (.inr (.inr (.inr (bs_ms m0 m1 m2 m3)))))), (kb, .inr (0, [.ref kq, .int (nI kz)])), (kq, .inl (kA, 32, .inl f)), (sb, .inr (0, [.ref sq, .int (nI sz)])), (sq, .inl (sA, 12, .inl g)), (r1, .inr (1, [.long σ.1.1, .long σ.1.2])), (r2, .inr (1, [.long σ.2.1.1, .long σ.2.1.2])), (r3, .inr (1, [.long σ.2.2.1, .long σ.2.2.2]))]) (ws2 := [(h0, .inr (6, [.ref kb, .ref sb, .ref ms, rv, .int rn, .int us])), (ms, .inl (mA, 4, .inr (.inr (.inr (.inr (bs_ms m0 m1 m2 m3)))))), (kb, .inr (0, [.ref kq, .int (nI kz)])), (kq, .inl (kA, 32, .inl f)), (sb, .inr (0, [.ref sq, .int (nI sz)])), (sq, .inl (sA, 12, .inl g)), (m0, .inr (3, [.ref r1, .ref r2, .ref r3])), (r1, .inr (1, [.long σ.1.1, .long σ.1.2])), (r2, .inr (1, [.long σ.2.1.1, .long σ.2.1.2])), (r3, .inr (1, [.long σ.2.2.1, .long σ.2.2.2]))]) ⟨hx, hb, hml, hown, hts⟩ (c_tr_takes l D m0 r1 r2 r3 (nI kz) (nI sz)) cw_X4_takes [] rfl [6] [0, 1, 2, 3, 4, 5, 7, 8, 9] [0, 1, 2, 3, 4, 5, 9, 6, 7, 8] hF hK hP hD hS hA 0 3 rfl rfl rfl rfl (by decide) rfl (by decide) (by decide) rfl (by decide) rfl hl.1 rfl (Nat.le_of_ble_eq_true rfl) dX7_begin_37 ⟨Nat.zero_le _, Nat.zero_le _⟩ (fun H locs hP hD hS => ?_)
  refine lv_if_ne (tgt := 45) hx hb dX7_begin_40 (by decide) (fun hh => absurd ht hh) (fun _ => ?_)
  refine lv_iconst (v := 0) hx hb dX7_begin_43 (by decide) ?_
  exact ct_zret hx hb hr hlk hP hK hD hS rfl rfl dX7_begin_44
set_option maxHeartbeats 4000000 in
set_option maxRecDepth 100000 in
/-- BitStreams.begin(0) -/
theorem c_bs_begin0T (l : Launch) (D : va_G) (h0 kb sb ms kq sq m0 m1 m2 m3 r1 r2 r3 : Nat) (rv : Value) (rn us : Int32) (kA sA mA : ClassId) (kz sz : Nat) (hkz : kz ≤ 32) (hsz : sz ≤ 12) (f g : Nat → Int32) (σ : R6) (ht : tk 10 10 (nI kz) (nI sz) = 1) : Cti l D yX7_begin wsX7_begin ({ frames := 6, cells := 0, slots := 0, locals := 120 } : Room) [.ref h0, .int 0] [(kA, .int), (sA, .int), (mA, .object "BitStreams$Machine")] [(h0, .inr (6, [.ref kb, .ref sb, .ref ms, rv, .int rn, .int us])), (ms, .inl (mA, 4, .inr (.inr (.inr (.inr (bs_ms m0 m1 m2 m3)))))), (kb, .inr (0, [.ref kq, .int (nI kz)])), (kq, .inl (kA, 32, .inl f)), (sb, .inr (0, [.ref sq, .int (nI sz)])), (sq, .inl (sA, 12, .inl g)), (m0, .inr (3, [.ref r1, .ref r2, .ref r3])), (r1, .inr (1, [.long σ.1.1, .long σ.1.2])), (r2, .inr (1, [.long σ.2.1.1, .long σ.2.1.2])), (r3, .inr (1, [.long σ.2.2.1, .long σ.2.2.2]))] [(h0, .inr (6, [.ref kb, .ref sb, .ref ms, .ref m0, .int 0, .int 0])), (ms, .inl (mA, 4, .inr (.inr (.inr (.inr (bs_ms m0 m1 m2 m3)))))), (kb, .inr (0, [.ref kq, .int (nI 0)])), (kq, .inl (kA, 32, .inl f)), (sb, .inr (0, [.ref sq, .int (nI 0)])), (sq, .inl (sA, 12, .inl g)), (m0, .inr (3, [.ref r1, .ref r2, .ref r3])), (r1, .inr (1, [.long (((tr_load f (nI kz) g (nI sz)).1).1), .long (((tr_load f (nI kz) g (nI sz)).1).2)])), (r2, .inr (1, [.long (((tr_load f (nI kz) g (nI sz)).2.1).1), .long (((tr_load f (nI kz) g (nI sz)).2.1).2)])), (r3, .inr (1, [.long (((tr_load f (nI kz) g (nI sz)).2.2).1), .long (((tr_load f (nI kz) g (nI sz)).2.2).2)]))] 1 := by
  refine ct_of (cc := cX7_begin) (maxL := 3) (ret := (some .boolean)) (by decide) rfl (Nat.le_of_ble_eq_true rfl) ?_
  intro p e s m below meth c A H locs ls hx hb hr hml hts hown hlk hnm hF hP hK hD hA hS hl
  have hown : s.vm.findClass RX7 = some m.cls := hown
  have hl : lv_has ls 3 [(0, .ref h0), (1, .int 0)] := hl
  have hf_35 := hts (.fieldLink RX7 35 "BitStreams" "machines" "[LBitStreams$Machine;") (by decide +kernel)
  have hi_X7 : ∀ w ∈ u_ws RX7 TX7 6, w ∈ wsX7_begin := by decide +kernel
  have hf_14 := hts (.fieldLink RX7 14 "BitStreams" "keyBytes" "LBitStreams$Bytes;") (by decide +kernel)
  have cw_X0_size := cwV (R := ({ frames := 6, cells := 0, slots := 0, locals := 120 } : Room)) (rm := ({ frames := 0, cells := 0, slots := 0, locals := 0 } : Room)) 0 hts gX7_begin_X0_size rfl rfl rfl (by decide +kernel) ⟨Nat.le_of_ble_eq_true rfl, Nat.le_of_ble_eq_true rfl⟩
  have hf_18 := hts (.fieldLink RX7 18 "BitStreams" "startBytes" "LBitStreams$Bytes;") (by decide +kernel)
  have cw_X4_takes := va_cwA (R := ({ frames := 6, cells := 0, slots := 0, locals := 120 } : Room)) (rm := ({ frames := 0, cells := 0, slots := 0, locals := 0 } : Room)) 2 hts gX7_begin_X4_takes_u58X4 rfl rfl rfl hF.1.1 (by decide +kernel) ⟨Nat.le_of_ble_eq_true rfl, Nat.le_of_ble_eq_true rfl⟩
  have cw_X4_load := va_cwA (R := ({ frames := 6, cells := 0, slots := 0, locals := 120 } : Room)) (rm := ({ frames := 2, cells := 0, slots := 0, locals := 45 } : Room)) 2 hts gX7_begin_X4_load_u62X4 rfl rfl rfl hF.1.2.1 (by decide +kernel) ⟨Nat.le_of_ble_eq_true rfl, Nat.le_of_ble_eq_true rfl⟩
  have cw_X0_clear := cwV (R := ({ frames := 6, cells := 0, slots := 0, locals := 120 } : Room)) (rm := ({ frames := 0, cells := 0, slots := 0, locals := 0 } : Room)) 0 hts gX7_begin_X0_clear rfl rfl rfl (by decide +kernel) ⟨Nat.le_of_ble_eq_true rfl, Nat.le_of_ble_eq_true rfl⟩
  have hf_39 := hts (.fieldLink RX7 39 "BitStreams" "running" "LBitStreams$Machine;") (by decide +kernel)
  have hf_43 := hts (.fieldLink RX7 43 "BitStreams" "runningNumber" "I") (by decide +kernel)
  have hf_47 := hts (.fieldLink RX7 47 "BitStreams" "used" "I") (by decide +kernel)
  refine lv_iload_n hx hb dX7_begin_0 rfl (lv_at hl 1 rfl) ?_
  refine lv_if_lt (tgt := 13) hx hb dX7_begin_1 (by decide) (fun hh => absurd hh (by decide)) (fun _ => ?_)
  refine lv_iload_n hx hb dX7_begin_4 rfl (lv_at hl 1 rfl) ?_
  refine lv_aload_n hx hb dX7_begin_5 rfl (lv_at hl 0 rfl) ?_
  refine va_get (D := D) (ci := 6) (v := .ref ms) (C := RX7) (T := TX7) (N := 6) hx hb hts hi_X7 hown hK hP 0 rfl rfl 2 (by decide) hf_35 (fun _ h9 => h9) rfl dX7_begin_6 ?_
  refine va_alen (v := nI 4) hx hb hK hP 1 2 rfl rfl rfl dX7_begin_9 ?_
  refine lv_icmp_lt (tgt := 15) hx hb dX7_begin_10 (by decide) (fun _ => ?_) (fun hh => absurd (by decide) hh)
  refine lv_aload_n hx hb dX7_begin_15 rfl (lv_at hl 0 rfl) ?_
  refine va_get (D := D) (ci := 6) (v := .ref ms) (C := RX7) (T := TX7) (N := 6) hx hb hts hi_X7 hown hK hP 0 rfl rfl 2 (by decide) hf_35 (fun _ h9 => h9) rfl dX7_begin_16 ?_
  refine lv_iload_n hx hb dX7_begin_19 rfl (lv_at hl 1 rfl) ?_
  refine va_aldq hx hb hK hP 1 2 rfl rfl (vp_in_nI (n := 0) (N := 4) (by decide) (by decide)) dX7_begin_20 ?_
  refine ct_topv (y := .ref m0) rfl ?_
  refine lv_astore_n (lv' := [(2, .ref m0), (0, .ref h0), (1, .int 0)]) hx hb dX7_begin_21 rfl hl (by decide) rfl (fun ls hl => ?_)
  refine lv_aload_n hx hb dX7_begin_22 rfl (lv_at hl 0 rfl) ?_
  refine lv_aload_n hx hb dX7_begin_23 rfl (lv_at hl 1 rfl) ?_
  refine va_get (D := D) (ci := 6) (v := .ref kb) (C := RX7) (T := TX7) (N := 6) hx hb hts hi_X7 hown hK hP 0 rfl rfl 0 (by decide) hf_14 (fun _ h9 => h9) rfl dX7_begin_24 ?_
  refine ct_callVi (As := []) (rest := [.ref m0]) (wr := [(h0, .inr (6, [.ref kb, .ref sb, .ref ms, rv, .int rn, .int us])), (ms, .inl (mA, 4, .inr (.inr (.inr (.inr (bs_ms m0 m1 m2 m3)))))), (kq, .inl (kA, 32, .inl f)), (sb, .inr (0, [.ref sq, .int (nI sz)])), (sq, .inl (sA, 12, .inl g)), (m0, .inr (3, [.ref r1, .ref r2, .ref r3])), (r1, .inr (1, [.long σ.1.1, .long σ.1.2])), (r2, .inr (1, [.long σ.2.1.1, .long σ.2.1.2])), (r3, .inr (1, [.long σ.2.2.1, .long σ.2.2.2]))]) (ws2 := [(h0, .inr (6, [.ref kb, .ref sb, .ref ms, rv, .int rn, .int us])), (ms, .inl (mA, 4, .inr (.inr (.inr (.inr (bs_ms m0 m1 m2 m3)))))), (kb, .inr (0, [.ref kq, .int (nI kz)])), (kq, .inl (kA, 32, .inl f)), (sb, .inr (0, [.ref sq, .int (nI sz)])), (sq, .inl (sA, 12, .inl g)), (m0, .inr (3, [.ref r1, .ref r2, .ref r3])), (r1, .inr (1, [.long σ.1.1, .long σ.1.2])), (r2, .inr (1, [.long σ.2.1.1, .long σ.2.1.2])), (r3, .inr (1, [.long σ.2.2.1, .long σ.2.2.2]))]) ⟨hx, hb, hml, hown, hts⟩ (c_by_size l D kb kq (nI kz)) cw_X0_size [] rfl [2] [0, 1, 3, 4, 5, 6, 7, 8, 9] [0, 1, 9, 2, 3, 4, 5, 6, 7, 8] hF hK hP hD hS hA 0 0 rfl rfl rfl rfl (by decide) rfl (by decide) (by decide) rfl (by decide) rfl hl.1 rfl (Nat.le_of_ble_eq_true rfl) dX7_begin_27 ⟨Nat.zero_le _, Nat.zero_le _⟩ (fun H locs hP hD hS => ?_)
  refine lv_aload_n hx hb dX7_begin_30 rfl (lv_at hl 1 rfl) ?_
  refine va_get (D := D) (ci := 6) (v := .ref sb) (C := RX7) (T := TX7) (N := 6) hx hb hts hi_X7 hown hK hP 0 rfl rfl 1 (by decide) hf_18 (fun _ h9 => h9) rfl dX7_begin_31 ?_
  refine ct_callVi (As := []) (rest := [.int (nI kz), .ref m0]) (wr := [(h0, .inr (6, [.ref kb, .ref sb, .ref ms, rv, .int rn, .int us])), (ms, .inl (mA, 4, .inr (.inr (.inr (.inr (bs_ms m0 m1 m2 m3)))))), (kb, .inr (0, [.ref kq, .int (nI kz)])), (kq, .inl (kA, 32, .inl f)), (sq, .inl (sA, 12, .inl g)), (m0, .inr (3, [.ref r1, .ref r2, .ref r3])), (r1, .inr (1, [.long σ.1.1, .long σ.1.2])), (r2, .inr (1, [.long σ.2.1.1, .long σ.2.1.2])), (r3, .inr (1, [.long σ.2.2.1, .long σ.2.2.2]))]) (ws2 := [(h0, .inr (6, [.ref kb, .ref sb, .ref ms, rv, .int rn, .int us])), (ms, .inl (mA, 4, .inr (.inr (.inr (.inr (bs_ms m0 m1 m2 m3)))))), (kb, .inr (0, [.ref kq, .int (nI kz)])), (kq, .inl (kA, 32, .inl f)), (sb, .inr (0, [.ref sq, .int (nI sz)])), (sq, .inl (sA, 12, .inl g)), (m0, .inr (3, [.ref r1, .ref r2, .ref r3])), (r1, .inr (1, [.long σ.1.1, .long σ.1.2])), (r2, .inr (1, [.long σ.2.1.1, .long σ.2.1.2])), (r3, .inr (1, [.long σ.2.2.1, .long σ.2.2.2]))]) ⟨hx, hb, hml, hown, hts⟩ (c_by_size l D sb sq (nI sz)) cw_X0_size [] rfl [4] [0, 1, 2, 3, 5, 6, 7, 8, 9] [0, 1, 2, 3, 9, 4, 5, 6, 7, 8] hF hK hP hD hS hA 0 0 rfl rfl rfl rfl (by decide) rfl (by decide) (by decide) rfl (by decide) rfl hl.1 rfl (Nat.le_of_ble_eq_true rfl) dX7_begin_34 ⟨Nat.zero_le _, Nat.zero_le _⟩ (fun H locs hP hD hS => ?_)
  refine ct_callUi (As := [.int (nI kz), .int (nI sz)]) (rest := []) (wr := [(h0, .inr (6, [.ref kb, .ref sb, .ref ms, rv, .int rn, .int us])), (ms, .inl (mA, 4, .inr (.inr (.inr (.inr (bs_ms m0 m1 m2 m3)))))), (kb, .inr (0, [.ref kq, .int (nI kz)])), (kq, .inl (kA, 32, .inl f)), (sb, .inr (0, [.ref sq, .int (nI sz)])), (sq, .inl (sA, 12, .inl g)), (r1, .inr (1, [.long σ.1.1, .long σ.1.2])), (r2, .inr (1, [.long σ.2.1.1, .long σ.2.1.2])), (r3, .inr (1, [.long σ.2.2.1, .long σ.2.2.2]))]) (ws2 := [(h0, .inr (6, [.ref kb, .ref sb, .ref ms, rv, .int rn, .int us])), (ms, .inl (mA, 4, .inr (.inr (.inr (.inr (bs_ms m0 m1 m2 m3)))))), (kb, .inr (0, [.ref kq, .int (nI kz)])), (kq, .inl (kA, 32, .inl f)), (sb, .inr (0, [.ref sq, .int (nI sz)])), (sq, .inl (sA, 12, .inl g)), (m0, .inr (3, [.ref r1, .ref r2, .ref r3])), (r1, .inr (1, [.long σ.1.1, .long σ.1.2])), (r2, .inr (1, [.long σ.2.1.1, .long σ.2.1.2])), (r3, .inr (1, [.long σ.2.2.1, .long σ.2.2.2]))]) ⟨hx, hb, hml, hown, hts⟩ (c_tr_takes l D m0 r1 r2 r3 (nI kz) (nI sz)) cw_X4_takes [] rfl [6] [0, 1, 2, 3, 4, 5, 7, 8, 9] [0, 1, 2, 3, 4, 5, 9, 6, 7, 8] hF hK hP hD hS hA 0 3 rfl rfl rfl rfl (by decide) rfl (by decide) (by decide) rfl (by decide) rfl hl.1 rfl (Nat.le_of_ble_eq_true rfl) dX7_begin_37 ⟨Nat.zero_le _, Nat.zero_le _⟩ (fun H locs hP hD hS => ?_)
  refine lv_if_ne (tgt := 45) hx hb dX7_begin_40 (by decide) (fun _ => ?_) (fun hh => absurd hh (by rw [ht]; decide))
  refine lv_aload_n hx hb dX7_begin_45 rfl (lv_at hl 0 rfl) ?_
  refine lv_aload_n hx hb dX7_begin_46 rfl (lv_at hl 1 rfl) ?_
  refine va_get (D := D) (ci := 6) (v := .ref kb) (C := RX7) (T := TX7) (N := 6) hx hb hts hi_X7 hown hK hP 0 rfl rfl 0 (by decide) hf_14 (fun _ h9 => h9) rfl dX7_begin_47 ?_
  refine lv_aload_n hx hb dX7_begin_50 rfl (lv_at hl 1 rfl) ?_
  refine va_get (D := D) (ci := 6) (v := .ref sb) (C := RX7) (T := TX7) (N := 6) hx hb hts hi_X7 hown hK hP 0 rfl rfl 1 (by decide) hf_18 (fun _ h9 => h9) rfl dX7_begin_51 ?_
  refine ct_callUv (As := [.ref kb, .ref sb]) (rest := []) (wr := [(h0, .inr (6, [.ref kb, .ref sb, .ref ms, rv, .int rn, .int us])), (ms, .inl (mA, 4, .inr (.inr (.inr (.inr (bs_ms m0 m1 m2 m3))))))]) (ws2 := [(h0, .inr (6, [.ref kb, .ref sb, .ref ms, rv, .int rn, .int us])), (ms, .inl (mA, 4, .inr (.inr (.inr (.inr (bs_ms m0 m1 m2 m3)))))), (kb, .inr (0, [.ref kq, .int (nI kz)])), (kq, .inl (kA, 32, .inl f)), (sb, .inr (0, [.ref sq, .int (nI sz)])), (sq, .inl (sA, 12, .inl g)), (m0, .inr (3, [.ref r1, .ref r2, .ref r3])), (r1, .inr (1, [.long (((tr_load f (nI kz) g (nI sz)).1).1), .long (((tr_load f (nI kz) g (nI sz)).1).2)])), (r2, .inr (1, [.long (((tr_load f (nI kz) g (nI sz)).2.1).1), .long (((tr_load f (nI kz) g (nI sz)).2.1).2)])), (r3, .inr (1, [.long (((tr_load f (nI kz) g (nI sz)).2.2).1), .long (((tr_load f (nI kz) g (nI sz)).2.2).2)]))]) ⟨hx, hb, hml, hown, hts⟩ (c_tr_load l D m0 r1 r2 r3 kb kq sb sq kA sA 32 kz 12 sz hkz (by decide) hsz (by decide) f g σ) cw_X4_load [0, 1] rfl [6, 7, 8, 9, 2, 3, 4, 5] [0, 1] [0, 1, 6, 7, 8, 9, 2, 3, 4, 5] hF hK hP hD hS hA 0 3 rfl rfl rfl rfl (by decide) rfl (by decide) (by decide) rfl (by decide) rfl hl.1 rfl (Nat.le_of_ble_eq_true rfl) dX7_begin_54 ⟨Nat.zero_le _, Nat.zero_le _⟩ (fun H locs hP hD hS => ?_)
  refine lv_aload_n hx hb dX7_begin_57 rfl (lv_at hl 1 rfl) ?_
  refine va_get (D := D) (ci := 6) (v := .ref kb) (C := RX7) (T := TX7) (N := 6) hx hb hts hi_X7 hown hK hP 0 rfl rfl 0 (by decide) hf_14 (fun _ h9 => h9) rfl dX7_begin_58 ?_
  refine ct_callVv (As := []) (rest := []) (wr := [(h0, .inr (6, [.ref kb, .ref sb, .ref ms, rv, .int rn, .int us])), (ms, .inl (mA, 4, .inr (.inr (.inr (.inr (bs_ms m0 m1 m2 m3)))))), (kq, .inl (kA, 32, .inl f)), (sb, .inr (0, [.ref sq, .int (nI sz)])), (sq, .inl (sA, 12, .inl g)), (m0, .inr (3, [.ref r1, .ref r2, .ref r3])), (r1, .inr (1, [.long (((tr_load f (nI kz) g (nI sz)).1).1), .long (((tr_load f (nI kz) g (nI sz)).1).2)])), (r2, .inr (1, [.long (((tr_load f (nI kz) g (nI sz)).2.1).1), .long (((tr_load f (nI kz) g (nI sz)).2.1).2)])), (r3, .inr (1, [.long (((tr_load f (nI kz) g (nI sz)).2.2).1), .long (((tr_load f (nI kz) g (nI sz)).2.2).2)]))]) (ws2 := [(h0, .inr (6, [.ref kb, .ref sb, .ref ms, rv, .int rn, .int us])), (ms, .inl (mA, 4, .inr (.inr (.inr (.inr (bs_ms m0 m1 m2 m3)))))), (kb, .inr (0, [.ref kq, .int (nI 0)])), (kq, .inl (kA, 32, .inl f)), (sb, .inr (0, [.ref sq, .int (nI sz)])), (sq, .inl (sA, 12, .inl g)), (m0, .inr (3, [.ref r1, .ref r2, .ref r3])), (r1, .inr (1, [.long (((tr_load f (nI kz) g (nI sz)).1).1), .long (((tr_load f (nI kz) g (nI sz)).1).2)])), (r2, .inr (1, [.long (((tr_load f (nI kz) g (nI sz)).2.1).1), .long (((tr_load f (nI kz) g (nI sz)).2.1).2)])), (r3, .inr (1, [.long (((tr_load f (nI kz) g (nI sz)).2.2).1), .long (((tr_load f (nI kz) g (nI sz)).2.2).2)]))]) ⟨hx, hb, hml, hown, hts⟩ (c_by_clr l D kb kq (nI kz)) cw_X0_clear [] rfl [2] [0, 1, 3, 4, 5, 6, 7, 8, 9] [0, 1, 9, 2, 3, 4, 5, 6, 7, 8] hF hK hP hD hS hA 0 0 rfl rfl rfl rfl (by decide) rfl (by decide) (by decide) rfl (by decide) rfl hl.1 rfl (Nat.le_of_ble_eq_true rfl) dX7_begin_61 ⟨Nat.zero_le _, Nat.zero_le _⟩ (fun H locs hP hD hS => ?_)
  refine lv_aload_n hx hb dX7_begin_64 rfl (lv_at hl 1 rfl) ?_
  refine va_get (D := D) (ci := 6) (v := .ref sb) (C := RX7) (T := TX7) (N := 6) hx hb hts hi_X7 hown hK hP 0 rfl rfl 1 (by decide) hf_18 (fun _ h9 => h9) rfl dX7_begin_65 ?_
  refine ct_callVv (As := []) (rest := []) (wr := [(h0, .inr (6, [.ref kb, .ref sb, .ref ms, rv, .int rn, .int us])), (ms, .inl (mA, 4, .inr (.inr (.inr (.inr (bs_ms m0 m1 m2 m3)))))), (kb, .inr (0, [.ref kq, .int (nI 0)])), (kq, .inl (kA, 32, .inl f)), (sq, .inl (sA, 12, .inl g)), (m0, .inr (3, [.ref r1, .ref r2, .ref r3])), (r1, .inr (1, [.long (((tr_load f (nI kz) g (nI sz)).1).1), .long (((tr_load f (nI kz) g (nI sz)).1).2)])), (r2, .inr (1, [.long (((tr_load f (nI kz) g (nI sz)).2.1).1), .long (((tr_load f (nI kz) g (nI sz)).2.1).2)])), (r3, .inr (1, [.long (((tr_load f (nI kz) g (nI sz)).2.2).1), .long (((tr_load f (nI kz) g (nI sz)).2.2).2)]))]) (ws2 := [(h0, .inr (6, [.ref kb, .ref sb, .ref ms, rv, .int rn, .int us])), (ms, .inl (mA, 4, .inr (.inr (.inr (.inr (bs_ms m0 m1 m2 m3)))))), (kb, .inr (0, [.ref kq, .int (nI 0)])), (kq, .inl (kA, 32, .inl f)), (sb, .inr (0, [.ref sq, .int (nI 0)])), (sq, .inl (sA, 12, .inl g)), (m0, .inr (3, [.ref r1, .ref r2, .ref r3])), (r1, .inr (1, [.long (((tr_load f (nI kz) g (nI sz)).1).1), .long (((tr_load f (nI kz) g (nI sz)).1).2)])), (r2, .inr (1, [.long (((tr_load f (nI kz) g (nI sz)).2.1).1), .long (((tr_load f (nI kz) g (nI sz)).2.1).2)])), (r3, .inr (1, [.long (((tr_load f (nI kz) g (nI sz)).2.2).1), .long (((tr_load f (nI kz) g (nI sz)).2.2).2)]))]) ⟨hx, hb, hml, hown, hts⟩ (c_by_clr l D sb sq (nI sz)) cw_X0_clear [] rfl [4] [0, 1, 2, 3, 5, 6, 7, 8, 9] [0, 1, 2, 3, 9, 4, 5, 6, 7, 8] hF hK hP hD hS hA 0 0 rfl rfl rfl rfl (by decide) rfl (by decide) (by decide) rfl (by decide) rfl hl.1 rfl (Nat.le_of_ble_eq_true rfl) dX7_begin_68 ⟨Nat.zero_le _, Nat.zero_le _⟩ (fun H locs hP hD hS => ?_)
  refine lv_aload_n hx hb dX7_begin_71 rfl (lv_at hl 1 rfl) ?_
  refine lv_aload_n hx hb dX7_begin_72 rfl (lv_at hl 0 rfl) ?_
  refine va_put (D := D) (ci := 6) (v := .ref m0) (ty := .object "BitStreams$Machine") (C := RX7) (T := TX7) (N := 6) hx hb hts hi_X7 tyX7 tyX7_ok nmX7 hown hK hP hD hS 0 rfl rfl 3 (by decide) hf_39 (fun _ h9 => h9) rfl (by decide +kernel) rfl rfl (Nat.le_of_ble_eq_true rfl) dX7_begin_73 (fun H locs hP hD hS => ?_)
  have hP : va_P D vwCl [(h0, .inr (6, [.ref kb, .ref sb, .ref ms, .ref m0, .int rn, .int us])), (ms, .inl (mA, 4, .inr (.inr (.inr (.inr (bs_ms m0 m1 m2 m3)))))), (kb, .inr (0, [.ref kq, .int (nI 0)])), (kq, .inl (kA, 32, .inl f)), (sb, .inr (0, [.ref sq, .int (nI 0)])), (sq, .inl (sA, 12, .inl g)), (m0, .inr (3, [.ref r1, .ref r2, .ref r3])), (r1, .inr (1, [.long (((tr_load f (nI kz) g (nI sz)).1).1), .long (((tr_load f (nI kz) g (nI sz)).1).2)])), (r2, .inr (1, [.long (((tr_load f (nI kz) g (nI sz)).2.1).1), .long (((tr_load f (nI kz) g (nI sz)).2.1).2)])), (r3, .inr (1, [.long (((tr_load f (nI kz) g (nI sz)).2.2).1), .long (((tr_load f (nI kz) g (nI sz)).2.2).2)]))] H := hP
  have hD : va_D A [(h0, .inr (6, [.ref kb, .ref sb, .ref ms, .ref m0, .int rn, .int us])), (ms, .inl (mA, 4, .inr (.inr (.inr (.inr (bs_ms m0 m1 m2 m3)))))), (kb, .inr (0, [.ref kq, .int (nI 0)])), (kq, .inl (kA, 32, .inl f)), (sb, .inr (0, [.ref sq, .int (nI 0)])), (sq, .inl (sA, 12, .inl g)), (m0, .inr (3, [.ref r1, .ref r2, .ref r3])), (r1, .inr (1, [.long (((tr_load f (nI kz) g (nI sz)).1).1), .long (((tr_load f (nI kz) g (nI sz)).1).2)])), (r2, .inr (1, [.long (((tr_load f (nI kz) g (nI sz)).2.1).1), .long (((tr_load f (nI kz) g (nI sz)).2.1).2)])), (r3, .inr (1, [.long (((tr_load f (nI kz) g (nI sz)).2.2).1), .long (((tr_load f (nI kz) g (nI sz)).2.2).2)]))] := hD
  refine lv_aload_n hx hb dX7_begin_76 rfl (lv_at hl 1 rfl) ?_
  refine lv_iload_n hx hb dX7_begin_77 rfl (lv_at hl 2 rfl) ?_
  refine va_put (D := D) (ci := 6) (v := .int 0) (ty := .int) (C := RX7) (T := TX7) (N := 6) hx hb hts hi_X7 tyX7 tyX7_ok nmX7 hown hK hP hD hS 0 rfl rfl 4 (by decide) hf_43 (fun _ h9 => h9) rfl (by decide +kernel) rfl rfl (Nat.le_of_ble_eq_true rfl) dX7_begin_78 (fun H locs hP hD hS => ?_)
  have hP : va_P D vwCl [(h0, .inr (6, [.ref kb, .ref sb, .ref ms, .ref m0, .int 0, .int us])), (ms, .inl (mA, 4, .inr (.inr (.inr (.inr (bs_ms m0 m1 m2 m3)))))), (kb, .inr (0, [.ref kq, .int (nI 0)])), (kq, .inl (kA, 32, .inl f)), (sb, .inr (0, [.ref sq, .int (nI 0)])), (sq, .inl (sA, 12, .inl g)), (m0, .inr (3, [.ref r1, .ref r2, .ref r3])), (r1, .inr (1, [.long (((tr_load f (nI kz) g (nI sz)).1).1), .long (((tr_load f (nI kz) g (nI sz)).1).2)])), (r2, .inr (1, [.long (((tr_load f (nI kz) g (nI sz)).2.1).1), .long (((tr_load f (nI kz) g (nI sz)).2.1).2)])), (r3, .inr (1, [.long (((tr_load f (nI kz) g (nI sz)).2.2).1), .long (((tr_load f (nI kz) g (nI sz)).2.2).2)]))] H := hP
  have hD : va_D A [(h0, .inr (6, [.ref kb, .ref sb, .ref ms, .ref m0, .int 0, .int us])), (ms, .inl (mA, 4, .inr (.inr (.inr (.inr (bs_ms m0 m1 m2 m3)))))), (kb, .inr (0, [.ref kq, .int (nI 0)])), (kq, .inl (kA, 32, .inl f)), (sb, .inr (0, [.ref sq, .int (nI 0)])), (sq, .inl (sA, 12, .inl g)), (m0, .inr (3, [.ref r1, .ref r2, .ref r3])), (r1, .inr (1, [.long (((tr_load f (nI kz) g (nI sz)).1).1), .long (((tr_load f (nI kz) g (nI sz)).1).2)])), (r2, .inr (1, [.long (((tr_load f (nI kz) g (nI sz)).2.1).1), .long (((tr_load f (nI kz) g (nI sz)).2.1).2)])), (r3, .inr (1, [.long (((tr_load f (nI kz) g (nI sz)).2.2).1), .long (((tr_load f (nI kz) g (nI sz)).2.2).2)]))] := hD
  refine lv_aload_n hx hb dX7_begin_81 rfl (lv_at hl 1 rfl) ?_
  refine lv_iconst (v := 0) hx hb dX7_begin_82 (by decide) ?_
  refine va_put (D := D) (ci := 6) (v := .int 0) (ty := .int) (C := RX7) (T := TX7) (N := 6) hx hb hts hi_X7 tyX7 tyX7_ok nmX7 hown hK hP hD hS 0 rfl rfl 5 (by decide) hf_47 (fun _ h9 => h9) rfl (by decide +kernel) rfl rfl (Nat.le_of_ble_eq_true rfl) dX7_begin_83 (fun H locs hP hD hS => ?_)
  have hP : va_P D vwCl [(h0, .inr (6, [.ref kb, .ref sb, .ref ms, .ref m0, .int 0, .int 0])), (ms, .inl (mA, 4, .inr (.inr (.inr (.inr (bs_ms m0 m1 m2 m3)))))), (kb, .inr (0, [.ref kq, .int (nI 0)])), (kq, .inl (kA, 32, .inl f)), (sb, .inr (0, [.ref sq, .int (nI 0)])), (sq, .inl (sA, 12, .inl g)), (m0, .inr (3, [.ref r1, .ref r2, .ref r3])), (r1, .inr (1, [.long (((tr_load f (nI kz) g (nI sz)).1).1), .long (((tr_load f (nI kz) g (nI sz)).1).2)])), (r2, .inr (1, [.long (((tr_load f (nI kz) g (nI sz)).2.1).1), .long (((tr_load f (nI kz) g (nI sz)).2.1).2)])), (r3, .inr (1, [.long (((tr_load f (nI kz) g (nI sz)).2.2).1), .long (((tr_load f (nI kz) g (nI sz)).2.2).2)]))] H := hP
  have hD : va_D A [(h0, .inr (6, [.ref kb, .ref sb, .ref ms, .ref m0, .int 0, .int 0])), (ms, .inl (mA, 4, .inr (.inr (.inr (.inr (bs_ms m0 m1 m2 m3)))))), (kb, .inr (0, [.ref kq, .int (nI 0)])), (kq, .inl (kA, 32, .inl f)), (sb, .inr (0, [.ref sq, .int (nI 0)])), (sq, .inl (sA, 12, .inl g)), (m0, .inr (3, [.ref r1, .ref r2, .ref r3])), (r1, .inr (1, [.long (((tr_load f (nI kz) g (nI sz)).1).1), .long (((tr_load f (nI kz) g (nI sz)).1).2)])), (r2, .inr (1, [.long (((tr_load f (nI kz) g (nI sz)).2.1).1), .long (((tr_load f (nI kz) g (nI sz)).2.1).2)])), (r3, .inr (1, [.long (((tr_load f (nI kz) g (nI sz)).2.2).1), .long (((tr_load f (nI kz) g (nI sz)).2.2).2)]))] := hD
  refine lv_iconst (v := 1) hx hb dX7_begin_86 (by decide) ?_
  exact ct_zret hx hb hr hlk hP hK hD hS rfl rfl dX7_begin_87
set_option maxHeartbeats 4000000 in
set_option maxRecDepth 100000 in
/-- BitStreams.skip, machine 1 -/
theorem c_bs_skip1 (l : Launch) (D : va_G) (h0 kb sb ms m1 r1 r2 : Nat) (rn us : Int32) (σ : R4) (n : Nat) (hn : n ≤ 5000) : Cti l D yX7_skip wsX7_skip ({ frames := 6, cells := 0, slots := 0, locals := 120 } : Room) [.ref h0, .int (nI n)] [] [(h0, .inr (6, [.ref kb, .ref sb, .ref ms, .ref m1, .int rn, .int us])), (m1, .inr (5, [.ref r1, .ref r2])), (r1, .inr (1, [.long σ.1.1, .long σ.1.2])), (r2, .inr (1, [.long σ.2.1, .long σ.2.2]))] [(h0, .inr (6, [.ref kb, .ref sb, .ref ms, .ref m1, .int rn, .int (us + nI n)])), (m1, .inr (5, [.ref r1, .ref r2])), (r1, .inr (1, [.long (((mit tw_step σ n).1).1), .long (((mit tw_step σ n).1).2)])), (r2, .inr (1, [.long (((mit tw_step σ n).2).1), .long (((mit tw_step σ n).2).2)]))] 1 := by
  refine ct_of (cc := cX7_skip) (maxL := 3) (ret := (some .boolean)) (by decide) rfl (Nat.le_of_ble_eq_true rfl) ?_
  intro p e s m below meth c A H locs ls hx hb hr hml hts hown hlk hnm hF hP hK hD hA hS hl
  have hown : s.vm.findClass RX7 = some m.cls := hown
  have hl : lv_has ls 3 [(0, .ref h0), (1, .int (nI n))] := hl
  have hf_39 := hts (.fieldLink RX7 39 "BitStreams" "running" "LBitStreams$Machine;") (by decide +kernel)
  have hi_X7 : ∀ w ∈ u_ws RX7 TX7 6, w ∈ wsX7_skip := by decide +kernel
  have cw_X6_nextBit := va_cwA (R := ({ frames := 6, cells := 0, slots := 0, locals := 120 } : Room)) (rm := ({ frames := 3, cells := 0, slots := 0, locals := 64 } : Room)) 0 hts gX7_skip_X6_nextBit_u73X6 rfl rfl rfl hF.1.2.2 (by decide +kernel) ⟨Nat.le_of_ble_eq_true rfl, Nat.le_of_ble_eq_true rfl⟩
  have hf_47 := hts (.fieldLink RX7 47 "BitStreams" "used" "I") (by decide +kernel)
  refine lv_aload_n hx hb dX7_skip_0 rfl (lv_at hl 0 rfl) ?_
  refine va_get (D := D) (ci := 6) (v := .ref m1) (C := RX7) (T := TX7) (N := 6) hx hb hts hi_X7 hown hK hP 0 rfl rfl 3 (by decide) hf_39 (fun _ h9 => h9) rfl dX7_skip_1 ?_
  refine lv_ifnull hx hb dX7_skip_4 ?_
  refine lv_iload_n hx hb dX7_skip_7 rfl (lv_at hl 1 rfl) ?_
  refine lv_if_lt (tgt := 18) hx hb dX7_skip_8 (by decide) (fun hh => absurd hh (nI_pos (by omega))) (fun _ => ?_)
  refine lv_iload_n hx hb dX7_skip_11 rfl (lv_at hl 1 rfl) ?_
  refine lv_sipush (v := 5000) hx hb dX7_skip_12 (by decide) ?_
  refine lv_icmp_le (tgt := 20) hx hb dX7_skip_15 (by decide) (fun _ => ?_) (fun hh => absurd (nI_le hn (by decide)) hh)
  refine lv_iconst (v := 0) hx hb dX7_skip_20 (by decide) ?_
  refine lv_istore_n (lv' := [(2, .int 0), (0, .ref h0), (1, .int (nI n))]) hx hb dX7_skip_21 rfl hl (by decide) rfl (fun ls hl => ?_)
  refine ct_count n (fun k : Nat => [(h0, .inr (6, [.ref kb, .ref sb, .ref ms, .ref m1, .int rn, .int us])), (m1, .inr (5, [.ref r1, .ref r2])), (r1, .inr (1, [.long (((mit tw_step σ k).1).1), .long (((mit tw_step σ k).1).2)])), (r2, .inr (1, [.long (((mit tw_step σ k).2).1), .long (((mit tw_step σ k).2).2)]))]) (fun k : Nat => [(2, .int (nI k)), (0, .ref h0), (1, .int (nI n))]) ?_ ?_ 0 (Nat.zero_le _) hP hD hS (lv_sub hl [0, 1, 2] rfl)
  · intro k hk ih22 H locs ls hP hD hS hl
    have hP : va_P D vwCl [(h0, .inr (6, [.ref kb, .ref sb, .ref ms, .ref m1, .int rn, .int us])), (m1, .inr (5, [.ref r1, .ref r2])), (r1, .inr (1, [.long (((mit tw_step σ k).1).1), .long (((mit tw_step σ k).1).2)])), (r2, .inr (1, [.long (((mit tw_step σ k).2).1), .long (((mit tw_step σ k).2).2)]))] H := hP
    have hD : va_D A [(h0, .inr (6, [.ref kb, .ref sb, .ref ms, .ref m1, .int rn, .int us])), (m1, .inr (5, [.ref r1, .ref r2])), (r1, .inr (1, [.long (((mit tw_step σ k).1).1), .long (((mit tw_step σ k).1).2)])), (r2, .inr (1, [.long (((mit tw_step σ k).2).1), .long (((mit tw_step σ k).2).2)]))] := hD
    have hl : lv_has ls 3 [(2, .int (nI k)), (0, .ref h0), (1, .int (nI n))] := hl
    refine lv_iload_n hx hb dX7_skip_22 rfl (lv_at hl 0 rfl) ?_
    refine lv_iload_n hx hb dX7_skip_23 rfl (lv_at hl 2 rfl) ?_
    refine lv_icmp_ge (tgt := 41) hx hb dX7_skip_24 (by decide) (fun hh => absurd hh (nI_ge hk (by omega))) (fun _ => ?_)
    refine lv_aload_n hx hb dX7_skip_27 rfl (lv_at hl 1 rfl) ?_
    refine va_get (D := D) (ci := 6) (v := .ref m1) (C := RX7) (T := TX7) (N := 6) hx hb hts hi_X7 hown hK hP 0 rfl rfl 3 (by decide) hf_39 (fun _ h9 => h9) rfl dX7_skip_28 ?_
    refine ct_callUi (As := []) (rest := []) (wr := [(h0, .inr (6, [.ref kb, .ref sb, .ref ms, .ref m1, .int rn, .int us]))]) (ws2 := [(h0, .inr (6, [.ref kb, .ref sb, .ref ms, .ref m1, .int rn, .int us])), (m1, .inr (5, [.ref r1, .ref r2])), (r1, .inr (1, [.long (((tw_step (mit tw_step σ k)).1).1), .long (((tw_step (mit tw_step σ k)).1).2)])), (r2, .inr (1, [.long (((tw_step (mit tw_step σ k)).2).1), .long (((tw_step (mit tw_step σ k)).2).2)]))]) ⟨hx, hb, hml, hown, hts⟩ (c_tw_next l D m1 r1 r2 (mit tw_step σ k)) cw_X6_nextBit [] rfl [1, 2, 3] [0] [0, 1, 2, 3] hF hK hP hD hS hA 0 5 rfl rfl rfl rfl (by decide) rfl (by decide) (by decide) rfl (by decide) rfl hl.1 rfl (Nat.le_of_ble_eq_true rfl) dX7_skip_31 ⟨Nat.zero_le _, Nat.zero_le _⟩ (fun H locs hP hD hS => ?_)
    refine lv_pop hx hb dX7_skip_34 rfl ?_
    refine lv_iinc (v := nI (k + 1)) (lv' := [(2, .int (nI (k + 1))), (0, .ref h0), (1, .int (nI n))]) hx hb dX7_skip_35 hl (k := 0) rfl (ct_inc k) (by decide) rfl (fun ls hl => ?_)
    refine lv_goto (tgt := 22) hx hb dX7_skip_38 (by decide) ?_
    exact ih22 H locs ls hP hD hS (lv_sub hl [0, 1, 2] rfl)
  · intro H locs ls hP hD hS hl
    have hP : va_P D vwCl [(h0, .inr (6, [.ref kb, .ref sb, .ref ms, .ref m1, .int rn, .int us])), (m1, .inr (5, [.ref r1, .ref r2])), (r1, .inr (1, [.long (((mit tw_step σ n).1).1), .long (((mit tw_step σ n).1).2)])), (r2, .inr (1, [.long (((mit tw_step σ n).2).1), .long (((mit tw_step σ n).2).2)]))] H := hP
    have hD : va_D A [(h0, .inr (6, [.ref kb, .ref sb, .ref ms, .ref m1, .int rn, .int us])), (m1, .inr (5, [.ref r1, .ref r2])), (r1, .inr (1, [.long (((mit tw_step σ n).1).1), .long (((mit tw_step σ n).1).2)])), (r2, .inr (1, [.long (((mit tw_step σ n).2).1), .long (((mit tw_step σ n).2).2)]))] := hD
    have hl : lv_has ls 3 [(2, .int (nI n)), (0, .ref h0), (1, .int (nI n))] := hl
    refine lv_iload_n hx hb dX7_skip_22 rfl (lv_at hl 0 rfl) ?_
    refine lv_iload_n hx hb dX7_skip_23 rfl (lv_at hl 2 rfl) ?_
    refine lv_icmp_ge (tgt := 41) hx hb dX7_skip_24 (by decide) (fun _ => ?_) (fun hh => absurd (Int32.le_refl _) hh)
    refine lv_aload_n hx hb dX7_skip_41 rfl (lv_at hl 1 rfl) ?_
    refine lv_dup hx hb dX7_skip_42 rfl ?_
    refine va_get (D := D) (ci := 6) (v := .int us) (C := RX7) (T := TX7) (N := 6) hx hb hts hi_X7 hown hK hP 0 rfl rfl 5 (by decide) hf_47 (fun _ h9 => h9) rfl dX7_skip_43 ?_
    refine lv_iload_n hx hb dX7_skip_46 rfl (lv_at hl 2 rfl) ?_
    refine lv_iadd hx hb dX7_skip_47 ?_
    refine va_put (D := D) (ci := 6) (v := .int (us + (nI n))) (ty := .int) (C := RX7) (T := TX7) (N := 6) hx hb hts hi_X7 tyX7 tyX7_ok nmX7 hown hK hP hD hS 0 rfl rfl 5 (by decide) hf_47 (fun _ h9 => h9) rfl (by decide +kernel) rfl rfl (Nat.le_of_ble_eq_true rfl) dX7_skip_48 (fun H locs hP hD hS => ?_)
    have hP : va_P D vwCl [(h0, .inr (6, [.ref kb, .ref sb, .ref ms, .ref m1, .int rn, .int (us + (nI n))])), (m1, .inr (5, [.ref r1, .ref r2])), (r1, .inr (1, [.long (((mit tw_step σ n).1).1), .long (((mit tw_step σ n).1).2)])), (r2, .inr (1, [.long (((mit tw_step σ n).2).1), .long (((mit tw_step σ n).2).2)]))] H := hP
    have hD : va_D A [(h0, .inr (6, [.ref kb, .ref sb, .ref ms, .ref m1, .int rn, .int (us + (nI n))])), (m1, .inr (5, [.ref r1, .ref r2])), (r1, .inr (1, [.long (((mit tw_step σ n).1).1), .long (((mit tw_step σ n).1).2)])), (r2, .inr (1, [.long (((mit tw_step σ n).2).1), .long (((mit tw_step σ n).2).2)]))] := hD
    refine lv_iconst (v := 1) hx hb dX7_skip_51 (by decide) ?_
    exact ct_zret hx hb hr hlk hP hK hD hS rfl rfl dX7_skip_52
set_option maxHeartbeats 4000000 in
set_option maxRecDepth 100000 in
/-- BitStreams.mix, machine 1 -/
theorem c_bs_mix1 (l : Launch) (D : va_G) (h0 kb sb ms m1 r1 r2 : Nat) (rn us : Int32) (σ : R4) (v : Int64) (n : Nat) (hn1 : 1 ≤ n) (hn : n ≤ 64) : Ctl l D yX7_mix wsX7_mix ({ frames := 6, cells := 0, slots := 0, locals := 120 } : Room) [.ref h0, .long v, .int (nI n)] [] [(h0, .inr (6, [.ref kb, .ref sb, .ref ms, .ref m1, .int rn, .int us])), (m1, .inr (5, [.ref r1, .ref r2])), (r1, .inr (1, [.long σ.1.1, .long σ.1.2])), (r2, .inr (1, [.long σ.2.1, .long σ.2.2]))] [(h0, .inr (6, [.ref kb, .ref sb, .ref ms, .ref m1, .int rn, .int (us + nI n)])), (m1, .inr (5, [.ref r1, .ref r2])), (r1, .inr (1, [.long (((mit tw_step σ n).1).1), .long (((mit tw_step σ n).1).2)])), (r2, .inr (1, [.long (((mit tw_step σ n).2).1), .long (((mit tw_step σ n).2).2)]))] (mmx v n (mst tw_step tw_out σ n)) := by
  refine ct_of (cc := cX7_mix) (maxL := 8) (ret := (some .long)) (by decide) rfl (Nat.le_of_ble_eq_true rfl) ?_
  intro p e s m below meth c A H locs ls hx hb hr hml hts hown hlk hnm hF hP hK hD hA hS hl
  have hown : s.vm.findClass RX7 = some m.cls := hown
  have hl : lv_has ls 8 [(0, .ref h0), (1, .long v), (3, .int (nI n))] := hl
  have hf_39 := hts (.fieldLink RX7 39 "BitStreams" "running" "LBitStreams$Machine;") (by decide +kernel)
  have hi_X7 : ∀ w ∈ u_ws RX7 TX7 6, w ∈ wsX7_mix := by decide +kernel
  have cw_X6_nextBit := va_cwA (R := ({ frames := 6, cells := 0, slots := 0, locals := 120 } : Room)) (rm := ({ frames := 3, cells := 0, slots := 0, locals := 64 } : Room)) 0 hts gX7_mix_X6_nextBit_u73X6 rfl rfl rfl hF.1.2.2 (by decide +kernel) ⟨Nat.le_of_ble_eq_true rfl, Nat.le_of_ble_eq_true rfl⟩
  have hf_47 := hts (.fieldLink RX7 47 "BitStreams" "used" "I") (by decide +kernel)
  have hc_76 := hts (.constantLong RX7 76 (-1)) (by decide +kernel)
  refine lv_aload_n hx hb dX7_mix_0 rfl (lv_at hl 0 rfl) ?_
  refine va_get (D := D) (ci := 6) (v := .ref m1) (C := RX7) (T := TX7) (N := 6) hx hb hts hi_X7 hown hK hP 0 rfl rfl 3 (by decide) hf_39 (fun _ h9 => h9) rfl dX7_mix_1 ?_
  refine lv_ifnull hx hb dX7_mix_4 ?_
  refine lv_iload_n hx hb dX7_mix_7 rfl (lv_at hl 2 rfl) ?_
  refine lv_iconst (v := 1) hx hb dX7_mix_8 (by decide) ?_
  refine lv_icmp_lt (tgt := 18) hx hb dX7_mix_9 (by decide) (fun hh => absurd hh (nI_nlt (a := n) (b := 1) hn1 (by omega))) (fun _ => ?_)
  refine lv_iload_n hx hb dX7_mix_12 rfl (lv_at hl 2 rfl) ?_
  refine lv_bipush (v := 64) hx hb dX7_mix_13 (by decide) ?_
  refine lv_icmp_le (tgt := 20) hx hb dX7_mix_15 (by decide) (fun _ => ?_) (fun hh => absurd (nI_le (b := 64) hn (by decide)) hh)
  refine lv_lconst (v := 0) hx hb dX7_mix_20 (by decide) ?_
  refine lv_lstore (lv' := [(4, .long 0), (0, .ref h0), (1, .long v), (3, .int (nI n))]) hx hb dX7_mix_21 hl (by decide) rfl (fun ls hl => ?_)
  refine lv_iconst (v := 0) hx hb dX7_mix_23 (by decide) ?_
  refine lv_istore (lv' := [(6, .int 0), (4, .long 0), (0, .ref h0), (1, .long v), (3, .int (nI n))]) hx hb dX7_mix_24 hl (by decide) rfl (fun ls hl => ?_)
  refine ct_count n (fun k : Nat => [(h0, .inr (6, [.ref kb, .ref sb, .ref ms, .ref m1, .int rn, .int us])), (m1, .inr (5, [.ref r1, .ref r2])), (r1, .inr (1, [.long (((mit tw_step σ k).1).1), .long (((mit tw_step σ k).1).2)])), (r2, .inr (1, [.long (((mit tw_step σ k).2).1), .long (((mit tw_step σ k).2).2)]))]) (fun k : Nat => [(6, .int (nI k)), (4, .long (mst tw_step tw_out σ k)), (0, .ref h0), (1, .long v), (3, .int (nI n))]) ?_ ?_ 0 (Nat.zero_le _) hP hD hS (lv_sub hl [0, 1, 2, 3, 4] rfl)
  · intro k hk ih26 H locs ls hP hD hS hl
    have hP : va_P D vwCl [(h0, .inr (6, [.ref kb, .ref sb, .ref ms, .ref m1, .int rn, .int us])), (m1, .inr (5, [.ref r1, .ref r2])), (r1, .inr (1, [.long (((mit tw_step σ k).1).1), .long (((mit tw_step σ k).1).2)])), (r2, .inr (1, [.long (((mit tw_step σ k).2).1), .long (((mit tw_step σ k).2).2)]))] H := hP
    have hD : va_D A [(h0, .inr (6, [.ref kb, .ref sb, .ref ms, .ref m1, .int rn, .int us])), (m1, .inr (5, [.ref r1, .ref r2])), (r1, .inr (1, [.long (((mit tw_step σ k).1).1), .long (((mit tw_step σ k).1).2)])), (r2, .inr (1, [.long (((mit tw_step σ k).2).1), .long (((mit tw_step σ k).2).2)]))] := hD
    have hl : lv_has ls 8 [(6, .int (nI k)), (4, .long (mst tw_step tw_out σ k)), (0, .ref h0), (1, .long v), (3, .int (nI n))] := hl
    refine lv_iload hx hb dX7_mix_26 (lv_at hl 0 rfl) ?_
    refine lv_iload_n hx hb dX7_mix_28 rfl (lv_at hl 4 rfl) ?_
    refine lv_icmp_ge (tgt := 53) hx hb dX7_mix_29 (by decide) (fun hh => absurd hh (nI_ge hk (by omega))) (fun _ => ?_)
    refine lv_lload hx hb dX7_mix_32 (lv_at hl 1 rfl) ?_
    refine lv_iconst (v := 1) hx hb dX7_mix_34 (by decide) ?_
    refine lv_lshl (v := lL (mst tw_step tw_out σ k) 1) hx hb dX7_mix_35 rfl ?_
    refine lv_aload_n hx hb dX7_mix_36 rfl (lv_at hl 2 rfl) ?_
    refine va_get (D := D) (ci := 6) (v := .ref m1) (C := RX7) (T := TX7) (N := 6) hx hb hts hi_X7 hown hK hP 0 rfl rfl 3 (by decide) hf_39 (fun _ h9 => h9) rfl dX7_mix_37 ?_
    refine ct_callUi (As := []) (rest := [.long (lL (mst tw_step tw_out σ k) 1)]) (wr := [(h0, .inr (6, [.ref kb, .ref sb, .ref ms, .ref m1, .int rn, .int us]))]) (ws2 := [(h0, .inr (6, [.ref kb, .ref sb, .ref ms, .ref m1, .int rn, .int us])), (m1, .inr (5, [.ref r1, .ref r2])), (r1, .inr (1, [.long (((tw_step (mit tw_step σ k)).1).1), .long (((tw_step (mit tw_step σ k)).1).2)])), (r2, .inr (1, [.long (((tw_step (mit tw_step σ k)).2).1), .long (((tw_step (mit tw_step σ k)).2).2)]))]) ⟨hx, hb, hml, hown, hts⟩ (c_tw_next l D m1 r1 r2 (mit tw_step σ k)) cw_X6_nextBit [] rfl [1, 2, 3] [0] [0, 1, 2, 3] hF hK hP hD hS hA 0 5 rfl rfl rfl rfl (by decide) rfl (by decide) (by decide) rfl (by decide) rfl hl.1 rfl (Nat.le_of_ble_eq_true rfl) dX7_mix_40 ⟨Nat.zero_le _, Nat.zero_le _⟩ (fun H locs hP hD hS => ?_)
    refine lv_i2l hx hb dX7_mix_43 rfl ?_
    refine lv_lor hx hb dX7_mix_44 ?_
    refine lv_lstore (lv' := [(4, .long ((lL (mst tw_step tw_out σ k) 1) ||| ((tw_out (mit tw_step σ k)).toInt64))), (6, .int (nI k)), (0, .ref h0), (1, .long v), (3, .int (nI n))]) hx hb dX7_mix_45 hl (by decide) rfl (fun ls hl => ?_)
    refine lv_iinc (v := nI (k + 1)) (lv' := [(6, .int (nI (k + 1))), (4, .long ((lL (mst tw_step tw_out σ k) 1) ||| ((tw_out (mit tw_step σ k)).toInt64))), (0, .ref h0), (1, .long v), (3, .int (nI n))]) hx hb dX7_mix_47 hl (k := 1) rfl (ct_inc k) (by decide) rfl (fun ls hl => ?_)
    refine lv_goto (tgt := 26) hx hb dX7_mix_50 (by decide) ?_
    exact ih26 H locs ls hP hD hS (lv_sub hl [0, 1, 2, 3, 4] rfl)
  · intro H locs ls hP hD hS hl
    have hP : va_P D vwCl [(h0, .inr (6, [.ref kb, .ref sb, .ref ms, .ref m1, .int rn, .int us])), (m1, .inr (5, [.ref r1, .ref r2])), (r1, .inr (1, [.long (((mit tw_step σ n).1).1), .long (((mit tw_step σ n).1).2)])), (r2, .inr (1, [.long (((mit tw_step σ n).2).1), .long (((mit tw_step σ n).2).2)]))] H := hP
    have hD : va_D A [(h0, .inr (6, [.ref kb, .ref sb, .ref ms, .ref m1, .int rn, .int us])), (m1, .inr (5, [.ref r1, .ref r2])), (r1, .inr (1, [.long (((mit tw_step σ n).1).1), .long (((mit tw_step σ n).1).2)])), (r2, .inr (1, [.long (((mit tw_step σ n).2).1), .long (((mit tw_step σ n).2).2)]))] := hD
    have hl : lv_has ls 8 [(6, .int (nI n)), (4, .long (mst tw_step tw_out σ n)), (0, .ref h0), (1, .long v), (3, .int (nI n))] := hl
    refine lv_iload hx hb dX7_mix_26 (lv_at hl 0 rfl) ?_
    refine lv_iload_n hx hb dX7_mix_28 rfl (lv_at hl 4 rfl) ?_
    refine lv_icmp_ge (tgt := 53) hx hb dX7_mix_29 (by decide) (fun _ => ?_) (fun hh => absurd (Int32.le_refl _) hh)
    refine lv_aload_n hx hb dX7_mix_53 rfl (lv_at hl 2 rfl) ?_
    refine lv_dup hx hb dX7_mix_54 rfl ?_
    refine va_get (D := D) (ci := 6) (v := .int us) (C := RX7) (T := TX7) (N := 6) hx hb hts hi_X7 hown hK hP 0 rfl rfl 5 (by decide) hf_47 (fun _ h9 => h9) rfl dX7_mix_55 ?_
    refine lv_iload_n hx hb dX7_mix_58 rfl (lv_at hl 4 rfl) ?_
    refine lv_iadd hx hb dX7_mix_59 ?_
    refine va_put (D := D) (ci := 6) (v := .int (us + (nI n))) (ty := .int) (C := RX7) (T := TX7) (N := 6) hx hb hts hi_X7 tyX7 tyX7_ok nmX7 hown hK hP hD hS 0 rfl rfl 5 (by decide) hf_47 (fun _ h9 => h9) rfl (by decide +kernel) rfl rfl (Nat.le_of_ble_eq_true rfl) dX7_mix_60 (fun H locs hP hD hS => ?_)
    have hP : va_P D vwCl [(h0, .inr (6, [.ref kb, .ref sb, .ref ms, .ref m1, .int rn, .int (us + (nI n))])), (m1, .inr (5, [.ref r1, .ref r2])), (r1, .inr (1, [.long (((mit tw_step σ n).1).1), .long (((mit tw_step σ n).1).2)])), (r2, .inr (1, [.long (((mit tw_step σ n).2).1), .long (((mit tw_step σ n).2).2)]))] H := hP
    have hD : va_D A [(h0, .inr (6, [.ref kb, .ref sb, .ref ms, .ref m1, .int rn, .int (us + (nI n))])), (m1, .inr (5, [.ref r1, .ref r2])), (r1, .inr (1, [.long (((mit tw_step σ n).1).1), .long (((mit tw_step σ n).1).2)])), (r2, .inr (1, [.long (((mit tw_step σ n).2).1), .long (((mit tw_step σ n).2).2)]))] := hD
    refine lv_ldc2 (v := (-1)) hx hb hown hc_76 dX7_mix_63 ?_
    refine lv_bipush (v := 64) hx hb dX7_mix_66 (by decide) ?_
    refine lv_iload_n hx hb dX7_mix_68 rfl (lv_at hl 4 rfl) ?_
    refine lv_isub hx hb dX7_mix_69 ?_
    refine lv_lushr (v := lU (-1) (64 - (nI n))) hx hb dX7_mix_70 rfl ?_
    refine lv_lstore (lv' := [(6, .long (lU (-1) (64 - (nI n)))), (4, .long (mst tw_step tw_out σ n)), (0, .ref h0), (1, .long v), (3, .int (nI n))]) hx hb dX7_mix_71 hl (by decide) rfl (fun ls hl => ?_)
    refine lv_lload_n hx hb dX7_mix_73 rfl (lv_at hl 3 rfl) ?_
    refine lv_lload hx hb dX7_mix_74 (lv_at hl 0 rfl) ?_
    refine lv_land hx hb dX7_mix_76 ?_
    refine lv_lload hx hb dX7_mix_77 (lv_at hl 1 rfl) ?_
    refine lv_lxor hx hb dX7_mix_79 ?_
    exact ct_lret hx hb hr hlk hP hK hD hS rfl dX7_mix_80
set_option maxHeartbeats 4000000 in
set_option maxRecDepth 100000 in
/-- BitStreams.begin(1) -/
theorem c_bs_begin1F (l : Launch) (D : va_G) (h0 kb sb ms kq sq m0 m1 m2 m3 r1 r2 : Nat) (rv : Value) (rn us : Int32) (kA sA mA : ClassId) (kz sz : Nat) (hkz : kz ≤ 32) (hsz : sz ≤ 12) (f g : Nat → Int32) (σ : R4) (ht : tk 16 12 (nI kz) (nI sz) = 0) : Cti l D yX7_begin wsX7_begin ({ frames := 6, cells := 0, slots := 0, locals := 120 } : Room) [.ref h0, .int 1] [(kA, .int), (sA, .int), (mA, .object "BitStreams$Machine")] [(h0, .inr (6, [.ref kb, .ref sb, .ref ms, rv, .int rn, .int us])), (ms, .inl (mA, 4, .inr (.inr (.inr (.inr (bs_ms m0 m1 m2 m3)))))), (kb, .inr (0, [.ref kq, .int (nI kz)])), (kq, .inl (kA, 32, .inl f)), (sb, .inr (0, [.ref sq, .int (nI sz)])), (sq, .inl (sA, 12, .inl g)), (m1, .inr (5, [.ref r1, .ref r2])), (r1, .inr (1, [.long σ.1.1, .long σ.1.2])), (r2, .inr (1, [.long σ.2.1, .long σ.2.2]))] [(h0, .inr (6, [.ref kb, .ref sb, .ref ms, rv, .int rn, .int us])), (ms, .inl (mA, 4, .inr (.inr (.inr (.inr (bs_ms m0 m1 m2 m3)))))), (kb, .inr (0, [.ref kq, .int (nI kz)])), (kq, .inl (kA, 32, .inl f)), (sb, .inr (0, [.ref sq, .int (nI sz)])), (sq, .inl (sA, 12, .inl g)), (m1, .inr (5, [.ref r1, .ref r2])), (r1, .inr (1, [.long σ.1.1, .long σ.1.2])), (r2, .inr (1, [.long σ.2.1, .long σ.2.2]))] 0 := by
  refine ct_of (cc := cX7_begin) (maxL := 3) (ret := (some .boolean)) (by decide) rfl (Nat.le_of_ble_eq_true rfl) ?_
  intro p e s m below meth c A H locs ls hx hb hr hml hts hown hlk hnm hF hP hK hD hA hS hl
  have hown : s.vm.findClass RX7 = some m.cls := hown
  have hl : lv_has ls 3 [(0, .ref h0), (1, .int 1)] := hl
  have hf_35 := hts (.fieldLink RX7 35 "BitStreams" "machines" "[LBitStreams$Machine;") (by decide +kernel)
  have hi_X7 : ∀ w ∈ u_ws RX7 TX7 6, w ∈ wsX7_begin := by decide +kernel
  have hf_14 := hts (.fieldLink RX7 14 "BitStreams" "keyBytes" "LBitStreams$Bytes;") (by decide +kernel)
  have cw_X0_size := cwV (R := ({ frames := 6, cells := 0, slots := 0, locals := 120 } : Room)) (rm := ({ frames := 0, cells := 0, slots := 0, locals := 0 } : Room)) 0 hts gX7_begin_X0_size rfl rfl rfl (by decide +kernel) ⟨Nat.le_of_ble_eq_true rfl, Nat.le_of_ble_eq_true rfl⟩
  have hf_18 := hts (.fieldLink RX7 18 "BitStreams" "startBytes" "LBitStreams$Bytes;") (by decide +kernel)
  have cw_X6_takes := va_cwA (R := ({ frames := 6, cells := 0, slots := 0, locals := 120 } : Room)) (rm := ({ frames := 0, cells := 0, slots := 0, locals := 0 } : Room)) 2 hts gX7_begin_X6_takes_u58X6 rfl rfl rfl hF.1.1 (by decide +kernel) ⟨Nat.le_of_ble_eq_true rfl, Nat.le_of_ble_eq_true rfl⟩
  refine lv_iload_n hx hb dX7_begin_0 rfl (lv_at hl 1 rfl) ?_
  refine lv_if_lt (tgt := 13) hx hb dX7_begin_1 (by decide) (fun hh => absurd hh (by decide)) (fun _ => ?_)
  refine lv_iload_n hx hb dX7_begin_4 rfl (lv_at hl 1 rfl) ?_
  refine lv_aload_n hx hb dX7_begin_5 rfl (lv_at hl 0 rfl) ?_
  refine va_get (D := D) (ci := 6) (v := .ref ms) (C := RX7) (T := TX7) (N := 6) hx hb hts hi_X7 hown hK hP 0 rfl rfl 2 (by decide) hf_35 (fun _ h9 => h9) rfl dX7_begin_6 ?_
  refine va_alen (v := nI 4) hx hb hK hP 1 2 rfl rfl rfl dX7_begin_9 ?_
  refine lv_icmp_lt (tgt := 15) hx hb dX7_begin_10 (by decide) (fun _ => ?_) (fun hh => absurd (by decide) hh)
  refine lv_aload_n hx hb dX7_begin_15 rfl (lv_at hl 0 rfl) ?_
  refine va_get (D := D) (ci := 6) (v := .ref ms) (C := RX7) (T := TX7) (N := 6) hx hb hts hi_X7 hown hK hP 0 rfl rfl 2 (by decide) hf_35 (fun _ h9 => h9) rfl dX7_begin_16 ?_
  refine lv_iload_n hx hb dX7_begin_19 rfl (lv_at hl 1 rfl) ?_
  refine va_aldq hx hb hK hP 1 2 rfl rfl (vp_in_nI (n := 1) (N := 4) (by decide) (by decide)) dX7_begin_20 ?_
  refine ct_topv (y := .ref m1) rfl ?_
  refine lv_astore_n (lv' := [(2, .ref m1), (0, .ref h0), (1, .int 1)]) hx hb dX7_begin_21 rfl hl (by decide) rfl (fun ls hl => ?_)
  refine lv_aload_n hx hb dX7_begin_22 rfl (lv_at hl 0 rfl) ?_
  refine lv_aload_n hx hb dX7_begin_23 rfl (lv_at hl 1 rfl) ?_
  refine va_get (D := D) (ci := 6) (v := .ref kb) (C := RX7) (T := TX7) (N := 6) hx hb hts hi_X7 hown hK hP 0 rfl rfl 0 (by decide) hf_14 (fun _ h9 => h9) rfl dX7_begin_24 ?_
  refine ct_callVi (As := []) (rest := [.ref m1]) (wr := [(h0, .inr (6, [.ref kb, .ref sb, .ref ms, rv, .int rn, .int us])), (ms, .inl (mA, 4, .inr (.inr (.inr (.inr (bs_ms m0 m1 m2 m3)))))), (kq, .inl (kA, 32, .inl f)), (sb, .inr (0, [.ref sq, .int (nI sz)])), (sq, .inl (sA, 12, .inl g)), (m1, .inr (5, [.ref r1, .ref r2])), (r1, .inr (1, [.long σ.1.1, .long σ.1.2])), (r2, .inr (1, [.long σ.2.1, .long σ.2.2]))]) (ws2 := [(h0, .inr (6, [.ref kb, .ref sb, .ref ms, rv, .int rn, .int us])), (ms, .inl (mA, 4, .inr (.inr (.inr (.inr (bs_ms m0 m1 m2 m3)))))), (kb, .inr (0, [.ref kq, .int (nI kz)])), (kq, .inl (kA, 32, .inl f)), (sb, .inr (0, [.ref sq, .int (nI sz)])), (sq, .inl (sA, 12, .inl g)), (m1, .inr (5, [.ref r1, .ref r2])), (r1, .inr (1, [.long σ.1.1, .long σ.1.2])), (r2, .inr (1, [.long σ.2.1, .long σ.2.2]))]) ⟨hx, hb, hml, hown, hts⟩ (c_by_size l D kb kq (nI kz)) cw_X0_size [] rfl [2] [0, 1, 3, 4, 5, 6, 7, 8] [0, 1, 8, 2, 3, 4, 5, 6, 7] hF hK hP hD hS hA 0 0 rfl rfl rfl rfl (by decide) rfl (by decide) (by decide) rfl (by decide) rfl hl.1 rfl (Nat.le_of_ble_eq_true rfl) dX7_begin_27 ⟨Nat.zero_le _, Nat.zero_le _⟩ (fun H locs hP hD hS => ?_)
  refine lv_aload_n hx hb dX7_begin_30 rfl (lv_at hl 1 rfl) ?_
  refine va_get (D := D) (ci := 6) (v := .ref sb) (C := RX7) (T := TX7) (N := 6) hx hb hts hi_X7 hown hK hP 0 rfl rfl 1 (by decide) hf_18 (fun _ h9 => h9) rfl dX7_begin_31 ?_
  refine ct_callVi (As := []) (rest := [.int (nI kz), .ref m1]) (wr := [(h0, .inr (6, [.ref kb, .ref sb, .ref ms, rv, .int rn, .int us])), (ms, .inl (mA, 4, .inr (.inr (.inr (.inr (bs_ms m0 m1 m2 m3)))))), (kb, .inr (0, [.ref kq, .int (nI kz)])), (kq, .inl (kA, 32, .inl f)), (sq, .inl (sA, 12, .inl g)), (m1, .inr (5, [.ref r1, .ref r2])), (r1, .inr (1, [.long σ.1.1, .long σ.1.2])), (r2, .inr (1, [.long σ.2.1, .long σ.2.2]))]) (ws2 := [(h0, .inr (6, [.ref kb, .ref sb, .ref ms, rv, .int rn, .int us])), (ms, .inl (mA, 4, .inr (.inr (.inr (.inr (bs_ms m0 m1 m2 m3)))))), (kb, .inr (0, [.ref kq, .int (nI kz)])), (kq, .inl (kA, 32, .inl f)), (sb, .inr (0, [.ref sq, .int (nI sz)])), (sq, .inl (sA, 12, .inl g)), (m1, .inr (5, [.ref r1, .ref r2])), (r1, .inr (1, [.long σ.1.1, .long σ.1.2])), (r2, .inr (1, [.long σ.2.1, .long σ.2.2]))]) ⟨hx, hb, hml, hown, hts⟩ (c_by_size l D sb sq (nI sz)) cw_X0_size [] rfl [4] [0, 1, 2, 3, 5, 6, 7, 8] [0, 1, 2, 3, 8, 4, 5, 6, 7] hF hK hP hD hS hA 0 0 rfl rfl rfl rfl (by decide) rfl (by decide) (by decide) rfl (by decide) rfl hl.1 rfl (Nat.le_of_ble_eq_true rfl) dX7_begin_34 ⟨Nat.zero_le _, Nat.zero_le _⟩ (fun H locs hP hD hS => ?_)
  refine ct_callUi (As := [.int (nI kz), .int (nI sz)]) (rest := []) (wr := [(h0, .inr (6, [.ref kb, .ref sb, .ref ms, rv, .int rn, .int us])), (ms, .inl (mA, 4, .inr (.inr (.inr (.inr (bs_ms m0 m1 m2 m3)))))), (kb, .inr (0, [.ref kq, .int (nI kz)])), (kq, .inl (kA, 32, .inl f)), (sb, .inr (0, [.ref sq, .int (nI sz)])), (sq, .inl (sA, 12, .inl g)), (r1, .inr (1, [.long σ.1.1, .long σ.1.2])), (r2, .inr (1, [.long σ.2.1, .long σ.2.2]))]) (ws2 := [(h0, .inr (6, [.ref kb, .ref sb, .ref ms, rv, .int rn, .int us])), (ms, .inl (mA, 4, .inr (.inr (.inr (.inr (bs_ms m0 m1 m2 m3)))))), (kb, .inr (0, [.ref kq, .int (nI kz)])), (kq, .inl (kA, 32, .inl f)), (sb, .inr (0, [.ref sq, .int (nI sz)])), (sq, .inl (sA, 12, .inl g)), (m1, .inr (5, [.ref r1, .ref r2])), (r1, .inr (1, [.long σ.1.1, .long σ.1.2])), (r2, .inr (1, [.long σ.2.1, .long σ.2.2]))]) ⟨hx, hb, hml, hown, hts⟩ (c_tw_takes l D m1 r1 r2 (nI kz) (nI sz)) cw_X6_takes [] rfl [6] [0, 1, 2, 3, 4, 5, 7, 8] [0, 1, 2, 3, 4, 5, 8, 6, 7] hF hK hP hD hS hA 0 5 rfl rfl rfl rfl (by decide) rfl (by decide) (by decide) rfl (by decide) rfl hl.1 rfl (Nat.le_of_ble_eq_true rfl) dX7_begin_37 ⟨Nat.zero_le _, Nat.zero_le _⟩ (fun H locs hP hD hS => ?_)
  refine lv_if_ne (tgt := 45) hx hb dX7_begin_40 (by decide) (fun hh => absurd ht hh) (fun _ => ?_)
  refine lv_iconst (v := 0) hx hb dX7_begin_43 (by decide) ?_
  exact ct_zret hx hb hr hlk hP hK hD hS rfl rfl dX7_begin_44
set_option maxHeartbeats 4000000 in
set_option maxRecDepth 100000 in
/-- BitStreams.begin(1) -/
theorem c_bs_begin1T (l : Launch) (D : va_G) (h0 kb sb ms kq sq m0 m1 m2 m3 r1 r2 : Nat) (rv : Value) (rn us : Int32) (kA sA mA : ClassId) (kz sz : Nat) (hkz : kz ≤ 32) (hsz : sz ≤ 12) (f g : Nat → Int32) (σ : R4) (ht : tk 16 12 (nI kz) (nI sz) = 1) : Cti l D yX7_begin wsX7_begin ({ frames := 6, cells := 0, slots := 0, locals := 120 } : Room) [.ref h0, .int 1] [(kA, .int), (sA, .int), (mA, .object "BitStreams$Machine")] [(h0, .inr (6, [.ref kb, .ref sb, .ref ms, rv, .int rn, .int us])), (ms, .inl (mA, 4, .inr (.inr (.inr (.inr (bs_ms m0 m1 m2 m3)))))), (kb, .inr (0, [.ref kq, .int (nI kz)])), (kq, .inl (kA, 32, .inl f)), (sb, .inr (0, [.ref sq, .int (nI sz)])), (sq, .inl (sA, 12, .inl g)), (m1, .inr (5, [.ref r1, .ref r2])), (r1, .inr (1, [.long σ.1.1, .long σ.1.2])), (r2, .inr (1, [.long σ.2.1, .long σ.2.2]))] [(h0, .inr (6, [.ref kb, .ref sb, .ref ms, .ref m1, .int 1, .int 0])), (ms, .inl (mA, 4, .inr (.inr (.inr (.inr (bs_ms m0 m1 m2 m3)))))), (kb, .inr (0, [.ref kq, .int (nI 0)])), (kq, .inl (kA, 32, .inl f)), (sb, .inr (0, [.ref sq, .int (nI 0)])), (sq, .inl (sA, 12, .inl g)), (m1, .inr (5, [.ref r1, .ref r2])), (r1, .inr (1, [.long (((tw_load f (nI kz) g (nI sz)).1).1), .long (((tw_load f (nI kz) g (nI sz)).1).2)])), (r2, .inr (1, [.long (((tw_load f (nI kz) g (nI sz)).2).1), .long (((tw_load f (nI kz) g (nI sz)).2).2)]))] 1 := by
  refine ct_of (cc := cX7_begin) (maxL := 3) (ret := (some .boolean)) (by decide) rfl (Nat.le_of_ble_eq_true rfl) ?_
  intro p e s m below meth c A H locs ls hx hb hr hml hts hown hlk hnm hF hP hK hD hA hS hl
  have hown : s.vm.findClass RX7 = some m.cls := hown
  have hl : lv_has ls 3 [(0, .ref h0), (1, .int 1)] := hl
  have hf_35 := hts (.fieldLink RX7 35 "BitStreams" "machines" "[LBitStreams$Machine;") (by decide +kernel)
  have hi_X7 : ∀ w ∈ u_ws RX7 TX7 6, w ∈ wsX7_begin := by decide +kernel
  have hf_14 := hts (.fieldLink RX7 14 "BitStreams" "keyBytes" "LBitStreams$Bytes;") (by decide +kernel)
  have cw_X0_size := cwV (R := ({ frames := 6, cells := 0, slots := 0, locals := 120 } : Room)) (rm := ({ frames := 0, cells := 0, slots := 0, locals := 0 } : Room)) 0 hts gX7_begin_X0_size rfl rfl rfl (by decide +kernel) ⟨Nat.le_of_ble_eq_true rfl, Nat.le_of_ble_eq_true rfl⟩
  have hf_18 := hts (.fieldLink RX7 18 "BitStreams" "startBytes" "LBitStreams$Bytes;") (by decide +kernel)
  have cw_X6_takes := va_cwA (R := ({ frames := 6, cells := 0, slots := 0, locals := 120 } : Room)) (rm := ({ frames := 0, cells := 0, slots := 0, locals := 0 } : Room)) 2 hts gX7_begin_X6_takes_u58X6 rfl rfl rfl hF.1.1 (by decide +kernel) ⟨Nat.le_of_ble_eq_true rfl, Nat.le_of_ble_eq_true rfl⟩
  have cw_X6_load := va_cwA (R := ({ frames := 6, cells := 0, slots := 0, locals := 120 } : Room)) (rm := ({ frames := 3, cells := 0, slots := 0, locals := 64 } : Room)) 2 hts gX7_begin_X6_load_u62X6 rfl rfl rfl hF.1.2.1 (by decide +kernel) ⟨Nat.le_of_ble_eq_true rfl, Nat.le_of_ble_eq_true rfl⟩
  have cw_X0_clear := cwV (R := ({ frames := 6, cells := 0, slots := 0, locals := 120 } : Room)) (rm := ({ frames := 0, cells := 0, slots := 0, locals := 0 } : Room)) 0 hts gX7_begin_X0_clear rfl rfl rfl (by decide +kernel) ⟨Nat.le_of_ble_eq_true rfl, Nat.le_of_ble_eq_true rfl⟩
  have hf_39 := hts (.fieldLink RX7 39 "BitStreams" "running" "LBitStreams$Machine;") (by decide +kernel)
  have hf_43 := hts (.fieldLink RX7 43 "BitStreams" "runningNumber" "I") (by decide +kernel)
  have hf_47 := hts (.fieldLink RX7 47 "BitStreams" "used" "I") (by decide +kernel)
  refine lv_iload_n hx hb dX7_begin_0 rfl (lv_at hl 1 rfl) ?_
  refine lv_if_lt (tgt := 13) hx hb dX7_begin_1 (by decide) (fun hh => absurd hh (by decide)) (fun _ => ?_)
  refine lv_iload_n hx hb dX7_begin_4 rfl (lv_at hl 1 rfl) ?_
  refine lv_aload_n hx hb dX7_begin_5 rfl (lv_at hl 0 rfl) ?_
  refine va_get (D := D) (ci := 6) (v := .ref ms) (C := RX7) (T := TX7) (N := 6) hx hb hts hi_X7 hown hK hP 0 rfl rfl 2 (by decide) hf_35 (fun _ h9 => h9) rfl dX7_begin_6 ?_
  refine va_alen (v := nI 4) hx hb hK hP 1 2 rfl rfl rfl dX7_begin_9 ?_
  refine lv_icmp_lt (tgt := 15) hx hb dX7_begin_10 (by decide) (fun _ => ?_) (fun hh => absurd (by decide) hh)
  refine lv_aload_n hx hb dX7_begin_15 rfl (lv_at hl 0 rfl) ?_
  refine va_get (D := D) (ci := 6) (v := .ref ms) (C := RX7) (T := TX7) (N := 6) hx hb hts hi_X7 hown hK hP 0 rfl rfl 2 (by decide) hf_35 (fun _ h9 => h9) rfl dX7_begin_16 ?_
  refine lv_iload_n hx hb dX7_begin_19 rfl (lv_at hl 1 rfl) ?_
  refine va_aldq hx hb hK hP 1 2 rfl rfl (vp_in_nI (n := 1) (N := 4) (by decide) (by decide)) dX7_begin_20 ?_
  refine ct_topv (y := .ref m1) rfl ?_
  refine lv_astore_n (lv' := [(2, .ref m1), (0, .ref h0), (1, .int 1)]) hx hb dX7_begin_21 rfl hl (by decide) rfl (fun ls hl => ?_)
  refine lv_aload_n hx hb dX7_begin_22 rfl (lv_at hl 0 rfl) ?_
  refine lv_aload_n hx hb dX7_begin_23 rfl (lv_at hl 1 rfl) ?_
  refine va_get (D := D) (ci := 6) (v := .ref kb) (C := RX7) (T := TX7) (N := 6) hx hb hts hi_X7 hown hK hP 0 rfl rfl 0 (by decide) hf_14 (fun _ h9 => h9) rfl dX7_begin_24 ?_
  refine ct_callVi (As := []) (rest := [.ref m1]) (wr := [(h0, .inr (6, [.ref kb, .ref sb, .ref ms, rv, .int rn, .int us])), (ms, .inl (mA, 4, .inr (.inr (.inr (.inr (bs_ms m0 m1 m2 m3)))))), (kq, .inl (kA, 32, .inl f)), (sb, .inr (0, [.ref sq, .int (nI sz)])), (sq, .inl (sA, 12, .inl g)), (m1, .inr (5, [.ref r1, .ref r2])), (r1, .inr (1, [.long σ.1.1, .long σ.1.2])), (r2, .inr (1, [.long σ.2.1, .long σ.2.2]))]) (ws2 := [(h0, .inr (6, [.ref kb, .ref sb, .ref ms, rv, .int rn, .int us])), (ms, .inl (mA, 4, .inr (.inr (.inr (.inr (bs_ms m0 m1 m2 m3)))))), (kb, .inr (0, [.ref kq, .int (nI kz)])), (kq, .inl (kA, 32, .inl f)), (sb, .inr (0, [.ref sq, .int (nI sz)])), (sq, .inl (sA, 12, .inl g)), (m1, .inr (5, [.ref r1, .ref r2])), (r1, .inr (1, [.long σ.1.1, .long σ.1.2])), (r2, .inr (1, [.long σ.2.1, .long σ.2.2]))]) ⟨hx, hb, hml, hown, hts⟩ (c_by_size l D kb kq (nI kz)) cw_X0_size [] rfl [2] [0, 1, 3, 4, 5, 6, 7, 8] [0, 1, 8, 2, 3, 4, 5, 6, 7] hF hK hP hD hS hA 0 0 rfl rfl rfl rfl (by decide) rfl (by decide) (by decide) rfl (by decide) rfl hl.1 rfl (Nat.le_of_ble_eq_true rfl) dX7_begin_27 ⟨Nat.zero_le _, Nat.zero_le _⟩ (fun H locs hP hD hS => ?_)
  refine lv_aload_n hx hb dX7_begin_30 rfl (lv_at hl 1 rfl) ?_
  refine va_get (D := D) (ci := 6) (v := .ref sb) (C := RX7) (T := TX7) (N := 6) hx hb hts hi_X7 hown hK hP 0 rfl rfl 1 (by decide) hf_18 (fun _ h9 => h9) rfl dX7_begin_31 ?_
  refine ct_callVi (As := []) (rest := [.int (nI kz), .ref m1]) (wr := [(h0, .inr (6, [.ref kb, .ref sb, .ref ms, rv, .int rn, .int us])), (ms, .inl (mA, 4, .inr (.inr (.inr (.inr (bs_ms m0 m1 m2 m3)))))), (kb, .inr (0, [.ref kq, .int (nI kz)])), (kq, .inl (kA, 32, .inl f)), (sq, .inl (sA, 12, .inl g)), (m1, .inr (5, [.ref r1, .ref r2])), (r1, .inr (1, [.long σ.1.1, .long σ.1.2])), (r2, .inr (1, [.long σ.2.1, .long σ.2.2]))]) (ws2 := [(h0, .inr (6, [.ref kb, .ref sb, .ref ms, rv, .int rn, .int us])), (ms, .inl (mA, 4, .inr (.inr (.inr (.inr (bs_ms m0 m1 m2 m3)))))), (kb, .inr (0, [.ref kq, .int (nI kz)])), (kq, .inl (kA, 32, .inl f)), (sb, .inr (0, [.ref sq, .int (nI sz)])), (sq, .inl (sA, 12, .inl g)), (m1, .inr (5, [.ref r1, .ref r2])), (r1, .inr (1, [.long σ.1.1, .long σ.1.2])), (r2, .inr (1, [.long σ.2.1, .long σ.2.2]))]) ⟨hx, hb, hml, hown, hts⟩ (c_by_size l D sb sq (nI sz)) cw_X0_size [] rfl [4] [0, 1, 2, 3, 5, 6, 7, 8] [0, 1, 2, 3, 8, 4, 5, 6, 7] hF hK hP hD hS hA 0 0 rfl rfl rfl rfl (by decide) rfl (by decide) (by decide) rfl (by decide) rfl hl.1 rfl (Nat.le_of_ble_eq_true rfl) dX7_begin_34 ⟨Nat.zero_le _, Nat.zero_le _⟩ (fun H locs hP hD hS => ?_)
  refine ct_callUi (As := [.int (nI kz), .int (nI sz)]) (rest := []) (wr := [(h0, .inr (6, [.ref kb, .ref sb, .ref ms, rv, .int rn, .int us])), (ms, .inl (mA, 4, .inr (.inr (.inr (.inr (bs_ms m0 m1 m2 m3)))))), (kb, .inr (0, [.ref kq, .int (nI kz)])), (kq, .inl (kA, 32, .inl f)), (sb, .inr (0, [.ref sq, .int (nI sz)])), (sq, .inl (sA, 12, .inl g)), (r1, .inr (1, [.long σ.1.1, .long σ.1.2])), (r2, .inr (1, [.long σ.2.1, .long σ.2.2]))]) (ws2 := [(h0, .inr (6, [.ref kb, .ref sb, .ref ms, rv, .int rn, .int us])), (ms, .inl (mA, 4, .inr (.inr (.inr (.inr (bs_ms m0 m1 m2 m3)))))), (kb, .inr (0, [.ref kq, .int (nI kz)])), (kq, .inl (kA, 32, .inl f)), (sb, .inr (0, [.ref sq, .int (nI sz)])), (sq, .inl (sA, 12, .inl g)), (m1, .inr (5, [.ref r1, .ref r2])), (r1, .inr (1, [.long σ.1.1, .long σ.1.2])), (r2, .inr (1, [.long σ.2.1, .long σ.2.2]))]) ⟨hx, hb, hml, hown, hts⟩ (c_tw_takes l D m1 r1 r2 (nI kz) (nI sz)) cw_X6_takes [] rfl [6] [0, 1, 2, 3, 4, 5, 7, 8] [0, 1, 2, 3, 4, 5, 8, 6, 7] hF hK hP hD hS hA 0 5 rfl rfl rfl rfl (by decide) rfl (by decide) (by decide) rfl (by decide) rfl hl.1 rfl (Nat.le_of_ble_eq_true rfl) dX7_begin_37 ⟨Nat.zero_le _, Nat.zero_le _⟩ (fun H locs hP hD hS => ?_)
  refine lv_if_ne (tgt := 45) hx hb dX7_begin_40 (by decide) (fun _ => ?_) (fun hh => absurd hh (by rw [ht]; decide))
  refine lv_aload_n hx hb dX7_begin_45 rfl (lv_at hl 0 rfl) ?_
  refine lv_aload_n hx hb dX7_begin_46 rfl (lv_at hl 1 rfl) ?_
  refine va_get (D := D) (ci := 6) (v := .ref kb) (C := RX7) (T := TX7) (N := 6) hx hb hts hi_X7 hown hK hP 0 rfl rfl 0 (by decide) hf_14 (fun _ h9 => h9) rfl dX7_begin_47 ?_
  refine lv_aload_n hx hb dX7_begin_50 rfl (lv_at hl 1 rfl) ?_
  refine va_get (D := D) (ci := 6) (v := .ref sb) (C := RX7) (T := TX7) (N := 6) hx hb hts hi_X7 hown hK hP 0 rfl rfl 1 (by decide) hf_18 (fun _ h9 => h9) rfl dX7_begin_51 ?_
  refine ct_callUv (As := [.ref kb, .ref sb]) (rest := []) (wr := [(h0, .inr (6, [.ref kb, .ref sb, .ref ms, rv, .int rn, .int us])), (ms, .inl (mA, 4, .inr (.inr (.inr (.inr (bs_ms m0 m1 m2 m3))))))]) (ws2 := [(h0, .inr (6, [.ref kb, .ref sb, .ref ms, rv, .int rn, .int us])), (ms, .inl (mA, 4, .inr (.inr (.inr (.inr (bs_ms m0 m1 m2 m3)))))), (kb, .inr (0, [.ref kq, .int (nI kz)])), (kq, .inl (kA, 32, .inl f)), (sb, .inr (0, [.ref sq, .int (nI sz)])), (sq, .inl (sA, 12, .inl g)), (m1, .inr (5, [.ref r1, .ref r2])), (r1, .inr (1, [.long (((tw_load f (nI kz) g (nI sz)).1).1), .long (((tw_load f (nI kz) g (nI sz)).1).2)])), (r2, .inr (1, [.long (((tw_load f (nI kz) g (nI sz)).2).1), .long (((tw_load f (nI kz) g (nI sz)).2).2)]))]) ⟨hx, hb, hml, hown, hts⟩ (c_tw_load l D m1 r1 r2 kb kq sb sq kA sA 32 kz 12 sz hkz (by decide) hsz (by decide) f g σ) cw_X6_load [0, 1] rfl [6, 7, 8, 2, 3, 4, 5] [0, 1] [0, 1, 5, 6, 7, 8, 2, 3, 4] hF hK hP hD hS hA 0 5 rfl rfl rfl rfl (by decide) rfl (by decide) (by decide) rfl (by decide) rfl hl.1 rfl (Nat.le_of_ble_eq_true rfl) dX7_begin_54 ⟨Nat.zero_le _, Nat.zero_le _⟩ (fun H locs hP hD hS => ?_)
  refine lv_aload_n hx hb dX7_begin_57 rfl (lv_at hl 1 rfl) ?_
  refine va_get (D := D) (ci := 6) (v := .ref kb) (C := RX7) (T := TX7) (N := 6) hx hb hts hi_X7 hown hK hP 0 rfl rfl 0 (by decide) hf_14 (fun _ h9 => h9) rfl dX7_begin_58 ?_
  refine ct_callVv (As := []) (rest := []) (wr := [(h0, .inr (6, [.ref kb, .ref sb, .ref ms, rv, .int rn, .int us])), (ms, .inl (mA, 4, .inr (.inr (.inr (.inr (bs_ms m0 m1 m2 m3)))))), (kq, .inl (kA, 32, .inl f)), (sb, .inr (0, [.ref sq, .int (nI sz)])), (sq, .inl (sA, 12, .inl g)), (m1, .inr (5, [.ref r1, .ref r2])), (r1, .inr (1, [.long (((tw_load f (nI kz) g (nI sz)).1).1), .long (((tw_load f (nI kz) g (nI sz)).1).2)])), (r2, .inr (1, [.long (((tw_load f (nI kz) g (nI sz)).2).1), .long (((tw_load f (nI kz) g (nI sz)).2).2)]))]) (ws2 := [(h0, .inr (6, [.ref kb, .ref sb, .ref ms, rv, .int rn, .int us])), (ms, .inl (mA, 4, .inr (.inr (.inr (.inr (bs_ms m0 m1 m2 m3)))))), (kb, .inr (0, [.ref kq, .int (nI 0)])), (kq, .inl (kA, 32, .inl f)), (sb, .inr (0, [.ref sq, .int (nI sz)])), (sq, .inl (sA, 12, .inl g)), (m1, .inr (5, [.ref r1, .ref r2])), (r1, .inr (1, [.long (((tw_load f (nI kz) g (nI sz)).1).1), .long (((tw_load f (nI kz) g (nI sz)).1).2)])), (r2, .inr (1, [.long (((tw_load f (nI kz) g (nI sz)).2).1), .long (((tw_load f (nI kz) g (nI sz)).2).2)]))]) ⟨hx, hb, hml, hown, hts⟩ (c_by_clr l D kb kq (nI kz)) cw_X0_clear [] rfl [2] [0, 1, 3, 4, 5, 6, 7, 8] [0, 1, 8, 2, 3, 4, 5, 6, 7] hF hK hP hD hS hA 0 0 rfl rfl rfl rfl (by decide) rfl (by decide) (by decide) rfl (by decide) rfl hl.1 rfl (Nat.le_of_ble_eq_true rfl) dX7_begin_61 ⟨Nat.zero_le _, Nat.zero_le _⟩ (fun H locs hP hD hS => ?_)
  refine lv_aload_n hx hb dX7_begin_64 rfl (lv_at hl 1 rfl) ?_
  refine va_get (D := D) (ci := 6) (v := .ref sb) (C := RX7) (T := TX7) (N := 6) hx hb hts hi_X7 hown hK hP 0 rfl rfl 1 (by decide) hf_18 (fun _ h9 => h9) rfl dX7_begin_65 ?_
  refine ct_callVv (As := []) (rest := []) (wr := [(h0, .inr (6, [.ref kb, .ref sb, .ref ms, rv, .int rn, .int us])), (ms, .inl (mA, 4, .inr (.inr (.inr (.inr (bs_ms m0 m1 m2 m3)))))), (kb, .inr (0, [.ref kq, .int (nI 0)])), (kq, .inl (kA, 32, .inl f)), (sq, .inl (sA, 12, .inl g)), (m1, .inr (5, [.ref r1, .ref r2])), (r1, .inr (1, [.long (((tw_load f (nI kz) g (nI sz)).1).1), .long (((tw_load f (nI kz) g (nI sz)).1).2)])), (r2, .inr (1, [.long (((tw_load f (nI kz) g (nI sz)).2).1), .long (((tw_load f (nI kz) g (nI sz)).2).2)]))]) (ws2 := [(h0, .inr (6, [.ref kb, .ref sb, .ref ms, rv, .int rn, .int us])), (ms, .inl (mA, 4, .inr (.inr (.inr (.inr (bs_ms m0 m1 m2 m3)))))), (kb, .inr (0, [.ref kq, .int (nI 0)])), (kq, .inl (kA, 32, .inl f)), (sb, .inr (0, [.ref sq, .int (nI 0)])), (sq, .inl (sA, 12, .inl g)), (m1, .inr (5, [.ref r1, .ref r2])), (r1, .inr (1, [.long (((tw_load f (nI kz) g (nI sz)).1).1), .long (((tw_load f (nI kz) g (nI sz)).1).2)])), (r2, .inr (1, [.long (((tw_load f (nI kz) g (nI sz)).2).1), .long (((tw_load f (nI kz) g (nI sz)).2).2)]))]) ⟨hx, hb, hml, hown, hts⟩ (c_by_clr l D sb sq (nI sz)) cw_X0_clear [] rfl [4] [0, 1, 2, 3, 5, 6, 7, 8] [0, 1, 2, 3, 8, 4, 5, 6, 7] hF hK hP hD hS hA 0 0 rfl rfl rfl rfl (by decide) rfl (by decide) (by decide) rfl (by decide) rfl hl.1 rfl (Nat.le_of_ble_eq_true rfl) dX7_begin_68 ⟨Nat.zero_le _, Nat.zero_le _⟩ (fun H locs hP hD hS => ?_)
  refine lv_aload_n hx hb dX7_begin_71 rfl (lv_at hl 1 rfl) ?_
  refine lv_aload_n hx hb dX7_begin_72 rfl (lv_at hl 0 rfl) ?_
  refine va_put (D := D) (ci := 6) (v := .ref m1) (ty := .object "BitStreams$Machine") (C := RX7) (T := TX7) (N := 6) hx hb hts hi_X7 tyX7 tyX7_ok nmX7 hown hK hP hD hS 0 rfl rfl 3 (by decide) hf_39 (fun _ h9 => h9) rfl (by decide +kernel) rfl rfl (Nat.le_of_ble_eq_true rfl) dX7_begin_73 (fun H locs hP hD hS => ?_)
  have hP : va_P D vwCl [(h0, .inr (6, [.ref kb, .ref sb, .ref ms, .ref m1, .int rn, .int us])), (ms, .inl (mA, 4, .inr (.inr (.inr (.inr (bs_ms m0 m1 m2 m3)))))), (kb, .inr (0, [.ref kq, .int (nI 0)])), (kq, .inl (kA, 32, .inl f)), (sb, .inr (0, [.ref sq, .int (nI 0)])), (sq, .inl (sA, 12, .inl g)), (m1, .inr (5, [.ref r1, .ref r2])), (r1, .inr (1, [.long (((tw_load f (nI kz) g (nI sz)).1).1), .long (((tw_load f (nI kz) g (nI sz)).1).2)])), (r2, .inr (1, [.long (((tw_load f (nI kz) g (nI sz)).2).1), .long (((tw_load f (nI kz) g (nI sz)).2).2)]))] H := hP
  have hD : va_D A [(h0, .inr (6, [.ref kb, .ref sb, .ref ms, .ref m1, .int rn, .int us])), (ms, .inl (mA, 4, .inr (.inr (.inr (.inr (bs_ms m0 m1 m2 m3)))))), (kb, .inr (0, [.ref kq, .int (nI 0)])), (kq, .inl (kA, 32, .inl f)), (sb, .inr (0, [.ref sq, .int (nI 0)])), (sq, .inl (sA, 12, .inl g)), (m1, .inr (5, [.ref r1, .ref r2])), (r1, .inr (1, [.long (((tw_load f (nI kz) g (nI sz)).1).1), .long (((tw_load f (nI kz) g (nI sz)).1).2)])), (r2, .inr (1, [.long (((tw_load f (nI kz) g (nI sz)).2).1), .long (((tw_load f (nI kz) g (nI sz)).2).2)]))] := hD
  refine lv_aload_n hx hb dX7_begin_76 rfl (lv_at hl 1 rfl) ?_
  refine lv_iload_n hx hb dX7_begin_77 rfl (lv_at hl 2 rfl) ?_
  refine va_put (D := D) (ci := 6) (v := .int 1) (ty := .int) (C := RX7) (T := TX7) (N := 6) hx hb hts hi_X7 tyX7 tyX7_ok nmX7 hown hK hP hD hS 0 rfl rfl 4 (by decide) hf_43 (fun _ h9 => h9) rfl (by decide +kernel) rfl rfl (Nat.le_of_ble_eq_true rfl) dX7_begin_78 (fun H locs hP hD hS => ?_)
  have hP : va_P D vwCl [(h0, .inr (6, [.ref kb, .ref sb, .ref ms, .ref m1, .int 1, .int us])), (ms, .inl (mA, 4, .inr (.inr (.inr (.inr (bs_ms m0 m1 m2 m3)))))), (kb, .inr (0, [.ref kq, .int (nI 0)])), (kq, .inl (kA, 32, .inl f)), (sb, .inr (0, [.ref sq, .int (nI 0)])), (sq, .inl (sA, 12, .inl g)), (m1, .inr (5, [.ref r1, .ref r2])), (r1, .inr (1, [.long (((tw_load f (nI kz) g (nI sz)).1).1), .long (((tw_load f (nI kz) g (nI sz)).1).2)])), (r2, .inr (1, [.long (((tw_load f (nI kz) g (nI sz)).2).1), .long (((tw_load f (nI kz) g (nI sz)).2).2)]))] H := hP
  have hD : va_D A [(h0, .inr (6, [.ref kb, .ref sb, .ref ms, .ref m1, .int 1, .int us])), (ms, .inl (mA, 4, .inr (.inr (.inr (.inr (bs_ms m0 m1 m2 m3)))))), (kb, .inr (0, [.ref kq, .int (nI 0)])), (kq, .inl (kA, 32, .inl f)), (sb, .inr (0, [.ref sq, .int (nI 0)])), (sq, .inl (sA, 12, .inl g)), (m1, .inr (5, [.ref r1, .ref r2])), (r1, .inr (1, [.long (((tw_load f (nI kz) g (nI sz)).1).1), .long (((tw_load f (nI kz) g (nI sz)).1).2)])), (r2, .inr (1, [.long (((tw_load f (nI kz) g (nI sz)).2).1), .long (((tw_load f (nI kz) g (nI sz)).2).2)]))] := hD
  refine lv_aload_n hx hb dX7_begin_81 rfl (lv_at hl 1 rfl) ?_
  refine lv_iconst (v := 0) hx hb dX7_begin_82 (by decide) ?_
  refine va_put (D := D) (ci := 6) (v := .int 0) (ty := .int) (C := RX7) (T := TX7) (N := 6) hx hb hts hi_X7 tyX7 tyX7_ok nmX7 hown hK hP hD hS 0 rfl rfl 5 (by decide) hf_47 (fun _ h9 => h9) rfl (by decide +kernel) rfl rfl (Nat.le_of_ble_eq_true rfl) dX7_begin_83 (fun H locs hP hD hS => ?_)
  have hP : va_P D vwCl [(h0, .inr (6, [.ref kb, .ref sb, .ref ms, .ref m1, .int 1, .int 0])), (ms, .inl (mA, 4, .inr (.inr (.inr (.inr (bs_ms m0 m1 m2 m3)))))), (kb, .inr (0, [.ref kq, .int (nI 0)])), (kq, .inl (kA, 32, .inl f)), (sb, .inr (0, [.ref sq, .int (nI 0)])), (sq, .inl (sA, 12, .inl g)), (m1, .inr (5, [.ref r1, .ref r2])), (r1, .inr (1, [.long (((tw_load f (nI kz) g (nI sz)).1).1), .long (((tw_load f (nI kz) g (nI sz)).1).2)])), (r2, .inr (1, [.long (((tw_load f (nI kz) g (nI sz)).2).1), .long (((tw_load f (nI kz) g (nI sz)).2).2)]))] H := hP
  have hD : va_D A [(h0, .inr (6, [.ref kb, .ref sb, .ref ms, .ref m1, .int 1, .int 0])), (ms, .inl (mA, 4, .inr (.inr (.inr (.inr (bs_ms m0 m1 m2 m3)))))), (kb, .inr (0, [.ref kq, .int (nI 0)])), (kq, .inl (kA, 32, .inl f)), (sb, .inr (0, [.ref sq, .int (nI 0)])), (sq, .inl (sA, 12, .inl g)), (m1, .inr (5, [.ref r1, .ref r2])), (r1, .inr (1, [.long (((tw_load f (nI kz) g (nI sz)).1).1), .long (((tw_load f (nI kz) g (nI sz)).1).2)])), (r2, .inr (1, [.long (((tw_load f (nI kz) g (nI sz)).2).1), .long (((tw_load f (nI kz) g (nI sz)).2).2)]))] := hD
  refine lv_iconst (v := 1) hx hb dX7_begin_86 (by decide) ?_
  exact ct_zret hx hb hr hlk hP hK hD hS rfl rfl dX7_begin_87
set_option maxHeartbeats 4000000 in
set_option maxRecDepth 100000 in
/-- BitStreams.skip, machine 2 -/
theorem c_bs_skip2 (l : Launch) (D : va_G) (h0 kb sb ms m2 r1 r2 r3 : Nat) (rn us : Int32) (σ : R6) (n : Nat) (hn : n ≤ 5000) : Cti l D yX7_skip wsX7_skip ({ frames := 6, cells := 0, slots := 0, locals := 120 } : Room) [.ref h0, .int (nI n)] [] [(h0, .inr (6, [.ref kb, .ref sb, .ref ms, .ref m2, .int rn, .int us])), (m2, .inr (4, [.ref r1, .ref r2, .ref r3])), (r1, .inr (1, [.long σ.1.1, .long σ.1.2])), (r2, .inr (1, [.long σ.2.1.1, .long σ.2.1.2])), (r3, .inr (1, [.long σ.2.2.1, .long σ.2.2.2]))] [(h0, .inr (6, [.ref kb, .ref sb, .ref ms, .ref m2, .int rn, .int (us + nI n)])), (m2, .inr (4, [.ref r1, .ref r2, .ref r3])), (r1, .inr (1, [.long (((mit ss_step σ n).1).1), .long (((mit ss_step σ n).1).2)])), (r2, .inr (1, [.long (((mit ss_step σ n).2.1).1), .long (((mit ss_step σ n).2.1).2)])), (r3, .inr (1, [.long (((mit ss_step σ n).2.2).1), .long (((mit ss_step σ n).2.2).2)]))] 1 := by
  refine ct_of (cc := cX7_skip) (maxL := 3) (ret := (some .boolean)) (by decide) rfl (Nat.le_of_ble_eq_true rfl) ?_
  intro p e s m below meth c A H locs ls hx hb hr hml hts hown hlk hnm hF hP hK hD hA hS hl
  have hown : s.vm.findClass RX7 = some m.cls := hown
  have hl : lv_has ls 3 [(0, .ref h0), (1, .int (nI n))] := hl
  have hf_39 := hts (.fieldLink RX7 39 "BitStreams" "running" "LBitStreams$Machine;") (by decide +kernel)
  have hi_X7 : ∀ w ∈ u_ws RX7 TX7 6, w ∈ wsX7_skip := by decide +kernel
  have cw_X5_nextBit := va_cwA (R := ({ frames := 6, cells := 0, slots := 0, locals := 120 } : Room)) (rm := ({ frames := 2, cells := 0, slots := 0, locals := 41 } : Room)) 0 hts gX7_skip_X5_nextBit_u73X5 rfl rfl rfl hF.1.2.2 (by decide +kernel) ⟨Nat.le_of_ble_eq_true rfl, Nat.le_of_ble_eq_true rfl⟩
  have hf_47 := hts (.fieldLink RX7 47 "BitStreams" "used" "I") (by decide +kernel)
  refine lv_aload_n hx hb dX7_skip_0 rfl (lv_at hl 0 rfl) ?_
  refine va_get (D := D) (ci := 6) (v := .ref m2) (C := RX7) (T := TX7) (N := 6) hx hb hts hi_X7 hown hK hP 0 rfl rfl 3 (by decide) hf_39 (fun _ h9 => h9) rfl dX7_skip_1 ?_
  refine lv_ifnull hx hb dX7_skip_4 ?_
  refine lv_iload_n hx hb dX7_skip_7 rfl (lv_at hl 1 rfl) ?_
  refine lv_if_lt (tgt := 18) hx hb dX7_skip_8 (by decide) (fun hh => absurd hh (nI_pos (by omega))) (fun _ => ?_)
  refine lv_iload_n hx hb dX7_skip_11 rfl (lv_at hl 1 rfl) ?_
  refine lv_sipush (v := 5000) hx hb dX7_skip_12 (by decide) ?_
  refine lv_icmp_le (tgt := 20) hx hb dX7_skip_15 (by decide) (fun _ => ?_) (fun hh => absurd (nI_le hn (by decide)) hh)
  refine lv_iconst (v := 0) hx hb dX7_skip_20 (by decide) ?_
  refine lv_istore_n (lv' := [(2, .int 0), (0, .ref h0), (1, .int (nI n))]) hx hb dX7_skip_21 rfl hl (by decide) rfl (fun ls hl => ?_)
  refine ct_count n (fun k : Nat => [(h0, .inr (6, [.ref kb, .ref sb, .ref ms, .ref m2, .int rn, .int us])), (m2, .inr (4, [.ref r1, .ref r2, .ref r3])), (r1, .inr (1, [.long (((mit ss_step σ k).1).1), .long (((mit ss_step σ k).1).2)])), (r2, .inr (1, [.long (((mit ss_step σ k).2.1).1), .long (((mit ss_step σ k).2.1).2)])), (r3, .inr (1, [.long (((mit ss_step σ k).2.2).1), .long (((mit ss_step σ k).2.2).2)]))]) (fun k : Nat => [(2, .int (nI k)), (0, .ref h0), (1, .int (nI n))]) ?_ ?_ 0 (Nat.zero_le _) hP hD hS (lv_sub hl [0, 1, 2] rfl)
  · intro k hk ih22 H locs ls hP hD hS hl
    have hP : va_P D vwCl [(h0, .inr (6, [.ref kb, .ref sb, .ref ms, .ref m2, .int rn, .int us])), (m2, .inr (4, [.ref r1, .ref r2, .ref r3])), (r1, .inr (1, [.long (((mit ss_step σ k).1).1), .long (((mit ss_step σ k).1).2)])), (r2, .inr (1, [.long (((mit ss_step σ k).2.1).1), .long (((mit ss_step σ k).2.1).2)])), (r3, .inr (1, [.long (((mit ss_step σ k).2.2).1), .long (((mit ss_step σ k).2.2).2)]))] H := hP
    have hD : va_D A [(h0, .inr (6, [.ref kb, .ref sb, .ref ms, .ref m2, .int rn, .int us])), (m2, .inr (4, [.ref r1, .ref r2, .ref r3])), (r1, .inr (1, [.long (((mit ss_step σ k).1).1), .long (((mit ss_step σ k).1).2)])), (r2, .inr (1, [.long (((mit ss_step σ k).2.1).1), .long (((mit ss_step σ k).2.1).2)])), (r3, .inr (1, [.long (((mit ss_step σ k).2.2).1), .long (((mit ss_step σ k).2.2).2)]))] := hD
    have hl : lv_has ls 3 [(2, .int (nI k)), (0, .ref h0), (1, .int (nI n))] := hl
    refine lv_iload_n hx hb dX7_skip_22 rfl (lv_at hl 0 rfl) ?_
    refine lv_iload_n hx hb dX7_skip_23 rfl (lv_at hl 2 rfl) ?_
    refine lv_icmp_ge (tgt := 41) hx hb dX7_skip_24 (by decide) (fun hh => absurd hh (nI_ge hk (by omega))) (fun _ => ?_)
    refine lv_aload_n hx hb dX7_skip_27 rfl (lv_at hl 1 rfl) ?_
    refine va_get (D := D) (ci := 6) (v := .ref m2) (C := RX7) (T := TX7) (N := 6) hx hb hts hi_X7 hown hK hP 0 rfl rfl 3 (by decide) hf_39 (fun _ h9 => h9) rfl dX7_skip_28 ?_
    refine ct_callUi (As := []) (rest := []) (wr := [(h0, .inr (6, [.ref kb, .ref sb, .ref ms, .ref m2, .int rn, .int us]))]) (ws2 := [(h0, .inr (6, [.ref kb, .ref sb, .ref ms, .ref m2, .int rn, .int us])), (m2, .inr (4, [.ref r1, .ref r2, .ref r3])), (r1, .inr (1, [.long (((ss_step (mit ss_step σ k)).1).1), .long (((ss_step (mit ss_step σ k)).1).2)])), (r2, .inr (1, [.long (((ss_step (mit ss_step σ k)).2.1).1), .long (((ss_step (mit ss_step σ k)).2.1).2)])), (r3, .inr (1, [.long (((ss_step (mit ss_step σ k)).2.2).1), .long (((ss_step (mit ss_step σ k)).2.2).2)]))]) ⟨hx, hb, hml, hown, hts⟩ (c_ss_next l D m2 r1 r2 r3 (mit ss_step σ k)) cw_X5_nextBit [] rfl [1, 2, 3, 4] [0] [0, 1, 2, 3, 4] hF hK hP hD hS hA 0 4 rfl rfl rfl rfl (by decide) rfl (by decide) (by decide) rfl (by decide) rfl hl.1 rfl (Nat.le_of_ble_eq_true rfl) dX7_skip_31 ⟨Nat.zero_le _, Nat.zero_le _⟩ (fun H locs hP hD hS => ?_)
    refine lv_pop hx hb dX7_skip_34 rfl ?_
    refine lv_iinc (v := nI (k + 1)) (lv' := [(2, .int (nI (k + 1))), (0, .ref h0), (1, .int (nI n))]) hx hb dX7_skip_35 hl (k := 0) rfl (ct_inc k) (by decide) rfl (fun ls hl => ?_)
    refine lv_goto (tgt := 22) hx hb dX7_skip_38 (by decide) ?_
    exact ih22 H locs ls hP hD hS (lv_sub hl [0, 1, 2] rfl)
  · intro H locs ls hP hD hS hl
    have hP : va_P D vwCl [(h0, .inr (6, [.ref kb, .ref sb, .ref ms, .ref m2, .int rn, .int us])), (m2, .inr (4, [.ref r1, .ref r2, .ref r3])), (r1, .inr (1, [.long (((mit ss_step σ n).1).1), .long (((mit ss_step σ n).1).2)])), (r2, .inr (1, [.long (((mit ss_step σ n).2.1).1), .long (((mit ss_step σ n).2.1).2)])), (r3, .inr (1, [.long (((mit ss_step σ n).2.2).1), .long (((mit ss_step σ n).2.2).2)]))] H := hP
    have hD : va_D A [(h0, .inr (6, [.ref kb, .ref sb, .ref ms, .ref m2, .int rn, .int us])), (m2, .inr (4, [.ref r1, .ref r2, .ref r3])), (r1, .inr (1, [.long (((mit ss_step σ n).1).1), .long (((mit ss_step σ n).1).2)])), (r2, .inr (1, [.long (((mit ss_step σ n).2.1).1), .long (((mit ss_step σ n).2.1).2)])), (r3, .inr (1, [.long (((mit ss_step σ n).2.2).1), .long (((mit ss_step σ n).2.2).2)]))] := hD
    have hl : lv_has ls 3 [(2, .int (nI n)), (0, .ref h0), (1, .int (nI n))] := hl
    refine lv_iload_n hx hb dX7_skip_22 rfl (lv_at hl 0 rfl) ?_
    refine lv_iload_n hx hb dX7_skip_23 rfl (lv_at hl 2 rfl) ?_
    refine lv_icmp_ge (tgt := 41) hx hb dX7_skip_24 (by decide) (fun _ => ?_) (fun hh => absurd (Int32.le_refl _) hh)
    refine lv_aload_n hx hb dX7_skip_41 rfl (lv_at hl 1 rfl) ?_
    refine lv_dup hx hb dX7_skip_42 rfl ?_
    refine va_get (D := D) (ci := 6) (v := .int us) (C := RX7) (T := TX7) (N := 6) hx hb hts hi_X7 hown hK hP 0 rfl rfl 5 (by decide) hf_47 (fun _ h9 => h9) rfl dX7_skip_43 ?_
    refine lv_iload_n hx hb dX7_skip_46 rfl (lv_at hl 2 rfl) ?_
    refine lv_iadd hx hb dX7_skip_47 ?_
    refine va_put (D := D) (ci := 6) (v := .int (us + (nI n))) (ty := .int) (C := RX7) (T := TX7) (N := 6) hx hb hts hi_X7 tyX7 tyX7_ok nmX7 hown hK hP hD hS 0 rfl rfl 5 (by decide) hf_47 (fun _ h9 => h9) rfl (by decide +kernel) rfl rfl (Nat.le_of_ble_eq_true rfl) dX7_skip_48 (fun H locs hP hD hS => ?_)
    have hP : va_P D vwCl [(h0, .inr (6, [.ref kb, .ref sb, .ref ms, .ref m2, .int rn, .int (us + (nI n))])), (m2, .inr (4, [.ref r1, .ref r2, .ref r3])), (r1, .inr (1, [.long (((mit ss_step σ n).1).1), .long (((mit ss_step σ n).1).2)])), (r2, .inr (1, [.long (((mit ss_step σ n).2.1).1), .long (((mit ss_step σ n).2.1).2)])), (r3, .inr (1, [.long (((mit ss_step σ n).2.2).1), .long (((mit ss_step σ n).2.2).2)]))] H := hP
    have hD : va_D A [(h0, .inr (6, [.ref kb, .ref sb, .ref ms, .ref m2, .int rn, .int (us + (nI n))])), (m2, .inr (4, [.ref r1, .ref r2, .ref r3])), (r1, .inr (1, [.long (((mit ss_step σ n).1).1), .long (((mit ss_step σ n).1).2)])), (r2, .inr (1, [.long (((mit ss_step σ n).2.1).1), .long (((mit ss_step σ n).2.1).2)])), (r3, .inr (1, [.long (((mit ss_step σ n).2.2).1), .long (((mit ss_step σ n).2.2).2)]))] := hD
    refine lv_iconst (v := 1) hx hb dX7_skip_51 (by decide) ?_
    exact ct_zret hx hb hr hlk hP hK hD hS rfl rfl dX7_skip_52
set_option maxHeartbeats 4000000 in
set_option maxRecDepth 100000 in
/-- BitStreams.mix, machine 2 -/
theorem c_bs_mix2 (l : Launch) (D : va_G) (h0 kb sb ms m2 r1 r2 r3 : Nat) (rn us : Int32) (σ : R6) (v : Int64) (n : Nat) (hn1 : 1 ≤ n) (hn : n ≤ 64) : Ctl l D yX7_mix wsX7_mix ({ frames := 6, cells := 0, slots := 0, locals := 120 } : Room) [.ref h0, .long v, .int (nI n)] [] [(h0, .inr (6, [.ref kb, .ref sb, .ref ms, .ref m2, .int rn, .int us])), (m2, .inr (4, [.ref r1, .ref r2, .ref r3])), (r1, .inr (1, [.long σ.1.1, .long σ.1.2])), (r2, .inr (1, [.long σ.2.1.1, .long σ.2.1.2])), (r3, .inr (1, [.long σ.2.2.1, .long σ.2.2.2]))] [(h0, .inr (6, [.ref kb, .ref sb, .ref ms, .ref m2, .int rn, .int (us + nI n)])), (m2, .inr (4, [.ref r1, .ref r2, .ref r3])), (r1, .inr (1, [.long (((mit ss_step σ n).1).1), .long (((mit ss_step σ n).1).2)])), (r2, .inr (1, [.long (((mit ss_step σ n).2.1).1), .long (((mit ss_step σ n).2.1).2)])), (r3, .inr (1, [.long (((mit ss_step σ n).2.2).1), .long (((mit ss_step σ n).2.2).2)]))] (mmx v n (mst ss_step ss_out σ n)) := by
  refine ct_of (cc := cX7_mix) (maxL := 8) (ret := (some .long)) (by decide) rfl (Nat.le_of_ble_eq_true rfl) ?_
  intro p e s m below meth c A H locs ls hx hb hr hml hts hown hlk hnm hF hP hK hD hA hS hl
  have hown : s.vm.findClass RX7 = some m.cls := hown
  have hl : lv_has ls 8 [(0, .ref h0), (1, .long v), (3, .int (nI n))] := hl
  have hf_39 := hts (.fieldLink RX7 39 "BitStreams" "running" "LBitStreams$Machine;") (by decide +kernel)
  have hi_X7 : ∀ w ∈ u_ws RX7 TX7 6, w ∈ wsX7_mix := by decide +kernel
  have cw_X5_nextBit := va_cwA (R := ({ frames := 6, cells := 0, slots := 0, locals := 120 } : Room)) (rm := ({ frames := 2, cells := 0, slots := 0, locals := 41 } : Room)) 0 hts gX7_mix_X5_nextBit_u73X5 rfl rfl rfl hF.1.2.2 (by decide +kernel) ⟨Nat.le_of_ble_eq_true rfl, Nat.le_of_ble_eq_true rfl⟩
  have hf_47 := hts (.fieldLink RX7 47 "BitStreams" "used" "I") (by decide +kernel)
  have hc_76 := hts (.constantLong RX7 76 (-1)) (by decide +kernel)
  refine lv_aload_n hx hb dX7_mix_0 rfl (lv_at hl 0 rfl) ?_
  refine va_get (D := D) (ci := 6) (v := .ref m2) (C := RX7) (T := TX7) (N := 6) hx hb hts hi_X7 hown hK hP 0 rfl rfl 3 (by decide) hf_39 (fun _ h9 => h9) rfl dX7_mix_1 ?_
  refine lv_ifnull hx hb dX7_mix_4 ?_
  refine lv_iload_n hx hb dX7_mix_7 rfl (lv_at hl 2 rfl) ?_
  refine lv_iconst (v := 1) hx hb dX7_mix_8 (by decide) ?_
  refine lv_icmp_lt (tgt := 18) hx hb dX7_mix_9 (by decide) (fun hh => absurd hh (nI_nlt (a := n) (b := 1) hn1 (by omega))) (fun _ => ?_)
  refine lv_iload_n hx hb dX7_mix_12 rfl (lv_at hl 2 rfl) ?_
  refine lv_bipush (v := 64) hx hb dX7_mix_13 (by decide) ?_
  refine lv_icmp_le (tgt := 20) hx hb dX7_mix_15 (by decide) (fun _ => ?_) (fun hh => absurd (nI_le (b := 64) hn (by decide)) hh)
  refine lv_lconst (v := 0) hx hb dX7_mix_20 (by decide) ?_
  refine lv_lstore (lv' := [(4, .long 0), (0, .ref h0), (1, .long v), (3, .int (nI n))]) hx hb dX7_mix_21 hl (by decide) rfl (fun ls hl => ?_)
  refine lv_iconst (v := 0) hx hb dX7_mix_23 (by decide) ?_
  refine lv_istore (lv' := [(6, .int 0), (4, .long 0), (0, .ref h0), (1, .long v), (3, .int (nI n))]) hx hb dX7_mix_24 hl (by decide) rfl (fun ls hl => ?_)
  refine ct_count n (fun k : Nat => [(h0, .inr (6, [.ref kb, .ref sb, .ref ms, .ref m2, .int rn, .int us])), (m2, .inr (4, [.ref r1, .ref r2, .ref r3])), (r1, .inr (1, [.long (((mit ss_step σ k).1).1), .long (((mit ss_step σ k).1).2)])), (r2, .inr (1, [.long (((mit ss_step σ k).2.1).1), .long (((mit ss_step σ k).2.1).2)])), (r3, .inr (1, [.long (((mit ss_step σ k).2.2).1), .long (((mit ss_step σ k).2.2).2)]))]) (fun k : Nat => [(6, .int (nI k)), (4, .long (mst ss_step ss_out σ k)), (0, .ref h0), (1, .long v), (3, .int (nI n))]) ?_ ?_ 0 (Nat.zero_le _) hP hD hS (lv_sub hl [0, 1, 2, 3, 4] rfl)
  · intro k hk ih26 H locs ls hP hD hS hl
    have hP : va_P D vwCl [(h0, .inr (6, [.ref kb, .ref sb, .ref ms, .ref m2, .int rn, .int us])), (m2, .inr (4, [.ref r1, .ref r2, .ref r3])), (r1, .inr (1, [.long (((mit ss_step σ k).1).1), .long (((mit ss_step σ k).1).2)])), (r2, .inr (1, [.long (((mit ss_step σ k).2.1).1), .long (((mit ss_step σ k).2.1).2)])), (r3, .inr (1, [.long (((mit ss_step σ k).2.2).1), .long (((mit ss_step σ k).2.2).2)]))] H := hP
    have hD : va_D A [(h0, .inr (6, [.ref kb, .ref sb, .ref ms, .ref m2, .int rn, .int us])), (m2, .inr (4, [.ref r1, .ref r2, .ref r3])), (r1, .inr (1, [.long (((mit ss_step σ k).1).1), .long (((mit ss_step σ k).1).2)])), (r2, .inr (1, [.long (((mit ss_step σ k).2.1).1), .long (((mit ss_step σ k).2.1).2)])), (r3, .inr (1, [.long (((mit ss_step σ k).2.2).1), .long (((mit ss_step σ k).2.2).2)]))] := hD
    have hl : lv_has ls 8 [(6, .int (nI k)), (4, .long (mst ss_step ss_out σ k)), (0, .ref h0), (1, .long v), (3, .int (nI n))] := hl
    refine lv_iload hx hb dX7_mix_26 (lv_at hl 0 rfl) ?_
    refine lv_iload_n hx hb dX7_mix_28 rfl (lv_at hl 4 rfl) ?_
    refine lv_icmp_ge (tgt := 53) hx hb dX7_mix_29 (by decide) (fun hh => absurd hh (nI_ge hk (by omega))) (fun _ => ?_)
    refine lv_lload hx hb dX7_mix_32 (lv_at hl 1 rfl) ?_
    refine lv_iconst (v := 1) hx hb dX7_mix_34 (by decide) ?_
    refine lv_lshl (v := lL (mst ss_step ss_out σ k) 1) hx hb dX7_mix_35 rfl ?_
    refine lv_aload_n hx hb dX7_mix_36 rfl (lv_at hl 2 rfl) ?_
    refine va_get (D := D) (ci := 6) (v := .ref m2) (C := RX7) (T := TX7) (N := 6) hx hb hts hi_X7 hown hK hP 0 rfl rfl 3 (by decide) hf_39 (fun _ h9 => h9) rfl dX7_mix_37 ?_
    refine ct_callUi (As := []) (rest := [.long (lL (mst ss_step ss_out σ k) 1)]) (wr := [(h0, .inr (6, [.ref kb, .ref sb, .ref ms, .ref m2, .int rn, .int us]))]) (ws2 := [(h0, .inr (6, [.ref kb, .ref sb, .ref ms, .ref m2, .int rn, .int us])), (m2, .inr (4, [.ref r1, .ref r2, .ref r3])), (r1, .inr (1, [.long (((ss_step (mit ss_step σ k)).1).1), .long (((ss_step (mit ss_step σ k)).1).2)])), (r2, .inr (1, [.long (((ss_step (mit ss_step σ k)).2.1).1), .long (((ss_step (mit ss_step σ k)).2.1).2)])), (r3, .inr (1, [.long (((ss_step (mit ss_step σ k)).2.2).1), .long (((ss_step (mit ss_step σ k)).2.2).2)]))]) ⟨hx, hb, hml, hown, hts⟩ (c_ss_next l D m2 r1 r2 r3 (mit ss_step σ k)) cw_X5_nextBit [] rfl [1, 2, 3, 4] [0] [0, 1, 2, 3, 4] hF hK hP hD hS hA 0 4 rfl rfl rfl rfl (by decide) rfl (by decide) (by decide) rfl (by decide) rfl hl.1 rfl (Nat.le_of_ble_eq_true rfl) dX7_mix_40 ⟨Nat.zero_le _, Nat.zero_le _⟩ (fun H locs hP hD hS => ?_)
    refine lv_i2l hx hb dX7_mix_43 rfl ?_
    refine lv_lor hx hb dX7_mix_44 ?_
    refine lv_lstore (lv' := [(4, .long ((lL (mst ss_step ss_out σ k) 1) ||| ((ss_out (mit ss_step σ k)).toInt64))), (6, .int (nI k)), (0, .ref h0), (1, .long v), (3, .int (nI n))]) hx hb dX7_mix_45 hl (by decide) rfl (fun ls hl => ?_)
    refine lv_iinc (v := nI (k + 1)) (lv' := [(6, .int (nI (k + 1))), (4, .long ((lL (mst ss_step ss_out σ k) 1) ||| ((ss_out (mit ss_step σ k)).toInt64))), (0, .ref h0), (1, .long v), (3, .int (nI n))]) hx hb dX7_mix_47 hl (k := 1) rfl (ct_inc k) (by decide) rfl (fun ls hl => ?_)
    refine lv_goto (tgt := 26) hx hb dX7_mix_50 (by decide) ?_
    exact ih26 H locs ls hP hD hS (lv_sub hl [0, 1, 2, 3, 4] rfl)
  · intro H locs ls hP hD hS hl
    have hP : va_P D vwCl [(h0, .inr (6, [.ref kb, .ref sb, .ref ms, .ref m2, .int rn, .int us])), (m2, .inr (4, [.ref r1, .ref r2, .ref r3])), (r1, .inr (1, [.long (((mit ss_step σ n).1).1), .long (((mit ss_step σ n).1).2)])), (r2, .inr (1, [.long (((mit ss_step σ n).2.1).1), .long (((mit ss_step σ n).2.1).2)])), (r3, .inr (1, [.long (((mit ss_step σ n).2.2).1), .long (((mit ss_step σ n).2.2).2)]))] H := hP
    have hD : va_D A [(h0, .inr (6, [.ref kb, .ref sb, .ref ms, .ref m2, .int rn, .int us])), (m2, .inr (4, [.ref r1, .ref r2, .ref r3])), (r1, .inr (1, [.long (((mit ss_step σ n).1).1), .long (((mit ss_step σ n).1).2)])), (r2, .inr (1, [.long (((mit ss_step σ n).2.1).1), .long (((mit ss_step σ n).2.1).2)])), (r3, .inr (1, [.long (((mit ss_step σ n).2.2).1), .long (((mit ss_step σ n).2.2).2)]))] := hD
    have hl : lv_has ls 8 [(6, .int (nI n)), (4, .long (mst ss_step ss_out σ n)), (0, .ref h0), (1, .long v), (3, .int (nI n))] := hl
    refine lv_iload hx hb dX7_mix_26 (lv_at hl 0 rfl) ?_
    refine lv_iload_n hx hb dX7_mix_28 rfl (lv_at hl 4 rfl) ?_
    refine lv_icmp_ge (tgt := 53) hx hb dX7_mix_29 (by decide) (fun _ => ?_) (fun hh => absurd (Int32.le_refl _) hh)
    refine lv_aload_n hx hb dX7_mix_53 rfl (lv_at hl 2 rfl) ?_
    refine lv_dup hx hb dX7_mix_54 rfl ?_
    refine va_get (D := D) (ci := 6) (v := .int us) (C := RX7) (T := TX7) (N := 6) hx hb hts hi_X7 hown hK hP 0 rfl rfl 5 (by decide) hf_47 (fun _ h9 => h9) rfl dX7_mix_55 ?_
    refine lv_iload_n hx hb dX7_mix_58 rfl (lv_at hl 4 rfl) ?_
    refine lv_iadd hx hb dX7_mix_59 ?_
    refine va_put (D := D) (ci := 6) (v := .int (us + (nI n))) (ty := .int) (C := RX7) (T := TX7) (N := 6) hx hb hts hi_X7 tyX7 tyX7_ok nmX7 hown hK hP hD hS 0 rfl rfl 5 (by decide) hf_47 (fun _ h9 => h9) rfl (by decide +kernel) rfl rfl (Nat.le_of_ble_eq_true rfl) dX7_mix_60 (fun H locs hP hD hS => ?_)
    have hP : va_P D vwCl [(h0, .inr (6, [.ref kb, .ref sb, .ref ms, .ref m2, .int rn, .int (us + (nI n))])), (m2, .inr (4, [.ref r1, .ref r2, .ref r3])), (r1, .inr (1, [.long (((mit ss_step σ n).1).1), .long (((mit ss_step σ n).1).2)])), (r2, .inr (1, [.long (((mit ss_step σ n).2.1).1), .long (((mit ss_step σ n).2.1).2)])), (r3, .inr (1, [.long (((mit ss_step σ n).2.2).1), .long (((mit ss_step σ n).2.2).2)]))] H := hP
    have hD : va_D A [(h0, .inr (6, [.ref kb, .ref sb, .ref ms, .ref m2, .int rn, .int (us + (nI n))])), (m2, .inr (4, [.ref r1, .ref r2, .ref r3])), (r1, .inr (1, [.long (((mit ss_step σ n).1).1), .long (((mit ss_step σ n).1).2)])), (r2, .inr (1, [.long (((mit ss_step σ n).2.1).1), .long (((mit ss_step σ n).2.1).2)])), (r3, .inr (1, [.long (((mit ss_step σ n).2.2).1), .long (((mit ss_step σ n).2.2).2)]))] := hD
    refine lv_ldc2 (v := (-1)) hx hb hown hc_76 dX7_mix_63 ?_
    refine lv_bipush (v := 64) hx hb dX7_mix_66 (by decide) ?_
    refine lv_iload_n hx hb dX7_mix_68 rfl (lv_at hl 4 rfl) ?_
    refine lv_isub hx hb dX7_mix_69 ?_
    refine lv_lushr (v := lU (-1) (64 - (nI n))) hx hb dX7_mix_70 rfl ?_
    refine lv_lstore (lv' := [(6, .long (lU (-1) (64 - (nI n)))), (4, .long (mst ss_step ss_out σ n)), (0, .ref h0), (1, .long v), (3, .int (nI n))]) hx hb dX7_mix_71 hl (by decide) rfl (fun ls hl => ?_)
    refine lv_lload_n hx hb dX7_mix_73 rfl (lv_at hl 3 rfl) ?_
    refine lv_lload hx hb dX7_mix_74 (lv_at hl 0 rfl) ?_
    refine lv_land hx hb dX7_mix_76 ?_
    refine lv_lload hx hb dX7_mix_77 (lv_at hl 1 rfl) ?_
    refine lv_lxor hx hb dX7_mix_79 ?_
    exact ct_lret hx hb hr hlk hP hK hD hS rfl dX7_mix_80
set_option maxHeartbeats 4000000 in
set_option maxRecDepth 100000 in
/-- BitStreams.begin(2) -/
theorem c_bs_begin2F (l : Launch) (D : va_G) (h0 kb sb ms kq sq m0 m1 m2 m3 r1 r2 r3 : Nat) (rv : Value) (rn us : Int32) (kA sA mA : ClassId) (kz sz : Nat) (hkz : kz ≤ 32) (hsz : sz ≤ 12) (f g : Nat → Int32) (σ : R6) (ht : tk 8 3 (nI kz) (nI sz) = 0) : Cti l D yX7_begin wsX7_begin ({ frames := 6, cells := 0, slots := 0, locals := 120 } : Room) [.ref h0, .int 2] [(kA, .int), (sA, .int), (mA, .object "BitStreams$Machine")] [(h0, .inr (6, [.ref kb, .ref sb, .ref ms, rv, .int rn, .int us])), (ms, .inl (mA, 4, .inr (.inr (.inr (.inr (bs_ms m0 m1 m2 m3)))))), (kb, .inr (0, [.ref kq, .int (nI kz)])), (kq, .inl (kA, 32, .inl f)), (sb, .inr (0, [.ref sq, .int (nI sz)])), (sq, .inl (sA, 12, .inl g)), (m2, .inr (4, [.ref r1, .ref r2, .ref r3])), (r1, .inr (1, [.long σ.1.1, .long σ.1.2])), (r2, .inr (1, [.long σ.2.1.1, .long σ.2.1.2])), (r3, .inr (1, [.long σ.2.2.1, .long σ.2.2.2]))] [(h0, .inr (6, [.ref kb, .ref sb, .ref ms, rv, .int rn, .int us])), (ms, .inl (mA, 4, .inr (.inr (.inr (.inr (bs_ms m0 m1 m2 m3)))))), (kb, .inr (0, [.ref kq, .int (nI kz)])), (kq, .inl (kA, 32, .inl f)), (sb, .inr (0, [.ref sq, .int (nI sz)])), (sq, .inl (sA, 12, .inl g)), (m2, .inr (4, [.ref r1, .ref r2, .ref r3])), (r1, .inr (1, [.long σ.1.1, .long σ.1.2])), (r2, .inr (1, [.long σ.2.1.1, .long σ.2.1.2])), (r3, .inr (1, [.long σ.2.2.1, .long σ.2.2.2]))] 0 := by
  refine ct_of (cc := cX7_begin) (maxL := 3) (ret := (some .boolean)) (by decide) rfl (Nat.le_of_ble_eq_true rfl) ?_
  intro p e s m below meth c A H locs ls hx hb hr hml hts hown hlk hnm hF hP hK hD hA hS hl
  have hown : s.vm.findClass RX7 = some m.cls := hown
  have hl : lv_has ls 3 [(0, .ref h0), (1, .int 2)] := hl
  have hf_35 := hts (.fieldLink RX7 35 "BitStreams" "machines" "[LBitStreams$Machine;") (by decide +kernel)
  have hi_X7 : ∀ w ∈ u_ws RX7 TX7 6, w ∈ wsX7_begin := by decide +kernel
  have hf_14 := hts (.fieldLink RX7 14 "BitStreams" "keyBytes" "LBitStreams$Bytes;") (by decide +kernel)
  have cw_X0_size := cwV (R := ({ frames := 6, cells := 0, slots := 0, locals := 120 } : Room)) (rm := ({ frames := 0, cells := 0, slots := 0, locals := 0 } : Room)) 0 hts gX7_begin_X0_size rfl rfl rfl (by decide +kernel) ⟨Nat.le_of_ble_eq_true rfl, Nat.le_of_ble_eq_true rfl⟩
  have hf_18 := hts (.fieldLink RX7 18 "BitStreams" "startBytes" "LBitStreams$Bytes;") (by decide +kernel)
  have cw_X5_takes := va_cwA (R := ({ frames := 6, cells := 0, slots := 0, locals := 120 } : Room)) (rm := ({ frames := 0, cells := 0, slots := 0, locals := 0 } : Room)) 2 hts gX7_begin_X5_takes_u58X5 rfl rfl rfl hF.1.1 (by decide +kernel) ⟨Nat.le_of_ble_eq_true rfl, Nat.le_of_ble_eq_true rfl⟩
  refine lv_iload_n hx hb dX7_begin_0 rfl (lv_at hl 1 rfl) ?_
  refine lv_if_lt (tgt := 13) hx hb dX7_begin_1 (by decide) (fun hh => absurd hh (by decide)) (fun _ => ?_)
  refine lv_iload_n hx hb dX7_begin_4 rfl (lv_at hl 1 rfl) ?_
  refine lv_aload_n hx hb dX7_begin_5 rfl (lv_at hl 0 rfl) ?_
  refine va_get (D := D) (ci := 6) (v := .ref ms) (C := RX7) (T := TX7) (N := 6) hx hb hts hi_X7 hown hK hP 0 rfl rfl 2 (by decide) hf_35 (fun _ h9 => h9) rfl dX7_begin_6 ?_
  refine va_alen (v := nI 4) hx hb hK hP 1 2 rfl rfl rfl dX7_begin_9 ?_
  refine lv_icmp_lt (tgt := 15) hx hb dX7_begin_10 (by decide) (fun _ => ?_) (fun hh => absurd (by decide) hh)
  refine lv_aload_n hx hb dX7_begin_15 rfl (lv_at hl 0 rfl) ?_
  refine va_get (D := D) (ci := 6) (v := .ref ms) (C := RX7) (T := TX7) (N := 6) hx hb hts hi_X7 hown hK hP 0 rfl rfl 2 (by decide) hf_35 (fun _ h9 => h9) rfl dX7_begin_16 ?_
  refine lv_iload_n hx hb dX7_begin_19 rfl (lv_at hl 1 rfl) ?_
  refine va_aldq hx hb hK hP 1 2 rfl rfl (vp_in_nI (n := 2) (N := 4) (by decide) (by decide)) dX7_begin_20 ?_
  refine ct_topv (y := .ref m2) rfl ?_
  refine lv_astore_n (lv' := [(2, .ref m2), (0, .ref h0), (1, .int 2)]) hx hb dX7_begin_21 rfl hl (by decide) rfl (fun ls hl => ?_)
  refine lv_aload_n hx hb dX7_begin_22 rfl (lv_at hl 0 rfl) ?_
  refine lv_aload_n hx hb dX7_begin_23 rfl (lv_at hl 1 rfl) ?_
  refine va_get (D := D) (ci := 6) (v := .ref kb) (C := RX7) (T := TX7) (N := 6) hx hb hts hi_X7 hown hK hP 0 rfl rfl 0 (by decide) hf_14 (fun _ h9 => h9) rfl dX7_begin_24 ?_
  refine ct_callVi (As := []) (rest := [.ref m2]) (wr := [(h0, .inr (6, [.ref kb, .ref sb, .ref ms, rv, .int rn, .int us])), (ms, .inl (mA, 4, .inr (.inr (.inr (.inr (bs_ms m0 m1 m2 m3)))))), (kq, .inl (kA, 32, .inl f)), (sb, .inr (0, [.ref sq, .int (nI sz)])), (sq, .inl (sA, 12, .inl g)), (m2, .inr (4, [.ref r1, .ref r2, .ref r3])), (r1, .inr (1, [.long σ.1.1, .long σ.1.2])), (r2, .inr (1, [.long σ.2.1.1, .long σ.2.1.2])), (r3, .inr (1, [.long σ.2.2.1, .long σ.2.2.2]))]) (ws2 := [(h0, .inr (6, [.ref kb, .ref sb, .ref ms, rv, .int rn, .int us])), (ms, .inl (mA, 4, .inr (.inr (.inr (.inr (bs_ms m0 m1 m2 m3)))))), (kb, .inr (0, [.ref kq, .int (nI kz)])), (kq, .inl (kA, 32, .inl f)), (sb, .inr (0, [.ref sq, .int (nI sz)])), (sq, .inl (sA, 12, .inl g)), (m2, .inr (4, [.ref r1, .ref r2, .ref r3])), (r1, .inr (1, [.long σ.1.1, .long σ.1.2])), (r2, .inr (1, [.long σ.2.1.1, .long σ.2.1.2])), (r3, .inr (1, [.long σ.2.2.1, .long σ.2.2.2]))]) ⟨hx, hb, hml, hown, hts⟩ (c_by_size l D kb kq (nI kz)) cw_X0_size [] rfl [2] [0, 1, 3, 4, 5, 6, 7, 8, 9] [0, 1, 9, 2, 3, 4, 5, 6, 7, 8] hF hK hP hD hS hA 0 0 rfl rfl rfl rfl (by decide) rfl (by decide) (by decide) rfl (by decide) rfl hl.1 rfl (Nat.le_of_ble_eq_true rfl) dX7_begin_27 ⟨Nat.zero_le _, Nat.zero_le _⟩ (fun H locs hP hD hS => ?_)
  refine lv_aload_n hx hb dX7_begin_30 rfl (lv_at hl 1 rfl) ?_
  refine va_get (D := D) (ci := 6) (v := .ref sb) (C := RX7) (T := TX7) (N := 6) hx hb hts hi_X7 hown hK hP 0 rfl rfl 1 (by decide) hf_18 (fun _ h9 => h9) rfl dX7_begin_31 ?_
  refine ct_callVi (As := []) (rest := [.int (nI kz), .ref m2]) (wr := [(h0, .inr (6, [.ref kb, .ref sb, .ref ms, rv, .int rn, .int us])), (ms, .inl (mA, 4, .inr (.inr (.inr (.inr (bs_ms m0 m1 m2 m3)))))), (kb, .inr (0, [.ref kq, .int (nI kz)])), (kq, .inl (kA, 32, .inl f)), (sq, .inl (sA, 12, .inl g)), (m2, .inr (4, [.ref r1, .ref r2, .ref r3])), (r1, .inr (1, [.long σ.1.1, .long σ.1.2])), (r2, .inr (1, [.long σ.2.1.1, .long σ.2.1.2])), (r3, .inr (1, [.long σ.2.2.1, .long σ.2.2.2]))]) (ws2 := [(h0, .inr (6, [.ref kb, .ref sb, .ref ms, rv, .int rn, .int us])), (ms, .inl (mA, 4, .inr (.inr (.inr (.inr (bs_ms m0 m1 m2 m3)))))), (kb, .inr (0, [.ref kq, .int (nI kz)])), (kq, .inl (kA, 32, .inl f)), (sb, .inr (0, [.ref sq, .int (nI sz)])), (sq, .inl (sA, 12, .inl g)), (m2, .inr (4, [.ref r1, .ref r2, .ref r3])), (r1, .inr (1, [.long σ.1.1, .long σ.1.2])), (r2, .inr (1, [.long σ.2.1.1, .long σ.2.1.2])), (r3, .inr (1, [.long σ.2.2.1, .long σ.2.2.2]))]) ⟨hx, hb, hml, hown, hts⟩ (c_by_size l D sb sq (nI sz)) cw_X0_size [] rfl [4] [0, 1, 2, 3, 5, 6, 7, 8, 9] [0, 1, 2, 3, 9, 4, 5, 6, 7, 8] hF hK hP hD hS hA 0 0 rfl rfl rfl rfl (by decide) rfl (by decide) (by decide) rfl (by decide) rfl hl.1 rfl (Nat.le_of_ble_eq_true rfl) dX7_begin_34 ⟨Nat.zero_le _, Nat.zero_le _⟩ (fun H locs hP hD hS => ?_)
  refine ct_callUi (As := [.int (nI kz), .int (nI sz)]) (rest := []) (wr := [(h0, .inr (6, [.ref kb, .ref sb, .ref ms, rv, .int rn, .int us])), (ms, .inl (mA, 4, .inr (.inr (.inr (.inr (bs_ms m0 m1 m2 m3)))))), (kb, .inr (0, [.ref kq, .int (nI kz)])), (kq, .inl (kA, 32, .inl f)), (sb, .inr (0, [.ref sq, .int (nI sz)])), (sq, .inl (sA, 12, .inl g)), (r1, .inr (1, [.long σ.1.1, .long σ.1.2])), (r2, .inr (1, [.long σ.2.1.1, .long σ.2.1.2])), (r3, .inr (1, [.long σ.2.2.1, .long σ.2.2.2]))]) (ws2 := [(h0, .inr (6, [.ref kb, .ref sb, .ref ms, rv, .int rn, .int us])), (ms, .inl (mA, 4, .inr (.inr (.inr (.inr (bs_ms m0 m1 m2 m3)))))), (kb, .inr (0, [.ref kq, .int (nI kz)])), (kq, .inl (kA, 32, .inl f)), (sb, .inr (0, [.ref sq, .int (nI sz)])), (sq, .inl (sA, 12, .inl g)), (m2, .inr (4, [.ref r1, .ref r2, .ref r3])), (r1, .inr (1, [.long σ.1.1, .long σ.1.2])), (r2, .inr (1, [.long σ.2.1.1, .long σ.2.1.2])), (r3, .inr (1, [.long σ.2.2.1, .long σ.2.2.2]))]) ⟨hx, hb, hml, hown, hts⟩ (c_ss_takes l D m2 r1 r2 r3 (nI kz) (nI sz)) cw_X5_takes [] rfl [6] [0, 1, 2, 3, 4, 5, 7, 8, 9] [0, 1, 2, 3, 4, 5, 9, 6, 7, 8] hF hK hP hD hS hA 0 4 rfl rfl rfl rfl (by decide) rfl (by decide) (by decide) rfl (by decide) rfl hl.1 rfl (Nat.le_of_ble_eq_true rfl) dX7_begin_37 ⟨Nat.zero_le _, Nat.zero_le _⟩ (fun H locs hP hD hS => ?_)
  refine lv_if_ne (tgt := 45) hx hb dX7_begin_40 (by decide) (fun hh => absurd ht hh) (fun _ => ?_)
  refine lv_iconst (v := 0) hx hb dX7_begin_43 (by decide) ?_
  exact ct_zret hx hb hr hlk hP hK hD hS rfl rfl dX7_begin_44
set_option maxHeartbeats 4000000 in
set_option maxRecDepth 100000 in
/-- BitStreams.begin(2) -/
theorem c_bs_begin2T (l : Launch) (D : va_G) (h0 kb sb ms kq sq m0 m1 m2 m3 r1 r2 r3 : Nat) (rv : Value) (rn us : Int32) (kA sA mA : ClassId) (kz sz : Nat) (hkz : kz ≤ 32) (hsz : sz ≤ 12) (f g : Nat → Int32) (σ : R6) (ht : tk 8 3 (nI kz) (nI sz) = 1) : Cti l D yX7_begin wsX7_begin ({ frames := 6, cells := 0, slots := 0, locals := 120 } : Room) [.ref h0, .int 2] [(kA, .int), (sA, .int), (mA, .object "BitStreams$Machine")] [(h0, .inr (6, [.ref kb, .ref sb, .ref ms, rv, .int rn, .int us])), (ms, .inl (mA, 4, .inr (.inr (.inr (.inr (bs_ms m0 m1 m2 m3)))))), (kb, .inr (0, [.ref kq, .int (nI kz)])), (kq, .inl (kA, 32, .inl f)), (sb, .inr (0, [.ref sq, .int (nI sz)])), (sq, .inl (sA, 12, .inl g)), (m2, .inr (4, [.ref r1, .ref r2, .ref r3])), (r1, .inr (1, [.long σ.1.1, .long σ.1.2])), (r2, .inr (1, [.long σ.2.1.1, .long σ.2.1.2])), (r3, .inr (1, [.long σ.2.2.1, .long σ.2.2.2]))] [(h0, .inr (6, [.ref kb, .ref sb, .ref ms, .ref m2, .int 2, .int 0])), (ms, .inl (mA, 4, .inr (.inr (.inr (.inr (bs_ms m0 m1 m2 m3)))))), (kb, .inr (0, [.ref kq, .int (nI 0)])), (kq, .inl (kA, 32, .inl f)), (sb, .inr (0, [.ref sq, .int (nI 0)])), (sq, .inl (sA, 12, .inl g)), (m2, .inr (4, [.ref r1, .ref r2, .ref r3])), (r1, .inr (1, [.long (((ss_load f (nI kz) g (nI sz)).1).1), .long (((ss_load f (nI kz) g (nI sz)).1).2)])), (r2, .inr (1, [.long (((ss_load f (nI kz) g (nI sz)).2.1).1), .long (((ss_load f (nI kz) g (nI sz)).2.1).2)])), (r3, .inr (1, [.long (((ss_load f (nI kz) g (nI sz)).2.2).1), .long (((ss_load f (nI kz) g (nI sz)).2.2).2)]))] 1 := by
  refine ct_of (cc := cX7_begin) (maxL := 3) (ret := (some .boolean)) (by decide) rfl (Nat.le_of_ble_eq_true rfl) ?_
  intro p e s m below meth c A H locs ls hx hb hr hml hts hown hlk hnm hF hP hK hD hA hS hl
  have hown : s.vm.findClass RX7 = some m.cls := hown
  have hl : lv_has ls 3 [(0, .ref h0), (1, .int 2)] := hl
  have hf_35 := hts (.fieldLink RX7 35 "BitStreams" "machines" "[LBitStreams$Machine;") (by decide +kernel)
  have hi_X7 : ∀ w ∈ u_ws RX7 TX7 6, w ∈ wsX7_begin := by decide +kernel
  have hf_14 := hts (.fieldLink RX7 14 "BitStreams" "keyBytes" "LBitStreams$Bytes;") (by decide +kernel)
  have cw_X0_size := cwV (R := ({ frames := 6, cells := 0, slots := 0, locals := 120 } : Room)) (rm := ({ frames := 0, cells := 0, slots := 0, locals := 0 } : Room)) 0 hts gX7_begin_X0_size rfl rfl rfl (by decide +kernel) ⟨Nat.le_of_ble_eq_true rfl, Nat.le_of_ble_eq_true rfl⟩
  have hf_18 := hts (.fieldLink RX7 18 "BitStreams" "startBytes" "LBitStreams$Bytes;") (by decide +kernel)
  have cw_X5_takes := va_cwA (R := ({ frames := 6, cells := 0, slots := 0, locals := 120 } : Room)) (rm := ({ frames := 0, cells := 0, slots := 0, locals := 0 } : Room)) 2 hts gX7_begin_X5_takes_u58X5 rfl rfl rfl hF.1.1 (by decide +kernel) ⟨Nat.le_of_ble_eq_true rfl, Nat.le_of_ble_eq_true rfl⟩
  have cw_X5_load := va_cwA (R := ({ frames := 6, cells := 0, slots := 0, locals := 120 } : Room)) (rm := ({ frames := 3, cells := 0, slots := 0, locals := 65 } : Room)) 2 hts gX7_begin_X5_load_u62X5 rfl rfl rfl hF.1.2.1 (by decide +kernel) ⟨Nat.le_of_ble_eq_true rfl, Nat.le_of_ble_eq_true rfl⟩
  have cw_X0_clear := cwV (R := ({ frames := 6, cells := 0, slots := 0, locals := 120 } : Room)) (rm := ({ frames := 0, cells := 0, slots := 0, locals := 0 } : Room)) 0 hts gX7_begin_X0_clear rfl rfl rfl (by decide +kernel) ⟨Nat.le_of_ble_eq_true rfl, Nat.le_of_ble_eq_true rfl⟩
  have hf_39 := hts (.fieldLink RX7 39 "BitStreams" "running" "LBitStreams$Machine;") (by decide +kernel)
  have hf_43 := hts (.fieldLink RX7 43 "BitStreams" "runningNumber" "I") (by decide +kernel)
  have hf_47 := hts (.fieldLink RX7 47 "BitStreams" "used" "I") (by decide +kernel)
  refine lv_iload_n hx hb dX7_begin_0 rfl (lv_at hl 1 rfl) ?_
  refine lv_if_lt (tgt := 13) hx hb dX7_begin_1 (by decide) (fun hh => absurd hh (by decide)) (fun _ => ?_)
  refine lv_iload_n hx hb dX7_begin_4 rfl (lv_at hl 1 rfl) ?_
  refine lv_aload_n hx hb dX7_begin_5 rfl (lv_at hl 0 rfl) ?_
  refine va_get (D := D) (ci := 6) (v := .ref ms) (C := RX7) (T := TX7) (N := 6) hx hb hts hi_X7 hown hK hP 0 rfl rfl 2 (by decide) hf_35 (fun _ h9 => h9) rfl dX7_begin_6 ?_
  refine va_alen (v := nI 4) hx hb hK hP 1 2 rfl rfl rfl dX7_begin_9 ?_
  refine lv_icmp_lt (tgt := 15) hx hb dX7_begin_10 (by decide) (fun _ => ?_) (fun hh => absurd (by decide) hh)
  refine lv_aload_n hx hb dX7_begin_15 rfl (lv_at hl 0 rfl) ?_
  refine va_get (D := D) (ci := 6) (v := .ref ms) (C := RX7) (T := TX7) (N := 6) hx hb hts hi_X7 hown hK hP 0 rfl rfl 2 (by decide) hf_35 (fun _ h9 => h9) rfl dX7_begin_16 ?_
  refine lv_iload_n hx hb dX7_begin_19 rfl (lv_at hl 1 rfl) ?_
  refine va_aldq hx hb hK hP 1 2 rfl rfl (vp_in_nI (n := 2) (N := 4) (by decide) (by decide)) dX7_begin_20 ?_
  refine ct_topv (y := .ref m2) rfl ?_
  refine lv_astore_n (lv' := [(2, .ref m2), (0, .ref h0), (1, .int 2)]) hx hb dX7_begin_21 rfl hl (by decide) rfl (fun ls hl => ?_)
  refine lv_aload_n hx hb dX7_begin_22 rfl (lv_at hl 0 rfl) ?_
  refine lv_aload_n hx hb dX7_begin_23 rfl (lv_at hl 1 rfl) ?_
  refine va_get (D := D) (ci := 6) (v := .ref kb) (C := RX7) (T := TX7) (N := 6) hx hb hts hi_X7 hown hK hP 0 rfl rfl 0 (by decide) hf_14 (fun _ h9 => h9) rfl dX7_begin_24 ?_
  refine ct_callVi (As := []) (rest := [.ref m2]) (wr := [(h0, .inr (6, [.ref kb, .ref sb, .ref ms, rv, .int rn, .int us])), (ms, .inl (mA, 4, .inr (.inr (.inr (.inr (bs_ms m0 m1 m2 m3)))))), (kq, .inl (kA, 32, .inl f)), (sb, .inr (0, [.ref sq, .int (nI sz)])), (sq, .inl (sA, 12, .inl g)), (m2, .inr (4, [.ref r1, .ref r2, .ref r3])), (r1, .inr (1, [.long σ.1.1, .long σ.1.2])), (r2, .inr (1, [.long σ.2.1.1, .long σ.2.1.2])), (r3, .inr (1, [.long σ.2.2.1, .long σ.2.2.2]))]) (ws2 := [(h0, .inr (6, [.ref kb, .ref sb, .ref ms, rv, .int rn, .int us])), (ms, .inl (mA, 4, .inr (.inr (.inr (.inr (bs_ms m0 m1 m2 m3)))))), (kb, .inr (0, [.ref kq, .int (nI kz)])), (kq, .inl (kA, 32, .inl f)), (sb, .inr (0, [.ref sq, .int (nI sz)])), (sq, .inl (sA, 12, .inl g)), (m2, .inr (4, [.ref r1, .ref r2, .ref r3])), (r1, .inr (1, [.long σ.1.1, .long σ.1.2])), (r2, .inr (1, [.long σ.2.1.1, .long σ.2.1.2])), (r3, .inr (1, [.long σ.2.2.1, .long σ.2.2.2]))]) ⟨hx, hb, hml, hown, hts⟩ (c_by_size l D kb kq (nI kz)) cw_X0_size [] rfl [2] [0, 1, 3, 4, 5, 6, 7, 8, 9] [0, 1, 9, 2, 3, 4, 5, 6, 7, 8] hF hK hP hD hS hA 0 0 rfl rfl rfl rfl (by decide) rfl (by decide) (by decide) rfl (by decide) rfl hl.1 rfl (Nat.le_of_ble_eq_true rfl) dX7_begin_27 ⟨Nat.zero_le _, Nat.zero_le _⟩ (fun H locs hP hD hS => ?_)
  refine lv_aload_n hx hb dX7_begin_30 rfl (lv_at hl 1 rfl) ?_
  refine va_get (D := D) (ci := 6) (v := .ref sb) (C := RX7) (T := TX7) (N := 6) hx hb hts hi_X7 hown hK hP 0 rfl rfl 1 (by decide) hf_18 (fun _ h9 => h9) rfl dX7_begin_31 ?_
  refine ct_callVi (As := []) (rest := [.int (nI kz), .ref m2]) (wr := [(h0, .inr (6, [.ref kb, .ref sb, .ref ms, rv, .int rn, .int us])), (ms, .inl (mA, 4, .inr (.inr (.inr (.inr (bs_ms m0 m1 m2 m3)))))), (kb, .inr (0, [.ref kq, .int (nI kz)])), (kq, .inl (kA, 32, .inl f)), (sq, .inl (sA, 12, .inl g)), (m2, .inr (4, [.ref r1, .ref r2, .ref r3])), (r1, .inr (1, [.long σ.1.1, .long σ.1.2])), (r2, .inr (1, [.long σ.2.1.1, .long σ.2.1.2])), (r3, .inr (1, [.long σ.2.2.1, .long σ.2.2.2]))]) (ws2 := [(h0, .inr (6, [.ref kb, .ref sb, .ref ms, rv, .int rn, .int us])), (ms, .inl (mA, 4, .inr (.inr (.inr (.inr (bs_ms m0 m1 m2 m3)))))), (kb, .inr (0, [.ref kq, .int (nI kz)])), (kq, .inl (kA, 32, .inl f)), (sb, .inr (0, [.ref sq, .int (nI sz)])), (sq, .inl (sA, 12, .inl g)), (m2, .inr (4, [.ref r1, .ref r2, .ref r3])), (r1, .inr (1, [.long σ.1.1, .long σ.1.2])), (r2, .inr (1, [.long σ.2.1.1, .long σ.2.1.2])), (r3, .inr (1, [.long σ.2.2.1, .long σ.2.2.2]))]) ⟨hx, hb, hml, hown, hts⟩ (c_by_size l D sb sq (nI sz)) cw_X0_size [] rfl [4] [0, 1, 2, 3, 5, 6, 7, 8, 9] [0, 1, 2, 3, 9, 4, 5, 6, 7, 8] hF hK hP hD hS hA 0 0 rfl rfl rfl rfl (by decide) rfl (by decide) (by decide) rfl (by decide) rfl hl.1 rfl (Nat.le_of_ble_eq_true rfl) dX7_begin_34 ⟨Nat.zero_le _, Nat.zero_le _⟩ (fun H locs hP hD hS => ?_)
  refine ct_callUi (As := [.int (nI kz), .int (nI sz)]) (rest := []) (wr := [(h0, .inr (6, [.ref kb, .ref sb, .ref ms, rv, .int rn, .int us])), (ms, .inl (mA, 4, .inr (.inr (.inr (.inr (bs_ms m0 m1 m2 m3)))))), (kb, .inr (0, [.ref kq, .int (nI kz)])), (kq, .inl (kA, 32, .inl f)), (sb, .inr (0, [.ref sq, .int (nI sz)])), (sq, .inl (sA, 12, .inl g)), (r1, .inr (1, [.long σ.1.1, .long σ.1.2])), (r2, .inr (1, [.long σ.2.1.1, .long σ.2.1.2])), (r3, .inr (1, [.long σ.2.2.1, .long σ.2.2.2]))]) (ws2 := [(h0, .inr (6, [.ref kb, .ref sb, .ref ms, rv, .int rn, .int us])), (ms, .inl (mA, 4, .inr (.inr (.inr (.inr (bs_ms m0 m1 m2 m3)))))), (kb, .inr (0, [.ref kq, .int (nI kz)])), (kq, .inl (kA, 32, .inl f)), (sb, .inr (0, [.ref sq, .int (nI sz)])), (sq, .inl (sA, 12, .inl g)), (m2, .inr (4, [.ref r1, .ref r2, .ref r3])), (r1, .inr (1, [.long σ.1.1, .long σ.1.2])), (r2, .inr (1, [.long σ.2.1.1, .long σ.2.1.2])), (r3, .inr (1, [.long σ.2.2.1, .long σ.2.2.2]))]) ⟨hx, hb, hml, hown, hts⟩ (c_ss_takes l D m2 r1 r2 r3 (nI kz) (nI sz)) cw_X5_takes [] rfl [6] [0, 1, 2, 3, 4, 5, 7, 8, 9] [0, 1, 2, 3, 4, 5, 9, 6, 7, 8] hF hK hP hD hS hA 0 4 rfl rfl rfl rfl (by decide) rfl (by decide) (by decide) rfl (by decide) rfl hl.1 rfl (Nat.le_of_ble_eq_true rfl) dX7_begin_37 ⟨Nat.zero_le _, Nat.zero_le _⟩ (fun H locs hP hD hS => ?_)
  refine lv_if_ne (tgt := 45) hx hb dX7_begin_40 (by decide) (fun _ => ?_) (fun hh => absurd hh (by rw [ht]; decide))
  refine lv_aload_n hx hb dX7_begin_45 rfl (lv_at hl 0 rfl) ?_
  refine lv_aload_n hx hb dX7_begin_46 rfl (lv_at hl 1 rfl) ?_
  refine va_get (D := D) (ci := 6) (v := .ref kb) (C := RX7) (T := TX7) (N := 6) hx hb hts hi_X7 hown hK hP 0 rfl rfl 0 (by decide) hf_14 (fun _ h9 => h9) rfl dX7_begin_47 ?_
  refine lv_aload_n hx hb dX7_begin_50 rfl (lv_at hl 1 rfl) ?_
  refine va_get (D := D) (ci := 6) (v := .ref sb) (C := RX7) (T := TX7) (N := 6) hx hb hts hi_X7 hown hK hP 0 rfl rfl 1 (by decide) hf_18 (fun _ h9 => h9) rfl dX7_begin_51 ?_
  refine ct_callUv (As := [.ref kb, .ref sb]) (rest := []) (wr := [(h0, .inr (6, [.ref kb, .ref sb, .ref ms, rv, .int rn, .int us])), (ms, .inl (mA, 4, .inr (.inr (.inr (.inr (bs_ms m0 m1 m2 m3))))))]) (ws2 := [(h0, .inr (6, [.ref kb, .ref sb, .ref ms, rv, .int rn, .int us])), (ms, .inl (mA, 4, .inr (.inr (.inr (.inr (bs_ms m0 m1 m2 m3)))))), (kb, .inr (0, [.ref kq, .int (nI kz)])), (kq, .inl (kA, 32, .inl f)), (sb, .inr (0, [.ref sq, .int (nI sz)])), (sq, .inl (sA, 12, .inl g)), (m2, .inr (4, [.ref r1, .ref r2, .ref r3])), (r1, .inr (1, [.long (((ss_load f (nI kz) g (nI sz)).1).1), .long (((ss_load f (nI kz) g (nI sz)).1).2)])), (r2, .inr (1, [.long (((ss_load f (nI kz) g (nI sz)).2.1).1), .long (((ss_load f (nI kz) g (nI sz)).2.1).2)])), (r3, .inr (1, [.long (((ss_load f (nI kz) g (nI sz)).2.2).1), .long (((ss_load f (nI kz) g (nI sz)).2.2).2)]))]) ⟨hx, hb, hml, hown, hts⟩ (c_ss_load l D m2 r1 r2 r3 kb kq sb sq kA sA 32 kz 12 sz hkz (by decide) hsz (by decide) f g σ) cw_X5_load [0, 1] rfl [6, 7, 8, 9, 2, 3, 4, 5] [0, 1] [0, 1, 6, 7, 8, 9, 2, 3, 4, 5] hF hK hP hD hS hA 0 4 rfl rfl rfl rfl (by decide) rfl (by decide) (by decide) rfl (by decide) rfl hl.1 rfl (Nat.le_of_ble_eq_true rfl) dX7_begin_54 ⟨Nat.zero_le _, Nat.zero_le _⟩ (fun H locs hP hD hS => ?_)
  refine lv_aload_n hx hb dX7_begin_57 rfl (lv_at hl 1 rfl) ?_
  refine va_get (D := D) (ci := 6) (v := .ref kb) (C := RX7) (T := TX7) (N := 6) hx hb hts hi_X7 hown hK hP 0 rfl rfl 0 (by decide) hf_14 (fun _ h9 => h9) rfl dX7_begin_58 ?_
  refine ct_callVv (As := []) (rest := []) (wr := [(h0, .inr (6, [.ref kb, .ref sb, .ref ms, rv, .int rn, .int us])), (ms, .inl (mA, 4, .inr (.inr (.inr (.inr (bs_ms m0 m1 m2 m3)))))), (kq, .inl (kA, 32, .inl f)), (sb, .inr (0, [.ref sq, .int (nI sz)])), (sq, .inl (sA, 12, .inl g)), (m2, .inr (4, [.ref r1, .ref r2, .ref r3])), (r1, .inr (1, [.long (((ss_load f (nI kz) g (nI sz)).1).1), .long (((ss_load f (nI kz) g (nI sz)).1).2)])), (r2, .inr (1, [.long (((ss_load f (nI kz) g (nI sz)).2.1).1), .long (((ss_load f (nI kz) g (nI sz)).2.1).2)])), (r3, .inr (1, [.long (((ss_load f (nI kz) g (nI sz)).2.2).1), .long (((ss_load f (nI kz) g (nI sz)).2.2).2)]))]) (ws2 := [(h0, .inr (6, [.ref kb, .ref sb, .ref ms, rv, .int rn, .int us])), (ms, .inl (mA, 4, .inr (.inr (.inr (.inr (bs_ms m0 m1 m2 m3)))))), (kb, .inr (0, [.ref kq, .int (nI 0)])), (kq, .inl (kA, 32, .inl f)), (sb, .inr (0, [.ref sq, .int (nI sz)])), (sq, .inl (sA, 12, .inl g)), (m2, .inr (4, [.ref r1, .ref r2, .ref r3])), (r1, .inr (1, [.long (((ss_load f (nI kz) g (nI sz)).1).1), .long (((ss_load f (nI kz) g (nI sz)).1).2)])), (r2, .inr (1, [.long (((ss_load f (nI kz) g (nI sz)).2.1).1), .long (((ss_load f (nI kz) g (nI sz)).2.1).2)])), (r3, .inr (1, [.long (((ss_load f (nI kz) g (nI sz)).2.2).1), .long (((ss_load f (nI kz) g (nI sz)).2.2).2)]))]) ⟨hx, hb, hml, hown, hts⟩ (c_by_clr l D kb kq (nI kz)) cw_X0_clear [] rfl [2] [0, 1, 3, 4, 5, 6, 7, 8, 9] [0, 1, 9, 2, 3, 4, 5, 6, 7, 8] hF hK hP hD hS hA 0 0 rfl rfl rfl rfl (by decide) rfl (by decide) (by decide) rfl (by decide) rfl hl.1 rfl (Nat.le_of_ble_eq_true rfl) dX7_begin_61 ⟨Nat.zero_le _, Nat.zero_le _⟩ (fun H locs hP hD hS => ?_)
  refine lv_aload_n hx hb dX7_begin_64 rfl (lv_at hl 1 rfl) ?_
  refine va_get (D := D) (ci := 6) (v := .ref sb) (C := RX7) (T := TX7) (N := 6) hx hb hts hi_X7 hown hK hP 0 rfl rfl 1 (by decide) hf_18 (fun _ h9 => h9) rfl dX7_begin_65 ?_
  refine ct_callVv (As := []) (rest := []) (wr := [(h0, .inr (6, [.ref kb, .ref sb, .ref ms, rv, .int rn, .int us])), (ms, .inl (mA, 4, .inr (.inr (.inr (.inr (bs_ms m0 m1 m2 m3)))))), (kb, .inr (0, [.ref kq, .int (nI 0)])), (kq, .inl (kA, 32, .inl f)), (sq, .inl (sA, 12, .inl g)), (m2, .inr (4, [.ref r1, .ref r2, .ref r3])), (r1, .inr (1, [.long (((ss_load f (nI kz) g (nI sz)).1).1), .long (((ss_load f (nI kz) g (nI sz)).1).2)])), (r2, .inr (1, [.long (((ss_load f (nI kz) g (nI sz)).2.1).1), .long (((ss_load f (nI kz) g (nI sz)).2.1).2)])), (r3, .inr (1, [.long (((ss_load f (nI kz) g (nI sz)).2.2).1), .long (((ss_load f (nI kz) g (nI sz)).2.2).2)]))]) (ws2 := [(h0, .inr (6, [.ref kb, .ref sb, .ref ms, rv, .int rn, .int us])), (ms, .inl (mA, 4, .inr (.inr (.inr (.inr (bs_ms m0 m1 m2 m3)))))), (kb, .inr (0, [.ref kq, .int (nI 0)])), (kq, .inl (kA, 32, .inl f)), (sb, .inr (0, [.ref sq, .int (nI 0)])), (sq, .inl (sA, 12, .inl g)), (m2, .inr (4, [.ref r1, .ref r2, .ref r3])), (r1, .inr (1, [.long (((ss_load f (nI kz) g (nI sz)).1).1), .long (((ss_load f (nI kz) g (nI sz)).1).2)])), (r2, .inr (1, [.long (((ss_load f (nI kz) g (nI sz)).2.1).1), .long (((ss_load f (nI kz) g (nI sz)).2.1).2)])), (r3, .inr (1, [.long (((ss_load f (nI kz) g (nI sz)).2.2).1), .long (((ss_load f (nI kz) g (nI sz)).2.2).2)]))]) ⟨hx, hb, hml, hown, hts⟩ (c_by_clr l D sb sq (nI sz)) cw_X0_clear [] rfl [4] [0, 1, 2, 3, 5, 6, 7, 8, 9] [0, 1, 2, 3, 9, 4, 5, 6, 7, 8] hF hK hP hD hS hA 0 0 rfl rfl rfl rfl (by decide) rfl (by decide) (by decide) rfl (by decide) rfl hl.1 rfl (Nat.le_of_ble_eq_true rfl) dX7_begin_68 ⟨Nat.zero_le _, Nat.zero_le _⟩ (fun H locs hP hD hS => ?_)
  refine lv_aload_n hx hb dX7_begin_71 rfl (lv_at hl 1 rfl) ?_
  refine lv_aload_n hx hb dX7_begin_72 rfl (lv_at hl 0 rfl) ?_
  refine va_put (D := D) (ci := 6) (v := .ref m2) (ty := .object "BitStreams$Machine") (C := RX7) (T := TX7) (N := 6) hx hb hts hi_X7 tyX7 tyX7_ok nmX7 hown hK hP hD hS 0 rfl rfl 3 (by decide) hf_39 (fun _ h9 => h9) rfl (by decide +kernel) rfl rfl (Nat.le_of_ble_eq_true rfl) dX7_begin_73 (fun H locs hP hD hS => ?_)
  have hP : va_P D vwCl [(h0, .inr (6, [.ref kb, .ref sb, .ref ms, .ref m2, .int rn, .int us])), (ms, .inl (mA, 4, .inr (.inr (.inr (.inr (bs_ms m0 m1 m2 m3)))))), (kb, .inr (0, [.ref kq, .int (nI 0)])), (kq, .inl (kA, 32, .inl f)), (sb, .inr (0, [.ref sq, .int (nI 0)])), (sq, .inl (sA, 12, .inl g)), (m2, .inr (4, [.ref r1, .ref r2, .ref r3])), (r1, .inr (1, [.long (((ss_load f (nI kz) g (nI sz)).1).1), .long (((ss_load f (nI kz) g (nI sz)).1).2)])), (r2, .inr (1, [.long (((ss_load f (nI kz) g (nI sz)).2.1).1), .long (((ss_load f (nI kz) g (nI sz)).2.1).2)])), (r3, .inr (1, [.long (((ss_load f (nI kz) g (nI sz)).2.2).1), .long (((ss_load f (nI kz) g (nI sz)).2.2).2)]))] H := hP
  have hD : va_D A [(h0, .inr (6, [.ref kb, .ref sb, .ref ms, .ref m2, .int rn, .int us])), (ms, .inl (mA, 4, .inr (.inr (.inr (.inr (bs_ms m0 m1 m2 m3)))))), (kb, .inr (0, [.ref kq, .int (nI 0)])), (kq, .inl (kA, 32, .inl f)), (sb, .inr (0, [.ref sq, .int (nI 0)])), (sq, .inl (sA, 12, .inl g)), (m2, .inr (4, [.ref r1, .ref r2, .ref r3])), (r1, .inr (1, [.long (((ss_load f (nI kz) g (nI sz)).1).1), .long (((ss_load f (nI kz) g (nI sz)).1).2)])), (r2, .inr (1, [.long (((ss_load f (nI kz) g (nI sz)).2.1).1), .long (((ss_load f (nI kz) g (nI sz)).2.1).2)])), (r3, .inr (1, [.long (((ss_load f (nI kz) g (nI sz)).2.2).1), .long (((ss_load f (nI kz) g (nI sz)).2.2).2)]))] := hD
  refine lv_aload_n hx hb dX7_begin_76 rfl (lv_at hl 1 rfl) ?_
  refine lv_iload_n hx hb dX7_begin_77 rfl (lv_at hl 2 rfl) ?_
  refine va_put (D := D) (ci := 6) (v := .int 2) (ty := .int) (C := RX7) (T := TX7) (N := 6) hx hb hts hi_X7 tyX7 tyX7_ok nmX7 hown hK hP hD hS 0 rfl rfl 4 (by decide) hf_43 (fun _ h9 => h9) rfl (by decide +kernel) rfl rfl (Nat.le_of_ble_eq_true rfl) dX7_begin_78 (fun H locs hP hD hS => ?_)
  have hP : va_P D vwCl [(h0, .inr (6, [.ref kb, .ref sb, .ref ms, .ref m2, .int 2, .int us])), (ms, .inl (mA, 4, .inr (.inr (.inr (.inr (bs_ms m0 m1 m2 m3)))))), (kb, .inr (0, [.ref kq, .int (nI 0)])), (kq, .inl (kA, 32, .inl f)), (sb, .inr (0, [.ref sq, .int (nI 0)])), (sq, .inl (sA, 12, .inl g)), (m2, .inr (4, [.ref r1, .ref r2, .ref r3])), (r1, .inr (1, [.long (((ss_load f (nI kz) g (nI sz)).1).1), .long (((ss_load f (nI kz) g (nI sz)).1).2)])), (r2, .inr (1, [.long (((ss_load f (nI kz) g (nI sz)).2.1).1), .long (((ss_load f (nI kz) g (nI sz)).2.1).2)])), (r3, .inr (1, [.long (((ss_load f (nI kz) g (nI sz)).2.2).1), .long (((ss_load f (nI kz) g (nI sz)).2.2).2)]))] H := hP
  have hD : va_D A [(h0, .inr (6, [.ref kb, .ref sb, .ref ms, .ref m2, .int 2, .int us])), (ms, .inl (mA, 4, .inr (.inr (.inr (.inr (bs_ms m0 m1 m2 m3)))))), (kb, .inr (0, [.ref kq, .int (nI 0)])), (kq, .inl (kA, 32, .inl f)), (sb, .inr (0, [.ref sq, .int (nI 0)])), (sq, .inl (sA, 12, .inl g)), (m2, .inr (4, [.ref r1, .ref r2, .ref r3])), (r1, .inr (1, [.long (((ss_load f (nI kz) g (nI sz)).1).1), .long (((ss_load f (nI kz) g (nI sz)).1).2)])), (r2, .inr (1, [.long (((ss_load f (nI kz) g (nI sz)).2.1).1), .long (((ss_load f (nI kz) g (nI sz)).2.1).2)])), (r3, .inr (1, [.long (((ss_load f (nI kz) g (nI sz)).2.2).1), .long (((ss_load f (nI kz) g (nI sz)).2.2).2)]))] := hD
  refine lv_aload_n hx hb dX7_begin_81 rfl (lv_at hl 1 rfl) ?_
  refine lv_iconst (v := 0) hx hb dX7_begin_82 (by decide) ?_
  refine va_put (D := D) (ci := 6) (v := .int 0) (ty := .int) (C := RX7) (T := TX7) (N := 6) hx hb hts hi_X7 tyX7 tyX7_ok nmX7 hown hK hP hD hS 0 rfl rfl 5 (by decide) hf_47 (fun _ h9 => h9) rfl (by decide +kernel) rfl rfl (Nat.le_of_ble_eq_true rfl) dX7_begin_83 (fun H locs hP hD hS => ?_)
  have hP : va_P D vwCl [(h0, .inr (6, [.ref kb, .ref sb, .ref ms, .ref m2, .int 2, .int 0])), (ms, .inl (mA, 4, .inr (.inr (.inr (.inr (bs_ms m0 m1 m2 m3)))))), (kb, .inr (0, [.ref kq, .int (nI 0)])), (kq, .inl (kA, 32, .inl f)), (sb, .inr (0, [.ref sq, .int (nI 0)])), (sq, .inl (sA, 12, .inl g)), (m2, .inr (4, [.ref r1, .ref r2, .ref r3])), (r1, .inr (1, [.long (((ss_load f (nI kz) g (nI sz)).1).1), .long (((ss_load f (nI kz) g (nI sz)).1).2)])), (r2, .inr (1, [.long (((ss_load f (nI kz) g (nI sz)).2.1).1), .long (((ss_load f (nI kz) g (nI sz)).2.1).2)])), (r3, .inr (1, [.long (((ss_load f (nI kz) g (nI sz)).2.2).1), .long (((ss_load f (nI kz) g (nI sz)).2.2).2)]))] H := hP
  have hD : va_D A [(h0, .inr (6, [.ref kb, .ref sb, .ref ms, .ref m2, .int 2, .int 0])), (ms, .inl (mA, 4, .inr (.inr (.inr (.inr (bs_ms m0 m1 m2 m3)))))), (kb, .inr (0, [.ref kq, .int (nI 0)])), (kq, .inl (kA, 32, .inl f)), (sb, .inr (0, [.ref sq, .int (nI 0)])), (sq, .inl (sA, 12, .inl g)), (m2, .inr (4, [.ref r1, .ref r2, .ref r3])), (r1, .inr (1, [.long (((ss_load f (nI kz) g (nI sz)).1).1), .long (((ss_load f (nI kz) g (nI sz)).1).2)])), (r2, .inr (1, [.long (((ss_load f (nI kz) g (nI sz)).2.1).1), .long (((ss_load f (nI kz) g (nI sz)).2.1).2)])), (r3, .inr (1, [.long (((ss_load f (nI kz) g (nI sz)).2.2).1), .long (((ss_load f (nI kz) g (nI sz)).2.2).2)]))] := hD
  refine lv_iconst (v := 1) hx hb dX7_begin_86 (by decide) ?_
  exact ct_zret hx hb hr hlk hP hK hD hS rfl rfl dX7_begin_87
set_option maxHeartbeats 4000000 in
set_option maxRecDepth 100000 in
/-- BitStreams.skip, machine 3 -/
theorem c_bs_skip3 (l : Launch) (D : va_G) (h0 kb sb ms m3 q : Nat) (kR : ClassId) (rn us : Int32) (σ : X5) (n : Nat) (hn : n ≤ 5000) : Cti l D yX7_skip wsX7_skip ({ frames := 6, cells := 0, slots := 0, locals := 120 } : Room) [.ref h0, .int (nI n)] [(kR, .int)] [(h0, .inr (6, [.ref kb, .ref sb, .ref ms, .ref m3, .int rn, .int us])), (m3, .inr (2, [.ref q, .int σ.1.2.1, .int σ.1.2.2, .int σ.2.1, .int σ.2.2])), (q, .inl (kR, 256, .inl σ.1.1))] [(h0, .inr (6, [.ref kb, .ref sb, .ref ms, .ref m3, .int rn, .int (us + nI n)])), (m3, .inr (2, [.ref q, .int ((mit ex_step σ n).1.2.1), .int ((mit ex_step σ n).1.2.2), .int ((mit ex_step σ n).2.1), .int ((mit ex_step σ n).2.2)])), (q, .inl (kR, 256, .inl ((mit ex_step σ n).1.1)))] 1 := by
  refine ct_of (cc := cX7_skip) (maxL := 3) (ret := (some .boolean)) (by decide) rfl (Nat.le_of_ble_eq_true rfl) ?_
  intro p e s m below meth c A H locs ls hx hb hr hml hts hown hlk hnm hF hP hK hD hA hS hl
  have hown : s.vm.findClass RX7 = some m.cls := hown
  have hl : lv_has ls 3 [(0, .ref h0), (1, .int (nI n))] := hl
  have hf_39 := hts (.fieldLink RX7 39 "BitStreams" "running" "LBitStreams$Machine;") (by decide +kernel)
  have hi_X7 : ∀ w ∈ u_ws RX7 TX7 6, w ∈ wsX7_skip := by decide +kernel
  have cw_X2_nextBit := va_cwA (R := ({ frames := 6, cells := 0, slots := 0, locals := 120 } : Room)) (rm := ({ frames := 2, cells := 0, slots := 0, locals := 43 } : Room)) 0 hts gX7_skip_X2_nextBit_u73X2 rfl rfl rfl hF.1.2.2 (by decide +kernel) ⟨Nat.le_of_ble_eq_true rfl, Nat.le_of_ble_eq_true rfl⟩
  have hf_47 := hts (.fieldLink RX7 47 "BitStreams" "used" "I") (by decide +kernel)
  refine lv_aload_n hx hb dX7_skip_0 rfl (lv_at hl 0 rfl) ?_
  refine va_get (D := D) (ci := 6) (v := .ref m3) (C := RX7) (T := TX7) (N := 6) hx hb hts hi_X7 hown hK hP 0 rfl rfl 3 (by decide) hf_39 (fun _ h9 => h9) rfl dX7_skip_1 ?_
  refine lv_ifnull hx hb dX7_skip_4 ?_
  refine lv_iload_n hx hb dX7_skip_7 rfl (lv_at hl 1 rfl) ?_
  refine lv_if_lt (tgt := 18) hx hb dX7_skip_8 (by decide) (fun hh => absurd hh (nI_pos (by omega))) (fun _ => ?_)
  refine lv_iload_n hx hb dX7_skip_11 rfl (lv_at hl 1 rfl) ?_
  refine lv_sipush (v := 5000) hx hb dX7_skip_12 (by decide) ?_
  refine lv_icmp_le (tgt := 20) hx hb dX7_skip_15 (by decide) (fun _ => ?_) (fun hh => absurd (nI_le hn (by decide)) hh)
  refine lv_iconst (v := 0) hx hb dX7_skip_20 (by decide) ?_
  refine lv_istore_n (lv' := [(2, .int 0), (0, .ref h0), (1, .int (nI n))]) hx hb dX7_skip_21 rfl hl (by decide) rfl (fun ls hl => ?_)
  refine ct_count n (fun k : Nat => [(h0, .inr (6, [.ref kb, .ref sb, .ref ms, .ref m3, .int rn, .int us])), (m3, .inr (2, [.ref q, .int ((mit ex_step σ k).1.2.1), .int ((mit ex_step σ k).1.2.2), .int ((mit ex_step σ k).2.1), .int ((mit ex_step σ k).2.2)])), (q, .inl (kR, 256, .inl ((mit ex_step σ k).1.1)))]) (fun k : Nat => [(2, .int (nI k)), (0, .ref h0), (1, .int (nI n))]) ?_ ?_ 0 (Nat.zero_le _) hP hD hS (lv_sub hl [0, 1, 2] rfl)
  · intro k hk ih22 H locs ls hP hD hS hl
    have hP : va_P D vwCl [(h0, .inr (6, [.ref kb, .ref sb, .ref ms, .ref m3, .int rn, .int us])), (m3, .inr (2, [.ref q, .int ((mit ex_step σ k).1.2.1), .int ((mit ex_step σ k).1.2.2), .int ((mit ex_step σ k).2.1), .int ((mit ex_step σ k).2.2)])), (q, .inl (kR, 256, .inl ((mit ex_step σ k).1.1)))] H := hP
    have hD : va_D A [(h0, .inr (6, [.ref kb, .ref sb, .ref ms, .ref m3, .int rn, .int us])), (m3, .inr (2, [.ref q, .int ((mit ex_step σ k).1.2.1), .int ((mit ex_step σ k).1.2.2), .int ((mit ex_step σ k).2.1), .int ((mit ex_step σ k).2.2)])), (q, .inl (kR, 256, .inl ((mit ex_step σ k).1.1)))] := hD
    have hl : lv_has ls 3 [(2, .int (nI k)), (0, .ref h0), (1, .int (nI n))] := hl
    refine lv_iload_n hx hb dX7_skip_22 rfl (lv_at hl 0 rfl) ?_
    refine lv_iload_n hx hb dX7_skip_23 rfl (lv_at hl 2 rfl) ?_
    refine lv_icmp_ge (tgt := 41) hx hb dX7_skip_24 (by decide) (fun hh => absurd hh (nI_ge hk (by omega))) (fun _ => ?_)
    refine lv_aload_n hx hb dX7_skip_27 rfl (lv_at hl 1 rfl) ?_
    refine va_get (D := D) (ci := 6) (v := .ref m3) (C := RX7) (T := TX7) (N := 6) hx hb hts hi_X7 hown hK hP 0 rfl rfl 3 (by decide) hf_39 (fun _ h9 => h9) rfl dX7_skip_28 ?_
    refine ct_callUi (As := []) (rest := []) (wr := [(h0, .inr (6, [.ref kb, .ref sb, .ref ms, .ref m3, .int rn, .int us]))]) (ws2 := [(h0, .inr (6, [.ref kb, .ref sb, .ref ms, .ref m3, .int rn, .int us])), (m3, .inr (2, [.ref q, .int ((ex_step (mit ex_step σ k)).1.2.1), .int ((ex_step (mit ex_step σ k)).1.2.2), .int ((ex_step (mit ex_step σ k)).2.1), .int ((ex_step (mit ex_step σ k)).2.2)])), (q, .inl (kR, 256, .inl ((ex_step (mit ex_step σ k)).1.1)))]) ⟨hx, hb, hml, hown, hts⟩ (c_ex_next l D m3 q kR (mit ex_step σ k)) cw_X2_nextBit [0] rfl [1, 2] [0] [0, 1, 2] hF hK hP hD hS hA 0 2 rfl rfl rfl rfl (by decide) rfl (by decide) (by decide) rfl (by decide) rfl hl.1 rfl (Nat.le_of_ble_eq_true rfl) dX7_skip_31 ⟨Nat.zero_le _, Nat.zero_le _⟩ (fun H locs hP hD hS => ?_)
    refine lv_pop hx hb dX7_skip_34 rfl ?_
    refine lv_iinc (v := nI (k + 1)) (lv' := [(2, .int (nI (k + 1))), (0, .ref h0), (1, .int (nI n))]) hx hb dX7_skip_35 hl (k := 0) rfl (ct_inc k) (by decide) rfl (fun ls hl => ?_)
    refine lv_goto (tgt := 22) hx hb dX7_skip_38 (by decide) ?_
    exact ih22 H locs ls hP hD hS (lv_sub hl [0, 1, 2] rfl)
  · intro H locs ls hP hD hS hl
    have hP : va_P D vwCl [(h0, .inr (6, [.ref kb, .ref sb, .ref ms, .ref m3, .int rn, .int us])), (m3, .inr (2, [.ref q, .int ((mit ex_step σ n).1.2.1), .int ((mit ex_step σ n).1.2.2), .int ((mit ex_step σ n).2.1), .int ((mit ex_step σ n).2.2)])), (q, .inl (kR, 256, .inl ((mit ex_step σ n).1.1)))] H := hP
    have hD : va_D A [(h0, .inr (6, [.ref kb, .ref sb, .ref ms, .ref m3, .int rn, .int us])), (m3, .inr (2, [.ref q, .int ((mit ex_step σ n).1.2.1), .int ((mit ex_step σ n).1.2.2), .int ((mit ex_step σ n).2.1), .int ((mit ex_step σ n).2.2)])), (q, .inl (kR, 256, .inl ((mit ex_step σ n).1.1)))] := hD
    have hl : lv_has ls 3 [(2, .int (nI n)), (0, .ref h0), (1, .int (nI n))] := hl
    refine lv_iload_n hx hb dX7_skip_22 rfl (lv_at hl 0 rfl) ?_
    refine lv_iload_n hx hb dX7_skip_23 rfl (lv_at hl 2 rfl) ?_
    refine lv_icmp_ge (tgt := 41) hx hb dX7_skip_24 (by decide) (fun _ => ?_) (fun hh => absurd (Int32.le_refl _) hh)
    refine lv_aload_n hx hb dX7_skip_41 rfl (lv_at hl 1 rfl) ?_
    refine lv_dup hx hb dX7_skip_42 rfl ?_
    refine va_get (D := D) (ci := 6) (v := .int us) (C := RX7) (T := TX7) (N := 6) hx hb hts hi_X7 hown hK hP 0 rfl rfl 5 (by decide) hf_47 (fun _ h9 => h9) rfl dX7_skip_43 ?_
    refine lv_iload_n hx hb dX7_skip_46 rfl (lv_at hl 2 rfl) ?_
    refine lv_iadd hx hb dX7_skip_47 ?_
    refine va_put (D := D) (ci := 6) (v := .int (us + (nI n))) (ty := .int) (C := RX7) (T := TX7) (N := 6) hx hb hts hi_X7 tyX7 tyX7_ok nmX7 hown hK hP hD hS 0 rfl rfl 5 (by decide) hf_47 (fun _ h9 => h9) rfl (by decide +kernel) rfl rfl (Nat.le_of_ble_eq_true rfl) dX7_skip_48 (fun H locs hP hD hS => ?_)
    have hP : va_P D vwCl [(h0, .inr (6, [.ref kb, .ref sb, .ref ms, .ref m3, .int rn, .int (us + (nI n))])), (m3, .inr (2, [.ref q, .int ((mit ex_step σ n).1.2.1), .int ((mit ex_step σ n).1.2.2), .int ((mit ex_step σ n).2.1), .int ((mit ex_step σ n).2.2)])), (q, .inl (kR, 256, .inl ((mit ex_step σ n).1.1)))] H := hP
    have hD : va_D A [(h0, .inr (6, [.ref kb, .ref sb, .ref ms, .ref m3, .int rn, .int (us + (nI n))])), (m3, .inr (2, [.ref q, .int ((mit ex_step σ n).1.2.1), .int ((mit ex_step σ n).1.2.2), .int ((mit ex_step σ n).2.1), .int ((mit ex_step σ n).2.2)])), (q, .inl (kR, 256, .inl ((mit ex_step σ n).1.1)))] := hD
    refine lv_iconst (v := 1) hx hb dX7_skip_51 (by decide) ?_
    exact ct_zret hx hb hr hlk hP hK hD hS rfl rfl dX7_skip_52
set_option maxHeartbeats 4000000 in
set_option maxRecDepth 100000 in
/-- BitStreams.mix, machine 3 -/
theorem c_bs_mix3 (l : Launch) (D : va_G) (h0 kb sb ms m3 q : Nat) (kR : ClassId) (rn us : Int32) (σ : X5) (v : Int64) (n : Nat) (hn1 : 1 ≤ n) (hn : n ≤ 64) : Ctl l D yX7_mix wsX7_mix ({ frames := 6, cells := 0, slots := 0, locals := 120 } : Room) [.ref h0, .long v, .int (nI n)] [(kR, .int)] [(h0, .inr (6, [.ref kb, .ref sb, .ref ms, .ref m3, .int rn, .int us])), (m3, .inr (2, [.ref q, .int σ.1.2.1, .int σ.1.2.2, .int σ.2.1, .int σ.2.2])), (q, .inl (kR, 256, .inl σ.1.1))] [(h0, .inr (6, [.ref kb, .ref sb, .ref ms, .ref m3, .int rn, .int (us + nI n)])), (m3, .inr (2, [.ref q, .int ((mit ex_step σ n).1.2.1), .int ((mit ex_step σ n).1.2.2), .int ((mit ex_step σ n).2.1), .int ((mit ex_step σ n).2.2)])), (q, .inl (kR, 256, .inl ((mit ex_step σ n).1.1)))] (mmx v n (mst ex_step ex_out σ n)) := by
  refine ct_of (cc := cX7_mix) (maxL := 8) (ret := (some .long)) (by decide) rfl (Nat.le_of_ble_eq_true rfl) ?_
  intro p e s m below meth c A H locs ls hx hb hr hml hts hown hlk hnm hF hP hK hD hA hS hl
  have hown : s.vm.findClass RX7 = some m.cls := hown
  have hl : lv_has ls 8 [(0, .ref h0), (1, .long v), (3, .int (nI n))] := hl
  have hf_39 := hts (.fieldLink RX7 39 "BitStreams" "running" "LBitStreams$Machine;") (by decide +kernel)
  have hi_X7 : ∀ w ∈ u_ws RX7 TX7 6, w ∈ wsX7_mix := by decide +kernel
  have cw_X2_nextBit := va_cwA (R := ({ frames := 6, cells := 0, slots := 0, locals := 120 } : Room)) (rm := ({ frames := 2, cells := 0, slots := 0, locals := 43 } : Room)) 0 hts gX7_mix_X2_nextBit_u73X2 rfl rfl rfl hF.1.2.2 (by decide +kernel) ⟨Nat.le_of_ble_eq_true rfl, Nat.le_of_ble_eq_true rfl⟩
  have hf_47 := hts (.fieldLink RX7 47 "BitStreams" "used" "I") (by decide +kernel)
  have hc_76 := hts (.constantLong RX7 76 (-1)) (by decide +kernel)
  refine lv_aload_n hx hb dX7_mix_0 rfl (lv_at hl 0 rfl) ?_
  refine va_get (D := D) (ci := 6) (v := .ref m3) (C := RX7) (T := TX7) (N := 6) hx hb hts hi_X7 hown hK hP 0 rfl rfl 3 (by decide) hf_39 (fun _ h9 => h9) rfl dX7_mix_1 ?_
  refine lv_ifnull hx hb dX7_mix_4 ?_
  refine lv_iload_n hx hb dX7_mix_7 rfl (lv_at hl 2 rfl) ?_
  refine lv_iconst (v := 1) hx hb dX7_mix_8 (by decide) ?_
  refine lv_icmp_lt (tgt := 18) hx hb dX7_mix_9 (by decide) (fun hh => absurd hh (nI_nlt (a := n) (b := 1) hn1 (by omega))) (fun _ => ?_)
  refine lv_iload_n hx hb dX7_mix_12 rfl (lv_at hl 2 rfl) ?_
  refine lv_bipush (v := 64) hx hb dX7_mix_13 (by decide) ?_
  refine lv_icmp_le (tgt := 20) hx hb dX7_mix_15 (by decide) (fun _ => ?_) (fun hh => absurd (nI_le (b := 64) hn (by decide)) hh)
  refine lv_lconst (v := 0) hx hb dX7_mix_20 (by decide) ?_
  refine lv_lstore (lv' := [(4, .long 0), (0, .ref h0), (1, .long v), (3, .int (nI n))]) hx hb dX7_mix_21 hl (by decide) rfl (fun ls hl => ?_)
  refine lv_iconst (v := 0) hx hb dX7_mix_23 (by decide) ?_
  refine lv_istore (lv' := [(6, .int 0), (4, .long 0), (0, .ref h0), (1, .long v), (3, .int (nI n))]) hx hb dX7_mix_24 hl (by decide) rfl (fun ls hl => ?_)
  refine ct_count n (fun k : Nat => [(h0, .inr (6, [.ref kb, .ref sb, .ref ms, .ref m3, .int rn, .int us])), (m3, .inr (2, [.ref q, .int ((mit ex_step σ k).1.2.1), .int ((mit ex_step σ k).1.2.2), .int ((mit ex_step σ k).2.1), .int ((mit ex_step σ k).2.2)])), (q, .inl (kR, 256, .inl ((mit ex_step σ k).1.1)))]) (fun k : Nat => [(6, .int (nI k)), (4, .long (mst ex_step ex_out σ k)), (0, .ref h0), (1, .long v), (3, .int (nI n))]) ?_ ?_ 0 (Nat.zero_le _) hP hD hS (lv_sub hl [0, 1, 2, 3, 4] rfl)
  · intro k hk ih26 H locs ls hP hD hS hl
    have hP : va_P D vwCl [(h0, .inr (6, [.ref kb, .ref sb, .ref ms, .ref m3, .int rn, .int us])), (m3, .inr (2, [.ref q, .int ((mit ex_step σ k).1.2.1), .int ((mit ex_step σ k).1.2.2), .int ((mit ex_step σ k).2.1), .int ((mit ex_step σ k).2.2)])), (q, .inl (kR, 256, .inl ((mit ex_step σ k).1.1)))] H := hP
    have hD : va_D A [(h0, .inr (6, [.ref kb, .ref sb, .ref ms, .ref m3, .int rn, .int us])), (m3, .inr (2, [.ref q, .int ((mit ex_step σ k).1.2.1), .int ((mit ex_step σ k).1.2.2), .int ((mit ex_step σ k).2.1), .int ((mit ex_step σ k).2.2)])), (q, .inl (kR, 256, .inl ((mit ex_step σ k).1.1)))] := hD
    have hl : lv_has ls 8 [(6, .int (nI k)), (4, .long (mst ex_step ex_out σ k)), (0, .ref h0), (1, .long v), (3, .int (nI n))] := hl
    refine lv_iload hx hb dX7_mix_26 (lv_at hl 0 rfl) ?_
    refine lv_iload_n hx hb dX7_mix_28 rfl (lv_at hl 4 rfl) ?_
    refine lv_icmp_ge (tgt := 53) hx hb dX7_mix_29 (by decide) (fun hh => absurd hh (nI_ge hk (by omega))) (fun _ => ?_)
    refine lv_lload hx hb dX7_mix_32 (lv_at hl 1 rfl) ?_
    refine lv_iconst (v := 1) hx hb dX7_mix_34 (by decide) ?_
    refine lv_lshl (v := lL (mst ex_step ex_out σ k) 1) hx hb dX7_mix_35 rfl ?_
    refine lv_aload_n hx hb dX7_mix_36 rfl (lv_at hl 2 rfl) ?_
    refine va_get (D := D) (ci := 6) (v := .ref m3) (C := RX7) (T := TX7) (N := 6) hx hb hts hi_X7 hown hK hP 0 rfl rfl 3 (by decide) hf_39 (fun _ h9 => h9) rfl dX7_mix_37 ?_
    refine ct_callUi (As := []) (rest := [.long (lL (mst ex_step ex_out σ k) 1)]) (wr := [(h0, .inr (6, [.ref kb, .ref sb, .ref ms, .ref m3, .int rn, .int us]))]) (ws2 := [(h0, .inr (6, [.ref kb, .ref sb, .ref ms, .ref m3, .int rn, .int us])), (m3, .inr (2, [.ref q, .int ((ex_step (mit ex_step σ k)).1.2.1), .int ((ex_step (mit ex_step σ k)).1.2.2), .int ((ex_step (mit ex_step σ k)).2.1), .int ((ex_step (mit ex_step σ k)).2.2)])), (q, .inl (kR, 256, .inl ((ex_step (mit ex_step σ k)).1.1)))]) ⟨hx, hb, hml, hown, hts⟩ (c_ex_next l D m3 q kR (mit ex_step σ k)) cw_X2_nextBit [0] rfl [1, 2] [0] [0, 1, 2] hF hK hP hD hS hA 0 2 rfl rfl rfl rfl (by decide) rfl (by decide) (by decide) rfl (by decide) rfl hl.1 rfl (Nat.le_of_ble_eq_true rfl) dX7_mix_40 ⟨Nat.zero_le _, Nat.zero_le _⟩ (fun H locs hP hD hS => ?_)
    refine lv_i2l hx hb dX7_mix_43 rfl ?_
    refine lv_lor hx hb dX7_mix_44 ?_
    refine lv_lstore (lv' := [(4, .long ((lL (mst ex_step ex_out σ k) 1) ||| ((ex_out (mit ex_step σ k)).toInt64))), (6, .int (nI k)), (0, .ref h0), (1, .long v), (3, .int (nI n))]) hx hb dX7_mix_45 hl (by decide) rfl (fun ls hl => ?_)
    refine lv_iinc (v := nI (k + 1)) (lv' := [(6, .int (nI (k + 1))), (4, .long ((lL (mst ex_step ex_out σ k) 1) ||| ((ex_out (mit ex_step σ k)).toInt64))), (0, .ref h0), (1, .long v), (3, .int (nI n))]) hx hb dX7_mix_47 hl (k := 1) rfl (ct_inc k) (by decide) rfl (fun ls hl => ?_)
    refine lv_goto (tgt := 26) hx hb dX7_mix_50 (by decide) ?_
    exact ih26 H locs ls hP hD hS (lv_sub hl [0, 1, 2, 3, 4] rfl)
  · intro H locs ls hP hD hS hl
    have hP : va_P D vwCl [(h0, .inr (6, [.ref kb, .ref sb, .ref ms, .ref m3, .int rn, .int us])), (m3, .inr (2, [.ref q, .int ((mit ex_step σ n).1.2.1), .int ((mit ex_step σ n).1.2.2), .int ((mit ex_step σ n).2.1), .int ((mit ex_step σ n).2.2)])), (q, .inl (kR, 256, .inl ((mit ex_step σ n).1.1)))] H := hP
    have hD : va_D A [(h0, .inr (6, [.ref kb, .ref sb, .ref ms, .ref m3, .int rn, .int us])), (m3, .inr (2, [.ref q, .int ((mit ex_step σ n).1.2.1), .int ((mit ex_step σ n).1.2.2), .int ((mit ex_step σ n).2.1), .int ((mit ex_step σ n).2.2)])), (q, .inl (kR, 256, .inl ((mit ex_step σ n).1.1)))] := hD
    have hl : lv_has ls 8 [(6, .int (nI n)), (4, .long (mst ex_step ex_out σ n)), (0, .ref h0), (1, .long v), (3, .int (nI n))] := hl
    refine lv_iload hx hb dX7_mix_26 (lv_at hl 0 rfl) ?_
    refine lv_iload_n hx hb dX7_mix_28 rfl (lv_at hl 4 rfl) ?_
    refine lv_icmp_ge (tgt := 53) hx hb dX7_mix_29 (by decide) (fun _ => ?_) (fun hh => absurd (Int32.le_refl _) hh)
    refine lv_aload_n hx hb dX7_mix_53 rfl (lv_at hl 2 rfl) ?_
    refine lv_dup hx hb dX7_mix_54 rfl ?_
    refine va_get (D := D) (ci := 6) (v := .int us) (C := RX7) (T := TX7) (N := 6) hx hb hts hi_X7 hown hK hP 0 rfl rfl 5 (by decide) hf_47 (fun _ h9 => h9) rfl dX7_mix_55 ?_
    refine lv_iload_n hx hb dX7_mix_58 rfl (lv_at hl 4 rfl) ?_
    refine lv_iadd hx hb dX7_mix_59 ?_
    refine va_put (D := D) (ci := 6) (v := .int (us + (nI n))) (ty := .int) (C := RX7) (T := TX7) (N := 6) hx hb hts hi_X7 tyX7 tyX7_ok nmX7 hown hK hP hD hS 0 rfl rfl 5 (by decide) hf_47 (fun _ h9 => h9) rfl (by decide +kernel) rfl rfl (Nat.le_of_ble_eq_true rfl) dX7_mix_60 (fun H locs hP hD hS => ?_)
    have hP : va_P D vwCl [(h0, .inr (6, [.ref kb, .ref sb, .ref ms, .ref m3, .int rn, .int (us + (nI n))])), (m3, .inr (2, [.ref q, .int ((mit ex_step σ n).1.2.1), .int ((mit ex_step σ n).1.2.2), .int ((mit ex_step σ n).2.1), .int ((mit ex_step σ n).2.2)])), (q, .inl (kR, 256, .inl ((mit ex_step σ n).1.1)))] H := hP
    have hD : va_D A [(h0, .inr (6, [.ref kb, .ref sb, .ref ms, .ref m3, .int rn, .int (us + (nI n))])), (m3, .inr (2, [.ref q, .int ((mit ex_step σ n).1.2.1), .int ((mit ex_step σ n).1.2.2), .int ((mit ex_step σ n).2.1), .int ((mit ex_step σ n).2.2)])), (q, .inl (kR, 256, .inl ((mit ex_step σ n).1.1)))] := hD
    refine lv_ldc2 (v := (-1)) hx hb hown hc_76 dX7_mix_63 ?_
    refine lv_bipush (v := 64) hx hb dX7_mix_66 (by decide) ?_
    refine lv_iload_n hx hb dX7_mix_68 rfl (lv_at hl 4 rfl) ?_
    refine lv_isub hx hb dX7_mix_69 ?_
    refine lv_lushr (v := lU (-1) (64 - (nI n))) hx hb dX7_mix_70 rfl ?_
    refine lv_lstore (lv' := [(6, .long (lU (-1) (64 - (nI n)))), (4, .long (mst ex_step ex_out σ n)), (0, .ref h0), (1, .long v), (3, .int (nI n))]) hx hb dX7_mix_71 hl (by decide) rfl (fun ls hl => ?_)
    refine lv_lload_n hx hb dX7_mix_73 rfl (lv_at hl 3 rfl) ?_
    refine lv_lload hx hb dX7_mix_74 (lv_at hl 0 rfl) ?_
    refine lv_land hx hb dX7_mix_76 ?_
    refine lv_lload hx hb dX7_mix_77 (lv_at hl 1 rfl) ?_
    refine lv_lxor hx hb dX7_mix_79 ?_
    exact ct_lret hx hb hr hlk hP hK hD hS rfl dX7_mix_80
set_option maxHeartbeats 4000000 in
set_option maxRecDepth 100000 in
/-- BitStreams.begin(3) -/
theorem c_bs_begin3F (l : Launch) (D : va_G) (h0 kb sb ms kq sq m0 m1 m2 m3 q : Nat) (rv : Value) (rn us : Int32) (kA sA mA : ClassId) (kR : ClassId) (kz sz : Nat) (hkz : kz ≤ 32) (hsz : sz ≤ 12) (f g : Nat → Int32) (σ : X5) (ht : tk3 (nI kz) (nI sz) = 0) : Cti l D yX7_begin wsX7_begin ({ frames := 6, cells := 0, slots := 0, locals := 120 } : Room) [.ref h0, .int 3] [(kA, .int), (sA, .int), (mA, .object "BitStreams$Machine"), (kR, .int)] [(h0, .inr (6, [.ref kb, .ref sb, .ref ms, rv, .int rn, .int us])), (ms, .inl (mA, 4, .inr (.inr (.inr (.inr (bs_ms m0 m1 m2 m3)))))), (kb, .inr (0, [.ref kq, .int (nI kz)])), (kq, .inl (kA, 32, .inl f)), (sb, .inr (0, [.ref sq, .int (nI sz)])), (sq, .inl (sA, 12, .inl g)), (m3, .inr (2, [.ref q, .int σ.1.2.1, .int σ.1.2.2, .int σ.2.1, .int σ.2.2])), (q, .inl (kR, 256, .inl σ.1.1))] [(h0, .inr (6, [.ref kb, .ref sb, .ref ms, rv, .int rn, .int us])), (ms, .inl (mA, 4, .inr (.inr (.inr (.inr (bs_ms m0 m1 m2 m3)))))), (kb, .inr (0, [.ref kq, .int (nI kz)])), (kq, .inl (kA, 32, .inl f)), (sb, .inr (0, [.ref sq, .int (nI sz)])), (sq, .inl (sA, 12, .inl g)), (m3, .inr (2, [.ref q, .int σ.1.2.1, .int σ.1.2.2, .int σ.2.1, .int σ.2.2])), (q, .inl (kR, 256, .inl σ.1.1))] 0 := by
  refine ct_of (cc := cX7_begin) (maxL := 3) (ret := (some .boolean)) (by decide) rfl (Nat.le_of_ble_eq_true rfl) ?_
  intro p e s m below meth c A H locs ls hx hb hr hml hts hown hlk hnm hF hP hK hD hA hS hl
  have hown : s.vm.findClass RX7 = some m.cls := hown
  have hl : lv_has ls 3 [(0, .ref h0), (1, .int 3)] := hl
  have hf_35 := hts (.fieldLink RX7 35 "BitStreams" "machines" "[LBitStreams$Machine;") (by decide +kernel)
  have hi_X7 : ∀ w ∈ u_ws RX7 TX7 6, w ∈ wsX7_begin := by decide +kernel
  have hf_14 := hts (.fieldLink RX7 14 "BitStreams" "keyBytes" "LBitStreams$Bytes;") (by decide +kernel)
  have cw_X0_size := cwV (R := ({ frames := 6, cells := 0, slots := 0, locals := 120 } : Room)) (rm := ({ frames := 0, cells := 0, slots := 0, locals := 0 } : Room)) 0 hts gX7_begin_X0_size rfl rfl rfl (by decide +kernel) ⟨Nat.le_of_ble_eq_true rfl, Nat.le_of_ble_eq_true rfl⟩
  have hf_18 := hts (.fieldLink RX7 18 "BitStreams" "startBytes" "LBitStreams$Bytes;") (by decide +kernel)
  have cw_X2_takes := va_cwA (R := ({ frames := 6, cells := 0, slots := 0, locals := 120 } : Room)) (rm := ({ frames := 0, cells := 0, slots := 0, locals := 0 } : Room)) 2 hts gX7_begin_X2_takes_u58X2 rfl rfl rfl hF.1.1 (by decide +kernel) ⟨Nat.le_of_ble_eq_true rfl, Nat.le_of_ble_eq_true rfl⟩
  refine lv_iload_n hx hb dX7_begin_0 rfl (lv_at hl 1 rfl) ?_
  refine lv_if_lt (tgt := 13) hx hb dX7_begin_1 (by decide) (fun hh => absurd hh (by decide)) (fun _ => ?_)
  refine lv_iload_n hx hb dX7_begin_4 rfl (lv_at hl 1 rfl) ?_
  refine lv_aload_n hx hb dX7_begin_5 rfl (lv_at hl 0 rfl) ?_
  refine va_get (D := D) (ci := 6) (v := .ref ms) (C := RX7) (T := TX7) (N := 6) hx hb hts hi_X7 hown hK hP 0 rfl rfl 2 (by decide) hf_35 (fun _ h9 => h9) rfl dX7_begin_6 ?_
  refine va_alen (v := nI 4) hx hb hK hP 1 2 rfl rfl rfl dX7_begin_9 ?_
  refine lv_icmp_lt (tgt := 15) hx hb dX7_begin_10 (by decide) (fun _ => ?_) (fun hh => absurd (by decide) hh)
  refine lv_aload_n hx hb dX7_begin_15 rfl (lv_at hl 0 rfl) ?_
  refine va_get (D := D) (ci := 6) (v := .ref ms) (C := RX7) (T := TX7) (N := 6) hx hb hts hi_X7 hown hK hP 0 rfl rfl 2 (by decide) hf_35 (fun _ h9 => h9) rfl dX7_begin_16 ?_
  refine lv_iload_n hx hb dX7_begin_19 rfl (lv_at hl 1 rfl) ?_
  refine va_aldq hx hb hK hP 1 2 rfl rfl (vp_in_nI (n := 3) (N := 4) (by decide) (by decide)) dX7_begin_20 ?_
  refine ct_topv (y := .ref m3) rfl ?_
  refine lv_astore_n (lv' := [(2, .ref m3), (0, .ref h0), (1, .int 3)]) hx hb dX7_begin_21 rfl hl (by decide) rfl (fun ls hl => ?_)
  refine lv_aload_n hx hb dX7_begin_22 rfl (lv_at hl 0 rfl) ?_
  refine lv_aload_n hx hb dX7_begin_23 rfl (lv_at hl 1 rfl) ?_
  refine va_get (D := D) (ci := 6) (v := .ref kb) (C := RX7) (T := TX7) (N := 6) hx hb hts hi_X7 hown hK hP 0 rfl rfl 0 (by decide) hf_14 (fun _ h9 => h9) rfl dX7_begin_24 ?_
  refine ct_callVi (As := []) (rest := [.ref m3]) (wr := [(h0, .inr (6, [.ref kb, .ref sb, .ref ms, rv, .int rn, .int us])), (ms, .inl (mA, 4, .inr (.inr (.inr (.inr (bs_ms m0 m1 m2 m3)))))), (kq, .inl (kA, 32, .inl f)), (sb, .inr (0, [.ref sq, .int (nI sz)])), (sq, .inl (sA, 12, .inl g)), (m3, .inr (2, [.ref q, .int σ.1.2.1, .int σ.1.2.2, .int σ.2.1, .int σ.2.2])), (q, .inl (kR, 256, .inl σ.1.1))]) (ws2 := [(h0, .inr (6, [.ref kb, .ref sb, .ref ms, rv, .int rn, .int us])), (ms, .inl (mA, 4, .inr (.inr (.inr (.inr (bs_ms m0 m1 m2 m3)))))), (kb, .inr (0, [.ref kq, .int (nI kz)])), (kq, .inl (kA, 32, .inl f)), (sb, .inr (0, [.ref sq, .int (nI sz)])), (sq, .inl (sA, 12, .inl g)), (m3, .inr (2, [.ref q, .int σ.1.2.1, .int σ.1.2.2, .int σ.2.1, .int σ.2.2])), (q, .inl (kR, 256, .inl σ.1.1))]) ⟨hx, hb, hml, hown, hts⟩ (c_by_size l D kb kq (nI kz)) cw_X0_size [] rfl [2] [0, 1, 3, 4, 5, 6, 7] [0, 1, 7, 2, 3, 4, 5, 6] hF hK hP hD hS hA 0 0 rfl rfl rfl rfl (by decide) rfl (by decide) (by decide) rfl (by decide) rfl hl.1 rfl (Nat.le_of_ble_eq_true rfl) dX7_begin_27 ⟨Nat.zero_le _, Nat.zero_le _⟩ (fun H locs hP hD hS => ?_)
  refine lv_aload_n hx hb dX7_begin_30 rfl (lv_at hl 1 rfl) ?_
  refine va_get (D := D) (ci := 6) (v := .ref sb) (C := RX7) (T := TX7) (N := 6) hx hb hts hi_X7 hown hK hP 0 rfl rfl 1 (by decide) hf_18 (fun _ h9 => h9) rfl dX7_begin_31 ?_
  refine ct_callVi (As := []) (rest := [.int (nI kz), .ref m3]) (wr := [(h0, .inr (6, [.ref kb, .ref sb, .ref ms, rv, .int rn, .int us])), (ms, .inl (mA, 4, .inr (.inr (.inr (.inr (bs_ms m0 m1 m2 m3)))))), (kb, .inr (0, [.ref kq, .int (nI kz)])), (kq, .inl (kA, 32, .inl f)), (sq, .inl (sA, 12, .inl g)), (m3, .inr (2, [.ref q, .int σ.1.2.1, .int σ.1.2.2, .int σ.2.1, .int σ.2.2])), (q, .inl (kR, 256, .inl σ.1.1))]) (ws2 := [(h0, .inr (6, [.ref kb, .ref sb, .ref ms, rv, .int rn, .int us])), (ms, .inl (mA, 4, .inr (.inr (.inr (.inr (bs_ms m0 m1 m2 m3)))))), (kb, .inr (0, [.ref kq, .int (nI kz)])), (kq, .inl (kA, 32, .inl f)), (sb, .inr (0, [.ref sq, .int (nI sz)])), (sq, .inl (sA, 12, .inl g)), (m3, .inr (2, [.ref q, .int σ.1.2.1, .int σ.1.2.2, .int σ.2.1, .int σ.2.2])), (q, .inl (kR, 256, .inl σ.1.1))]) ⟨hx, hb, hml, hown, hts⟩ (c_by_size l D sb sq (nI sz)) cw_X0_size [] rfl [4] [0, 1, 2, 3, 5, 6, 7] [0, 1, 2, 3, 7, 4, 5, 6] hF hK hP hD hS hA 0 0 rfl rfl rfl rfl (by decide) rfl (by decide) (by decide) rfl (by decide) rfl hl.1 rfl (Nat.le_of_ble_eq_true rfl) dX7_begin_34 ⟨Nat.zero_le _, Nat.zero_le _⟩ (fun H locs hP hD hS => ?_)
  refine ct_callUi (As := [.int (nI kz), .int (nI sz)]) (rest := []) (wr := [(h0, .inr (6, [.ref kb, .ref sb, .ref ms, rv, .int rn, .int us])), (ms, .inl (mA, 4, .inr (.inr (.inr (.inr (bs_ms m0 m1 m2 m3)))))), (kb, .inr (0, [.ref kq, .int (nI kz)])), (kq, .inl (kA, 32, .inl f)), (sb, .inr (0, [.ref sq, .int (nI sz)])), (sq, .inl (sA, 12, .inl g)), (q, .inl (kR, 256, .inl σ.1.1))]) (ws2 := [(h0, .inr (6, [.ref kb, .ref sb, .ref ms, rv, .int rn, .int us])), (ms, .inl (mA, 4, .inr (.inr (.inr (.inr (bs_ms m0 m1 m2 m3)))))), (kb, .inr (0, [.ref kq, .int (nI kz)])), (kq, .inl (kA, 32, .inl f)), (sb, .inr (0, [.ref sq, .int (nI sz)])), (sq, .inl (sA, 12, .inl g)), (m3, .inr (2, [.ref q, .int σ.1.2.1, .int σ.1.2.2, .int σ.2.1, .int σ.2.2])), (q, .inl (kR, 256, .inl σ.1.1))]) ⟨hx, hb, hml, hown, hts⟩ (c_ex_takes l D m3 q σ.1.2.1 σ.1.2.2 σ.2.1 σ.2.2 (nI kz) (nI sz)) cw_X2_takes [] rfl [6] [0, 1, 2, 3, 4, 5, 7] [0, 1, 2, 3, 4, 5, 7, 6] hF hK hP hD hS hA 0 2 rfl rfl rfl rfl (by decide) rfl (by decide) (by decide) rfl (by decide) rfl hl.1 rfl (Nat.le_of_ble_eq_true rfl) dX7_begin_37 ⟨Nat.zero_le _, Nat.zero_le _⟩ (fun H locs hP hD hS => ?_)
  refine lv_if_ne (tgt := 45) hx hb dX7_begin_40 (by decide) (fun hh => absurd ht hh) (fun _ => ?_)
  refine lv_iconst (v := 0) hx hb dX7_begin_43 (by decide) ?_
  exact ct_zret hx hb hr hlk hP hK hD hS rfl rfl dX7_begin_44
set_option maxHeartbeats 4000000 in
set_option maxRecDepth 100000 in
/-- BitStreams.begin(3) -/
theorem c_bs_begin3T (l : Launch) (D : va_G) (h0 kb sb ms kq sq m0 m1 m2 m3 q : Nat) (rv : Value) (rn us : Int32) (kA sA mA : ClassId) (kR : ClassId) (kz sz : Nat) (hkz : kz ≤ 32) (hsz : sz ≤ 12) (f g : Nat → Int32) (σ : X5) (ht : tk3 (nI kz) (nI sz) = 1) : Cti l D yX7_begin wsX7_begin ({ frames := 6, cells := 0, slots := 0, locals := 120 } : Room) [.ref h0, .int 3] [(kA, .int), (sA, .int), (mA, .object "BitStreams$Machine"), (kR, .int)] [(h0, .inr (6, [.ref kb, .ref sb, .ref ms, rv, .int rn, .int us])), (ms, .inl (mA, 4, .inr (.inr (.inr (.inr (bs_ms m0 m1 m2 m3)))))), (kb, .inr (0, [.ref kq, .int (nI kz)])), (kq, .inl (kA, 32, .inl f)), (sb, .inr (0, [.ref sq, .int (nI sz)])), (sq, .inl (sA, 12, .inl g)), (m3, .inr (2, [.ref q, .int σ.1.2.1, .int σ.1.2.2, .int σ.2.1, .int σ.2.2])), (q, .inl (kR, 256, .inl σ.1.1))] [(h0, .inr (6, [.ref kb, .ref sb, .ref ms, .ref m3, .int 3, .int 0])), (ms, .inl (mA, 4, .inr (.inr (.inr (.inr (bs_ms m0 m1 m2 m3)))))), (kb, .inr (0, [.ref kq, .int (nI 0)])), (kq, .inl (kA, 32, .inl f)), (sb, .inr (0, [.ref sq, .int (nI 0)])), (sq, .inl (sA, 12, .inl g)), (m3, .inr (2, [.ref q, .int ((ex_load f (nI kz) σ).1.2.1), .int ((ex_load f (nI kz) σ).1.2.2), .int ((ex_load f (nI kz) σ).2.1), .int ((ex_load f (nI kz) σ).2.2)])), (q, .inl (kR, 256, .inl ((ex_load f (nI kz) σ).1.1)))] 1 := by
  refine ct_of (cc := cX7_begin) (maxL := 3) (ret := (some .boolean)) (by decide) rfl (Nat.le_of_ble_eq_true rfl) ?_
  intro p e s m below meth c A H locs ls hx hb hr hml hts hown hlk hnm hF hP hK hD hA hS hl
  have hown : s.vm.findClass RX7 = some m.cls := hown
  have hl : lv_has ls 3 [(0, .ref h0), (1, .int 3)] := hl
  have hf_35 := hts (.fieldLink RX7 35 "BitStreams" "machines" "[LBitStreams$Machine;") (by decide +kernel)
  have hi_X7 : ∀ w ∈ u_ws RX7 TX7 6, w ∈ wsX7_begin := by decide +kernel
  have hf_14 := hts (.fieldLink RX7 14 "BitStreams" "keyBytes" "LBitStreams$Bytes;") (by decide +kernel)
  have cw_X0_size := cwV (R := ({ frames := 6, cells := 0, slots := 0, locals := 120 } : Room)) (rm := ({ frames := 0, cells := 0, slots := 0, locals := 0 } : Room)) 0 hts gX7_begin_X0_size rfl rfl rfl (by decide +kernel) ⟨Nat.le_of_ble_eq_true rfl, Nat.le_of_ble_eq_true rfl⟩
  have hf_18 := hts (.fieldLink RX7 18 "BitStreams" "startBytes" "LBitStreams$Bytes;") (by decide +kernel)
  have cw_X2_takes := va_cwA (R := ({ frames := 6, cells := 0, slots := 0, locals := 120 } : Room)) (rm := ({ frames := 0, cells := 0, slots := 0, locals := 0 } : Room)) 2 hts gX7_begin_X2_takes_u58X2 rfl rfl rfl hF.1.1 (by decide +kernel) ⟨Nat.le_of_ble_eq_true rfl, Nat.le_of_ble_eq_true rfl⟩
  have cw_X2_load := va_cwA (R := ({ frames := 6, cells := 0, slots := 0, locals := 120 } : Room)) (rm := ({ frames := 1, cells := 0, slots := 0, locals := 23 } : Room)) 2 hts gX7_begin_X2_load_u62X2 rfl rfl rfl hF.1.2.1 (by decide +kernel) ⟨Nat.le_of_ble_eq_true rfl, Nat.le_of_ble_eq_true rfl⟩
  have cw_X0_clear := cwV (R := ({ frames := 6, cells := 0, slots := 0, locals := 120 } : Room)) (rm := ({ frames := 0, cells := 0, slots := 0, locals := 0 } : Room)) 0 hts gX7_begin_X0_clear rfl rfl rfl (by decide +kernel) ⟨Nat.le_of_ble_eq_true rfl, Nat.le_of_ble_eq_true rfl⟩
  have hf_39 := hts (.fieldLink RX7 39 "BitStreams" "running" "LBitStreams$Machine;") (by decide +kernel)
  have hf_43 := hts (.fieldLink RX7 43 "BitStreams" "runningNumber" "I") (by decide +kernel)
  have hf_47 := hts (.fieldLink RX7 47 "BitStreams" "used" "I") (by decide +kernel)
  refine lv_iload_n hx hb dX7_begin_0 rfl (lv_at hl 1 rfl) ?_
  refine lv_if_lt (tgt := 13) hx hb dX7_begin_1 (by decide) (fun hh => absurd hh (by decide)) (fun _ => ?_)
  refine lv_iload_n hx hb dX7_begin_4 rfl (lv_at hl 1 rfl) ?_
  refine lv_aload_n hx hb dX7_begin_5 rfl (lv_at hl 0 rfl) ?_
  refine va_get (D := D) (ci := 6) (v := .ref ms) (C := RX7) (T := TX7) (N := 6) hx hb hts hi_X7 hown hK hP 0 rfl rfl 2 (by decide) hf_35 (fun _ h9 => h9) rfl dX7_begin_6 ?_
  refine va_alen (v := nI 4) hx hb hK hP 1 2 rfl rfl rfl dX7_begin_9 ?_
  refine lv_icmp_lt (tgt := 15) hx hb dX7_begin_10 (by decide) (fun _ => ?_) (fun hh => absurd (by decide) hh)
  refine lv_aload_n hx hb dX7_begin_15 rfl (lv_at hl 0 rfl) ?_
  refine va_get (D := D) (ci := 6) (v := .ref ms) (C := RX7) (T := TX7) (N := 6) hx hb hts hi_X7 hown hK hP 0 rfl rfl 2 (by decide) hf_35 (fun _ h9 => h9) rfl dX7_begin_16 ?_
  refine lv_iload_n hx hb dX7_begin_19 rfl (lv_at hl 1 rfl) ?_
  refine va_aldq hx hb hK hP 1 2 rfl rfl (vp_in_nI (n := 3) (N := 4) (by decide) (by decide)) dX7_begin_20 ?_
  refine ct_topv (y := .ref m3) rfl ?_
  refine lv_astore_n (lv' := [(2, .ref m3), (0, .ref h0), (1, .int 3)]) hx hb dX7_begin_21 rfl hl (by decide) rfl (fun ls hl => ?_)
  refine lv_aload_n hx hb dX7_begin_22 rfl (lv_at hl 0 rfl) ?_
  refine lv_aload_n hx hb dX7_begin_23 rfl (lv_at hl 1 rfl) ?_
  refine va_get (D := D) (ci := 6) (v := .ref kb) (C := RX7) (T := TX7) (N := 6) hx hb hts hi_X7 hown hK hP 0 rfl rfl 0 (by decide) hf_14 (fun _ h9 => h9) rfl dX7_begin_24 ?_
  refine ct_callVi (As := []) (rest := [.ref m3]) (wr := [(h0, .inr (6, [.ref kb, .ref sb, .ref ms, rv, .int rn, .int us])), (ms, .inl (mA, 4, .inr (.inr (.inr (.inr (bs_ms m0 m1 m2 m3)))))), (kq, .inl (kA, 32, .inl f)), (sb, .inr (0, [.ref sq, .int (nI sz)])), (sq, .inl (sA, 12, .inl g)), (m3, .inr (2, [.ref q, .int σ.1.2.1, .int σ.1.2.2, .int σ.2.1, .int σ.2.2])), (q, .inl (kR, 256, .inl σ.1.1))]) (ws2 := [(h0, .inr (6, [.ref kb, .ref sb, .ref ms, rv, .int rn, .int us])), (ms, .inl (mA, 4, .inr (.inr (.inr (.inr (bs_ms m0 m1 m2 m3)))))), (kb, .inr (0, [.ref kq, .int (nI kz)])), (kq, .inl (kA, 32, .inl f)), (sb, .inr (0, [.ref sq, .int (nI sz)])), (sq, .inl (sA, 12, .inl g)), (m3, .inr (2, [.ref q, .int σ.1.2.1, .int σ.1.2.2, .int σ.2.1, .int σ.2.2])), (q, .inl (kR, 256, .inl σ.1.1))]) ⟨hx, hb, hml, hown, hts⟩ (c_by_size l D kb kq (nI kz)) cw_X0_size [] rfl [2] [0, 1, 3, 4, 5, 6, 7] [0, 1, 7, 2, 3, 4, 5, 6] hF hK hP hD hS hA 0 0 rfl rfl rfl rfl (by decide) rfl (by decide) (by decide) rfl (by decide) rfl hl.1 rfl (Nat.le_of_ble_eq_true rfl) dX7_begin_27 ⟨Nat.zero_le _, Nat.zero_le _⟩ (fun H locs hP hD hS => ?_)
  refine lv_aload_n hx hb dX7_begin_30 rfl (lv_at hl 1 rfl) ?_
  refine va_get (D := D) (ci := 6) (v := .ref sb) (C := RX7) (T := TX7) (N := 6) hx hb hts hi_X7 hown hK hP 0 rfl rfl 1 (by decide) hf_18 (fun _ h9 => h9) rfl dX7_begin_31 ?_
  refine ct_callVi (As := []) (rest := [.int (nI kz), .ref m3]) (wr := [(h0, .inr (6, [.ref kb, .ref sb, .ref ms, rv, .int rn, .int us])), (ms, .inl (mA, 4, .inr (.inr (.inr (.inr (bs_ms m0 m1 m2 m3)))))), (kb, .inr (0, [.ref kq, .int (nI kz)])), (kq, .inl (kA, 32, .inl f)), (sq, .inl (sA, 12, .inl g)), (m3, .inr (2, [.ref q, .int σ.1.2.1, .int σ.1.2.2, .int σ.2.1, .int σ.2.2])), (q, .inl (kR, 256, .inl σ.1.1))]) (ws2 := [(h0, .inr (6, [.ref kb, .ref sb, .ref ms, rv, .int rn, .int us])), (ms, .inl (mA, 4, .inr (.inr (.inr (.inr (bs_ms m0 m1 m2 m3)))))), (kb, .inr (0, [.ref kq, .int (nI kz)])), (kq, .inl (kA, 32, .inl f)), (sb, .inr (0, [.ref sq, .int (nI sz)])), (sq, .inl (sA, 12, .inl g)), (m3, .inr (2, [.ref q, .int σ.1.2.1, .int σ.1.2.2, .int σ.2.1, .int σ.2.2])), (q, .inl (kR, 256, .inl σ.1.1))]) ⟨hx, hb, hml, hown, hts⟩ (c_by_size l D sb sq (nI sz)) cw_X0_size [] rfl [4] [0, 1, 2, 3, 5, 6, 7] [0, 1, 2, 3, 7, 4, 5, 6] hF hK hP hD hS hA 0 0 rfl rfl rfl rfl (by decide) rfl (by decide) (by decide) rfl (by decide) rfl hl.1 rfl (Nat.le_of_ble_eq_true rfl) dX7_begin_34 ⟨Nat.zero_le _, Nat.zero_le _⟩ (fun H locs hP hD hS => ?_)
  refine ct_callUi (As := [.int (nI kz), .int (nI sz)]) (rest := []) (wr := [(h0, .inr (6, [.ref kb, .ref sb, .ref ms, rv, .int rn, .int us])), (ms, .inl (mA, 4, .inr (.inr (.inr (.inr (bs_ms m0 m1 m2 m3)))))), (kb, .inr (0, [.ref kq, .int (nI kz)])), (kq, .inl (kA, 32, .inl f)), (sb, .inr (0, [.ref sq, .int (nI sz)])), (sq, .inl (sA, 12, .inl g)), (q, .inl (kR, 256, .inl σ.1.1))]) (ws2 := [(h0, .inr (6, [.ref kb, .ref sb, .ref ms, rv, .int rn, .int us])), (ms, .inl (mA, 4, .inr (.inr (.inr (.inr (bs_ms m0 m1 m2 m3)))))), (kb, .inr (0, [.ref kq, .int (nI kz)])), (kq, .inl (kA, 32, .inl f)), (sb, .inr (0, [.ref sq, .int (nI sz)])), (sq, .inl (sA, 12, .inl g)), (m3, .inr (2, [.ref q, .int σ.1.2.1, .int σ.1.2.2, .int σ.2.1, .int σ.2.2])), (q, .inl (kR, 256, .inl σ.1.1))]) ⟨hx, hb, hml, hown, hts⟩ (c_ex_takes l D m3 q σ.1.2.1 σ.1.2.2 σ.2.1 σ.2.2 (nI kz) (nI sz)) cw_X2_takes [] rfl [6] [0, 1, 2, 3, 4, 5, 7] [0, 1, 2, 3, 4, 5, 7, 6] hF hK hP hD hS hA 0 2 rfl rfl rfl rfl (by decide) rfl (by decide) (by decide) rfl (by decide) rfl hl.1 rfl (Nat.le_of_ble_eq_true rfl) dX7_begin_37 ⟨Nat.zero_le _, Nat.zero_le _⟩ (fun H locs hP hD hS => ?_)
  refine lv_if_ne (tgt := 45) hx hb dX7_begin_40 (by decide) (fun _ => ?_) (fun hh => absurd hh (by rw [ht]; decide))
  refine lv_aload_n hx hb dX7_begin_45 rfl (lv_at hl 0 rfl) ?_
  refine lv_aload_n hx hb dX7_begin_46 rfl (lv_at hl 1 rfl) ?_
  refine va_get (D := D) (ci := 6) (v := .ref kb) (C := RX7) (T := TX7) (N := 6) hx hb hts hi_X7 hown hK hP 0 rfl rfl 0 (by decide) hf_14 (fun _ h9 => h9) rfl dX7_begin_47 ?_
  refine lv_aload_n hx hb dX7_begin_50 rfl (lv_at hl 1 rfl) ?_
  refine va_get (D := D) (ci := 6) (v := .ref sb) (C := RX7) (T := TX7) (N := 6) hx hb hts hi_X7 hown hK hP 0 rfl rfl 1 (by decide) hf_18 (fun _ h9 => h9) rfl dX7_begin_51 ?_
  refine ct_callUv (As := [.ref kb, .ref sb]) (rest := []) (wr := [(h0, .inr (6, [.ref kb, .ref sb, .ref ms, rv, .int rn, .int us])), (ms, .inl (mA, 4, .inr (.inr (.inr (.inr (bs_ms m0 m1 m2 m3))))))]) (ws2 := [(h0, .inr (6, [.ref kb, .ref sb, .ref ms, rv, .int rn, .int us])), (ms, .inl (mA, 4, .inr (.inr (.inr (.inr (bs_ms m0 m1 m2 m3)))))), (kb, .inr (0, [.ref kq, .int (nI kz)])), (kq, .inl (kA, 32, .inl f)), (sb, .inr (0, [.ref sq, .int (nI sz)])), (sq, .inl (sA, 12, .inl g)), (m3, .inr (2, [.ref q, .int ((ex_load f (nI kz) σ).1.2.1), .int ((ex_load f (nI kz) σ).1.2.2), .int ((ex_load f (nI kz) σ).2.1), .int ((ex_load f (nI kz) σ).2.2)])), (q, .inl (kR, 256, .inl ((ex_load f (nI kz) σ).1.1)))]) ⟨hx, hb, hml, hown, hts⟩ (c_ex_load l D m3 q kR kb kq sb sq kA sA 32 kz 12 sz hkz (by decide) hsz (by decide) f g σ) cw_X2_load [0, 1, 3] rfl [6, 7, 2, 3, 4, 5] [0, 1] [0, 1, 4, 5, 6, 7, 2, 3] hF hK hP hD hS hA 0 2 rfl rfl rfl rfl (by decide) rfl (by decide) (by decide) rfl (by decide) rfl hl.1 rfl (Nat.le_of_ble_eq_true rfl) dX7_begin_54 ⟨Nat.zero_le _, Nat.zero_le _⟩ (fun H locs hP hD hS => ?_)
  refine lv_aload_n hx hb dX7_begin_57 rfl (lv_at hl 1 rfl) ?_
  refine va_get (D := D) (ci := 6) (v := .ref kb) (C := RX7) (T := TX7) (N := 6) hx hb hts hi_X7 hown hK hP 0 rfl rfl 0 (by decide) hf_14 (fun _ h9 => h9) rfl dX7_begin_58 ?_
  refine ct_callVv (As := []) (rest := []) (wr := [(h0, .inr (6, [.ref kb, .ref sb, .ref ms, rv, .int rn, .int us])), (ms, .inl (mA, 4, .inr (.inr (.inr (.inr (bs_ms m0 m1 m2 m3)))))), (kq, .inl (kA, 32, .inl f)), (sb, .inr (0, [.ref sq, .int (nI sz)])), (sq, .inl (sA, 12, .inl g)), (m3, .inr (2, [.ref q, .int ((ex_load f (nI kz) σ).1.2.1), .int ((ex_load f (nI kz) σ).1.2.2), .int ((ex_load f (nI kz) σ).2.1), .int ((ex_load f (nI kz) σ).2.2)])), (q, .inl (kR, 256, .inl ((ex_load f (nI kz) σ).1.1)))]) (ws2 := [(h0, .inr (6, [.ref kb, .ref sb, .ref ms, rv, .int rn, .int us])), (ms, .inl (mA, 4, .inr (.inr (.inr (.inr (bs_ms m0 m1 m2 m3)))))), (kb, .inr (0, [.ref kq, .int (nI 0)])), (kq, .inl (kA, 32, .inl f)), (sb, .inr (0, [.ref sq, .int (nI sz)])), (sq, .inl (sA, 12, .inl g)), (m3, .inr (2, [.ref q, .int ((ex_load f (nI kz) σ).1.2.1), .int ((ex_load f (nI kz) σ).1.2.2), .int ((ex_load f (nI kz) σ).2.1), .int ((ex_load f (nI kz) σ).2.2)])), (q, .inl (kR, 256, .inl ((ex_load f (nI kz) σ).1.1)))]) ⟨hx, hb, hml, hown, hts⟩ (c_by_clr l D kb kq (nI kz)) cw_X0_clear [] rfl [2] [0, 1, 3, 4, 5, 6, 7] [0, 1, 7, 2, 3, 4, 5, 6] hF hK hP hD hS hA 0 0 rfl rfl rfl rfl (by decide) rfl (by decide) (by decide) rfl (by decide) rfl hl.1 rfl (Nat.le_of_ble_eq_true rfl) dX7_begin_61 ⟨Nat.zero_le _, Nat.zero_le _⟩ (fun H locs hP hD hS => ?_)
  refine lv_aload_n hx hb dX7_begin_64 rfl (lv_at hl 1 rfl) ?_
  refine va_get (D := D) (ci := 6) (v := .ref sb) (C := RX7) (T := TX7) (N := 6) hx hb hts hi_X7 hown hK hP 0 rfl rfl 1 (by decide) hf_18 (fun _ h9 => h9) rfl dX7_begin_65 ?_
  refine ct_callVv (As := []) (rest := []) (wr := [(h0, .inr (6, [.ref kb, .ref sb, .ref ms, rv, .int rn, .int us])), (ms, .inl (mA, 4, .inr (.inr (.inr (.inr (bs_ms m0 m1 m2 m3)))))), (kb, .inr (0, [.ref kq, .int (nI 0)])), (kq, .inl (kA, 32, .inl f)), (sq, .inl (sA, 12, .inl g)), (m3, .inr (2, [.ref q, .int ((ex_load f (nI kz) σ).1.2.1), .int ((ex_load f (nI kz) σ).1.2.2), .int ((ex_load f (nI kz) σ).2.1), .int ((ex_load f (nI kz) σ).2.2)])), (q, .inl (kR, 256, .inl ((ex_load f (nI kz) σ).1.1)))]) (ws2 := [(h0, .inr (6, [.ref kb, .ref sb, .ref ms, rv, .int rn, .int us])), (ms, .inl (mA, 4, .inr (.inr (.inr (.inr (bs_ms m0 m1 m2 m3)))))), (kb, .inr (0, [.ref kq, .int (nI 0)])), (kq, .inl (kA, 32, .inl f)), (sb, .inr (0, [.ref sq, .int (nI 0)])), (sq, .inl (sA, 12, .inl g)), (m3, .inr (2, [.ref q, .int ((ex_load f (nI kz) σ).1.2.1), .int ((ex_load f (nI kz) σ).1.2.2), .int ((ex_load f (nI kz) σ).2.1), .int ((ex_load f (nI kz) σ).2.2)])), (q, .inl (kR, 256, .inl ((ex_load f (nI kz) σ).1.1)))]) ⟨hx, hb, hml, hown, hts⟩ (c_by_clr l D sb sq (nI sz)) cw_X0_clear [] rfl [4] [0, 1, 2, 3, 5, 6, 7] [0, 1, 2, 3, 7, 4, 5, 6] hF hK hP hD hS hA 0 0 rfl rfl rfl rfl (by decide) rfl (by decide) (by decide) rfl (by decide) rfl hl.1 rfl (Nat.le_of_ble_eq_true rfl) dX7_begin_68 ⟨Nat.zero_le _, Nat.zero_le _⟩ (fun H locs hP hD hS => ?_)
  refine lv_aload_n hx hb dX7_begin_71 rfl (lv_at hl 1 rfl) ?_
  refine lv_aload_n hx hb dX7_begin_72 rfl (lv_at hl 0 rfl) ?_
  refine va_put (D := D) (ci := 6) (v := .ref m3) (ty := .object "BitStreams$Machine") (C := RX7) (T := TX7) (N := 6) hx hb hts hi_X7 tyX7 tyX7_ok nmX7 hown hK hP hD hS 0 rfl rfl 3 (by decide) hf_39 (fun _ h9 => h9) rfl (by decide +kernel) rfl rfl (Nat.le_of_ble_eq_true rfl) dX7_begin_73 (fun H locs hP hD hS => ?_)
  have hP : va_P D vwCl [(h0, .inr (6, [.ref kb, .ref sb, .ref ms, .ref m3, .int rn, .int us])), (ms, .inl (mA, 4, .inr (.inr (.inr (.inr (bs_ms m0 m1 m2 m3)))))), (kb, .inr (0, [.ref kq, .int (nI 0)])), (kq, .inl (kA, 32, .inl f)), (sb, .inr (0, [.ref sq, .int (nI 0)])), (sq, .inl (sA, 12, .inl g)), (m3, .inr (2, [.ref q, .int ((ex_load f (nI kz) σ).1.2.1), .int ((ex_load f (nI kz) σ).1.2.2), .int ((ex_load f (nI kz) σ).2.1), .int ((ex_load f (nI kz) σ).2.2)])), (q, .inl (kR, 256, .inl ((ex_load f (nI kz) σ).1.1)))] H := hP
  have hD : va_D A [(h0, .inr (6, [.ref kb, .ref sb, .ref ms, .ref m3, .int rn, .int us])), (ms, .inl (mA, 4, .inr (.inr (.inr (.inr (bs_ms m0 m1 m2 m3)))))), (kb, .inr (0, [.ref kq, .int (nI 0)])), (kq, .inl (kA, 32, .inl f)), (sb, .inr (0, [.ref sq, .int (nI 0)])), (sq, .inl (sA, 12, .inl g)), (m3, .inr (2, [.ref q, .int ((ex_load f (nI kz) σ).1.2.1), .int ((ex_load f (nI kz) σ).1.2.2), .int ((ex_load f (nI kz) σ).2.1), .int ((ex_load f (nI kz) σ).2.2)])), (q, .inl (kR, 256, .inl ((ex_load f (nI kz) σ).1.1)))] := hD
  refine lv_aload_n hx hb dX7_begin_76 rfl (lv_at hl 1 rfl) ?_
  refine lv_iload_n hx hb dX7_begin_77 rfl (lv_at hl 2 rfl) ?_
  refine va_put (D := D) (ci := 6) (v := .int 3) (ty := .int) (C := RX7) (T := TX7) (N := 6) hx hb hts hi_X7 tyX7 tyX7_ok nmX7 hown hK hP hD hS 0 rfl rfl 4 (by decide) hf_43 (fun _ h9 => h9) rfl (by decide +kernel) rfl rfl (Nat.le_of_ble_eq_true rfl) dX7_begin_78 (fun H locs hP hD hS => ?_)
  have hP : va_P D vwCl [(h0, .inr (6, [.ref kb, .ref sb, .ref ms, .ref m3, .int 3, .int us])), (ms, .inl (mA, 4, .inr (.inr (.inr (.inr (bs_ms m0 m1 m2 m3)))))), (kb, .inr (0, [.ref kq, .int (nI 0)])), (kq, .inl (kA, 32, .inl f)), (sb, .inr (0, [.ref sq, .int (nI 0)])), (sq, .inl (sA, 12, .inl g)), (m3, .inr (2, [.ref q, .int ((ex_load f (nI kz) σ).1.2.1), .int ((ex_load f (nI kz) σ).1.2.2), .int ((ex_load f (nI kz) σ).2.1), .int ((ex_load f (nI kz) σ).2.2)])), (q, .inl (kR, 256, .inl ((ex_load f (nI kz) σ).1.1)))] H := hP
  have hD : va_D A [(h0, .inr (6, [.ref kb, .ref sb, .ref ms, .ref m3, .int 3, .int us])), (ms, .inl (mA, 4, .inr (.inr (.inr (.inr (bs_ms m0 m1 m2 m3)))))), (kb, .inr (0, [.ref kq, .int (nI 0)])), (kq, .inl (kA, 32, .inl f)), (sb, .inr (0, [.ref sq, .int (nI 0)])), (sq, .inl (sA, 12, .inl g)), (m3, .inr (2, [.ref q, .int ((ex_load f (nI kz) σ).1.2.1), .int ((ex_load f (nI kz) σ).1.2.2), .int ((ex_load f (nI kz) σ).2.1), .int ((ex_load f (nI kz) σ).2.2)])), (q, .inl (kR, 256, .inl ((ex_load f (nI kz) σ).1.1)))] := hD
  refine lv_aload_n hx hb dX7_begin_81 rfl (lv_at hl 1 rfl) ?_
  refine lv_iconst (v := 0) hx hb dX7_begin_82 (by decide) ?_
  refine va_put (D := D) (ci := 6) (v := .int 0) (ty := .int) (C := RX7) (T := TX7) (N := 6) hx hb hts hi_X7 tyX7 tyX7_ok nmX7 hown hK hP hD hS 0 rfl rfl 5 (by decide) hf_47 (fun _ h9 => h9) rfl (by decide +kernel) rfl rfl (Nat.le_of_ble_eq_true rfl) dX7_begin_83 (fun H locs hP hD hS => ?_)
  have hP : va_P D vwCl [(h0, .inr (6, [.ref kb, .ref sb, .ref ms, .ref m3, .int 3, .int 0])), (ms, .inl (mA, 4, .inr (.inr (.inr (.inr (bs_ms m0 m1 m2 m3)))))), (kb, .inr (0, [.ref kq, .int (nI 0)])), (kq, .inl (kA, 32, .inl f)), (sb, .inr (0, [.ref sq, .int (nI 0)])), (sq, .inl (sA, 12, .inl g)), (m3, .inr (2, [.ref q, .int ((ex_load f (nI kz) σ).1.2.1), .int ((ex_load f (nI kz) σ).1.2.2), .int ((ex_load f (nI kz) σ).2.1), .int ((ex_load f (nI kz) σ).2.2)])), (q, .inl (kR, 256, .inl ((ex_load f (nI kz) σ).1.1)))] H := hP
  have hD : va_D A [(h0, .inr (6, [.ref kb, .ref sb, .ref ms, .ref m3, .int 3, .int 0])), (ms, .inl (mA, 4, .inr (.inr (.inr (.inr (bs_ms m0 m1 m2 m3)))))), (kb, .inr (0, [.ref kq, .int (nI 0)])), (kq, .inl (kA, 32, .inl f)), (sb, .inr (0, [.ref sq, .int (nI 0)])), (sq, .inl (sA, 12, .inl g)), (m3, .inr (2, [.ref q, .int ((ex_load f (nI kz) σ).1.2.1), .int ((ex_load f (nI kz) σ).1.2.2), .int ((ex_load f (nI kz) σ).2.1), .int ((ex_load f (nI kz) σ).2.2)])), (q, .inl (kR, 256, .inl ((ex_load f (nI kz) σ).1.1)))] := hD
  refine lv_iconst (v := 1) hx hb dX7_begin_86 (by decide) ?_
  exact ct_zret hx hb hr hlk hP hK hD hS rfl rfl dX7_begin_87
set_option maxHeartbeats 4000000 in
set_option maxRecDepth 100000 in
/-- BitStreams.begin, no such machine -/
theorem c_bs_beginN (l : Launch) (D : va_G) (h0 kb sb ms : Nat) (rv : Value) (rn us : Int32) (mA : ClassId) (mf : Nat → Option Nat) (k : Int32) (hn : ¬ k < 0 → ¬ k < nI 4) : Cti l D yX7_begin wsX7_begin ({ frames := 6, cells := 0, slots := 0, locals := 120 } : Room) [.ref h0, .int k] [(mA, .object "BitStreams$Machine")] [(h0, .inr (6, [.ref kb, .ref sb, .ref ms, rv, .int rn, .int us])), (ms, .inl (mA, 4, .inr (.inr (.inr (.inr mf)))))] [(h0, .inr (6, [.ref kb, .ref sb, .ref ms, rv, .int rn, .int us])), (ms, .inl (mA, 4, .inr (.inr (.inr (.inr mf)))))] 0 := by
  refine ct_of (cc := cX7_begin) (maxL := 3) (ret := (some .boolean)) (by decide) rfl (Nat.le_of_ble_eq_true rfl) ?_
  intro p e s m below meth c A H locs ls hx hb hr hml hts hown hlk hnm hF hP hK hD hA hS hl
  have hown : s.vm.findClass RX7 = some m.cls := hown
  have hl : lv_has ls 3 [(0, .ref h0), (1, .int k)] := hl
  have hf_35 := hts (.fieldLink RX7 35 "BitStreams" "machines" "[LBitStreams$Machine;") (by decide +kernel)
  have hi_X7 : ∀ w ∈ u_ws RX7 TX7 6, w ∈ wsX7_begin := by decide +kernel
  refine lv_iload_n hx hb dX7_begin_0 rfl (lv_at hl 1 rfl) ?_
  refine lv_if_lt (tgt := 13) hx hb dX7_begin_1 (by decide) (fun c_1_1 => ?_) (fun c_1_1 => ?_)
  · refine lv_iconst (v := 0) hx hb dX7_begin_13 (by decide) ?_
    exact ct_zret hx hb hr hlk hP hK hD hS rfl rfl dX7_begin_14
  · refine lv_iload_n hx hb dX7_begin_4 rfl (lv_at hl 1 rfl) ?_
    refine lv_aload_n hx hb dX7_begin_5 rfl (lv_at hl 0 rfl) ?_
    refine va_get (D := D) (ci := 6) (v := .ref ms) (C := RX7) (T := TX7) (N := 6) hx hb hts hi_X7 hown hK hP 0 rfl rfl 2 (by decide) hf_35 (fun _ h9 => h9) rfl dX7_begin_6 ?_
    refine va_alen (v := nI 4) hx hb hK hP 1 0 rfl rfl rfl dX7_begin_9 ?_
    refine lv_icmp_lt (tgt := 15) hx hb dX7_begin_10 (by decide) (fun hh => absurd hh (hn c_1_1)) (fun _ => ?_)
    refine lv_iconst (v := 0) hx hb dX7_begin_13 (by decide) ?_
    exact ct_zret hx hb hr hlk hP hK hD hS rfl rfl dX7_begin_14
