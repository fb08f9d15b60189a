/-- Bytes: what at, bit, append make of a row f of z bytes -/
def by_at (f : Nat → Int32) (z i : Int32) : Int32 := if i < 0 then 0 else if z ≤ i then 0 else f i.toNatClampNeg
def by_bit (f : Nat → Int32) (z i : Int32) : Int32 := by_at f z (i >>> (3 &&& 31)) >>> ((7 - (i &&& 7)) &&& 31) &&& 1
def by_b (v : Int64) (k : Nat) : Int32 := (lU v (8 * nI k)).toInt32 &&& 255
def by_app (f : Nat → Int32) (z : Nat) (v : Int64) (m : Nat) : Nat → Nat → Int32
  | 0 => f
  | j + 1 => upd (by_app f z v m j) (z + j) (by_b v (m - 1 - j))
theorem by_in {z N : Nat} {i : Int32} (h0 : ¬ i < 0) (h1 : ¬ nI z ≤ i) (hz : z ≤ N) (hN : N < 2 ^ 31) : vp_in i N := by
  obtain ⟨j, hj, rfl⟩ := nI_of h0
  have : j < z := by
    rcases Nat.lt_or_ge j z with h | h
    · exact h
    · exact absurd (nI_le h hj) h1
  exact vp_in_nI (by omega) hN
theorem by_le {z m N : Nat} (h : z + m ≤ N) (hN : N < 2 ^ 31) : nI z + nI m ≤ nI N := by
  rw [nI_add]; exact nI_le h hN
set_option maxHeartbeats 4000000 in
set_option maxRecDepth 100000 in
/-- Bytes.at -/
theorem c_by_at (l : Launch) (D : va_G) (h0 q : Nat) (kA : ClassId) (N z : Nat) (hz : z ≤ N) (hN : N < 2 ^ 31) (f : Nat → Int32) (i : Int32) : Cti l D yX0_at wsX0_at ({ frames := 0, cells := 0, slots := 0, locals := 0 } : Room) [.ref h0, .int i] [(kA, .int)] [(h0, .inr (0, [.ref q, .int (nI z)])), (q, .inl (kA, N, .inl f))] [(h0, .inr (0, [.ref q, .int (nI z)])), (q, .inl (kA, N, .inl f))] (by_at f (nI z) i) := by
  refine ct_of (cc := cX0_at) (maxL := 2) (ret := (some .int)) (by decide) rfl (Nat.le_of_ble_eq_true rfl) ?_
  intro p e s m below meth c A H locs ls hx hb hr hml hts hown hlk hnm hF hP hK hD hA hS hl
  have hown : s.vm.findClass RX0 = some m.cls := hown
  have hl : lv_has ls 2 [(0, .ref h0), (1, .int i)] := hl
  have hf_15 := hts (.fieldLink RX0 15 "BitStreams$Bytes" "size" "I") (by decide +kernel)
  have hi_X0 : ∀ w ∈ u_ws RX0 TX0 2, w ∈ wsX0_at := by decide +kernel
  have hf_9 := hts (.fieldLink RX0 9 "BitStreams$Bytes" "held" "[I") (by decide +kernel)
  refine lv_iload_n hx hb dX0_at_0 rfl (lv_at hl 1 rfl) ?_
  refine lv_if_lt (tgt := 21) hx hb dX0_at_1 (by decide) (fun c_1_1 => ?_) (fun c_1_1 => ?_)
  · refine lv_iconst (v := 0) hx hb dX0_at_21 (by decide) ?_
    exact ct_zret hx hb hr hlk hP hK hD hS rfl (by rw [by_at, if_pos c_1_1]) dX0_at_22
  · refine lv_iload_n hx hb dX0_at_4 rfl (lv_at hl 1 rfl) ?_
    refine lv_aload_n hx hb dX0_at_5 rfl (lv_at hl 0 rfl) ?_
    refine va_get (D := D) (ci := 0) (v := .int (nI z)) (C := RX0) (T := TX0) (N := 2) hx hb hts hi_X0 hown hK hP 0 rfl rfl 1 (by decide) hf_15 (fun _ h9 => h9) rfl dX0_at_6 ?_
    refine lv_icmp_ge (tgt := 21) hx hb dX0_at_9 (by decide) (fun c_9_2 => ?_) (fun c_9_2 => ?_)
    · refine lv_iconst (v := 0) hx hb dX0_at_21 (by decide) ?_
      exact ct_zret hx hb hr hlk hP hK hD hS rfl (by rw [by_at, if_neg c_1_1, if_pos c_9_2]) dX0_at_22
    · refine lv_aload_n hx hb dX0_at_12 rfl (lv_at hl 0 rfl) ?_
      refine va_get (D := D) (ci := 0) (v := .ref q) (C := RX0) (T := TX0) (N := 2) hx hb hts hi_X0 hown hK hP 0 rfl rfl 0 (by decide) hf_9 (fun _ h9 => h9) rfl dX0_at_13 ?_
      refine lv_iload_n hx hb dX0_at_16 rfl (lv_at hl 1 rfl) ?_
      refine va_iald hx hb hK hP 1 0 rfl rfl (by_in c_1_1 c_9_2 hz hN) dX0_at_17 ?_
      refine lv_goto (tgt := 22) hx hb dX0_at_18 (by decide) ?_
      exact ct_zret hx hb hr hlk hP hK hD hS rfl (by rw [by_at, if_neg c_1_1, if_neg c_9_2]) dX0_at_22
set_option maxHeartbeats 4000000 in
set_option maxRecDepth 100000 in
/-- Bytes.size -/
theorem c_by_size (l : Launch) (D : va_G) (h0 q : Nat) (z : Int32) : Cti l D yX0_size wsX0_size ({ frames := 0, cells := 0, slots := 0, locals := 0 } : Room) [.ref h0] [] [(h0, .inr (0, [.ref q, .int z]))] [(h0, .inr (0, [.ref q, .int z]))] z := by
  refine ct_of (cc := cX0_size) (maxL := 1) (ret := (some .int)) (by decide) rfl (Nat.le_of_ble_eq_true rfl) ?_
  intro p e s m below meth c A H locs ls hx hb hr hml hts hown hlk hnm hF hP hK hD hA hS hl
  have hown : s.vm.findClass RX0 = some m.cls := hown
  have hl : lv_has ls 1 [(0, .ref h0)] := hl
  have hf_15 := hts (.fieldLink RX0 15 "BitStreams$Bytes" "size" "I") (by decide +kernel)
  have hi_X0 : ∀ w ∈ u_ws RX0 TX0 2, w ∈ wsX0_size := by decide +kernel
  refine lv_aload_n hx hb dX0_size_0 rfl (lv_at hl 0 rfl) ?_
  refine va_get (D := D) (ci := 0) (v := .int z) (C := RX0) (T := TX0) (N := 2) hx hb hts hi_X0 hown hK hP 0 rfl rfl 1 (by decide) hf_15 (fun _ h9 => h9) rfl dX0_size_1 ?_
  exact ct_zret hx hb hr hlk hP hK hD hS rfl rfl dX0_size_4
set_option maxHeartbeats 4000000 in
set_option maxRecDepth 100000 in
/-- Bytes.clear -/
theorem c_by_clr (l : Launch) (D : va_G) (h0 q : Nat) (z : Int32) : Ctv l D yX0_clear wsX0_clear ({ frames := 0, cells := 0, slots := 0, locals := 0 } : Room) [.ref h0] [] [(h0, .inr (0, [.ref q, .int z]))] [(h0, .inr (0, [.ref q, .int (nI 0)]))] := by
  refine ct_of (cc := cX0_clear) (maxL := 1) (ret := none) (by decide) rfl (Nat.le_of_ble_eq_true rfl) ?_
  intro p e s m below meth c A H locs ls hx hb hr hml hts hown hlk hnm hF hP hK hD hA hS hl
  have hown : s.vm.findClass RX0 = some m.cls := hown
  have hl : lv_has ls 1 [(0, .ref h0)] := hl
  have hf_15 := hts (.fieldLink RX0 15 "BitStreams$Bytes" "size" "I") (by decide +kernel)
  have hi_X0 : ∀ w ∈ u_ws RX0 TX0 2, w ∈ wsX0_clear := by decide +kernel
  refine lv_aload_n hx hb dX0_clear_0 rfl (lv_at hl 0 rfl) ?_
  refine lv_iconst (v := 0) hx hb dX0_clear_1 (by decide) ?_
  refine va_put (D := D) (ci := 0) (v := .int 0) (ty := .int) (C := RX0) (T := TX0) (N := 2) hx hb hts hi_X0 tyX0 tyX0_ok nmX0 hown hK hP hD hS 0 rfl rfl 1 (by decide) hf_15 (fun _ h9 => h9) rfl (by decide +kernel) rfl rfl (Nat.le_of_ble_eq_true rfl) dX0_clear_2 (fun H locs hP hD hS => ?_)
  have hP : va_P D vwCl [(h0, .inr (0, [.ref q, .int 0]))] H := hP
  have hD : va_D A [(h0, .inr (0, [.ref q, .int 0]))] := hD
  exact ct_vret hx hb hr hlk hP hK hD hS dX0_clear_5
set_option maxHeartbeats 4000000 in
set_option maxRecDepth 100000 in
/-- Bytes.bit -/
theorem c_by_bit (l : Launch) (D : va_G) (h0 q : Nat) (kA : ClassId) (N z : Nat) (hz : z ≤ N) (hN : N < 2 ^ 31) (f : Nat → Int32) (i : Int32) : Cti l D yX0_bit wsX0_bit ({ frames := 1, cells := 0, slots := 0, locals := 21 } : Room) [.ref h0, .int i] [(kA, .int)] [(h0, .inr (0, [.ref q, .int (nI z)])), (q, .inl (kA, N, .inl f))] [(h0, .inr (0, [.ref q, .int (nI z)])), (q, .inl (kA, N, .inl f))] (by_bit f (nI z) i) := by
  refine ct_of (cc := cX0_bit) (maxL := 2) (ret := (some .int)) (by decide) rfl (Nat.le_of_ble_eq_true rfl) ?_
  intro p e s m below meth c A H locs ls hx hb hr hml hts hown hlk hnm hF hP hK hD hA hS hl
  have hown : s.vm.findClass RX0 = some m.cls := hown
  have hl : lv_has ls 2 [(0, .ref h0), (1, .int i)] := hl
  have cw_X0_at := cwV (R := ({ frames := 1, cells := 0, slots := 0, locals := 21 } : Room)) (rm := ({ frames := 0, cells := 0, slots := 0, locals := 0 } : Room)) 1 hts gX0_bit_X0_at rfl rfl rfl (by decide +kernel) ⟨Nat.le_of_ble_eq_true rfl, Nat.le_of_ble_eq_true rfl⟩
  refine lv_aload_n hx hb dX0_bit_0 rfl (lv_at hl 0 rfl) ?_
  refine lv_iload_n hx hb dX0_bit_1 rfl (lv_at hl 1 rfl) ?_
  refine lv_iconst (v := 3) hx hb dX0_bit_2 (by decide) ?_
  refine lv_ishr hx hb dX0_bit_3 ?_
  refine ct_callVi (As := [.int (i >>> (3 &&& 31))]) (rest := []) (wr := []) (ws2 := [(h0, .inr (0, [.ref q, .int (nI z)])), (q, .inl (kA, N, .inl f))]) ⟨hx, hb, hml, hown, hts⟩ (c_by_at l D h0 q kA N z hz hN f (i >>> (3 &&& 31))) cw_X0_at [0] rfl [0, 1] [] [0, 1] hF hK hP hD hS hA 0 0 rfl rfl rfl rfl (by decide) rfl (by decide) (by decide) rfl (by decide) rfl hl.1 rfl (Nat.le_of_ble_eq_true rfl) dX0_bit_4 ⟨Nat.zero_le _, Nat.zero_le _⟩ (fun H locs hP hD hS => ?_)
  refine lv_bipush (v := 7) hx hb dX0_bit_7 (by decide) ?_
  refine lv_iload_n hx hb dX0_bit_9 rfl (lv_at hl 1 rfl) ?_
  refine lv_bipush (v := 7) hx hb dX0_bit_10 (by decide) ?_
  refine lv_iand hx hb dX0_bit_12 ?_
  refine lv_isub hx hb dX0_bit_13 ?_
  refine lv_ishr hx hb dX0_bit_14 ?_
  refine lv_iconst (v := 1) hx hb dX0_bit_15 (by decide) ?_
  refine lv_iand hx hb dX0_bit_16 ?_
  exact ct_zret hx hb hr hlk hP hK hD hS rfl rfl dX0_bit_17
set_option maxHeartbeats 4000000 in
set_option maxRecDepth 100000 in
/-- Bytes.append, refused -/
theorem c_by_appF (l : Launch) (D : va_G) (h0 q : Nat) (kA : ClassId) (N z : Nat) (hz : z ≤ N) (hN : N < 2 ^ 31) (f : Nat → Int32) (v : Int64) (n : Int32) (hn : ¬ (¬ n < 1 ∧ ¬ 8 < n ∧ nI z + n ≤ nI N)) : Cti l D yX0_append wsX0_append ({ frames := 0, cells := 0, slots := 0, locals := 0 } : Room) [.ref h0, .long v, .int n] [(kA, .int)] [(h0, .inr (0, [.ref q, .int (nI z)])), (q, .inl (kA, N, .inl f))] [(h0, .inr (0, [.ref q, .int (nI z)])), (q, .inl (kA, N, .inl f))] 0 := by
  refine ct_of (cc := cX0_append) (maxL := 5) (ret := (some .boolean)) (by decide) rfl (Nat.le_of_ble_eq_true rfl) ?_
  intro p e s m below meth c A H locs ls hx hb hr hml hts hown hlk hnm hF hP hK hD hA hS hl
  have hown : s.vm.findClass RX0 = some m.cls := hown
  have hl : lv_has ls 5 [(0, .ref h0), (1, .long v), (3, .int n)] := hl
  have hf_15 := hts (.fieldLink RX0 15 "BitStreams$Bytes" "size" "I") (by decide +kernel)
  have hi_X0 : ∀ w ∈ u_ws RX0 TX0 2, w ∈ wsX0_append := by decide +kernel
  have hf_9 := hts (.fieldLink RX0 9 "BitStreams$Bytes" "held" "[I") (by decide +kernel)
  refine lv_iload_n hx hb dX0_append_0 rfl (lv_at hl 2 rfl) ?_
  refine lv_iconst (v := 1) hx hb dX0_append_1 (by decide) ?_
  refine lv_icmp_lt (tgt := 25) hx hb dX0_append_2 (by decide) (fun c_2_1 => ?_) (fun c_2_1 => ?_)
  · refine lv_iconst (v := 0) hx hb dX0_append_25 (by decide) ?_
    exact ct_zret hx hb hr hlk hP hK hD hS rfl rfl dX0_append_26
  · refine lv_iload_n hx hb dX0_append_5 rfl (lv_at hl 2 rfl) ?_
    refine lv_bipush (v := 8) hx hb dX0_append_6 (by decide) ?_
    refine lv_icmp_gt (tgt := 25) hx hb dX0_append_8 (by decide) (fun c_8_2 => ?_) (fun c_8_2 => ?_)
    · refine lv_iconst (v := 0) hx hb dX0_append_25 (by decide) ?_
      exact ct_zret hx hb hr hlk hP hK hD hS rfl rfl dX0_append_26
    · refine lv_aload_n hx hb dX0_append_11 rfl (lv_at hl 0 rfl) ?_
      refine va_get (D := D) (ci := 0) (v := .int (nI z)) (C := RX0) (T := TX0) (N := 2) hx hb hts hi_X0 hown hK hP 0 rfl rfl 1 (by decide) hf_15 (fun _ h9 => h9) rfl dX0_append_12 ?_
      refine lv_iload_n hx hb dX0_append_15 rfl (lv_at hl 2 rfl) ?_
      refine lv_iadd hx hb dX0_append_16 ?_
      refine lv_aload_n hx hb dX0_append_17 rfl (lv_at hl 0 rfl) ?_
      refine va_get (D := D) (ci := 0) (v := .ref q) (C := RX0) (T := TX0) (N := 2) hx hb hts hi_X0 hown hK hP 0 rfl rfl 0 (by decide) hf_9 (fun _ h9 => h9) rfl dX0_append_18 ?_
      refine va_alen (v := nI N) hx hb hK hP 1 0 rfl rfl rfl dX0_append_21 ?_
      refine lv_icmp_le (tgt := 27) hx hb dX0_append_22 (by decide) (fun hh => absurd hh (fun hle => hn ⟨c_2_1, c_8_2, hle⟩)) (fun _ => ?_)
      refine lv_iconst (v := 0) hx hb dX0_append_25 (by decide) ?_
      exact ct_zret hx hb hr hlk hP hK hD hS rfl rfl dX0_append_26
set_option maxHeartbeats 4000000 in
set_option maxRecDepth 100000 in
/-- Bytes.append, taken -/
theorem c_by_appT (l : Launch) (D : va_G) (h0 q : Nat) (kA : ClassId) (N z : Nat) (hz : z ≤ N) (hN : N < 2 ^ 31) (f : Nat → Int32) (v : Int64) (mm : Nat) (hm1 : 1 ≤ mm) (hm8 : mm ≤ 8) (hmN : z + mm ≤ N) (hn1 : ¬ nI mm < 1) (hn8 : ¬ 8 < nI mm) (hnN : nI z + nI mm ≤ nI N) : Cti l D yX0_append wsX0_append ({ frames := 0, cells := 0, slots := 0, locals := 0 } : Room) [.ref h0, .long v, .int (nI mm)] [(kA, .int)] [(h0, .inr (0, [.ref q, .int (nI z)])), (q, .inl (kA, N, .inl f))] [(h0, .inr (0, [.ref q, .int (nI (z + mm))])), (q, .inl (kA, N, .inl (by_app f z v mm mm)))] 1 := by
  refine ct_of (cc := cX0_append) (maxL := 5) (ret := (some .boolean)) (by decide) rfl (Nat.le_of_ble_eq_true rfl) ?_
  intro p e s m below meth c A H locs ls hx hb hr hml hts hown hlk hnm hF hP hK hD hA hS hl
  have hown : s.vm.findClass RX0 = some m.cls := hown
  have hl : lv_has ls 5 [(0, .ref h0), (1, .long v), (3, .int (nI mm))] := hl
  have hf_15 := hts (.fieldLink RX0 15 "BitStreams$Bytes" "size" "I") (by decide +kernel)
  have hi_X0 : ∀ w ∈ u_ws RX0 TX0 2, w ∈ wsX0_append := by decide +kernel
  have hf_9 := hts (.fieldLink RX0 9 "BitStreams$Bytes" "held" "[I") (by decide +kernel)
  refine lv_iload_n hx hb dX0_append_0 rfl (lv_at hl 2 rfl) ?_
  refine lv_iconst (v := 1) hx hb dX0_append_1 (by decide) ?_
  refine lv_icmp_lt (tgt := 25) hx hb dX0_append_2 (by decide) (fun hh => absurd hh hn1) (fun _ => ?_)
  refine lv_iload_n hx hb dX0_append_5 rfl (lv_at hl 2 rfl) ?_
  refine lv_bipush (v := 8) hx hb dX0_append_6 (by decide) ?_
  refine lv_icmp_gt (tgt := 25) hx hb dX0_append_8 (by decide) (fun hh => absurd hh hn8) (fun _ => ?_)
  refine lv_aload_n hx hb dX0_append_11 rfl (lv_at hl 0 rfl) ?_
  refine va_get (D := D) (ci := 0) (v := .int (nI z)) (C := RX0) (T := TX0) (N := 2) hx hb hts hi_X0 hown hK hP 0 rfl rfl 1 (by decide) hf_15 (fun _ h9 => h9) rfl dX0_append_12 ?_
  refine lv_iload_n hx hb dX0_append_15 rfl (lv_at hl 2 rfl) ?_
  refine lv_iadd hx hb dX0_append_16 ?_
  refine lv_aload_n hx hb dX0_append_17 rfl (lv_at hl 0 rfl) ?_
  refine va_get (D := D) (ci := 0) (v := .ref q) (C := RX0) (T := TX0) (N := 2) hx hb hts hi_X0 hown hK hP 0 rfl rfl 0 (by decide) hf_9 (fun _ h9 => h9) rfl dX0_append_18 ?_
  refine va_alen (v := nI N) hx hb hK hP 1 0 rfl rfl rfl dX0_append_21 ?_
  refine lv_icmp_le (tgt := 27) hx hb dX0_append_22 (by decide) (fun _ => ?_) (fun hh => absurd hnN hh)
  refine lv_iload_n hx hb dX0_append_27 rfl (lv_at hl 2 rfl) ?_
  refine lv_iconst (v := 1) hx hb dX0_append_28 (by decide) ?_
  refine lv_isub hx hb dX0_append_29 ?_
  refine lv_istore (lv' := [(4, .int ((nI mm) - 1)), (0, .ref h0), (1, .long v), (3, .int (nI mm))]) hx hb dX0_append_30 hl (by decide) rfl (fun ls hl => ?_)
  have hP : va_P D vwCl [(h0, .inr (0, [.ref q, .int (nI (z + (mm - mm)))])), (q, .inl (kA, N, .inl (by_app f z v mm (mm - mm))))] H := by rw [Nat.sub_self]; exact hP
  have hD : va_D A [(h0, .inr (0, [.ref q, .int (nI (z + (mm - mm)))])), (q, .inl (kA, N, .inl (by_app f z v mm (mm - mm))))] := by rw [Nat.sub_self]; exact hD
  refine ct_down (fun k : Nat => [(h0, .inr (0, [.ref q, .int (nI (z + (mm - k)))])), (q, .inl (kA, N, .inl (by_app f z v mm (mm - k))))]) (fun k : Nat => [(4, .int (nI k - 1)), (0, .ref h0), (1, .long v)]) mm ?_ ?_ hP hD hS (lv_sub hl [0, 1, 2] rfl)
  · intro k hk ih32 H locs ls hP hD hS hl
    have hP : va_P D vwCl [(h0, .inr (0, [.ref q, .int (nI (z + (mm - (k + 1))))])), (q, .inl (kA, N, .inl (by_app f z v mm (mm - (k + 1)))))] H := hP
    have hD : va_D A [(h0, .inr (0, [.ref q, .int (nI (z + (mm - (k + 1))))])), (q, .inl (kA, N, .inl (by_app f z v mm (mm - (k + 1)))))] := hD
    have hl : lv_has ls 5 [(4, .int (nI (k + 1) - 1)), (0, .ref h0), (1, .long v)] := hl
    rw [nI_pred] at hl
    have ez : z + (mm - k) = z + (mm - (k + 1)) + 1 := by omega
    have em : mm - k = mm - (k + 1) + 1 := by omega
    have ek : k = mm - 1 - (mm - (k + 1)) := by omega
    refine lv_iload hx hb dX0_append_32 (lv_at hl 0 rfl) ?_
    refine lv_if_lt (tgt := 74) hx hb dX0_append_34 (by decide) (fun hh => absurd hh (nI_pos (by omega))) (fun _ => ?_)
    refine lv_aload_n hx hb dX0_append_37 rfl (lv_at hl 1 rfl) ?_
    refine va_get (D := D) (ci := 0) (v := .ref q) (C := RX0) (T := TX0) (N := 2) hx hb hts hi_X0 hown hK hP 0 rfl rfl 0 (by decide) hf_9 (fun _ h9 => h9) rfl dX0_append_38 ?_
    refine lv_aload_n hx hb dX0_append_41 rfl (lv_at hl 1 rfl) ?_
    refine va_get (D := D) (ci := 0) (v := .int (nI (z + (mm - (k + 1))))) (C := RX0) (T := TX0) (N := 2) hx hb hts hi_X0 hown hK hP 0 rfl rfl 1 (by decide) hf_15 (fun _ h9 => h9) rfl dX0_append_42 ?_
    refine lv_lload_n hx hb dX0_append_45 rfl (lv_at hl 2 rfl) ?_
    refine lv_bipush (v := 8) hx hb dX0_append_46 (by decide) ?_
    refine lv_iload hx hb dX0_append_48 (lv_at hl 0 rfl) ?_
    refine lv_imul hx hb dX0_append_50 ?_
    refine lv_lushr (v := lU v (8 * (nI k))) hx hb dX0_append_51 rfl ?_
    refine lv_l2i hx hb dX0_append_52 rfl ?_
    refine lv_sipush (v := 255) hx hb dX0_append_53 (by decide) ?_
    refine lv_iand hx hb dX0_append_56 ?_
    refine va_iast hx hb hK hP hD hS 1 0 rfl rfl (vp_in_nI (by omega) hN) dX0_append_57 (fun H locs hP hD hS => ?_)
    have hP : va_P D vwCl [(h0, .inr (0, [.ref q, .int (nI (z + (mm - (k + 1))))])), (q, .inl (kA, N, .inl (upd (by_app f z v mm (mm - (k + 1))) (nI (z + (mm - (k + 1)))).toNatClampNeg (((lU v (8 * (nI k))).toInt32) &&& 255))))] H := hP
    have hD : va_D A [(h0, .inr (0, [.ref q, .int (nI (z + (mm - (k + 1))))])), (q, .inl (kA, N, .inl (upd (by_app f z v mm (mm - (k + 1))) (nI (z + (mm - (k + 1)))).toNatClampNeg (((lU v (8 * (nI k))).toInt32) &&& 255))))] := hD
    rw [show upd (by_app f z v mm (mm - (k + 1))) (nI (z + (mm - (k + 1)))).toNatClampNeg (((lU v (8 * (nI k))).toInt32) &&& 255) = by_app f z v mm (mm - k) from by rw [em, by_app, nI_clamp (by omega), ← ek]; rfl] at hP hD
    refine lv_aload_n hx hb dX0_append_58 rfl (lv_at hl 1 rfl) ?_
    refine lv_dup hx hb dX0_append_59 rfl ?_
    refine va_get (D := D) (ci := 0) (v := .int (nI (z + (mm - (k + 1))))) (C := RX0) (T := TX0) (N := 2) hx hb hts hi_X0 hown hK hP 0 rfl rfl 1 (by decide) hf_15 (fun _ h9 => h9) rfl dX0_append_60 ?_
    refine lv_iconst (v := 1) hx hb dX0_append_63 (by decide) ?_
    refine lv_iadd hx hb dX0_append_64 ?_
    refine ct_topi (y := nI (z + (mm - k))) (by rw [ez]; exact (nI_succ _).symm) ?_
    refine va_put (D := D) (ci := 0) (v := .int (nI (z + (mm - k)))) (ty := .int) (C := RX0) (T := TX0) (N := 2) hx hb hts hi_X0 tyX0 tyX0_ok nmX0 hown hK hP hD hS 0 rfl rfl 1 (by decide) hf_15 (fun _ h9 => h9) rfl (by decide +kernel) rfl rfl (Nat.le_of_ble_eq_true rfl) dX0_append_65 (fun H locs hP hD hS => ?_)
    have hP : va_P D vwCl [(h0, .inr (0, [.ref q, .int (nI (z + (mm - k)))])), (q, .inl (kA, N, .inl (by_app f z v mm (mm - k))))] H := hP
    have hD : va_D A [(h0, .inr (0, [.ref q, .int (nI (z + (mm - k)))])), (q, .inl (kA, N, .inl (by_app f z v mm (mm - k))))] := hD
    refine lv_iinc (v := nI k - 1) (lv' := [(4, .int (nI k - 1)), (0, .ref h0), (1, .long v)]) hx hb dX0_append_68 hl (k := 0) rfl (ct_dec k) (by decide) rfl (fun ls hl => ?_)
    refine lv_goto (tgt := 32) hx hb dX0_append_71 (by decide) ?_
    exact ih32 H locs ls hP hD hS (lv_sub hl [0, 1, 2] rfl)
  · intro H locs ls hP hD hS hl
    have hP : va_P D vwCl [(h0, .inr (0, [.ref q, .int (nI (z + (mm - 0)))])), (q, .inl (kA, N, .inl (by_app f z v mm (mm - 0))))] H := hP
    have hD : va_D A [(h0, .inr (0, [.ref q, .int (nI (z + (mm - 0)))])), (q, .inl (kA, N, .inl (by_app f z v mm (mm - 0))))] := hD
    have hl : lv_has ls 5 [(4, .int (nI 0 - 1)), (0, .ref h0), (1, .long v)] := hl
    refine lv_iload hx hb dX0_append_32 (lv_at hl 0 rfl) ?_
    refine lv_if_lt (tgt := 74) hx hb dX0_append_34 (by decide) (fun _ => ?_) (fun hh => absurd (by decide) hh)
    refine lv_iconst (v := 1) hx hb dX0_append_74 (by decide) ?_
    exact ct_zret hx hb hr hlk hP hK hD hS rfl rfl dX0_append_75
