set_option maxHeartbeats 4000000 in
set_option maxRecDepth 100000 in
/-- BitStreams.key, refused -/
theorem c_bs_keyF (l : Launch) (D : va_G) (h0 kb sb ms kq : Nat) (rv : Value) (rn us : Int32) (kA : ClassId) (kz : Nat) (hz : kz ≤ 32) (f : Nat → Int32) (v : Int64) (n : Int32) (hn : ¬ (¬ n < 1 ∧ ¬ 8 < n ∧ nI kz + n ≤ nI 32)) : Cti l D yX7_key wsX7_key ({ frames := 1, cells := 0, slots := 0, locals := 40 } : Room) [.ref h0, .long v, .int n] [(kA, .int)] [(h0, .inr (6, [.ref kb, .ref sb, .ref ms, rv, .int rn, .int us])), (kb, .inr (0, [.ref kq, .int (nI kz)])), (kq, .inl (kA, 32, .inl f))] [(h0, .inr (6, [.ref kb, .ref sb, .ref ms, rv, .int rn, .int us])), (kb, .inr (0, [.ref kq, .int (nI kz)])), (kq, .inl (kA, 32, .inl f))] 0 := by
  refine ct_of (cc := cX7_key) (maxL := 4) (ret := (some .boolean)) (by decide) rfl (Nat.le_of_ble_eq_true rfl) ?_
  intro p e s m below meth c A H locs ls hx hb hr hml hts hown hlk hnm hF hP hK hD hA hS hl
  have hown : s.vm.findClass RX7 = some m.cls := hown
  have hl : lv_has ls 4 [(0, .ref h0), (1, .long v), (3, .int n)] := hl
  have hf_14 := hts (.fieldLink RX7 14 "BitStreams" "keyBytes" "LBitStreams$Bytes;") (by decide +kernel)
  have hi_X7 : ∀ w ∈ u_ws RX7 TX7 6, w ∈ wsX7_key := by decide +kernel
  have cw_X0_append := cwV (R := ({ frames := 1, cells := 0, slots := 0, locals := 40 } : Room)) (rm := ({ frames := 0, cells := 0, slots := 0, locals := 0 } : Room)) 2 hts gX7_key_X0_append rfl rfl rfl (by decide +kernel) ⟨Nat.le_of_ble_eq_true rfl, Nat.le_of_ble_eq_true rfl⟩
  refine lv_aload_n hx hb dX7_key_0 rfl (lv_at hl 0 rfl) ?_
  refine va_get (D := D) (ci := 6) (v := .ref kb) (C := RX7) (T := TX7) (N := 6) hx hb hts hi_X7 hown hK hP 0 rfl rfl 0 (by decide) hf_14 (fun _ h9 => h9) rfl dX7_key_1 ?_
  refine lv_lload_n hx hb dX7_key_4 rfl (lv_at hl 1 rfl) ?_
  refine lv_iload_n hx hb dX7_key_5 rfl (lv_at hl 2 rfl) ?_
  refine ct_callVi (As := [.long v, .int n]) (rest := []) (wr := [(h0, .inr (6, [.ref kb, .ref sb, .ref ms, rv, .int rn, .int us]))]) (ws2 := [(h0, .inr (6, [.ref kb, .ref sb, .ref ms, rv, .int rn, .int us])), (kb, .inr (0, [.ref kq, .int (nI kz)])), (kq, .inl (kA, 32, .inl f))]) ⟨hx, hb, hml, hown, hts⟩ (c_by_appF l D kb kq kA 32 kz hz (by decide) f v n hn) cw_X0_append [0] rfl [1, 2] [0] [0, 1, 2] hF hK hP hD hS hA 0 0 rfl rfl rfl rfl (by decide) rfl (by decide) (by decide) rfl (by decide) rfl hl.1 rfl (Nat.le_of_ble_eq_true rfl) dX7_key_6 ⟨Nat.zero_le _, Nat.zero_le _⟩ (fun H locs hP hD hS => ?_)
  exact ct_zret hx hb hr hlk hP hK hD hS rfl rfl dX7_key_9
set_option maxHeartbeats 4000000 in
set_option maxRecDepth 100000 in
/-- BitStreams.key, taken -/
theorem c_bs_keyT (l : Launch) (D : va_G) (h0 kb sb ms kq : Nat) (rv : Value) (rn us : Int32) (kA : ClassId) (kz : Nat) (hz : kz ≤ 32) (f : Nat → Int32) (v : Int64) (mm : Nat) (hm1 : 1 ≤ mm) (hm8 : mm ≤ 8) (hmN : kz + mm ≤ 32) : Cti l D yX7_key wsX7_key ({ frames := 1, cells := 0, slots := 0, locals := 40 } : Room) [.ref h0, .long v, .int (nI mm)] [(kA, .int)] [(h0, .inr (6, [.ref kb, .ref sb, .ref ms, rv, .int rn, .int us])), (kb, .inr (0, [.ref kq, .int (nI kz)])), (kq, .inl (kA, 32, .inl f))] [(h0, .inr (6, [.ref kb, .ref sb, .ref ms, rv, .int rn, .int us])), (kb, .inr (0, [.ref kq, .int (nI (kz + mm))])), (kq, .inl (kA, 32, .inl (by_app f kz v mm mm)))] 1 := by
  refine ct_of (cc := cX7_key) (maxL := 4) (ret := (some .boolean)) (by decide) rfl (Nat.le_of_ble_eq_true rfl) ?_
  intro p e s m below meth c A H locs ls hx hb hr hml hts hown hlk hnm hF hP hK hD hA hS hl
  have hown : s.vm.findClass RX7 = some m.cls := hown
  have hl : lv_has ls 4 [(0, .ref h0), (1, .long v), (3, .int (nI mm))] := hl
  have hf_14 := hts (.fieldLink RX7 14 "BitStreams" "keyBytes" "LBitStreams$Bytes;") (by decide +kernel)
  have hi_X7 : ∀ w ∈ u_ws RX7 TX7 6, w ∈ wsX7_key := by decide +kernel
  have cw_X0_append := cwV (R := ({ frames := 1, cells := 0, slots := 0, locals := 40 } : Room)) (rm := ({ frames := 0, cells := 0, slots := 0, locals := 0 } : Room)) 2 hts gX7_key_X0_append rfl rfl rfl (by decide +kernel) ⟨Nat.le_of_ble_eq_true rfl, Nat.le_of_ble_eq_true rfl⟩
  refine lv_aload_n hx hb dX7_key_0 rfl (lv_at hl 0 rfl) ?_
  refine va_get (D := D) (ci := 6) (v := .ref kb) (C := RX7) (T := TX7) (N := 6) hx hb hts hi_X7 hown hK hP 0 rfl rfl 0 (by decide) hf_14 (fun _ h9 => h9) rfl dX7_key_1 ?_
  refine lv_lload_n hx hb dX7_key_4 rfl (lv_at hl 1 rfl) ?_
  refine lv_iload_n hx hb dX7_key_5 rfl (lv_at hl 2 rfl) ?_
  refine ct_callVi (As := [.long v, .int (nI mm)]) (rest := []) (wr := [(h0, .inr (6, [.ref kb, .ref sb, .ref ms, rv, .int rn, .int us]))]) (ws2 := [(h0, .inr (6, [.ref kb, .ref sb, .ref ms, rv, .int rn, .int us])), (kb, .inr (0, [.ref kq, .int (nI (kz + mm))])), (kq, .inl (kA, 32, .inl (by_app f kz v mm mm)))]) ⟨hx, hb, hml, hown, hts⟩ (c_by_appT l D kb kq kA 32 kz hz (by decide) f v mm hm1 hm8 hmN (nI_nlt (a := mm) (b := 1) hm1 (by omega)) (nI_nlt (a := 8) (b := mm) hm8 (by decide)) (by_le hmN (by decide))) cw_X0_append [0] rfl [1, 2] [0] [0, 1, 2] hF hK hP hD hS hA 0 0 rfl rfl rfl rfl (by decide) rfl (by decide) (by decide) rfl (by decide) rfl hl.1 rfl (Nat.le_of_ble_eq_true rfl) dX7_key_6 ⟨Nat.zero_le _, Nat.zero_le _⟩ (fun H locs hP hD hS => ?_)
  exact ct_zret hx hb hr hlk hP hK hD hS rfl rfl dX7_key_9
set_option maxHeartbeats 4000000 in
set_option maxRecDepth 100000 in
/-- BitStreams.start, refused -/
theorem c_bs_startF (l : Launch) (D : va_G) (h0 kb sb ms sq : Nat) (rv : Value) (rn us : Int32) (sA : ClassId) (sz : Nat) (hz : sz ≤ 12) (g : Nat → Int32) (v : Int64) (n : Int32) (hn : ¬ (¬ n < 1 ∧ ¬ 8 < n ∧ nI sz + n ≤ nI 12)) : Cti l D yX7_start wsX7_start ({ frames := 1, cells := 0, slots := 0, locals := 40 } : Room) [.ref h0, .long v, .int n] [(sA, .int)] [(h0, .inr (6, [.ref kb, .ref sb, .ref ms, rv, .int rn, .int us])), (sb, .inr (0, [.ref sq, .int (nI sz)])), (sq, .inl (sA, 12, .inl g))] [(h0, .inr (6, [.ref kb, .ref sb, .ref ms, rv, .int rn, .int us])), (sb, .inr (0, [.ref sq, .int (nI sz)])), (sq, .inl (sA, 12, .inl g))] 0 := by
  refine ct_of (cc := cX7_start) (maxL := 4) (ret := (some .boolean)) (by decide) rfl (Nat.le_of_ble_eq_true rfl) ?_
  intro p e s m below meth c A H locs ls hx hb hr hml hts hown hlk hnm hF hP hK hD hA hS hl
  have hown : s.vm.findClass RX7 = some m.cls := hown
  have hl : lv_has ls 4 [(0, .ref h0), (1, .long v), (3, .int n)] := hl
  have hf_18 := hts (.fieldLink RX7 18 "BitStreams" "startBytes" "LBitStreams$Bytes;") (by decide +kernel)
  have hi_X7 : ∀ w ∈ u_ws RX7 TX7 6, w ∈ wsX7_start := by decide +kernel
  have cw_X0_append := cwV (R := ({ frames := 1, cells := 0, slots := 0, locals := 40 } : Room)) (rm := ({ frames := 0, cells := 0, slots := 0, locals := 0 } : Room)) 2 hts gX7_start_X0_append rfl rfl rfl (by decide +kernel) ⟨Nat.le_of_ble_eq_true rfl, Nat.le_of_ble_eq_true rfl⟩
  refine lv_aload_n hx hb dX7_start_0 rfl (lv_at hl 0 rfl) ?_
  refine va_get (D := D) (ci := 6) (v := .ref sb) (C := RX7) (T := TX7) (N := 6) hx hb hts hi_X7 hown hK hP 0 rfl rfl 1 (by decide) hf_18 (fun _ h9 => h9) rfl dX7_start_1 ?_
  refine lv_lload_n hx hb dX7_start_4 rfl (lv_at hl 1 rfl) ?_
  refine lv_iload_n hx hb dX7_start_5 rfl (lv_at hl 2 rfl) ?_
  refine ct_callVi (As := [.long v, .int n]) (rest := []) (wr := [(h0, .inr (6, [.ref kb, .ref sb, .ref ms, rv, .int rn, .int us]))]) (ws2 := [(h0, .inr (6, [.ref kb, .ref sb, .ref ms, rv, .int rn, .int us])), (sb, .inr (0, [.ref sq, .int (nI sz)])), (sq, .inl (sA, 12, .inl g))]) ⟨hx, hb, hml, hown, hts⟩ (c_by_appF l D sb sq sA 12 sz hz (by decide) g v n hn) cw_X0_append [0] rfl [1, 2] [0] [0, 1, 2] hF hK hP hD hS hA 0 0 rfl rfl rfl rfl (by decide) rfl (by decide) (by decide) rfl (by decide) rfl hl.1 rfl (Nat.le_of_ble_eq_true rfl) dX7_start_6 ⟨Nat.zero_le _, Nat.zero_le _⟩ (fun H locs hP hD hS => ?_)
  exact ct_zret hx hb hr hlk hP hK hD hS rfl rfl dX7_start_9
set_option maxHeartbeats 4000000 in
set_option maxRecDepth 100000 in
/-- BitStreams.start, taken -/
theorem c_bs_startT (l : Launch) (D : va_G) (h0 kb sb ms sq : Nat) (rv : Value) (rn us : Int32) (sA : ClassId) (sz : Nat) (hz : sz ≤ 12) (g : Nat → Int32) (v : Int64) (mm : Nat) (hm1 : 1 ≤ mm) (hm8 : mm ≤ 8) (hmN : sz + mm ≤ 12) : Cti l D yX7_start wsX7_start ({ frames := 1, cells := 0, slots := 0, locals := 40 } : Room) [.ref h0, .long v, .int (nI mm)] [(sA, .int)] [(h0, .inr (6, [.ref kb, .ref sb, .ref ms, rv, .int rn, .int us])), (sb, .inr (0, [.ref sq, .int (nI sz)])), (sq, .inl (sA, 12, .inl g))] [(h0, .inr (6, [.ref kb, .ref sb, .ref ms, rv, .int rn, .int us])), (sb, .inr (0, [.ref sq, .int (nI (sz + mm))])), (sq, .inl (sA, 12, .inl (by_app g sz v mm mm)))] 1 := by
  refine ct_of (cc := cX7_start) (maxL := 4) (ret := (some .boolean)) (by decide) rfl (Nat.le_of_ble_eq_true rfl) ?_
  intro p e s m below meth c A H locs ls hx hb hr hml hts hown hlk hnm hF hP hK hD hA hS hl
  have hown : s.vm.findClass RX7 = some m.cls := hown
  have hl : lv_has ls 4 [(0, .ref h0), (1, .long v), (3, .int (nI mm))] := hl
  have hf_18 := hts (.fieldLink RX7 18 "BitStreams" "startBytes" "LBitStreams$Bytes;") (by decide +kernel)
  have hi_X7 : ∀ w ∈ u_ws RX7 TX7 6, w ∈ wsX7_start := by decide +kernel
  have cw_X0_append := cwV (R := ({ frames := 1, cells := 0, slots := 0, locals := 40 } : Room)) (rm := ({ frames := 0, cells := 0, slots := 0, locals := 0 } : Room)) 2 hts gX7_start_X0_append rfl rfl rfl (by decide +kernel) ⟨Nat.le_of_ble_eq_true rfl, Nat.le_of_ble_eq_true rfl⟩
  refine lv_aload_n hx hb dX7_start_0 rfl (lv_at hl 0 rfl) ?_
  refine va_get (D := D) (ci := 6) (v := .ref sb) (C := RX7) (T := TX7) (N := 6) hx hb hts hi_X7 hown hK hP 0 rfl rfl 1 (by decide) hf_18 (fun _ h9 => h9) rfl dX7_start_1 ?_
  refine lv_lload_n hx hb dX7_start_4 rfl (lv_at hl 1 rfl) ?_
  refine lv_iload_n hx hb dX7_start_5 rfl (lv_at hl 2 rfl) ?_
  refine ct_callVi (As := [.long v, .int (nI mm)]) (rest := []) (wr := [(h0, .inr (6, [.ref kb, .ref sb, .ref ms, rv, .int rn, .int us]))]) (ws2 := [(h0, .inr (6, [.ref kb, .ref sb, .ref ms, rv, .int rn, .int us])), (sb, .inr (0, [.ref sq, .int (nI (sz + mm))])), (sq, .inl (sA, 12, .inl (by_app g sz v mm mm)))]) ⟨hx, hb, hml, hown, hts⟩ (c_by_appT l D sb sq sA 12 sz hz (by decide) g v mm hm1 hm8 hmN (nI_nlt (a := mm) (b := 1) hm1 (by omega)) (nI_nlt (a := 8) (b := mm) hm8 (by decide)) (by_le hmN (by decide))) cw_X0_append [0] rfl [1, 2] [0] [0, 1, 2] hF hK hP hD hS hA 0 0 rfl rfl rfl rfl (by decide) rfl (by decide) (by decide) rfl (by decide) rfl hl.1 rfl (Nat.le_of_ble_eq_true rfl) dX7_start_6 ⟨Nat.zero_le _, Nat.zero_le _⟩ (fun H locs hP hD hS => ?_)
  exact ct_zret hx hb hr hlk hP hK hD hS rfl rfl dX7_start_9
set_option maxHeartbeats 4000000 in
set_option maxRecDepth 100000 in
/-- BitStreams.count -/
theorem c_bs_cnt0 (l : Launch) (D : va_G) (h0 kb sb ms kq sq : Nat) (rv : Value) (rn us kz sz : Int32) : Cti l D yX7_count wsX7_count ({ frames := 1, cells := 0, slots := 0, locals := 40 } : Room) [.ref h0, .int 0] [] [(h0, .inr (6, [.ref kb, .ref sb, .ref ms, rv, .int rn, .int us])), (kb, .inr (0, [.ref kq, .int kz])), (sb, .inr (0, [.ref sq, .int sz]))] [(h0, .inr (6, [.ref kb, .ref sb, .ref ms, rv, .int rn, .int us])), (kb, .inr (0, [.ref kq, .int kz])), (sb, .inr (0, [.ref sq, .int sz]))] (bs_count kz sz rn us 0) := by
  refine ct_of (cc := cX7_count) (maxL := 2) (ret := (some .int)) (by decide) rfl (Nat.le_of_ble_eq_true rfl) ?_
  intro p e s m below meth c A H locs ls hx hb hr hml hts hown hlk hnm hF hP hK hD hA hS hl
  have hown : s.vm.findClass RX7 = some m.cls := hown
  have hl : lv_has ls 2 [(0, .ref h0), (1, .int 0)] := hl
  have hf_14 := hts (.fieldLink RX7 14 "BitStreams" "keyBytes" "LBitStreams$Bytes;") (by decide +kernel)
  have hi_X7 : ∀ w ∈ u_ws RX7 TX7 6, w ∈ wsX7_count := by decide +kernel
  have cw_X0_size := cwV (R := ({ frames := 1, cells := 0, slots := 0, locals := 40 } : Room)) (rm := ({ frames := 0, cells := 0, slots := 0, locals := 0 } : Room)) 0 hts gX7_count_X0_size rfl rfl rfl (by decide +kernel) ⟨Nat.le_of_ble_eq_true rfl, Nat.le_of_ble_eq_true rfl⟩
  refine lv_iload_n hx hb dX7_count_0 rfl (lv_at hl 1 rfl) ?_
  refine lv_tableIn (off := 31) (tgt := 32) hx hb dX7_count_1 (by decide) (by decide) (by decide) (by decide) ?_
  refine lv_aload_n hx hb dX7_count_32 rfl (lv_at hl 0 rfl) ?_
  refine va_get (D := D) (ci := 6) (v := .ref kb) (C := RX7) (T := TX7) (N := 6) hx hb hts hi_X7 hown hK hP 0 rfl rfl 0 (by decide) hf_14 (fun _ h9 => h9) rfl dX7_count_33 ?_
  refine ct_callVi (As := []) (rest := []) (wr := [(h0, .inr (6, [.ref kb, .ref sb, .ref ms, rv, .int rn, .int us])), (sb, .inr (0, [.ref sq, .int sz]))]) (ws2 := [(h0, .inr (6, [.ref kb, .ref sb, .ref ms, rv, .int rn, .int us])), (kb, .inr (0, [.ref kq, .int kz])), (sb, .inr (0, [.ref sq, .int sz]))]) ⟨hx, hb, hml, hown, hts⟩ (c_by_size l D kb kq kz) cw_X0_size [] rfl [1] [0, 2] [0, 2, 1] hF hK hP hD hS hA 0 0 rfl rfl rfl rfl (by decide) rfl (by decide) (by decide) rfl (by decide) rfl hl.1 rfl (Nat.le_of_ble_eq_true rfl) dX7_count_36 ⟨Nat.zero_le _, Nat.zero_le _⟩ (fun H locs hP hD hS => ?_)
  exact ct_zret hx hb hr hlk hP hK hD hS rfl rfl dX7_count_39
set_option maxHeartbeats 4000000 in
set_option maxRecDepth 100000 in
/-- BitStreams.count -/
theorem c_bs_cnt1 (l : Launch) (D : va_G) (h0 kb sb ms kq sq : Nat) (rv : Value) (rn us kz sz : Int32) : Cti l D yX7_count wsX7_count ({ frames := 1, cells := 0, slots := 0, locals := 40 } : Room) [.ref h0, .int 1] [] [(h0, .inr (6, [.ref kb, .ref sb, .ref ms, rv, .int rn, .int us])), (kb, .inr (0, [.ref kq, .int kz])), (sb, .inr (0, [.ref sq, .int sz]))] [(h0, .inr (6, [.ref kb, .ref sb, .ref ms, rv, .int rn, .int us])), (kb, .inr (0, [.ref kq, .int kz])), (sb, .inr (0, [.ref sq, .int sz]))] (bs_count kz sz rn us 1) := by
  refine ct_of (cc := cX7_count) (maxL := 2) (ret := (some .int)) (by decide) rfl (Nat.le_of_ble_eq_true rfl) ?_
  intro p e s m below meth c A H locs ls hx hb hr hml hts hown hlk hnm hF hP hK hD hA hS hl
  have hown : s.vm.findClass RX7 = some m.cls := hown
  have hl : lv_has ls 2 [(0, .ref h0), (1, .int 1)] := hl
  have hf_18 := hts (.fieldLink RX7 18 "BitStreams" "startBytes" "LBitStreams$Bytes;") (by decide +kernel)
  have hi_X7 : ∀ w ∈ u_ws RX7 TX7 6, w ∈ wsX7_count := by decide +kernel
  have cw_X0_size := cwV (R := ({ frames := 1, cells := 0, slots := 0, locals := 40 } : Room)) (rm := ({ frames := 0, cells := 0, slots := 0, locals := 0 } : Room)) 0 hts gX7_count_X0_size rfl rfl rfl (by decide +kernel) ⟨Nat.le_of_ble_eq_true rfl, Nat.le_of_ble_eq_true rfl⟩
  refine lv_iload_n hx hb dX7_count_0 rfl (lv_at hl 1 rfl) ?_
  refine lv_tableIn (off := 39) (tgt := 40) hx hb dX7_count_1 (by decide) (by decide) (by decide) (by decide) ?_
  refine lv_aload_n hx hb dX7_count_40 rfl (lv_at hl 0 rfl) ?_
  refine va_get (D := D) (ci := 6) (v := .ref sb) (C := RX7) (T := TX7) (N := 6) hx hb hts hi_X7 hown hK hP 0 rfl rfl 1 (by decide) hf_18 (fun _ h9 => h9) rfl dX7_count_41 ?_
  refine ct_callVi (As := []) (rest := []) (wr := [(h0, .inr (6, [.ref kb, .ref sb, .ref ms, rv, .int rn, .int us])), (kb, .inr (0, [.ref kq, .int kz]))]) (ws2 := [(h0, .inr (6, [.ref kb, .ref sb, .ref ms, rv, .int rn, .int us])), (kb, .inr (0, [.ref kq, .int kz])), (sb, .inr (0, [.ref sq, .int sz]))]) ⟨hx, hb, hml, hown, hts⟩ (c_by_size l D sb sq sz) cw_X0_size [] rfl [2] [0, 1] [0, 1, 2] hF hK hP hD hS hA 0 0 rfl rfl rfl rfl (by decide) rfl (by decide) (by decide) rfl (by decide) rfl hl.1 rfl (Nat.le_of_ble_eq_true rfl) dX7_count_44 ⟨Nat.zero_le _, Nat.zero_le _⟩ (fun H locs hP hD hS => ?_)
  exact ct_zret hx hb hr hlk hP hK hD hS rfl rfl dX7_count_47
set_option maxHeartbeats 4000000 in
set_option maxRecDepth 100000 in
/-- BitStreams.count -/
theorem c_bs_cnt2 (l : Launch) (D : va_G) (h0 kb sb ms kq sq : Nat) (rv : Value) (rn us kz sz : Int32) : Cti l D yX7_count wsX7_count ({ frames := 1, cells := 0, slots := 0, locals := 40 } : Room) [.ref h0, .int 2] [] [(h0, .inr (6, [.ref kb, .ref sb, .ref ms, rv, .int rn, .int us])), (kb, .inr (0, [.ref kq, .int kz])), (sb, .inr (0, [.ref sq, .int sz]))] [(h0, .inr (6, [.ref kb, .ref sb, .ref ms, rv, .int rn, .int us])), (kb, .inr (0, [.ref kq, .int kz])), (sb, .inr (0, [.ref sq, .int sz]))] (bs_count kz sz rn us 2) := by
  refine ct_of (cc := cX7_count) (maxL := 2) (ret := (some .int)) (by decide) rfl (Nat.le_of_ble_eq_true rfl) ?_
  intro p e s m below meth c A H locs ls hx hb hr hml hts hown hlk hnm hF hP hK hD hA hS hl
  have hown : s.vm.findClass RX7 = some m.cls := hown
  have hl : lv_has ls 2 [(0, .ref h0), (1, .int 2)] := hl
  have hf_43 := hts (.fieldLink RX7 43 "BitStreams" "runningNumber" "I") (by decide +kernel)
  have hi_X7 : ∀ w ∈ u_ws RX7 TX7 6, w ∈ wsX7_count := by decide +kernel
  refine lv_iload_n hx hb dX7_count_0 rfl (lv_at hl 1 rfl) ?_
  refine lv_tableIn (off := 47) (tgt := 48) hx hb dX7_count_1 (by decide) (by decide) (by decide) (by decide) ?_
  refine lv_aload_n hx hb dX7_count_48 rfl (lv_at hl 0 rfl) ?_
  refine va_get (D := D) (ci := 6) (v := .int rn) (C := RX7) (T := TX7) (N := 6) hx hb hts hi_X7 hown hK hP 0 rfl rfl 4 (by decide) hf_43 (fun _ h9 => h9) rfl dX7_count_49 ?_
  exact ct_zret hx hb hr hlk hP hK hD hS rfl rfl dX7_count_52
set_option maxHeartbeats 4000000 in
set_option maxRecDepth 100000 in
/-- BitStreams.count -/
theorem c_bs_cnt3 (l : Launch) (D : va_G) (h0 kb sb ms kq sq : Nat) (rv : Value) (rn us kz sz : Int32) : Cti l D yX7_count wsX7_count ({ frames := 1, cells := 0, slots := 0, locals := 40 } : Room) [.ref h0, .int 3] [] [(h0, .inr (6, [.ref kb, .ref sb, .ref ms, rv, .int rn, .int us])), (kb, .inr (0, [.ref kq, .int kz])), (sb, .inr (0, [.ref sq, .int sz]))] [(h0, .inr (6, [.ref kb, .ref sb, .ref ms, rv, .int rn, .int us])), (kb, .inr (0, [.ref kq, .int kz])), (sb, .inr (0, [.ref sq, .int sz]))] (bs_count kz sz rn us 3) := by
  refine ct_of (cc := cX7_count) (maxL := 2) (ret := (some .int)) (by decide) rfl (Nat.le_of_ble_eq_true rfl) ?_
  intro p e s m below meth c A H locs ls hx hb hr hml hts hown hlk hnm hF hP hK hD hA hS hl
  have hown : s.vm.findClass RX7 = some m.cls := hown
  have hl : lv_has ls 2 [(0, .ref h0), (1, .int 3)] := hl
  have hf_47 := hts (.fieldLink RX7 47 "BitStreams" "used" "I") (by decide +kernel)
  have hi_X7 : ∀ w ∈ u_ws RX7 TX7 6, w ∈ wsX7_count := by decide +kernel
  refine lv_iload_n hx hb dX7_count_0 rfl (lv_at hl 1 rfl) ?_
  refine lv_tableIn (off := 52) (tgt := 53) hx hb dX7_count_1 (by decide) (by decide) (by decide) (by decide) ?_
  refine lv_aload_n hx hb dX7_count_53 rfl (lv_at hl 0 rfl) ?_
  refine va_get (D := D) (ci := 6) (v := .int us) (C := RX7) (T := TX7) (N := 6) hx hb hts hi_X7 hown hK hP 0 rfl rfl 5 (by decide) hf_47 (fun _ h9 => h9) rfl dX7_count_54 ?_
  exact ct_zret hx hb hr hlk hP hK hD hS rfl rfl dX7_count_57
set_option maxHeartbeats 4000000 in
set_option maxRecDepth 100000 in
/-- BitStreams.count of another -/
theorem c_bs_cntN (l : Launch) (D : va_G) (h0 kb sb ms kq sq : Nat) (rv : Value) (rn us kz sz : Int32) (w : Int32) (hw : w.toInt < 0 ∨ 3 < w.toInt) (hv : bs_count kz sz rn us w = -1) : Cti l D yX7_count wsX7_count ({ frames := 1, cells := 0, slots := 0, locals := 40 } : Room) [.ref h0, .int w] [] [(h0, .inr (6, [.ref kb, .ref sb, .ref ms, rv, .int rn, .int us])), (kb, .inr (0, [.ref kq, .int kz])), (sb, .inr (0, [.ref sq, .int sz]))] [(h0, .inr (6, [.ref kb, .ref sb, .ref ms, rv, .int rn, .int us])), (kb, .inr (0, [.ref kq, .int kz])), (sb, .inr (0, [.ref sq, .int sz]))] (bs_count kz sz rn us w) := by
  refine ct_of (cc := cX7_count) (maxL := 2) (ret := (some .int)) (by decide) rfl (Nat.le_of_ble_eq_true rfl) ?_
  intro p e s m below meth c A H locs ls hx hb hr hml hts hown hlk hnm hF hP hK hD hA hS hl
  have hown : s.vm.findClass RX7 = some m.cls := hown
  have hl : lv_has ls 2 [(0, .ref h0), (1, .int w)] := hl
  refine lv_iload_n hx hb dX7_count_0 rfl (lv_at hl 1 rfl) ?_
  refine lv_tableOut (tgt := 58) hx hb dX7_count_1 hw (by decide) ?_
  refine lv_iconst (v := (-1)) hx hb dX7_count_58 (by decide) ?_
  exact ct_zret hx hb hr hlk hP hK hD hS rfl hv.symm dX7_count_59
