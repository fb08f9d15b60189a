set_option maxHeartbeats 4000000 in
set_option maxRecDepth 100000 in
/-- BitStreams.bits, no machine -/
theorem c_bs_bitsN (l : Launch) (D : va_G) (h0 kb sb ms : Nat) (rn us : Int32) (n : Int32) : Ctl l D yX7_bits wsX7_bits ({ frames := 7, cells := 0, slots := 0, locals := 147 } : Room) [.ref h0, .int n] [] [(h0, .inr (6, [.ref kb, .ref sb, .ref ms, .null, .int rn, .int us]))] [(h0, .inr (6, [.ref kb, .ref sb, .ref ms, .null, .int rn, .int us]))] 0 := by
  refine ct_of (cc := cX7_bits) (maxL := 2) (ret := (some .long)) (by decide) rfl (Nat.le_of_ble_eq_true rfl) ?_
  intro p e s m below meth c A H locs ls hx hb hr hml hts hown hlk hnm hF hP hK hD hA hS hl
  have hown : s.vm.findClass RX7 = some m.cls := hown
  have hl : lv_has ls 2 [(0, .ref h0), (1, .int n)] := hl
  have cw_X7_mix := cwV (R := ({ frames := 7, cells := 0, slots := 0, locals := 147 } : Room)) (rm := ({ frames := 6, cells := 0, slots := 0, locals := 120 } : Room)) 2 hts gX7_bits_X7_mix rfl rfl rfl (by decide +kernel) ⟨Nat.le_of_ble_eq_true rfl, Nat.le_of_ble_eq_true rfl⟩
  refine lv_aload_n hx hb dX7_bits_0 rfl (lv_at hl 0 rfl) ?_
  refine lv_lconst (v := 0) hx hb dX7_bits_1 (by decide) ?_
  refine lv_iload_n hx hb dX7_bits_2 rfl (lv_at hl 1 rfl) ?_
  refine ct_callVl (As := [.long 0, .int n]) (rest := []) (wr := []) (ws2 := [(h0, .inr (6, [.ref kb, .ref sb, .ref ms, .null, .int rn, .int us]))]) ⟨hx, hb, hml, hown, hts⟩ (c_bs_mixN l D h0 kb sb ms rn us 0 n) cw_X7_mix [] rfl [0] [] [0] hF hK hP hD hS hA 0 6 rfl rfl rfl rfl (by decide) rfl (by decide) (by decide) rfl (by decide) rfl hl.1 rfl (Nat.le_of_ble_eq_true rfl) dX7_bits_3 ⟨Nat.zero_le _, Nat.zero_le _⟩ (fun H locs hP hD hS => ?_)
  exact ct_lret hx hb hr hlk hP hK hD hS rfl dX7_bits_6
set_option maxHeartbeats 4000000 in
set_option maxRecDepth 100000 in
/-- BitStreams.bits, refused -/
theorem c_bs_bitsF (l : Launch) (D : va_G) (h0 kb sb ms mk : Nat) (rn us : Int32) (n : Int32) (hn : ¬ (¬ n < 1 ∧ n ≤ 64)) : Ctl l D yX7_bits wsX7_bits ({ frames := 7, cells := 0, slots := 0, locals := 147 } : Room) [.ref h0, .int n] [] [(h0, .inr (6, [.ref kb, .ref sb, .ref ms, .ref mk, .int rn, .int us]))] [(h0, .inr (6, [.ref kb, .ref sb, .ref ms, .ref mk, .int rn, .int us]))] 0 := by
  refine ct_of (cc := cX7_bits) (maxL := 2) (ret := (some .long)) (by decide) rfl (Nat.le_of_ble_eq_true rfl) ?_
  intro p e s m below meth c A H locs ls hx hb hr hml hts hown hlk hnm hF hP hK hD hA hS hl
  have hown : s.vm.findClass RX7 = some m.cls := hown
  have hl : lv_has ls 2 [(0, .ref h0), (1, .int n)] := hl
  have cw_X7_mix := cwV (R := ({ frames := 7, cells := 0, slots := 0, locals := 147 } : Room)) (rm := ({ frames := 6, cells := 0, slots := 0, locals := 120 } : Room)) 2 hts gX7_bits_X7_mix rfl rfl rfl (by decide +kernel) ⟨Nat.le_of_ble_eq_true rfl, Nat.le_of_ble_eq_true rfl⟩
  refine lv_aload_n hx hb dX7_bits_0 rfl (lv_at hl 0 rfl) ?_
  refine lv_lconst (v := 0) hx hb dX7_bits_1 (by decide) ?_
  refine lv_iload_n hx hb dX7_bits_2 rfl (lv_at hl 1 rfl) ?_
  refine ct_callVl (As := [.long 0, .int n]) (rest := []) (wr := []) (ws2 := [(h0, .inr (6, [.ref kb, .ref sb, .ref ms, .ref mk, .int rn, .int us]))]) ⟨hx, hb, hml, hown, hts⟩ (c_bs_mixF l D h0 kb sb ms mk rn us 0 n hn) cw_X7_mix [] rfl [0] [] [0] hF hK hP hD hS hA 0 6 rfl rfl rfl rfl (by decide) rfl (by decide) (by decide) rfl (by decide) rfl hl.1 rfl (Nat.le_of_ble_eq_true rfl) dX7_bits_3 ⟨Nat.zero_le _, Nat.zero_le _⟩ (fun H locs hP hD hS => ?_)
  exact ct_lret hx hb hr hlk hP hK hD hS rfl dX7_bits_6
set_option maxHeartbeats 4000000 in
set_option maxRecDepth 100000 in
/-- BitStreams.bits, machine 0 -/
theorem c_bs_bits0 (l : Launch) (D : va_G) (h0 kb sb ms m0 r1 r2 r3 : Nat) (rn us : Int32) (σ : R6) (n : Nat) (hn1 : 1 ≤ n) (hn : n ≤ 64) : Ctl l D yX7_bits wsX7_bits ({ frames := 7, cells := 0, slots := 0, locals := 147 } : Room) [.ref h0, .int (nI n)] [] [(h0, .inr (6, [.ref kb, .ref sb, .ref ms, .ref m0, .int rn, .int us])), (m0, .inr (3, [.ref r1, .ref r2, .ref r3])), (r1, .inr (1, [.long σ.1.1, .long σ.1.2])), (r2, .inr (1, [.long σ.2.1.1, .long σ.2.1.2])), (r3, .inr (1, [.long σ.2.2.1, .long σ.2.2.2]))] [(h0, .inr (6, [.ref kb, .ref sb, .ref ms, .ref m0, .int rn, .int (us + nI n)])), (m0, .inr (3, [.ref r1, .ref r2, .ref r3])), (r1, .inr (1, [.long (((mit tr_step σ n).1).1), .long (((mit tr_step σ n).1).2)])), (r2, .inr (1, [.long (((mit tr_step σ n).2.1).1), .long (((mit tr_step σ n).2.1).2)])), (r3, .inr (1, [.long (((mit tr_step σ n).2.2).1), .long (((mit tr_step σ n).2.2).2)]))] (mmx 0 n (mst tr_step tr_out σ n)) := by
  refine ct_of (cc := cX7_bits) (maxL := 2) (ret := (some .long)) (by decide) rfl (Nat.le_of_ble_eq_true rfl) ?_
  intro p e s m below meth c A H locs ls hx hb hr hml hts hown hlk hnm hF hP hK hD hA hS hl
  have hown : s.vm.findClass RX7 = some m.cls := hown
  have hl : lv_has ls 2 [(0, .ref h0), (1, .int (nI n))] := hl
  have cw_X7_mix := cwV (R := ({ frames := 7, cells := 0, slots := 0, locals := 147 } : Room)) (rm := ({ frames := 6, cells := 0, slots := 0, locals := 120 } : Room)) 2 hts gX7_bits_X7_mix rfl rfl rfl (by decide +kernel) ⟨Nat.le_of_ble_eq_true rfl, Nat.le_of_ble_eq_true rfl⟩
  refine lv_aload_n hx hb dX7_bits_0 rfl (lv_at hl 0 rfl) ?_
  refine lv_lconst (v := 0) hx hb dX7_bits_1 (by decide) ?_
  refine lv_iload_n hx hb dX7_bits_2 rfl (lv_at hl 1 rfl) ?_
  refine ct_callVl (As := [.long 0, .int (nI n)]) (rest := []) (wr := []) (ws2 := [(h0, .inr (6, [.ref kb, .ref sb, .ref ms, .ref m0, .int rn, .int (us + nI n)])), (m0, .inr (3, [.ref r1, .ref r2, .ref r3])), (r1, .inr (1, [.long (((mit tr_step σ n).1).1), .long (((mit tr_step σ n).1).2)])), (r2, .inr (1, [.long (((mit tr_step σ n).2.1).1), .long (((mit tr_step σ n).2.1).2)])), (r3, .inr (1, [.long (((mit tr_step σ n).2.2).1), .long (((mit tr_step σ n).2.2).2)]))]) ⟨hx, hb, hml, hown, hts⟩ (c_bs_mix0 l D h0 kb sb ms m0 r1 r2 r3 rn us σ 0 n hn1 hn) cw_X7_mix [] rfl [0, 1, 2, 3, 4] [] [0, 1, 2, 3, 4] hF hK hP hD hS hA 0 6 rfl rfl rfl rfl (by decide) rfl (by decide) (by decide) rfl (by decide) rfl hl.1 rfl (Nat.le_of_ble_eq_true rfl) dX7_bits_3 ⟨Nat.zero_le _, Nat.zero_le _⟩ (fun H locs hP hD hS => ?_)
  exact ct_lret hx hb hr hlk hP hK hD hS rfl dX7_bits_6
set_option maxHeartbeats 4000000 in
set_option maxRecDepth 100000 in
/-- BitStreams.bits, machine 1 -/
theorem c_bs_bits1 (l : Launch) (D : va_G) (h0 kb sb ms m1 r1 r2 : Nat) (rn us : Int32) (σ : R4) (n : Nat) (hn1 : 1 ≤ n) (hn : n ≤ 64) : Ctl l D yX7_bits wsX7_bits ({ frames := 7, cells := 0, slots := 0, locals := 147 } : Room) [.ref h0, .int (nI n)] [] [(h0, .inr (6, [.ref kb, .ref sb, .ref ms, .ref m1, .int rn, .int us])), (m1, .inr (5, [.ref r1, .ref r2])), (r1, .inr (1, [.long σ.1.1, .long σ.1.2])), (r2, .inr (1, [.long σ.2.1, .long σ.2.2]))] [(h0, .inr (6, [.ref kb, .ref sb, .ref ms, .ref m1, .int rn, .int (us + nI n)])), (m1, .inr (5, [.ref r1, .ref r2])), (r1, .inr (1, [.long (((mit tw_step σ n).1).1), .long (((mit tw_step σ n).1).2)])), (r2, .inr (1, [.long (((mit tw_step σ n).2).1), .long (((mit tw_step σ n).2).2)]))] (mmx 0 n (mst tw_step tw_out σ n)) := by
  refine ct_of (cc := cX7_bits) (maxL := 2) (ret := (some .long)) (by decide) rfl (Nat.le_of_ble_eq_true rfl) ?_
  intro p e s m below meth c A H locs ls hx hb hr hml hts hown hlk hnm hF hP hK hD hA hS hl
  have hown : s.vm.findClass RX7 = some m.cls := hown
  have hl : lv_has ls 2 [(0, .ref h0), (1, .int (nI n))] := hl
  have cw_X7_mix := cwV (R := ({ frames := 7, cells := 0, slots := 0, locals := 147 } : Room)) (rm := ({ frames := 6, cells := 0, slots := 0, locals := 120 } : Room)) 2 hts gX7_bits_X7_mix rfl rfl rfl (by decide +kernel) ⟨Nat.le_of_ble_eq_true rfl, Nat.le_of_ble_eq_true rfl⟩
  refine lv_aload_n hx hb dX7_bits_0 rfl (lv_at hl 0 rfl) ?_
  refine lv_lconst (v := 0) hx hb dX7_bits_1 (by decide) ?_
  refine lv_iload_n hx hb dX7_bits_2 rfl (lv_at hl 1 rfl) ?_
  refine ct_callVl (As := [.long 0, .int (nI n)]) (rest := []) (wr := []) (ws2 := [(h0, .inr (6, [.ref kb, .ref sb, .ref ms, .ref m1, .int rn, .int (us + nI n)])), (m1, .inr (5, [.ref r1, .ref r2])), (r1, .inr (1, [.long (((mit tw_step σ n).1).1), .long (((mit tw_step σ n).1).2)])), (r2, .inr (1, [.long (((mit tw_step σ n).2).1), .long (((mit tw_step σ n).2).2)]))]) ⟨hx, hb, hml, hown, hts⟩ (c_bs_mix1 l D h0 kb sb ms m1 r1 r2 rn us σ 0 n hn1 hn) cw_X7_mix [] rfl [0, 1, 2, 3] [] [0, 1, 2, 3] hF hK hP hD hS hA 0 6 rfl rfl rfl rfl (by decide) rfl (by decide) (by decide) rfl (by decide) rfl hl.1 rfl (Nat.le_of_ble_eq_true rfl) dX7_bits_3 ⟨Nat.zero_le _, Nat.zero_le _⟩ (fun H locs hP hD hS => ?_)
  exact ct_lret hx hb hr hlk hP hK hD hS rfl dX7_bits_6
set_option maxHeartbeats 4000000 in
set_option maxRecDepth 100000 in
/-- BitStreams.bits, machine 2 -/
theorem c_bs_bits2 (l : Launch) (D : va_G) (h0 kb sb ms m2 r1 r2 r3 : Nat) (rn us : Int32) (σ : R6) (n : Nat) (hn1 : 1 ≤ n) (hn : n ≤ 64) : Ctl l D yX7_bits wsX7_bits ({ frames := 7, cells := 0, slots := 0, locals := 147 } : Room) [.ref h0, .int (nI n)] [] [(h0, .inr (6, [.ref kb, .ref sb, .ref ms, .ref m2, .int rn, .int us])), (m2, .inr (4, [.ref r1, .ref r2, .ref r3])), (r1, .inr (1, [.long σ.1.1, .long σ.1.2])), (r2, .inr (1, [.long σ.2.1.1, .long σ.2.1.2])), (r3, .inr (1, [.long σ.2.2.1, .long σ.2.2.2]))] [(h0, .inr (6, [.ref kb, .ref sb, .ref ms, .ref m2, .int rn, .int (us + nI n)])), (m2, .inr (4, [.ref r1, .ref r2, .ref r3])), (r1, .inr (1, [.long (((mit ss_step σ n).1).1), .long (((mit ss_step σ n).1).2)])), (r2, .inr (1, [.long (((mit ss_step σ n).2.1).1), .long (((mit ss_step σ n).2.1).2)])), (r3, .inr (1, [.long (((mit ss_step σ n).2.2).1), .long (((mit ss_step σ n).2.2).2)]))] (mmx 0 n (mst ss_step ss_out σ n)) := by
  refine ct_of (cc := cX7_bits) (maxL := 2) (ret := (some .long)) (by decide) rfl (Nat.le_of_ble_eq_true rfl) ?_
  intro p e s m below meth c A H locs ls hx hb hr hml hts hown hlk hnm hF hP hK hD hA hS hl
  have hown : s.vm.findClass RX7 = some m.cls := hown
  have hl : lv_has ls 2 [(0, .ref h0), (1, .int (nI n))] := hl
  have cw_X7_mix := cwV (R := ({ frames := 7, cells := 0, slots := 0, locals := 147 } : Room)) (rm := ({ frames := 6, cells := 0, slots := 0, locals := 120 } : Room)) 2 hts gX7_bits_X7_mix rfl rfl rfl (by decide +kernel) ⟨Nat.le_of_ble_eq_true rfl, Nat.le_of_ble_eq_true rfl⟩
  refine lv_aload_n hx hb dX7_bits_0 rfl (lv_at hl 0 rfl) ?_
  refine lv_lconst (v := 0) hx hb dX7_bits_1 (by decide) ?_
  refine lv_iload_n hx hb dX7_bits_2 rfl (lv_at hl 1 rfl) ?_
  refine ct_callVl (As := [.long 0, .int (nI n)]) (rest := []) (wr := []) (ws2 := [(h0, .inr (6, [.ref kb, .ref sb, .ref ms, .ref m2, .int rn, .int (us + nI n)])), (m2, .inr (4, [.ref r1, .ref r2, .ref r3])), (r1, .inr (1, [.long (((mit ss_step σ n).1).1), .long (((mit ss_step σ n).1).2)])), (r2, .inr (1, [.long (((mit ss_step σ n).2.1).1), .long (((mit ss_step σ n).2.1).2)])), (r3, .inr (1, [.long (((mit ss_step σ n).2.2).1), .long (((mit ss_step σ n).2.2).2)]))]) ⟨hx, hb, hml, hown, hts⟩ (c_bs_mix2 l D h0 kb sb ms m2 r1 r2 r3 rn us σ 0 n hn1 hn) cw_X7_mix [] rfl [0, 1, 2, 3, 4] [] [0, 1, 2, 3, 4] hF hK hP hD hS hA 0 6 rfl rfl rfl rfl (by decide) rfl (by decide) (by decide) rfl (by decide) rfl hl.1 rfl (Nat.le_of_ble_eq_true rfl) dX7_bits_3 ⟨Nat.zero_le _, Nat.zero_le _⟩ (fun H locs hP hD hS => ?_)
  exact ct_lret hx hb hr hlk hP hK hD hS rfl dX7_bits_6
set_option maxHeartbeats 4000000 in
set_option maxRecDepth 100000 in
/-- BitStreams.bits, machine 3 -/
theorem c_bs_bits3 (l : Launch) (D : va_G) (h0 kb sb ms m3 q : Nat) (kR : ClassId) (rn us : Int32) (σ : X5) (n : Nat) (hn1 : 1 ≤ n) (hn : n ≤ 64) : Ctl l D yX7_bits wsX7_bits ({ frames := 7, cells := 0, slots := 0, locals := 147 } : Room) [.ref h0, .int (nI n)] [(kR, .int)] [(h0, .inr (6, [.ref kb, .ref sb, .ref ms, .ref m3, .int rn, .int us])), (m3, .inr (2, [.ref q, .int σ.1.2.1, .int σ.1.2.2, .int σ.2.1, .int σ.2.2])), (q, .inl (kR, 256, .inl σ.1.1))] [(h0, .inr (6, [.ref kb, .ref sb, .ref ms, .ref m3, .int rn, .int (us + nI n)])), (m3, .inr (2, [.ref q, .int ((mit ex_step σ n).1.2.1), .int ((mit ex_step σ n).1.2.2), .int ((mit ex_step σ n).2.1), .int ((mit ex_step σ n).2.2)])), (q, .inl (kR, 256, .inl ((mit ex_step σ n).1.1)))] (mmx 0 n (mst ex_step ex_out σ n)) := by
  refine ct_of (cc := cX7_bits) (maxL := 2) (ret := (some .long)) (by decide) rfl (Nat.le_of_ble_eq_true rfl) ?_
  intro p e s m below meth c A H locs ls hx hb hr hml hts hown hlk hnm hF hP hK hD hA hS hl
  have hown : s.vm.findClass RX7 = some m.cls := hown
  have hl : lv_has ls 2 [(0, .ref h0), (1, .int (nI n))] := hl
  have cw_X7_mix := cwV (R := ({ frames := 7, cells := 0, slots := 0, locals := 147 } : Room)) (rm := ({ frames := 6, cells := 0, slots := 0, locals := 120 } : Room)) 2 hts gX7_bits_X7_mix rfl rfl rfl (by decide +kernel) ⟨Nat.le_of_ble_eq_true rfl, Nat.le_of_ble_eq_true rfl⟩
  refine lv_aload_n hx hb dX7_bits_0 rfl (lv_at hl 0 rfl) ?_
  refine lv_lconst (v := 0) hx hb dX7_bits_1 (by decide) ?_
  refine lv_iload_n hx hb dX7_bits_2 rfl (lv_at hl 1 rfl) ?_
  refine ct_callVl (As := [.long 0, .int (nI n)]) (rest := []) (wr := []) (ws2 := [(h0, .inr (6, [.ref kb, .ref sb, .ref ms, .ref m3, .int rn, .int (us + nI n)])), (m3, .inr (2, [.ref q, .int ((mit ex_step σ n).1.2.1), .int ((mit ex_step σ n).1.2.2), .int ((mit ex_step σ n).2.1), .int ((mit ex_step σ n).2.2)])), (q, .inl (kR, 256, .inl ((mit ex_step σ n).1.1)))]) ⟨hx, hb, hml, hown, hts⟩ (c_bs_mix3 l D h0 kb sb ms m3 q kR rn us σ 0 n hn1 hn) cw_X7_mix [0] rfl [0, 1, 2] [] [0, 1, 2] hF hK hP hD hS hA 0 6 rfl rfl rfl rfl (by decide) rfl (by decide) (by decide) rfl (by decide) rfl hl.1 rfl (Nat.le_of_ble_eq_true rfl) dX7_bits_3 ⟨Nat.zero_le _, Nat.zero_le _⟩ (fun H locs hP hD hS => ?_)
  exact ct_lret hx hb hr hlk hP hK hD hS rfl dX7_bits_6
set_option maxHeartbeats 4000000 in
set_option maxRecDepth 100000 in
/-- Model.bits, no machine -/
theorem c_md_bitsN (l : Launch) (D : va_G) (h0 kq sq cq tq rq : Nat) (kz sz gv ri rj bn lf : Int32) (n : Int32) : Ctl l D yX8_bits wsX8_bits ({ frames := 7, cells := 0, slots := 0, locals := 216 } : Room) [.ref h0, .int n] [] [(h0, .inr (7, [.ref kq, .ref sq, .int kz, .int sz, .int (-1), .int gv, .ref cq, .ref tq, .ref rq, .int ri, .int rj, .int bn, .int lf]))] [(h0, .inr (7, [.ref kq, .ref sq, .int kz, .int sz, .int (-1), .int gv, .ref cq, .ref tq, .ref rq, .int ri, .int rj, .int bn, .int lf]))] 0 := by
  refine ct_of (cc := cX8_bits) (maxL := 2) (ret := (some .long)) (by decide) rfl (Nat.le_of_ble_eq_true rfl) ?_
  intro p e s m below meth c A H locs ls hx hb hr hml hts hown hlk hnm hF hP hK hD hA hS hl
  have hown : s.vm.findClass RX8 = some m.cls := hown
  have hl : lv_has ls 2 [(0, .ref h0), (1, .int n)] := hl
  have cw_X8_mix := cwV (R := ({ frames := 7, cells := 0, slots := 0, locals := 216 } : Room)) (rm := ({ frames := 6, cells := 0, slots := 0, locals := 190 } : Room)) 2 hts gX8_bits_X8_mix rfl rfl rfl (by decide +kernel) ⟨Nat.le_of_ble_eq_true rfl, Nat.le_of_ble_eq_true rfl⟩
  refine lv_aload_n hx hb dX8_bits_0 rfl (lv_at hl 0 rfl) ?_
  refine lv_lconst (v := 0) hx hb dX8_bits_1 (by decide) ?_
  refine lv_iload_n hx hb dX8_bits_2 rfl (lv_at hl 1 rfl) ?_
  refine ct_callVl (As := [.long 0, .int n]) (rest := []) (wr := []) (ws2 := [(h0, .inr (7, [.ref kq, .ref sq, .int kz, .int sz, .int (-1), .int gv, .ref cq, .ref tq, .ref rq, .int ri, .int rj, .int bn, .int lf]))]) ⟨hx, hb, hml, hown, hts⟩ (c_md_mixN l D h0 kq sq cq tq rq kz sz gv ri rj bn lf 0 n) cw_X8_mix [] rfl [0] [] [0] hF hK hP hD hS hA 0 7 rfl rfl rfl rfl (by decide) rfl (by decide) (by decide) rfl (by decide) rfl hl.1 rfl (Nat.le_of_ble_eq_true rfl) dX8_bits_3 ⟨Nat.zero_le _, Nat.zero_le _⟩ (fun H locs hP hD hS => ?_)
  exact ct_lret hx hb hr hlk hP hK hD hS rfl dX8_bits_6
set_option maxHeartbeats 4000000 in
set_option maxRecDepth 100000 in
/-- Model.bits, refused -/
theorem c_md_bitsF (l : Launch) (D : va_G) (h0 kq sq cq tq rq : Nat) (kz sz mc gv ri rj bn lf : Int32) (n : Int32) (hm : ¬ mc < 0) (hn : ¬ (¬ n < 1 ∧ n ≤ 64)) : Ctl l D yX8_bits wsX8_bits ({ frames := 7, cells := 0, slots := 0, locals := 216 } : Room) [.ref h0, .int n] [] [(h0, .inr (7, [.ref kq, .ref sq, .int kz, .int sz, .int mc, .int gv, .ref cq, .ref tq, .ref rq, .int ri, .int rj, .int bn, .int lf]))] [(h0, .inr (7, [.ref kq, .ref sq, .int kz, .int sz, .int mc, .int gv, .ref cq, .ref tq, .ref rq, .int ri, .int rj, .int bn, .int lf]))] 0 := by
  refine ct_of (cc := cX8_bits) (maxL := 2) (ret := (some .long)) (by decide) rfl (Nat.le_of_ble_eq_true rfl) ?_
  intro p e s m below meth c A H locs ls hx hb hr hml hts hown hlk hnm hF hP hK hD hA hS hl
  have hown : s.vm.findClass RX8 = some m.cls := hown
  have hl : lv_has ls 2 [(0, .ref h0), (1, .int n)] := hl
  have cw_X8_mix := cwV (R := ({ frames := 7, cells := 0, slots := 0, locals := 216 } : Room)) (rm := ({ frames := 6, cells := 0, slots := 0, locals := 190 } : Room)) 2 hts gX8_bits_X8_mix rfl rfl rfl (by decide +kernel) ⟨Nat.le_of_ble_eq_true rfl, Nat.le_of_ble_eq_true rfl⟩
  refine lv_aload_n hx hb dX8_bits_0 rfl (lv_at hl 0 rfl) ?_
  refine lv_lconst (v := 0) hx hb dX8_bits_1 (by decide) ?_
  refine lv_iload_n hx hb dX8_bits_2 rfl (lv_at hl 1 rfl) ?_
  refine ct_callVl (As := [.long 0, .int n]) (rest := []) (wr := []) (ws2 := [(h0, .inr (7, [.ref kq, .ref sq, .int kz, .int sz, .int mc, .int gv, .ref cq, .ref tq, .ref rq, .int ri, .int rj, .int bn, .int lf]))]) ⟨hx, hb, hml, hown, hts⟩ (c_md_mixF l D h0 kq sq cq tq rq kz sz mc gv ri rj bn lf 0 n hm hn) cw_X8_mix [] rfl [0] [] [0] hF hK hP hD hS hA 0 7 rfl rfl rfl rfl (by decide) rfl (by decide) (by decide) rfl (by decide) rfl hl.1 rfl (Nat.le_of_ble_eq_true rfl) dX8_bits_3 ⟨Nat.zero_le _, Nat.zero_le _⟩ (fun H locs hP hD hS => ?_)
  exact ct_lret hx hb hr hlk hP hK hD hS rfl dX8_bits_6
set_option maxHeartbeats 4000000 in
set_option maxRecDepth 100000 in
/-- Model.bits, machine 0 -/
theorem c_md_bits0 (l : Launch) (D : va_G) (h0 kq sq cq tq rq : Nat) (kz sz gv ri rj bn lf : Int32) (cA tA : ClassId) (σ : MR) (n : Nat) (hn1 : 1 ≤ n) (hn : n ≤ 64) : Ctl l D yX8_bits wsX8_bits ({ frames := 7, cells := 0, slots := 0, locals := 216 } : Room) [.ref h0, .int (nI n)] [(cA, .int), (tA, .int)] [(h0, .inr (7, [.ref kq, .ref sq, .int kz, .int sz, .int 0, .int gv, .ref cq, .ref tq, .ref rq, .int ri, .int rj, .int bn, .int lf])), (cq, .inl (cA, 384, .inl σ.1)), (tq, .inl (tA, 3, .inl σ.2))] [(h0, .inr (7, [.ref kq, .ref sq, .int kz, .int sz, .int 0, .int (gv + nI n), .ref cq, .ref tq, .ref rq, .int ri, .int rj, .int bn, .int lf])), (cq, .inl (cA, 384, .inl ((mit md_rstep σ n).1))), (tq, .inl (tA, 3, .inl ((mit md_rstep σ n).2)))] (mds md_rstep md_rout σ 0 n n) := by
  refine ct_of (cc := cX8_bits) (maxL := 2) (ret := (some .long)) (by decide) rfl (Nat.le_of_ble_eq_true rfl) ?_
  intro p e s m below meth c A H locs ls hx hb hr hml hts hown hlk hnm hF hP hK hD hA hS hl
  have hown : s.vm.findClass RX8 = some m.cls := hown
  have hl : lv_has ls 2 [(0, .ref h0), (1, .int (nI n))] := hl
  have cw_X8_mix := cwV (R := ({ frames := 7, cells := 0, slots := 0, locals := 216 } : Room)) (rm := ({ frames := 6, cells := 0, slots := 0, locals := 190 } : Room)) 2 hts gX8_bits_X8_mix rfl rfl rfl (by decide +kernel) ⟨Nat.le_of_ble_eq_true rfl, Nat.le_of_ble_eq_true rfl⟩
  refine lv_aload_n hx hb dX8_bits_0 rfl (lv_at hl 0 rfl) ?_
  refine lv_lconst (v := 0) hx hb dX8_bits_1 (by decide) ?_
  refine lv_iload_n hx hb dX8_bits_2 rfl (lv_at hl 1 rfl) ?_
  refine ct_callVl (As := [.long 0, .int (nI n)]) (rest := []) (wr := []) (ws2 := [(h0, .inr (7, [.ref kq, .ref sq, .int kz, .int sz, .int 0, .int (gv + nI n), .ref cq, .ref tq, .ref rq, .int ri, .int rj, .int bn, .int lf])), (cq, .inl (cA, 384, .inl ((mit md_rstep σ n).1))), (tq, .inl (tA, 3, .inl ((mit md_rstep σ n).2)))]) ⟨hx, hb, hml, hown, hts⟩ (c_md_mix0 l D h0 kq sq cq tq rq kz sz gv ri rj bn lf cA tA σ 0 n hn1 hn) cw_X8_mix [0, 1] rfl [0, 1, 2] [] [0, 1, 2] hF hK hP hD hS hA 0 7 rfl rfl rfl rfl (by decide) rfl (by decide) (by decide) rfl (by decide) rfl hl.1 rfl (Nat.le_of_ble_eq_true rfl) dX8_bits_3 ⟨Nat.zero_le _, Nat.zero_le _⟩ (fun H locs hP hD hS => ?_)
  exact ct_lret hx hb hr hlk hP hK hD hS rfl dX8_bits_6
set_option maxHeartbeats 4000000 in
set_option maxRecDepth 100000 in
/-- Model.bits, machine 1 -/
theorem c_md_bits1 (l : Launch) (D : va_G) (h0 kq sq cq tq rq : Nat) (kz sz gv ri rj bn lf : Int32) (cA tA : ClassId) (σ : MR) (n : Nat) (hn1 : 1 ≤ n) (hn : n ≤ 64) : Ctl l D yX8_bits wsX8_bits ({ frames := 7, cells := 0, slots := 0, locals := 216 } : Room) [.ref h0, .int (nI n)] [(cA, .int), (tA, .int)] [(h0, .inr (7, [.ref kq, .ref sq, .int kz, .int sz, .int 1, .int gv, .ref cq, .ref tq, .ref rq, .int ri, .int rj, .int bn, .int lf])), (cq, .inl (cA, 384, .inl σ.1)), (tq, .inl (tA, 3, .inl σ.2))] [(h0, .inr (7, [.ref kq, .ref sq, .int kz, .int sz, .int 1, .int (gv + nI n), .ref cq, .ref tq, .ref rq, .int ri, .int rj, .int bn, .int lf])), (cq, .inl (cA, 384, .inl ((mit md_two0 σ n).1))), (tq, .inl (tA, 3, .inl ((mit md_two0 σ n).2)))] (mds md_two0 md_y σ 0 n n) := by
  refine ct_of (cc := cX8_bits) (maxL := 2) (ret := (some .long)) (by decide) rfl (Nat.le_of_ble_eq_true rfl) ?_
  intro p e s m below meth c A H locs ls hx hb hr hml hts hown hlk hnm hF hP hK hD hA hS hl
  have hown : s.vm.findClass RX8 = some m.cls := hown
  have hl : lv_has ls 2 [(0, .ref h0), (1, .int (nI n))] := hl
  have cw_X8_mix := cwV (R := ({ frames := 7, cells := 0, slots := 0, locals := 216 } : Room)) (rm := ({ frames := 6, cells := 0, slots := 0, locals := 190 } : Room)) 2 hts gX8_bits_X8_mix rfl rfl rfl (by decide +kernel) ⟨Nat.le_of_ble_eq_true rfl, Nat.le_of_ble_eq_true rfl⟩
  refine lv_aload_n hx hb dX8_bits_0 rfl (lv_at hl 0 rfl) ?_
  refine lv_lconst (v := 0) hx hb dX8_bits_1 (by decide) ?_
  refine lv_iload_n hx hb dX8_bits_2 rfl (lv_at hl 1 rfl) ?_
  refine ct_callVl (As := [.long 0, .int (nI n)]) (rest := []) (wr := []) (ws2 := [(h0, .inr (7, [.ref kq, .ref sq, .int kz, .int sz, .int 1, .int (gv + nI n), .ref cq, .ref tq, .ref rq, .int ri, .int rj, .int bn, .int lf])), (cq, .inl (cA, 384, .inl ((mit md_two0 σ n).1))), (tq, .inl (tA, 3, .inl ((mit md_two0 σ n).2)))]) ⟨hx, hb, hml, hown, hts⟩ (c_md_mix1 l D h0 kq sq cq tq rq kz sz gv ri rj bn lf cA tA σ 0 n hn1 hn) cw_X8_mix [0, 1] rfl [0, 1, 2] [] [0, 1, 2] hF hK hP hD hS hA 0 7 rfl rfl rfl rfl (by decide) rfl (by decide) (by decide) rfl (by decide) rfl hl.1 rfl (Nat.le_of_ble_eq_true rfl) dX8_bits_3 ⟨Nat.zero_le _, Nat.zero_le _⟩ (fun H locs hP hD hS => ?_)
  exact ct_lret hx hb hr hlk hP hK hD hS rfl dX8_bits_6
set_option maxHeartbeats 4000000 in
set_option maxRecDepth 100000 in
/-- Model.bits, machine 2 -/
theorem c_md_bits2 (l : Launch) (D : va_G) (h0 kq sq cq tq rq : Nat) (kz sz gv ri rj bn lf : Int32) (cA tA : ClassId) (σ : MR) (n : Nat) (hn1 : 1 ≤ n) (hn : n ≤ 64) : Ctl l D yX8_bits wsX8_bits ({ frames := 7, cells := 0, slots := 0, locals := 216 } : Room) [.ref h0, .int (nI n)] [(cA, .int), (tA, .int)] [(h0, .inr (7, [.ref kq, .ref sq, .int kz, .int sz, .int 2, .int gv, .ref cq, .ref tq, .ref rq, .int ri, .int rj, .int bn, .int lf])), (cq, .inl (cA, 384, .inl σ.1)), (tq, .inl (tA, 3, .inl σ.2))] [(h0, .inr (7, [.ref kq, .ref sq, .int kz, .int sz, .int 2, .int (gv + nI n), .ref cq, .ref tq, .ref rq, .int ri, .int rj, .int bn, .int lf])), (cq, .inl (cA, 384, .inl ((mit md_s2 σ n).1))), (tq, .inl (tA, 3, .inl ((mit md_s2 σ n).2)))] (mds md_s2 md_sout σ 0 n n) := by
  refine ct_of (cc := cX8_bits) (maxL := 2) (ret := (some .long)) (by decide) rfl (Nat.le_of_ble_eq_true rfl) ?_
  intro p e s m below meth c A H locs ls hx hb hr hml hts hown hlk hnm hF hP hK hD hA hS hl
  have hown : s.vm.findClass RX8 = some m.cls := hown
  have hl : lv_has ls 2 [(0, .ref h0), (1, .int (nI n))] := hl
  have cw_X8_mix := cwV (R := ({ frames := 7, cells := 0, slots := 0, locals := 216 } : Room)) (rm := ({ frames := 6, cells := 0, slots := 0, locals := 190 } : Room)) 2 hts gX8_bits_X8_mix rfl rfl rfl (by decide +kernel) ⟨Nat.le_of_ble_eq_true rfl, Nat.le_of_ble_eq_true rfl⟩
  refine lv_aload_n hx hb dX8_bits_0 rfl (lv_at hl 0 rfl) ?_
  refine lv_lconst (v := 0) hx hb dX8_bits_1 (by decide) ?_
  refine lv_iload_n hx hb dX8_bits_2 rfl (lv_at hl 1 rfl) ?_
  refine ct_callVl (As := [.long 0, .int (nI n)]) (rest := []) (wr := []) (ws2 := [(h0, .inr (7, [.ref kq, .ref sq, .int kz, .int sz, .int 2, .int (gv + nI n), .ref cq, .ref tq, .ref rq, .int ri, .int rj, .int bn, .int lf])), (cq, .inl (cA, 384, .inl ((mit md_s2 σ n).1))), (tq, .inl (tA, 3, .inl ((mit md_s2 σ n).2)))]) ⟨hx, hb, hml, hown, hts⟩ (c_md_mix2 l D h0 kq sq cq tq rq kz sz gv ri rj bn lf cA tA σ 0 n hn1 hn) cw_X8_mix [0, 1] rfl [0, 1, 2] [] [0, 1, 2] hF hK hP hD hS hA 0 7 rfl rfl rfl rfl (by decide) rfl (by decide) (by decide) rfl (by decide) rfl hl.1 rfl (Nat.le_of_ble_eq_true rfl) dX8_bits_3 ⟨Nat.zero_le _, Nat.zero_le _⟩ (fun H locs hP hD hS => ?_)
  exact ct_lret hx hb hr hlk hP hK hD hS rfl dX8_bits_6
set_option maxHeartbeats 4000000 in
set_option maxRecDepth 100000 in
/-- Model.bits, machine 3 -/
theorem c_md_bits3 (l : Launch) (D : va_G) (h0 kq sq cq tq rq : Nat) (kz sz gv : Int32) (rA : ClassId) (σ : X5) (n : Nat) (hn1 : 1 ≤ n) (hn : n ≤ 64) : Ctl l D yX8_bits wsX8_bits ({ frames := 7, cells := 0, slots := 0, locals := 216 } : Room) [.ref h0, .int (nI n)] [(rA, .int)] [(h0, .inr (7, [.ref kq, .ref sq, .int kz, .int sz, .int 3, .int gv, .ref cq, .ref tq, .ref rq, .int σ.1.2.1, .int σ.1.2.2, .int σ.2.1, .int σ.2.2])), (rq, .inl (rA, 256, .inl σ.1.1))] [(h0, .inr (7, [.ref kq, .ref sq, .int kz, .int sz, .int 3, .int (gv + nI n), .ref cq, .ref tq, .ref rq, .int ((mit ex_step σ n).1.2.1), .int ((mit ex_step σ n).1.2.2), .int ((mit ex_step σ n).2.1), .int ((mit ex_step σ n).2.2)])), (rq, .inl (rA, 256, .inl ((mit ex_step σ n).1.1)))] (mds ex_step ex_out σ 0 n n) := by
  refine ct_of (cc := cX8_bits) (maxL := 2) (ret := (some .long)) (by decide) rfl (Nat.le_of_ble_eq_true rfl) ?_
  intro p e s m below meth c A H locs ls hx hb hr hml hts hown hlk hnm hF hP hK hD hA hS hl
  have hown : s.vm.findClass RX8 = some m.cls := hown
  have hl : lv_has ls 2 [(0, .ref h0), (1, .int (nI n))] := hl
  have cw_X8_mix := cwV (R := ({ frames := 7, cells := 0, slots := 0, locals := 216 } : Room)) (rm := ({ frames := 6, cells := 0, slots := 0, locals := 190 } : Room)) 2 hts gX8_bits_X8_mix rfl rfl rfl (by decide +kernel) ⟨Nat.le_of_ble_eq_true rfl, Nat.le_of_ble_eq_true rfl⟩
  refine lv_aload_n hx hb dX8_bits_0 rfl (lv_at hl 0 rfl) ?_
  refine lv_lconst (v := 0) hx hb dX8_bits_1 (by decide) ?_
  refine lv_iload_n hx hb dX8_bits_2 rfl (lv_at hl 1 rfl) ?_
  refine ct_callVl (As := [.long 0, .int (nI n)]) (rest := []) (wr := []) (ws2 := [(h0, .inr (7, [.ref kq, .ref sq, .int kz, .int sz, .int 3, .int (gv + nI n), .ref cq, .ref tq, .ref rq, .int ((mit ex_step σ n).1.2.1), .int ((mit ex_step σ n).1.2.2), .int ((mit ex_step σ n).2.1), .int ((mit ex_step σ n).2.2)])), (rq, .inl (rA, 256, .inl ((mit ex_step σ n).1.1)))]) ⟨hx, hb, hml, hown, hts⟩ (c_md_mix3 l D h0 kq sq cq tq rq kz sz gv rA σ 0 n hn1 hn) cw_X8_mix [0] rfl [0, 1] [] [0, 1] hF hK hP hD hS hA 0 7 rfl rfl rfl rfl (by decide) rfl (by decide) (by decide) rfl (by decide) rfl hl.1 rfl (Nat.le_of_ble_eq_true rfl) dX8_bits_3 ⟨Nat.zero_le _, Nat.zero_le _⟩ (fun H locs hP hD hS => ?_)
  exact ct_lret hx hb hr hlk hP hK hD hS rfl dX8_bits_6
