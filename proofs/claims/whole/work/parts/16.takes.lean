/-- which sizes a machine takes -/
def tk (a b ks ss : Int32) : Int32 := if ¬ ks = a then 0 else if ¬ ss = b then 0 else 1
def tk3 (ks ss : Int32) : Int32 := if ks < 5 then 0 else if 32 < ks then 0 else if ¬ ss = 0 then 0 else 1
/-- a machine's states and bits, one after the other -/
def mit {α : Type} (f : α → α) (σ : α) : Nat → α
  | 0 => σ
  | k + 1 => f (mit f σ k)
def mst {α : Type} (f : α → α) (o : α → Int32) (σ : α) : Nat → Int64
  | 0 => 0
  | k + 1 => lL (mst f o σ k) 1 ||| (o (mit f σ k)).toInt64
def mmx (v : Int64) (n : Nat) (x : Int64) : Int64 := (v &&& lU (-1) (64 - nI n)) ^^^ x
def tw_step (σ : R4) : R4 := tw_move σ 0
/-- the row of machines -/
def bs_ms (m0 m1 m2 m3 : Nat) : Nat → Option Nat
  | 0 => some m0
  | 1 => some m1
  | 2 => some m2
  | 3 => some m3
  | _ => none
def bs_count (kz sz : Int32) (rn us w : Int32) : Int32 := if w = 0 then kz else if w = 1 then sz else if w = 2 then rn else if w = 3 then us else -1
set_option maxHeartbeats 4000000 in
set_option maxRecDepth 100000 in
/-- X4.takes -/
theorem c_tr_takes (l : Launch) (D : va_G) (h0 r1 r2 r3 : Nat) (ks ss : Int32) : Cti l D yX4_takes wsX4_takes ({ frames := 0, cells := 0, slots := 0, locals := 0 } : Room) [.ref h0, .int ks, .int ss] [] [(h0, .inr (3, [.ref r1, .ref r2, .ref r3]))] [(h0, .inr (3, [.ref r1, .ref r2, .ref r3]))] (tk 10 10 ks ss) := by
  refine ct_of (cc := cX4_takes) (maxL := 3) (ret := (some .boolean)) (by decide) rfl (Nat.le_of_ble_eq_true rfl) ?_
  intro p e s m below meth c A H locs ls hx hb hr hml hts hown hlk hnm hF hP hK hD hA hS hl
  have hown : s.vm.findClass RX4 = some m.cls := hown
  have hl : lv_has ls 3 [(0, .ref h0), (1, .int ks), (2, .int ss)] := hl
  refine lv_iload_n hx hb dX4_takes_0 rfl (lv_at hl 1 rfl) ?_
  refine lv_bipush (v := 10) hx hb dX4_takes_1 (by decide) ?_
  refine lv_icmp_ne (tgt := 16) hx hb dX4_takes_3 (by decide) (fun c_3_1 => ?_) (fun c_3_1 => ?_)
  · refine lv_iconst (v := 0) hx hb dX4_takes_16 (by decide) ?_
    exact ct_zret hx hb hr hlk hP hK hD hS rfl (by rw [tk, if_pos c_3_1]) dX4_takes_17
  · refine lv_iload_n hx hb dX4_takes_6 rfl (lv_at hl 2 rfl) ?_
    refine lv_bipush (v := 10) hx hb dX4_takes_7 (by decide) ?_
    refine lv_icmp_ne (tgt := 16) hx hb dX4_takes_9 (by decide) (fun c_9_2 => ?_) (fun c_9_2 => ?_)
    · refine lv_iconst (v := 0) hx hb dX4_takes_16 (by decide) ?_
      exact ct_zret hx hb hr hlk hP hK hD hS rfl (by rw [tk, if_neg (not_not_intro c_3_1), if_pos c_9_2]) dX4_takes_17
    · refine lv_iconst (v := 1) hx hb dX4_takes_12 (by decide) ?_
      refine lv_goto (tgt := 17) hx hb dX4_takes_13 (by decide) ?_
      exact ct_zret hx hb hr hlk hP hK hD hS rfl (by rw [tk, if_neg (not_not_intro c_3_1), if_neg (not_not_intro c_9_2)]) dX4_takes_17
set_option maxHeartbeats 4000000 in
set_option maxRecDepth 100000 in
/-- X6.takes -/
theorem c_tw_takes (l : Launch) (D : va_G) (h0 r1 r2 : Nat) (ks ss : Int32) : Cti l D yX6_takes wsX6_takes ({ frames := 0, cells := 0, slots := 0, locals := 0 } : Room) [.ref h0, .int ks, .int ss] [] [(h0, .inr (5, [.ref r1, .ref r2]))] [(h0, .inr (5, [.ref r1, .ref r2]))] (tk 16 12 ks ss) := by
  refine ct_of (cc := cX6_takes) (maxL := 3) (ret := (some .boolean)) (by decide) rfl (Nat.le_of_ble_eq_true rfl) ?_
  intro p e s m below meth c A H locs ls hx hb hr hml hts hown hlk hnm hF hP hK hD hA hS hl
  have hown : s.vm.findClass RX6 = some m.cls := hown
  have hl : lv_has ls 3 [(0, .ref h0), (1, .int ks), (2, .int ss)] := hl
  refine lv_iload_n hx hb dX6_takes_0 rfl (lv_at hl 1 rfl) ?_
  refine lv_bipush (v := 16) hx hb dX6_takes_1 (by decide) ?_
  refine lv_icmp_ne (tgt := 16) hx hb dX6_takes_3 (by decide) (fun c_3_1 => ?_) (fun c_3_1 => ?_)
  · refine lv_iconst (v := 0) hx hb dX6_takes_16 (by decide) ?_
    exact ct_zret hx hb hr hlk hP hK hD hS rfl (by rw [tk, if_pos c_3_1]) dX6_takes_17
  · refine lv_iload_n hx hb dX6_takes_6 rfl (lv_at hl 2 rfl) ?_
    refine lv_bipush (v := 12) hx hb dX6_takes_7 (by decide) ?_
    refine lv_icmp_ne (tgt := 16) hx hb dX6_takes_9 (by decide) (fun c_9_2 => ?_) (fun c_9_2 => ?_)
    · refine lv_iconst (v := 0) hx hb dX6_takes_16 (by decide) ?_
      exact ct_zret hx hb hr hlk hP hK hD hS rfl (by rw [tk, if_neg (not_not_intro c_3_1), if_pos c_9_2]) dX6_takes_17
    · refine lv_iconst (v := 1) hx hb dX6_takes_12 (by decide) ?_
      refine lv_goto (tgt := 17) hx hb dX6_takes_13 (by decide) ?_
      exact ct_zret hx hb hr hlk hP hK hD hS rfl (by rw [tk, if_neg (not_not_intro c_3_1), if_neg (not_not_intro c_9_2)]) dX6_takes_17
set_option maxHeartbeats 4000000 in
set_option maxRecDepth 100000 in
/-- X5.takes -/
theorem c_ss_takes (l : Launch) (D : va_G) (h0 r1 r2 r3 : Nat) (ks ss : Int32) : Cti l D yX5_takes wsX5_takes ({ frames := 0, cells := 0, slots := 0, locals := 0 } : Room) [.ref h0, .int ks, .int ss] [] [(h0, .inr (4, [.ref r1, .ref r2, .ref r3]))] [(h0, .inr (4, [.ref r1, .ref r2, .ref r3]))] (tk 8 3 ks ss) := by
  refine ct_of (cc := cX5_takes) (maxL := 3) (ret := (some .boolean)) (by decide) rfl (Nat.le_of_ble_eq_true rfl) ?_
  intro p e s m below meth c A H locs ls hx hb hr hml hts hown hlk hnm hF hP hK hD hA hS hl
  have hown : s.vm.findClass RX5 = some m.cls := hown
  have hl : lv_has ls 3 [(0, .ref h0), (1, .int ks), (2, .int ss)] := hl
  refine lv_iload_n hx hb dX5_takes_0 rfl (lv_at hl 1 rfl) ?_
  refine lv_bipush (v := 8) hx hb dX5_takes_1 (by decide) ?_
  refine lv_icmp_ne (tgt := 15) hx hb dX5_takes_3 (by decide) (fun c_3_1 => ?_) (fun c_3_1 => ?_)
  · refine lv_iconst (v := 0) hx hb dX5_takes_15 (by decide) ?_
    exact ct_zret hx hb hr hlk hP hK hD hS rfl (by rw [tk, if_pos c_3_1]) dX5_takes_16
  · refine lv_iload_n hx hb dX5_takes_6 rfl (lv_at hl 2 rfl) ?_
    refine lv_iconst (v := 3) hx hb dX5_takes_7 (by decide) ?_
    refine lv_icmp_ne (tgt := 15) hx hb dX5_takes_8 (by decide) (fun c_8_2 => ?_) (fun c_8_2 => ?_)
    · refine lv_iconst (v := 0) hx hb dX5_takes_15 (by decide) ?_
      exact ct_zret hx hb hr hlk hP hK hD hS rfl (by rw [tk, if_neg (not_not_intro c_3_1), if_pos c_8_2]) dX5_takes_16
    · refine lv_iconst (v := 1) hx hb dX5_takes_11 (by decide) ?_
      refine lv_goto (tgt := 16) hx hb dX5_takes_12 (by decide) ?_
      exact ct_zret hx hb hr hlk hP hK hD hS rfl (by rw [tk, if_neg (not_not_intro c_3_1), if_neg (not_not_intro c_8_2)]) dX5_takes_16
set_option maxHeartbeats 4000000 in
set_option maxRecDepth 100000 in
/-- Exchanges.takes -/
theorem c_ex_takes (l : Launch) (D : va_G) (h0 q : Nat) (i j gb bl ks ss : Int32) : Cti l D yX2_takes wsX2_takes ({ frames := 0, cells := 0, slots := 0, locals := 0 } : Room) [.ref h0, .int ks, .int ss] [] [(h0, .inr (2, [.ref q, .int i, .int j, .int gb, .int bl]))] [(h0, .inr (2, [.ref q, .int i, .int j, .int gb, .int bl]))] (tk3 ks ss) := by
  refine ct_of (cc := cX2_takes) (maxL := 3) (ret := (some .boolean)) (by decide) rfl (Nat.le_of_ble_eq_true rfl) ?_
  intro p e s m below meth c A H locs ls hx hb hr hml hts hown hlk hnm hF hP hK hD hA hS hl
  have hown : s.vm.findClass RX2 = some m.cls := hown
  have hl : lv_has ls 3 [(0, .ref h0), (1, .int ks), (2, .int ss)] := hl
  refine lv_iload_n hx hb dX2_takes_0 rfl (lv_at hl 1 rfl) ?_
  refine lv_iconst (v := 5) hx hb dX2_takes_1 (by decide) ?_
  refine lv_icmp_lt (tgt := 19) hx hb dX2_takes_2 (by decide) (fun c_2_1 => ?_) (fun c_2_1 => ?_)
  · refine lv_iconst (v := 0) hx hb dX2_takes_19 (by decide) ?_
    exact ct_zret hx hb hr hlk hP hK hD hS rfl (by rw [tk3, if_pos c_2_1]) dX2_takes_20
  · refine lv_iload_n hx hb dX2_takes_5 rfl (lv_at hl 1 rfl) ?_
    refine lv_bipush (v := 32) hx hb dX2_takes_6 (by decide) ?_
    refine lv_icmp_gt (tgt := 19) hx hb dX2_takes_8 (by decide) (fun c_8_2 => ?_) (fun c_8_2 => ?_)
    · refine lv_iconst (v := 0) hx hb dX2_takes_19 (by decide) ?_
      exact ct_zret hx hb hr hlk hP hK hD hS rfl (by rw [tk3, if_neg c_2_1, if_pos c_8_2]) dX2_takes_20
    · refine lv_iload_n hx hb dX2_takes_11 rfl (lv_at hl 2 rfl) ?_
      refine lv_if_ne (tgt := 19) hx hb dX2_takes_12 (by decide) (fun c_12_3 => ?_) (fun c_12_3 => ?_)
      · refine lv_iconst (v := 0) hx hb dX2_takes_19 (by decide) ?_
        exact ct_zret hx hb hr hlk hP hK hD hS rfl (by rw [tk3, if_neg c_2_1, if_neg c_8_2, if_pos c_12_3]) dX2_takes_20
      · refine lv_iconst (v := 1) hx hb dX2_takes_15 (by decide) ?_
        refine lv_goto (tgt := 20) hx hb dX2_takes_16 (by decide) ?_
        exact ct_zret hx hb hr hlk hP hK hD hS rfl (by rw [tk3, if_neg c_2_1, if_neg c_8_2, if_neg (not_not_intro c_12_3)]) dX2_takes_20
