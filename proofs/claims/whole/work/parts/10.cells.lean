def lU (x : Int64) (y : Int32) : Int64 := (x.toUInt64 >>> (y.toInt64.toUInt64 &&& Int64.toUInt64 63)).toInt64
def lL (x : Int64) (y : Int32) : Int64 := x <<< (y.toInt64 &&& 63)
def lR (x : Int64) (y : Int32) : Int64 := x >>> (y.toInt64 &&& 63)
/-- a register of 128 cells: two longs (low, high); what at, add, moveUp, moveDown make of them -/
abbrev R2 : Type := Int64 × Int64
def rg_0 : R2 := (0, 0)
def rg_at (r : R2) (q : Int32) : Int32 := (lU (if 64 ≤ q then r.2 else r.1) q).toInt32 &&& 1
def rg_add (r : R2) (q b : Int32) : R2 := if 64 ≤ q then (r.1, r.2 ^^^ lL b.toInt64 q) else (r.1 ^^^ lL b.toInt64 q, r.2)
def rg_up (r : R2) (f : Int32) : R2 := (lL r.1 1 ||| f.toInt64, lL r.2 1 ||| lU r.1 63)
def rg_dn (r : R2) (f : Int32) : R2 := (lU r.1 1 ||| lL r.2 63, lU r.2 1 ||| lL f.toInt64 63)
section Tops
variable {p : Program} {l : Launch} {e : Env} {R : Room} {s : State} {m : MethodId} {args : Array Value} {below : List Frame} {meth : Method} {c : Code} {H : Heap} {locs : List Loc} {cells slots : Nat} {Q : State → Prop} {pc : Nat} {ls : Array Slot} {rest : List Value}
theorem ct_topi {x y : Int32} (h : x = y) (k : W p l e R s m args below meth c H locs cells slots Q (F0 m pc ls (.int y :: rest))) : W p l e R s m args below meth c H locs cells slots Q (F0 m pc ls (.int x :: rest)) := h ▸ k
theorem ct_topl {x y : Int64} (h : x = y) (k : W p l e R s m args below meth c H locs cells slots Q (F0 m pc ls (.long y :: rest))) : W p l e R s m args below meth c H locs cells slots Q (F0 m pc ls (.long x :: rest)) := h ▸ k
theorem ct_topv {x y : Value} (h : x = y) (k : W p l e R s m args below meth c H locs cells slots Q (F0 m pc ls (y :: rest))) : W p l e R s m args below meth c H locs cells slots Q (F0 m pc ls (x :: rest)) := h ▸ k
end Tops
set_option maxHeartbeats 4000000 in
set_option maxRecDepth 100000 in
/-- Cells.at -/
theorem c_at (l : Launch) (D : va_G) (h0 : Nat) (r : R2) (q : Int32) : Cti l D yX1_at wsX1_at ({ frames := 0, cells := 0, slots := 0, locals := 0 } : Room) [.ref h0, .int q] [] [(h0, .inr (1, [.long r.1, .long r.2]))] [(h0, .inr (1, [.long r.1, .long r.2]))] (rg_at r q) := by
  refine ct_of (cc := cX1_at) (maxL := 2) (ret := (some .int)) (by decide) rfl (Nat.le_of_ble_eq_true rfl) ?_
  intro p e s m below meth c A H locs ls hx hb hr hml hts hown hlk hnm hF hP hK hD hA hS hl
  have hown : s.vm.findClass RX1 = some m.cls := hown
  have hl : lv_has ls 2 [(0, .ref h0), (1, .int q)] := hl
  have hf_15 := hts (.fieldLink RX1 15 "BitStreams$Cells" "high" "J") (by decide +kernel)
  have hi_X1 : ∀ w ∈ u_ws RX1 TX1 2, w ∈ wsX1_at := by decide +kernel
  have hf_9 := hts (.fieldLink RX1 9 "BitStreams$Cells" "low" "J") (by decide +kernel)
  refine lv_iload_n hx hb dX1_at_0 rfl (lv_at hl 1 rfl) ?_
  refine lv_bipush (v := 64) hx hb dX1_at_1 (by decide) ?_
  refine lv_icmp_ge (tgt := 13) hx hb dX1_at_3 (by decide) (fun c_3_1 => ?_) (fun c_3_1 => ?_)
  · refine lv_aload_n hx hb dX1_at_13 rfl (lv_at hl 0 rfl) ?_
    refine va_get (D := D) (ci := 1) (v := .long r.2) (C := RX1) (T := TX1) (N := 2) hx hb hts hi_X1 hown hK hP 0 rfl rfl 1 (by decide) hf_15 (fun _ h9 => h9) rfl dX1_at_14 ?_
    refine lv_iload_n hx hb dX1_at_17 rfl (lv_at hl 1 rfl) ?_
    refine lv_lushr (v := lU r.2 q) hx hb dX1_at_18 rfl ?_
    refine lv_l2i hx hb dX1_at_19 rfl ?_
    refine lv_iconst (v := 1) hx hb dX1_at_20 (by decide) ?_
    refine lv_iand hx hb dX1_at_21 ?_
    exact ct_zret hx hb hr hlk hP hK hD hS rfl (by rw [rg_at, if_pos c_3_1]) dX1_at_22
  · refine lv_aload_n hx hb dX1_at_6 rfl (lv_at hl 0 rfl) ?_
    refine va_get (D := D) (ci := 1) (v := .long r.1) (C := RX1) (T := TX1) (N := 2) hx hb hts hi_X1 hown hK hP 0 rfl rfl 0 (by decide) hf_9 (fun _ h9 => h9) rfl dX1_at_7 ?_
    refine lv_goto (tgt := 17) hx hb dX1_at_10 (by decide) ?_
    refine lv_iload_n hx hb dX1_at_17 rfl (lv_at hl 1 rfl) ?_
    refine lv_lushr (v := lU r.1 q) hx hb dX1_at_18 rfl ?_
    refine lv_l2i hx hb dX1_at_19 rfl ?_
    refine lv_iconst (v := 1) hx hb dX1_at_20 (by decide) ?_
    refine lv_iand hx hb dX1_at_21 ?_
    exact ct_zret hx hb hr hlk hP hK hD hS rfl (by rw [rg_at, if_neg c_3_1]) dX1_at_22
set_option maxHeartbeats 4000000 in
set_option maxRecDepth 100000 in
/-- Cells.add -/
theorem c_add (l : Launch) (D : va_G) (h0 : Nat) (r : R2) (q b : Int32) : Ctv l D yX1_add wsX1_add ({ frames := 0, cells := 0, slots := 0, locals := 0 } : Room) [.ref h0, .int q, .int b] [] [(h0, .inr (1, [.long r.1, .long r.2]))] [(h0, .inr (1, [.long ((rg_add r q b).1), .long ((rg_add r q b).2)]))] := by
  refine ct_of (cc := cX1_add) (maxL := 3) (ret := none) (by decide) rfl (Nat.le_of_ble_eq_true rfl) ?_
  intro p e s m below meth c A H locs ls hx hb hr hml hts hown hlk hnm hF hP hK hD hA hS hl
  have hown : s.vm.findClass RX1 = some m.cls := hown
  have hl : lv_has ls 3 [(0, .ref h0), (1, .int q), (2, .int b)] := hl
  have hf_15 := hts (.fieldLink RX1 15 "BitStreams$Cells" "high" "J") (by decide +kernel)
  have hi_X1 : ∀ w ∈ u_ws RX1 TX1 2, w ∈ wsX1_add := by decide +kernel
  have hf_9 := hts (.fieldLink RX1 9 "BitStreams$Cells" "low" "J") (by decide +kernel)
  refine lv_iload_n hx hb dX1_add_0 rfl (lv_at hl 1 rfl) ?_
  refine lv_bipush (v := 64) hx hb dX1_add_1 (by decide) ?_
  refine lv_icmp_ge (tgt := 22) hx hb dX1_add_3 (by decide) (fun c_3_1 => ?_) (fun c_3_1 => ?_)
  · refine lv_aload_n hx hb dX1_add_22 rfl (lv_at hl 0 rfl) ?_
    refine lv_dup hx hb dX1_add_23 rfl ?_
    refine va_get (D := D) (ci := 1) (v := .long r.2) (C := RX1) (T := TX1) (N := 2) hx hb hts hi_X1 hown hK hP 0 rfl rfl 1 (by decide) hf_15 (fun _ h9 => h9) rfl dX1_add_24 ?_
    refine lv_iload_n hx hb dX1_add_27 rfl (lv_at hl 2 rfl) ?_
    refine lv_i2l hx hb dX1_add_28 rfl ?_
    refine lv_iload_n hx hb dX1_add_29 rfl (lv_at hl 1 rfl) ?_
    refine lv_lshl (v := lL b.toInt64 q) hx hb dX1_add_30 rfl ?_
    refine lv_lxor hx hb dX1_add_31 ?_
    refine va_put (D := D) (ci := 1) (v := .long (r.2 ^^^ (lL b.toInt64 q))) (ty := .long) (C := RX1) (T := TX1) (N := 2) hx hb hts hi_X1 tyX1 tyX1_ok nmX1 hown hK hP hD hS 0 rfl rfl 1 (by decide) hf_15 (fun _ h9 => h9) rfl (by decide +kernel) rfl rfl (Nat.le_of_ble_eq_true rfl) dX1_add_32 (fun H locs hP hD hS => ?_)
    have hP : va_P D vwCl [(h0, .inr (1, [.long r.1, .long (r.2 ^^^ (lL b.toInt64 q))]))] H := hP
    have hD : va_D A [(h0, .inr (1, [.long r.1, .long (r.2 ^^^ (lL b.toInt64 q))]))] := hD
    have hP : va_P D vwCl [(h0, .inr (1, [.long ((rg_add r q b).1), .long ((rg_add r q b).2)]))] H := by rw [rg_add, if_pos c_3_1]; exact hP
    have hD : va_D A [(h0, .inr (1, [.long ((rg_add r q b).1), .long ((rg_add r q b).2)]))] := by rw [rg_add, if_pos c_3_1]; exact hD
    exact ct_vret hx hb hr hlk hP hK hD hS dX1_add_35
  · refine lv_aload_n hx hb dX1_add_6 rfl (lv_at hl 0 rfl) ?_
    refine lv_dup hx hb dX1_add_7 rfl ?_
    refine va_get (D := D) (ci := 1) (v := .long r.1) (C := RX1) (T := TX1) (N := 2) hx hb hts hi_X1 hown hK hP 0 rfl rfl 0 (by decide) hf_9 (fun _ h9 => h9) rfl dX1_add_8 ?_
    refine lv_iload_n hx hb dX1_add_11 rfl (lv_at hl 2 rfl) ?_
    refine lv_i2l hx hb dX1_add_12 rfl ?_
    refine lv_iload_n hx hb dX1_add_13 rfl (lv_at hl 1 rfl) ?_
    refine lv_lshl (v := lL b.toInt64 q) hx hb dX1_add_14 rfl ?_
    refine lv_lxor hx hb dX1_add_15 ?_
    refine va_put (D := D) (ci := 1) (v := .long (r.1 ^^^ (lL b.toInt64 q))) (ty := .long) (C := RX1) (T := TX1) (N := 2) hx hb hts hi_X1 tyX1 tyX1_ok nmX1 hown hK hP hD hS 0 rfl rfl 0 (by decide) hf_9 (fun _ h9 => h9) rfl (by decide +kernel) rfl rfl (Nat.le_of_ble_eq_true rfl) dX1_add_16 (fun H locs hP hD hS => ?_)
    have hP : va_P D vwCl [(h0, .inr (1, [.long (r.1 ^^^ (lL b.toInt64 q)), .long r.2]))] H := hP
    have hD : va_D A [(h0, .inr (1, [.long (r.1 ^^^ (lL b.toInt64 q)), .long r.2]))] := hD
    refine lv_goto (tgt := 35) hx hb dX1_add_19 (by decide) ?_
    have hP : va_P D vwCl [(h0, .inr (1, [.long ((rg_add r q b).1), .long ((rg_add r q b).2)]))] H := by rw [rg_add, if_neg c_3_1]; exact hP
    have hD : va_D A [(h0, .inr (1, [.long ((rg_add r q b).1), .long ((rg_add r q b).2)]))] := by rw [rg_add, if_neg c_3_1]; exact hD
    exact ct_vret hx hb hr hlk hP hK hD hS dX1_add_35
set_option maxHeartbeats 4000000 in
set_option maxRecDepth 100000 in
/-- Cells.moveUp -/
theorem c_up (l : Launch) (D : va_G) (h0 : Nat) (r : R2) (f : Int32) : Ctv l D yX1_moveUp wsX1_moveUp ({ frames := 0, cells := 0, slots := 0, locals := 0 } : Room) [.ref h0, .int f] [] [(h0, .inr (1, [.long r.1, .long r.2]))] [(h0, .inr (1, [.long ((rg_up r f).1), .long ((rg_up r f).2)]))] := by
  refine ct_of (cc := cX1_moveUp) (maxL := 2) (ret := none) (by decide) rfl (Nat.le_of_ble_eq_true rfl) ?_
  intro p e s m below meth c A H locs ls hx hb hr hml hts hown hlk hnm hF hP hK hD hA hS hl
  have hown : s.vm.findClass RX1 = some m.cls := hown
  have hl : lv_has ls 2 [(0, .ref h0), (1, .int f)] := hl
  have hf_15 := hts (.fieldLink RX1 15 "BitStreams$Cells" "high" "J") (by decide +kernel)
  have hi_X1 : ∀ w ∈ u_ws RX1 TX1 2, w ∈ wsX1_moveUp := by decide +kernel
  have hf_9 := hts (.fieldLink RX1 9 "BitStreams$Cells" "low" "J") (by decide +kernel)
  refine lv_aload_n hx hb dX1_moveUp_0 rfl (lv_at hl 0 rfl) ?_
  refine lv_aload_n hx hb dX1_moveUp_1 rfl (lv_at hl 0 rfl) ?_
  refine va_get (D := D) (ci := 1) (v := .long r.2) (C := RX1) (T := TX1) (N := 2) hx hb hts hi_X1 hown hK hP 0 rfl rfl 1 (by decide) hf_15 (fun _ h9 => h9) rfl dX1_moveUp_2 ?_
  refine lv_iconst (v := 1) hx hb dX1_moveUp_5 (by decide) ?_
  refine lv_lshl (v := lL r.2 1) hx hb dX1_moveUp_6 rfl ?_
  refine lv_aload_n hx hb dX1_moveUp_7 rfl (lv_at hl 0 rfl) ?_
  refine va_get (D := D) (ci := 1) (v := .long r.1) (C := RX1) (T := TX1) (N := 2) hx hb hts hi_X1 hown hK hP 0 rfl rfl 0 (by decide) hf_9 (fun _ h9 => h9) rfl dX1_moveUp_8 ?_
  refine lv_bipush (v := 63) hx hb dX1_moveUp_11 (by decide) ?_
  refine lv_lushr (v := lU r.1 63) hx hb dX1_moveUp_13 rfl ?_
  refine lv_lor hx hb dX1_moveUp_14 ?_
  refine va_put (D := D) (ci := 1) (v := .long ((lL r.2 1) ||| (lU r.1 63))) (ty := .long) (C := RX1) (T := TX1) (N := 2) hx hb hts hi_X1 tyX1 tyX1_ok nmX1 hown hK hP hD hS 0 rfl rfl 1 (by decide) hf_15 (fun _ h9 => h9) rfl (by decide +kernel) rfl rfl (Nat.le_of_ble_eq_true rfl) dX1_moveUp_15 (fun H locs hP hD hS => ?_)
  have hP : va_P D vwCl [(h0, .inr (1, [.long r.1, .long ((lL r.2 1) ||| (lU r.1 63))]))] H := hP
  have hD : va_D A [(h0, .inr (1, [.long r.1, .long ((lL r.2 1) ||| (lU r.1 63))]))] := hD
  refine lv_aload_n hx hb dX1_moveUp_18 rfl (lv_at hl 0 rfl) ?_
  refine lv_aload_n hx hb dX1_moveUp_19 rfl (lv_at hl 0 rfl) ?_
  refine va_get (D := D) (ci := 1) (v := .long r.1) (C := RX1) (T := TX1) (N := 2) hx hb hts hi_X1 hown hK hP 0 rfl rfl 0 (by decide) hf_9 (fun _ h9 => h9) rfl dX1_moveUp_20 ?_
  refine lv_iconst (v := 1) hx hb dX1_moveUp_23 (by decide) ?_
  refine lv_lshl (v := lL r.1 1) hx hb dX1_moveUp_24 rfl ?_
  refine lv_iload_n hx hb dX1_moveUp_25 rfl (lv_at hl 1 rfl) ?_
  refine lv_i2l hx hb dX1_moveUp_26 rfl ?_
  refine lv_lor hx hb dX1_moveUp_27 ?_
  refine va_put (D := D) (ci := 1) (v := .long ((lL r.1 1) ||| f.toInt64)) (ty := .long) (C := RX1) (T := TX1) (N := 2) hx hb hts hi_X1 tyX1 tyX1_ok nmX1 hown hK hP hD hS 0 rfl rfl 0 (by decide) hf_9 (fun _ h9 => h9) rfl (by decide +kernel) rfl rfl (Nat.le_of_ble_eq_true rfl) dX1_moveUp_28 (fun H locs hP hD hS => ?_)
  have hP : va_P D vwCl [(h0, .inr (1, [.long ((lL r.1 1) ||| f.toInt64), .long ((lL r.2 1) ||| (lU r.1 63))]))] H := hP
  have hD : va_D A [(h0, .inr (1, [.long ((lL r.1 1) ||| f.toInt64), .long ((lL r.2 1) ||| (lU r.1 63))]))] := hD
  exact ct_vret hx hb hr hlk hP hK hD hS dX1_moveUp_31
set_option maxHeartbeats 4000000 in
set_option maxRecDepth 100000 in
/-- Cells.moveDown -/
theorem c_dn (l : Launch) (D : va_G) (h0 : Nat) (r : R2) (f : Int32) : Ctv l D yX1_moveDown wsX1_moveDown ({ frames := 0, cells := 0, slots := 0, locals := 0 } : Room) [.ref h0, .int f] [] [(h0, .inr (1, [.long r.1, .long r.2]))] [(h0, .inr (1, [.long ((rg_dn r f).1), .long ((rg_dn r f).2)]))] := by
  refine ct_of (cc := cX1_moveDown) (maxL := 2) (ret := none) (by decide) rfl (Nat.le_of_ble_eq_true rfl) ?_
  intro p e s m below meth c A H locs ls hx hb hr hml hts hown hlk hnm hF hP hK hD hA hS hl
  have hown : s.vm.findClass RX1 = some m.cls := hown
  have hl : lv_has ls 2 [(0, .ref h0), (1, .int f)] := hl
  have hf_9 := hts (.fieldLink RX1 9 "BitStreams$Cells" "low" "J") (by decide +kernel)
  have hi_X1 : ∀ w ∈ u_ws RX1 TX1 2, w ∈ wsX1_moveDown := by decide +kernel
  have hf_15 := hts (.fieldLink RX1 15 "BitStreams$Cells" "high" "J") (by decide +kernel)
  refine lv_aload_n hx hb dX1_moveDown_0 rfl (lv_at hl 0 rfl) ?_
  refine lv_aload_n hx hb dX1_moveDown_1 rfl (lv_at hl 0 rfl) ?_
  refine va_get (D := D) (ci := 1) (v := .long r.1) (C := RX1) (T := TX1) (N := 2) hx hb hts hi_X1 hown hK hP 0 rfl rfl 0 (by decide) hf_9 (fun _ h9 => h9) rfl dX1_moveDown_2 ?_
  refine lv_iconst (v := 1) hx hb dX1_moveDown_5 (by decide) ?_
  refine lv_lushr (v := lU r.1 1) hx hb dX1_moveDown_6 rfl ?_
  refine lv_aload_n hx hb dX1_moveDown_7 rfl (lv_at hl 0 rfl) ?_
  refine va_get (D := D) (ci := 1) (v := .long r.2) (C := RX1) (T := TX1) (N := 2) hx hb hts hi_X1 hown hK hP 0 rfl rfl 1 (by decide) hf_15 (fun _ h9 => h9) rfl dX1_moveDown_8 ?_
  refine lv_bipush (v := 63) hx hb dX1_moveDown_11 (by decide) ?_
  refine lv_lshl (v := lL r.2 63) hx hb dX1_moveDown_13 rfl ?_
  refine lv_lor hx hb dX1_moveDown_14 ?_
  refine va_put (D := D) (ci := 1) (v := .long ((lU r.1 1) ||| (lL r.2 63))) (ty := .long) (C := RX1) (T := TX1) (N := 2) hx hb hts hi_X1 tyX1 tyX1_ok nmX1 hown hK hP hD hS 0 rfl rfl 0 (by decide) hf_9 (fun _ h9 => h9) rfl (by decide +kernel) rfl rfl (Nat.le_of_ble_eq_true rfl) dX1_moveDown_15 (fun H locs hP hD hS => ?_)
  have hP : va_P D vwCl [(h0, .inr (1, [.long ((lU r.1 1) ||| (lL r.2 63)), .long r.2]))] H := hP
  have hD : va_D A [(h0, .inr (1, [.long ((lU r.1 1) ||| (lL r.2 63)), .long r.2]))] := hD
  refine lv_aload_n hx hb dX1_moveDown_18 rfl (lv_at hl 0 rfl) ?_
  refine lv_aload_n hx hb dX1_moveDown_19 rfl (lv_at hl 0 rfl) ?_
  refine va_get (D := D) (ci := 1) (v := .long r.2) (C := RX1) (T := TX1) (N := 2) hx hb hts hi_X1 hown hK hP 0 rfl rfl 1 (by decide) hf_15 (fun _ h9 => h9) rfl dX1_moveDown_20 ?_
  refine lv_iconst (v := 1) hx hb dX1_moveDown_23 (by decide) ?_
  refine lv_lushr (v := lU r.2 1) hx hb dX1_moveDown_24 rfl ?_
  refine lv_iload_n hx hb dX1_moveDown_25 rfl (lv_at hl 1 rfl) ?_
  refine lv_i2l hx hb dX1_moveDown_26 rfl ?_
  refine lv_bipush (v := 63) hx hb dX1_moveDown_27 (by decide) ?_
  refine lv_lshl (v := lL f.toInt64 63) hx hb dX1_moveDown_29 rfl ?_
  refine lv_lor hx hb dX1_moveDown_30 ?_
  refine va_put (D := D) (ci := 1) (v := .long ((lU r.2 1) ||| (lL f.toInt64 63))) (ty := .long) (C := RX1) (T := TX1) (N := 2) hx hb hts hi_X1 tyX1 tyX1_ok nmX1 hown hK hP hD hS 0 rfl rfl 1 (by decide) hf_15 (fun _ h9 => h9) rfl (by decide +kernel) rfl rfl (Nat.le_of_ble_eq_true rfl) dX1_moveDown_31 (fun H locs hP hD hS => ?_)
  have hP : va_P D vwCl [(h0, .inr (1, [.long ((lU r.1 1) ||| (lL r.2 63)), .long ((lU r.2 1) ||| (lL f.toInt64 63))]))] H := hP
  have hD : va_D A [(h0, .inr (1, [.long ((lU r.1 1) ||| (lL r.2 63)), .long ((lU r.2 1) ||| (lL f.toInt64 63))]))] := hD
  exact ct_vret hx hb hr hlk hP hK hD hS dX1_moveDown_34
set_option maxHeartbeats 4000000 in
set_option maxRecDepth 100000 in
/-- Cells.clear -/
theorem c_clr (l : Launch) (D : va_G) (h0 : Nat) (r : R2) : Ctv l D yX1_clear wsX1_clear ({ frames := 0, cells := 0, slots := 0, locals := 0 } : Room) [.ref h0] [] [(h0, .inr (1, [.long r.1, .long r.2]))] [(h0, .inr (1, [.long rg_0.1, .long rg_0.2]))] := by
  refine ct_of (cc := cX1_clear) (maxL := 1) (ret := none) (by decide) rfl (Nat.le_of_ble_eq_true rfl) ?_
  intro p e s m below meth c A H locs ls hx hb hr hml hts hown hlk hnm hF hP hK hD hA hS hl
  have hown : s.vm.findClass RX1 = some m.cls := hown
  have hl : lv_has ls 1 [(0, .ref h0)] := hl
  have hf_9 := hts (.fieldLink RX1 9 "BitStreams$Cells" "low" "J") (by decide +kernel)
  have hi_X1 : ∀ w ∈ u_ws RX1 TX1 2, w ∈ wsX1_clear := by decide +kernel
  have hf_15 := hts (.fieldLink RX1 15 "BitStreams$Cells" "high" "J") (by decide +kernel)
  refine lv_aload_n hx hb dX1_clear_0 rfl (lv_at hl 0 rfl) ?_
  refine lv_lconst (v := 0) hx hb dX1_clear_1 (by decide) ?_
  refine va_put (D := D) (ci := 1) (v := .long 0) (ty := .long) (C := RX1) (T := TX1) (N := 2) hx hb hts hi_X1 tyX1 tyX1_ok nmX1 hown hK hP hD hS 0 rfl rfl 0 (by decide) hf_9 (fun _ h9 => h9) rfl (by decide +kernel) rfl rfl (Nat.le_of_ble_eq_true rfl) dX1_clear_2 (fun H locs hP hD hS => ?_)
  have hP : va_P D vwCl [(h0, .inr (1, [.long 0, .long r.2]))] H := hP
  have hD : va_D A [(h0, .inr (1, [.long 0, .long r.2]))] := hD
  refine lv_aload_n hx hb dX1_clear_5 rfl (lv_at hl 0 rfl) ?_
  refine lv_lconst (v := 0) hx hb dX1_clear_6 (by decide) ?_
  refine va_put (D := D) (ci := 1) (v := .long 0) (ty := .long) (C := RX1) (T := TX1) (N := 2) hx hb hts hi_X1 tyX1 tyX1_ok nmX1 hown hK hP hD hS 0 rfl rfl 1 (by decide) hf_15 (fun _ h9 => h9) rfl (by decide +kernel) rfl rfl (Nat.le_of_ble_eq_true rfl) dX1_clear_7 (fun H locs hP hD hS => ?_)
  have hP : va_P D vwCl [(h0, .inr (1, [.long 0, .long 0]))] H := hP
  have hD : va_D A [(h0, .inr (1, [.long 0, .long 0]))] := hD
  exact ct_vret hx hb hr hlk hP hK hD hS dX1_clear_10
