/-- machine 3: a row of 256 numbers -/
def ex_ix (x : Int32) : Nat := (x &&& 255).toNatClampNeg
def ex_sw (f : Nat → Int32) (x y : Int32) : Nat → Int32 := upd (upd f (ex_ix x) (f (ex_ix y))) (ex_ix y) (f (ex_ix x))
theorem ex_in (x : Int32) : vp_in (x &&& 255) 256 := pk_andIn x 8 (by decide) (by decide)
abbrev X3 : Type := (Nat → Int32) × Int32 × Int32
def ex_i (σ : X3) : Int32 := (σ.2.1 + 1) &&& 255
def ex_j (σ : X3) : Int32 := (σ.2.2 + σ.1 (ex_i σ).toNatClampNeg) &&& 255
def ex_f (σ : X3) : Nat → Int32 := ex_sw σ.1 (ex_i σ) (ex_j σ)
def ex_byte (σ : X3) : Int32 := ex_f σ ((ex_f σ (ex_i σ).toNatClampNeg + ex_f σ (ex_j σ).toNatClampNeg) &&& 255).toNatClampNeg
def ex_stepB (σ : X3) : X3 := (ex_f σ, ex_i σ, ex_j σ)
abbrev X5 : Type := X3 × Int32 × Int32
/-- ahead of a bit: a new byte, where none is left -/
def ex_need (τ : X5) : X5 := if τ.2.2 = 0 then (ex_stepB τ.1, ex_byte τ.1, 8) else τ
def ex_step (τ : X5) : X5 := ((ex_need τ).1, (ex_need τ).2.1, (ex_need τ).2.2 - 1)
def ex_out (τ : X5) : Int32 := (ex_need τ).2.1 >>> (((ex_need τ).2.2 - 1) &&& 31) &&& 1
set_option maxHeartbeats 4000000 in
set_option maxRecDepth 100000 in
/-- Exchanges.exchange -/
theorem c_ex_sw (l : Launch) (D : va_G) (h0 q : Nat) (kR : ClassId) (f : Nat → Int32) (i j gb bl x y : Int32) : Ctv l D yX2_exchange wsX2_exchange ({ frames := 0, cells := 0, slots := 0, locals := 0 } : Room) [.ref h0, .int x, .int y] [(kR, .int)] [(h0, .inr (2, [.ref q, .int i, .int j, .int gb, .int bl])), (q, .inl (kR, 256, .inl f))] [(h0, .inr (2, [.ref q, .int i, .int j, .int gb, .int bl])), (q, .inl (kR, 256, .inl (ex_sw f x y)))] := by
  refine ct_of (cc := cX2_exchange) (maxL := 4) (ret := none) (by decide) rfl (Nat.le_of_ble_eq_true rfl) ?_
  intro p e s m below meth c A H locs ls hx hb hr hml hts hown hlk hnm hF hP hK hD hA hS hl
  have hown : s.vm.findClass RX2 = some m.cls := hown
  have hl : lv_has ls 4 [(0, .ref h0), (1, .int x), (2, .int y)] := hl
  have hf_11 := hts (.fieldLink RX2 11 "BitStreams$Exchanges" "row" "[I") (by decide +kernel)
  have hi_X2 : ∀ w ∈ u_ws RX2 TX2 5, w ∈ wsX2_exchange := by decide +kernel
  refine lv_aload_n hx hb dX2_exchange_0 rfl (lv_at hl 0 rfl) ?_
  refine va_get (D := D) (ci := 2) (v := .ref q) (C := RX2) (T := TX2) (N := 5) hx hb hts hi_X2 hown hK hP 0 rfl rfl 0 (by decide) hf_11 (fun _ h9 => h9) rfl dX2_exchange_1 ?_
  refine lv_iload_n hx hb dX2_exchange_4 rfl (lv_at hl 1 rfl) ?_
  refine lv_sipush (v := 255) hx hb dX2_exchange_5 (by decide) ?_
  refine lv_iand hx hb dX2_exchange_8 ?_
  refine va_iald hx hb hK hP 1 0 rfl rfl (ex_in _) dX2_exchange_9 ?_
  refine lv_istore_n (lv' := [(3, .int (f (x &&& 255).toNatClampNeg)), (0, .ref h0), (1, .int x), (2, .int y)]) hx hb dX2_exchange_10 rfl hl (by decide) rfl (fun ls hl => ?_)
  refine lv_aload_n hx hb dX2_exchange_11 rfl (lv_at hl 1 rfl) ?_
  refine va_get (D := D) (ci := 2) (v := .ref q) (C := RX2) (T := TX2) (N := 5) hx hb hts hi_X2 hown hK hP 0 rfl rfl 0 (by decide) hf_11 (fun _ h9 => h9) rfl dX2_exchange_12 ?_
  refine lv_iload_n hx hb dX2_exchange_15 rfl (lv_at hl 2 rfl) ?_
  refine lv_sipush (v := 255) hx hb dX2_exchange_16 (by decide) ?_
  refine lv_iand hx hb dX2_exchange_19 ?_
  refine lv_aload_n hx hb dX2_exchange_20 rfl (lv_at hl 1 rfl) ?_
  refine va_get (D := D) (ci := 2) (v := .ref q) (C := RX2) (T := TX2) (N := 5) hx hb hts hi_X2 hown hK hP 0 rfl rfl 0 (by decide) hf_11 (fun _ h9 => h9) rfl dX2_exchange_21 ?_
  refine lv_iload_n hx hb dX2_exchange_24 rfl (lv_at hl 3 rfl) ?_
  refine lv_sipush (v := 255) hx hb dX2_exchange_25 (by decide) ?_
  refine lv_iand hx hb dX2_exchange_28 ?_
  refine va_iald hx hb hK hP 1 0 rfl rfl (ex_in _) dX2_exchange_29 ?_
  refine va_iast hx hb hK hP hD hS 1 0 rfl rfl (ex_in _) dX2_exchange_30 (fun H locs hP hD hS => ?_)
  have hP : va_P D vwCl [(h0, .inr (2, [.ref q, .int i, .int j, .int gb, .int bl])), (q, .inl (kR, 256, .inl (upd f (x &&& 255).toNatClampNeg (f (y &&& 255).toNatClampNeg))))] H := hP
  have hD : va_D A [(h0, .inr (2, [.ref q, .int i, .int j, .int gb, .int bl])), (q, .inl (kR, 256, .inl (upd f (x &&& 255).toNatClampNeg (f (y &&& 255).toNatClampNeg))))] := hD
  refine lv_aload_n hx hb dX2_exchange_31 rfl (lv_at hl 1 rfl) ?_
  refine va_get (D := D) (ci := 2) (v := .ref q) (C := RX2) (T := TX2) (N := 5) hx hb hts hi_X2 hown hK hP 0 rfl rfl 0 (by decide) hf_11 (fun _ h9 => h9) rfl dX2_exchange_32 ?_
  refine lv_iload_n hx hb dX2_exchange_35 rfl (lv_at hl 3 rfl) ?_
  refine lv_sipush (v := 255) hx hb dX2_exchange_36 (by decide) ?_
  refine lv_iand hx hb dX2_exchange_39 ?_
  refine lv_iload_n hx hb dX2_exchange_40 rfl (lv_at hl 0 rfl) ?_
  refine va_iast hx hb hK hP hD hS 1 0 rfl rfl (ex_in _) dX2_exchange_41 (fun H locs hP hD hS => ?_)
  have hP : va_P D vwCl [(h0, .inr (2, [.ref q, .int i, .int j, .int gb, .int bl])), (q, .inl (kR, 256, .inl (upd (upd f (x &&& 255).toNatClampNeg (f (y &&& 255).toNatClampNeg)) (y &&& 255).toNatClampNeg (f (x &&& 255).toNatClampNeg))))] H := hP
  have hD : va_D A [(h0, .inr (2, [.ref q, .int i, .int j, .int gb, .int bl])), (q, .inl (kR, 256, .inl (upd (upd f (x &&& 255).toNatClampNeg (f (y &&& 255).toNatClampNeg)) (y &&& 255).toNatClampNeg (f (x &&& 255).toNatClampNeg))))] := hD
  exact ct_vret hx hb hr hlk hP hK hD hS dX2_exchange_42
set_option maxHeartbeats 4000000 in
set_option maxRecDepth 100000 in
/-- Exchanges.nextByte -/
theorem c_ex_byte (l : Launch) (D : va_G) (h0 q : Nat) (kR : ClassId) (σ : X3) (gb bl : Int32) : Cti l D yX2_nextByte wsX2_nextByte ({ frames := 1, cells := 0, slots := 0, locals := 23 } : Room) [.ref h0] [(kR, .int)] [(h0, .inr (2, [.ref q, .int σ.2.1, .int σ.2.2, .int gb, .int bl])), (q, .inl (kR, 256, .inl σ.1))] [(h0, .inr (2, [.ref q, .int ((ex_stepB σ).2.1), .int ((ex_stepB σ).2.2), .int gb, .int bl])), (q, .inl (kR, 256, .inl ((ex_stepB σ).1)))] (ex_byte σ) := by
  refine ct_of (cc := cX2_nextByte) (maxL := 1) (ret := (some .int)) (by decide) rfl (Nat.le_of_ble_eq_true rfl) ?_
  intro p e s m below meth c A H locs ls hx hb hr hml hts hown hlk hnm hF hP hK hD hA hS hl
  have hown : s.vm.findClass RX2 = some m.cls := hown
  have hl : lv_has ls 1 [(0, .ref h0)] := hl
  have hf_15 := hts (.fieldLink RX2 15 "BitStreams$Exchanges" "i" "I") (by decide +kernel)
  have hi_X2 : ∀ w ∈ u_ws RX2 TX2 5, w ∈ wsX2_nextByte := by decide +kernel
  have hf_19 := hts (.fieldLink RX2 19 "BitStreams$Exchanges" "j" "I") (by decide +kernel)
  have hf_11 := hts (.fieldLink RX2 11 "BitStreams$Exchanges" "row" "[I") (by decide +kernel)
  have cw_X2_exchange := cwV (R := ({ frames := 1, cells := 0, slots := 0, locals := 23 } : Room)) (rm := ({ frames := 0, cells := 0, slots := 0, locals := 0 } : Room)) 2 hts gX2_nextByte_X2_exchange rfl rfl rfl (by decide +kernel) ⟨Nat.le_of_ble_eq_true rfl, Nat.le_of_ble_eq_true rfl⟩
  refine lv_aload_n hx hb dX2_nextByte_0 rfl (lv_at hl 0 rfl) ?_
  refine lv_aload_n hx hb dX2_nextByte_1 rfl (lv_at hl 0 rfl) ?_
  refine va_get (D := D) (ci := 2) (v := .int σ.2.1) (C := RX2) (T := TX2) (N := 5) hx hb hts hi_X2 hown hK hP 0 rfl rfl 1 (by decide) hf_15 (fun _ h9 => h9) rfl dX2_nextByte_2 ?_
  refine lv_iconst (v := 1) hx hb dX2_nextByte_5 (by decide) ?_
  refine lv_iadd hx hb dX2_nextByte_6 ?_
  refine lv_sipush (v := 255) hx hb dX2_nextByte_7 (by decide) ?_
  refine lv_iand hx hb dX2_nextByte_10 ?_
  refine ct_topi (y := ex_i σ) rfl ?_
  refine va_put (D := D) (ci := 2) (v := .int (ex_i σ)) (ty := .int) (C := RX2) (T := TX2) (N := 5) hx hb hts hi_X2 tyX2 tyX2_ok nmX2 hown hK hP hD hS 0 rfl rfl 1 (by decide) hf_15 (fun _ h9 => h9) rfl (by decide +kernel) rfl rfl (Nat.le_of_ble_eq_true rfl) dX2_nextByte_11 (fun H locs hP hD hS => ?_)
  have hP : va_P D vwCl [(h0, .inr (2, [.ref q, .int (ex_i σ), .int σ.2.2, .int gb, .int bl])), (q, .inl (kR, 256, .inl σ.1))] H := hP
  have hD : va_D A [(h0, .inr (2, [.ref q, .int (ex_i σ), .int σ.2.2, .int gb, .int bl])), (q, .inl (kR, 256, .inl σ.1))] := hD
  refine lv_aload_n hx hb dX2_nextByte_14 rfl (lv_at hl 0 rfl) ?_
  refine lv_aload_n hx hb dX2_nextByte_15 rfl (lv_at hl 0 rfl) ?_
  refine va_get (D := D) (ci := 2) (v := .int σ.2.2) (C := RX2) (T := TX2) (N := 5) hx hb hts hi_X2 hown hK hP 0 rfl rfl 2 (by decide) hf_19 (fun _ h9 => h9) rfl dX2_nextByte_16 ?_
  refine lv_aload_n hx hb dX2_nextByte_19 rfl (lv_at hl 0 rfl) ?_
  refine va_get (D := D) (ci := 2) (v := .ref q) (C := RX2) (T := TX2) (N := 5) hx hb hts hi_X2 hown hK hP 0 rfl rfl 0 (by decide) hf_11 (fun _ h9 => h9) rfl dX2_nextByte_20 ?_
  refine lv_aload_n hx hb dX2_nextByte_23 rfl (lv_at hl 0 rfl) ?_
  refine va_get (D := D) (ci := 2) (v := .int (ex_i σ)) (C := RX2) (T := TX2) (N := 5) hx hb hts hi_X2 hown hK hP 0 rfl rfl 1 (by decide) hf_15 (fun _ h9 => h9) rfl dX2_nextByte_24 ?_
  refine va_iald hx hb hK hP 1 0 rfl rfl (ex_in _) dX2_nextByte_27 ?_
  refine lv_iadd hx hb dX2_nextByte_28 ?_
  refine lv_sipush (v := 255) hx hb dX2_nextByte_29 (by decide) ?_
  refine lv_iand hx hb dX2_nextByte_32 ?_
  refine ct_topi (y := ex_j σ) rfl ?_
  refine va_put (D := D) (ci := 2) (v := .int (ex_j σ)) (ty := .int) (C := RX2) (T := TX2) (N := 5) hx hb hts hi_X2 tyX2 tyX2_ok nmX2 hown hK hP hD hS 0 rfl rfl 2 (by decide) hf_19 (fun _ h9 => h9) rfl (by decide +kernel) rfl rfl (Nat.le_of_ble_eq_true rfl) dX2_nextByte_33 (fun H locs hP hD hS => ?_)
  have hP : va_P D vwCl [(h0, .inr (2, [.ref q, .int (ex_i σ), .int (ex_j σ), .int gb, .int bl])), (q, .inl (kR, 256, .inl σ.1))] H := hP
  have hD : va_D A [(h0, .inr (2, [.ref q, .int (ex_i σ), .int (ex_j σ), .int gb, .int bl])), (q, .inl (kR, 256, .inl σ.1))] := hD
  refine lv_aload_n hx hb dX2_nextByte_36 rfl (lv_at hl 0 rfl) ?_
  refine lv_aload_n hx hb dX2_nextByte_37 rfl (lv_at hl 0 rfl) ?_
  refine va_get (D := D) (ci := 2) (v := .int (ex_i σ)) (C := RX2) (T := TX2) (N := 5) hx hb hts hi_X2 hown hK hP 0 rfl rfl 1 (by decide) hf_15 (fun _ h9 => h9) rfl dX2_nextByte_38 ?_
  refine lv_aload_n hx hb dX2_nextByte_41 rfl (lv_at hl 0 rfl) ?_
  refine va_get (D := D) (ci := 2) (v := .int (ex_j σ)) (C := RX2) (T := TX2) (N := 5) hx hb hts hi_X2 hown hK hP 0 rfl rfl 2 (by decide) hf_19 (fun _ h9 => h9) rfl dX2_nextByte_42 ?_
  refine ct_callVv (As := [.int (ex_i σ), .int (ex_j σ)]) (rest := []) (wr := []) (ws2 := [(h0, .inr (2, [.ref q, .int (ex_i σ), .int (ex_j σ), .int gb, .int bl])), (q, .inl (kR, 256, .inl (ex_sw σ.1 (ex_i σ) (ex_j σ))))]) ⟨hx, hb, hml, hown, hts⟩ (c_ex_sw l D h0 q kR σ.1 (ex_i σ) (ex_j σ) gb bl (ex_i σ) (ex_j σ)) cw_X2_exchange [0] rfl [0, 1] [] [0, 1] hF hK hP hD hS hA 0 2 rfl rfl rfl rfl (by decide) rfl (by decide) (by decide) rfl (by decide) rfl hl.1 rfl (Nat.le_of_ble_eq_true rfl) dX2_nextByte_45 ⟨Nat.zero_le _, Nat.zero_le _⟩ (fun H locs hP hD hS => ?_)
  refine lv_aload_n hx hb dX2_nextByte_48 rfl (lv_at hl 0 rfl) ?_
  refine va_get (D := D) (ci := 2) (v := .ref q) (C := RX2) (T := TX2) (N := 5) hx hb hts hi_X2 hown hK hP 0 rfl rfl 0 (by decide) hf_11 (fun _ h9 => h9) rfl dX2_nextByte_49 ?_
  refine lv_aload_n hx hb dX2_nextByte_52 rfl (lv_at hl 0 rfl) ?_
  refine va_get (D := D) (ci := 2) (v := .ref q) (C := RX2) (T := TX2) (N := 5) hx hb hts hi_X2 hown hK hP 0 rfl rfl 0 (by decide) hf_11 (fun _ h9 => h9) rfl dX2_nextByte_53 ?_
  refine lv_aload_n hx hb dX2_nextByte_56 rfl (lv_at hl 0 rfl) ?_
  refine va_get (D := D) (ci := 2) (v := .int (ex_i σ)) (C := RX2) (T := TX2) (N := 5) hx hb hts hi_X2 hown hK hP 0 rfl rfl 1 (by decide) hf_15 (fun _ h9 => h9) rfl dX2_nextByte_57 ?_
  refine va_iald hx hb hK hP 1 0 rfl rfl (ex_in _) dX2_nextByte_60 ?_
  refine lv_aload_n hx hb dX2_nextByte_61 rfl (lv_at hl 0 rfl) ?_
  refine va_get (D := D) (ci := 2) (v := .ref q) (C := RX2) (T := TX2) (N := 5) hx hb hts hi_X2 hown hK hP 0 rfl rfl 0 (by decide) hf_11 (fun _ h9 => h9) rfl dX2_nextByte_62 ?_
  refine lv_aload_n hx hb dX2_nextByte_65 rfl (lv_at hl 0 rfl) ?_
  refine va_get (D := D) (ci := 2) (v := .int (ex_j σ)) (C := RX2) (T := TX2) (N := 5) hx hb hts hi_X2 hown hK hP 0 rfl rfl 2 (by decide) hf_19 (fun _ h9 => h9) rfl dX2_nextByte_66 ?_
  refine va_iald hx hb hK hP 1 0 rfl rfl (ex_in _) dX2_nextByte_69 ?_
  refine lv_iadd hx hb dX2_nextByte_70 ?_
  refine lv_sipush (v := 255) hx hb dX2_nextByte_71 (by decide) ?_
  refine lv_iand hx hb dX2_nextByte_74 ?_
  refine va_iald hx hb hK hP 1 0 rfl rfl (ex_in _) dX2_nextByte_75 ?_
  exact ct_zret hx hb hr hlk hP hK hD hS rfl rfl dX2_nextByte_76
set_option maxHeartbeats 4000000 in
set_option maxRecDepth 100000 in
/-- Exchanges.nextBit -/
theorem c_ex_next (l : Launch) (D : va_G) (h0 q : Nat) (kR : ClassId) (τ : X5) : Cti l D yX2_nextBit wsX2_nextBit ({ frames := 2, cells := 0, slots := 0, locals := 43 } : Room) [.ref h0] [(kR, .int)] [(h0, .inr (2, [.ref q, .int τ.1.2.1, .int τ.1.2.2, .int τ.2.1, .int τ.2.2])), (q, .inl (kR, 256, .inl τ.1.1))] [(h0, .inr (2, [.ref q, .int ((ex_step τ).1.2.1), .int ((ex_step τ).1.2.2), .int ((ex_step τ).2.1), .int ((ex_step τ).2.2)])), (q, .inl (kR, 256, .inl ((ex_step τ).1.1)))] (ex_out τ) := by
  refine ct_of (cc := cX2_nextBit) (maxL := 1) (ret := (some .int)) (by decide) rfl (Nat.le_of_ble_eq_true rfl) ?_
  intro p e s m below meth c A H locs ls hx hb hr hml hts hown hlk hnm hF hP hK hD hA hS hl
  have hown : s.vm.findClass RX2 = some m.cls := hown
  have hl : lv_has ls 1 [(0, .ref h0)] := hl
  have hf_25 := hts (.fieldLink RX2 25 "BitStreams$Exchanges" "bitsLeft" "I") (by decide +kernel)
  have hi_X2 : ∀ w ∈ u_ws RX2 TX2 5, w ∈ wsX2_nextBit := by decide +kernel
  have hf_22 := hts (.fieldLink RX2 22 "BitStreams$Exchanges" "givenByte" "I") (by decide +kernel)
  have cw_X2_nextByte := cwV (R := ({ frames := 2, cells := 0, slots := 0, locals := 43 } : Room)) (rm := ({ frames := 1, cells := 0, slots := 0, locals := 23 } : Room)) 0 hts gX2_nextBit_X2_nextByte rfl rfl rfl (by decide +kernel) ⟨Nat.le_of_ble_eq_true rfl, Nat.le_of_ble_eq_true rfl⟩
  refine lv_aload_n hx hb dX2_nextBit_0 rfl (lv_at hl 0 rfl) ?_
  refine va_get (D := D) (ci := 2) (v := .int τ.2.2) (C := RX2) (T := TX2) (N := 5) hx hb hts hi_X2 hown hK hP 0 rfl rfl 4 (by decide) hf_25 (fun _ h9 => h9) rfl dX2_nextBit_1 ?_
  refine lv_if_ne (tgt := 21) hx hb dX2_nextBit_4 (by decide) (fun c_4_1 => ?_) (fun c_4_1 => ?_)
  · have hP : va_P D vwCl [(h0, .inr (2, [.ref q, .int ((ex_need τ).1.2.1), .int ((ex_need τ).1.2.2), .int ((ex_need τ).2.1), .int ((ex_need τ).2.2)])), (q, .inl (kR, 256, .inl ((ex_need τ).1.1)))] H := by rw [ex_need, if_neg c_4_1]; exact hP
    have hD : va_D A [(h0, .inr (2, [.ref q, .int ((ex_need τ).1.2.1), .int ((ex_need τ).1.2.2), .int ((ex_need τ).2.1), .int ((ex_need τ).2.2)])), (q, .inl (kR, 256, .inl ((ex_need τ).1.1)))] := by rw [ex_need, if_neg c_4_1]; exact hD
    refine lv_aload_n hx hb dX2_nextBit_21 rfl (lv_at hl 0 rfl) ?_
    refine lv_dup hx hb dX2_nextBit_22 rfl ?_
    refine va_get (D := D) (ci := 2) (v := .int ((ex_need τ).2.2)) (C := RX2) (T := TX2) (N := 5) hx hb hts hi_X2 hown hK hP 0 rfl rfl 4 (by decide) hf_25 (fun _ h9 => h9) rfl dX2_nextBit_23 ?_
    refine lv_iconst (v := 1) hx hb dX2_nextBit_26 (by decide) ?_
    refine lv_isub hx hb dX2_nextBit_27 ?_
    refine va_put (D := D) (ci := 2) (v := .int (((ex_need τ).2.2) - 1)) (ty := .int) (C := RX2) (T := TX2) (N := 5) hx hb hts hi_X2 tyX2 tyX2_ok nmX2 hown hK hP hD hS 0 rfl rfl 4 (by decide) hf_25 (fun _ h9 => h9) rfl (by decide +kernel) rfl rfl (Nat.le_of_ble_eq_true rfl) dX2_nextBit_28 (fun H locs hP hD hS => ?_)
    have hP : va_P D vwCl [(h0, .inr (2, [.ref q, .int ((ex_need τ).1.2.1), .int ((ex_need τ).1.2.2), .int ((ex_need τ).2.1), .int (((ex_need τ).2.2) - 1)])), (q, .inl (kR, 256, .inl ((ex_need τ).1.1)))] H := hP
    have hD : va_D A [(h0, .inr (2, [.ref q, .int ((ex_need τ).1.2.1), .int ((ex_need τ).1.2.2), .int ((ex_need τ).2.1), .int (((ex_need τ).2.2) - 1)])), (q, .inl (kR, 256, .inl ((ex_need τ).1.1)))] := hD
    refine lv_aload_n hx hb dX2_nextBit_31 rfl (lv_at hl 0 rfl) ?_
    refine va_get (D := D) (ci := 2) (v := .int ((ex_need τ).2.1)) (C := RX2) (T := TX2) (N := 5) hx hb hts hi_X2 hown hK hP 0 rfl rfl 3 (by decide) hf_22 (fun _ h9 => h9) rfl dX2_nextBit_32 ?_
    refine lv_aload_n hx hb dX2_nextBit_35 rfl (lv_at hl 0 rfl) ?_
    refine va_get (D := D) (ci := 2) (v := .int (((ex_need τ).2.2) - 1)) (C := RX2) (T := TX2) (N := 5) hx hb hts hi_X2 hown hK hP 0 rfl rfl 4 (by decide) hf_25 (fun _ h9 => h9) rfl dX2_nextBit_36 ?_
    refine lv_ishr hx hb dX2_nextBit_39 ?_
    refine lv_iconst (v := 1) hx hb dX2_nextBit_40 (by decide) ?_
    refine lv_iand hx hb dX2_nextBit_41 ?_
    exact ct_zret hx hb hr hlk hP hK hD hS rfl rfl dX2_nextBit_42
  · refine lv_aload_n hx hb dX2_nextBit_7 rfl (lv_at hl 0 rfl) ?_
    refine lv_aload_n hx hb dX2_nextBit_8 rfl (lv_at hl 0 rfl) ?_
    refine ct_callVi (As := []) (rest := [.ref h0]) (wr := []) (ws2 := [(h0, .inr (2, [.ref q, .int ((ex_stepB τ.1).2.1), .int ((ex_stepB τ.1).2.2), .int τ.2.1, .int τ.2.2])), (q, .inl (kR, 256, .inl ((ex_stepB τ.1).1)))]) ⟨hx, hb, hml, hown, hts⟩ (c_ex_byte l D h0 q kR τ.1 τ.2.1 τ.2.2) cw_X2_nextByte [0] rfl [0, 1] [] [0, 1] hF hK hP hD hS hA 0 2 rfl rfl rfl rfl (by decide) rfl (by decide) (by decide) rfl (by decide) rfl hl.1 rfl (Nat.le_of_ble_eq_true rfl) dX2_nextBit_9 ⟨Nat.zero_le _, Nat.zero_le _⟩ (fun H locs hP hD hS => ?_)
    refine va_put (D := D) (ci := 2) (v := .int (ex_byte τ.1)) (ty := .int) (C := RX2) (T := TX2) (N := 5) hx hb hts hi_X2 tyX2 tyX2_ok nmX2 hown hK hP hD hS 0 rfl rfl 3 (by decide) hf_22 (fun _ h9 => h9) rfl (by decide +kernel) rfl rfl (Nat.le_of_ble_eq_true rfl) dX2_nextBit_12 (fun H locs hP hD hS => ?_)
    have hP : va_P D vwCl [(h0, .inr (2, [.ref q, .int ((ex_stepB τ.1).2.1), .int ((ex_stepB τ.1).2.2), .int (ex_byte τ.1), .int τ.2.2])), (q, .inl (kR, 256, .inl ((ex_stepB τ.1).1)))] H := hP
    have hD : va_D A [(h0, .inr (2, [.ref q, .int ((ex_stepB τ.1).2.1), .int ((ex_stepB τ.1).2.2), .int (ex_byte τ.1), .int τ.2.2])), (q, .inl (kR, 256, .inl ((ex_stepB τ.1).1)))] := hD
    refine lv_aload_n hx hb dX2_nextBit_15 rfl (lv_at hl 0 rfl) ?_
    refine lv_bipush (v := 8) hx hb dX2_nextBit_16 (by decide) ?_
    refine va_put (D := D) (ci := 2) (v := .int 8) (ty := .int) (C := RX2) (T := TX2) (N := 5) hx hb hts hi_X2 tyX2 tyX2_ok nmX2 hown hK hP hD hS 0 rfl rfl 4 (by decide) hf_25 (fun _ h9 => h9) rfl (by decide +kernel) rfl rfl (Nat.le_of_ble_eq_true rfl) dX2_nextBit_18 (fun H locs hP hD hS => ?_)
    have hP : va_P D vwCl [(h0, .inr (2, [.ref q, .int ((ex_stepB τ.1).2.1), .int ((ex_stepB τ.1).2.2), .int (ex_byte τ.1), .int 8])), (q, .inl (kR, 256, .inl ((ex_stepB τ.1).1)))] H := hP
    have hD : va_D A [(h0, .inr (2, [.ref q, .int ((ex_stepB τ.1).2.1), .int ((ex_stepB τ.1).2.2), .int (ex_byte τ.1), .int 8])), (q, .inl (kR, 256, .inl ((ex_stepB τ.1).1)))] := hD
    have hP : va_P D vwCl [(h0, .inr (2, [.ref q, .int ((ex_need τ).1.2.1), .int ((ex_need τ).1.2.2), .int ((ex_need τ).2.1), .int ((ex_need τ).2.2)])), (q, .inl (kR, 256, .inl ((ex_need τ).1.1)))] H := by rw [ex_need, if_pos c_4_1]; exact hP
    have hD : va_D A [(h0, .inr (2, [.ref q, .int ((ex_need τ).1.2.1), .int ((ex_need τ).1.2.2), .int ((ex_need τ).2.1), .int ((ex_need τ).2.2)])), (q, .inl (kR, 256, .inl ((ex_need τ).1.1)))] := by rw [ex_need, if_pos c_4_1]; exact hD
    refine lv_aload_n hx hb dX2_nextBit_21 rfl (lv_at hl 0 rfl) ?_
    refine lv_dup hx hb dX2_nextBit_22 rfl ?_
    refine va_get (D := D) (ci := 2) (v := .int ((ex_need τ).2.2)) (C := RX2) (T := TX2) (N := 5) hx hb hts hi_X2 hown hK hP 0 rfl rfl 4 (by decide) hf_25 (fun _ h9 => h9) rfl dX2_nextBit_23 ?_
    refine lv_iconst (v := 1) hx hb dX2_nextBit_26 (by decide) ?_
    refine lv_isub hx hb dX2_nextBit_27 ?_
    refine va_put (D := D) (ci := 2) (v := .int (((ex_need τ).2.2) - 1)) (ty := .int) (C := RX2) (T := TX2) (N := 5) hx hb hts hi_X2 tyX2 tyX2_ok nmX2 hown hK hP hD hS 0 rfl rfl 4 (by decide) hf_25 (fun _ h9 => h9) rfl (by decide +kernel) rfl rfl (Nat.le_of_ble_eq_true rfl) dX2_nextBit_28 (fun H locs hP hD hS => ?_)
    have hP : va_P D vwCl [(h0, .inr (2, [.ref q, .int ((ex_need τ).1.2.1), .int ((ex_need τ).1.2.2), .int ((ex_need τ).2.1), .int (((ex_need τ).2.2) - 1)])), (q, .inl (kR, 256, .inl ((ex_need τ).1.1)))] H := hP
    have hD : va_D A [(h0, .inr (2, [.ref q, .int ((ex_need τ).1.2.1), .int ((ex_need τ).1.2.2), .int ((ex_need τ).2.1), .int (((ex_need τ).2.2) - 1)])), (q, .inl (kR, 256, .inl ((ex_need τ).1.1)))] := hD
    refine lv_aload_n hx hb dX2_nextBit_31 rfl (lv_at hl 0 rfl) ?_
    refine va_get (D := D) (ci := 2) (v := .int ((ex_need τ).2.1)) (C := RX2) (T := TX2) (N := 5) hx hb hts hi_X2 hown hK hP 0 rfl rfl 3 (by decide) hf_22 (fun _ h9 => h9) rfl dX2_nextBit_32 ?_
    refine lv_aload_n hx hb dX2_nextBit_35 rfl (lv_at hl 0 rfl) ?_
    refine va_get (D := D) (ci := 2) (v := .int (((ex_need τ).2.2) - 1)) (C := RX2) (T := TX2) (N := 5) hx hb hts hi_X2 hown hK hP 0 rfl rfl 4 (by decide) hf_25 (fun _ h9 => h9) rfl dX2_nextBit_36 ?_
    refine lv_ishr hx hb dX2_nextBit_39 ?_
    refine lv_iconst (v := 1) hx hb dX2_nextBit_40 (by decide) ?_
    refine lv_iand hx hb dX2_nextBit_41 ?_
    exact ct_zret hx hb hr hlk hP hK hD hS rfl rfl dX2_nextBit_42
/-- what Exchanges.load makes -/
def ex_id (f : Nat → Int32) : Nat → Nat → Int32
  | 0 => f
  | k + 1 => upd (ex_id f k) k (nI k)
def ex_o (σ : X3) (g : Nat → Int32) (z : Int32) (k : Nat) : Int32 := (σ.2.1 + σ.1 k + by_at g z σ.2.2) &&& 255
def ex_kp (z x : Int32) : Int32 := if z ≤ x + 1 then 0 else x + 1
def ex_l2 (f : Nat → Int32) (g : Nat → Int32) (z : Int32) : Nat → X3
  | 0 => (f, 0, 0)
  | k + 1 => (ex_sw (ex_l2 f g z k).1 (nI k) (ex_o (ex_l2 f g z k) g z k), ex_o (ex_l2 f g z k) g z k, ex_kp z (ex_l2 f g z k).2.2)
def ex_load (g : Nat → Int32) (z : Int32) (τ : X5) : X5 := (((ex_l2 (ex_id τ.1.1 256) g z 256).1, 0, 0), τ.2.1, 0)
set_option maxHeartbeats 4000000 in
set_option maxRecDepth 100000 in
/-- Exchanges.load -/
theorem c_ex_load (l : Launch) (D : va_G) (h0 q : Nat) (kR : ClassId) (kb kq sb sq : Nat) (kA sA : ClassId) (kN kz sN sz : Nat) (hkz : kz ≤ kN) (hkN : kN < 2 ^ 31) (hsz : sz ≤ sN) (hsN : sN < 2 ^ 31) (f g : Nat → Int32) (τ : X5) : Ctv l D yX2_load wsX2_load ({ frames := 1, cells := 0, slots := 0, locals := 23 } : Room) [.ref h0, .ref kb, .ref sb] [(kA, .int), (sA, .int), (kR, .int)] [(h0, .inr (2, [.ref q, .int τ.1.2.1, .int τ.1.2.2, .int τ.2.1, .int τ.2.2])), (q, .inl (kR, 256, .inl τ.1.1)), (kb, .inr (0, [.ref kq, .int (nI kz)])), (kq, .inl (kA, kN, .inl f)), (sb, .inr (0, [.ref sq, .int (nI sz)])), (sq, .inl (sA, sN, .inl g))] [(h0, .inr (2, [.ref q, .int ((ex_load f (nI kz) τ).1.2.1), .int ((ex_load f (nI kz) τ).1.2.2), .int ((ex_load f (nI kz) τ).2.1), .int ((ex_load f (nI kz) τ).2.2)])), (q, .inl (kR, 256, .inl ((ex_load f (nI kz) τ).1.1))), (kb, .inr (0, [.ref kq, .int (nI kz)])), (kq, .inl (kA, kN, .inl f)), (sb, .inr (0, [.ref sq, .int (nI sz)])), (sq, .inl (sA, sN, .inl g))] := by
  refine ct_of (cc := cX2_load) (maxL := 6) (ret := none) (by decide) rfl (Nat.le_of_ble_eq_true rfl) ?_
  intro p e s m below meth c A H locs ls hx hb hr hml hts hown hlk hnm hF hP hK hD hA hS hl
  have hown : s.vm.findClass RX2 = some m.cls := hown
  have hl : lv_has ls 6 [(0, .ref h0), (1, .ref kb), (2, .ref sb)] := hl
  have hf_11 := hts (.fieldLink RX2 11 "BitStreams$Exchanges" "row" "[I") (by decide +kernel)
  have hi_X2 : ∀ w ∈ u_ws RX2 TX2 5, w ∈ wsX2_load := by decide +kernel
  have cw_X0_at := cwV (R := ({ frames := 1, cells := 0, slots := 0, locals := 23 } : Room)) (rm := ({ frames := 0, cells := 0, slots := 0, locals := 0 } : Room)) 1 hts gX2_load_X0_at rfl rfl rfl (by decide +kernel) ⟨Nat.le_of_ble_eq_true rfl, Nat.le_of_ble_eq_true rfl⟩
  have cw_X2_exchange := cwV (R := ({ frames := 1, cells := 0, slots := 0, locals := 23 } : Room)) (rm := ({ frames := 0, cells := 0, slots := 0, locals := 0 } : Room)) 2 hts gX2_load_X2_exchange rfl rfl rfl (by decide +kernel) ⟨Nat.le_of_ble_eq_true rfl, Nat.le_of_ble_eq_true rfl⟩
  have cw_X0_size := cwV (R := ({ frames := 1, cells := 0, slots := 0, locals := 23 } : Room)) (rm := ({ frames := 0, cells := 0, slots := 0, locals := 0 } : Room)) 0 hts gX2_load_X0_size rfl rfl rfl (by decide +kernel) ⟨Nat.le_of_ble_eq_true rfl, Nat.le_of_ble_eq_true rfl⟩
  have hf_15 := hts (.fieldLink RX2 15 "BitStreams$Exchanges" "i" "I") (by decide +kernel)
  have hf_19 := hts (.fieldLink RX2 19 "BitStreams$Exchanges" "j" "I") (by decide +kernel)
  have hf_25 := hts (.fieldLink RX2 25 "BitStreams$Exchanges" "bitsLeft" "I") (by decide +kernel)
  refine lv_iconst (v := 0) hx hb dX2_load_0 (by decide) ?_
  refine lv_istore_n (lv' := [(3, .int 0), (0, .ref h0), (1, .ref kb), (2, .ref sb)]) hx hb dX2_load_1 rfl hl (by decide) rfl (fun ls hl => ?_)
  refine ct_count 256 (fun k : Nat => [(h0, .inr (2, [.ref q, .int τ.1.2.1, .int τ.1.2.2, .int τ.2.1, .int τ.2.2])), (q, .inl (kR, 256, .inl (ex_id τ.1.1 k))), (kb, .inr (0, [.ref kq, .int (nI kz)])), (kq, .inl (kA, kN, .inl f)), (sb, .inr (0, [.ref sq, .int (nI sz)])), (sq, .inl (sA, sN, .inl g))]) (fun k : Nat => [(3, .int (nI k)), (0, .ref h0), (1, .ref kb)]) ?_ ?_ 0 (by decide) hP hD hS (lv_sub hl [0, 1, 2] rfl)
  · intro k hk ih2 H locs ls hP hD hS hl
    have hP : va_P D vwCl [(h0, .inr (2, [.ref q, .int τ.1.2.1, .int τ.1.2.2, .int τ.2.1, .int τ.2.2])), (q, .inl (kR, 256, .inl (ex_id τ.1.1 k))), (kb, .inr (0, [.ref kq, .int (nI kz)])), (kq, .inl (kA, kN, .inl f)), (sb, .inr (0, [.ref sq, .int (nI sz)])), (sq, .inl (sA, sN, .inl g))] H := hP
    have hD : va_D A [(h0, .inr (2, [.ref q, .int τ.1.2.1, .int τ.1.2.2, .int τ.2.1, .int τ.2.2])), (q, .inl (kR, 256, .inl (ex_id τ.1.1 k))), (kb, .inr (0, [.ref kq, .int (nI kz)])), (kq, .inl (kA, kN, .inl f)), (sb, .inr (0, [.ref sq, .int (nI sz)])), (sq, .inl (sA, sN, .inl g))] := hD
    have hl : lv_has ls 6 [(3, .int (nI k)), (0, .ref h0), (1, .ref kb)] := hl
    refine lv_iload_n hx hb dX2_load_2 rfl (lv_at hl 0 rfl) ?_
    refine lv_sipush (v := 256) hx hb dX2_load_3 (by decide) ?_
    refine lv_icmp_ge (tgt := 22) hx hb dX2_load_6 (by decide) (fun hh => absurd hh (nI_ge (b := 256) hk (by decide))) (fun _ => ?_)
    refine lv_aload_n hx hb dX2_load_9 rfl (lv_at hl 1 rfl) ?_
    refine va_get (D := D) (ci := 2) (v := .ref q) (C := RX2) (T := TX2) (N := 5) hx hb hts hi_X2 hown hK hP 0 rfl rfl 0 (by decide) hf_11 (fun _ h9 => h9) rfl dX2_load_10 ?_
    refine lv_iload_n hx hb dX2_load_13 rfl (lv_at hl 0 rfl) ?_
    refine lv_iload_n hx hb dX2_load_14 rfl (lv_at hl 0 rfl) ?_
    refine va_iast hx hb hK hP hD hS 1 2 rfl rfl (vp_in_nI hk (by decide)) dX2_load_15 (fun H locs hP hD hS => ?_)
    have hP : va_P D vwCl [(h0, .inr (2, [.ref q, .int τ.1.2.1, .int τ.1.2.2, .int τ.2.1, .int τ.2.2])), (q, .inl (kR, 256, .inl (upd (ex_id τ.1.1 k) (nI k).toNatClampNeg (nI k)))), (kb, .inr (0, [.ref kq, .int (nI kz)])), (kq, .inl (kA, kN, .inl f)), (sb, .inr (0, [.ref sq, .int (nI sz)])), (sq, .inl (sA, sN, .inl g))] H := hP
    have hD : va_D A [(h0, .inr (2, [.ref q, .int τ.1.2.1, .int τ.1.2.2, .int τ.2.1, .int τ.2.2])), (q, .inl (kR, 256, .inl (upd (ex_id τ.1.1 k) (nI k).toNatClampNeg (nI k)))), (kb, .inr (0, [.ref kq, .int (nI kz)])), (kq, .inl (kA, kN, .inl f)), (sb, .inr (0, [.ref sq, .int (nI sz)])), (sq, .inl (sA, sN, .inl g))] := hD
    rw [show upd (ex_id τ.1.1 k) (nI k).toNatClampNeg (nI k) = upd (ex_id τ.1.1 k) k (nI k) from by rw [nI_clamp (by omega)]] at hP hD
    refine lv_iinc (v := nI (k + 1)) (lv' := [(3, .int (nI (k + 1))), (0, .ref h0), (1, .ref kb)]) hx hb dX2_load_16 hl (k := 0) rfl (ct_inc k) (by decide) rfl (fun ls hl => ?_)
    refine lv_goto (tgt := 2) hx hb dX2_load_19 (by decide) ?_
    exact ih2 H locs ls hP hD hS (lv_sub hl [0, 1, 2] rfl)
  · intro H locs ls hP hD hS hl
    have hP : va_P D vwCl [(h0, .inr (2, [.ref q, .int τ.1.2.1, .int τ.1.2.2, .int τ.2.1, .int τ.2.2])), (q, .inl (kR, 256, .inl (ex_id τ.1.1 256))), (kb, .inr (0, [.ref kq, .int (nI kz)])), (kq, .inl (kA, kN, .inl f)), (sb, .inr (0, [.ref sq, .int (nI sz)])), (sq, .inl (sA, sN, .inl g))] H := hP
    have hD : va_D A [(h0, .inr (2, [.ref q, .int τ.1.2.1, .int τ.1.2.2, .int τ.2.1, .int τ.2.2])), (q, .inl (kR, 256, .inl (ex_id τ.1.1 256))), (kb, .inr (0, [.ref kq, .int (nI kz)])), (kq, .inl (kA, kN, .inl f)), (sb, .inr (0, [.ref sq, .int (nI sz)])), (sq, .inl (sA, sN, .inl g))] := hD
    have hl : lv_has ls 6 [(3, .int (nI 256)), (0, .ref h0), (1, .ref kb)] := hl
    refine lv_iload_n hx hb dX2_load_2 rfl (lv_at hl 0 rfl) ?_
    refine lv_sipush (v := 256) hx hb dX2_load_3 (by decide) ?_
    refine lv_icmp_ge (tgt := 22) hx hb dX2_load_6 (by decide) (fun _ => ?_) (fun hh => absurd (Int32.le_refl _) hh)
    refine lv_iconst (v := 0) hx hb dX2_load_22 (by decide) ?_
    refine lv_istore_n (lv' := [(3, .int 0), (0, .ref h0), (1, .ref kb)]) hx hb dX2_load_23 rfl hl (by decide) rfl (fun ls hl => ?_)
    refine lv_iconst (v := 0) hx hb dX2_load_24 (by decide) ?_
    refine lv_istore (lv' := [(4, .int 0), (3, .int 0), (0, .ref h0), (1, .ref kb)]) hx hb dX2_load_25 hl (by decide) rfl (fun ls hl => ?_)
    refine lv_iconst (v := 0) hx hb dX2_load_27 (by decide) ?_
    refine lv_istore (lv' := [(5, .int 0), (4, .int 0), (3, .int 0), (0, .ref h0), (1, .ref kb)]) hx hb dX2_load_28 hl (by decide) rfl (fun ls hl => ?_)
    refine ct_count 256 (fun k : Nat => [(h0, .inr (2, [.ref q, .int τ.1.2.1, .int τ.1.2.2, .int τ.2.1, .int τ.2.2])), (q, .inl (kR, 256, .inl ((ex_l2 (ex_id τ.1.1 256) f (nI kz) k).1))), (kb, .inr (0, [.ref kq, .int (nI kz)])), (kq, .inl (kA, kN, .inl f)), (sb, .inr (0, [.ref sq, .int (nI sz)])), (sq, .inl (sA, sN, .inl g))]) (fun k : Nat => [(5, .int (nI k)), (4, .int ((ex_l2 (ex_id τ.1.1 256) f (nI kz) k).2.2)), (3, .int ((ex_l2 (ex_id τ.1.1 256) f (nI kz) k).2.1)), (0, .ref h0), (1, .ref kb)]) ?_ ?_ 0 (by decide) hP hD hS (lv_sub hl [0, 1, 2, 3, 4] rfl)
    · intro k hk ih30 H locs ls hP hD hS hl
      have hP : va_P D vwCl [(h0, .inr (2, [.ref q, .int τ.1.2.1, .int τ.1.2.2, .int τ.2.1, .int τ.2.2])), (q, .inl (kR, 256, .inl ((ex_l2 (ex_id τ.1.1 256) f (nI kz) k).1))), (kb, .inr (0, [.ref kq, .int (nI kz)])), (kq, .inl (kA, kN, .inl f)), (sb, .inr (0, [.ref sq, .int (nI sz)])), (sq, .inl (sA, sN, .inl g))] H := hP
      have hD : va_D A [(h0, .inr (2, [.ref q, .int τ.1.2.1, .int τ.1.2.2, .int τ.2.1, .int τ.2.2])), (q, .inl (kR, 256, .inl ((ex_l2 (ex_id τ.1.1 256) f (nI kz) k).1))), (kb, .inr (0, [.ref kq, .int (nI kz)])), (kq, .inl (kA, kN, .inl f)), (sb, .inr (0, [.ref sq, .int (nI sz)])), (sq, .inl (sA, sN, .inl g))] := hD
      have hl : lv_has ls 6 [(5, .int (nI k)), (4, .int ((ex_l2 (ex_id τ.1.1 256) f (nI kz) k).2.2)), (3, .int ((ex_l2 (ex_id τ.1.1 256) f (nI kz) k).2.1)), (0, .ref h0), (1, .ref kb)] := hl
      refine lv_iload hx hb dX2_load_30 (lv_at hl 0 rfl) ?_
      refine lv_sipush (v := 256) hx hb dX2_load_32 (by decide) ?_
      refine lv_icmp_ge (tgt := 93) hx hb dX2_load_35 (by decide) (fun hh => absurd hh (nI_ge (b := 256) hk (by decide))) (fun _ => ?_)
      refine lv_iload_n hx hb dX2_load_38 rfl (lv_at hl 2 rfl) ?_
      refine lv_aload_n hx hb dX2_load_39 rfl (lv_at hl 3 rfl) ?_
      refine va_get (D := D) (ci := 2) (v := .ref q) (C := RX2) (T := TX2) (N := 5) hx hb hts hi_X2 hown hK hP 0 rfl rfl 0 (by decide) hf_11 (fun _ h9 => h9) rfl dX2_load_40 ?_
      refine lv_iload hx hb dX2_load_43 (lv_at hl 0 rfl) ?_
      refine va_iald hx hb hK hP 1 2 rfl rfl (vp_in_nI hk (by decide)) dX2_load_45 ?_
      refine ct_topi (y := (ex_l2 (ex_id τ.1.1 256) f (nI kz) k).1 k) (by rw [nI_clamp (by omega)]) ?_
      refine lv_iadd hx hb dX2_load_46 ?_
      refine lv_aload_n hx hb dX2_load_47 rfl (lv_at hl 4 rfl) ?_
      refine lv_iload hx hb dX2_load_48 (lv_at hl 1 rfl) ?_
      refine ct_callVi (As := [.int ((ex_l2 (ex_id τ.1.1 256) f (nI kz) k).2.2)]) (rest := [.int (((ex_l2 (ex_id τ.1.1 256) f (nI kz) k).2.1) + ((ex_l2 (ex_id τ.1.1 256) f (nI kz) k).1 k))]) (wr := [(h0, .inr (2, [.ref q, .int τ.1.2.1, .int τ.1.2.2, .int τ.2.1, .int τ.2.2])), (q, .inl (kR, 256, .inl ((ex_l2 (ex_id τ.1.1 256) f (nI kz) k).1))), (sb, .inr (0, [.ref sq, .int (nI sz)])), (sq, .inl (sA, sN, .inl g))]) (ws2 := [(h0, .inr (2, [.ref q, .int τ.1.2.1, .int τ.1.2.2, .int τ.2.1, .int τ.2.2])), (q, .inl (kR, 256, .inl ((ex_l2 (ex_id τ.1.1 256) f (nI kz) k).1))), (kb, .inr (0, [.ref kq, .int (nI kz)])), (kq, .inl (kA, kN, .inl f)), (sb, .inr (0, [.ref sq, .int (nI sz)])), (sq, .inl (sA, sN, .inl g))]) ⟨hx, hb, hml, hown, hts⟩ (c_by_at l D kb kq kA kN kz hkz hkN f ((ex_l2 (ex_id τ.1.1 256) f (nI kz) k).2.2)) cw_X0_at [0] rfl [2, 3] [0, 1, 4, 5] [0, 1, 4, 5, 2, 3] hF hK hP hD hS hA 0 0 rfl rfl rfl rfl (by decide) rfl (by decide) (by decide) rfl (by decide) rfl hl.1 rfl (Nat.le_of_ble_eq_true rfl) dX2_load_50 ⟨Nat.zero_le _, Nat.zero_le _⟩ (fun H locs hP hD hS => ?_)
      refine lv_iadd hx hb dX2_load_53 ?_
      refine lv_sipush (v := 255) hx hb dX2_load_54 (by decide) ?_
      refine lv_iand hx hb dX2_load_57 ?_
      refine ct_topi (y := ex_o (ex_l2 (ex_id τ.1.1 256) f (nI kz) k) f (nI kz) k) rfl ?_
      refine lv_istore_n (lv' := [(3, .int (ex_o (ex_l2 (ex_id τ.1.1 256) f (nI kz) k) f (nI kz) k)), (5, .int (nI k)), (4, .int ((ex_l2 (ex_id τ.1.1 256) f (nI kz) k).2.2)), (0, .ref h0), (1, .ref kb)]) hx hb dX2_load_58 rfl hl (by decide) rfl (fun ls hl => ?_)
      refine lv_aload_n hx hb dX2_load_59 rfl (lv_at hl 3 rfl) ?_
      refine lv_iload hx hb dX2_load_60 (lv_at hl 1 rfl) ?_
      refine lv_iload_n hx hb dX2_load_62 rfl (lv_at hl 0 rfl) ?_
      refine ct_callVv (As := [.int (nI k), .int (ex_o (ex_l2 (ex_id τ.1.1 256) f (nI kz) k) f (nI kz) k)]) (rest := []) (wr := [(kb, .inr (0, [.ref kq, .int (nI kz)])), (kq, .inl (kA, kN, .inl f)), (sb, .inr (0, [.ref sq, .int (nI sz)])), (sq, .inl (sA, sN, .inl g))]) (ws2 := [(h0, .inr (2, [.ref q, .int τ.1.2.1, .int τ.1.2.2, .int τ.2.1, .int τ.2.2])), (q, .inl (kR, 256, .inl (ex_sw ((ex_l2 (ex_id τ.1.1 256) f (nI kz) k).1) (nI k) (ex_o (ex_l2 (ex_id τ.1.1 256) f (nI kz) k) f (nI kz) k)))), (kb, .inr (0, [.ref kq, .int (nI kz)])), (kq, .inl (kA, kN, .inl f)), (sb, .inr (0, [.ref sq, .int (nI sz)])), (sq, .inl (sA, sN, .inl g))]) ⟨hx, hb, hml, hown, hts⟩ (c_ex_sw l D h0 q kR ((ex_l2 (ex_id τ.1.1 256) f (nI kz) k).1) τ.1.2.1 τ.1.2.2 τ.2.1 τ.2.2 (nI k) (ex_o (ex_l2 (ex_id τ.1.1 256) f (nI kz) k) f (nI kz) k)) cw_X2_exchange [2] rfl [0, 1] [2, 3, 4, 5] [4, 5, 0, 1, 2, 3] hF hK hP hD hS hA 0 2 rfl rfl rfl rfl (by decide) rfl (by decide) (by decide) rfl (by decide) rfl hl.1 rfl (Nat.le_of_ble_eq_true rfl) dX2_load_63 ⟨Nat.zero_le _, Nat.zero_le _⟩ (fun H locs hP hD hS => ?_)
      refine lv_iload hx hb dX2_load_66 (lv_at hl 2 rfl) ?_
      refine lv_iconst (v := 1) hx hb dX2_load_68 (by decide) ?_
      refine lv_iadd hx hb dX2_load_69 ?_
      refine lv_aload_n hx hb dX2_load_70 rfl (lv_at hl 4 rfl) ?_
      refine ct_callVi (As := []) (rest := [.int (((ex_l2 (ex_id τ.1.1 256) f (nI kz) k).2.2) + 1)]) (wr := [(h0, .inr (2, [.ref q, .int τ.1.2.1, .int τ.1.2.2, .int τ.2.1, .int τ.2.2])), (q, .inl (kR, 256, .inl (ex_sw ((ex_l2 (ex_id τ.1.1 256) f (nI kz) k).1) (nI k) (ex_o (ex_l2 (ex_id τ.1.1 256) f (nI kz) k) f (nI kz) k)))), (kq, .inl (kA, kN, .inl f)), (sb, .inr (0, [.ref sq, .int (nI sz)])), (sq, .inl (sA, sN, .inl g))]) (ws2 := [(h0, .inr (2, [.ref q, .int τ.1.2.1, .int τ.1.2.2, .int τ.2.1, .int τ.2.2])), (q, .inl (kR, 256, .inl (ex_sw ((ex_l2 (ex_id τ.1.1 256) f (nI kz) k).1) (nI k) (ex_o (ex_l2 (ex_id τ.1.1 256) f (nI kz) k) f (nI kz) k)))), (kb, .inr (0, [.ref kq, .int (nI kz)])), (kq, .inl (kA, kN, .inl f)), (sb, .inr (0, [.ref sq, .int (nI sz)])), (sq, .inl (sA, sN, .inl g))]) ⟨hx, hb, hml, hown, hts⟩ (c_by_size l D kb kq (nI kz)) cw_X0_size [] rfl [2] [0, 1, 3, 4, 5] [0, 1, 5, 2, 3, 4] hF hK hP hD hS hA 0 0 rfl rfl rfl rfl (by decide) rfl (by decide) (by decide) rfl (by decide) rfl hl.1 rfl (Nat.le_of_ble_eq_true rfl) dX2_load_71 ⟨Nat.zero_le _, Nat.zero_le _⟩ (fun H locs hP hD hS => ?_)
      refine lv_icmp_ge (tgt := 84) hx hb dX2_load_74 (by decide) (fun c_74_1 => ?_) (fun c_74_1 => ?_)
      · refine lv_iconst (v := 0) hx hb dX2_load_84 (by decide) ?_
        refine ct_topi (y := ex_kp (nI kz) (ex_l2 (ex_id τ.1.1 256) f (nI kz) k).2.2) (by rw [ex_kp, if_pos c_74_1]) ?_
        refine lv_istore (lv' := [(4, .int (ex_kp (nI kz) (ex_l2 (ex_id τ.1.1 256) f (nI kz) k).2.2)), (3, .int (ex_o (ex_l2 (ex_id τ.1.1 256) f (nI kz) k) f (nI kz) k)), (5, .int (nI k)), (0, .ref h0), (1, .ref kb)]) hx hb dX2_load_85 hl (by decide) rfl (fun ls hl => ?_)
        refine lv_iinc (v := nI (k + 1)) (lv' := [(5, .int (nI (k + 1))), (4, .int (ex_kp (nI kz) (ex_l2 (ex_id τ.1.1 256) f (nI kz) k).2.2)), (3, .int (ex_o (ex_l2 (ex_id τ.1.1 256) f (nI kz) k) f (nI kz) k)), (0, .ref h0), (1, .ref kb)]) hx hb dX2_load_87 hl (k := 2) rfl (ct_inc k) (by decide) rfl (fun ls hl => ?_)
        refine lv_goto (tgt := 30) hx hb dX2_load_90 (by decide) ?_
        exact ih30 H locs ls hP hD hS (lv_sub hl [0, 1, 2, 3, 4] rfl)
      · refine lv_iload hx hb dX2_load_77 (lv_at hl 2 rfl) ?_
        refine lv_iconst (v := 1) hx hb dX2_load_79 (by decide) ?_
        refine lv_iadd hx hb dX2_load_80 ?_
        refine lv_goto (tgt := 85) hx hb dX2_load_81 (by decide) ?_
        refine ct_topi (y := ex_kp (nI kz) (ex_l2 (ex_id τ.1.1 256) f (nI kz) k).2.2) (by rw [ex_kp, if_neg c_74_1]) ?_
        refine lv_istore (lv' := [(4, .int (ex_kp (nI kz) (ex_l2 (ex_id τ.1.1 256) f (nI kz) k).2.2)), (3, .int (ex_o (ex_l2 (ex_id τ.1.1 256) f (nI kz) k) f (nI kz) k)), (5, .int (nI k)), (0, .ref h0), (1, .ref kb)]) hx hb dX2_load_85 hl (by decide) rfl (fun ls hl => ?_)
        refine lv_iinc (v := nI (k + 1)) (lv' := [(5, .int (nI (k + 1))), (4, .int (ex_kp (nI kz) (ex_l2 (ex_id τ.1.1 256) f (nI kz) k).2.2)), (3, .int (ex_o (ex_l2 (ex_id τ.1.1 256) f (nI kz) k) f (nI kz) k)), (0, .ref h0), (1, .ref kb)]) hx hb dX2_load_87 hl (k := 2) rfl (ct_inc k) (by decide) rfl (fun ls hl => ?_)
        refine lv_goto (tgt := 30) hx hb dX2_load_90 (by decide) ?_
        exact ih30 H locs ls hP hD hS (lv_sub hl [0, 1, 2, 3, 4] rfl)
    · intro H locs ls hP hD hS hl
      have hP : va_P D vwCl [(h0, .inr (2, [.ref q, .int τ.1.2.1, .int τ.1.2.2, .int τ.2.1, .int τ.2.2])), (q, .inl (kR, 256, .inl ((ex_l2 (ex_id τ.1.1 256) f (nI kz) 256).1))), (kb, .inr (0, [.ref kq, .int (nI kz)])), (kq, .inl (kA, kN, .inl f)), (sb, .inr (0, [.ref sq, .int (nI sz)])), (sq, .inl (sA, sN, .inl g))] H := hP
      have hD : va_D A [(h0, .inr (2, [.ref q, .int τ.1.2.1, .int τ.1.2.2, .int τ.2.1, .int τ.2.2])), (q, .inl (kR, 256, .inl ((ex_l2 (ex_id τ.1.1 256) f (nI kz) 256).1))), (kb, .inr (0, [.ref kq, .int (nI kz)])), (kq, .inl (kA, kN, .inl f)), (sb, .inr (0, [.ref sq, .int (nI sz)])), (sq, .inl (sA, sN, .inl g))] := hD
      have hl : lv_has ls 6 [(5, .int (nI 256)), (4, .int ((ex_l2 (ex_id τ.1.1 256) f (nI kz) 256).2.2)), (3, .int ((ex_l2 (ex_id τ.1.1 256) f (nI kz) 256).2.1)), (0, .ref h0), (1, .ref kb)] := hl
      refine lv_iload hx hb dX2_load_30 (lv_at hl 0 rfl) ?_
      refine lv_sipush (v := 256) hx hb dX2_load_32 (by decide) ?_
      refine lv_icmp_ge (tgt := 93) hx hb dX2_load_35 (by decide) (fun _ => ?_) (fun hh => absurd (Int32.le_refl _) hh)
      refine lv_aload_n hx hb dX2_load_93 rfl (lv_at hl 3 rfl) ?_
      refine lv_iconst (v := 0) hx hb dX2_load_94 (by decide) ?_
      refine va_put (D := D) (ci := 2) (v := .int 0) (ty := .int) (C := RX2) (T := TX2) (N := 5) hx hb hts hi_X2 tyX2 tyX2_ok nmX2 hown hK hP hD hS 0 rfl rfl 1 (by decide) hf_15 (fun _ h9 => h9) rfl (by decide +kernel) rfl rfl (Nat.le_of_ble_eq_true rfl) dX2_load_95 (fun H locs hP hD hS => ?_)
      have hP : va_P D vwCl [(h0, .inr (2, [.ref q, .int 0, .int τ.1.2.2, .int τ.2.1, .int τ.2.2])), (q, .inl (kR, 256, .inl ((ex_l2 (ex_id τ.1.1 256) f (nI kz) 256).1))), (kb, .inr (0, [.ref kq, .int (nI kz)])), (kq, .inl (kA, kN, .inl f)), (sb, .inr (0, [.ref sq, .int (nI sz)])), (sq, .inl (sA, sN, .inl g))] H := hP
      have hD : va_D A [(h0, .inr (2, [.ref q, .int 0, .int τ.1.2.2, .int τ.2.1, .int τ.2.2])), (q, .inl (kR, 256, .inl ((ex_l2 (ex_id τ.1.1 256) f (nI kz) 256).1))), (kb, .inr (0, [.ref kq, .int (nI kz)])), (kq, .inl (kA, kN, .inl f)), (sb, .inr (0, [.ref sq, .int (nI sz)])), (sq, .inl (sA, sN, .inl g))] := hD
      refine lv_aload_n hx hb dX2_load_98 rfl (lv_at hl 3 rfl) ?_
      refine lv_iconst (v := 0) hx hb dX2_load_99 (by decide) ?_
      refine va_put (D := D) (ci := 2) (v := .int 0) (ty := .int) (C := RX2) (T := TX2) (N := 5) hx hb hts hi_X2 tyX2 tyX2_ok nmX2 hown hK hP hD hS 0 rfl rfl 2 (by decide) hf_19 (fun _ h9 => h9) rfl (by decide +kernel) rfl rfl (Nat.le_of_ble_eq_true rfl) dX2_load_100 (fun H locs hP hD hS => ?_)
      have hP : va_P D vwCl [(h0, .inr (2, [.ref q, .int 0, .int 0, .int τ.2.1, .int τ.2.2])), (q, .inl (kR, 256, .inl ((ex_l2 (ex_id τ.1.1 256) f (nI kz) 256).1))), (kb, .inr (0, [.ref kq, .int (nI kz)])), (kq, .inl (kA, kN, .inl f)), (sb, .inr (0, [.ref sq, .int (nI sz)])), (sq, .inl (sA, sN, .inl g))] H := hP
      have hD : va_D A [(h0, .inr (2, [.ref q, .int 0, .int 0, .int τ.2.1, .int τ.2.2])), (q, .inl (kR, 256, .inl ((ex_l2 (ex_id τ.1.1 256) f (nI kz) 256).1))), (kb, .inr (0, [.ref kq, .int (nI kz)])), (kq, .inl (kA, kN, .inl f)), (sb, .inr (0, [.ref sq, .int (nI sz)])), (sq, .inl (sA, sN, .inl g))] := hD
      refine lv_aload_n hx hb dX2_load_103 rfl (lv_at hl 3 rfl) ?_
      refine lv_iconst (v := 0) hx hb dX2_load_104 (by decide) ?_
      refine va_put (D := D) (ci := 2) (v := .int 0) (ty := .int) (C := RX2) (T := TX2) (N := 5) hx hb hts hi_X2 tyX2 tyX2_ok nmX2 hown hK hP hD hS 0 rfl rfl 4 (by decide) hf_25 (fun _ h9 => h9) rfl (by decide +kernel) rfl rfl (Nat.le_of_ble_eq_true rfl) dX2_load_105 (fun H locs hP hD hS => ?_)
      have hP : va_P D vwCl [(h0, .inr (2, [.ref q, .int 0, .int 0, .int τ.2.1, .int 0])), (q, .inl (kR, 256, .inl ((ex_l2 (ex_id τ.1.1 256) f (nI kz) 256).1))), (kb, .inr (0, [.ref kq, .int (nI kz)])), (kq, .inl (kA, kN, .inl f)), (sb, .inr (0, [.ref sq, .int (nI sz)])), (sq, .inl (sA, sN, .inl g))] H := hP
      have hD : va_D A [(h0, .inr (2, [.ref q, .int 0, .int 0, .int τ.2.1, .int 0])), (q, .inl (kR, 256, .inl ((ex_l2 (ex_id τ.1.1 256) f (nI kz) 256).1))), (kb, .inr (0, [.ref kq, .int (nI kz)])), (kq, .inl (kA, kN, .inl f)), (sb, .inr (0, [.ref sq, .int (nI sz)])), (sq, .inl (sA, sN, .inl g))] := hD
      exact ct_vret hx hb hr hlk hP hK hD hS dX2_load_108
