/-- the reference's row -/
theorem ex_vin {x : Int32} (h : vp_in x 256) : x &&& 255 = x := by
  obtain ⟨j, hj, rfl⟩ := vp_in_of h (by decide)
  rw [pk_andN (by omega) 8 (by decide)]
  congr 1
  omega
theorem ex_ixv {x : Int32} (h : vp_in x 256) : ex_ix x = x.toNatClampNeg := by rw [ex_ix, ex_vin h]
def md_kb (f : Nat → Int32) (k : Nat) : Int32 := f (k / 8) >>> ((7 - nI (k % 8)) &&& 31) &&& 1
def md_l2 (f : Nat → Int32) (g : Nat → Int32) (z : Nat) : Nat → (Nat → Int32) × Int32
  | 0 => (f, 0)
  | k + 1 => (ex_sw (md_l2 f g z k).1 (nI k) (((md_l2 f g z k).2 + (md_l2 f g z k).1 k + g (k % z)) &&& 255), ((md_l2 f g z k).2 + (md_l2 f g z k).1 k + g (k % z)) &&& 255)
set_option maxHeartbeats 4000000 in
set_option maxRecDepth 100000 in
/-- Model.exchange -/
theorem c_md_exch (l : Launch) (D : va_G) (h0 kq sq cq tq rq : Nat) (kz sz mc gv ri rj bn lf : Int32) (rA : ClassId) (f : Nat → Int32) (x y : Int32) (ha : vp_in x 256) (hb2 : vp_in y 256) : Ctv l D yX8_exchange wsX8_exchange ({ frames := 0, cells := 0, slots := 0, locals := 0 } : Room) [.ref h0, .int x, .int y] [(rA, .int)] [(h0, .inr (7, [.ref kq, .ref sq, .int kz, .int sz, .int mc, .int gv, .ref cq, .ref tq, .ref rq, .int ri, .int rj, .int bn, .int lf])), (rq, .inl (rA, 256, .inl f))] [(h0, .inr (7, [.ref kq, .ref sq, .int kz, .int sz, .int mc, .int gv, .ref cq, .ref tq, .ref rq, .int ri, .int rj, .int bn, .int lf])), (rq, .inl (rA, 256, .inl (ex_sw f x y)))] := by
  refine ct_of (cc := cX8_exchange) (maxL := 4) (ret := none) (by decide) rfl (Nat.le_of_ble_eq_true rfl) ?_
  intro p e s m below meth c A H locs ls hx hb hr hml hts hown hlk hnm hF hP hK hD hA hS hl
  have hown : s.vm.findClass RX8 = some m.cls := hown
  have hl : lv_has ls 4 [(0, .ref h0), (1, .int x), (2, .int y)] := hl
  have hf_26 := hts (.fieldLink RX8 26 "BitStreamsModel" "row" "[I") (by decide +kernel)
  have hi_X8 : ∀ w ∈ u_ws RX8 TX8 13, w ∈ wsX8_exchange := by decide +kernel
  refine lv_aload_n hx hb dX8_exchange_0 rfl (lv_at hl 0 rfl) ?_
  refine va_get (D := D) (ci := 7) (v := .ref rq) (C := RX8) (T := TX8) (N := 13) hx hb hts hi_X8 hown hK hP 0 rfl rfl 8 (by decide) hf_26 (fun _ h9 => h9) rfl dX8_exchange_1 ?_
  refine lv_iload_n hx hb dX8_exchange_4 rfl (lv_at hl 1 rfl) ?_
  refine va_iald hx hb hK hP 1 0 rfl rfl ha dX8_exchange_5 ?_
  refine lv_istore_n (lv' := [(3, .int (f x.toNatClampNeg)), (0, .ref h0), (1, .int x), (2, .int y)]) hx hb dX8_exchange_6 rfl hl (by decide) rfl (fun ls hl => ?_)
  refine lv_aload_n hx hb dX8_exchange_7 rfl (lv_at hl 1 rfl) ?_
  refine va_get (D := D) (ci := 7) (v := .ref rq) (C := RX8) (T := TX8) (N := 13) hx hb hts hi_X8 hown hK hP 0 rfl rfl 8 (by decide) hf_26 (fun _ h9 => h9) rfl dX8_exchange_8 ?_
  refine lv_iload_n hx hb dX8_exchange_11 rfl (lv_at hl 2 rfl) ?_
  refine lv_aload_n hx hb dX8_exchange_12 rfl (lv_at hl 1 rfl) ?_
  refine va_get (D := D) (ci := 7) (v := .ref rq) (C := RX8) (T := TX8) (N := 13) hx hb hts hi_X8 hown hK hP 0 rfl rfl 8 (by decide) hf_26 (fun _ h9 => h9) rfl dX8_exchange_13 ?_
  refine lv_iload_n hx hb dX8_exchange_16 rfl (lv_at hl 3 rfl) ?_
  refine va_iald hx hb hK hP 1 0 rfl rfl hb2 dX8_exchange_17 ?_
  refine va_iast hx hb hK hP hD hS 1 0 rfl rfl ha dX8_exchange_18 (fun H locs hP hD hS => ?_)
  have hP : va_P D vwCl [(h0, .inr (7, [.ref kq, .ref sq, .int kz, .int sz, .int mc, .int gv, .ref cq, .ref tq, .ref rq, .int ri, .int rj, .int bn, .int lf])), (rq, .inl (rA, 256, .inl (upd f x.toNatClampNeg (f y.toNatClampNeg))))] H := hP
  have hD : va_D A [(h0, .inr (7, [.ref kq, .ref sq, .int kz, .int sz, .int mc, .int gv, .ref cq, .ref tq, .ref rq, .int ri, .int rj, .int bn, .int lf])), (rq, .inl (rA, 256, .inl (upd f x.toNatClampNeg (f y.toNatClampNeg))))] := hD
  refine lv_aload_n hx hb dX8_exchange_19 rfl (lv_at hl 1 rfl) ?_
  refine va_get (D := D) (ci := 7) (v := .ref rq) (C := RX8) (T := TX8) (N := 13) hx hb hts hi_X8 hown hK hP 0 rfl rfl 8 (by decide) hf_26 (fun _ h9 => h9) rfl dX8_exchange_20 ?_
  refine lv_iload_n hx hb dX8_exchange_23 rfl (lv_at hl 3 rfl) ?_
  refine lv_iload_n hx hb dX8_exchange_24 rfl (lv_at hl 0 rfl) ?_
  refine va_iast hx hb hK hP hD hS 1 0 rfl rfl hb2 dX8_exchange_25 (fun H locs hP hD hS => ?_)
  have hP : va_P D vwCl [(h0, .inr (7, [.ref kq, .ref sq, .int kz, .int sz, .int mc, .int gv, .ref cq, .ref tq, .ref rq, .int ri, .int rj, .int bn, .int lf])), (rq, .inl (rA, 256, .inl (upd (upd f x.toNatClampNeg (f y.toNatClampNeg)) y.toNatClampNeg (f x.toNatClampNeg))))] H := hP
  have hD : va_D A [(h0, .inr (7, [.ref kq, .ref sq, .int kz, .int sz, .int mc, .int gv, .ref cq, .ref tq, .ref rq, .int ri, .int rj, .int bn, .int lf])), (rq, .inl (rA, 256, .inl (upd (upd f x.toNatClampNeg (f y.toNatClampNeg)) y.toNatClampNeg (f x.toNatClampNeg))))] := hD
  have hP : va_P D vwCl [(h0, .inr (7, [.ref kq, .ref sq, .int kz, .int sz, .int mc, .int gv, .ref cq, .ref tq, .ref rq, .int ri, .int rj, .int bn, .int lf])), (rq, .inl (rA, 256, .inl (ex_sw f x y)))] H := by rw [ex_sw, ex_ixv ha, ex_ixv hb2]; exact hP
  have hD : va_D A [(h0, .inr (7, [.ref kq, .ref sq, .int kz, .int sz, .int mc, .int gv, .ref cq, .ref tq, .ref rq, .int ri, .int rj, .int bn, .int lf])), (rq, .inl (rA, 256, .inl (ex_sw f x y)))] := by rw [ex_sw, ex_ixv ha, ex_ixv hb2]; exact hD
  exact ct_vret hx hb hr hlk hP hK hD hS dX8_exchange_26
set_option maxHeartbeats 4000000 in
set_option maxRecDepth 100000 in
/-- Model.stepByte -/
theorem c_md_byte (l : Launch) (D : va_G) (h0 kq sq cq tq rq : Nat) (kz sz mc gv bn lf : Int32) (rA : ClassId) (σ : X3) : Cti l D yX8_stepByte wsX8_stepByte ({ frames := 1, cells := 0, slots := 0, locals := 23 } : Room) [.ref h0] [(rA, .int)] [(h0, .inr (7, [.ref kq, .ref sq, .int kz, .int sz, .int mc, .int gv, .ref cq, .ref tq, .ref rq, .int σ.2.1, .int σ.2.2, .int bn, .int lf])), (rq, .inl (rA, 256, .inl σ.1))] [(h0, .inr (7, [.ref kq, .ref sq, .int kz, .int sz, .int mc, .int gv, .ref cq, .ref tq, .ref rq, .int ((ex_stepB σ).2.1), .int ((ex_stepB σ).2.2), .int bn, .int lf])), (rq, .inl (rA, 256, .inl ((ex_stepB σ).1)))] (ex_byte σ) := by
  refine ct_of (cc := cX8_stepByte) (maxL := 1) (ret := (some .int)) (by decide) rfl (Nat.le_of_ble_eq_true rfl) ?_
  intro p e s m below meth c A H locs ls hx hb hr hml hts hown hlk hnm hF hP hK hD hA hS hl
  have hown : s.vm.findClass RX8 = some m.cls := hown
  have hl : lv_has ls 1 [(0, .ref h0)] := hl
  have hf_66 := hts (.fieldLink RX8 66 "BitStreamsModel" "i" "I") (by decide +kernel)
  have hi_X8 : ∀ w ∈ u_ws RX8 TX8 13, w ∈ wsX8_stepByte := by decide +kernel
  have hf_69 := hts (.fieldLink RX8 69 "BitStreamsModel" "j" "I") (by decide +kernel)
  have hf_26 := hts (.fieldLink RX8 26 "BitStreamsModel" "row" "[I") (by decide +kernel)
  have cw_X8_exchange := cwV (R := ({ frames := 1, cells := 0, slots := 0, locals := 23 } : Room)) (rm := ({ frames := 0, cells := 0, slots := 0, locals := 0 } : Room)) 2 hts gX8_stepByte_X8_exchange rfl rfl rfl (by decide +kernel) ⟨Nat.le_of_ble_eq_true rfl, Nat.le_of_ble_eq_true rfl⟩
  refine lv_aload_n hx hb dX8_stepByte_0 rfl (lv_at hl 0 rfl) ?_
  refine lv_aload_n hx hb dX8_stepByte_1 rfl (lv_at hl 0 rfl) ?_
  refine va_get (D := D) (ci := 7) (v := .int σ.2.1) (C := RX8) (T := TX8) (N := 13) hx hb hts hi_X8 hown hK hP 0 rfl rfl 9 (by decide) hf_66 (fun _ h9 => h9) rfl dX8_stepByte_2 ?_
  refine lv_iconst (v := 1) hx hb dX8_stepByte_5 (by decide) ?_
  refine lv_iadd hx hb dX8_stepByte_6 ?_
  refine lv_sipush (v := 255) hx hb dX8_stepByte_7 (by decide) ?_
  refine lv_iand hx hb dX8_stepByte_10 ?_
  refine ct_topi (y := ex_i σ) rfl ?_
  refine va_put (D := D) (ci := 7) (v := .int (ex_i σ)) (ty := .int) (C := RX8) (T := TX8) (N := 13) hx hb hts hi_X8 tyX8 tyX8_ok nmX8 hown hK hP hD hS 0 rfl rfl 9 (by decide) hf_66 (fun _ h9 => h9) rfl (by decide +kernel) rfl rfl (Nat.le_of_ble_eq_true rfl) dX8_stepByte_11 (fun H locs hP hD hS => ?_)
  have hP : va_P D vwCl [(h0, .inr (7, [.ref kq, .ref sq, .int kz, .int sz, .int mc, .int gv, .ref cq, .ref tq, .ref rq, .int (ex_i σ), .int σ.2.2, .int bn, .int lf])), (rq, .inl (rA, 256, .inl σ.1))] H := hP
  have hD : va_D A [(h0, .inr (7, [.ref kq, .ref sq, .int kz, .int sz, .int mc, .int gv, .ref cq, .ref tq, .ref rq, .int (ex_i σ), .int σ.2.2, .int bn, .int lf])), (rq, .inl (rA, 256, .inl σ.1))] := hD
  refine lv_aload_n hx hb dX8_stepByte_14 rfl (lv_at hl 0 rfl) ?_
  refine lv_aload_n hx hb dX8_stepByte_15 rfl (lv_at hl 0 rfl) ?_
  refine va_get (D := D) (ci := 7) (v := .int σ.2.2) (C := RX8) (T := TX8) (N := 13) hx hb hts hi_X8 hown hK hP 0 rfl rfl 10 (by decide) hf_69 (fun _ h9 => h9) rfl dX8_stepByte_16 ?_
  refine lv_aload_n hx hb dX8_stepByte_19 rfl (lv_at hl 0 rfl) ?_
  refine va_get (D := D) (ci := 7) (v := .ref rq) (C := RX8) (T := TX8) (N := 13) hx hb hts hi_X8 hown hK hP 0 rfl rfl 8 (by decide) hf_26 (fun _ h9 => h9) rfl dX8_stepByte_20 ?_
  refine lv_aload_n hx hb dX8_stepByte_23 rfl (lv_at hl 0 rfl) ?_
  refine va_get (D := D) (ci := 7) (v := .int (ex_i σ)) (C := RX8) (T := TX8) (N := 13) hx hb hts hi_X8 hown hK hP 0 rfl rfl 9 (by decide) hf_66 (fun _ h9 => h9) rfl dX8_stepByte_24 ?_
  refine va_iald hx hb hK hP 1 0 rfl rfl (ex_in _) dX8_stepByte_27 ?_
  refine lv_iadd hx hb dX8_stepByte_28 ?_
  refine lv_sipush (v := 255) hx hb dX8_stepByte_29 (by decide) ?_
  refine lv_iand hx hb dX8_stepByte_32 ?_
  refine ct_topi (y := ex_j σ) rfl ?_
  refine va_put (D := D) (ci := 7) (v := .int (ex_j σ)) (ty := .int) (C := RX8) (T := TX8) (N := 13) hx hb hts hi_X8 tyX8 tyX8_ok nmX8 hown hK hP hD hS 0 rfl rfl 10 (by decide) hf_69 (fun _ h9 => h9) rfl (by decide +kernel) rfl rfl (Nat.le_of_ble_eq_true rfl) dX8_stepByte_33 (fun H locs hP hD hS => ?_)
  have hP : va_P D vwCl [(h0, .inr (7, [.ref kq, .ref sq, .int kz, .int sz, .int mc, .int gv, .ref cq, .ref tq, .ref rq, .int (ex_i σ), .int (ex_j σ), .int bn, .int lf])), (rq, .inl (rA, 256, .inl σ.1))] H := hP
  have hD : va_D A [(h0, .inr (7, [.ref kq, .ref sq, .int kz, .int sz, .int mc, .int gv, .ref cq, .ref tq, .ref rq, .int (ex_i σ), .int (ex_j σ), .int bn, .int lf])), (rq, .inl (rA, 256, .inl σ.1))] := hD
  refine lv_aload_n hx hb dX8_stepByte_36 rfl (lv_at hl 0 rfl) ?_
  refine lv_aload_n hx hb dX8_stepByte_37 rfl (lv_at hl 0 rfl) ?_
  refine va_get (D := D) (ci := 7) (v := .int (ex_i σ)) (C := RX8) (T := TX8) (N := 13) hx hb hts hi_X8 hown hK hP 0 rfl rfl 9 (by decide) hf_66 (fun _ h9 => h9) rfl dX8_stepByte_38 ?_
  refine lv_aload_n hx hb dX8_stepByte_41 rfl (lv_at hl 0 rfl) ?_
  refine va_get (D := D) (ci := 7) (v := .int (ex_j σ)) (C := RX8) (T := TX8) (N := 13) hx hb hts hi_X8 hown hK hP 0 rfl rfl 10 (by decide) hf_69 (fun _ h9 => h9) rfl dX8_stepByte_42 ?_
  refine ct_callVv (As := [.int (ex_i σ), .int (ex_j σ)]) (rest := []) (wr := []) (ws2 := [(h0, .inr (7, [.ref kq, .ref sq, .int kz, .int sz, .int mc, .int gv, .ref cq, .ref tq, .ref rq, .int (ex_i σ), .int (ex_j σ), .int bn, .int lf])), (rq, .inl (rA, 256, .inl (ex_sw σ.1 (ex_i σ) (ex_j σ))))]) ⟨hx, hb, hml, hown, hts⟩ (c_md_exch l D h0 kq sq cq tq rq kz sz mc gv (ex_i σ) (ex_j σ) bn lf rA σ.1 (ex_i σ) (ex_j σ) (ex_in _) (ex_in _)) cw_X8_exchange [0] rfl [0, 1] [] [0, 1] hF hK hP hD hS hA 0 7 rfl rfl rfl rfl (by decide) rfl (by decide) (by decide) rfl (by decide) rfl hl.1 rfl (Nat.le_of_ble_eq_true rfl) dX8_stepByte_45 ⟨Nat.zero_le _, Nat.zero_le _⟩ (fun H locs hP hD hS => ?_)
  refine lv_aload_n hx hb dX8_stepByte_48 rfl (lv_at hl 0 rfl) ?_
  refine va_get (D := D) (ci := 7) (v := .ref rq) (C := RX8) (T := TX8) (N := 13) hx hb hts hi_X8 hown hK hP 0 rfl rfl 8 (by decide) hf_26 (fun _ h9 => h9) rfl dX8_stepByte_49 ?_
  refine lv_aload_n hx hb dX8_stepByte_52 rfl (lv_at hl 0 rfl) ?_
  refine va_get (D := D) (ci := 7) (v := .ref rq) (C := RX8) (T := TX8) (N := 13) hx hb hts hi_X8 hown hK hP 0 rfl rfl 8 (by decide) hf_26 (fun _ h9 => h9) rfl dX8_stepByte_53 ?_
  refine lv_aload_n hx hb dX8_stepByte_56 rfl (lv_at hl 0 rfl) ?_
  refine va_get (D := D) (ci := 7) (v := .int (ex_i σ)) (C := RX8) (T := TX8) (N := 13) hx hb hts hi_X8 hown hK hP 0 rfl rfl 9 (by decide) hf_66 (fun _ h9 => h9) rfl dX8_stepByte_57 ?_
  refine va_iald hx hb hK hP 1 0 rfl rfl (ex_in _) dX8_stepByte_60 ?_
  refine lv_aload_n hx hb dX8_stepByte_61 rfl (lv_at hl 0 rfl) ?_
  refine va_get (D := D) (ci := 7) (v := .ref rq) (C := RX8) (T := TX8) (N := 13) hx hb hts hi_X8 hown hK hP 0 rfl rfl 8 (by decide) hf_26 (fun _ h9 => h9) rfl dX8_stepByte_62 ?_
  refine lv_aload_n hx hb dX8_stepByte_65 rfl (lv_at hl 0 rfl) ?_
  refine va_get (D := D) (ci := 7) (v := .int (ex_j σ)) (C := RX8) (T := TX8) (N := 13) hx hb hts hi_X8 hown hK hP 0 rfl rfl 10 (by decide) hf_69 (fun _ h9 => h9) rfl dX8_stepByte_66 ?_
  refine va_iald hx hb hK hP 1 0 rfl rfl (ex_in _) dX8_stepByte_69 ?_
  refine lv_iadd hx hb dX8_stepByte_70 ?_
  refine lv_sipush (v := 255) hx hb dX8_stepByte_71 (by decide) ?_
  refine lv_iand hx hb dX8_stepByte_74 ?_
  refine va_iald hx hb hK hP 1 0 rfl rfl (ex_in _) dX8_stepByte_75 ?_
  exact ct_zret hx hb hr hlk hP hK hD hS rfl rfl dX8_stepByte_76
set_option maxHeartbeats 4000000 in
set_option maxRecDepth 100000 in
/-- Model.keyBit -/
theorem c_md_keyBit (l : Launch) (D : va_G) (h0 kq sq cq tq rq : Nat) (kz sz mc gv ri rj bn lf : Int32) (kA : ClassId) (f : Nat → Int32) (k : Nat) (hk8 : k < 256) : Cti l D yX8_keyBit wsX8_keyBit ({ frames := 0, cells := 0, slots := 0, locals := 0 } : Room) [.ref h0, .int (nI k)] [(kA, .int)] [(h0, .inr (7, [.ref kq, .ref sq, .int kz, .int sz, .int mc, .int gv, .ref cq, .ref tq, .ref rq, .int ri, .int rj, .int bn, .int lf])), (kq, .inl (kA, 32, .inl f))] [(h0, .inr (7, [.ref kq, .ref sq, .int kz, .int sz, .int mc, .int gv, .ref cq, .ref tq, .ref rq, .int ri, .int rj, .int bn, .int lf])), (kq, .inl (kA, 32, .inl f))] (md_kb f k) := by
  refine ct_of (cc := cX8_keyBit) (maxL := 2) (ret := (some .int)) (by decide) rfl (Nat.le_of_ble_eq_true rfl) ?_
  intro p e s m below meth c A H locs ls hx hb hr hml hts hown hlk hnm hF hP hK hD hA hS hl
  have hown : s.vm.findClass RX8 = some m.cls := hown
  have hl : lv_has ls 2 [(0, .ref h0), (1, .int (nI k))] := hl
  have hf_7 := hts (.fieldLink RX8 7 "BitStreamsModel" "key" "[I") (by decide +kernel)
  have hi_X8 : ∀ w ∈ u_ws RX8 TX8 13, w ∈ wsX8_keyBit := by decide +kernel
  refine lv_aload_n hx hb dX8_keyBit_0 rfl (lv_at hl 0 rfl) ?_
  refine va_get (D := D) (ci := 7) (v := .ref kq) (C := RX8) (T := TX8) (N := 13) hx hb hts hi_X8 hown hK hP 0 rfl rfl 0 (by decide) hf_7 (fun _ h9 => h9) rfl dX8_keyBit_1 ?_
  refine lv_iload_n hx hb dX8_keyBit_4 rfl (lv_at hl 1 rfl) ?_
  refine lv_bipush (v := 8) hx hb dX8_keyBit_5 (by decide) ?_
  refine lv_idiv hx hb dX8_keyBit_7 (by decide) ?_
  refine ct_topi (y := nI (k / 8)) (pk_div (a := k) (d := 8) (by omega) (by decide) (by decide)) ?_
  refine va_iald hx hb hK hP 1 0 rfl rfl (vp_in_nI (by omega) (by decide)) dX8_keyBit_8 ?_
  refine ct_topi (y := f (k / 8)) (by rw [nI_clamp (by omega)]) ?_
  refine lv_bipush (v := 7) hx hb dX8_keyBit_9 (by decide) ?_
  refine lv_iload_n hx hb dX8_keyBit_11 rfl (lv_at hl 1 rfl) ?_
  refine lv_bipush (v := 8) hx hb dX8_keyBit_12 (by decide) ?_
  refine lv_irem hx hb dX8_keyBit_14 (by decide) ?_
  refine ct_topi (y := nI (k % 8)) (pk_rem (a := k) (d := 8) (by omega) (by decide) (by decide)) ?_
  refine lv_isub hx hb dX8_keyBit_15 ?_
  refine lv_ishr hx hb dX8_keyBit_16 ?_
  refine lv_iconst (v := 1) hx hb dX8_keyBit_17 (by decide) ?_
  refine lv_iand hx hb dX8_keyBit_18 ?_
  exact ct_zret hx hb hr hlk hP hK hD hS rfl rfl dX8_keyBit_19
set_option maxHeartbeats 4000000 in
set_option maxRecDepth 100000 in
/-- Model.startBit -/
theorem c_md_startBit (l : Launch) (D : va_G) (h0 kq sq cq tq rq : Nat) (kz sz mc gv ri rj bn lf : Int32) (sA : ClassId) (f : Nat → Int32) (k : Nat) (hk8 : k < 96) : Cti l D yX8_startBit wsX8_startBit ({ frames := 0, cells := 0, slots := 0, locals := 0 } : Room) [.ref h0, .int (nI k)] [(sA, .int)] [(h0, .inr (7, [.ref kq, .ref sq, .int kz, .int sz, .int mc, .int gv, .ref cq, .ref tq, .ref rq, .int ri, .int rj, .int bn, .int lf])), (sq, .inl (sA, 12, .inl f))] [(h0, .inr (7, [.ref kq, .ref sq, .int kz, .int sz, .int mc, .int gv, .ref cq, .ref tq, .ref rq, .int ri, .int rj, .int bn, .int lf])), (sq, .inl (sA, 12, .inl f))] (md_kb f k) := by
  refine ct_of (cc := cX8_startBit) (maxL := 2) (ret := (some .int)) (by decide) rfl (Nat.le_of_ble_eq_true rfl) ?_
  intro p e s m below meth c A H locs ls hx hb hr hml hts hown hlk hnm hF hP hK hD hA hS hl
  have hown : s.vm.findClass RX8 = some m.cls := hown
  have hl : lv_has ls 2 [(0, .ref h0), (1, .int (nI k))] := hl
  have hf_13 := hts (.fieldLink RX8 13 "BitStreamsModel" "start" "[I") (by decide +kernel)
  have hi_X8 : ∀ w ∈ u_ws RX8 TX8 13, w ∈ wsX8_startBit := by decide +kernel
  refine lv_aload_n hx hb dX8_startBit_0 rfl (lv_at hl 0 rfl) ?_
  refine va_get (D := D) (ci := 7) (v := .ref sq) (C := RX8) (T := TX8) (N := 13) hx hb hts hi_X8 hown hK hP 0 rfl rfl 1 (by decide) hf_13 (fun _ h9 => h9) rfl dX8_startBit_1 ?_
  refine lv_iload_n hx hb dX8_startBit_4 rfl (lv_at hl 1 rfl) ?_
  refine lv_bipush (v := 8) hx hb dX8_startBit_5 (by decide) ?_
  refine lv_idiv hx hb dX8_startBit_7 (by decide) ?_
  refine ct_topi (y := nI (k / 8)) (pk_div (a := k) (d := 8) (by omega) (by decide) (by decide)) ?_
  refine va_iald hx hb hK hP 1 0 rfl rfl (vp_in_nI (by omega) (by decide)) dX8_startBit_8 ?_
  refine ct_topi (y := f (k / 8)) (by rw [nI_clamp (by omega)]) ?_
  refine lv_bipush (v := 7) hx hb dX8_startBit_9 (by decide) ?_
  refine lv_iload_n hx hb dX8_startBit_11 rfl (lv_at hl 1 rfl) ?_
  refine lv_bipush (v := 8) hx hb dX8_startBit_12 (by decide) ?_
  refine lv_irem hx hb dX8_startBit_14 (by decide) ?_
  refine ct_topi (y := nI (k % 8)) (pk_rem (a := k) (d := 8) (by omega) (by decide) (by decide)) ?_
  refine lv_isub hx hb dX8_startBit_15 ?_
  refine lv_ishr hx hb dX8_startBit_16 ?_
  refine lv_iconst (v := 1) hx hb dX8_startBit_17 (by decide) ?_
  refine lv_iand hx hb dX8_startBit_18 ?_
  exact ct_zret hx hb hr hlk hP hK hD hS rfl rfl dX8_startBit_19
