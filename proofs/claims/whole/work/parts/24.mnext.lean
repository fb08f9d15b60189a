def mgv (g : Int32) : Nat → Int32
  | 0 => g
  | k + 1 => mgv g k + 1
theorem mgv_e (g : Int32) (n : Nat) : mgv g n = g + nI n := by
  induction n with
  | zero => rw [mgv, nI_0, Int32.add_zero]
  | succ n ih => rw [mgv, ih, nI_succ, Int32.add_assoc]
set_option maxHeartbeats 4000000 in
set_option maxRecDepth 100000 in
/-- Model.next, machine 0 -/
theorem c_md_next0 (l : Launch) (D : va_G) (h0 kq sq cq tq rq : Nat) (kz sz gv ri rj bn lf : Int32) (cA tA : ClassId) (σ : MR) : Cti l D yX8_next wsX8_next ({ frames := 5, cells := 0, slots := 0, locals := 150 } : Room) [.ref h0] [(cA, .int), (tA, .int)] [(h0, .inr (7, [.ref kq, .ref sq, .int kz, .int sz, .int 0, .int gv, .ref cq, .ref tq, .ref rq, .int ri, .int rj, .int bn, .int lf])), (cq, .inl (cA, 384, .inl σ.1)), (tq, .inl (tA, 3, .inl σ.2))] [(h0, .inr (7, [.ref kq, .ref sq, .int kz, .int sz, .int 0, .int (gv + 1), .ref cq, .ref tq, .ref rq, .int ri, .int rj, .int bn, .int lf])), (cq, .inl (cA, 384, .inl ((md_rstep σ).1))), (tq, .inl (tA, 3, .inl ((md_rstep σ).2)))] (md_rout σ) := by
  refine ct_of (cc := cX8_next) (maxL := 1) (ret := (some .int)) (by decide) rfl (Nat.le_of_ble_eq_true rfl) ?_
  intro p e s m below meth c A H locs ls hx hb hr hml hts hown hlk hnm hF hP hK hD hA hS hl
  have hown : s.vm.findClass RX8 = some m.cls := hown
  have hl : lv_has ls 1 [(0, .ref h0)] := hl
  have hf_79 := hts (.fieldLink RX8 79 "BitStreamsModel" "given" "I") (by decide +kernel)
  have hi_X8 : ∀ w ∈ u_ws RX8 TX8 13, w ∈ wsX8_next := by decide +kernel
  have hf_16 := hts (.fieldLink RX8 16 "BitStreamsModel" "machine" "I") (by decide +kernel)
  have cw_X8_stepRings := cwV (R := ({ frames := 5, cells := 0, slots := 0, locals := 150 } : Room)) (rm := ({ frames := 2, cells := 0, slots := 0, locals := 45 } : Room)) 0 hts gX8_next_X8_stepRings rfl rfl rfl (by decide +kernel) ⟨Nat.le_of_ble_eq_true rfl, Nat.le_of_ble_eq_true rfl⟩
  refine lv_aload_n hx hb dX8_next_0 rfl (lv_at hl 0 rfl) ?_
  refine lv_dup hx hb dX8_next_1 rfl ?_
  refine va_get (D := D) (ci := 7) (v := .int gv) (C := RX8) (T := TX8) (N := 13) hx hb hts hi_X8 hown hK hP 0 rfl rfl 5 (by decide) hf_79 (fun _ h9 => h9) rfl dX8_next_2 ?_
  refine lv_iconst (v := 1) hx hb dX8_next_5 (by decide) ?_
  refine lv_iadd hx hb dX8_next_6 ?_
  refine va_put (D := D) (ci := 7) (v := .int (gv + 1)) (ty := .int) (C := RX8) (T := TX8) (N := 13) hx hb hts hi_X8 tyX8 tyX8_ok nmX8 hown hK hP hD hS 0 rfl rfl 5 (by decide) hf_79 (fun _ h9 => h9) rfl (by decide +kernel) rfl rfl (Nat.le_of_ble_eq_true rfl) dX8_next_7 (fun H locs hP hD hS => ?_)
  have hP : va_P D vwCl [(h0, .inr (7, [.ref kq, .ref sq, .int kz, .int sz, .int 0, .int (gv + 1), .ref cq, .ref tq, .ref rq, .int ri, .int rj, .int bn, .int lf])), (cq, .inl (cA, 384, .inl σ.1)), (tq, .inl (tA, 3, .inl σ.2))] H := hP
  have hD : va_D A [(h0, .inr (7, [.ref kq, .ref sq, .int kz, .int sz, .int 0, .int (gv + 1), .ref cq, .ref tq, .ref rq, .int ri, .int rj, .int bn, .int lf])), (cq, .inl (cA, 384, .inl σ.1)), (tq, .inl (tA, 3, .inl σ.2))] := hD
  refine lv_aload_n hx hb dX8_next_10 rfl (lv_at hl 0 rfl) ?_
  refine va_get (D := D) (ci := 7) (v := .int 0) (C := RX8) (T := TX8) (N := 13) hx hb hts hi_X8 hown hK hP 0 rfl rfl 4 (by decide) hf_16 (fun _ h9 => h9) rfl dX8_next_11 ?_
  refine lv_if_ne (tgt := 22) hx hb dX8_next_14 (by decide) (fun hh => absurd (by decide) hh) (fun _ => ?_)
  refine lv_aload_n hx hb dX8_next_17 rfl (lv_at hl 0 rfl) ?_
  refine ct_callVi (As := []) (rest := []) (wr := []) (ws2 := [(h0, .inr (7, [.ref kq, .ref sq, .int kz, .int sz, .int 0, .int (gv + 1), .ref cq, .ref tq, .ref rq, .int ri, .int rj, .int bn, .int lf])), (cq, .inl (cA, 384, .inl ((md_rstep σ).1))), (tq, .inl (tA, 3, .inl ((md_rstep σ).2)))]) ⟨hx, hb, hml, hown, hts⟩ (c_md_rings l D h0 kq sq cq tq rq kz sz 0 (gv + 1) ri rj bn lf cA tA σ) cw_X8_stepRings [0, 1] rfl [0, 1, 2] [] [0, 1, 2] hF hK hP hD hS hA 0 7 rfl rfl rfl rfl (by decide) rfl (by decide) (by decide) rfl (by decide) rfl hl.1 rfl (Nat.le_of_ble_eq_true rfl) dX8_next_18 ⟨Nat.zero_le _, Nat.zero_le _⟩ (fun H locs hP hD hS => ?_)
  exact ct_zret hx hb hr hlk hP hK hD hS rfl rfl dX8_next_21
set_option maxHeartbeats 4000000 in
set_option maxRecDepth 100000 in
/-- Model.next, machine 1 -/
theorem c_md_next1 (l : Launch) (D : va_G) (h0 kq sq cq tq rq : Nat) (kz sz gv ri rj bn lf : Int32) (cA tA : ClassId) (σ : MR) : Cti l D yX8_next wsX8_next ({ frames := 5, cells := 0, slots := 0, locals := 150 } : Room) [.ref h0] [(cA, .int), (tA, .int)] [(h0, .inr (7, [.ref kq, .ref sq, .int kz, .int sz, .int 1, .int gv, .ref cq, .ref tq, .ref rq, .int ri, .int rj, .int bn, .int lf])), (cq, .inl (cA, 384, .inl σ.1)), (tq, .inl (tA, 3, .inl σ.2))] [(h0, .inr (7, [.ref kq, .ref sq, .int kz, .int sz, .int 1, .int (gv + 1), .ref cq, .ref tq, .ref rq, .int ri, .int rj, .int bn, .int lf])), (cq, .inl (cA, 384, .inl ((md_two0 σ).1))), (tq, .inl (tA, 3, .inl ((md_two0 σ).2)))] (md_y σ) := by
  refine ct_of (cc := cX8_next) (maxL := 1) (ret := (some .int)) (by decide) rfl (Nat.le_of_ble_eq_true rfl) ?_
  intro p e s m below meth c A H locs ls hx hb hr hml hts hown hlk hnm hF hP hK hD hA hS hl
  have hown : s.vm.findClass RX8 = some m.cls := hown
  have hl : lv_has ls 1 [(0, .ref h0)] := hl
  have hf_79 := hts (.fieldLink RX8 79 "BitStreamsModel" "given" "I") (by decide +kernel)
  have hi_X8 : ∀ w ∈ u_ws RX8 TX8 13, w ∈ wsX8_next := by decide +kernel
  have hf_16 := hts (.fieldLink RX8 16 "BitStreamsModel" "machine" "I") (by decide +kernel)
  have cw_X8_stepTwo := cwV (R := ({ frames := 5, cells := 0, slots := 0, locals := 150 } : Room)) (rm := ({ frames := 2, cells := 0, slots := 0, locals := 45 } : Room)) 1 hts gX8_next_X8_stepTwo rfl rfl rfl (by decide +kernel) ⟨Nat.le_of_ble_eq_true rfl, Nat.le_of_ble_eq_true rfl⟩
  refine lv_aload_n hx hb dX8_next_0 rfl (lv_at hl 0 rfl) ?_
  refine lv_dup hx hb dX8_next_1 rfl ?_
  refine va_get (D := D) (ci := 7) (v := .int gv) (C := RX8) (T := TX8) (N := 13) hx hb hts hi_X8 hown hK hP 0 rfl rfl 5 (by decide) hf_79 (fun _ h9 => h9) rfl dX8_next_2 ?_
  refine lv_iconst (v := 1) hx hb dX8_next_5 (by decide) ?_
  refine lv_iadd hx hb dX8_next_6 ?_
  refine va_put (D := D) (ci := 7) (v := .int (gv + 1)) (ty := .int) (C := RX8) (T := TX8) (N := 13) hx hb hts hi_X8 tyX8 tyX8_ok nmX8 hown hK hP hD hS 0 rfl rfl 5 (by decide) hf_79 (fun _ h9 => h9) rfl (by decide +kernel) rfl rfl (Nat.le_of_ble_eq_true rfl) dX8_next_7 (fun H locs hP hD hS => ?_)
  have hP : va_P D vwCl [(h0, .inr (7, [.ref kq, .ref sq, .int kz, .int sz, .int 1, .int (gv + 1), .ref cq, .ref tq, .ref rq, .int ri, .int rj, .int bn, .int lf])), (cq, .inl (cA, 384, .inl σ.1)), (tq, .inl (tA, 3, .inl σ.2))] H := hP
  have hD : va_D A [(h0, .inr (7, [.ref kq, .ref sq, .int kz, .int sz, .int 1, .int (gv + 1), .ref cq, .ref tq, .ref rq, .int ri, .int rj, .int bn, .int lf])), (cq, .inl (cA, 384, .inl σ.1)), (tq, .inl (tA, 3, .inl σ.2))] := hD
  refine lv_aload_n hx hb dX8_next_10 rfl (lv_at hl 0 rfl) ?_
  refine va_get (D := D) (ci := 7) (v := .int 1) (C := RX8) (T := TX8) (N := 13) hx hb hts hi_X8 hown hK hP 0 rfl rfl 4 (by decide) hf_16 (fun _ h9 => h9) rfl dX8_next_11 ?_
  refine lv_if_ne (tgt := 22) hx hb dX8_next_14 (by decide) (fun _ => ?_) (fun hh => absurd hh (by decide))
  refine lv_aload_n hx hb dX8_next_22 rfl (lv_at hl 0 rfl) ?_
  refine va_get (D := D) (ci := 7) (v := .int 1) (C := RX8) (T := TX8) (N := 13) hx hb hts hi_X8 hown hK hP 0 rfl rfl 4 (by decide) hf_16 (fun _ h9 => h9) rfl dX8_next_23 ?_
  refine lv_iconst (v := 1) hx hb dX8_next_26 (by decide) ?_
  refine lv_icmp_ne (tgt := 36) hx hb dX8_next_27 (by decide) (fun hh => absurd (by decide) hh) (fun _ => ?_)
  refine lv_aload_n hx hb dX8_next_30 rfl (lv_at hl 0 rfl) ?_
  refine lv_iconst (v := 0) hx hb dX8_next_31 (by decide) ?_
  refine ct_callVi (As := [.int 0]) (rest := []) (wr := []) (ws2 := [(h0, .inr (7, [.ref kq, .ref sq, .int kz, .int sz, .int 1, .int (gv + 1), .ref cq, .ref tq, .ref rq, .int ri, .int rj, .int bn, .int lf])), (cq, .inl (cA, 384, .inl ((md_two0 σ).1))), (tq, .inl (tA, 3, .inl ((md_two0 σ).2)))]) ⟨hx, hb, hml, hown, hts⟩ (c_md_two0 l D h0 kq sq cq tq rq kz sz 1 (gv + 1) ri rj bn lf cA tA σ) cw_X8_stepTwo [0, 1] rfl [0, 1, 2] [] [0, 1, 2] hF hK hP hD hS hA 0 7 rfl rfl rfl rfl (by decide) rfl (by decide) (by decide) rfl (by decide) rfl hl.1 rfl (Nat.le_of_ble_eq_true rfl) dX8_next_32 ⟨Nat.zero_le _, Nat.zero_le _⟩ (fun H locs hP hD hS => ?_)
  exact ct_zret hx hb hr hlk hP hK hD hS rfl rfl dX8_next_35
set_option maxHeartbeats 4000000 in
set_option maxRecDepth 100000 in
/-- Model.next, machine 2 -/
theorem c_md_next2 (l : Launch) (D : va_G) (h0 kq sq cq tq rq : Nat) (kz sz gv ri rj bn lf : Int32) (cA tA : ClassId) (σ : MR) : Cti l D yX8_next wsX8_next ({ frames := 5, cells := 0, slots := 0, locals := 150 } : Room) [.ref h0] [(cA, .int), (tA, .int)] [(h0, .inr (7, [.ref kq, .ref sq, .int kz, .int sz, .int 2, .int gv, .ref cq, .ref tq, .ref rq, .int ri, .int rj, .int bn, .int lf])), (cq, .inl (cA, 384, .inl σ.1)), (tq, .inl (tA, 3, .inl σ.2))] [(h0, .inr (7, [.ref kq, .ref sq, .int kz, .int sz, .int 2, .int (gv + 1), .ref cq, .ref tq, .ref rq, .int ri, .int rj, .int bn, .int lf])), (cq, .inl (cA, 384, .inl ((md_s2 σ).1))), (tq, .inl (tA, 3, .inl ((md_s2 σ).2)))] (md_sout σ) := by
  refine ct_of (cc := cX8_next) (maxL := 1) (ret := (some .int)) (by decide) rfl (Nat.le_of_ble_eq_true rfl) ?_
  intro p e s m below meth c A H locs ls hx hb hr hml hts hown hlk hnm hF hP hK hD hA hS hl
  have hown : s.vm.findClass RX8 = some m.cls := hown
  have hl : lv_has ls 1 [(0, .ref h0)] := hl
  have hf_79 := hts (.fieldLink RX8 79 "BitStreamsModel" "given" "I") (by decide +kernel)
  have hi_X8 : ∀ w ∈ u_ws RX8 TX8 13, w ∈ wsX8_next := by decide +kernel
  have hf_16 := hts (.fieldLink RX8 16 "BitStreamsModel" "machine" "I") (by decide +kernel)
  have cw_X8_stepStops := cwV (R := ({ frames := 5, cells := 0, slots := 0, locals := 150 } : Room)) (rm := ({ frames := 3, cells := 0, slots := 0, locals := 67 } : Room)) 0 hts gX8_next_X8_stepStops rfl rfl rfl (by decide +kernel) ⟨Nat.le_of_ble_eq_true rfl, Nat.le_of_ble_eq_true rfl⟩
  refine lv_aload_n hx hb dX8_next_0 rfl (lv_at hl 0 rfl) ?_
  refine lv_dup hx hb dX8_next_1 rfl ?_
  refine va_get (D := D) (ci := 7) (v := .int gv) (C := RX8) (T := TX8) (N := 13) hx hb hts hi_X8 hown hK hP 0 rfl rfl 5 (by decide) hf_79 (fun _ h9 => h9) rfl dX8_next_2 ?_
  refine lv_iconst (v := 1) hx hb dX8_next_5 (by decide) ?_
  refine lv_iadd hx hb dX8_next_6 ?_
  refine va_put (D := D) (ci := 7) (v := .int (gv + 1)) (ty := .int) (C := RX8) (T := TX8) (N := 13) hx hb hts hi_X8 tyX8 tyX8_ok nmX8 hown hK hP hD hS 0 rfl rfl 5 (by decide) hf_79 (fun _ h9 => h9) rfl (by decide +kernel) rfl rfl (Nat.le_of_ble_eq_true rfl) dX8_next_7 (fun H locs hP hD hS => ?_)
  have hP : va_P D vwCl [(h0, .inr (7, [.ref kq, .ref sq, .int kz, .int sz, .int 2, .int (gv + 1), .ref cq, .ref tq, .ref rq, .int ri, .int rj, .int bn, .int lf])), (cq, .inl (cA, 384, .inl σ.1)), (tq, .inl (tA, 3, .inl σ.2))] H := hP
  have hD : va_D A [(h0, .inr (7, [.ref kq, .ref sq, .int kz, .int sz, .int 2, .int (gv + 1), .ref cq, .ref tq, .ref rq, .int ri, .int rj, .int bn, .int lf])), (cq, .inl (cA, 384, .inl σ.1)), (tq, .inl (tA, 3, .inl σ.2))] := hD
  refine lv_aload_n hx hb dX8_next_10 rfl (lv_at hl 0 rfl) ?_
  refine va_get (D := D) (ci := 7) (v := .int 2) (C := RX8) (T := TX8) (N := 13) hx hb hts hi_X8 hown hK hP 0 rfl rfl 4 (by decide) hf_16 (fun _ h9 => h9) rfl dX8_next_11 ?_
  refine lv_if_ne (tgt := 22) hx hb dX8_next_14 (by decide) (fun _ => ?_) (fun hh => absurd hh (by decide))
  refine lv_aload_n hx hb dX8_next_22 rfl (lv_at hl 0 rfl) ?_
  refine va_get (D := D) (ci := 7) (v := .int 2) (C := RX8) (T := TX8) (N := 13) hx hb hts hi_X8 hown hK hP 0 rfl rfl 4 (by decide) hf_16 (fun _ h9 => h9) rfl dX8_next_23 ?_
  refine lv_iconst (v := 1) hx hb dX8_next_26 (by decide) ?_
  refine lv_icmp_ne (tgt := 36) hx hb dX8_next_27 (by decide) (fun _ => ?_) (fun hh => absurd hh (by decide))
  refine lv_aload_n hx hb dX8_next_36 rfl (lv_at hl 0 rfl) ?_
  refine va_get (D := D) (ci := 7) (v := .int 2) (C := RX8) (T := TX8) (N := 13) hx hb hts hi_X8 hown hK hP 0 rfl rfl 4 (by decide) hf_16 (fun _ h9 => h9) rfl dX8_next_37 ?_
  refine lv_iconst (v := 2) hx hb dX8_next_40 (by decide) ?_
  refine lv_icmp_ne (tgt := 49) hx hb dX8_next_41 (by decide) (fun hh => absurd (by decide) hh) (fun _ => ?_)
  refine lv_aload_n hx hb dX8_next_44 rfl (lv_at hl 0 rfl) ?_
  refine ct_callVi (As := []) (rest := []) (wr := []) (ws2 := [(h0, .inr (7, [.ref kq, .ref sq, .int kz, .int sz, .int 2, .int (gv + 1), .ref cq, .ref tq, .ref rq, .int ri, .int rj, .int bn, .int lf])), (cq, .inl (cA, 384, .inl ((md_s2 σ).1))), (tq, .inl (tA, 3, .inl ((md_s2 σ).2)))]) ⟨hx, hb, hml, hown, hts⟩ (c_md_stops l D h0 kq sq cq tq rq kz sz 2 (gv + 1) ri rj bn lf cA tA σ) cw_X8_stepStops [0, 1] rfl [0, 1, 2] [] [0, 1, 2] hF hK hP hD hS hA 0 7 rfl rfl rfl rfl (by decide) rfl (by decide) (by decide) rfl (by decide) rfl hl.1 rfl (Nat.le_of_ble_eq_true rfl) dX8_next_45 ⟨Nat.zero_le _, Nat.zero_le _⟩ (fun H locs hP hD hS => ?_)
  exact ct_zret hx hb hr hlk hP hK hD hS rfl rfl dX8_next_48
set_option maxHeartbeats 4000000 in
set_option maxRecDepth 100000 in
/-- Model.next, machine 3 -/
theorem c_md_next3 (l : Launch) (D : va_G) (h0 kq sq cq tq rq : Nat) (kz sz gv : Int32) (rA : ClassId) (σ : X5) : Cti l D yX8_next wsX8_next ({ frames := 5, cells := 0, slots := 0, locals := 150 } : Room) [.ref h0] [(rA, .int)] [(h0, .inr (7, [.ref kq, .ref sq, .int kz, .int sz, .int 3, .int gv, .ref cq, .ref tq, .ref rq, .int σ.1.2.1, .int σ.1.2.2, .int σ.2.1, .int σ.2.2])), (rq, .inl (rA, 256, .inl σ.1.1))] [(h0, .inr (7, [.ref kq, .ref sq, .int kz, .int sz, .int 3, .int (gv + 1), .ref cq, .ref tq, .ref rq, .int ((ex_step σ).1.2.1), .int ((ex_step σ).1.2.2), .int ((ex_step σ).2.1), .int ((ex_step σ).2.2)])), (rq, .inl (rA, 256, .inl ((ex_step σ).1.1)))] (ex_out σ) := by
  refine ct_of (cc := cX8_next) (maxL := 1) (ret := (some .int)) (by decide) rfl (Nat.le_of_ble_eq_true rfl) ?_
  intro p e s m below meth c A H locs ls hx hb hr hml hts hown hlk hnm hF hP hK hD hA hS hl
  have hown : s.vm.findClass RX8 = some m.cls := hown
  have hl : lv_has ls 1 [(0, .ref h0)] := hl
  have hf_79 := hts (.fieldLink RX8 79 "BitStreamsModel" "given" "I") (by decide +kernel)
  have hi_X8 : ∀ w ∈ u_ws RX8 TX8 13, w ∈ wsX8_next := by decide +kernel
  have hf_16 := hts (.fieldLink RX8 16 "BitStreamsModel" "machine" "I") (by decide +kernel)
  have hf_117 := hts (.fieldLink RX8 117 "BitStreamsModel" "left" "I") (by decide +kernel)
  have hf_123 := hts (.fieldLink RX8 123 "BitStreamsModel" "byteNow" "I") (by decide +kernel)
  have cw_X8_stepByte := cwV (R := ({ frames := 5, cells := 0, slots := 0, locals := 150 } : Room)) (rm := ({ frames := 1, cells := 0, slots := 0, locals := 23 } : Room)) 0 hts gX8_next_X8_stepByte rfl rfl rfl (by decide +kernel) ⟨Nat.le_of_ble_eq_true rfl, Nat.le_of_ble_eq_true rfl⟩
  refine lv_aload_n hx hb dX8_next_0 rfl (lv_at hl 0 rfl) ?_
  refine lv_dup hx hb dX8_next_1 rfl ?_
  refine va_get (D := D) (ci := 7) (v := .int gv) (C := RX8) (T := TX8) (N := 13) hx hb hts hi_X8 hown hK hP 0 rfl rfl 5 (by decide) hf_79 (fun _ h9 => h9) rfl dX8_next_2 ?_
  refine lv_iconst (v := 1) hx hb dX8_next_5 (by decide) ?_
  refine lv_iadd hx hb dX8_next_6 ?_
  refine va_put (D := D) (ci := 7) (v := .int (gv + 1)) (ty := .int) (C := RX8) (T := TX8) (N := 13) hx hb hts hi_X8 tyX8 tyX8_ok nmX8 hown hK hP hD hS 0 rfl rfl 5 (by decide) hf_79 (fun _ h9 => h9) rfl (by decide +kernel) rfl rfl (Nat.le_of_ble_eq_true rfl) dX8_next_7 (fun H locs hP hD hS => ?_)
  have hP : va_P D vwCl [(h0, .inr (7, [.ref kq, .ref sq, .int kz, .int sz, .int 3, .int (gv + 1), .ref cq, .ref tq, .ref rq, .int σ.1.2.1, .int σ.1.2.2, .int σ.2.1, .int σ.2.2])), (rq, .inl (rA, 256, .inl σ.1.1))] H := hP
  have hD : va_D A [(h0, .inr (7, [.ref kq, .ref sq, .int kz, .int sz, .int 3, .int (gv + 1), .ref cq, .ref tq, .ref rq, .int σ.1.2.1, .int σ.1.2.2, .int σ.2.1, .int σ.2.2])), (rq, .inl (rA, 256, .inl σ.1.1))] := hD
  refine lv_aload_n hx hb dX8_next_10 rfl (lv_at hl 0 rfl) ?_
  refine va_get (D := D) (ci := 7) (v := .int 3) (C := RX8) (T := TX8) (N := 13) hx hb hts hi_X8 hown hK hP 0 rfl rfl 4 (by decide) hf_16 (fun _ h9 => h9) rfl dX8_next_11 ?_
  refine lv_if_ne (tgt := 22) hx hb dX8_next_14 (by decide) (fun _ => ?_) (fun hh => absurd hh (by decide))
  refine lv_aload_n hx hb dX8_next_22 rfl (lv_at hl 0 rfl) ?_
  refine va_get (D := D) (ci := 7) (v := .int 3) (C := RX8) (T := TX8) (N := 13) hx hb hts hi_X8 hown hK hP 0 rfl rfl 4 (by decide) hf_16 (fun _ h9 => h9) rfl dX8_next_23 ?_
  refine lv_iconst (v := 1) hx hb dX8_next_26 (by decide) ?_
  refine lv_icmp_ne (tgt := 36) hx hb dX8_next_27 (by decide) (fun _ => ?_) (fun hh => absurd hh (by decide))
  refine lv_aload_n hx hb dX8_next_36 rfl (lv_at hl 0 rfl) ?_
  refine va_get (D := D) (ci := 7) (v := .int 3) (C := RX8) (T := TX8) (N := 13) hx hb hts hi_X8 hown hK hP 0 rfl rfl 4 (by decide) hf_16 (fun _ h9 => h9) rfl dX8_next_37 ?_
  refine lv_iconst (v := 2) hx hb dX8_next_40 (by decide) ?_
  refine lv_icmp_ne (tgt := 49) hx hb dX8_next_41 (by decide) (fun _ => ?_) (fun hh => absurd hh (by decide))
  refine lv_aload_n hx hb dX8_next_49 rfl (lv_at hl 0 rfl) ?_
  refine va_get (D := D) (ci := 7) (v := .int σ.2.2) (C := RX8) (T := TX8) (N := 13) hx hb hts hi_X8 hown hK hP 0 rfl rfl 12 (by decide) hf_117 (fun _ h9 => h9) rfl dX8_next_50 ?_
  refine lv_if_ne (tgt := 70) hx hb dX8_next_53 (by decide) (fun c_53_1 => ?_) (fun c_53_1 => ?_)
  · have hP : va_P D vwCl [(h0, .inr (7, [.ref kq, .ref sq, .int kz, .int sz, .int 3, .int (gv + 1), .ref cq, .ref tq, .ref rq, .int ((ex_need σ).1.2.1), .int ((ex_need σ).1.2.2), .int ((ex_need σ).2.1), .int ((ex_need σ).2.2)])), (rq, .inl (rA, 256, .inl ((ex_need σ).1.1)))] H := by rw [ex_need, if_neg c_53_1]; exact hP
    have hD : va_D A [(h0, .inr (7, [.ref kq, .ref sq, .int kz, .int sz, .int 3, .int (gv + 1), .ref cq, .ref tq, .ref rq, .int ((ex_need σ).1.2.1), .int ((ex_need σ).1.2.2), .int ((ex_need σ).2.1), .int ((ex_need σ).2.2)])), (rq, .inl (rA, 256, .inl ((ex_need σ).1.1)))] := by rw [ex_need, if_neg c_53_1]; exact hD
    refine lv_aload_n hx hb dX8_next_70 rfl (lv_at hl 0 rfl) ?_
    refine lv_dup hx hb dX8_next_71 rfl ?_
    refine va_get (D := D) (ci := 7) (v := .int ((ex_need σ).2.2)) (C := RX8) (T := TX8) (N := 13) hx hb hts hi_X8 hown hK hP 0 rfl rfl 12 (by decide) hf_117 (fun _ h9 => h9) rfl dX8_next_72 ?_
    refine lv_iconst (v := 1) hx hb dX8_next_75 (by decide) ?_
    refine lv_isub hx hb dX8_next_76 ?_
    refine va_put (D := D) (ci := 7) (v := .int (((ex_need σ).2.2) - 1)) (ty := .int) (C := RX8) (T := TX8) (N := 13) hx hb hts hi_X8 tyX8 tyX8_ok nmX8 hown hK hP hD hS 0 rfl rfl 12 (by decide) hf_117 (fun _ h9 => h9) rfl (by decide +kernel) rfl rfl (Nat.le_of_ble_eq_true rfl) dX8_next_77 (fun H locs hP hD hS => ?_)
    have hP : va_P D vwCl [(h0, .inr (7, [.ref kq, .ref sq, .int kz, .int sz, .int 3, .int (gv + 1), .ref cq, .ref tq, .ref rq, .int ((ex_need σ).1.2.1), .int ((ex_need σ).1.2.2), .int ((ex_need σ).2.1), .int (((ex_need σ).2.2) - 1)])), (rq, .inl (rA, 256, .inl ((ex_need σ).1.1)))] H := hP
    have hD : va_D A [(h0, .inr (7, [.ref kq, .ref sq, .int kz, .int sz, .int 3, .int (gv + 1), .ref cq, .ref tq, .ref rq, .int ((ex_need σ).1.2.1), .int ((ex_need σ).1.2.2), .int ((ex_need σ).2.1), .int (((ex_need σ).2.2) - 1)])), (rq, .inl (rA, 256, .inl ((ex_need σ).1.1)))] := hD
    refine lv_aload_n hx hb dX8_next_80 rfl (lv_at hl 0 rfl) ?_
    refine va_get (D := D) (ci := 7) (v := .int ((ex_need σ).2.1)) (C := RX8) (T := TX8) (N := 13) hx hb hts hi_X8 hown hK hP 0 rfl rfl 11 (by decide) hf_123 (fun _ h9 => h9) rfl dX8_next_81 ?_
    refine lv_aload_n hx hb dX8_next_84 rfl (lv_at hl 0 rfl) ?_
    refine va_get (D := D) (ci := 7) (v := .int (((ex_need σ).2.2) - 1)) (C := RX8) (T := TX8) (N := 13) hx hb hts hi_X8 hown hK hP 0 rfl rfl 12 (by decide) hf_117 (fun _ h9 => h9) rfl dX8_next_85 ?_
    refine lv_ishr hx hb dX8_next_88 ?_
    refine lv_iconst (v := 1) hx hb dX8_next_89 (by decide) ?_
    refine lv_iand hx hb dX8_next_90 ?_
    exact ct_zret hx hb hr hlk hP hK hD hS rfl rfl dX8_next_91
  · refine lv_aload_n hx hb dX8_next_56 rfl (lv_at hl 0 rfl) ?_
    refine lv_aload_n hx hb dX8_next_57 rfl (lv_at hl 0 rfl) ?_
    refine ct_callVi (As := []) (rest := [.ref h0]) (wr := []) (ws2 := [(h0, .inr (7, [.ref kq, .ref sq, .int kz, .int sz, .int 3, .int (gv + 1), .ref cq, .ref tq, .ref rq, .int ((ex_stepB σ.1).2.1), .int ((ex_stepB σ.1).2.2), .int σ.2.1, .int σ.2.2])), (rq, .inl (rA, 256, .inl ((ex_stepB σ.1).1)))]) ⟨hx, hb, hml, hown, hts⟩ (c_md_byte l D h0 kq sq cq tq rq kz sz 3 (gv + 1) σ.2.1 σ.2.2 rA σ.1) cw_X8_stepByte [0] rfl [0, 1] [] [0, 1] hF hK hP hD hS hA 0 7 rfl rfl rfl rfl (by decide) rfl (by decide) (by decide) rfl (by decide) rfl hl.1 rfl (Nat.le_of_ble_eq_true rfl) dX8_next_58 ⟨Nat.zero_le _, Nat.zero_le _⟩ (fun H locs hP hD hS => ?_)
    refine va_put (D := D) (ci := 7) (v := .int (ex_byte σ.1)) (ty := .int) (C := RX8) (T := TX8) (N := 13) hx hb hts hi_X8 tyX8 tyX8_ok nmX8 hown hK hP hD hS 0 rfl rfl 11 (by decide) hf_123 (fun _ h9 => h9) rfl (by decide +kernel) rfl rfl (Nat.le_of_ble_eq_true rfl) dX8_next_61 (fun H locs hP hD hS => ?_)
    have hP : va_P D vwCl [(h0, .inr (7, [.ref kq, .ref sq, .int kz, .int sz, .int 3, .int (gv + 1), .ref cq, .ref tq, .ref rq, .int ((ex_stepB σ.1).2.1), .int ((ex_stepB σ.1).2.2), .int (ex_byte σ.1), .int σ.2.2])), (rq, .inl (rA, 256, .inl ((ex_stepB σ.1).1)))] H := hP
    have hD : va_D A [(h0, .inr (7, [.ref kq, .ref sq, .int kz, .int sz, .int 3, .int (gv + 1), .ref cq, .ref tq, .ref rq, .int ((ex_stepB σ.1).2.1), .int ((ex_stepB σ.1).2.2), .int (ex_byte σ.1), .int σ.2.2])), (rq, .inl (rA, 256, .inl ((ex_stepB σ.1).1)))] := hD
    refine lv_aload_n hx hb dX8_next_64 rfl (lv_at hl 0 rfl) ?_
    refine lv_bipush (v := 8) hx hb dX8_next_65 (by decide) ?_
    refine va_put (D := D) (ci := 7) (v := .int 8) (ty := .int) (C := RX8) (T := TX8) (N := 13) hx hb hts hi_X8 tyX8 tyX8_ok nmX8 hown hK hP hD hS 0 rfl rfl 12 (by decide) hf_117 (fun _ h9 => h9) rfl (by decide +kernel) rfl rfl (Nat.le_of_ble_eq_true rfl) dX8_next_67 (fun H locs hP hD hS => ?_)
    have hP : va_P D vwCl [(h0, .inr (7, [.ref kq, .ref sq, .int kz, .int sz, .int 3, .int (gv + 1), .ref cq, .ref tq, .ref rq, .int ((ex_stepB σ.1).2.1), .int ((ex_stepB σ.1).2.2), .int (ex_byte σ.1), .int 8])), (rq, .inl (rA, 256, .inl ((ex_stepB σ.1).1)))] H := hP
    have hD : va_D A [(h0, .inr (7, [.ref kq, .ref sq, .int kz, .int sz, .int 3, .int (gv + 1), .ref cq, .ref tq, .ref rq, .int ((ex_stepB σ.1).2.1), .int ((ex_stepB σ.1).2.2), .int (ex_byte σ.1), .int 8])), (rq, .inl (rA, 256, .inl ((ex_stepB σ.1).1)))] := hD
    have hP : va_P D vwCl [(h0, .inr (7, [.ref kq, .ref sq, .int kz, .int sz, .int 3, .int (gv + 1), .ref cq, .ref tq, .ref rq, .int ((ex_need σ).1.2.1), .int ((ex_need σ).1.2.2), .int ((ex_need σ).2.1), .int ((ex_need σ).2.2)])), (rq, .inl (rA, 256, .inl ((ex_need σ).1.1)))] H := by rw [ex_need, if_pos c_53_1]; exact hP
    have hD : va_D A [(h0, .inr (7, [.ref kq, .ref sq, .int kz, .int sz, .int 3, .int (gv + 1), .ref cq, .ref tq, .ref rq, .int ((ex_need σ).1.2.1), .int ((ex_need σ).1.2.2), .int ((ex_need σ).2.1), .int ((ex_need σ).2.2)])), (rq, .inl (rA, 256, .inl ((ex_need σ).1.1)))] := by rw [ex_need, if_pos c_53_1]; exact hD
    refine lv_aload_n hx hb dX8_next_70 rfl (lv_at hl 0 rfl) ?_
    refine lv_dup hx hb dX8_next_71 rfl ?_
    refine va_get (D := D) (ci := 7) (v := .int ((ex_need σ).2.2)) (C := RX8) (T := TX8) (N := 13) hx hb hts hi_X8 hown hK hP 0 rfl rfl 12 (by decide) hf_117 (fun _ h9 => h9) rfl dX8_next_72 ?_
    refine lv_iconst (v := 1) hx hb dX8_next_75 (by decide) ?_
    refine lv_isub hx hb dX8_next_76 ?_
    refine va_put (D := D) (ci := 7) (v := .int (((ex_need σ).2.2) - 1)) (ty := .int) (C := RX8) (T := TX8) (N := 13) hx hb hts hi_X8 tyX8 tyX8_ok nmX8 hown hK hP hD hS 0 rfl rfl 12 (by decide) hf_117 (fun _ h9 => h9) rfl (by decide +kernel) rfl rfl (Nat.le_of_ble_eq_true rfl) dX8_next_77 (fun H locs hP hD hS => ?_)
    have hP : va_P D vwCl [(h0, .inr (7, [.ref kq, .ref sq, .int kz, .int sz, .int 3, .int (gv + 1), .ref cq, .ref tq, .ref rq, .int ((ex_need σ).1.2.1), .int ((ex_need σ).1.2.2), .int ((ex_need σ).2.1), .int (((ex_need σ).2.2) - 1)])), (rq, .inl (rA, 256, .inl ((ex_need σ).1.1)))] H := hP
    have hD : va_D A [(h0, .inr (7, [.ref kq, .ref sq, .int kz, .int sz, .int 3, .int (gv + 1), .ref cq, .ref tq, .ref rq, .int ((ex_need σ).1.2.1), .int ((ex_need σ).1.2.2), .int ((ex_need σ).2.1), .int (((ex_need σ).2.2) - 1)])), (rq, .inl (rA, 256, .inl ((ex_need σ).1.1)))] := hD
    refine lv_aload_n hx hb dX8_next_80 rfl (lv_at hl 0 rfl) ?_
    refine va_get (D := D) (ci := 7) (v := .int ((ex_need σ).2.1)) (C := RX8) (T := TX8) (N := 13) hx hb hts hi_X8 hown hK hP 0 rfl rfl 11 (by decide) hf_123 (fun _ h9 => h9) rfl dX8_next_81 ?_
    refine lv_aload_n hx hb dX8_next_84 rfl (lv_at hl 0 rfl) ?_
    refine va_get (D := D) (ci := 7) (v := .int (((ex_need σ).2.2) - 1)) (C := RX8) (T := TX8) (N := 13) hx hb hts hi_X8 hown hK hP 0 rfl rfl 12 (by decide) hf_117 (fun _ h9 => h9) rfl dX8_next_85 ?_
    refine lv_ishr hx hb dX8_next_88 ?_
    refine lv_iconst (v := 1) hx hb dX8_next_89 (by decide) ?_
    refine lv_iand hx hb dX8_next_90 ?_
    exact ct_zret hx hb hr hlk hP hK hD hS rfl rfl dX8_next_91
set_option maxHeartbeats 4000000 in
set_option maxRecDepth 100000 in
/-- Model.skip, no machine -/
theorem c_md_skipN (l : Launch) (D : va_G) (h0 kq sq cq tq rq : Nat) (kz sz gv ri rj bn lf : Int32) (n : Int32) : Cti l D yX8_skip wsX8_skip ({ frames := 6, cells := 0, slots := 0, locals := 190 } : Room) [.ref h0, .int n] [] [(h0, .inr (7, [.ref kq, .ref sq, .int kz, .int sz, .int (-1), .int gv, .ref cq, .ref tq, .ref rq, .int ri, .int rj, .int bn, .int lf]))] [(h0, .inr (7, [.ref kq, .ref sq, .int kz, .int sz, .int (-1), .int gv, .ref cq, .ref tq, .ref rq, .int ri, .int rj, .int bn, .int lf]))] 0 := by
  refine ct_of (cc := cX8_skip) (maxL := 3) (ret := (some .boolean)) (by decide) rfl (Nat.le_of_ble_eq_true rfl) ?_
  intro p e s m below meth c A H locs ls hx hb hr hml hts hown hlk hnm hF hP hK hD hA hS hl
  have hown : s.vm.findClass RX8 = some m.cls := hown
  have hl : lv_has ls 3 [(0, .ref h0), (1, .int n)] := hl
  have hf_16 := hts (.fieldLink RX8 16 "BitStreamsModel" "machine" "I") (by decide +kernel)
  have hi_X8 : ∀ w ∈ u_ws RX8 TX8 13, w ∈ wsX8_skip := by decide +kernel
  refine lv_aload_n hx hb dX8_skip_0 rfl (lv_at hl 0 rfl) ?_
  refine va_get (D := D) (ci := 7) (v := .int (-1)) (C := RX8) (T := TX8) (N := 13) hx hb hts hi_X8 hown hK hP 0 rfl rfl 4 (by decide) hf_16 (fun _ h9 => h9) rfl dX8_skip_1 ?_
  refine lv_if_lt (tgt := 18) hx hb dX8_skip_4 (by decide) (fun _ => ?_) (fun hh => absurd (by decide) hh)
  refine lv_iconst (v := 0) hx hb dX8_skip_18 (by decide) ?_
  exact ct_zret hx hb hr hlk hP hK hD hS rfl rfl dX8_skip_19
set_option maxHeartbeats 4000000 in
set_option maxRecDepth 100000 in
/-- Model.skip, refused -/
theorem c_md_skipF (l : Launch) (D : va_G) (h0 kq sq cq tq rq : Nat) (kz sz mc gv ri rj bn lf : Int32) (n : Int32) (hm : ¬ mc < 0) (hn : ¬ (¬ n < 0 ∧ n ≤ 5000)) : Cti l D yX8_skip wsX8_skip ({ frames := 6, cells := 0, slots := 0, locals := 190 } : Room) [.ref h0, .int n] [] [(h0, .inr (7, [.ref kq, .ref sq, .int kz, .int sz, .int mc, .int gv, .ref cq, .ref tq, .ref rq, .int ri, .int rj, .int bn, .int lf]))] [(h0, .inr (7, [.ref kq, .ref sq, .int kz, .int sz, .int mc, .int gv, .ref cq, .ref tq, .ref rq, .int ri, .int rj, .int bn, .int lf]))] 0 := by
  refine ct_of (cc := cX8_skip) (maxL := 3) (ret := (some .boolean)) (by decide) rfl (Nat.le_of_ble_eq_true rfl) ?_
  intro p e s m below meth c A H locs ls hx hb hr hml hts hown hlk hnm hF hP hK hD hA hS hl
  have hown : s.vm.findClass RX8 = some m.cls := hown
  have hl : lv_has ls 3 [(0, .ref h0), (1, .int n)] := hl
  have hf_16 := hts (.fieldLink RX8 16 "BitStreamsModel" "machine" "I") (by decide +kernel)
  have hi_X8 : ∀ w ∈ u_ws RX8 TX8 13, w ∈ wsX8_skip := by decide +kernel
  refine lv_aload_n hx hb dX8_skip_0 rfl (lv_at hl 0 rfl) ?_
  refine va_get (D := D) (ci := 7) (v := .int mc) (C := RX8) (T := TX8) (N := 13) hx hb hts hi_X8 hown hK hP 0 rfl rfl 4 (by decide) hf_16 (fun _ h9 => h9) rfl dX8_skip_1 ?_
  refine lv_if_lt (tgt := 18) hx hb dX8_skip_4 (by decide) (fun hh => absurd hh hm) (fun _ => ?_)
  refine lv_iload_n hx hb dX8_skip_7 rfl (lv_at hl 1 rfl) ?_
  refine lv_if_lt (tgt := 18) hx hb dX8_skip_8 (by decide) (fun c_8_1 => ?_) (fun c_8_1 => ?_)
  · refine lv_iconst (v := 0) hx hb dX8_skip_18 (by decide) ?_
    exact ct_zret hx hb hr hlk hP hK hD hS rfl rfl dX8_skip_19
  · refine lv_iload_n hx hb dX8_skip_11 rfl (lv_at hl 1 rfl) ?_
    refine lv_sipush (v := 5000) hx hb dX8_skip_12 (by decide) ?_
    refine lv_icmp_le (tgt := 20) hx hb dX8_skip_15 (by decide) (fun hh => absurd hh (fun hle => hn ⟨c_8_1, hle⟩)) (fun _ => ?_)
    refine lv_iconst (v := 0) hx hb dX8_skip_18 (by decide) ?_
    exact ct_zret hx hb hr hlk hP hK hD hS rfl rfl dX8_skip_19
set_option maxHeartbeats 4000000 in
set_option maxRecDepth 100000 in
/-- Model.mix, no machine -/
theorem c_md_mixN (l : Launch) (D : va_G) (h0 kq sq cq tq rq : Nat) (kz sz gv ri rj bn lf : Int32) (v : Int64) (n : Int32) : Ctl l D yX8_mix wsX8_mix ({ frames := 6, cells := 0, slots := 0, locals := 190 } : Room) [.ref h0, .long v, .int n] [] [(h0, .inr (7, [.ref kq, .ref sq, .int kz, .int sz, .int (-1), .int gv, .ref cq, .ref tq, .ref rq, .int ri, .int rj, .int bn, .int lf]))] [(h0, .inr (7, [.ref kq, .ref sq, .int kz, .int sz, .int (-1), .int gv, .ref cq, .ref tq, .ref rq, .int ri, .int rj, .int bn, .int lf]))] 0 := by
  refine ct_of (cc := cX8_mix) (maxL := 7) (ret := (some .long)) (by decide) rfl (Nat.le_of_ble_eq_true rfl) ?_
  intro p e s m below meth c A H locs ls hx hb hr hml hts hown hlk hnm hF hP hK hD hA hS hl
  have hown : s.vm.findClass RX8 = some m.cls := hown
  have hl : lv_has ls 7 [(0, .ref h0), (1, .long v), (3, .int n)] := hl
  have hf_16 := hts (.fieldLink RX8 16 "BitStreamsModel" "machine" "I") (by decide +kernel)
  have hi_X8 : ∀ w ∈ u_ws RX8 TX8 13, w ∈ wsX8_mix := by decide +kernel
  refine lv_aload_n hx hb dX8_mix_0 rfl (lv_at hl 0 rfl) ?_
  refine va_get (D := D) (ci := 7) (v := .int (-1)) (C := RX8) (T := TX8) (N := 13) hx hb hts hi_X8 hown hK hP 0 rfl rfl 4 (by decide) hf_16 (fun _ h9 => h9) rfl dX8_mix_1 ?_
  refine lv_if_lt (tgt := 18) hx hb dX8_mix_4 (by decide) (fun _ => ?_) (fun hh => absurd (by decide) hh)
  refine lv_lconst (v := 0) hx hb dX8_mix_18 (by decide) ?_
  exact ct_lret hx hb hr hlk hP hK hD hS rfl dX8_mix_19
set_option maxHeartbeats 4000000 in
set_option maxRecDepth 100000 in
/-- Model.mix, refused -/
theorem c_md_mixF (l : Launch) (D : va_G) (h0 kq sq cq tq rq : Nat) (kz sz mc gv ri rj bn lf : Int32) (v : Int64) (n : Int32) (hm : ¬ mc < 0) (hn : ¬ (¬ n < 1 ∧ n ≤ 64)) : Ctl l D yX8_mix wsX8_mix ({ frames := 6, cells := 0, slots := 0, locals := 190 } : Room) [.ref h0, .long v, .int n] [] [(h0, .inr (7, [.ref kq, .ref sq, .int kz, .int sz, .int mc, .int gv, .ref cq, .ref tq, .ref rq, .int ri, .int rj, .int bn, .int lf]))] [(h0, .inr (7, [.ref kq, .ref sq, .int kz, .int sz, .int mc, .int gv, .ref cq, .ref tq, .ref rq, .int ri, .int rj, .int bn, .int lf]))] 0 := by
  refine ct_of (cc := cX8_mix) (maxL := 7) (ret := (some .long)) (by decide) rfl (Nat.le_of_ble_eq_true rfl) ?_
  intro p e s m below meth c A H locs ls hx hb hr hml hts hown hlk hnm hF hP hK hD hA hS hl
  have hown : s.vm.findClass RX8 = some m.cls := hown
  have hl : lv_has ls 7 [(0, .ref h0), (1, .long v), (3, .int n)] := hl
  have hf_16 := hts (.fieldLink RX8 16 "BitStreamsModel" "machine" "I") (by decide +kernel)
  have hi_X8 : ∀ w ∈ u_ws RX8 TX8 13, w ∈ wsX8_mix := by decide +kernel
  refine lv_aload_n hx hb dX8_mix_0 rfl (lv_at hl 0 rfl) ?_
  refine va_get (D := D) (ci := 7) (v := .int mc) (C := RX8) (T := TX8) (N := 13) hx hb hts hi_X8 hown hK hP 0 rfl rfl 4 (by decide) hf_16 (fun _ h9 => h9) rfl dX8_mix_1 ?_
  refine lv_if_lt (tgt := 18) hx hb dX8_mix_4 (by decide) (fun hh => absurd hh hm) (fun _ => ?_)
  refine lv_iload_n hx hb dX8_mix_7 rfl (lv_at hl 2 rfl) ?_
  refine lv_iconst (v := 1) hx hb dX8_mix_8 (by decide) ?_
  refine lv_icmp_lt (tgt := 18) hx hb dX8_mix_9 (by decide) (fun c_9_1 => ?_) (fun c_9_1 => ?_)
  · refine lv_lconst (v := 0) hx hb dX8_mix_18 (by decide) ?_
    exact ct_lret hx hb hr hlk hP hK hD hS rfl dX8_mix_19
  · refine lv_iload_n hx hb dX8_mix_12 rfl (lv_at hl 2 rfl) ?_
    refine lv_bipush (v := 64) hx hb dX8_mix_13 (by decide) ?_
    refine lv_icmp_le (tgt := 20) hx hb dX8_mix_15 (by decide) (fun hh => absurd hh (fun hle => hn ⟨c_9_1, hle⟩)) (fun _ => ?_)
    refine lv_lconst (v := 0) hx hb dX8_mix_18 (by decide) ?_
    exact ct_lret hx hb hr hlk hP hK hD hS rfl dX8_mix_19
/-- what the reference's mix makes: the bits from k on, of v and of the machine -/
def mds {α : Type} (f : α → α) (o : α → Int32) (σ : α) (v : Int64) (n : Nat) : Nat → Int64
  | 0 => 0
  | j + 1 => lL (mds f o σ v n j) 1 ||| ((lR v (nI (n - 1 - j)) &&& 1) ^^^ (o (mit f σ j)).toInt64)
set_option maxHeartbeats 4000000 in
set_option maxRecDepth 100000 in
/-- Model.skip, machine 0 -/
theorem c_md_skip0 (l : Launch) (D : va_G) (h0 kq sq cq tq rq : Nat) (kz sz gv ri rj bn lf : Int32) (cA tA : ClassId) (σ : MR) (n : Nat) (hn : n ≤ 5000) : Cti l D yX8_skip wsX8_skip ({ frames := 6, cells := 0, slots := 0, locals := 190 } : Room) [.ref h0, .int (nI n)] [(cA, .int), (tA, .int)] [(h0, .inr (7, [.ref kq, .ref sq, .int kz, .int sz, .int 0, .int gv, .ref cq, .ref tq, .ref rq, .int ri, .int rj, .int bn, .int lf])), (cq, .inl (cA, 384, .inl σ.1)), (tq, .inl (tA, 3, .inl σ.2))] [(h0, .inr (7, [.ref kq, .ref sq, .int kz, .int sz, .int 0, .int (gv + nI n), .ref cq, .ref tq, .ref rq, .int ri, .int rj, .int bn, .int lf])), (cq, .inl (cA, 384, .inl ((mit md_rstep σ n).1))), (tq, .inl (tA, 3, .inl ((mit md_rstep σ n).2)))] 1 := by
  refine ct_of (cc := cX8_skip) (maxL := 3) (ret := (some .boolean)) (by decide) rfl (Nat.le_of_ble_eq_true rfl) ?_
  intro p e s m below meth c A H locs ls hx hb hr hml hts hown hlk hnm hF hP hK hD hA hS hl
  have hown : s.vm.findClass RX8 = some m.cls := hown
  have hl : lv_has ls 3 [(0, .ref h0), (1, .int (nI n))] := hl
  have hf_16 := hts (.fieldLink RX8 16 "BitStreamsModel" "machine" "I") (by decide +kernel)
  have hi_X8 : ∀ w ∈ u_ws RX8 TX8 13, w ∈ wsX8_skip := by decide +kernel
  have cw_X8_next := cwV (R := ({ frames := 6, cells := 0, slots := 0, locals := 190 } : Room)) (rm := ({ frames := 5, cells := 0, slots := 0, locals := 150 } : Room)) 0 hts gX8_skip_X8_next rfl rfl rfl (by decide +kernel) ⟨Nat.le_of_ble_eq_true rfl, Nat.le_of_ble_eq_true rfl⟩
  refine lv_aload_n hx hb dX8_skip_0 rfl (lv_at hl 0 rfl) ?_
  refine va_get (D := D) (ci := 7) (v := .int 0) (C := RX8) (T := TX8) (N := 13) hx hb hts hi_X8 hown hK hP 0 rfl rfl 4 (by decide) hf_16 (fun _ h9 => h9) rfl dX8_skip_1 ?_
  refine lv_if_lt (tgt := 18) hx hb dX8_skip_4 (by decide) (fun hh => absurd hh (by decide)) (fun _ => ?_)
  refine lv_iload_n hx hb dX8_skip_7 rfl (lv_at hl 1 rfl) ?_
  refine lv_if_lt (tgt := 18) hx hb dX8_skip_8 (by decide) (fun hh => absurd hh (nI_pos (by omega))) (fun _ => ?_)
  refine lv_iload_n hx hb dX8_skip_11 rfl (lv_at hl 1 rfl) ?_
  refine lv_sipush (v := 5000) hx hb dX8_skip_12 (by decide) ?_
  refine lv_icmp_le (tgt := 20) hx hb dX8_skip_15 (by decide) (fun _ => ?_) (fun hh => absurd (nI_le hn (by decide)) hh)
  refine lv_iconst (v := 0) hx hb dX8_skip_20 (by decide) ?_
  refine lv_istore_n (lv' := [(2, .int 0), (0, .ref h0), (1, .int (nI n))]) hx hb dX8_skip_21 rfl hl (by decide) rfl (fun ls hl => ?_)
  refine ct_count n (fun k : Nat => [(h0, .inr (7, [.ref kq, .ref sq, .int kz, .int sz, .int 0, .int (mgv gv k), .ref cq, .ref tq, .ref rq, .int ri, .int rj, .int bn, .int lf])), (cq, .inl (cA, 384, .inl ((mit md_rstep σ k).1))), (tq, .inl (tA, 3, .inl ((mit md_rstep σ k).2)))]) (fun k : Nat => [(2, .int (nI k)), (0, .ref h0), (1, .int (nI n))]) ?_ ?_ 0 (Nat.zero_le _) hP hD hS (lv_sub hl [0, 1, 2] rfl)
  · intro k hk ih22 H locs ls hP hD hS hl
    have hP : va_P D vwCl [(h0, .inr (7, [.ref kq, .ref sq, .int kz, .int sz, .int 0, .int (mgv gv k), .ref cq, .ref tq, .ref rq, .int ri, .int rj, .int bn, .int lf])), (cq, .inl (cA, 384, .inl ((mit md_rstep σ k).1))), (tq, .inl (tA, 3, .inl ((mit md_rstep σ k).2)))] H := hP
    have hD : va_D A [(h0, .inr (7, [.ref kq, .ref sq, .int kz, .int sz, .int 0, .int (mgv gv k), .ref cq, .ref tq, .ref rq, .int ri, .int rj, .int bn, .int lf])), (cq, .inl (cA, 384, .inl ((mit md_rstep σ k).1))), (tq, .inl (tA, 3, .inl ((mit md_rstep σ k).2)))] := hD
    have hl : lv_has ls 3 [(2, .int (nI k)), (0, .ref h0), (1, .int (nI n))] := hl
    refine lv_iload_n hx hb dX8_skip_22 rfl (lv_at hl 0 rfl) ?_
    refine lv_iload_n hx hb dX8_skip_23 rfl (lv_at hl 2 rfl) ?_
    refine lv_icmp_ge (tgt := 38) hx hb dX8_skip_24 (by decide) (fun hh => absurd hh (nI_ge hk (by omega))) (fun _ => ?_)
    refine lv_aload_n hx hb dX8_skip_27 rfl (lv_at hl 1 rfl) ?_
    refine ct_callVi (As := []) (rest := []) (wr := []) (ws2 := [(h0, .inr (7, [.ref kq, .ref sq, .int kz, .int sz, .int 0, .int ((mgv gv k) + 1), .ref cq, .ref tq, .ref rq, .int ri, .int rj, .int bn, .int lf])), (cq, .inl (cA, 384, .inl ((md_rstep (mit md_rstep σ k)).1))), (tq, .inl (tA, 3, .inl ((md_rstep (mit md_rstep σ k)).2)))]) ⟨hx, hb, hml, hown, hts⟩ (c_md_next0 l D h0 kq sq cq tq rq kz sz (mgv gv k) ri rj bn lf cA tA (mit md_rstep σ k)) cw_X8_next [0, 1] rfl [0, 1, 2] [] [0, 1, 2] hF hK hP hD hS hA 0 7 rfl rfl rfl rfl (by decide) rfl (by decide) (by decide) rfl (by decide) rfl hl.1 rfl (Nat.le_of_ble_eq_true rfl) dX8_skip_28 ⟨Nat.zero_le _, Nat.zero_le _⟩ (fun H locs hP hD hS => ?_)
    refine lv_pop hx hb dX8_skip_31 rfl ?_
    refine lv_iinc (v := nI (k + 1)) (lv' := [(2, .int (nI (k + 1))), (0, .ref h0), (1, .int (nI n))]) hx hb dX8_skip_32 hl (k := 0) rfl (ct_inc k) (by decide) rfl (fun ls hl => ?_)
    refine lv_goto (tgt := 22) hx hb dX8_skip_35 (by decide) ?_
    exact ih22 H locs ls hP hD hS (lv_sub hl [0, 1, 2] rfl)
  · intro H locs ls hP hD hS hl
    have hP : va_P D vwCl [(h0, .inr (7, [.ref kq, .ref sq, .int kz, .int sz, .int 0, .int (mgv gv n), .ref cq, .ref tq, .ref rq, .int ri, .int rj, .int bn, .int lf])), (cq, .inl (cA, 384, .inl ((mit md_rstep σ n).1))), (tq, .inl (tA, 3, .inl ((mit md_rstep σ n).2)))] H := hP
    have hD : va_D A [(h0, .inr (7, [.ref kq, .ref sq, .int kz, .int sz, .int 0, .int (mgv gv n), .ref cq, .ref tq, .ref rq, .int ri, .int rj, .int bn, .int lf])), (cq, .inl (cA, 384, .inl ((mit md_rstep σ n).1))), (tq, .inl (tA, 3, .inl ((mit md_rstep σ n).2)))] := hD
    have hl : lv_has ls 3 [(2, .int (nI n)), (0, .ref h0), (1, .int (nI n))] := hl
    refine lv_iload_n hx hb dX8_skip_22 rfl (lv_at hl 0 rfl) ?_
    refine lv_iload_n hx hb dX8_skip_23 rfl (lv_at hl 2 rfl) ?_
    refine lv_icmp_ge (tgt := 38) hx hb dX8_skip_24 (by decide) (fun _ => ?_) (fun hh => absurd (Int32.le_refl _) hh)
    refine lv_iconst (v := 1) hx hb dX8_skip_38 (by decide) ?_
    rw [mgv_e] at hP hD
    exact ct_zret hx hb hr hlk hP hK hD hS rfl rfl dX8_skip_39
set_option maxHeartbeats 4000000 in
set_option maxRecDepth 100000 in
/-- Model.mix, machine 0 -/
theorem c_md_mix0 (l : Launch) (D : va_G) (h0 kq sq cq tq rq : Nat) (kz sz gv ri rj bn lf : Int32) (cA tA : ClassId) (σ : MR) (v : Int64) (n : Nat) (hn1 : 1 ≤ n) (hn : n ≤ 64) : Ctl l D yX8_mix wsX8_mix ({ frames := 6, cells := 0, slots := 0, locals := 190 } : Room) [.ref h0, .long v, .int (nI n)] [(cA, .int), (tA, .int)] [(h0, .inr (7, [.ref kq, .ref sq, .int kz, .int sz, .int 0, .int gv, .ref cq, .ref tq, .ref rq, .int ri, .int rj, .int bn, .int lf])), (cq, .inl (cA, 384, .inl σ.1)), (tq, .inl (tA, 3, .inl σ.2))] [(h0, .inr (7, [.ref kq, .ref sq, .int kz, .int sz, .int 0, .int (gv + nI n), .ref cq, .ref tq, .ref rq, .int ri, .int rj, .int bn, .int lf])), (cq, .inl (cA, 384, .inl ((mit md_rstep σ n).1))), (tq, .inl (tA, 3, .inl ((mit md_rstep σ n).2)))] (mds md_rstep md_rout σ v n n) := by
  refine ct_of (cc := cX8_mix) (maxL := 7) (ret := (some .long)) (by decide) rfl (Nat.le_of_ble_eq_true rfl) ?_
  intro p e s m below meth c A H locs ls hx hb hr hml hts hown hlk hnm hF hP hK hD hA hS hl
  have hown : s.vm.findClass RX8 = some m.cls := hown
  have hl : lv_has ls 7 [(0, .ref h0), (1, .long v), (3, .int (nI n))] := hl
  have hf_16 := hts (.fieldLink RX8 16 "BitStreamsModel" "machine" "I") (by decide +kernel)
  have hi_X8 : ∀ w ∈ u_ws RX8 TX8 13, w ∈ wsX8_mix := by decide +kernel
  have cw_X8_next := cwV (R := ({ frames := 6, cells := 0, slots := 0, locals := 190 } : Room)) (rm := ({ frames := 5, cells := 0, slots := 0, locals := 150 } : Room)) 0 hts gX8_mix_X8_next rfl rfl rfl (by decide +kernel) ⟨Nat.le_of_ble_eq_true rfl, Nat.le_of_ble_eq_true rfl⟩
  refine lv_aload_n hx hb dX8_mix_0 rfl (lv_at hl 0 rfl) ?_
  refine va_get (D := D) (ci := 7) (v := .int 0) (C := RX8) (T := TX8) (N := 13) hx hb hts hi_X8 hown hK hP 0 rfl rfl 4 (by decide) hf_16 (fun _ h9 => h9) rfl dX8_mix_1 ?_
  refine lv_if_lt (tgt := 18) hx hb dX8_mix_4 (by decide) (fun hh => absurd hh (by decide)) (fun _ => ?_)
  refine lv_iload_n hx hb dX8_mix_7 rfl (lv_at hl 2 rfl) ?_
  refine lv_iconst (v := 1) hx hb dX8_mix_8 (by decide) ?_
  refine lv_icmp_lt (tgt := 18) hx hb dX8_mix_9 (by decide) (fun hh => absurd hh (nI_nlt (a := n) (b := 1) hn1 (by omega))) (fun _ => ?_)
  refine lv_iload_n hx hb dX8_mix_12 rfl (lv_at hl 2 rfl) ?_
  refine lv_bipush (v := 64) hx hb dX8_mix_13 (by decide) ?_
  refine lv_icmp_le (tgt := 20) hx hb dX8_mix_15 (by decide) (fun _ => ?_) (fun hh => absurd (nI_le (b := 64) hn (by decide)) hh)
  refine lv_lconst (v := 0) hx hb dX8_mix_20 (by decide) ?_
  refine lv_lstore (lv' := [(4, .long 0), (0, .ref h0), (1, .long v), (3, .int (nI n))]) hx hb dX8_mix_21 hl (by decide) rfl (fun ls hl => ?_)
  refine lv_iload_n hx hb dX8_mix_23 rfl (lv_at hl 3 rfl) ?_
  refine lv_iconst (v := 1) hx hb dX8_mix_24 (by decide) ?_
  refine lv_isub hx hb dX8_mix_25 ?_
  refine lv_istore (lv' := [(6, .int ((nI n) - 1)), (4, .long 0), (0, .ref h0), (1, .long v), (3, .int (nI n))]) hx hb dX8_mix_26 hl (by decide) rfl (fun ls hl => ?_)
  have hP : va_P D vwCl [(h0, .inr (7, [.ref kq, .ref sq, .int kz, .int sz, .int 0, .int (mgv gv (n - n)), .ref cq, .ref tq, .ref rq, .int ri, .int rj, .int bn, .int lf])), (cq, .inl (cA, 384, .inl ((mit md_rstep σ (n - n)).1))), (tq, .inl (tA, 3, .inl ((mit md_rstep σ (n - n)).2)))] H := by rw [Nat.sub_self]; exact hP
  have hD : va_D A [(h0, .inr (7, [.ref kq, .ref sq, .int kz, .int sz, .int 0, .int (mgv gv (n - n)), .ref cq, .ref tq, .ref rq, .int ri, .int rj, .int bn, .int lf])), (cq, .inl (cA, 384, .inl ((mit md_rstep σ (n - n)).1))), (tq, .inl (tA, 3, .inl ((mit md_rstep σ (n - n)).2)))] := by rw [Nat.sub_self]; exact hD
  have hl : lv_has ls 7 [(6, .int (nI n - 1)), (4, .long (mds md_rstep md_rout σ v n (n - n))), (0, .ref h0), (1, .long v)] := by rw [Nat.sub_self]; exact lv_sub hl [0, 1, 2, 3] rfl
  refine ct_down (fun k : Nat => [(h0, .inr (7, [.ref kq, .ref sq, .int kz, .int sz, .int 0, .int (mgv gv (n - k)), .ref cq, .ref tq, .ref rq, .int ri, .int rj, .int bn, .int lf])), (cq, .inl (cA, 384, .inl ((mit md_rstep σ (n - k)).1))), (tq, .inl (tA, 3, .inl ((mit md_rstep σ (n - k)).2)))]) (fun k : Nat => [(6, .int (nI k - 1)), (4, .long (mds md_rstep md_rout σ v n (n - k))), (0, .ref h0), (1, .long v)]) n ?_ ?_ hP hD hS (lv_sub hl [0, 1, 2, 3] rfl)
  · intro k hk ih28 H locs ls hP hD hS hl
    have hP : va_P D vwCl [(h0, .inr (7, [.ref kq, .ref sq, .int kz, .int sz, .int 0, .int (mgv gv (n - (k + 1))), .ref cq, .ref tq, .ref rq, .int ri, .int rj, .int bn, .int lf])), (cq, .inl (cA, 384, .inl ((mit md_rstep σ (n - (k + 1))).1))), (tq, .inl (tA, 3, .inl ((mit md_rstep σ (n - (k + 1))).2)))] H := hP
    have hD : va_D A [(h0, .inr (7, [.ref kq, .ref sq, .int kz, .int sz, .int 0, .int (mgv gv (n - (k + 1))), .ref cq, .ref tq, .ref rq, .int ri, .int rj, .int bn, .int lf])), (cq, .inl (cA, 384, .inl ((mit md_rstep σ (n - (k + 1))).1))), (tq, .inl (tA, 3, .inl ((mit md_rstep σ (n - (k + 1))).2)))] := hD
    have hl : lv_has ls 7 [(6, .int (nI (k + 1) - 1)), (4, .long (mds md_rstep md_rout σ v n (n - (k + 1)))), (0, .ref h0), (1, .long v)] := hl
    rw [nI_pred] at hl
    have em : n - k = n - (k + 1) + 1 := by omega
    have ek : n - 1 - (n - (k + 1)) = k := by omega
    refine lv_iload hx hb dX8_mix_28 (lv_at hl 0 rfl) ?_
    refine lv_if_lt (tgt := 58) hx hb dX8_mix_30 (by decide) (fun hh => absurd hh (nI_pos (by omega))) (fun _ => ?_)
    refine lv_lload hx hb dX8_mix_33 (lv_at hl 1 rfl) ?_
    refine lv_iconst (v := 1) hx hb dX8_mix_35 (by decide) ?_
    refine lv_lshl (v := lL (mds md_rstep md_rout σ v n (n - (k + 1))) 1) hx hb dX8_mix_36 rfl ?_
    refine lv_lload_n hx hb dX8_mix_37 rfl (lv_at hl 3 rfl) ?_
    refine lv_iload hx hb dX8_mix_38 (lv_at hl 0 rfl) ?_
    refine lv_lshr (v := lR v (nI k)) hx hb dX8_mix_40 rfl ?_
    refine lv_lconst (v := 1) hx hb dX8_mix_41 (by decide) ?_
    refine lv_land hx hb dX8_mix_42 ?_
    refine lv_aload_n hx hb dX8_mix_43 rfl (lv_at hl 2 rfl) ?_
    refine ct_callVi (As := []) (rest := [.long ((lR v (nI k)) &&& 1), .long (lL (mds md_rstep md_rout σ v n (n - (k + 1))) 1)]) (wr := []) (ws2 := [(h0, .inr (7, [.ref kq, .ref sq, .int kz, .int sz, .int 0, .int ((mgv gv (n - (k + 1))) + 1), .ref cq, .ref tq, .ref rq, .int ri, .int rj, .int bn, .int lf])), (cq, .inl (cA, 384, .inl ((md_rstep (mit md_rstep σ (n - (k + 1)))).1))), (tq, .inl (tA, 3, .inl ((md_rstep (mit md_rstep σ (n - (k + 1)))).2)))]) ⟨hx, hb, hml, hown, hts⟩ (c_md_next0 l D h0 kq sq cq tq rq kz sz (mgv gv (n - (k + 1))) ri rj bn lf cA tA (mit md_rstep σ (n - (k + 1)))) cw_X8_next [0, 1] rfl [0, 1, 2] [] [0, 1, 2] hF hK hP hD hS hA 0 7 rfl rfl rfl rfl (by decide) rfl (by decide) (by decide) rfl (by decide) rfl hl.1 rfl (Nat.le_of_ble_eq_true rfl) dX8_mix_44 ⟨Nat.zero_le _, Nat.zero_le _⟩ (fun H locs hP hD hS => ?_)
    refine lv_i2l hx hb dX8_mix_47 rfl ?_
    refine lv_lxor hx hb dX8_mix_48 ?_
    refine lv_lor hx hb dX8_mix_49 ?_
    refine lv_lstore (lv' := [(4, .long ((lL (mds md_rstep md_rout σ v n (n - (k + 1))) 1) ||| (((lR v (nI k)) &&& 1) ^^^ ((md_rout (mit md_rstep σ (n - (k + 1)))).toInt64)))), (6, .int (nI k)), (0, .ref h0), (1, .long v)]) hx hb dX8_mix_50 hl (by decide) rfl (fun ls hl => ?_)
    have hP : va_P D vwCl [(h0, .inr (7, [.ref kq, .ref sq, .int kz, .int sz, .int 0, .int (mgv gv (n - k)), .ref cq, .ref tq, .ref rq, .int ri, .int rj, .int bn, .int lf])), (cq, .inl (cA, 384, .inl ((mit md_rstep σ (n - k)).1))), (tq, .inl (tA, 3, .inl ((mit md_rstep σ (n - k)).2)))] H := by rw [em]; exact hP
    have hD : va_D A [(h0, .inr (7, [.ref kq, .ref sq, .int kz, .int sz, .int 0, .int (mgv gv (n - k)), .ref cq, .ref tq, .ref rq, .int ri, .int rj, .int bn, .int lf])), (cq, .inl (cA, 384, .inl ((mit md_rstep σ (n - k)).1))), (tq, .inl (tA, 3, .inl ((mit md_rstep σ (n - k)).2)))] := by rw [em]; exact hD
    have hl : lv_has ls 7 [(4, .long (mds md_rstep md_rout σ v n (n - k))), (6, .int (nI k)), (0, .ref h0), (1, .long v)] := by rw [em, mds, ek]; exact hl
    refine lv_iinc (v := nI k - 1) (lv' := [(6, .int (nI k - 1)), (4, .long (mds md_rstep md_rout σ v n (n - k))), (0, .ref h0), (1, .long v)]) hx hb dX8_mix_52 hl (k := 1) rfl (ct_dec k) (by decide) rfl (fun ls hl => ?_)
    refine lv_goto (tgt := 28) hx hb dX8_mix_55 (by decide) ?_
    exact ih28 H locs ls hP hD hS (lv_sub hl [0, 1, 2, 3] rfl)
  · intro H locs ls hP hD hS hl
    have hP : va_P D vwCl [(h0, .inr (7, [.ref kq, .ref sq, .int kz, .int sz, .int 0, .int (mgv gv (n - 0)), .ref cq, .ref tq, .ref rq, .int ri, .int rj, .int bn, .int lf])), (cq, .inl (cA, 384, .inl ((mit md_rstep σ (n - 0)).1))), (tq, .inl (tA, 3, .inl ((mit md_rstep σ (n - 0)).2)))] H := hP
    have hD : va_D A [(h0, .inr (7, [.ref kq, .ref sq, .int kz, .int sz, .int 0, .int (mgv gv (n - 0)), .ref cq, .ref tq, .ref rq, .int ri, .int rj, .int bn, .int lf])), (cq, .inl (cA, 384, .inl ((mit md_rstep σ (n - 0)).1))), (tq, .inl (tA, 3, .inl ((mit md_rstep σ (n - 0)).2)))] := hD
    have hl : lv_has ls 7 [(6, .int (nI 0 - 1)), (4, .long (mds md_rstep md_rout σ v n (n - 0))), (0, .ref h0), (1, .long v)] := hl
    refine lv_iload hx hb dX8_mix_28 (lv_at hl 0 rfl) ?_
    refine lv_if_lt (tgt := 58) hx hb dX8_mix_30 (by decide) (fun _ => ?_) (fun hh => absurd (by decide) hh)
    refine lv_lload hx hb dX8_mix_58 (lv_at hl 1 rfl) ?_
    rw [mgv_e] at hP hD
    exact ct_lret hx hb hr hlk hP hK hD hS rfl dX8_mix_60
set_option maxHeartbeats 4000000 in
set_option maxRecDepth 100000 in
/-- Model.skip, machine 1 -/
theorem c_md_skip1 (l : Launch) (D : va_G) (h0 kq sq cq tq rq : Nat) (kz sz gv ri rj bn lf : Int32) (cA tA : ClassId) (σ : MR) (n : Nat) (hn : n ≤ 5000) : Cti l D yX8_skip wsX8_skip ({ frames := 6, cells := 0, slots := 0, locals := 190 } : Room) [.ref h0, .int (nI n)] [(cA, .int), (tA, .int)] [(h0, .inr (7, [.ref kq, .ref sq, .int kz, .int sz, .int 1, .int gv, .ref cq, .ref tq, .ref rq, .int ri, .int rj, .int bn, .int lf])), (cq, .inl (cA, 384, .inl σ.1)), (tq, .inl (tA, 3, .inl σ.2))] [(h0, .inr (7, [.ref kq, .ref sq, .int kz, .int sz, .int 1, .int (gv + nI n), .ref cq, .ref tq, .ref rq, .int ri, .int rj, .int bn, .int lf])), (cq, .inl (cA, 384, .inl ((mit md_two0 σ n).1))), (tq, .inl (tA, 3, .inl ((mit md_two0 σ n).2)))] 1 := by
  refine ct_of (cc := cX8_skip) (maxL := 3) (ret := (some .boolean)) (by decide) rfl (Nat.le_of_ble_eq_true rfl) ?_
  intro p e s m below meth c A H locs ls hx hb hr hml hts hown hlk hnm hF hP hK hD hA hS hl
  have hown : s.vm.findClass RX8 = some m.cls := hown
  have hl : lv_has ls 3 [(0, .ref h0), (1, .int (nI n))] := hl
  have hf_16 := hts (.fieldLink RX8 16 "BitStreamsModel" "machine" "I") (by decide +kernel)
  have hi_X8 : ∀ w ∈ u_ws RX8 TX8 13, w ∈ wsX8_skip := by decide +kernel
  have cw_X8_next := cwV (R := ({ frames := 6, cells := 0, slots := 0, locals := 190 } : Room)) (rm := ({ frames := 5, cells := 0, slots := 0, locals := 150 } : Room)) 0 hts gX8_skip_X8_next rfl rfl rfl (by decide +kernel) ⟨Nat.le_of_ble_eq_true rfl, Nat.le_of_ble_eq_true rfl⟩
  refine lv_aload_n hx hb dX8_skip_0 rfl (lv_at hl 0 rfl) ?_
  refine va_get (D := D) (ci := 7) (v := .int 1) (C := RX8) (T := TX8) (N := 13) hx hb hts hi_X8 hown hK hP 0 rfl rfl 4 (by decide) hf_16 (fun _ h9 => h9) rfl dX8_skip_1 ?_
  refine lv_if_lt (tgt := 18) hx hb dX8_skip_4 (by decide) (fun hh => absurd hh (by decide)) (fun _ => ?_)
  refine lv_iload_n hx hb dX8_skip_7 rfl (lv_at hl 1 rfl) ?_
  refine lv_if_lt (tgt := 18) hx hb dX8_skip_8 (by decide) (fun hh => absurd hh (nI_pos (by omega))) (fun _ => ?_)
  refine lv_iload_n hx hb dX8_skip_11 rfl (lv_at hl 1 rfl) ?_
  refine lv_sipush (v := 5000) hx hb dX8_skip_12 (by decide) ?_
  refine lv_icmp_le (tgt := 20) hx hb dX8_skip_15 (by decide) (fun _ => ?_) (fun hh => absurd (nI_le hn (by decide)) hh)
  refine lv_iconst (v := 0) hx hb dX8_skip_20 (by decide) ?_
  refine lv_istore_n (lv' := [(2, .int 0), (0, .ref h0), (1, .int (nI n))]) hx hb dX8_skip_21 rfl hl (by decide) rfl (fun ls hl => ?_)
  refine ct_count n (fun k : Nat => [(h0, .inr (7, [.ref kq, .ref sq, .int kz, .int sz, .int 1, .int (mgv gv k), .ref cq, .ref tq, .ref rq, .int ri, .int rj, .int bn, .int lf])), (cq, .inl (cA, 384, .inl ((mit md_two0 σ k).1))), (tq, .inl (tA, 3, .inl ((mit md_two0 σ k).2)))]) (fun k : Nat => [(2, .int (nI k)), (0, .ref h0), (1, .int (nI n))]) ?_ ?_ 0 (Nat.zero_le _) hP hD hS (lv_sub hl [0, 1, 2] rfl)
  · intro k hk ih22 H locs ls hP hD hS hl
    have hP : va_P D vwCl [(h0, .inr (7, [.ref kq, .ref sq, .int kz, .int sz, .int 1, .int (mgv gv k), .ref cq, .ref tq, .ref rq, .int ri, .int rj, .int bn, .int lf])), (cq, .inl (cA, 384, .inl ((mit md_two0 σ k).1))), (tq, .inl (tA, 3, .inl ((mit md_two0 σ k).2)))] H := hP
    have hD : va_D A [(h0, .inr (7, [.ref kq, .ref sq, .int kz, .int sz, .int 1, .int (mgv gv k), .ref cq, .ref tq, .ref rq, .int ri, .int rj, .int bn, .int lf])), (cq, .inl (cA, 384, .inl ((mit md_two0 σ k).1))), (tq, .inl (tA, 3, .inl ((mit md_two0 σ k).2)))] := hD
    have hl : lv_has ls 3 [(2, .int (nI k)), (0, .ref h0), (1, .int (nI n))] := hl
    refine lv_iload_n hx hb dX8_skip_22 rfl (lv_at hl 0 rfl) ?_
    refine lv_iload_n hx hb dX8_skip_23 rfl (lv_at hl 2 rfl) ?_
    refine lv_icmp_ge (tgt := 38) hx hb dX8_skip_24 (by decide) (fun hh => absurd hh (nI_ge hk (by omega))) (fun _ => ?_)
    refine lv_aload_n hx hb dX8_skip_27 rfl (lv_at hl 1 rfl) ?_
    refine ct_callVi (As := []) (rest := []) (wr := []) (ws2 := [(h0, .inr (7, [.ref kq, .ref sq, .int kz, .int sz, .int 1, .int ((mgv gv k) + 1), .ref cq, .ref tq, .ref rq, .int ri, .int rj, .int bn, .int lf])), (cq, .inl (cA, 384, .inl ((md_two0 (mit md_two0 σ k)).1))), (tq, .inl (tA, 3, .inl ((md_two0 (mit md_two0 σ k)).2)))]) ⟨hx, hb, hml, hown, hts⟩ (c_md_next1 l D h0 kq sq cq tq rq kz sz (mgv gv k) ri rj bn lf cA tA (mit md_two0 σ k)) cw_X8_next [0, 1] rfl [0, 1, 2] [] [0, 1, 2] hF hK hP hD hS hA 0 7 rfl rfl rfl rfl (by decide) rfl (by decide) (by decide) rfl (by decide) rfl hl.1 rfl (Nat.le_of_ble_eq_true rfl) dX8_skip_28 ⟨Nat.zero_le _, Nat.zero_le _⟩ (fun H locs hP hD hS => ?_)
    refine lv_pop hx hb dX8_skip_31 rfl ?_
    refine lv_iinc (v := nI (k + 1)) (lv' := [(2, .int (nI (k + 1))), (0, .ref h0), (1, .int (nI n))]) hx hb dX8_skip_32 hl (k := 0) rfl (ct_inc k) (by decide) rfl (fun ls hl => ?_)
    refine lv_goto (tgt := 22) hx hb dX8_skip_35 (by decide) ?_
    exact ih22 H locs ls hP hD hS (lv_sub hl [0, 1, 2] rfl)
  · intro H locs ls hP hD hS hl
    have hP : va_P D vwCl [(h0, .inr (7, [.ref kq, .ref sq, .int kz, .int sz, .int 1, .int (mgv gv n), .ref cq, .ref tq, .ref rq, .int ri, .int rj, .int bn, .int lf])), (cq, .inl (cA, 384, .inl ((mit md_two0 σ n).1))), (tq, .inl (tA, 3, .inl ((mit md_two0 σ n).2)))] H := hP
    have hD : va_D A [(h0, .inr (7, [.ref kq, .ref sq, .int kz, .int sz, .int 1, .int (mgv gv n), .ref cq, .ref tq, .ref rq, .int ri, .int rj, .int bn, .int lf])), (cq, .inl (cA, 384, .inl ((mit md_two0 σ n).1))), (tq, .inl (tA, 3, .inl ((mit md_two0 σ n).2)))] := hD
    have hl : lv_has ls 3 [(2, .int (nI n)), (0, .ref h0), (1, .int (nI n))] := hl
    refine lv_iload_n hx hb dX8_skip_22 rfl (lv_at hl 0 rfl) ?_
    refine lv_iload_n hx hb dX8_skip_23 rfl (lv_at hl 2 rfl) ?_
    refine lv_icmp_ge (tgt := 38) hx hb dX8_skip_24 (by decide) (fun _ => ?_) (fun hh => absurd (Int32.le_refl _) hh)
    refine lv_iconst (v := 1) hx hb dX8_skip_38 (by decide) ?_
    rw [mgv_e] at hP hD
    exact ct_zret hx hb hr hlk hP hK hD hS rfl rfl dX8_skip_39
set_option maxHeartbeats 4000000 in
set_option maxRecDepth 100000 in
/-- Model.mix, machine 1 -/
theorem c_md_mix1 (l : Launch) (D : va_G) (h0 kq sq cq tq rq : Nat) (kz sz gv ri rj bn lf : Int32) (cA tA : ClassId) (σ : MR) (v : Int64) (n : Nat) (hn1 : 1 ≤ n) (hn : n ≤ 64) : Ctl l D yX8_mix wsX8_mix ({ frames := 6, cells := 0, slots := 0, locals := 190 } : Room) [.ref h0, .long v, .int (nI n)] [(cA, .int), (tA, .int)] [(h0, .inr (7, [.ref kq, .ref sq, .int kz, .int sz, .int 1, .int gv, .ref cq, .ref tq, .ref rq, .int ri, .int rj, .int bn, .int lf])), (cq, .inl (cA, 384, .inl σ.1)), (tq, .inl (tA, 3, .inl σ.2))] [(h0, .inr (7, [.ref kq, .ref sq, .int kz, .int sz, .int 1, .int (gv + nI n), .ref cq, .ref tq, .ref rq, .int ri, .int rj, .int bn, .int lf])), (cq, .inl (cA, 384, .inl ((mit md_two0 σ n).1))), (tq, .inl (tA, 3, .inl ((mit md_two0 σ n).2)))] (mds md_two0 md_y σ v n n) := by
  refine ct_of (cc := cX8_mix) (maxL := 7) (ret := (some .long)) (by decide) rfl (Nat.le_of_ble_eq_true rfl) ?_
  intro p e s m below meth c A H locs ls hx hb hr hml hts hown hlk hnm hF hP hK hD hA hS hl
  have hown : s.vm.findClass RX8 = some m.cls := hown
  have hl : lv_has ls 7 [(0, .ref h0), (1, .long v), (3, .int (nI n))] := hl
  have hf_16 := hts (.fieldLink RX8 16 "BitStreamsModel" "machine" "I") (by decide +kernel)
  have hi_X8 : ∀ w ∈ u_ws RX8 TX8 13, w ∈ wsX8_mix := by decide +kernel
  have cw_X8_next := cwV (R := ({ frames := 6, cells := 0, slots := 0, locals := 190 } : Room)) (rm := ({ frames := 5, cells := 0, slots := 0, locals := 150 } : Room)) 0 hts gX8_mix_X8_next rfl rfl rfl (by decide +kernel) ⟨Nat.le_of_ble_eq_true rfl, Nat.le_of_ble_eq_true rfl⟩
  refine lv_aload_n hx hb dX8_mix_0 rfl (lv_at hl 0 rfl) ?_
  refine va_get (D := D) (ci := 7) (v := .int 1) (C := RX8) (T := TX8) (N := 13) hx hb hts hi_X8 hown hK hP 0 rfl rfl 4 (by decide) hf_16 (fun _ h9 => h9) rfl dX8_mix_1 ?_
  refine lv_if_lt (tgt := 18) hx hb dX8_mix_4 (by decide) (fun hh => absurd hh (by decide)) (fun _ => ?_)
  refine lv_iload_n hx hb dX8_mix_7 rfl (lv_at hl 2 rfl) ?_
  refine lv_iconst (v := 1) hx hb dX8_mix_8 (by decide) ?_
  refine lv_icmp_lt (tgt := 18) hx hb dX8_mix_9 (by decide) (fun hh => absurd hh (nI_nlt (a := n) (b := 1) hn1 (by omega))) (fun _ => ?_)
  refine lv_iload_n hx hb dX8_mix_12 rfl (lv_at hl 2 rfl) ?_
  refine lv_bipush (v := 64) hx hb dX8_mix_13 (by decide) ?_
  refine lv_icmp_le (tgt := 20) hx hb dX8_mix_15 (by decide) (fun _ => ?_) (fun hh => absurd (nI_le (b := 64) hn (by decide)) hh)
  refine lv_lconst (v := 0) hx hb dX8_mix_20 (by decide) ?_
  refine lv_lstore (lv' := [(4, .long 0), (0, .ref h0), (1, .long v), (3, .int (nI n))]) hx hb dX8_mix_21 hl (by decide) rfl (fun ls hl => ?_)
  refine lv_iload_n hx hb dX8_mix_23 rfl (lv_at hl 3 rfl) ?_
  refine lv_iconst (v := 1) hx hb dX8_mix_24 (by decide) ?_
  refine lv_isub hx hb dX8_mix_25 ?_
  refine lv_istore (lv' := [(6, .int ((nI n) - 1)), (4, .long 0), (0, .ref h0), (1, .long v), (3, .int (nI n))]) hx hb dX8_mix_26 hl (by decide) rfl (fun ls hl => ?_)
  have hP : va_P D vwCl [(h0, .inr (7, [.ref kq, .ref sq, .int kz, .int sz, .int 1, .int (mgv gv (n - n)), .ref cq, .ref tq, .ref rq, .int ri, .int rj, .int bn, .int lf])), (cq, .inl (cA, 384, .inl ((mit md_two0 σ (n - n)).1))), (tq, .inl (tA, 3, .inl ((mit md_two0 σ (n - n)).2)))] H := by rw [Nat.sub_self]; exact hP
  have hD : va_D A [(h0, .inr (7, [.ref kq, .ref sq, .int kz, .int sz, .int 1, .int (mgv gv (n - n)), .ref cq, .ref tq, .ref rq, .int ri, .int rj, .int bn, .int lf])), (cq, .inl (cA, 384, .inl ((mit md_two0 σ (n - n)).1))), (tq, .inl (tA, 3, .inl ((mit md_two0 σ (n - n)).2)))] := by rw [Nat.sub_self]; exact hD
  have hl : lv_has ls 7 [(6, .int (nI n - 1)), (4, .long (mds md_two0 md_y σ v n (n - n))), (0, .ref h0), (1, .long v)] := by rw [Nat.sub_self]; exact lv_sub hl [0, 1, 2, 3] rfl
  refine ct_down (fun k : Nat => [(h0, .inr (7, [.ref kq, .ref sq, .int kz, .int sz, .int 1, .int (mgv gv (n - k)), .ref cq, .ref tq, .ref rq, .int ri, .int rj, .int bn, .int lf])), (cq, .inl (cA, 384, .inl ((mit md_two0 σ (n - k)).1))), (tq, .inl (tA, 3, .inl ((mit md_two0 σ (n - k)).2)))]) (fun k : Nat => [(6, .int (nI k - 1)), (4, .long (mds md_two0 md_y σ v n (n - k))), (0, .ref h0), (1, .long v)]) n ?_ ?_ hP hD hS (lv_sub hl [0, 1, 2, 3] rfl)
  · intro k hk ih28 H locs ls hP hD hS hl
    have hP : va_P D vwCl [(h0, .inr (7, [.ref kq, .ref sq, .int kz, .int sz, .int 1, .int (mgv gv (n - (k + 1))), .ref cq, .ref tq, .ref rq, .int ri, .int rj, .int bn, .int lf])), (cq, .inl (cA, 384, .inl ((mit md_two0 σ (n - (k + 1))).1))), (tq, .inl (tA, 3, .inl ((mit md_two0 σ (n - (k + 1))).2)))] H := hP
    have hD : va_D A [(h0, .inr (7, [.ref kq, .ref sq, .int kz, .int sz, .int 1, .int (mgv gv (n - (k + 1))), .ref cq, .ref tq, .ref rq, .int ri, .int rj, .int bn, .int lf])), (cq, .inl (cA, 384, .inl ((mit md_two0 σ (n - (k + 1))).1))), (tq, .inl (tA, 3, .inl ((mit md_two0 σ (n - (k + 1))).2)))] := hD
    have hl : lv_has ls 7 [(6, .int (nI (k + 1) - 1)), (4, .long (mds md_two0 md_y σ v n (n - (k + 1)))), (0, .ref h0), (1, .long v)] := hl
    rw [nI_pred] at hl
    have em : n - k = n - (k + 1) + 1 := by omega
    have ek : n - 1 - (n - (k + 1)) = k := by omega
    refine lv_iload hx hb dX8_mix_28 (lv_at hl 0 rfl) ?_
    refine lv_if_lt (tgt := 58) hx hb dX8_mix_30 (by decide) (fun hh => absurd hh (nI_pos (by omega))) (fun _ => ?_)
    refine lv_lload hx hb dX8_mix_33 (lv_at hl 1 rfl) ?_
    refine lv_iconst (v := 1) hx hb dX8_mix_35 (by decide) ?_
    refine lv_lshl (v := lL (mds md_two0 md_y σ v n (n - (k + 1))) 1) hx hb dX8_mix_36 rfl ?_
    refine lv_lload_n hx hb dX8_mix_37 rfl (lv_at hl 3 rfl) ?_
    refine lv_iload hx hb dX8_mix_38 (lv_at hl 0 rfl) ?_
    refine lv_lshr (v := lR v (nI k)) hx hb dX8_mix_40 rfl ?_
    refine lv_lconst (v := 1) hx hb dX8_mix_41 (by decide) ?_
    refine lv_land hx hb dX8_mix_42 ?_
    refine lv_aload_n hx hb dX8_mix_43 rfl (lv_at hl 2 rfl) ?_
    refine ct_callVi (As := []) (rest := [.long ((lR v (nI k)) &&& 1), .long (lL (mds md_two0 md_y σ v n (n - (k + 1))) 1)]) (wr := []) (ws2 := [(h0, .inr (7, [.ref kq, .ref sq, .int kz, .int sz, .int 1, .int ((mgv gv (n - (k + 1))) + 1), .ref cq, .ref tq, .ref rq, .int ri, .int rj, .int bn, .int lf])), (cq, .inl (cA, 384, .inl ((md_two0 (mit md_two0 σ (n - (k + 1)))).1))), (tq, .inl (tA, 3, .inl ((md_two0 (mit md_two0 σ (n - (k + 1)))).2)))]) ⟨hx, hb, hml, hown, hts⟩ (c_md_next1 l D h0 kq sq cq tq rq kz sz (mgv gv (n - (k + 1))) ri rj bn lf cA tA (mit md_two0 σ (n - (k + 1)))) cw_X8_next [0, 1] rfl [0, 1, 2] [] [0, 1, 2] hF hK hP hD hS hA 0 7 rfl rfl rfl rfl (by decide) rfl (by decide) (by decide) rfl (by decide) rfl hl.1 rfl (Nat.le_of_ble_eq_true rfl) dX8_mix_44 ⟨Nat.zero_le _, Nat.zero_le _⟩ (fun H locs hP hD hS => ?_)
    refine lv_i2l hx hb dX8_mix_47 rfl ?_
    refine lv_lxor hx hb dX8_mix_48 ?_
    refine lv_lor hx hb dX8_mix_49 ?_
    refine lv_lstore (lv' := [(4, .long ((lL (mds md_two0 md_y σ v n (n - (k + 1))) 1) ||| (((lR v (nI k)) &&& 1) ^^^ ((md_y (mit md_two0 σ (n - (k + 1)))).toInt64)))), (6, .int (nI k)), (0, .ref h0), (1, .long v)]) hx hb dX8_mix_50 hl (by decide) rfl (fun ls hl => ?_)
    have hP : va_P D vwCl [(h0, .inr (7, [.ref kq, .ref sq, .int kz, .int sz, .int 1, .int (mgv gv (n - k)), .ref cq, .ref tq, .ref rq, .int ri, .int rj, .int bn, .int lf])), (cq, .inl (cA, 384, .inl ((mit md_two0 σ (n - k)).1))), (tq, .inl (tA, 3, .inl ((mit md_two0 σ (n - k)).2)))] H := by rw [em]; exact hP
    have hD : va_D A [(h0, .inr (7, [.ref kq, .ref sq, .int kz, .int sz, .int 1, .int (mgv gv (n - k)), .ref cq, .ref tq, .ref rq, .int ri, .int rj, .int bn, .int lf])), (cq, .inl (cA, 384, .inl ((mit md_two0 σ (n - k)).1))), (tq, .inl (tA, 3, .inl ((mit md_two0 σ (n - k)).2)))] := by rw [em]; exact hD
    have hl : lv_has ls 7 [(4, .long (mds md_two0 md_y σ v n (n - k))), (6, .int (nI k)), (0, .ref h0), (1, .long v)] := by rw [em, mds, ek]; exact hl
    refine lv_iinc (v := nI k - 1) (lv' := [(6, .int (nI k - 1)), (4, .long (mds md_two0 md_y σ v n (n - k))), (0, .ref h0), (1, .long v)]) hx hb dX8_mix_52 hl (k := 1) rfl (ct_dec k) (by decide) rfl (fun ls hl => ?_)
    refine lv_goto (tgt := 28) hx hb dX8_mix_55 (by decide) ?_
    exact ih28 H locs ls hP hD hS (lv_sub hl [0, 1, 2, 3] rfl)
  · intro H locs ls hP hD hS hl
    have hP : va_P D vwCl [(h0, .inr (7, [.ref kq, .ref sq, .int kz, .int sz, .int 1, .int (mgv gv (n - 0)), .ref cq, .ref tq, .ref rq, .int ri, .int rj, .int bn, .int lf])), (cq, .inl (cA, 384, .inl ((mit md_two0 σ (n - 0)).1))), (tq, .inl (tA, 3, .inl ((mit md_two0 σ (n - 0)).2)))] H := hP
    have hD : va_D A [(h0, .inr (7, [.ref kq, .ref sq, .int kz, .int sz, .int 1, .int (mgv gv (n - 0)), .ref cq, .ref tq, .ref rq, .int ri, .int rj, .int bn, .int lf])), (cq, .inl (cA, 384, .inl ((mit md_two0 σ (n - 0)).1))), (tq, .inl (tA, 3, .inl ((mit md_two0 σ (n - 0)).2)))] := hD
    have hl : lv_has ls 7 [(6, .int (nI 0 - 1)), (4, .long (mds md_two0 md_y σ v n (n - 0))), (0, .ref h0), (1, .long v)] := hl
    refine lv_iload hx hb dX8_mix_28 (lv_at hl 0 rfl) ?_
    refine lv_if_lt (tgt := 58) hx hb dX8_mix_30 (by decide) (fun _ => ?_) (fun hh => absurd (by decide) hh)
    refine lv_lload hx hb dX8_mix_58 (lv_at hl 1 rfl) ?_
    rw [mgv_e] at hP hD
    exact ct_lret hx hb hr hlk hP hK hD hS rfl dX8_mix_60
set_option maxHeartbeats 4000000 in
set_option maxRecDepth 100000 in
/-- Model.skip, machine 2 -/
theorem c_md_skip2 (l : Launch) (D : va_G) (h0 kq sq cq tq rq : Nat) (kz sz gv ri rj bn lf : Int32) (cA tA : ClassId) (σ : MR) (n : Nat) (hn : n ≤ 5000) : Cti l D yX8_skip wsX8_skip ({ frames := 6, cells := 0, slots := 0, locals := 190 } : Room) [.ref h0, .int (nI n)] [(cA, .int), (tA, .int)] [(h0, .inr (7, [.ref kq, .ref sq, .int kz, .int sz, .int 2, .int gv, .ref cq, .ref tq, .ref rq, .int ri, .int rj, .int bn, .int lf])), (cq, .inl (cA, 384, .inl σ.1)), (tq, .inl (tA, 3, .inl σ.2))] [(h0, .inr (7, [.ref kq, .ref sq, .int kz, .int sz, .int 2, .int (gv + nI n), .ref cq, .ref tq, .ref rq, .int ri, .int rj, .int bn, .int lf])), (cq, .inl (cA, 384, .inl ((mit md_s2 σ n).1))), (tq, .inl (tA, 3, .inl ((mit md_s2 σ n).2)))] 1 := by
  refine ct_of (cc := cX8_skip) (maxL := 3) (ret := (some .boolean)) (by decide) rfl (Nat.le_of_ble_eq_true rfl) ?_
  intro p e s m below meth c A H locs ls hx hb hr hml hts hown hlk hnm hF hP hK hD hA hS hl
  have hown : s.vm.findClass RX8 = some m.cls := hown
  have hl : lv_has ls 3 [(0, .ref h0), (1, .int (nI n))] := hl
  have hf_16 := hts (.fieldLink RX8 16 "BitStreamsModel" "machine" "I") (by decide +kernel)
  have hi_X8 : ∀ w ∈ u_ws RX8 TX8 13, w ∈ wsX8_skip := by decide +kernel
  have cw_X8_next := cwV (R := ({ frames := 6, cells := 0, slots := 0, locals := 190 } : Room)) (rm := ({ frames := 5, cells := 0, slots := 0, locals := 150 } : Room)) 0 hts gX8_skip_X8_next rfl rfl rfl (by decide +kernel) ⟨Nat.le_of_ble_eq_true rfl, Nat.le_of_ble_eq_true rfl⟩
  refine lv_aload_n hx hb dX8_skip_0 rfl (lv_at hl 0 rfl) ?_
  refine va_get (D := D) (ci := 7) (v := .int 2) (C := RX8) (T := TX8) (N := 13) hx hb hts hi_X8 hown hK hP 0 rfl rfl 4 (by decide) hf_16 (fun _ h9 => h9) rfl dX8_skip_1 ?_
  refine lv_if_lt (tgt := 18) hx hb dX8_skip_4 (by decide) (fun hh => absurd hh (by decide)) (fun _ => ?_)
  refine lv_iload_n hx hb dX8_skip_7 rfl (lv_at hl 1 rfl) ?_
  refine lv_if_lt (tgt := 18) hx hb dX8_skip_8 (by decide) (fun hh => absurd hh (nI_pos (by omega))) (fun _ => ?_)
  refine lv_iload_n hx hb dX8_skip_11 rfl (lv_at hl 1 rfl) ?_
  refine lv_sipush (v := 5000) hx hb dX8_skip_12 (by decide) ?_
  refine lv_icmp_le (tgt := 20) hx hb dX8_skip_15 (by decide) (fun _ => ?_) (fun hh => absurd (nI_le hn (by decide)) hh)
  refine lv_iconst (v := 0) hx hb dX8_skip_20 (by decide) ?_
  refine lv_istore_n (lv' := [(2, .int 0), (0, .ref h0), (1, .int (nI n))]) hx hb dX8_skip_21 rfl hl (by decide) rfl (fun ls hl => ?_)
  refine ct_count n (fun k : Nat => [(h0, .inr (7, [.ref kq, .ref sq, .int kz, .int sz, .int 2, .int (mgv gv k), .ref cq, .ref tq, .ref rq, .int ri, .int rj, .int bn, .int lf])), (cq, .inl (cA, 384, .inl ((mit md_s2 σ k).1))), (tq, .inl (tA, 3, .inl ((mit md_s2 σ k).2)))]) (fun k : Nat => [(2, .int (nI k)), (0, .ref h0), (1, .int (nI n))]) ?_ ?_ 0 (Nat.zero_le _) hP hD hS (lv_sub hl [0, 1, 2] rfl)
  · intro k hk ih22 H locs ls hP hD hS hl
    have hP : va_P D vwCl [(h0, .inr (7, [.ref kq, .ref sq, .int kz, .int sz, .int 2, .int (mgv gv k), .ref cq, .ref tq, .ref rq, .int ri, .int rj, .int bn, .int lf])), (cq, .inl (cA, 384, .inl ((mit md_s2 σ k).1))), (tq, .inl (tA, 3, .inl ((mit md_s2 σ k).2)))] H := hP
    have hD : va_D A [(h0, .inr (7, [.ref kq, .ref sq, .int kz, .int sz, .int 2, .int (mgv gv k), .ref cq, .ref tq, .ref rq, .int ri, .int rj, .int bn, .int lf])), (cq, .inl (cA, 384, .inl ((mit md_s2 σ k).1))), (tq, .inl (tA, 3, .inl ((mit md_s2 σ k).2)))] := hD
    have hl : lv_has ls 3 [(2, .int (nI k)), (0, .ref h0), (1, .int (nI n))] := hl
    refine lv_iload_n hx hb dX8_skip_22 rfl (lv_at hl 0 rfl) ?_
    refine lv_iload_n hx hb dX8_skip_23 rfl (lv_at hl 2 rfl) ?_
    refine lv_icmp_ge (tgt := 38) hx hb dX8_skip_24 (by decide) (fun hh => absurd hh (nI_ge hk (by omega))) (fun _ => ?_)
    refine lv_aload_n hx hb dX8_skip_27 rfl (lv_at hl 1 rfl) ?_
    refine ct_callVi (As := []) (rest := []) (wr := []) (ws2 := [(h0, .inr (7, [.ref kq, .ref sq, .int kz, .int sz, .int 2, .int ((mgv gv k) + 1), .ref cq, .ref tq, .ref rq, .int ri, .int rj, .int bn, .int lf])), (cq, .inl (cA, 384, .inl ((md_s2 (mit md_s2 σ k)).1))), (tq, .inl (tA, 3, .inl ((md_s2 (mit md_s2 σ k)).2)))]) ⟨hx, hb, hml, hown, hts⟩ (c_md_next2 l D h0 kq sq cq tq rq kz sz (mgv gv k) ri rj bn lf cA tA (mit md_s2 σ k)) cw_X8_next [0, 1] rfl [0, 1, 2] [] [0, 1, 2] hF hK hP hD hS hA 0 7 rfl rfl rfl rfl (by decide) rfl (by decide) (by decide) rfl (by decide) rfl hl.1 rfl (Nat.le_of_ble_eq_true rfl) dX8_skip_28 ⟨Nat.zero_le _, Nat.zero_le _⟩ (fun H locs hP hD hS => ?_)
    refine lv_pop hx hb dX8_skip_31 rfl ?_
    refine lv_iinc (v := nI (k + 1)) (lv' := [(2, .int (nI (k + 1))), (0, .ref h0), (1, .int (nI n))]) hx hb dX8_skip_32 hl (k := 0) rfl (ct_inc k) (by decide) rfl (fun ls hl => ?_)
    refine lv_goto (tgt := 22) hx hb dX8_skip_35 (by decide) ?_
    exact ih22 H locs ls hP hD hS (lv_sub hl [0, 1, 2] rfl)
  · intro H locs ls hP hD hS hl
    have hP : va_P D vwCl [(h0, .inr (7, [.ref kq, .ref sq, .int kz, .int sz, .int 2, .int (mgv gv n), .ref cq, .ref tq, .ref rq, .int ri, .int rj, .int bn, .int lf])), (cq, .inl (cA, 384, .inl ((mit md_s2 σ n).1))), (tq, .inl (tA, 3, .inl ((mit md_s2 σ n).2)))] H := hP
    have hD : va_D A [(h0, .inr (7, [.ref kq, .ref sq, .int kz, .int sz, .int 2, .int (mgv gv n), .ref cq, .ref tq, .ref rq, .int ri, .int rj, .int bn, .int lf])), (cq, .inl (cA, 384, .inl ((mit md_s2 σ n).1))), (tq, .inl (tA, 3, .inl ((mit md_s2 σ n).2)))] := hD
    have hl : lv_has ls 3 [(2, .int (nI n)), (0, .ref h0), (1, .int (nI n))] := hl
    refine lv_iload_n hx hb dX8_skip_22 rfl (lv_at hl 0 rfl) ?_
    refine lv_iload_n hx hb dX8_skip_23 rfl (lv_at hl 2 rfl) ?_
    refine lv_icmp_ge (tgt := 38) hx hb dX8_skip_24 (by decide) (fun _ => ?_) (fun hh => absurd (Int32.le_refl _) hh)
    refine lv_iconst (v := 1) hx hb dX8_skip_38 (by decide) ?_
    rw [mgv_e] at hP hD
    exact ct_zret hx hb hr hlk hP hK hD hS rfl rfl dX8_skip_39
set_option maxHeartbeats 4000000 in
set_option maxRecDepth 100000 in
/-- Model.mix, machine 2 -/
theorem c_md_mix2 (l : Launch) (D : va_G) (h0 kq sq cq tq rq : Nat) (kz sz gv ri rj bn lf : Int32) (cA tA : ClassId) (σ : MR) (v : Int64) (n : Nat) (hn1 : 1 ≤ n) (hn : n ≤ 64) : Ctl l D yX8_mix wsX8_mix ({ frames := 6, cells := 0, slots := 0, locals := 190 } : Room) [.ref h0, .long v, .int (nI n)] [(cA, .int), (tA, .int)] [(h0, .inr (7, [.ref kq, .ref sq, .int kz, .int sz, .int 2, .int gv, .ref cq, .ref tq, .ref rq, .int ri, .int rj, .int bn, .int lf])), (cq, .inl (cA, 384, .inl σ.1)), (tq, .inl (tA, 3, .inl σ.2))] [(h0, .inr (7, [.ref kq, .ref sq, .int kz, .int sz, .int 2, .int (gv + nI n), .ref cq, .ref tq, .ref rq, .int ri, .int rj, .int bn, .int lf])), (cq, .inl (cA, 384, .inl ((mit md_s2 σ n).1))), (tq, .inl (tA, 3, .inl ((mit md_s2 σ n).2)))] (mds md_s2 md_sout σ v n n) := by
  refine ct_of (cc := cX8_mix) (maxL := 7) (ret := (some .long)) (by decide) rfl (Nat.le_of_ble_eq_true rfl) ?_
  intro p e s m below meth c A H locs ls hx hb hr hml hts hown hlk hnm hF hP hK hD hA hS hl
  have hown : s.vm.findClass RX8 = some m.cls := hown
  have hl : lv_has ls 7 [(0, .ref h0), (1, .long v), (3, .int (nI n))] := hl
  have hf_16 := hts (.fieldLink RX8 16 "BitStreamsModel" "machine" "I") (by decide +kernel)
  have hi_X8 : ∀ w ∈ u_ws RX8 TX8 13, w ∈ wsX8_mix := by decide +kernel
  have cw_X8_next := cwV (R := ({ frames := 6, cells := 0, slots := 0, locals := 190 } : Room)) (rm := ({ frames := 5, cells := 0, slots := 0, locals := 150 } : Room)) 0 hts gX8_mix_X8_next rfl rfl rfl (by decide +kernel) ⟨Nat.le_of_ble_eq_true rfl, Nat.le_of_ble_eq_true rfl⟩
  refine lv_aload_n hx hb dX8_mix_0 rfl (lv_at hl 0 rfl) ?_
  refine va_get (D := D) (ci := 7) (v := .int 2) (C := RX8) (T := TX8) (N := 13) hx hb hts hi_X8 hown hK hP 0 rfl rfl 4 (by decide) hf_16 (fun _ h9 => h9) rfl dX8_mix_1 ?_
  refine lv_if_lt (tgt := 18) hx hb dX8_mix_4 (by decide) (fun hh => absurd hh (by decide)) (fun _ => ?_)
  refine lv_iload_n hx hb dX8_mix_7 rfl (lv_at hl 2 rfl) ?_
  refine lv_iconst (v := 1) hx hb dX8_mix_8 (by decide) ?_
  refine lv_icmp_lt (tgt := 18) hx hb dX8_mix_9 (by decide) (fun hh => absurd hh (nI_nlt (a := n) (b := 1) hn1 (by omega))) (fun _ => ?_)
  refine lv_iload_n hx hb dX8_mix_12 rfl (lv_at hl 2 rfl) ?_
  refine lv_bipush (v := 64) hx hb dX8_mix_13 (by decide) ?_
  refine lv_icmp_le (tgt := 20) hx hb dX8_mix_15 (by decide) (fun _ => ?_) (fun hh => absurd (nI_le (b := 64) hn (by decide)) hh)
  refine lv_lconst (v := 0) hx hb dX8_mix_20 (by decide) ?_
  refine lv_lstore (lv' := [(4, .long 0), (0, .ref h0), (1, .long v), (3, .int (nI n))]) hx hb dX8_mix_21 hl (by decide) rfl (fun ls hl => ?_)
  refine lv_iload_n hx hb dX8_mix_23 rfl (lv_at hl 3 rfl) ?_
  refine lv_iconst (v := 1) hx hb dX8_mix_24 (by decide) ?_
  refine lv_isub hx hb dX8_mix_25 ?_
  refine lv_istore (lv' := [(6, .int ((nI n) - 1)), (4, .long 0), (0, .ref h0), (1, .long v), (3, .int (nI n))]) hx hb dX8_mix_26 hl (by decide) rfl (fun ls hl => ?_)
  have hP : va_P D vwCl [(h0, .inr (7, [.ref kq, .ref sq, .int kz, .int sz, .int 2, .int (mgv gv (n - n)), .ref cq, .ref tq, .ref rq, .int ri, .int rj, .int bn, .int lf])), (cq, .inl (cA, 384, .inl ((mit md_s2 σ (n - n)).1))), (tq, .inl (tA, 3, .inl ((mit md_s2 σ (n - n)).2)))] H := by rw [Nat.sub_self]; exact hP
  have hD : va_D A [(h0, .inr (7, [.ref kq, .ref sq, .int kz, .int sz, .int 2, .int (mgv gv (n - n)), .ref cq, .ref tq, .ref rq, .int ri, .int rj, .int bn, .int lf])), (cq, .inl (cA, 384, .inl ((mit md_s2 σ (n - n)).1))), (tq, .inl (tA, 3, .inl ((mit md_s2 σ (n - n)).2)))] := by rw [Nat.sub_self]; exact hD
  have hl : lv_has ls 7 [(6, .int (nI n - 1)), (4, .long (mds md_s2 md_sout σ v n (n - n))), (0, .ref h0), (1, .long v)] := by rw [Nat.sub_self]; exact lv_sub hl [0, 1, 2, 3] rfl
  refine ct_down (fun k : Nat => [(h0, .inr (7, [.ref kq, .ref sq, .int kz, .int sz, .int 2, .int (mgv gv (n - k)), .ref cq, .ref tq, .ref rq, .int ri, .int rj, .int bn, .int lf])), (cq, .inl (cA, 384, .inl ((mit md_s2 σ (n - k)).1))), (tq, .inl (tA, 3, .inl ((mit md_s2 σ (n - k)).2)))]) (fun k : Nat => [(6, .int (nI k - 1)), (4, .long (mds md_s2 md_sout σ v n (n - k))), (0, .ref h0), (1, .long v)]) n ?_ ?_ hP hD hS (lv_sub hl [0, 1, 2, 3] rfl)
  · intro k hk ih28 H locs ls hP hD hS hl
    have hP : va_P D vwCl [(h0, .inr (7, [.ref kq, .ref sq, .int kz, .int sz, .int 2, .int (mgv gv (n - (k + 1))), .ref cq, .ref tq, .ref rq, .int ri, .int rj, .int bn, .int lf])), (cq, .inl (cA, 384, .inl ((mit md_s2 σ (n - (k + 1))).1))), (tq, .inl (tA, 3, .inl ((mit md_s2 σ (n - (k + 1))).2)))] H := hP
    have hD : va_D A [(h0, .inr (7, [.ref kq, .ref sq, .int kz, .int sz, .int 2, .int (mgv gv (n - (k + 1))), .ref cq, .ref tq, .ref rq, .int ri, .int rj, .int bn, .int lf])), (cq, .inl (cA, 384, .inl ((mit md_s2 σ (n - (k + 1))).1))), (tq, .inl (tA, 3, .inl ((mit md_s2 σ (n - (k + 1))).2)))] := hD
    have hl : lv_has ls 7 [(6, .int (nI (k + 1) - 1)), (4, .long (mds md_s2 md_sout σ v n (n - (k + 1)))), (0, .ref h0), (1, .long v)] := hl
    rw [nI_pred] at hl
    have em : n - k = n - (k + 1) + 1 := by omega
    have ek : n - 1 - (n - (k + 1)) = k := by omega
    refine lv_iload hx hb dX8_mix_28 (lv_at hl 0 rfl) ?_
    refine lv_if_lt (tgt := 58) hx hb dX8_mix_30 (by decide) (fun hh => absurd hh (nI_pos (by omega))) (fun _ => ?_)
    refine lv_lload hx hb dX8_mix_33 (lv_at hl 1 rfl) ?_
    refine lv_iconst (v := 1) hx hb dX8_mix_35 (by decide) ?_
    refine lv_lshl (v := lL (mds md_s2 md_sout σ v n (n - (k + 1))) 1) hx hb dX8_mix_36 rfl ?_
    refine lv_lload_n hx hb dX8_mix_37 rfl (lv_at hl 3 rfl) ?_
    refine lv_iload hx hb dX8_mix_38 (lv_at hl 0 rfl) ?_
    refine lv_lshr (v := lR v (nI k)) hx hb dX8_mix_40 rfl ?_
    refine lv_lconst (v := 1) hx hb dX8_mix_41 (by decide) ?_
    refine lv_land hx hb dX8_mix_42 ?_
    refine lv_aload_n hx hb dX8_mix_43 rfl (lv_at hl 2 rfl) ?_
    refine ct_callVi (As := []) (rest := [.long ((lR v (nI k)) &&& 1), .long (lL (mds md_s2 md_sout σ v n (n - (k + 1))) 1)]) (wr := []) (ws2 := [(h0, .inr (7, [.ref kq, .ref sq, .int kz, .int sz, .int 2, .int ((mgv gv (n - (k + 1))) + 1), .ref cq, .ref tq, .ref rq, .int ri, .int rj, .int bn, .int lf])), (cq, .inl (cA, 384, .inl ((md_s2 (mit md_s2 σ (n - (k + 1)))).1))), (tq, .inl (tA, 3, .inl ((md_s2 (mit md_s2 σ (n - (k + 1)))).2)))]) ⟨hx, hb, hml, hown, hts⟩ (c_md_next2 l D h0 kq sq cq tq rq kz sz (mgv gv (n - (k + 1))) ri rj bn lf cA tA (mit md_s2 σ (n - (k + 1)))) cw_X8_next [0, 1] rfl [0, 1, 2] [] [0, 1, 2] hF hK hP hD hS hA 0 7 rfl rfl rfl rfl (by decide) rfl (by decide) (by decide) rfl (by decide) rfl hl.1 rfl (Nat.le_of_ble_eq_true rfl) dX8_mix_44 ⟨Nat.zero_le _, Nat.zero_le _⟩ (fun H locs hP hD hS => ?_)
    refine lv_i2l hx hb dX8_mix_47 rfl ?_
    refine lv_lxor hx hb dX8_mix_48 ?_
    refine lv_lor hx hb dX8_mix_49 ?_
    refine lv_lstore (lv' := [(4, .long ((lL (mds md_s2 md_sout σ v n (n - (k + 1))) 1) ||| (((lR v (nI k)) &&& 1) ^^^ ((md_sout (mit md_s2 σ (n - (k + 1)))).toInt64)))), (6, .int (nI k)), (0, .ref h0), (1, .long v)]) hx hb dX8_mix_50 hl (by decide) rfl (fun ls hl => ?_)
    have hP : va_P D vwCl [(h0, .inr (7, [.ref kq, .ref sq, .int kz, .int sz, .int 2, .int (mgv gv (n - k)), .ref cq, .ref tq, .ref rq, .int ri, .int rj, .int bn, .int lf])), (cq, .inl (cA, 384, .inl ((mit md_s2 σ (n - k)).1))), (tq, .inl (tA, 3, .inl ((mit md_s2 σ (n - k)).2)))] H := by rw [em]; exact hP
    have hD : va_D A [(h0, .inr (7, [.ref kq, .ref sq, .int kz, .int sz, .int 2, .int (mgv gv (n - k)), .ref cq, .ref tq, .ref rq, .int ri, .int rj, .int bn, .int lf])), (cq, .inl (cA, 384, .inl ((mit md_s2 σ (n - k)).1))), (tq, .inl (tA, 3, .inl ((mit md_s2 σ (n - k)).2)))] := by rw [em]; exact hD
    have hl : lv_has ls 7 [(4, .long (mds md_s2 md_sout σ v n (n - k))), (6, .int (nI k)), (0, .ref h0), (1, .long v)] := by rw [em, mds, ek]; exact hl
    refine lv_iinc (v := nI k - 1) (lv' := [(6, .int (nI k - 1)), (4, .long (mds md_s2 md_sout σ v n (n - k))), (0, .ref h0), (1, .long v)]) hx hb dX8_mix_52 hl (k := 1) rfl (ct_dec k) (by decide) rfl (fun ls hl => ?_)
    refine lv_goto (tgt := 28) hx hb dX8_mix_55 (by decide) ?_
    exact ih28 H locs ls hP hD hS (lv_sub hl [0, 1, 2, 3] rfl)
  · intro H locs ls hP hD hS hl
    have hP : va_P D vwCl [(h0, .inr (7, [.ref kq, .ref sq, .int kz, .int sz, .int 2, .int (mgv gv (n - 0)), .ref cq, .ref tq, .ref rq, .int ri, .int rj, .int bn, .int lf])), (cq, .inl (cA, 384, .inl ((mit md_s2 σ (n - 0)).1))), (tq, .inl (tA, 3, .inl ((mit md_s2 σ (n - 0)).2)))] H := hP
    have hD : va_D A [(h0, .inr (7, [.ref kq, .ref sq, .int kz, .int sz, .int 2, .int (mgv gv (n - 0)), .ref cq, .ref tq, .ref rq, .int ri, .int rj, .int bn, .int lf])), (cq, .inl (cA, 384, .inl ((mit md_s2 σ (n - 0)).1))), (tq, .inl (tA, 3, .inl ((mit md_s2 σ (n - 0)).2)))] := hD
    have hl : lv_has ls 7 [(6, .int (nI 0 - 1)), (4, .long (mds md_s2 md_sout σ v n (n - 0))), (0, .ref h0), (1, .long v)] := hl
    refine lv_iload hx hb dX8_mix_28 (lv_at hl 0 rfl) ?_
    refine lv_if_lt (tgt := 58) hx hb dX8_mix_30 (by decide) (fun _ => ?_) (fun hh => absurd (by decide) hh)
    refine lv_lload hx hb dX8_mix_58 (lv_at hl 1 rfl) ?_
    rw [mgv_e] at hP hD
    exact ct_lret hx hb hr hlk hP hK hD hS rfl dX8_mix_60
set_option maxHeartbeats 4000000 in
set_option maxRecDepth 100000 in
/-- Model.skip, machine 3 -/
theorem c_md_skip3 (l : Launch) (D : va_G) (h0 kq sq cq tq rq : Nat) (kz sz gv : Int32) (rA : ClassId) (σ : X5) (n : Nat) (hn : n ≤ 5000) : Cti l D yX8_skip wsX8_skip ({ frames := 6, cells := 0, slots := 0, locals := 190 } : Room) [.ref h0, .int (nI n)] [(rA, .int)] [(h0, .inr (7, [.ref kq, .ref sq, .int kz, .int sz, .int 3, .int gv, .ref cq, .ref tq, .ref rq, .int σ.1.2.1, .int σ.1.2.2, .int σ.2.1, .int σ.2.2])), (rq, .inl (rA, 256, .inl σ.1.1))] [(h0, .inr (7, [.ref kq, .ref sq, .int kz, .int sz, .int 3, .int (gv + nI n), .ref cq, .ref tq, .ref rq, .int ((mit ex_step σ n).1.2.1), .int ((mit ex_step σ n).1.2.2), .int ((mit ex_step σ n).2.1), .int ((mit ex_step σ n).2.2)])), (rq, .inl (rA, 256, .inl ((mit ex_step σ n).1.1)))] 1 := by
  refine ct_of (cc := cX8_skip) (maxL := 3) (ret := (some .boolean)) (by decide) rfl (Nat.le_of_ble_eq_true rfl) ?_
  intro p e s m below meth c A H locs ls hx hb hr hml hts hown hlk hnm hF hP hK hD hA hS hl
  have hown : s.vm.findClass RX8 = some m.cls := hown
  have hl : lv_has ls 3 [(0, .ref h0), (1, .int (nI n))] := hl
  have hf_16 := hts (.fieldLink RX8 16 "BitStreamsModel" "machine" "I") (by decide +kernel)
  have hi_X8 : ∀ w ∈ u_ws RX8 TX8 13, w ∈ wsX8_skip := by decide +kernel
  have cw_X8_next := cwV (R := ({ frames := 6, cells := 0, slots := 0, locals := 190 } : Room)) (rm := ({ frames := 5, cells := 0, slots := 0, locals := 150 } : Room)) 0 hts gX8_skip_X8_next rfl rfl rfl (by decide +kernel) ⟨Nat.le_of_ble_eq_true rfl, Nat.le_of_ble_eq_true rfl⟩
  refine lv_aload_n hx hb dX8_skip_0 rfl (lv_at hl 0 rfl) ?_
  refine va_get (D := D) (ci := 7) (v := .int 3) (C := RX8) (T := TX8) (N := 13) hx hb hts hi_X8 hown hK hP 0 rfl rfl 4 (by decide) hf_16 (fun _ h9 => h9) rfl dX8_skip_1 ?_
  refine lv_if_lt (tgt := 18) hx hb dX8_skip_4 (by decide) (fun hh => absurd hh (by decide)) (fun _ => ?_)
  refine lv_iload_n hx hb dX8_skip_7 rfl (lv_at hl 1 rfl) ?_
  refine lv_if_lt (tgt := 18) hx hb dX8_skip_8 (by decide) (fun hh => absurd hh (nI_pos (by omega))) (fun _ => ?_)
  refine lv_iload_n hx hb dX8_skip_11 rfl (lv_at hl 1 rfl) ?_
  refine lv_sipush (v := 5000) hx hb dX8_skip_12 (by decide) ?_
  refine lv_icmp_le (tgt := 20) hx hb dX8_skip_15 (by decide) (fun _ => ?_) (fun hh => absurd (nI_le hn (by decide)) hh)
  refine lv_iconst (v := 0) hx hb dX8_skip_20 (by decide) ?_
  refine lv_istore_n (lv' := [(2, .int 0), (0, .ref h0), (1, .int (nI n))]) hx hb dX8_skip_21 rfl hl (by decide) rfl (fun ls hl => ?_)
  refine ct_count n (fun k : Nat => [(h0, .inr (7, [.ref kq, .ref sq, .int kz, .int sz, .int 3, .int (mgv gv k), .ref cq, .ref tq, .ref rq, .int ((mit ex_step σ k).1.2.1), .int ((mit ex_step σ k).1.2.2), .int ((mit ex_step σ k).2.1), .int ((mit ex_step σ k).2.2)])), (rq, .inl (rA, 256, .inl ((mit ex_step σ k).1.1)))]) (fun k : Nat => [(2, .int (nI k)), (0, .ref h0), (1, .int (nI n))]) ?_ ?_ 0 (Nat.zero_le _) hP hD hS (lv_sub hl [0, 1, 2] rfl)
  · intro k hk ih22 H locs ls hP hD hS hl
    have hP : va_P D vwCl [(h0, .inr (7, [.ref kq, .ref sq, .int kz, .int sz, .int 3, .int (mgv gv k), .ref cq, .ref tq, .ref rq, .int ((mit ex_step σ k).1.2.1), .int ((mit ex_step σ k).1.2.2), .int ((mit ex_step σ k).2.1), .int ((mit ex_step σ k).2.2)])), (rq, .inl (rA, 256, .inl ((mit ex_step σ k).1.1)))] H := hP
    have hD : va_D A [(h0, .inr (7, [.ref kq, .ref sq, .int kz, .int sz, .int 3, .int (mgv gv k), .ref cq, .ref tq, .ref rq, .int ((mit ex_step σ k).1.2.1), .int ((mit ex_step σ k).1.2.2), .int ((mit ex_step σ k).2.1), .int ((mit ex_step σ k).2.2)])), (rq, .inl (rA, 256, .inl ((mit ex_step σ k).1.1)))] := hD
    have hl : lv_has ls 3 [(2, .int (nI k)), (0, .ref h0), (1, .int (nI n))] := hl
    refine lv_iload_n hx hb dX8_skip_22 rfl (lv_at hl 0 rfl) ?_
    refine lv_iload_n hx hb dX8_skip_23 rfl (lv_at hl 2 rfl) ?_
    refine lv_icmp_ge (tgt := 38) hx hb dX8_skip_24 (by decide) (fun hh => absurd hh (nI_ge hk (by omega))) (fun _ => ?_)
    refine lv_aload_n hx hb dX8_skip_27 rfl (lv_at hl 1 rfl) ?_
    refine ct_callVi (As := []) (rest := []) (wr := []) (ws2 := [(h0, .inr (7, [.ref kq, .ref sq, .int kz, .int sz, .int 3, .int ((mgv gv k) + 1), .ref cq, .ref tq, .ref rq, .int ((ex_step (mit ex_step σ k)).1.2.1), .int ((ex_step (mit ex_step σ k)).1.2.2), .int ((ex_step (mit ex_step σ k)).2.1), .int ((ex_step (mit ex_step σ k)).2.2)])), (rq, .inl (rA, 256, .inl ((ex_step (mit ex_step σ k)).1.1)))]) ⟨hx, hb, hml, hown, hts⟩ (c_md_next3 l D h0 kq sq cq tq rq kz sz (mgv gv k) rA (mit ex_step σ k)) cw_X8_next [0] rfl [0, 1] [] [0, 1] hF hK hP hD hS hA 0 7 rfl rfl rfl rfl (by decide) rfl (by decide) (by decide) rfl (by decide) rfl hl.1 rfl (Nat.le_of_ble_eq_true rfl) dX8_skip_28 ⟨Nat.zero_le _, Nat.zero_le _⟩ (fun H locs hP hD hS => ?_)
    refine lv_pop hx hb dX8_skip_31 rfl ?_
    refine lv_iinc (v := nI (k + 1)) (lv' := [(2, .int (nI (k + 1))), (0, .ref h0), (1, .int (nI n))]) hx hb dX8_skip_32 hl (k := 0) rfl (ct_inc k) (by decide) rfl (fun ls hl => ?_)
    refine lv_goto (tgt := 22) hx hb dX8_skip_35 (by decide) ?_
    exact ih22 H locs ls hP hD hS (lv_sub hl [0, 1, 2] rfl)
  · intro H locs ls hP hD hS hl
    have hP : va_P D vwCl [(h0, .inr (7, [.ref kq, .ref sq, .int kz, .int sz, .int 3, .int (mgv gv n), .ref cq, .ref tq, .ref rq, .int ((mit ex_step σ n).1.2.1), .int ((mit ex_step σ n).1.2.2), .int ((mit ex_step σ n).2.1), .int ((mit ex_step σ n).2.2)])), (rq, .inl (rA, 256, .inl ((mit ex_step σ n).1.1)))] H := hP
    have hD : va_D A [(h0, .inr (7, [.ref kq, .ref sq, .int kz, .int sz, .int 3, .int (mgv gv n), .ref cq, .ref tq, .ref rq, .int ((mit ex_step σ n).1.2.1), .int ((mit ex_step σ n).1.2.2), .int ((mit ex_step σ n).2.1), .int ((mit ex_step σ n).2.2)])), (rq, .inl (rA, 256, .inl ((mit ex_step σ n).1.1)))] := hD
    have hl : lv_has ls 3 [(2, .int (nI n)), (0, .ref h0), (1, .int (nI n))] := hl
    refine lv_iload_n hx hb dX8_skip_22 rfl (lv_at hl 0 rfl) ?_
    refine lv_iload_n hx hb dX8_skip_23 rfl (lv_at hl 2 rfl) ?_
    refine lv_icmp_ge (tgt := 38) hx hb dX8_skip_24 (by decide) (fun _ => ?_) (fun hh => absurd (Int32.le_refl _) hh)
    refine lv_iconst (v := 1) hx hb dX8_skip_38 (by decide) ?_
    rw [mgv_e] at hP hD
    exact ct_zret hx hb hr hlk hP hK hD hS rfl rfl dX8_skip_39
set_option maxHeartbeats 4000000 in
set_option maxRecDepth 100000 in
/-- Model.mix, machine 3 -/
theorem c_md_mix3 (l : Launch) (D : va_G) (h0 kq sq cq tq rq : Nat) (kz sz gv : Int32) (rA : ClassId) (σ : X5) (v : Int64) (n : Nat) (hn1 : 1 ≤ n) (hn : n ≤ 64) : Ctl l D yX8_mix wsX8_mix ({ frames := 6, cells := 0, slots := 0, locals := 190 } : Room) [.ref h0, .long v, .int (nI n)] [(rA, .int)] [(h0, .inr (7, [.ref kq, .ref sq, .int kz, .int sz, .int 3, .int gv, .ref cq, .ref tq, .ref rq, .int σ.1.2.1, .int σ.1.2.2, .int σ.2.1, .int σ.2.2])), (rq, .inl (rA, 256, .inl σ.1.1))] [(h0, .inr (7, [.ref kq, .ref sq, .int kz, .int sz, .int 3, .int (gv + nI n), .ref cq, .ref tq, .ref rq, .int ((mit ex_step σ n).1.2.1), .int ((mit ex_step σ n).1.2.2), .int ((mit ex_step σ n).2.1), .int ((mit ex_step σ n).2.2)])), (rq, .inl (rA, 256, .inl ((mit ex_step σ n).1.1)))] (mds ex_step ex_out σ v n n) := by
  refine ct_of (cc := cX8_mix) (maxL := 7) (ret := (some .long)) (by decide) rfl (Nat.le_of_ble_eq_true rfl) ?_
  intro p e s m below meth c A H locs ls hx hb hr hml hts hown hlk hnm hF hP hK hD hA hS hl
  have hown : s.vm.findClass RX8 = some m.cls := hown
  have hl : lv_has ls 7 [(0, .ref h0), (1, .long v), (3, .int (nI n))] := hl
  have hf_16 := hts (.fieldLink RX8 16 "BitStreamsModel" "machine" "I") (by decide +kernel)
  have hi_X8 : ∀ w ∈ u_ws RX8 TX8 13, w ∈ wsX8_mix := by decide +kernel
  have cw_X8_next := cwV (R := ({ frames := 6, cells := 0, slots := 0, locals := 190 } : Room)) (rm := ({ frames := 5, cells := 0, slots := 0, locals := 150 } : Room)) 0 hts gX8_mix_X8_next rfl rfl rfl (by decide +kernel) ⟨Nat.le_of_ble_eq_true rfl, Nat.le_of_ble_eq_true rfl⟩
  refine lv_aload_n hx hb dX8_mix_0 rfl (lv_at hl 0 rfl) ?_
  refine va_get (D := D) (ci := 7) (v := .int 3) (C := RX8) (T := TX8) (N := 13) hx hb hts hi_X8 hown hK hP 0 rfl rfl 4 (by decide) hf_16 (fun _ h9 => h9) rfl dX8_mix_1 ?_
  refine lv_if_lt (tgt := 18) hx hb dX8_mix_4 (by decide) (fun hh => absurd hh (by decide)) (fun _ => ?_)
  refine lv_iload_n hx hb dX8_mix_7 rfl (lv_at hl 2 rfl) ?_
  refine lv_iconst (v := 1) hx hb dX8_mix_8 (by decide) ?_
  refine lv_icmp_lt (tgt := 18) hx hb dX8_mix_9 (by decide) (fun hh => absurd hh (nI_nlt (a := n) (b := 1) hn1 (by omega))) (fun _ => ?_)
  refine lv_iload_n hx hb dX8_mix_12 rfl (lv_at hl 2 rfl) ?_
  refine lv_bipush (v := 64) hx hb dX8_mix_13 (by decide) ?_
  refine lv_icmp_le (tgt := 20) hx hb dX8_mix_15 (by decide) (fun _ => ?_) (fun hh => absurd (nI_le (b := 64) hn (by decide)) hh)
  refine lv_lconst (v := 0) hx hb dX8_mix_20 (by decide) ?_
  refine lv_lstore (lv' := [(4, .long 0), (0, .ref h0), (1, .long v), (3, .int (nI n))]) hx hb dX8_mix_21 hl (by decide) rfl (fun ls hl => ?_)
  refine lv_iload_n hx hb dX8_mix_23 rfl (lv_at hl 3 rfl) ?_
  refine lv_iconst (v := 1) hx hb dX8_mix_24 (by decide) ?_
  refine lv_isub hx hb dX8_mix_25 ?_
  refine lv_istore (lv' := [(6, .int ((nI n) - 1)), (4, .long 0), (0, .ref h0), (1, .long v), (3, .int (nI n))]) hx hb dX8_mix_26 hl (by decide) rfl (fun ls hl => ?_)
  have hP : va_P D vwCl [(h0, .inr (7, [.ref kq, .ref sq, .int kz, .int sz, .int 3, .int (mgv gv (n - n)), .ref cq, .ref tq, .ref rq, .int ((mit ex_step σ (n - n)).1.2.1), .int ((mit ex_step σ (n - n)).1.2.2), .int ((mit ex_step σ (n - n)).2.1), .int ((mit ex_step σ (n - n)).2.2)])), (rq, .inl (rA, 256, .inl ((mit ex_step σ (n - n)).1.1)))] H := by rw [Nat.sub_self]; exact hP
  have hD : va_D A [(h0, .inr (7, [.ref kq, .ref sq, .int kz, .int sz, .int 3, .int (mgv gv (n - n)), .ref cq, .ref tq, .ref rq, .int ((mit ex_step σ (n - n)).1.2.1), .int ((mit ex_step σ (n - n)).1.2.2), .int ((mit ex_step σ (n - n)).2.1), .int ((mit ex_step σ (n - n)).2.2)])), (rq, .inl (rA, 256, .inl ((mit ex_step σ (n - n)).1.1)))] := by rw [Nat.sub_self]; exact hD
  have hl : lv_has ls 7 [(6, .int (nI n - 1)), (4, .long (mds ex_step ex_out σ v n (n - n))), (0, .ref h0), (1, .long v)] := by rw [Nat.sub_self]; exact lv_sub hl [0, 1, 2, 3] rfl
  refine ct_down (fun k : Nat => [(h0, .inr (7, [.ref kq, .ref sq, .int kz, .int sz, .int 3, .int (mgv gv (n - k)), .ref cq, .ref tq, .ref rq, .int ((mit ex_step σ (n - k)).1.2.1), .int ((mit ex_step σ (n - k)).1.2.2), .int ((mit ex_step σ (n - k)).2.1), .int ((mit ex_step σ (n - k)).2.2)])), (rq, .inl (rA, 256, .inl ((mit ex_step σ (n - k)).1.1)))]) (fun k : Nat => [(6, .int (nI k - 1)), (4, .long (mds ex_step ex_out σ v n (n - k))), (0, .ref h0), (1, .long v)]) n ?_ ?_ hP hD hS (lv_sub hl [0, 1, 2, 3] rfl)
  · intro k hk ih28 H locs ls hP hD hS hl
    have hP : va_P D vwCl [(h0, .inr (7, [.ref kq, .ref sq, .int kz, .int sz, .int 3, .int (mgv gv (n - (k + 1))), .ref cq, .ref tq, .ref rq, .int ((mit ex_step σ (n - (k + 1))).1.2.1), .int ((mit ex_step σ (n - (k + 1))).1.2.2), .int ((mit ex_step σ (n - (k + 1))).2.1), .int ((mit ex_step σ (n - (k + 1))).2.2)])), (rq, .inl (rA, 256, .inl ((mit ex_step σ (n - (k + 1))).1.1)))] H := hP
    have hD : va_D A [(h0, .inr (7, [.ref kq, .ref sq, .int kz, .int sz, .int 3, .int (mgv gv (n - (k + 1))), .ref cq, .ref tq, .ref rq, .int ((mit ex_step σ (n - (k + 1))).1.2.1), .int ((mit ex_step σ (n - (k + 1))).1.2.2), .int ((mit ex_step σ (n - (k + 1))).2.1), .int ((mit ex_step σ (n - (k + 1))).2.2)])), (rq, .inl (rA, 256, .inl ((mit ex_step σ (n - (k + 1))).1.1)))] := hD
    have hl : lv_has ls 7 [(6, .int (nI (k + 1) - 1)), (4, .long (mds ex_step ex_out σ v n (n - (k + 1)))), (0, .ref h0), (1, .long v)] := hl
    rw [nI_pred] at hl
    have em : n - k = n - (k + 1) + 1 := by omega
    have ek : n - 1 - (n - (k + 1)) = k := by omega
    refine lv_iload hx hb dX8_mix_28 (lv_at hl 0 rfl) ?_
    refine lv_if_lt (tgt := 58) hx hb dX8_mix_30 (by decide) (fun hh => absurd hh (nI_pos (by omega))) (fun _ => ?_)
    refine lv_lload hx hb dX8_mix_33 (lv_at hl 1 rfl) ?_
    refine lv_iconst (v := 1) hx hb dX8_mix_35 (by decide) ?_
    refine lv_lshl (v := lL (mds ex_step ex_out σ v n (n - (k + 1))) 1) hx hb dX8_mix_36 rfl ?_
    refine lv_lload_n hx hb dX8_mix_37 rfl (lv_at hl 3 rfl) ?_
    refine lv_iload hx hb dX8_mix_38 (lv_at hl 0 rfl) ?_
    refine lv_lshr (v := lR v (nI k)) hx hb dX8_mix_40 rfl ?_
    refine lv_lconst (v := 1) hx hb dX8_mix_41 (by decide) ?_
    refine lv_land hx hb dX8_mix_42 ?_
    refine lv_aload_n hx hb dX8_mix_43 rfl (lv_at hl 2 rfl) ?_
    refine ct_callVi (As := []) (rest := [.long ((lR v (nI k)) &&& 1), .long (lL (mds ex_step ex_out σ v n (n - (k + 1))) 1)]) (wr := []) (ws2 := [(h0, .inr (7, [.ref kq, .ref sq, .int kz, .int sz, .int 3, .int ((mgv gv (n - (k + 1))) + 1), .ref cq, .ref tq, .ref rq, .int ((ex_step (mit ex_step σ (n - (k + 1)))).1.2.1), .int ((ex_step (mit ex_step σ (n - (k + 1)))).1.2.2), .int ((ex_step (mit ex_step σ (n - (k + 1)))).2.1), .int ((ex_step (mit ex_step σ (n - (k + 1)))).2.2)])), (rq, .inl (rA, 256, .inl ((ex_step (mit ex_step σ (n - (k + 1)))).1.1)))]) ⟨hx, hb, hml, hown, hts⟩ (c_md_next3 l D h0 kq sq cq tq rq kz sz (mgv gv (n - (k + 1))) rA (mit ex_step σ (n - (k + 1)))) cw_X8_next [0] rfl [0, 1] [] [0, 1] hF hK hP hD hS hA 0 7 rfl rfl rfl rfl (by decide) rfl (by decide) (by decide) rfl (by decide) rfl hl.1 rfl (Nat.le_of_ble_eq_true rfl) dX8_mix_44 ⟨Nat.zero_le _, Nat.zero_le _⟩ (fun H locs hP hD hS => ?_)
    refine lv_i2l hx hb dX8_mix_47 rfl ?_
    refine lv_lxor hx hb dX8_mix_48 ?_
    refine lv_lor hx hb dX8_mix_49 ?_
    refine lv_lstore (lv' := [(4, .long ((lL (mds ex_step ex_out σ v n (n - (k + 1))) 1) ||| (((lR v (nI k)) &&& 1) ^^^ ((ex_out (mit ex_step σ (n - (k + 1)))).toInt64)))), (6, .int (nI k)), (0, .ref h0), (1, .long v)]) hx hb dX8_mix_50 hl (by decide) rfl (fun ls hl => ?_)
    have hP : va_P D vwCl [(h0, .inr (7, [.ref kq, .ref sq, .int kz, .int sz, .int 3, .int (mgv gv (n - k)), .ref cq, .ref tq, .ref rq, .int ((mit ex_step σ (n - k)).1.2.1), .int ((mit ex_step σ (n - k)).1.2.2), .int ((mit ex_step σ (n - k)).2.1), .int ((mit ex_step σ (n - k)).2.2)])), (rq, .inl (rA, 256, .inl ((mit ex_step σ (n - k)).1.1)))] H := by rw [em]; exact hP
    have hD : va_D A [(h0, .inr (7, [.ref kq, .ref sq, .int kz, .int sz, .int 3, .int (mgv gv (n - k)), .ref cq, .ref tq, .ref rq, .int ((mit ex_step σ (n - k)).1.2.1), .int ((mit ex_step σ (n - k)).1.2.2), .int ((mit ex_step σ (n - k)).2.1), .int ((mit ex_step σ (n - k)).2.2)])), (rq, .inl (rA, 256, .inl ((mit ex_step σ (n - k)).1.1)))] := by rw [em]; exact hD
    have hl : lv_has ls 7 [(4, .long (mds ex_step ex_out σ v n (n - k))), (6, .int (nI k)), (0, .ref h0), (1, .long v)] := by rw [em, mds, ek]; exact hl
    refine lv_iinc (v := nI k - 1) (lv' := [(6, .int (nI k - 1)), (4, .long (mds ex_step ex_out σ v n (n - k))), (0, .ref h0), (1, .long v)]) hx hb dX8_mix_52 hl (k := 1) rfl (ct_dec k) (by decide) rfl (fun ls hl => ?_)
    refine lv_goto (tgt := 28) hx hb dX8_mix_55 (by decide) ?_
    exact ih28 H locs ls hP hD hS (lv_sub hl [0, 1, 2, 3] rfl)
  · intro H locs ls hP hD hS hl
    have hP : va_P D vwCl [(h0, .inr (7, [.ref kq, .ref sq, .int kz, .int sz, .int 3, .int (mgv gv (n - 0)), .ref cq, .ref tq, .ref rq, .int ((mit ex_step σ (n - 0)).1.2.1), .int ((mit ex_step σ (n - 0)).1.2.2), .int ((mit ex_step σ (n - 0)).2.1), .int ((mit ex_step σ (n - 0)).2.2)])), (rq, .inl (rA, 256, .inl ((mit ex_step σ (n - 0)).1.1)))] H := hP
    have hD : va_D A [(h0, .inr (7, [.ref kq, .ref sq, .int kz, .int sz, .int 3, .int (mgv gv (n - 0)), .ref cq, .ref tq, .ref rq, .int ((mit ex_step σ (n - 0)).1.2.1), .int ((mit ex_step σ (n - 0)).1.2.2), .int ((mit ex_step σ (n - 0)).2.1), .int ((mit ex_step σ (n - 0)).2.2)])), (rq, .inl (rA, 256, .inl ((mit ex_step σ (n - 0)).1.1)))] := hD
    have hl : lv_has ls 7 [(6, .int (nI 0 - 1)), (4, .long (mds ex_step ex_out σ v n (n - 0))), (0, .ref h0), (1, .long v)] := hl
    refine lv_iload hx hb dX8_mix_28 (lv_at hl 0 rfl) ?_
    refine lv_if_lt (tgt := 58) hx hb dX8_mix_30 (by decide) (fun _ => ?_) (fun hh => absurd (by decide) hh)
    refine lv_lload hx hb dX8_mix_58 (lv_at hl 1 rfl) ?_
    rw [mgv_e] at hP hD
    exact ct_lret hx hb hr hlk hP hK hD hS rfl dX8_mix_60
