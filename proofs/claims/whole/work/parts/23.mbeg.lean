/-- the reference's beginnings -/
def md_l1 (μ : MR) (f g : Nat → Int32) : Nat → MR
  | 0 => μ
  | k + 1 => md_put (md_put (md_l1 μ f g k) 0 (nI k) (md_kb f k)) 1 (nI k) (md_kb g k)
def md_l3 (μ : MR) : Nat → MR
  | 0 => μ
  | k + 1 => md_put (md_l3 μ k) 2 (nI (108 + k)) 1
def md_tv (g : Nat → Int32) (k : Nat) : Int32 := if 96 ≤ nI k then (if 127 ≤ nI k then 0 else 1) else md_kb g k
def md_t1 (μ : MR) (f g : Nat → Int32) : Nat → MR
  | 0 => μ
  | k + 1 => md_put (md_put (md_t1 μ f g k) 0 (nI k) (md_kb f k)) 1 (nI k) (md_tv g k)
def md_q1 (μ : MR) (f : Nat → Int32) : Nat → MR
  | 0 => μ
  | k + 1 => md_feed (md_q1 μ f k) (md_kb f k)
def md_q2 (μ : MR) (g : Nat → Int32) : Nat → MR
  | 0 => μ
  | k + 1 => md_feed (md_q2 μ g k) (md_kb g (2 + k))
def md_B0 (μ : MR) (f g : Nat → Int32) : MR := mit md_rstep (md_l3 (md_l1 μ f g 80) 3) 1152
def md_B1 (μ : MR) (f g : Nat → Int32) : MR := mit md_two1 (md_t1 μ f g 128) 256
def md_B2 (μ : MR) (f g : Nat → Int32) : MR := mit md_s2 (md_q2 (md_q1 μ f 64) g 22) 100
def md_B3 (τ : X5) (f : Nat → Int32) (z : Nat) : X5 := (((md_l2 (ex_id τ.1.1 256) f z 256).1, 0, 0), τ.2.1, 0)
theorem md_lt96 {k : Nat} (hk : k < 2 ^ 31) (h : ¬ 96 ≤ nI k) : k < 96 := by
  rcases Nat.lt_or_ge k 96 with q | q
  · exact q
  · exact absurd (nI_le (a := 96) q hk) h
def md_3 (kz sz : Int32) : Int32 := if kz < 5 then 0 else if ¬ sz = 0 then 0 else 1
theorem md_bt (v : Int64) {k : Nat} (hk : k < 8) : (lR v (8 * nI k) &&& 255).toInt32 = by_b v k := by_lr v hk
set_option maxHeartbeats 4000000 in
set_option maxRecDepth 100000 in
/-- Model.beginRings -/
theorem c_md_B0 (l : Launch) (D : va_G) (h0 kq sq cq tq rq : Nat) (kz sz mc gv ri rj bn lf : Int32) (kA sA cA tA : ClassId) (f g : Nat → Int32) (μ : MR) : Ctv l D yX8_beginRings wsX8_beginRings ({ frames := 3, cells := 0, slots := 0, locals := 69 } : Room) [.ref h0] [(kA, .int), (sA, .int), (cA, .int), (tA, .int)] [(h0, .inr (7, [.ref kq, .ref sq, .int kz, .int sz, .int mc, .int gv, .ref cq, .ref tq, .ref rq, .int ri, .int rj, .int bn, .int lf])), (kq, .inl (kA, 32, .inl f)), (sq, .inl (sA, 12, .inl g)), (cq, .inl (cA, 384, .inl μ.1)), (tq, .inl (tA, 3, .inl μ.2))] [(h0, .inr (7, [.ref kq, .ref sq, .int kz, .int sz, .int mc, .int gv, .ref cq, .ref tq, .ref rq, .int ri, .int rj, .int bn, .int lf])), (kq, .inl (kA, 32, .inl f)), (sq, .inl (sA, 12, .inl g)), (cq, .inl (cA, 384, .inl ((md_B0 μ f g).1))), (tq, .inl (tA, 3, .inl ((md_B0 μ f g).2)))] := by
  refine ct_of (cc := cX8_beginRings) (maxL := 2) (ret := none) (by decide) rfl (Nat.le_of_ble_eq_true rfl) ?_
  intro p e s m below meth c A H locs ls hx hb hr hml hts hown hlk hnm hF hP hK hD hA hS hl
  have hown : s.vm.findClass RX8 = some m.cls := hown
  have hl : lv_has ls 2 [(0, .ref h0)] := hl
  have cw_X8_keyBit := cwV (R := ({ frames := 3, cells := 0, slots := 0, locals := 69 } : Room)) (rm := ({ frames := 0, cells := 0, slots := 0, locals := 0 } : Room)) 1 hts gX8_beginRings_X8_keyBit rfl rfl rfl (by decide +kernel) ⟨Nat.le_of_ble_eq_true rfl, Nat.le_of_ble_eq_true rfl⟩
  have cw_X8_put := cwV (R := ({ frames := 3, cells := 0, slots := 0, locals := 69 } : Room)) (rm := ({ frames := 0, cells := 0, slots := 0, locals := 0 } : Room)) 3 hts gX8_beginRings_X8_put rfl rfl rfl (by decide +kernel) ⟨Nat.le_of_ble_eq_true rfl, Nat.le_of_ble_eq_true rfl⟩
  have cw_X8_startBit := cwV (R := ({ frames := 3, cells := 0, slots := 0, locals := 69 } : Room)) (rm := ({ frames := 0, cells := 0, slots := 0, locals := 0 } : Room)) 1 hts gX8_beginRings_X8_startBit rfl rfl rfl (by decide +kernel) ⟨Nat.le_of_ble_eq_true rfl, Nat.le_of_ble_eq_true rfl⟩
  have cw_X8_stepRings := cwV (R := ({ frames := 3, cells := 0, slots := 0, locals := 69 } : Room)) (rm := ({ frames := 2, cells := 0, slots := 0, locals := 45 } : Room)) 0 hts gX8_beginRings_X8_stepRings rfl rfl rfl (by decide +kernel) ⟨Nat.le_of_ble_eq_true rfl, Nat.le_of_ble_eq_true rfl⟩
  refine lv_iconst (v := 0) hx hb dX8_beginRings_0 (by decide) ?_
  refine lv_istore_n (lv' := [(1, .int 0), (0, .ref h0)]) hx hb dX8_beginRings_1 rfl hl (by decide) rfl (fun ls hl => ?_)
  refine ct_count 80 (fun k : Nat => [(h0, .inr (7, [.ref kq, .ref sq, .int kz, .int sz, .int mc, .int gv, .ref cq, .ref tq, .ref rq, .int ri, .int rj, .int bn, .int lf])), (kq, .inl (kA, 32, .inl f)), (sq, .inl (sA, 12, .inl g)), (cq, .inl (cA, 384, .inl ((md_l1 μ f g k).1))), (tq, .inl (tA, 3, .inl ((md_l1 μ f g k).2)))]) (fun k : Nat => [(1, .int (nI k)), (0, .ref h0)]) ?_ ?_ 0 (by decide) hP hD hS (lv_sub hl [0, 1] rfl)
  · intro k hk ih2 H locs ls hP hD hS hl
    have hP : va_P D vwCl [(h0, .inr (7, [.ref kq, .ref sq, .int kz, .int sz, .int mc, .int gv, .ref cq, .ref tq, .ref rq, .int ri, .int rj, .int bn, .int lf])), (kq, .inl (kA, 32, .inl f)), (sq, .inl (sA, 12, .inl g)), (cq, .inl (cA, 384, .inl ((md_l1 μ f g k).1))), (tq, .inl (tA, 3, .inl ((md_l1 μ f g k).2)))] H := hP
    have hD : va_D A [(h0, .inr (7, [.ref kq, .ref sq, .int kz, .int sz, .int mc, .int gv, .ref cq, .ref tq, .ref rq, .int ri, .int rj, .int bn, .int lf])), (kq, .inl (kA, 32, .inl f)), (sq, .inl (sA, 12, .inl g)), (cq, .inl (cA, 384, .inl ((md_l1 μ f g k).1))), (tq, .inl (tA, 3, .inl ((md_l1 μ f g k).2)))] := hD
    have hl : lv_has ls 2 [(1, .int (nI k)), (0, .ref h0)] := hl
    refine lv_iload_n hx hb dX8_beginRings_2 rfl (lv_at hl 0 rfl) ?_
    refine lv_bipush (v := 80) hx hb dX8_beginRings_3 (by decide) ?_
    refine lv_icmp_ge (tgt := 36) hx hb dX8_beginRings_5 (by decide) (fun hh => absurd hh (nI_ge (b := 80) hk (by decide))) (fun _ => ?_)
    refine lv_aload_n hx hb dX8_beginRings_8 rfl (lv_at hl 1 rfl) ?_
    refine lv_iconst (v := 0) hx hb dX8_beginRings_9 (by decide) ?_
    refine lv_iload_n hx hb dX8_beginRings_10 rfl (lv_at hl 0 rfl) ?_
    refine lv_aload_n hx hb dX8_beginRings_11 rfl (lv_at hl 1 rfl) ?_
    refine lv_iload_n hx hb dX8_beginRings_12 rfl (lv_at hl 0 rfl) ?_
    refine ct_callVi (As := [.int (nI k)]) (rest := [.int (nI k), .int 0, .ref h0]) (wr := [(sq, .inl (sA, 12, .inl g)), (cq, .inl (cA, 384, .inl ((md_l1 μ f g k).1))), (tq, .inl (tA, 3, .inl ((md_l1 μ f g k).2)))]) (ws2 := [(h0, .inr (7, [.ref kq, .ref sq, .int kz, .int sz, .int mc, .int gv, .ref cq, .ref tq, .ref rq, .int ri, .int rj, .int bn, .int lf])), (kq, .inl (kA, 32, .inl f)), (sq, .inl (sA, 12, .inl g)), (cq, .inl (cA, 384, .inl ((md_l1 μ f g k).1))), (tq, .inl (tA, 3, .inl ((md_l1 μ f g k).2)))]) ⟨hx, hb, hml, hown, hts⟩ (c_md_keyBit l D h0 kq sq cq tq rq kz sz mc gv ri rj bn lf kA f k (by omega)) cw_X8_keyBit [0] rfl [0, 1] [2, 3, 4] [3, 4, 0, 1, 2] hF hK hP hD hS hA 0 7 rfl rfl rfl rfl (by decide) rfl (by decide) (by decide) rfl (by decide) rfl hl.1 rfl (Nat.le_of_ble_eq_true rfl) dX8_beginRings_13 ⟨Nat.zero_le _, Nat.zero_le _⟩ (fun H locs hP hD hS => ?_)
    refine ct_callVv (As := [.int 0, .int (nI k), .int (md_kb f k)]) (rest := []) (wr := [(kq, .inl (kA, 32, .inl f)), (sq, .inl (sA, 12, .inl g))]) (ws2 := [(h0, .inr (7, [.ref kq, .ref sq, .int kz, .int sz, .int mc, .int gv, .ref cq, .ref tq, .ref rq, .int ri, .int rj, .int bn, .int lf])), (kq, .inl (kA, 32, .inl f)), (sq, .inl (sA, 12, .inl g)), (cq, .inl (cA, 384, .inl ((md_put (md_l1 μ f g k) 0 (nI k) (md_kb f k)).1))), (tq, .inl (tA, 3, .inl ((md_put (md_l1 μ f g k) 0 (nI k) (md_kb f k)).2)))]) ⟨hx, hb, hml, hown, hts⟩ (c_md_put l D h0 kq sq cq tq rq kz sz mc gv ri rj bn lf cA tA (md_l1 μ f g k) 0 (by decide) (nI k) (md_kb f k)) cw_X8_put [2, 3] rfl [0, 3, 4] [1, 2] [2, 0, 1, 3, 4] hF hK hP hD hS hA 0 7 rfl rfl rfl rfl (by decide) rfl (by decide) (by decide) rfl (by decide) rfl hl.1 rfl (Nat.le_of_ble_eq_true rfl) dX8_beginRings_16 ⟨Nat.zero_le _, Nat.zero_le _⟩ (fun H locs hP hD hS => ?_)
    refine lv_aload_n hx hb dX8_beginRings_19 rfl (lv_at hl 1 rfl) ?_
    refine lv_iconst (v := 1) hx hb dX8_beginRings_20 (by decide) ?_
    refine lv_iload_n hx hb dX8_beginRings_21 rfl (lv_at hl 0 rfl) ?_
    refine lv_aload_n hx hb dX8_beginRings_22 rfl (lv_at hl 1 rfl) ?_
    refine lv_iload_n hx hb dX8_beginRings_23 rfl (lv_at hl 0 rfl) ?_
    refine ct_callVi (As := [.int (nI k)]) (rest := [.int (nI k), .int 1, .ref h0]) (wr := [(kq, .inl (kA, 32, .inl f)), (cq, .inl (cA, 384, .inl ((md_put (md_l1 μ f g k) 0 (nI k) (md_kb f k)).1))), (tq, .inl (tA, 3, .inl ((md_put (md_l1 μ f g k) 0 (nI k) (md_kb f k)).2)))]) (ws2 := [(h0, .inr (7, [.ref kq, .ref sq, .int kz, .int sz, .int mc, .int gv, .ref cq, .ref tq, .ref rq, .int ri, .int rj, .int bn, .int lf])), (kq, .inl (kA, 32, .inl f)), (sq, .inl (sA, 12, .inl g)), (cq, .inl (cA, 384, .inl ((md_put (md_l1 μ f g k) 0 (nI k) (md_kb f k)).1))), (tq, .inl (tA, 3, .inl ((md_put (md_l1 μ f g k) 0 (nI k) (md_kb f k)).2)))]) ⟨hx, hb, hml, hown, hts⟩ (c_md_startBit l D h0 kq sq cq tq rq kz sz mc gv ri rj bn lf sA g k (by omega)) cw_X8_startBit [1] rfl [0, 2] [1, 3, 4] [3, 0, 4, 1, 2] hF hK hP hD hS hA 0 7 rfl rfl rfl rfl (by decide) rfl (by decide) (by decide) rfl (by decide) rfl hl.1 rfl (Nat.le_of_ble_eq_true rfl) dX8_beginRings_24 ⟨Nat.zero_le _, Nat.zero_le _⟩ (fun H locs hP hD hS => ?_)
    refine ct_callVv (As := [.int 1, .int (nI k), .int (md_kb g k)]) (rest := []) (wr := [(kq, .inl (kA, 32, .inl f)), (sq, .inl (sA, 12, .inl g))]) (ws2 := [(h0, .inr (7, [.ref kq, .ref sq, .int kz, .int sz, .int mc, .int gv, .ref cq, .ref tq, .ref rq, .int ri, .int rj, .int bn, .int lf])), (kq, .inl (kA, 32, .inl f)), (sq, .inl (sA, 12, .inl g)), (cq, .inl (cA, 384, .inl ((md_put (md_put (md_l1 μ f g k) 0 (nI k) (md_kb f k)) 1 (nI k) (md_kb g k)).1))), (tq, .inl (tA, 3, .inl ((md_put (md_put (md_l1 μ f g k) 0 (nI k) (md_kb f k)) 1 (nI k) (md_kb g k)).2)))]) ⟨hx, hb, hml, hown, hts⟩ (c_md_put l D h0 kq sq cq tq rq kz sz mc gv ri rj bn lf cA tA (md_put (md_l1 μ f g k) 0 (nI k) (md_kb f k)) 1 (by decide) (nI k) (md_kb g k)) cw_X8_put [2, 3] rfl [0, 3, 4] [1, 2] [2, 0, 1, 3, 4] hF hK hP hD hS hA 0 7 rfl rfl rfl rfl (by decide) rfl (by decide) (by decide) rfl (by decide) rfl hl.1 rfl (Nat.le_of_ble_eq_true rfl) dX8_beginRings_27 ⟨Nat.zero_le _, Nat.zero_le _⟩ (fun H locs hP hD hS => ?_)
    refine lv_iinc (v := nI (k + 1)) (lv' := [(1, .int (nI (k + 1))), (0, .ref h0)]) hx hb dX8_beginRings_30 hl (k := 0) rfl (ct_inc k) (by decide) rfl (fun ls hl => ?_)
    refine lv_goto (tgt := 2) hx hb dX8_beginRings_33 (by decide) ?_
    exact ih2 H locs ls hP hD hS (lv_sub hl [0, 1] rfl)
  · intro H locs ls hP hD hS hl
    have hP : va_P D vwCl [(h0, .inr (7, [.ref kq, .ref sq, .int kz, .int sz, .int mc, .int gv, .ref cq, .ref tq, .ref rq, .int ri, .int rj, .int bn, .int lf])), (kq, .inl (kA, 32, .inl f)), (sq, .inl (sA, 12, .inl g)), (cq, .inl (cA, 384, .inl ((md_l1 μ f g 80).1))), (tq, .inl (tA, 3, .inl ((md_l1 μ f g 80).2)))] H := hP
    have hD : va_D A [(h0, .inr (7, [.ref kq, .ref sq, .int kz, .int sz, .int mc, .int gv, .ref cq, .ref tq, .ref rq, .int ri, .int rj, .int bn, .int lf])), (kq, .inl (kA, 32, .inl f)), (sq, .inl (sA, 12, .inl g)), (cq, .inl (cA, 384, .inl ((md_l1 μ f g 80).1))), (tq, .inl (tA, 3, .inl ((md_l1 μ f g 80).2)))] := hD
    have hl : lv_has ls 2 [(1, .int (nI 80)), (0, .ref h0)] := hl
    refine lv_iload_n hx hb dX8_beginRings_2 rfl (lv_at hl 0 rfl) ?_
    refine lv_bipush (v := 80) hx hb dX8_beginRings_3 (by decide) ?_
    refine lv_icmp_ge (tgt := 36) hx hb dX8_beginRings_5 (by decide) (fun _ => ?_) (fun hh => absurd (Int32.le_refl _) hh)
    refine lv_bipush (v := 108) hx hb dX8_beginRings_36 (by decide) ?_
    refine lv_istore_n (lv' := [(1, .int 108), (0, .ref h0)]) hx hb dX8_beginRings_38 rfl hl (by decide) rfl (fun ls hl => ?_)
    refine ct_count 3 (fun k : Nat => [(h0, .inr (7, [.ref kq, .ref sq, .int kz, .int sz, .int mc, .int gv, .ref cq, .ref tq, .ref rq, .int ri, .int rj, .int bn, .int lf])), (kq, .inl (kA, 32, .inl f)), (sq, .inl (sA, 12, .inl g)), (cq, .inl (cA, 384, .inl ((md_l3 (md_l1 μ f g 80) k).1))), (tq, .inl (tA, 3, .inl ((md_l3 (md_l1 μ f g 80) k).2)))]) (fun k : Nat => [(1, .int (nI (108 + k))), (0, .ref h0)]) ?_ ?_ 0 (by decide) hP hD hS (lv_sub hl [0, 1] rfl)
    · intro k hk ih39 H locs ls hP hD hS hl
      have hP : va_P D vwCl [(h0, .inr (7, [.ref kq, .ref sq, .int kz, .int sz, .int mc, .int gv, .ref cq, .ref tq, .ref rq, .int ri, .int rj, .int bn, .int lf])), (kq, .inl (kA, 32, .inl f)), (sq, .inl (sA, 12, .inl g)), (cq, .inl (cA, 384, .inl ((md_l3 (md_l1 μ f g 80) k).1))), (tq, .inl (tA, 3, .inl ((md_l3 (md_l1 μ f g 80) k).2)))] H := hP
      have hD : va_D A [(h0, .inr (7, [.ref kq, .ref sq, .int kz, .int sz, .int mc, .int gv, .ref cq, .ref tq, .ref rq, .int ri, .int rj, .int bn, .int lf])), (kq, .inl (kA, 32, .inl f)), (sq, .inl (sA, 12, .inl g)), (cq, .inl (cA, 384, .inl ((md_l3 (md_l1 μ f g 80) k).1))), (tq, .inl (tA, 3, .inl ((md_l3 (md_l1 μ f g 80) k).2)))] := hD
      have hl : lv_has ls 2 [(1, .int (nI (108 + k))), (0, .ref h0)] := hl
      refine lv_iload_n hx hb dX8_beginRings_39 rfl (lv_at hl 0 rfl) ?_
      refine lv_bipush (v := 111) hx hb dX8_beginRings_40 (by decide) ?_
      refine lv_icmp_ge (tgt := 58) hx hb dX8_beginRings_42 (by decide) (fun hh => absurd hh (nI_ge (b := 111) (by omega) (by decide))) (fun _ => ?_)
      refine lv_aload_n hx hb dX8_beginRings_45 rfl (lv_at hl 1 rfl) ?_
      refine lv_iconst (v := 2) hx hb dX8_beginRings_46 (by decide) ?_
      refine lv_iload_n hx hb dX8_beginRings_47 rfl (lv_at hl 0 rfl) ?_
      refine lv_iconst (v := 1) hx hb dX8_beginRings_48 (by decide) ?_
      refine ct_callVv (As := [.int 2, .int (nI (108 + k)), .int 1]) (rest := []) (wr := [(kq, .inl (kA, 32, .inl f)), (sq, .inl (sA, 12, .inl g))]) (ws2 := [(h0, .inr (7, [.ref kq, .ref sq, .int kz, .int sz, .int mc, .int gv, .ref cq, .ref tq, .ref rq, .int ri, .int rj, .int bn, .int lf])), (kq, .inl (kA, 32, .inl f)), (sq, .inl (sA, 12, .inl g)), (cq, .inl (cA, 384, .inl ((md_put (md_l3 (md_l1 μ f g 80) k) 2 (nI (108 + k)) 1).1))), (tq, .inl (tA, 3, .inl ((md_put (md_l3 (md_l1 μ f g 80) k) 2 (nI (108 + k)) 1).2)))]) ⟨hx, hb, hml, hown, hts⟩ (c_md_put l D h0 kq sq cq tq rq kz sz mc gv ri rj bn lf cA tA (md_l3 (md_l1 μ f g 80) k) 2 (by decide) (nI (108 + k)) 1) cw_X8_put [2, 3] rfl [0, 3, 4] [1, 2] [2, 0, 1, 3, 4] hF hK hP hD hS hA 0 7 rfl rfl rfl rfl (by decide) rfl (by decide) (by decide) rfl (by decide) rfl hl.1 rfl (Nat.le_of_ble_eq_true rfl) dX8_beginRings_49 ⟨Nat.zero_le _, Nat.zero_le _⟩ (fun H locs hP hD hS => ?_)
      refine lv_iinc (v := nI (108 + (k + 1))) (lv' := [(1, .int (nI (108 + (k + 1)))), (0, .ref h0)]) hx hb dX8_beginRings_52 hl (k := 0) rfl (ct_inc (108 + k)) (by decide) rfl (fun ls hl => ?_)
      refine lv_goto (tgt := 39) hx hb dX8_beginRings_55 (by decide) ?_
      exact ih39 H locs ls hP hD hS (lv_sub hl [0, 1] rfl)
    · intro H locs ls hP hD hS hl
      have hP : va_P D vwCl [(h0, .inr (7, [.ref kq, .ref sq, .int kz, .int sz, .int mc, .int gv, .ref cq, .ref tq, .ref rq, .int ri, .int rj, .int bn, .int lf])), (kq, .inl (kA, 32, .inl f)), (sq, .inl (sA, 12, .inl g)), (cq, .inl (cA, 384, .inl ((md_l3 (md_l1 μ f g 80) 3).1))), (tq, .inl (tA, 3, .inl ((md_l3 (md_l1 μ f g 80) 3).2)))] H := hP
      have hD : va_D A [(h0, .inr (7, [.ref kq, .ref sq, .int kz, .int sz, .int mc, .int gv, .ref cq, .ref tq, .ref rq, .int ri, .int rj, .int bn, .int lf])), (kq, .inl (kA, 32, .inl f)), (sq, .inl (sA, 12, .inl g)), (cq, .inl (cA, 384, .inl ((md_l3 (md_l1 μ f g 80) 3).1))), (tq, .inl (tA, 3, .inl ((md_l3 (md_l1 μ f g 80) 3).2)))] := hD
      have hl : lv_has ls 2 [(1, .int (nI (108 + 3))), (0, .ref h0)] := hl
      refine lv_iload_n hx hb dX8_beginRings_39 rfl (lv_at hl 0 rfl) ?_
      refine lv_bipush (v := 111) hx hb dX8_beginRings_40 (by decide) ?_
      refine lv_icmp_ge (tgt := 58) hx hb dX8_beginRings_42 (by decide) (fun _ => ?_) (fun hh => absurd (Int32.le_refl _) hh)
      refine lv_iconst (v := 0) hx hb dX8_beginRings_58 (by decide) ?_
      refine lv_istore_n (lv' := [(1, .int 0), (0, .ref h0)]) hx hb dX8_beginRings_59 rfl hl (by decide) rfl (fun ls hl => ?_)
      refine ct_count 1152 (fun k : Nat => [(h0, .inr (7, [.ref kq, .ref sq, .int kz, .int sz, .int mc, .int gv, .ref cq, .ref tq, .ref rq, .int ri, .int rj, .int bn, .int lf])), (kq, .inl (kA, 32, .inl f)), (sq, .inl (sA, 12, .inl g)), (cq, .inl (cA, 384, .inl ((mit md_rstep (md_l3 (md_l1 μ f g 80) 3) k).1))), (tq, .inl (tA, 3, .inl ((mit md_rstep (md_l3 (md_l1 μ f g 80) 3) k).2)))]) (fun k : Nat => [(1, .int (nI k)), (0, .ref h0)]) ?_ ?_ 0 (by decide) hP hD hS (lv_sub hl [0, 1] rfl)
      · intro k hk ih60 H locs ls hP hD hS hl
        have hP : va_P D vwCl [(h0, .inr (7, [.ref kq, .ref sq, .int kz, .int sz, .int mc, .int gv, .ref cq, .ref tq, .ref rq, .int ri, .int rj, .int bn, .int lf])), (kq, .inl (kA, 32, .inl f)), (sq, .inl (sA, 12, .inl g)), (cq, .inl (cA, 384, .inl ((mit md_rstep (md_l3 (md_l1 μ f g 80) 3) k).1))), (tq, .inl (tA, 3, .inl ((mit md_rstep (md_l3 (md_l1 μ f g 80) 3) k).2)))] H := hP
        have hD : va_D A [(h0, .inr (7, [.ref kq, .ref sq, .int kz, .int sz, .int mc, .int gv, .ref cq, .ref tq, .ref rq, .int ri, .int rj, .int bn, .int lf])), (kq, .inl (kA, 32, .inl f)), (sq, .inl (sA, 12, .inl g)), (cq, .inl (cA, 384, .inl ((mit md_rstep (md_l3 (md_l1 μ f g 80) 3) k).1))), (tq, .inl (tA, 3, .inl ((mit md_rstep (md_l3 (md_l1 μ f g 80) 3) k).2)))] := hD
        have hl : lv_has ls 2 [(1, .int (nI k)), (0, .ref h0)] := hl
        refine lv_iload_n hx hb dX8_beginRings_60 rfl (lv_at hl 0 rfl) ?_
        refine lv_sipush (v := 1152) hx hb dX8_beginRings_61 (by decide) ?_
        refine lv_icmp_ge (tgt := 78) hx hb dX8_beginRings_64 (by decide) (fun hh => absurd hh (nI_ge (b := 1152) hk (by decide))) (fun _ => ?_)
        refine lv_aload_n hx hb dX8_beginRings_67 rfl (lv_at hl 1 rfl) ?_
        refine ct_callVi (As := []) (rest := []) (wr := [(kq, .inl (kA, 32, .inl f)), (sq, .inl (sA, 12, .inl g))]) (ws2 := [(h0, .inr (7, [.ref kq, .ref sq, .int kz, .int sz, .int mc, .int gv, .ref cq, .ref tq, .ref rq, .int ri, .int rj, .int bn, .int lf])), (kq, .inl (kA, 32, .inl f)), (sq, .inl (sA, 12, .inl g)), (cq, .inl (cA, 384, .inl ((md_rstep (mit md_rstep (md_l3 (md_l1 μ f g 80) 3) k)).1))), (tq, .inl (tA, 3, .inl ((md_rstep (mit md_rstep (md_l3 (md_l1 μ f g 80) 3) k)).2)))]) ⟨hx, hb, hml, hown, hts⟩ (c_md_rings l D h0 kq sq cq tq rq kz sz mc gv ri rj bn lf cA tA (mit md_rstep (md_l3 (md_l1 μ f g 80) 3) k)) cw_X8_stepRings [2, 3] rfl [0, 3, 4] [1, 2] [2, 0, 1, 3, 4] hF hK hP hD hS hA 0 7 rfl rfl rfl rfl (by decide) rfl (by decide) (by decide) rfl (by decide) rfl hl.1 rfl (Nat.le_of_ble_eq_true rfl) dX8_beginRings_68 ⟨Nat.zero_le _, Nat.zero_le _⟩ (fun H locs hP hD hS => ?_)
        refine lv_pop hx hb dX8_beginRings_71 rfl ?_
        refine lv_iinc (v := nI (k + 1)) (lv' := [(1, .int (nI (k + 1))), (0, .ref h0)]) hx hb dX8_beginRings_72 hl (k := 0) rfl (ct_inc k) (by decide) rfl (fun ls hl => ?_)
        refine lv_goto (tgt := 60) hx hb dX8_beginRings_75 (by decide) ?_
        exact ih60 H locs ls hP hD hS (lv_sub hl [0, 1] rfl)
      · intro H locs ls hP hD hS hl
        have hP : va_P D vwCl [(h0, .inr (7, [.ref kq, .ref sq, .int kz, .int sz, .int mc, .int gv, .ref cq, .ref tq, .ref rq, .int ri, .int rj, .int bn, .int lf])), (kq, .inl (kA, 32, .inl f)), (sq, .inl (sA, 12, .inl g)), (cq, .inl (cA, 384, .inl ((mit md_rstep (md_l3 (md_l1 μ f g 80) 3) 1152).1))), (tq, .inl (tA, 3, .inl ((mit md_rstep (md_l3 (md_l1 μ f g 80) 3) 1152).2)))] H := hP
        have hD : va_D A [(h0, .inr (7, [.ref kq, .ref sq, .int kz, .int sz, .int mc, .int gv, .ref cq, .ref tq, .ref rq, .int ri, .int rj, .int bn, .int lf])), (kq, .inl (kA, 32, .inl f)), (sq, .inl (sA, 12, .inl g)), (cq, .inl (cA, 384, .inl ((mit md_rstep (md_l3 (md_l1 μ f g 80) 3) 1152).1))), (tq, .inl (tA, 3, .inl ((mit md_rstep (md_l3 (md_l1 μ f g 80) 3) 1152).2)))] := hD
        have hl : lv_has ls 2 [(1, .int (nI 1152)), (0, .ref h0)] := hl
        refine lv_iload_n hx hb dX8_beginRings_60 rfl (lv_at hl 0 rfl) ?_
        refine lv_sipush (v := 1152) hx hb dX8_beginRings_61 (by decide) ?_
        refine lv_icmp_ge (tgt := 78) hx hb dX8_beginRings_64 (by decide) (fun _ => ?_) (fun hh => absurd (Int32.le_refl _) hh)
        exact ct_vret hx hb hr hlk hP hK hD hS dX8_beginRings_78
set_option maxHeartbeats 4000000 in
set_option maxRecDepth 100000 in
/-- Model.beginTwo -/
theorem c_md_B1 (l : Launch) (D : va_G) (h0 kq sq cq tq rq : Nat) (kz sz mc gv ri rj bn lf : Int32) (kA sA cA tA : ClassId) (f g : Nat → Int32) (μ : MR) : Ctv l D yX8_beginTwo wsX8_beginTwo ({ frames := 3, cells := 0, slots := 0, locals := 69 } : Room) [.ref h0] [(kA, .int), (sA, .int), (cA, .int), (tA, .int)] [(h0, .inr (7, [.ref kq, .ref sq, .int kz, .int sz, .int mc, .int gv, .ref cq, .ref tq, .ref rq, .int ri, .int rj, .int bn, .int lf])), (kq, .inl (kA, 32, .inl f)), (sq, .inl (sA, 12, .inl g)), (cq, .inl (cA, 384, .inl μ.1)), (tq, .inl (tA, 3, .inl μ.2))] [(h0, .inr (7, [.ref kq, .ref sq, .int kz, .int sz, .int mc, .int gv, .ref cq, .ref tq, .ref rq, .int ri, .int rj, .int bn, .int lf])), (kq, .inl (kA, 32, .inl f)), (sq, .inl (sA, 12, .inl g)), (cq, .inl (cA, 384, .inl ((md_B1 μ f g).1))), (tq, .inl (tA, 3, .inl ((md_B1 μ f g).2)))] := by
  refine ct_of (cc := cX8_beginTwo) (maxL := 2) (ret := none) (by decide) rfl (Nat.le_of_ble_eq_true rfl) ?_
  intro p e s m below meth c A H locs ls hx hb hr hml hts hown hlk hnm hF hP hK hD hA hS hl
  have hown : s.vm.findClass RX8 = some m.cls := hown
  have hl : lv_has ls 2 [(0, .ref h0)] := hl
  have cw_X8_keyBit := cwV (R := ({ frames := 3, cells := 0, slots := 0, locals := 69 } : Room)) (rm := ({ frames := 0, cells := 0, slots := 0, locals := 0 } : Room)) 1 hts gX8_beginTwo_X8_keyBit rfl rfl rfl (by decide +kernel) ⟨Nat.le_of_ble_eq_true rfl, Nat.le_of_ble_eq_true rfl⟩
  have cw_X8_put := cwV (R := ({ frames := 3, cells := 0, slots := 0, locals := 69 } : Room)) (rm := ({ frames := 0, cells := 0, slots := 0, locals := 0 } : Room)) 3 hts gX8_beginTwo_X8_put rfl rfl rfl (by decide +kernel) ⟨Nat.le_of_ble_eq_true rfl, Nat.le_of_ble_eq_true rfl⟩
  have cw_X8_startBit := cwV (R := ({ frames := 3, cells := 0, slots := 0, locals := 69 } : Room)) (rm := ({ frames := 0, cells := 0, slots := 0, locals := 0 } : Room)) 1 hts gX8_beginTwo_X8_startBit rfl rfl rfl (by decide +kernel) ⟨Nat.le_of_ble_eq_true rfl, Nat.le_of_ble_eq_true rfl⟩
  have cw_X8_stepTwo := cwV (R := ({ frames := 3, cells := 0, slots := 0, locals := 69 } : Room)) (rm := ({ frames := 2, cells := 0, slots := 0, locals := 45 } : Room)) 1 hts gX8_beginTwo_X8_stepTwo rfl rfl rfl (by decide +kernel) ⟨Nat.le_of_ble_eq_true rfl, Nat.le_of_ble_eq_true rfl⟩
  refine lv_iconst (v := 0) hx hb dX8_beginTwo_0 (by decide) ?_
  refine lv_istore_n (lv' := [(1, .int 0), (0, .ref h0)]) hx hb dX8_beginTwo_1 rfl hl (by decide) rfl (fun ls hl => ?_)
  refine ct_count 128 (fun k : Nat => [(h0, .inr (7, [.ref kq, .ref sq, .int kz, .int sz, .int mc, .int gv, .ref cq, .ref tq, .ref rq, .int ri, .int rj, .int bn, .int lf])), (kq, .inl (kA, 32, .inl f)), (sq, .inl (sA, 12, .inl g)), (cq, .inl (cA, 384, .inl ((md_t1 μ f g k).1))), (tq, .inl (tA, 3, .inl ((md_t1 μ f g k).2)))]) (fun k : Nat => [(1, .int (nI k)), (0, .ref h0)]) ?_ ?_ 0 (by decide) hP hD hS (lv_sub hl [0, 1] rfl)
  · intro k hk ih2 H locs ls hP hD hS hl
    have hP : va_P D vwCl [(h0, .inr (7, [.ref kq, .ref sq, .int kz, .int sz, .int mc, .int gv, .ref cq, .ref tq, .ref rq, .int ri, .int rj, .int bn, .int lf])), (kq, .inl (kA, 32, .inl f)), (sq, .inl (sA, 12, .inl g)), (cq, .inl (cA, 384, .inl ((md_t1 μ f g k).1))), (tq, .inl (tA, 3, .inl ((md_t1 μ f g k).2)))] H := hP
    have hD : va_D A [(h0, .inr (7, [.ref kq, .ref sq, .int kz, .int sz, .int mc, .int gv, .ref cq, .ref tq, .ref rq, .int ri, .int rj, .int bn, .int lf])), (kq, .inl (kA, 32, .inl f)), (sq, .inl (sA, 12, .inl g)), (cq, .inl (cA, 384, .inl ((md_t1 μ f g k).1))), (tq, .inl (tA, 3, .inl ((md_t1 μ f g k).2)))] := hD
    have hl : lv_has ls 2 [(1, .int (nI k)), (0, .ref h0)] := hl
    refine lv_iload_n hx hb dX8_beginTwo_2 rfl (lv_at hl 0 rfl) ?_
    refine lv_sipush (v := 128) hx hb dX8_beginTwo_3 (by decide) ?_
    refine lv_icmp_ge (tgt := 57) hx hb dX8_beginTwo_6 (by decide) (fun hh => absurd hh (nI_ge (b := 128) hk (by decide))) (fun _ => ?_)
    refine lv_aload_n hx hb dX8_beginTwo_9 rfl (lv_at hl 1 rfl) ?_
    refine lv_iconst (v := 0) hx hb dX8_beginTwo_10 (by decide) ?_
    refine lv_iload_n hx hb dX8_beginTwo_11 rfl (lv_at hl 0 rfl) ?_
    refine lv_aload_n hx hb dX8_beginTwo_12 rfl (lv_at hl 1 rfl) ?_
    refine lv_iload_n hx hb dX8_beginTwo_13 rfl (lv_at hl 0 rfl) ?_
    refine ct_callVi (As := [.int (nI k)]) (rest := [.int (nI k), .int 0, .ref h0]) (wr := [(sq, .inl (sA, 12, .inl g)), (cq, .inl (cA, 384, .inl ((md_t1 μ f g k).1))), (tq, .inl (tA, 3, .inl ((md_t1 μ f g k).2)))]) (ws2 := [(h0, .inr (7, [.ref kq, .ref sq, .int kz, .int sz, .int mc, .int gv, .ref cq, .ref tq, .ref rq, .int ri, .int rj, .int bn, .int lf])), (kq, .inl (kA, 32, .inl f)), (sq, .inl (sA, 12, .inl g)), (cq, .inl (cA, 384, .inl ((md_t1 μ f g k).1))), (tq, .inl (tA, 3, .inl ((md_t1 μ f g k).2)))]) ⟨hx, hb, hml, hown, hts⟩ (c_md_keyBit l D h0 kq sq cq tq rq kz sz mc gv ri rj bn lf kA f k (by omega)) cw_X8_keyBit [0] rfl [0, 1] [2, 3, 4] [3, 4, 0, 1, 2] hF hK hP hD hS hA 0 7 rfl rfl rfl rfl (by decide) rfl (by decide) (by decide) rfl (by decide) rfl hl.1 rfl (Nat.le_of_ble_eq_true rfl) dX8_beginTwo_14 ⟨Nat.zero_le _, Nat.zero_le _⟩ (fun H locs hP hD hS => ?_)
    refine ct_callVv (As := [.int 0, .int (nI k), .int (md_kb f k)]) (rest := []) (wr := [(kq, .inl (kA, 32, .inl f)), (sq, .inl (sA, 12, .inl g))]) (ws2 := [(h0, .inr (7, [.ref kq, .ref sq, .int kz, .int sz, .int mc, .int gv, .ref cq, .ref tq, .ref rq, .int ri, .int rj, .int bn, .int lf])), (kq, .inl (kA, 32, .inl f)), (sq, .inl (sA, 12, .inl g)), (cq, .inl (cA, 384, .inl ((md_put (md_t1 μ f g k) 0 (nI k) (md_kb f k)).1))), (tq, .inl (tA, 3, .inl ((md_put (md_t1 μ f g k) 0 (nI k) (md_kb f k)).2)))]) ⟨hx, hb, hml, hown, hts⟩ (c_md_put l D h0 kq sq cq tq rq kz sz mc gv ri rj bn lf cA tA (md_t1 μ f g k) 0 (by decide) (nI k) (md_kb f k)) cw_X8_put [2, 3] rfl [0, 3, 4] [1, 2] [2, 0, 1, 3, 4] hF hK hP hD hS hA 0 7 rfl rfl rfl rfl (by decide) rfl (by decide) (by decide) rfl (by decide) rfl hl.1 rfl (Nat.le_of_ble_eq_true rfl) dX8_beginTwo_17 ⟨Nat.zero_le _, Nat.zero_le _⟩ (fun H locs hP hD hS => ?_)
    refine lv_aload_n hx hb dX8_beginTwo_20 rfl (lv_at hl 1 rfl) ?_
    refine lv_iconst (v := 1) hx hb dX8_beginTwo_21 (by decide) ?_
    refine lv_iload_n hx hb dX8_beginTwo_22 rfl (lv_at hl 0 rfl) ?_
    refine lv_iload_n hx hb dX8_beginTwo_23 rfl (lv_at hl 0 rfl) ?_
    refine lv_bipush (v := 96) hx hb dX8_beginTwo_24 (by decide) ?_
    refine lv_icmp_ge (tgt := 37) hx hb dX8_beginTwo_26 (by decide) (fun c_26_1 => ?_) (fun c_26_1 => ?_)
    · refine lv_iload_n hx hb dX8_beginTwo_37 rfl (lv_at hl 0 rfl) ?_
      refine lv_bipush (v := 127) hx hb dX8_beginTwo_38 (by decide) ?_
      refine lv_icmp_ge (tgt := 47) hx hb dX8_beginTwo_40 (by decide) (fun c_40_2 => ?_) (fun c_40_2 => ?_)
      · refine lv_iconst (v := 0) hx hb dX8_beginTwo_47 (by decide) ?_
        refine ct_topi (y := md_tv g k) (by rw [md_tv, if_pos c_26_1, if_pos c_40_2]) ?_
        refine ct_callVv (As := [.int 1, .int (nI k), .int (md_tv g k)]) (rest := []) (wr := [(kq, .inl (kA, 32, .inl f)), (sq, .inl (sA, 12, .inl g))]) (ws2 := [(h0, .inr (7, [.ref kq, .ref sq, .int kz, .int sz, .int mc, .int gv, .ref cq, .ref tq, .ref rq, .int ri, .int rj, .int bn, .int lf])), (kq, .inl (kA, 32, .inl f)), (sq, .inl (sA, 12, .inl g)), (cq, .inl (cA, 384, .inl ((md_put (md_put (md_t1 μ f g k) 0 (nI k) (md_kb f k)) 1 (nI k) (md_tv g k)).1))), (tq, .inl (tA, 3, .inl ((md_put (md_put (md_t1 μ f g k) 0 (nI k) (md_kb f k)) 1 (nI k) (md_tv g k)).2)))]) ⟨hx, hb, hml, hown, hts⟩ (c_md_put l D h0 kq sq cq tq rq kz sz mc gv ri rj bn lf cA tA (md_put (md_t1 μ f g k) 0 (nI k) (md_kb f k)) 1 (by decide) (nI k) (md_tv g k)) cw_X8_put [2, 3] rfl [0, 3, 4] [1, 2] [2, 0, 1, 3, 4] hF hK hP hD hS hA 0 7 rfl rfl rfl rfl (by decide) rfl (by decide) (by decide) rfl (by decide) rfl hl.1 rfl (Nat.le_of_ble_eq_true rfl) dX8_beginTwo_48 ⟨Nat.zero_le _, Nat.zero_le _⟩ (fun H locs hP hD hS => ?_)
        refine lv_iinc (v := nI (k + 1)) (lv' := [(1, .int (nI (k + 1))), (0, .ref h0)]) hx hb dX8_beginTwo_51 hl (k := 0) rfl (ct_inc k) (by decide) rfl (fun ls hl => ?_)
        refine lv_goto (tgt := 2) hx hb dX8_beginTwo_54 (by decide) ?_
        exact ih2 H locs ls hP hD hS (lv_sub hl [0, 1] rfl)
      · refine lv_iconst (v := 1) hx hb dX8_beginTwo_43 (by decide) ?_
        refine lv_goto (tgt := 48) hx hb dX8_beginTwo_44 (by decide) ?_
        refine ct_topi (y := md_tv g k) (by rw [md_tv, if_pos c_26_1, if_neg c_40_2]) ?_
        refine ct_callVv (As := [.int 1, .int (nI k), .int (md_tv g k)]) (rest := []) (wr := [(kq, .inl (kA, 32, .inl f)), (sq, .inl (sA, 12, .inl g))]) (ws2 := [(h0, .inr (7, [.ref kq, .ref sq, .int kz, .int sz, .int mc, .int gv, .ref cq, .ref tq, .ref rq, .int ri, .int rj, .int bn, .int lf])), (kq, .inl (kA, 32, .inl f)), (sq, .inl (sA, 12, .inl g)), (cq, .inl (cA, 384, .inl ((md_put (md_put (md_t1 μ f g k) 0 (nI k) (md_kb f k)) 1 (nI k) (md_tv g k)).1))), (tq, .inl (tA, 3, .inl ((md_put (md_put (md_t1 μ f g k) 0 (nI k) (md_kb f k)) 1 (nI k) (md_tv g k)).2)))]) ⟨hx, hb, hml, hown, hts⟩ (c_md_put l D h0 kq sq cq tq rq kz sz mc gv ri rj bn lf cA tA (md_put (md_t1 μ f g k) 0 (nI k) (md_kb f k)) 1 (by decide) (nI k) (md_tv g k)) cw_X8_put [2, 3] rfl [0, 3, 4] [1, 2] [2, 0, 1, 3, 4] hF hK hP hD hS hA 0 7 rfl rfl rfl rfl (by decide) rfl (by decide) (by decide) rfl (by decide) rfl hl.1 rfl (Nat.le_of_ble_eq_true rfl) dX8_beginTwo_48 ⟨Nat.zero_le _, Nat.zero_le _⟩ (fun H locs hP hD hS => ?_)
        refine lv_iinc (v := nI (k + 1)) (lv' := [(1, .int (nI (k + 1))), (0, .ref h0)]) hx hb dX8_beginTwo_51 hl (k := 0) rfl (ct_inc k) (by decide) rfl (fun ls hl => ?_)
        refine lv_goto (tgt := 2) hx hb dX8_beginTwo_54 (by decide) ?_
        exact ih2 H locs ls hP hD hS (lv_sub hl [0, 1] rfl)
    · refine lv_aload_n hx hb dX8_beginTwo_29 rfl (lv_at hl 1 rfl) ?_
      refine lv_iload_n hx hb dX8_beginTwo_30 rfl (lv_at hl 0 rfl) ?_
      refine ct_callVi (As := [.int (nI k)]) (rest := [.int (nI k), .int 1, .ref h0]) (wr := [(kq, .inl (kA, 32, .inl f)), (cq, .inl (cA, 384, .inl ((md_put (md_t1 μ f g k) 0 (nI k) (md_kb f k)).1))), (tq, .inl (tA, 3, .inl ((md_put (md_t1 μ f g k) 0 (nI k) (md_kb f k)).2)))]) (ws2 := [(h0, .inr (7, [.ref kq, .ref sq, .int kz, .int sz, .int mc, .int gv, .ref cq, .ref tq, .ref rq, .int ri, .int rj, .int bn, .int lf])), (kq, .inl (kA, 32, .inl f)), (sq, .inl (sA, 12, .inl g)), (cq, .inl (cA, 384, .inl ((md_put (md_t1 μ f g k) 0 (nI k) (md_kb f k)).1))), (tq, .inl (tA, 3, .inl ((md_put (md_t1 μ f g k) 0 (nI k) (md_kb f k)).2)))]) ⟨hx, hb, hml, hown, hts⟩ (c_md_startBit l D h0 kq sq cq tq rq kz sz mc gv ri rj bn lf sA g k (md_lt96 (by omega) c_26_1)) cw_X8_startBit [1] rfl [0, 2] [1, 3, 4] [3, 0, 4, 1, 2] hF hK hP hD hS hA 0 7 rfl rfl rfl rfl (by decide) rfl (by decide) (by decide) rfl (by decide) rfl hl.1 rfl (Nat.le_of_ble_eq_true rfl) dX8_beginTwo_31 ⟨Nat.zero_le _, Nat.zero_le _⟩ (fun H locs hP hD hS => ?_)
      refine lv_goto (tgt := 48) hx hb dX8_beginTwo_34 (by decide) ?_
      refine ct_topi (y := md_tv g k) (by rw [md_tv, if_neg c_26_1]) ?_
      refine ct_callVv (As := [.int 1, .int (nI k), .int (md_tv g k)]) (rest := []) (wr := [(kq, .inl (kA, 32, .inl f)), (sq, .inl (sA, 12, .inl g))]) (ws2 := [(h0, .inr (7, [.ref kq, .ref sq, .int kz, .int sz, .int mc, .int gv, .ref cq, .ref tq, .ref rq, .int ri, .int rj, .int bn, .int lf])), (kq, .inl (kA, 32, .inl f)), (sq, .inl (sA, 12, .inl g)), (cq, .inl (cA, 384, .inl ((md_put (md_put (md_t1 μ f g k) 0 (nI k) (md_kb f k)) 1 (nI k) (md_tv g k)).1))), (tq, .inl (tA, 3, .inl ((md_put (md_put (md_t1 μ f g k) 0 (nI k) (md_kb f k)) 1 (nI k) (md_tv g k)).2)))]) ⟨hx, hb, hml, hown, hts⟩ (c_md_put l D h0 kq sq cq tq rq kz sz mc gv ri rj bn lf cA tA (md_put (md_t1 μ f g k) 0 (nI k) (md_kb f k)) 1 (by decide) (nI k) (md_tv g k)) cw_X8_put [2, 3] rfl [0, 3, 4] [1, 2] [2, 0, 1, 3, 4] hF hK hP hD hS hA 0 7 rfl rfl rfl rfl (by decide) rfl (by decide) (by decide) rfl (by decide) rfl hl.1 rfl (Nat.le_of_ble_eq_true rfl) dX8_beginTwo_48 ⟨Nat.zero_le _, Nat.zero_le _⟩ (fun H locs hP hD hS => ?_)
      refine lv_iinc (v := nI (k + 1)) (lv' := [(1, .int (nI (k + 1))), (0, .ref h0)]) hx hb dX8_beginTwo_51 hl (k := 0) rfl (ct_inc k) (by decide) rfl (fun ls hl => ?_)
      refine lv_goto (tgt := 2) hx hb dX8_beginTwo_54 (by decide) ?_
      exact ih2 H locs ls hP hD hS (lv_sub hl [0, 1] rfl)
  · intro H locs ls hP hD hS hl
    have hP : va_P D vwCl [(h0, .inr (7, [.ref kq, .ref sq, .int kz, .int sz, .int mc, .int gv, .ref cq, .ref tq, .ref rq, .int ri, .int rj, .int bn, .int lf])), (kq, .inl (kA, 32, .inl f)), (sq, .inl (sA, 12, .inl g)), (cq, .inl (cA, 384, .inl ((md_t1 μ f g 128).1))), (tq, .inl (tA, 3, .inl ((md_t1 μ f g 128).2)))] H := hP
    have hD : va_D A [(h0, .inr (7, [.ref kq, .ref sq, .int kz, .int sz, .int mc, .int gv, .ref cq, .ref tq, .ref rq, .int ri, .int rj, .int bn, .int lf])), (kq, .inl (kA, 32, .inl f)), (sq, .inl (sA, 12, .inl g)), (cq, .inl (cA, 384, .inl ((md_t1 μ f g 128).1))), (tq, .inl (tA, 3, .inl ((md_t1 μ f g 128).2)))] := hD
    have hl : lv_has ls 2 [(1, .int (nI 128)), (0, .ref h0)] := hl
    refine lv_iload_n hx hb dX8_beginTwo_2 rfl (lv_at hl 0 rfl) ?_
    refine lv_sipush (v := 128) hx hb dX8_beginTwo_3 (by decide) ?_
    refine lv_icmp_ge (tgt := 57) hx hb dX8_beginTwo_6 (by decide) (fun _ => ?_) (fun hh => absurd (Int32.le_refl _) hh)
    refine lv_iconst (v := 0) hx hb dX8_beginTwo_57 (by decide) ?_
    refine lv_istore_n (lv' := [(1, .int 0), (0, .ref h0)]) hx hb dX8_beginTwo_58 rfl hl (by decide) rfl (fun ls hl => ?_)
    refine ct_count 256 (fun k : Nat => [(h0, .inr (7, [.ref kq, .ref sq, .int kz, .int sz, .int mc, .int gv, .ref cq, .ref tq, .ref rq, .int ri, .int rj, .int bn, .int lf])), (kq, .inl (kA, 32, .inl f)), (sq, .inl (sA, 12, .inl g)), (cq, .inl (cA, 384, .inl ((mit md_two1 (md_t1 μ f g 128) k).1))), (tq, .inl (tA, 3, .inl ((mit md_two1 (md_t1 μ f g 128) k).2)))]) (fun k : Nat => [(1, .int (nI k)), (0, .ref h0)]) ?_ ?_ 0 (by decide) hP hD hS (lv_sub hl [0, 1] rfl)
    · intro k hk ih59 H locs ls hP hD hS hl
      have hP : va_P D vwCl [(h0, .inr (7, [.ref kq, .ref sq, .int kz, .int sz, .int mc, .int gv, .ref cq, .ref tq, .ref rq, .int ri, .int rj, .int bn, .int lf])), (kq, .inl (kA, 32, .inl f)), (sq, .inl (sA, 12, .inl g)), (cq, .inl (cA, 384, .inl ((mit md_two1 (md_t1 μ f g 128) k).1))), (tq, .inl (tA, 3, .inl ((mit md_two1 (md_t1 μ f g 128) k).2)))] H := hP
      have hD : va_D A [(h0, .inr (7, [.ref kq, .ref sq, .int kz, .int sz, .int mc, .int gv, .ref cq, .ref tq, .ref rq, .int ri, .int rj, .int bn, .int lf])), (kq, .inl (kA, 32, .inl f)), (sq, .inl (sA, 12, .inl g)), (cq, .inl (cA, 384, .inl ((mit md_two1 (md_t1 μ f g 128) k).1))), (tq, .inl (tA, 3, .inl ((mit md_two1 (md_t1 μ f g 128) k).2)))] := hD
      have hl : lv_has ls 2 [(1, .int (nI k)), (0, .ref h0)] := hl
      refine lv_iload_n hx hb dX8_beginTwo_59 rfl (lv_at hl 0 rfl) ?_
      refine lv_sipush (v := 256) hx hb dX8_beginTwo_60 (by decide) ?_
      refine lv_icmp_ge (tgt := 78) hx hb dX8_beginTwo_63 (by decide) (fun hh => absurd hh (nI_ge (b := 256) hk (by decide))) (fun _ => ?_)
      refine lv_aload_n hx hb dX8_beginTwo_66 rfl (lv_at hl 1 rfl) ?_
      refine lv_iconst (v := 1) hx hb dX8_beginTwo_67 (by decide) ?_
      refine ct_callVi (As := [.int 1]) (rest := []) (wr := [(kq, .inl (kA, 32, .inl f)), (sq, .inl (sA, 12, .inl g))]) (ws2 := [(h0, .inr (7, [.ref kq, .ref sq, .int kz, .int sz, .int mc, .int gv, .ref cq, .ref tq, .ref rq, .int ri, .int rj, .int bn, .int lf])), (kq, .inl (kA, 32, .inl f)), (sq, .inl (sA, 12, .inl g)), (cq, .inl (cA, 384, .inl ((md_two1 (mit md_two1 (md_t1 μ f g 128) k)).1))), (tq, .inl (tA, 3, .inl ((md_two1 (mit md_two1 (md_t1 μ f g 128) k)).2)))]) ⟨hx, hb, hml, hown, hts⟩ (c_md_two1 l D h0 kq sq cq tq rq kz sz mc gv ri rj bn lf cA tA (mit md_two1 (md_t1 μ f g 128) k)) cw_X8_stepTwo [2, 3] rfl [0, 3, 4] [1, 2] [2, 0, 1, 3, 4] hF hK hP hD hS hA 0 7 rfl rfl rfl rfl (by decide) rfl (by decide) (by decide) rfl (by decide) rfl hl.1 rfl (Nat.le_of_ble_eq_true rfl) dX8_beginTwo_68 ⟨Nat.zero_le _, Nat.zero_le _⟩ (fun H locs hP hD hS => ?_)
      refine lv_pop hx hb dX8_beginTwo_71 rfl ?_
      refine lv_iinc (v := nI (k + 1)) (lv' := [(1, .int (nI (k + 1))), (0, .ref h0)]) hx hb dX8_beginTwo_72 hl (k := 0) rfl (ct_inc k) (by decide) rfl (fun ls hl => ?_)
      refine lv_goto (tgt := 59) hx hb dX8_beginTwo_75 (by decide) ?_
      exact ih59 H locs ls hP hD hS (lv_sub hl [0, 1] rfl)
    · intro H locs ls hP hD hS hl
      have hP : va_P D vwCl [(h0, .inr (7, [.ref kq, .ref sq, .int kz, .int sz, .int mc, .int gv, .ref cq, .ref tq, .ref rq, .int ri, .int rj, .int bn, .int lf])), (kq, .inl (kA, 32, .inl f)), (sq, .inl (sA, 12, .inl g)), (cq, .inl (cA, 384, .inl ((mit md_two1 (md_t1 μ f g 128) 256).1))), (tq, .inl (tA, 3, .inl ((mit md_two1 (md_t1 μ f g 128) 256).2)))] H := hP
      have hD : va_D A [(h0, .inr (7, [.ref kq, .ref sq, .int kz, .int sz, .int mc, .int gv, .ref cq, .ref tq, .ref rq, .int ri, .int rj, .int bn, .int lf])), (kq, .inl (kA, 32, .inl f)), (sq, .inl (sA, 12, .inl g)), (cq, .inl (cA, 384, .inl ((mit md_two1 (md_t1 μ f g 128) 256).1))), (tq, .inl (tA, 3, .inl ((mit md_two1 (md_t1 μ f g 128) 256).2)))] := hD
      have hl : lv_has ls 2 [(1, .int (nI 256)), (0, .ref h0)] := hl
      refine lv_iload_n hx hb dX8_beginTwo_59 rfl (lv_at hl 0 rfl) ?_
      refine lv_sipush (v := 256) hx hb dX8_beginTwo_60 (by decide) ?_
      refine lv_icmp_ge (tgt := 78) hx hb dX8_beginTwo_63 (by decide) (fun _ => ?_) (fun hh => absurd (Int32.le_refl _) hh)
      exact ct_vret hx hb hr hlk hP hK hD hS dX8_beginTwo_78
set_option maxHeartbeats 4000000 in
set_option maxRecDepth 100000 in
/-- Model.beginStops -/
theorem c_md_B2 (l : Launch) (D : va_G) (h0 kq sq cq tq rq : Nat) (kz sz mc gv ri rj bn lf : Int32) (kA sA cA tA : ClassId) (f g : Nat → Int32) (μ : MR) : Ctv l D yX8_beginStops wsX8_beginStops ({ frames := 4, cells := 0, slots := 0, locals := 91 } : Room) [.ref h0] [(kA, .int), (sA, .int), (cA, .int), (tA, .int)] [(h0, .inr (7, [.ref kq, .ref sq, .int kz, .int sz, .int mc, .int gv, .ref cq, .ref tq, .ref rq, .int ri, .int rj, .int bn, .int lf])), (kq, .inl (kA, 32, .inl f)), (sq, .inl (sA, 12, .inl g)), (cq, .inl (cA, 384, .inl μ.1)), (tq, .inl (tA, 3, .inl μ.2))] [(h0, .inr (7, [.ref kq, .ref sq, .int kz, .int sz, .int mc, .int gv, .ref cq, .ref tq, .ref rq, .int ri, .int rj, .int bn, .int lf])), (kq, .inl (kA, 32, .inl f)), (sq, .inl (sA, 12, .inl g)), (cq, .inl (cA, 384, .inl ((md_B2 μ f g).1))), (tq, .inl (tA, 3, .inl ((md_B2 μ f g).2)))] := by
  refine ct_of (cc := cX8_beginStops) (maxL := 2) (ret := none) (by decide) rfl (Nat.le_of_ble_eq_true rfl) ?_
  intro p e s m below meth c A H locs ls hx hb hr hml hts hown hlk hnm hF hP hK hD hA hS hl
  have hown : s.vm.findClass RX8 = some m.cls := hown
  have hl : lv_has ls 2 [(0, .ref h0)] := hl
  have cw_X8_keyBit := cwV (R := ({ frames := 4, cells := 0, slots := 0, locals := 91 } : Room)) (rm := ({ frames := 0, cells := 0, slots := 0, locals := 0 } : Room)) 1 hts gX8_beginStops_X8_keyBit rfl rfl rfl (by decide +kernel) ⟨Nat.le_of_ble_eq_true rfl, Nat.le_of_ble_eq_true rfl⟩
  have cw_X8_feed := cwV (R := ({ frames := 4, cells := 0, slots := 0, locals := 91 } : Room)) (rm := ({ frames := 3, cells := 0, slots := 0, locals := 67 } : Room)) 1 hts gX8_beginStops_X8_feed rfl rfl rfl (by decide +kernel) ⟨Nat.le_of_ble_eq_true rfl, Nat.le_of_ble_eq_true rfl⟩
  have cw_X8_startBit := cwV (R := ({ frames := 4, cells := 0, slots := 0, locals := 91 } : Room)) (rm := ({ frames := 0, cells := 0, slots := 0, locals := 0 } : Room)) 1 hts gX8_beginStops_X8_startBit rfl rfl rfl (by decide +kernel) ⟨Nat.le_of_ble_eq_true rfl, Nat.le_of_ble_eq_true rfl⟩
  have cw_X8_stepStops := cwV (R := ({ frames := 4, cells := 0, slots := 0, locals := 91 } : Room)) (rm := ({ frames := 3, cells := 0, slots := 0, locals := 67 } : Room)) 0 hts gX8_beginStops_X8_stepStops rfl rfl rfl (by decide +kernel) ⟨Nat.le_of_ble_eq_true rfl, Nat.le_of_ble_eq_true rfl⟩
  refine lv_iconst (v := 0) hx hb dX8_beginStops_0 (by decide) ?_
  refine lv_istore_n (lv' := [(1, .int 0), (0, .ref h0)]) hx hb dX8_beginStops_1 rfl hl (by decide) rfl (fun ls hl => ?_)
  refine ct_count 64 (fun k : Nat => [(h0, .inr (7, [.ref kq, .ref sq, .int kz, .int sz, .int mc, .int gv, .ref cq, .ref tq, .ref rq, .int ri, .int rj, .int bn, .int lf])), (kq, .inl (kA, 32, .inl f)), (sq, .inl (sA, 12, .inl g)), (cq, .inl (cA, 384, .inl ((md_q1 μ f k).1))), (tq, .inl (tA, 3, .inl ((md_q1 μ f k).2)))]) (fun k : Nat => [(1, .int (nI k)), (0, .ref h0)]) ?_ ?_ 0 (by decide) hP hD hS (lv_sub hl [0, 1] rfl)
  · intro k hk ih2 H locs ls hP hD hS hl
    have hP : va_P D vwCl [(h0, .inr (7, [.ref kq, .ref sq, .int kz, .int sz, .int mc, .int gv, .ref cq, .ref tq, .ref rq, .int ri, .int rj, .int bn, .int lf])), (kq, .inl (kA, 32, .inl f)), (sq, .inl (sA, 12, .inl g)), (cq, .inl (cA, 384, .inl ((md_q1 μ f k).1))), (tq, .inl (tA, 3, .inl ((md_q1 μ f k).2)))] H := hP
    have hD : va_D A [(h0, .inr (7, [.ref kq, .ref sq, .int kz, .int sz, .int mc, .int gv, .ref cq, .ref tq, .ref rq, .int ri, .int rj, .int bn, .int lf])), (kq, .inl (kA, 32, .inl f)), (sq, .inl (sA, 12, .inl g)), (cq, .inl (cA, 384, .inl ((md_q1 μ f k).1))), (tq, .inl (tA, 3, .inl ((md_q1 μ f k).2)))] := hD
    have hl : lv_has ls 2 [(1, .int (nI k)), (0, .ref h0)] := hl
    refine lv_iload_n hx hb dX8_beginStops_2 rfl (lv_at hl 0 rfl) ?_
    refine lv_bipush (v := 64) hx hb dX8_beginStops_3 (by decide) ?_
    refine lv_icmp_ge (tgt := 23) hx hb dX8_beginStops_5 (by decide) (fun hh => absurd hh (nI_ge (b := 64) hk (by decide))) (fun _ => ?_)
    refine lv_aload_n hx hb dX8_beginStops_8 rfl (lv_at hl 1 rfl) ?_
    refine lv_aload_n hx hb dX8_beginStops_9 rfl (lv_at hl 1 rfl) ?_
    refine lv_iload_n hx hb dX8_beginStops_10 rfl (lv_at hl 0 rfl) ?_
    refine ct_callVi (As := [.int (nI k)]) (rest := [.ref h0]) (wr := [(sq, .inl (sA, 12, .inl g)), (cq, .inl (cA, 384, .inl ((md_q1 μ f k).1))), (tq, .inl (tA, 3, .inl ((md_q1 μ f k).2)))]) (ws2 := [(h0, .inr (7, [.ref kq, .ref sq, .int kz, .int sz, .int mc, .int gv, .ref cq, .ref tq, .ref rq, .int ri, .int rj, .int bn, .int lf])), (kq, .inl (kA, 32, .inl f)), (sq, .inl (sA, 12, .inl g)), (cq, .inl (cA, 384, .inl ((md_q1 μ f k).1))), (tq, .inl (tA, 3, .inl ((md_q1 μ f k).2)))]) ⟨hx, hb, hml, hown, hts⟩ (c_md_keyBit l D h0 kq sq cq tq rq kz sz mc gv ri rj bn lf kA f k (by omega)) cw_X8_keyBit [0] rfl [0, 1] [2, 3, 4] [3, 4, 0, 1, 2] hF hK hP hD hS hA 0 7 rfl rfl rfl rfl (by decide) rfl (by decide) (by decide) rfl (by decide) rfl hl.1 rfl (Nat.le_of_ble_eq_true rfl) dX8_beginStops_11 ⟨Nat.zero_le _, Nat.zero_le _⟩ (fun H locs hP hD hS => ?_)
    refine ct_callVv (As := [.int (md_kb f k)]) (rest := []) (wr := [(kq, .inl (kA, 32, .inl f)), (sq, .inl (sA, 12, .inl g))]) (ws2 := [(h0, .inr (7, [.ref kq, .ref sq, .int kz, .int sz, .int mc, .int gv, .ref cq, .ref tq, .ref rq, .int ri, .int rj, .int bn, .int lf])), (kq, .inl (kA, 32, .inl f)), (sq, .inl (sA, 12, .inl g)), (cq, .inl (cA, 384, .inl ((md_feed (md_q1 μ f k) (md_kb f k)).1))), (tq, .inl (tA, 3, .inl ((md_feed (md_q1 μ f k) (md_kb f k)).2)))]) ⟨hx, hb, hml, hown, hts⟩ (c_md_feed l D h0 kq sq cq tq rq kz sz mc gv ri rj bn lf cA tA (md_q1 μ f k) (md_kb f k)) cw_X8_feed [2, 3] rfl [0, 3, 4] [1, 2] [2, 0, 1, 3, 4] hF hK hP hD hS hA 0 7 rfl rfl rfl rfl (by decide) rfl (by decide) (by decide) rfl (by decide) rfl hl.1 rfl (Nat.le_of_ble_eq_true rfl) dX8_beginStops_14 ⟨Nat.zero_le _, Nat.zero_le _⟩ (fun H locs hP hD hS => ?_)
    refine lv_iinc (v := nI (k + 1)) (lv' := [(1, .int (nI (k + 1))), (0, .ref h0)]) hx hb dX8_beginStops_17 hl (k := 0) rfl (ct_inc k) (by decide) rfl (fun ls hl => ?_)
    refine lv_goto (tgt := 2) hx hb dX8_beginStops_20 (by decide) ?_
    exact ih2 H locs ls hP hD hS (lv_sub hl [0, 1] rfl)
  · intro H locs ls hP hD hS hl
    have hP : va_P D vwCl [(h0, .inr (7, [.ref kq, .ref sq, .int kz, .int sz, .int mc, .int gv, .ref cq, .ref tq, .ref rq, .int ri, .int rj, .int bn, .int lf])), (kq, .inl (kA, 32, .inl f)), (sq, .inl (sA, 12, .inl g)), (cq, .inl (cA, 384, .inl ((md_q1 μ f 64).1))), (tq, .inl (tA, 3, .inl ((md_q1 μ f 64).2)))] H := hP
    have hD : va_D A [(h0, .inr (7, [.ref kq, .ref sq, .int kz, .int sz, .int mc, .int gv, .ref cq, .ref tq, .ref rq, .int ri, .int rj, .int bn, .int lf])), (kq, .inl (kA, 32, .inl f)), (sq, .inl (sA, 12, .inl g)), (cq, .inl (cA, 384, .inl ((md_q1 μ f 64).1))), (tq, .inl (tA, 3, .inl ((md_q1 μ f 64).2)))] := hD
    have hl : lv_has ls 2 [(1, .int (nI 64)), (0, .ref h0)] := hl
    refine lv_iload_n hx hb dX8_beginStops_2 rfl (lv_at hl 0 rfl) ?_
    refine lv_bipush (v := 64) hx hb dX8_beginStops_3 (by decide) ?_
    refine lv_icmp_ge (tgt := 23) hx hb dX8_beginStops_5 (by decide) (fun _ => ?_) (fun hh => absurd (Int32.le_refl _) hh)
    refine lv_iconst (v := 2) hx hb dX8_beginStops_23 (by decide) ?_
    refine lv_istore_n (lv' := [(1, .int 2), (0, .ref h0)]) hx hb dX8_beginStops_24 rfl hl (by decide) rfl (fun ls hl => ?_)
    refine ct_count 22 (fun k : Nat => [(h0, .inr (7, [.ref kq, .ref sq, .int kz, .int sz, .int mc, .int gv, .ref cq, .ref tq, .ref rq, .int ri, .int rj, .int bn, .int lf])), (kq, .inl (kA, 32, .inl f)), (sq, .inl (sA, 12, .inl g)), (cq, .inl (cA, 384, .inl ((md_q2 (md_q1 μ f 64) g k).1))), (tq, .inl (tA, 3, .inl ((md_q2 (md_q1 μ f 64) g k).2)))]) (fun k : Nat => [(1, .int (nI (2 + k))), (0, .ref h0)]) ?_ ?_ 0 (by decide) hP hD hS (lv_sub hl [0, 1] rfl)
    · intro k hk ih25 H locs ls hP hD hS hl
      have hP : va_P D vwCl [(h0, .inr (7, [.ref kq, .ref sq, .int kz, .int sz, .int mc, .int gv, .ref cq, .ref tq, .ref rq, .int ri, .int rj, .int bn, .int lf])), (kq, .inl (kA, 32, .inl f)), (sq, .inl (sA, 12, .inl g)), (cq, .inl (cA, 384, .inl ((md_q2 (md_q1 μ f 64) g k).1))), (tq, .inl (tA, 3, .inl ((md_q2 (md_q1 μ f 64) g k).2)))] H := hP
      have hD : va_D A [(h0, .inr (7, [.ref kq, .ref sq, .int kz, .int sz, .int mc, .int gv, .ref cq, .ref tq, .ref rq, .int ri, .int rj, .int bn, .int lf])), (kq, .inl (kA, 32, .inl f)), (sq, .inl (sA, 12, .inl g)), (cq, .inl (cA, 384, .inl ((md_q2 (md_q1 μ f 64) g k).1))), (tq, .inl (tA, 3, .inl ((md_q2 (md_q1 μ f 64) g k).2)))] := hD
      have hl : lv_has ls 2 [(1, .int (nI (2 + k))), (0, .ref h0)] := hl
      refine lv_iload_n hx hb dX8_beginStops_25 rfl (lv_at hl 0 rfl) ?_
      refine lv_bipush (v := 24) hx hb dX8_beginStops_26 (by decide) ?_
      refine lv_icmp_ge (tgt := 46) hx hb dX8_beginStops_28 (by decide) (fun hh => absurd hh (nI_ge (b := 24) (by omega) (by decide))) (fun _ => ?_)
      refine lv_aload_n hx hb dX8_beginStops_31 rfl (lv_at hl 1 rfl) ?_
      refine lv_aload_n hx hb dX8_beginStops_32 rfl (lv_at hl 1 rfl) ?_
      refine lv_iload_n hx hb dX8_beginStops_33 rfl (lv_at hl 0 rfl) ?_
      refine ct_callVi (As := [.int (nI (2 + k))]) (rest := [.ref h0]) (wr := [(kq, .inl (kA, 32, .inl f)), (cq, .inl (cA, 384, .inl ((md_q2 (md_q1 μ f 64) g k).1))), (tq, .inl (tA, 3, .inl ((md_q2 (md_q1 μ f 64) g k).2)))]) (ws2 := [(h0, .inr (7, [.ref kq, .ref sq, .int kz, .int sz, .int mc, .int gv, .ref cq, .ref tq, .ref rq, .int ri, .int rj, .int bn, .int lf])), (kq, .inl (kA, 32, .inl f)), (sq, .inl (sA, 12, .inl g)), (cq, .inl (cA, 384, .inl ((md_q2 (md_q1 μ f 64) g k).1))), (tq, .inl (tA, 3, .inl ((md_q2 (md_q1 μ f 64) g k).2)))]) ⟨hx, hb, hml, hown, hts⟩ (c_md_startBit l D h0 kq sq cq tq rq kz sz mc gv ri rj bn lf sA g (2 + k) (by omega)) cw_X8_startBit [1] rfl [0, 2] [1, 3, 4] [3, 0, 4, 1, 2] hF hK hP hD hS hA 0 7 rfl rfl rfl rfl (by decide) rfl (by decide) (by decide) rfl (by decide) rfl hl.1 rfl (Nat.le_of_ble_eq_true rfl) dX8_beginStops_34 ⟨Nat.zero_le _, Nat.zero_le _⟩ (fun H locs hP hD hS => ?_)
      refine ct_callVv (As := [.int (md_kb g (2 + k))]) (rest := []) (wr := [(kq, .inl (kA, 32, .inl f)), (sq, .inl (sA, 12, .inl g))]) (ws2 := [(h0, .inr (7, [.ref kq, .ref sq, .int kz, .int sz, .int mc, .int gv, .ref cq, .ref tq, .ref rq, .int ri, .int rj, .int bn, .int lf])), (kq, .inl (kA, 32, .inl f)), (sq, .inl (sA, 12, .inl g)), (cq, .inl (cA, 384, .inl ((md_feed (md_q2 (md_q1 μ f 64) g k) (md_kb g (2 + k))).1))), (tq, .inl (tA, 3, .inl ((md_feed (md_q2 (md_q1 μ f 64) g k) (md_kb g (2 + k))).2)))]) ⟨hx, hb, hml, hown, hts⟩ (c_md_feed l D h0 kq sq cq tq rq kz sz mc gv ri rj bn lf cA tA (md_q2 (md_q1 μ f 64) g k) (md_kb g (2 + k))) cw_X8_feed [2, 3] rfl [0, 3, 4] [1, 2] [2, 0, 1, 3, 4] hF hK hP hD hS hA 0 7 rfl rfl rfl rfl (by decide) rfl (by decide) (by decide) rfl (by decide) rfl hl.1 rfl (Nat.le_of_ble_eq_true rfl) dX8_beginStops_37 ⟨Nat.zero_le _, Nat.zero_le _⟩ (fun H locs hP hD hS => ?_)
      refine lv_iinc (v := nI (2 + (k + 1))) (lv' := [(1, .int (nI (2 + (k + 1)))), (0, .ref h0)]) hx hb dX8_beginStops_40 hl (k := 0) rfl (ct_inc (2 + k)) (by decide) rfl (fun ls hl => ?_)
      refine lv_goto (tgt := 25) hx hb dX8_beginStops_43 (by decide) ?_
      exact ih25 H locs ls hP hD hS (lv_sub hl [0, 1] rfl)
    · intro H locs ls hP hD hS hl
      have hP : va_P D vwCl [(h0, .inr (7, [.ref kq, .ref sq, .int kz, .int sz, .int mc, .int gv, .ref cq, .ref tq, .ref rq, .int ri, .int rj, .int bn, .int lf])), (kq, .inl (kA, 32, .inl f)), (sq, .inl (sA, 12, .inl g)), (cq, .inl (cA, 384, .inl ((md_q2 (md_q1 μ f 64) g 22).1))), (tq, .inl (tA, 3, .inl ((md_q2 (md_q1 μ f 64) g 22).2)))] H := hP
      have hD : va_D A [(h0, .inr (7, [.ref kq, .ref sq, .int kz, .int sz, .int mc, .int gv, .ref cq, .ref tq, .ref rq, .int ri, .int rj, .int bn, .int lf])), (kq, .inl (kA, 32, .inl f)), (sq, .inl (sA, 12, .inl g)), (cq, .inl (cA, 384, .inl ((md_q2 (md_q1 μ f 64) g 22).1))), (tq, .inl (tA, 3, .inl ((md_q2 (md_q1 μ f 64) g 22).2)))] := hD
      have hl : lv_has ls 2 [(1, .int (nI (2 + 22))), (0, .ref h0)] := hl
      refine lv_iload_n hx hb dX8_beginStops_25 rfl (lv_at hl 0 rfl) ?_
      refine lv_bipush (v := 24) hx hb dX8_beginStops_26 (by decide) ?_
      refine lv_icmp_ge (tgt := 46) hx hb dX8_beginStops_28 (by decide) (fun _ => ?_) (fun hh => absurd (Int32.le_refl _) hh)
      refine lv_iconst (v := 0) hx hb dX8_beginStops_46 (by decide) ?_
      refine lv_istore_n (lv' := [(1, .int 0), (0, .ref h0)]) hx hb dX8_beginStops_47 rfl hl (by decide) rfl (fun ls hl => ?_)
      refine ct_count 100 (fun k : Nat => [(h0, .inr (7, [.ref kq, .ref sq, .int kz, .int sz, .int mc, .int gv, .ref cq, .ref tq, .ref rq, .int ri, .int rj, .int bn, .int lf])), (kq, .inl (kA, 32, .inl f)), (sq, .inl (sA, 12, .inl g)), (cq, .inl (cA, 384, .inl ((mit md_s2 (md_q2 (md_q1 μ f 64) g 22) k).1))), (tq, .inl (tA, 3, .inl ((mit md_s2 (md_q2 (md_q1 μ f 64) g 22) k).2)))]) (fun k : Nat => [(1, .int (nI k)), (0, .ref h0)]) ?_ ?_ 0 (by decide) hP hD hS (lv_sub hl [0, 1] rfl)
      · intro k hk ih48 H locs ls hP hD hS hl
        have hP : va_P D vwCl [(h0, .inr (7, [.ref kq, .ref sq, .int kz, .int sz, .int mc, .int gv, .ref cq, .ref tq, .ref rq, .int ri, .int rj, .int bn, .int lf])), (kq, .inl (kA, 32, .inl f)), (sq, .inl (sA, 12, .inl g)), (cq, .inl (cA, 384, .inl ((mit md_s2 (md_q2 (md_q1 μ f 64) g 22) k).1))), (tq, .inl (tA, 3, .inl ((mit md_s2 (md_q2 (md_q1 μ f 64) g 22) k).2)))] H := hP
        have hD : va_D A [(h0, .inr (7, [.ref kq, .ref sq, .int kz, .int sz, .int mc, .int gv, .ref cq, .ref tq, .ref rq, .int ri, .int rj, .int bn, .int lf])), (kq, .inl (kA, 32, .inl f)), (sq, .inl (sA, 12, .inl g)), (cq, .inl (cA, 384, .inl ((mit md_s2 (md_q2 (md_q1 μ f 64) g 22) k).1))), (tq, .inl (tA, 3, .inl ((mit md_s2 (md_q2 (md_q1 μ f 64) g 22) k).2)))] := hD
        have hl : lv_has ls 2 [(1, .int (nI k)), (0, .ref h0)] := hl
        refine lv_iload_n hx hb dX8_beginStops_48 rfl (lv_at hl 0 rfl) ?_
        refine lv_bipush (v := 100) hx hb dX8_beginStops_49 (by decide) ?_
        refine lv_icmp_ge (tgt := 65) hx hb dX8_beginStops_51 (by decide) (fun hh => absurd hh (nI_ge (b := 100) hk (by decide))) (fun _ => ?_)
        refine lv_aload_n hx hb dX8_beginStops_54 rfl (lv_at hl 1 rfl) ?_
        refine ct_callVi (As := []) (rest := []) (wr := [(kq, .inl (kA, 32, .inl f)), (sq, .inl (sA, 12, .inl g))]) (ws2 := [(h0, .inr (7, [.ref kq, .ref sq, .int kz, .int sz, .int mc, .int gv, .ref cq, .ref tq, .ref rq, .int ri, .int rj, .int bn, .int lf])), (kq, .inl (kA, 32, .inl f)), (sq, .inl (sA, 12, .inl g)), (cq, .inl (cA, 384, .inl ((md_s2 (mit md_s2 (md_q2 (md_q1 μ f 64) g 22) k)).1))), (tq, .inl (tA, 3, .inl ((md_s2 (mit md_s2 (md_q2 (md_q1 μ f 64) g 22) k)).2)))]) ⟨hx, hb, hml, hown, hts⟩ (c_md_stops l D h0 kq sq cq tq rq kz sz mc gv ri rj bn lf cA tA (mit md_s2 (md_q2 (md_q1 μ f 64) g 22) k)) cw_X8_stepStops [2, 3] rfl [0, 3, 4] [1, 2] [2, 0, 1, 3, 4] hF hK hP hD hS hA 0 7 rfl rfl rfl rfl (by decide) rfl (by decide) (by decide) rfl (by decide) rfl hl.1 rfl (Nat.le_of_ble_eq_true rfl) dX8_beginStops_55 ⟨Nat.zero_le _, Nat.zero_le _⟩ (fun H locs hP hD hS => ?_)
        refine lv_pop hx hb dX8_beginStops_58 rfl ?_
        refine lv_iinc (v := nI (k + 1)) (lv' := [(1, .int (nI (k + 1))), (0, .ref h0)]) hx hb dX8_beginStops_59 hl (k := 0) rfl (ct_inc k) (by decide) rfl (fun ls hl => ?_)
        refine lv_goto (tgt := 48) hx hb dX8_beginStops_62 (by decide) ?_
        exact ih48 H locs ls hP hD hS (lv_sub hl [0, 1] rfl)
      · intro H locs ls hP hD hS hl
        have hP : va_P D vwCl [(h0, .inr (7, [.ref kq, .ref sq, .int kz, .int sz, .int mc, .int gv, .ref cq, .ref tq, .ref rq, .int ri, .int rj, .int bn, .int lf])), (kq, .inl (kA, 32, .inl f)), (sq, .inl (sA, 12, .inl g)), (cq, .inl (cA, 384, .inl ((mit md_s2 (md_q2 (md_q1 μ f 64) g 22) 100).1))), (tq, .inl (tA, 3, .inl ((mit md_s2 (md_q2 (md_q1 μ f 64) g 22) 100).2)))] H := hP
        have hD : va_D A [(h0, .inr (7, [.ref kq, .ref sq, .int kz, .int sz, .int mc, .int gv, .ref cq, .ref tq, .ref rq, .int ri, .int rj, .int bn, .int lf])), (kq, .inl (kA, 32, .inl f)), (sq, .inl (sA, 12, .inl g)), (cq, .inl (cA, 384, .inl ((mit md_s2 (md_q2 (md_q1 μ f 64) g 22) 100).1))), (tq, .inl (tA, 3, .inl ((mit md_s2 (md_q2 (md_q1 μ f 64) g 22) 100).2)))] := hD
        have hl : lv_has ls 2 [(1, .int (nI 100)), (0, .ref h0)] := hl
        refine lv_iload_n hx hb dX8_beginStops_48 rfl (lv_at hl 0 rfl) ?_
        refine lv_bipush (v := 100) hx hb dX8_beginStops_49 (by decide) ?_
        refine lv_icmp_ge (tgt := 65) hx hb dX8_beginStops_51 (by decide) (fun _ => ?_) (fun hh => absurd (Int32.le_refl _) hh)
        exact ct_vret hx hb hr hlk hP hK hD hS dX8_beginStops_65
set_option maxHeartbeats 4000000 in
set_option maxRecDepth 100000 in
/-- Model.beginRow -/
theorem c_md_B3 (l : Launch) (D : va_G) (h0 kq sq cq tq rq : Nat) (sz mc gv : Int32) (kA rA : ClassId) (kz : Nat) (hz0 : 0 < kz) (hz : kz ≤ 32) (f : Nat → Int32) (τ : X5) : Ctv l D yX8_beginRow wsX8_beginRow ({ frames := 1, cells := 0, slots := 0, locals := 23 } : Room) [.ref h0] [(kA, .int), (rA, .int)] [(h0, .inr (7, [.ref kq, .ref sq, .int (nI kz), .int sz, .int mc, .int gv, .ref cq, .ref tq, .ref rq, .int τ.1.2.1, .int τ.1.2.2, .int τ.2.1, .int τ.2.2])), (kq, .inl (kA, 32, .inl f)), (rq, .inl (rA, 256, .inl τ.1.1))] [(h0, .inr (7, [.ref kq, .ref sq, .int (nI kz), .int sz, .int mc, .int gv, .ref cq, .ref tq, .ref rq, .int ((md_B3 τ f kz).1.2.1), .int ((md_B3 τ f kz).1.2.2), .int ((md_B3 τ f kz).2.1), .int ((md_B3 τ f kz).2.2)])), (kq, .inl (kA, 32, .inl f)), (rq, .inl (rA, 256, .inl ((md_B3 τ f kz).1.1)))] := by
  refine ct_of (cc := cX8_beginRow) (maxL := 2) (ret := none) (by decide) rfl (Nat.le_of_ble_eq_true rfl) ?_
  intro p e s m below meth c A H locs ls hx hb hr hml hts hown hlk hnm hF hP hK hD hA hS hl
  have hown : s.vm.findClass RX8 = some m.cls := hown
  have hl : lv_has ls 2 [(0, .ref h0)] := hl
  have hf_26 := hts (.fieldLink RX8 26 "BitStreamsModel" "row" "[I") (by decide +kernel)
  have hi_X8 : ∀ w ∈ u_ws RX8 TX8 13, w ∈ wsX8_beginRow := by decide +kernel
  have hf_69 := hts (.fieldLink RX8 69 "BitStreamsModel" "j" "I") (by decide +kernel)
  have hf_7 := hts (.fieldLink RX8 7 "BitStreamsModel" "key" "[I") (by decide +kernel)
  have hf_29 := hts (.fieldLink RX8 29 "BitStreamsModel" "keySize" "I") (by decide +kernel)
  have cw_X8_exchange := cwV (R := ({ frames := 1, cells := 0, slots := 0, locals := 23 } : Room)) (rm := ({ frames := 0, cells := 0, slots := 0, locals := 0 } : Room)) 2 hts gX8_beginRow_X8_exchange rfl rfl rfl (by decide +kernel) ⟨Nat.le_of_ble_eq_true rfl, Nat.le_of_ble_eq_true rfl⟩
  have hf_66 := hts (.fieldLink RX8 66 "BitStreamsModel" "i" "I") (by decide +kernel)
  have hf_117 := hts (.fieldLink RX8 117 "BitStreamsModel" "left" "I") (by decide +kernel)
  refine lv_iconst (v := 0) hx hb dX8_beginRow_0 (by decide) ?_
  refine lv_istore_n (lv' := [(1, .int 0), (0, .ref h0)]) hx hb dX8_beginRow_1 rfl hl (by decide) rfl (fun ls hl => ?_)
  refine ct_count 256 (fun k : Nat => [(h0, .inr (7, [.ref kq, .ref sq, .int (nI kz), .int sz, .int mc, .int gv, .ref cq, .ref tq, .ref rq, .int τ.1.2.1, .int τ.1.2.2, .int τ.2.1, .int τ.2.2])), (kq, .inl (kA, 32, .inl f)), (rq, .inl (rA, 256, .inl (ex_id τ.1.1 k)))]) (fun k : Nat => [(1, .int (nI k)), (0, .ref h0)]) ?_ ?_ 0 (by decide) hP hD hS (lv_sub hl [0, 1] rfl)
  · intro k hk ih2 H locs ls hP hD hS hl
    have hP : va_P D vwCl [(h0, .inr (7, [.ref kq, .ref sq, .int (nI kz), .int sz, .int mc, .int gv, .ref cq, .ref tq, .ref rq, .int τ.1.2.1, .int τ.1.2.2, .int τ.2.1, .int τ.2.2])), (kq, .inl (kA, 32, .inl f)), (rq, .inl (rA, 256, .inl (ex_id τ.1.1 k)))] H := hP
    have hD : va_D A [(h0, .inr (7, [.ref kq, .ref sq, .int (nI kz), .int sz, .int mc, .int gv, .ref cq, .ref tq, .ref rq, .int τ.1.2.1, .int τ.1.2.2, .int τ.2.1, .int τ.2.2])), (kq, .inl (kA, 32, .inl f)), (rq, .inl (rA, 256, .inl (ex_id τ.1.1 k)))] := hD
    have hl : lv_has ls 2 [(1, .int (nI k)), (0, .ref h0)] := hl
    refine lv_iload_n hx hb dX8_beginRow_2 rfl (lv_at hl 0 rfl) ?_
    refine lv_sipush (v := 256) hx hb dX8_beginRow_3 (by decide) ?_
    refine lv_icmp_ge (tgt := 22) hx hb dX8_beginRow_6 (by decide) (fun hh => absurd hh (nI_ge (b := 256) hk (by decide))) (fun _ => ?_)
    refine lv_aload_n hx hb dX8_beginRow_9 rfl (lv_at hl 1 rfl) ?_
    refine va_get (D := D) (ci := 7) (v := .ref rq) (C := RX8) (T := TX8) (N := 13) hx hb hts hi_X8 hown hK hP 0 rfl rfl 8 (by decide) hf_26 (fun _ h9 => h9) rfl dX8_beginRow_10 ?_
    refine lv_iload_n hx hb dX8_beginRow_13 rfl (lv_at hl 0 rfl) ?_
    refine lv_iload_n hx hb dX8_beginRow_14 rfl (lv_at hl 0 rfl) ?_
    refine va_iast hx hb hK hP hD hS 2 1 rfl rfl (vp_in_nI hk (by decide)) dX8_beginRow_15 (fun H locs hP hD hS => ?_)
    have hP : va_P D vwCl [(h0, .inr (7, [.ref kq, .ref sq, .int (nI kz), .int sz, .int mc, .int gv, .ref cq, .ref tq, .ref rq, .int τ.1.2.1, .int τ.1.2.2, .int τ.2.1, .int τ.2.2])), (kq, .inl (kA, 32, .inl f)), (rq, .inl (rA, 256, .inl (upd (ex_id τ.1.1 k) (nI k).toNatClampNeg (nI k))))] H := hP
    have hD : va_D A [(h0, .inr (7, [.ref kq, .ref sq, .int (nI kz), .int sz, .int mc, .int gv, .ref cq, .ref tq, .ref rq, .int τ.1.2.1, .int τ.1.2.2, .int τ.2.1, .int τ.2.2])), (kq, .inl (kA, 32, .inl f)), (rq, .inl (rA, 256, .inl (upd (ex_id τ.1.1 k) (nI k).toNatClampNeg (nI k))))] := hD
    rw [show upd (ex_id τ.1.1 k) (nI k).toNatClampNeg (nI k) = upd (ex_id τ.1.1 k) k (nI k) from by rw [nI_clamp (by omega)]] at hP hD
    refine lv_iinc (v := nI (k + 1)) (lv' := [(1, .int (nI (k + 1))), (0, .ref h0)]) hx hb dX8_beginRow_16 hl (k := 0) rfl (ct_inc k) (by decide) rfl (fun ls hl => ?_)
    refine lv_goto (tgt := 2) hx hb dX8_beginRow_19 (by decide) ?_
    exact ih2 H locs ls hP hD hS (lv_sub hl [0, 1] rfl)
  · intro H locs ls hP hD hS hl
    have hP : va_P D vwCl [(h0, .inr (7, [.ref kq, .ref sq, .int (nI kz), .int sz, .int mc, .int gv, .ref cq, .ref tq, .ref rq, .int τ.1.2.1, .int τ.1.2.2, .int τ.2.1, .int τ.2.2])), (kq, .inl (kA, 32, .inl f)), (rq, .inl (rA, 256, .inl (ex_id τ.1.1 256)))] H := hP
    have hD : va_D A [(h0, .inr (7, [.ref kq, .ref sq, .int (nI kz), .int sz, .int mc, .int gv, .ref cq, .ref tq, .ref rq, .int τ.1.2.1, .int τ.1.2.2, .int τ.2.1, .int τ.2.2])), (kq, .inl (kA, 32, .inl f)), (rq, .inl (rA, 256, .inl (ex_id τ.1.1 256)))] := hD
    have hl : lv_has ls 2 [(1, .int (nI 256)), (0, .ref h0)] := hl
    refine lv_iload_n hx hb dX8_beginRow_2 rfl (lv_at hl 0 rfl) ?_
    refine lv_sipush (v := 256) hx hb dX8_beginRow_3 (by decide) ?_
    refine lv_icmp_ge (tgt := 22) hx hb dX8_beginRow_6 (by decide) (fun _ => ?_) (fun hh => absurd (Int32.le_refl _) hh)
    refine lv_aload_n hx hb dX8_beginRow_22 rfl (lv_at hl 1 rfl) ?_
    refine lv_iconst (v := 0) hx hb dX8_beginRow_23 (by decide) ?_
    refine va_put (D := D) (ci := 7) (v := .int 0) (ty := .int) (C := RX8) (T := TX8) (N := 13) hx hb hts hi_X8 tyX8 tyX8_ok nmX8 hown hK hP hD hS 0 rfl rfl 10 (by decide) hf_69 (fun _ h9 => h9) rfl (by decide +kernel) rfl rfl (Nat.le_of_ble_eq_true rfl) dX8_beginRow_24 (fun H locs hP hD hS => ?_)
    have hP : va_P D vwCl [(h0, .inr (7, [.ref kq, .ref sq, .int (nI kz), .int sz, .int mc, .int gv, .ref cq, .ref tq, .ref rq, .int τ.1.2.1, .int 0, .int τ.2.1, .int τ.2.2])), (kq, .inl (kA, 32, .inl f)), (rq, .inl (rA, 256, .inl (ex_id τ.1.1 256)))] H := hP
    have hD : va_D A [(h0, .inr (7, [.ref kq, .ref sq, .int (nI kz), .int sz, .int mc, .int gv, .ref cq, .ref tq, .ref rq, .int τ.1.2.1, .int 0, .int τ.2.1, .int τ.2.2])), (kq, .inl (kA, 32, .inl f)), (rq, .inl (rA, 256, .inl (ex_id τ.1.1 256)))] := hD
    refine lv_iconst (v := 0) hx hb dX8_beginRow_27 (by decide) ?_
    refine lv_istore_n (lv' := [(1, .int 0), (0, .ref h0)]) hx hb dX8_beginRow_28 rfl hl (by decide) rfl (fun ls hl => ?_)
    refine ct_count 256 (fun k : Nat => [(h0, .inr (7, [.ref kq, .ref sq, .int (nI kz), .int sz, .int mc, .int gv, .ref cq, .ref tq, .ref rq, .int τ.1.2.1, .int ((md_l2 (ex_id τ.1.1 256) f kz k).2), .int τ.2.1, .int τ.2.2])), (kq, .inl (kA, 32, .inl f)), (rq, .inl (rA, 256, .inl ((md_l2 (ex_id τ.1.1 256) f kz k).1)))]) (fun k : Nat => [(1, .int (nI k)), (0, .ref h0)]) ?_ ?_ 0 (by decide) hP hD hS (lv_sub hl [0, 1] rfl)
    · intro k hk ih29 H locs ls hP hD hS hl
      have hP : va_P D vwCl [(h0, .inr (7, [.ref kq, .ref sq, .int (nI kz), .int sz, .int mc, .int gv, .ref cq, .ref tq, .ref rq, .int τ.1.2.1, .int ((md_l2 (ex_id τ.1.1 256) f kz k).2), .int τ.2.1, .int τ.2.2])), (kq, .inl (kA, 32, .inl f)), (rq, .inl (rA, 256, .inl ((md_l2 (ex_id τ.1.1 256) f kz k).1)))] H := hP
      have hD : va_D A [(h0, .inr (7, [.ref kq, .ref sq, .int (nI kz), .int sz, .int mc, .int gv, .ref cq, .ref tq, .ref rq, .int τ.1.2.1, .int ((md_l2 (ex_id τ.1.1 256) f kz k).2), .int τ.2.1, .int τ.2.2])), (kq, .inl (kA, 32, .inl f)), (rq, .inl (rA, 256, .inl ((md_l2 (ex_id τ.1.1 256) f kz k).1)))] := hD
      have hl : lv_has ls 2 [(1, .int (nI k)), (0, .ref h0)] := hl
      refine lv_iload_n hx hb dX8_beginRow_29 rfl (lv_at hl 0 rfl) ?_
      refine lv_sipush (v := 256) hx hb dX8_beginRow_30 (by decide) ?_
      refine lv_icmp_ge (tgt := 82) hx hb dX8_beginRow_33 (by decide) (fun hh => absurd hh (nI_ge (b := 256) hk (by decide))) (fun _ => ?_)
      refine lv_aload_n hx hb dX8_beginRow_36 rfl (lv_at hl 1 rfl) ?_
      refine lv_aload_n hx hb dX8_beginRow_37 rfl (lv_at hl 1 rfl) ?_
      refine va_get (D := D) (ci := 7) (v := .int ((md_l2 (ex_id τ.1.1 256) f kz k).2)) (C := RX8) (T := TX8) (N := 13) hx hb hts hi_X8 hown hK hP 0 rfl rfl 10 (by decide) hf_69 (fun _ h9 => h9) rfl dX8_beginRow_38 ?_
      refine lv_aload_n hx hb dX8_beginRow_41 rfl (lv_at hl 1 rfl) ?_
      refine va_get (D := D) (ci := 7) (v := .ref rq) (C := RX8) (T := TX8) (N := 13) hx hb hts hi_X8 hown hK hP 0 rfl rfl 8 (by decide) hf_26 (fun _ h9 => h9) rfl dX8_beginRow_42 ?_
      refine lv_iload_n hx hb dX8_beginRow_45 rfl (lv_at hl 0 rfl) ?_
      refine va_iald hx hb hK hP 2 1 rfl rfl (vp_in_nI hk (by decide)) dX8_beginRow_46 ?_
      refine ct_topi (y := (md_l2 (ex_id τ.1.1 256) f kz k).1 k) (by rw [nI_clamp (by omega)]) ?_
      refine lv_iadd hx hb dX8_beginRow_47 ?_
      refine lv_aload_n hx hb dX8_beginRow_48 rfl (lv_at hl 1 rfl) ?_
      refine va_get (D := D) (ci := 7) (v := .ref kq) (C := RX8) (T := TX8) (N := 13) hx hb hts hi_X8 hown hK hP 0 rfl rfl 0 (by decide) hf_7 (fun _ h9 => h9) rfl dX8_beginRow_49 ?_
      refine lv_iload_n hx hb dX8_beginRow_52 rfl (lv_at hl 0 rfl) ?_
      refine lv_aload_n hx hb dX8_beginRow_53 rfl (lv_at hl 1 rfl) ?_
      refine va_get (D := D) (ci := 7) (v := .int (nI kz)) (C := RX8) (T := TX8) (N := 13) hx hb hts hi_X8 hown hK hP 0 rfl rfl 2 (by decide) hf_29 (fun _ h9 => h9) rfl dX8_beginRow_54 ?_
      refine lv_irem hx hb dX8_beginRow_57 (nI_ne0 hz0 (by omega)) ?_
      refine ct_topi (y := nI (k % kz)) (pk_rem (by omega) hz0 (by omega)) ?_
      refine va_iald hx hb hK hP 1 0 rfl rfl (vp_in_nI (by have := Nat.mod_lt k hz0; omega) (by decide)) dX8_beginRow_58 ?_
      refine ct_topi (y := f (k % kz)) (by rw [nI_clamp (by have := Nat.mod_lt k hz0; omega)]) ?_
      refine lv_iadd hx hb dX8_beginRow_59 ?_
      refine lv_sipush (v := 255) hx hb dX8_beginRow_60 (by decide) ?_
      refine lv_iand hx hb dX8_beginRow_63 ?_
      refine va_put (D := D) (ci := 7) (v := .int (((((md_l2 (ex_id τ.1.1 256) f kz k).2) + ((md_l2 (ex_id τ.1.1 256) f kz k).1 k)) + (f (k % kz))) &&& 255)) (ty := .int) (C := RX8) (T := TX8) (N := 13) hx hb hts hi_X8 tyX8 tyX8_ok nmX8 hown hK hP hD hS 0 rfl rfl 10 (by decide) hf_69 (fun _ h9 => h9) rfl (by decide +kernel) rfl rfl (Nat.le_of_ble_eq_true rfl) dX8_beginRow_64 (fun H locs hP hD hS => ?_)
      have hP : va_P D vwCl [(h0, .inr (7, [.ref kq, .ref sq, .int (nI kz), .int sz, .int mc, .int gv, .ref cq, .ref tq, .ref rq, .int τ.1.2.1, .int (((((md_l2 (ex_id τ.1.1 256) f kz k).2) + ((md_l2 (ex_id τ.1.1 256) f kz k).1 k)) + (f (k % kz))) &&& 255), .int τ.2.1, .int τ.2.2])), (kq, .inl (kA, 32, .inl f)), (rq, .inl (rA, 256, .inl ((md_l2 (ex_id τ.1.1 256) f kz k).1)))] H := hP
      have hD : va_D A [(h0, .inr (7, [.ref kq, .ref sq, .int (nI kz), .int sz, .int mc, .int gv, .ref cq, .ref tq, .ref rq, .int τ.1.2.1, .int (((((md_l2 (ex_id τ.1.1 256) f kz k).2) + ((md_l2 (ex_id τ.1.1 256) f kz k).1 k)) + (f (k % kz))) &&& 255), .int τ.2.1, .int τ.2.2])), (kq, .inl (kA, 32, .inl f)), (rq, .inl (rA, 256, .inl ((md_l2 (ex_id τ.1.1 256) f kz k).1)))] := hD
      refine lv_aload_n hx hb dX8_beginRow_67 rfl (lv_at hl 1 rfl) ?_
      refine lv_iload_n hx hb dX8_beginRow_68 rfl (lv_at hl 0 rfl) ?_
      refine lv_aload_n hx hb dX8_beginRow_69 rfl (lv_at hl 1 rfl) ?_
      refine va_get (D := D) (ci := 7) (v := .int (((((md_l2 (ex_id τ.1.1 256) f kz k).2) + ((md_l2 (ex_id τ.1.1 256) f kz k).1 k)) + (f (k % kz))) &&& 255)) (C := RX8) (T := TX8) (N := 13) hx hb hts hi_X8 hown hK hP 0 rfl rfl 10 (by decide) hf_69 (fun _ h9 => h9) rfl dX8_beginRow_70 ?_
      refine ct_callVv (As := [.int (nI k), .int (((((md_l2 (ex_id τ.1.1 256) f kz k).2) + ((md_l2 (ex_id τ.1.1 256) f kz k).1 k)) + (f (k % kz))) &&& 255)]) (rest := []) (wr := [(kq, .inl (kA, 32, .inl f))]) (ws2 := [(h0, .inr (7, [.ref kq, .ref sq, .int (nI kz), .int sz, .int mc, .int gv, .ref cq, .ref tq, .ref rq, .int τ.1.2.1, .int (((((md_l2 (ex_id τ.1.1 256) f kz k).2) + ((md_l2 (ex_id τ.1.1 256) f kz k).1 k)) + (f (k % kz))) &&& 255), .int τ.2.1, .int τ.2.2])), (kq, .inl (kA, 32, .inl f)), (rq, .inl (rA, 256, .inl (ex_sw ((md_l2 (ex_id τ.1.1 256) f kz k).1) (nI k) (((((md_l2 (ex_id τ.1.1 256) f kz k).2) + ((md_l2 (ex_id τ.1.1 256) f kz k).1 k)) + (f (k % kz))) &&& 255))))]) ⟨hx, hb, hml, hown, hts⟩ (c_md_exch l D h0 kq sq cq tq rq (nI kz) sz mc gv τ.1.2.1 (((((md_l2 (ex_id τ.1.1 256) f kz k).2) + ((md_l2 (ex_id τ.1.1 256) f kz k).1 k)) + (f (k % kz))) &&& 255) τ.2.1 τ.2.2 rA ((md_l2 (ex_id τ.1.1 256) f kz k).1) (nI k) (((((md_l2 (ex_id τ.1.1 256) f kz k).2) + ((md_l2 (ex_id τ.1.1 256) f kz k).1 k)) + (f (k % kz))) &&& 255) (vp_in_nI hk (by decide)) (ex_in _)) cw_X8_exchange [1] rfl [0, 2] [1] [1, 0, 2] hF hK hP hD hS hA 0 7 rfl rfl rfl rfl (by decide) rfl (by decide) (by decide) rfl (by decide) rfl hl.1 rfl (Nat.le_of_ble_eq_true rfl) dX8_beginRow_73 ⟨Nat.zero_le _, Nat.zero_le _⟩ (fun H locs hP hD hS => ?_)
      refine lv_iinc (v := nI (k + 1)) (lv' := [(1, .int (nI (k + 1))), (0, .ref h0)]) hx hb dX8_beginRow_76 hl (k := 0) rfl (ct_inc k) (by decide) rfl (fun ls hl => ?_)
      refine lv_goto (tgt := 29) hx hb dX8_beginRow_79 (by decide) ?_
      exact ih29 H locs ls hP hD hS (lv_sub hl [0, 1] rfl)
    · intro H locs ls hP hD hS hl
      have hP : va_P D vwCl [(h0, .inr (7, [.ref kq, .ref sq, .int (nI kz), .int sz, .int mc, .int gv, .ref cq, .ref tq, .ref rq, .int τ.1.2.1, .int ((md_l2 (ex_id τ.1.1 256) f kz 256).2), .int τ.2.1, .int τ.2.2])), (kq, .inl (kA, 32, .inl f)), (rq, .inl (rA, 256, .inl ((md_l2 (ex_id τ.1.1 256) f kz 256).1)))] H := hP
      have hD : va_D A [(h0, .inr (7, [.ref kq, .ref sq, .int (nI kz), .int sz, .int mc, .int gv, .ref cq, .ref tq, .ref rq, .int τ.1.2.1, .int ((md_l2 (ex_id τ.1.1 256) f kz 256).2), .int τ.2.1, .int τ.2.2])), (kq, .inl (kA, 32, .inl f)), (rq, .inl (rA, 256, .inl ((md_l2 (ex_id τ.1.1 256) f kz 256).1)))] := hD
      have hl : lv_has ls 2 [(1, .int (nI 256)), (0, .ref h0)] := hl
      refine lv_iload_n hx hb dX8_beginRow_29 rfl (lv_at hl 0 rfl) ?_
      refine lv_sipush (v := 256) hx hb dX8_beginRow_30 (by decide) ?_
      refine lv_icmp_ge (tgt := 82) hx hb dX8_beginRow_33 (by decide) (fun _ => ?_) (fun hh => absurd (Int32.le_refl _) hh)
      refine lv_aload_n hx hb dX8_beginRow_82 rfl (lv_at hl 1 rfl) ?_
      refine lv_iconst (v := 0) hx hb dX8_beginRow_83 (by decide) ?_
      refine va_put (D := D) (ci := 7) (v := .int 0) (ty := .int) (C := RX8) (T := TX8) (N := 13) hx hb hts hi_X8 tyX8 tyX8_ok nmX8 hown hK hP hD hS 0 rfl rfl 9 (by decide) hf_66 (fun _ h9 => h9) rfl (by decide +kernel) rfl rfl (Nat.le_of_ble_eq_true rfl) dX8_beginRow_84 (fun H locs hP hD hS => ?_)
      have hP : va_P D vwCl [(h0, .inr (7, [.ref kq, .ref sq, .int (nI kz), .int sz, .int mc, .int gv, .ref cq, .ref tq, .ref rq, .int 0, .int ((md_l2 (ex_id τ.1.1 256) f kz 256).2), .int τ.2.1, .int τ.2.2])), (kq, .inl (kA, 32, .inl f)), (rq, .inl (rA, 256, .inl ((md_l2 (ex_id τ.1.1 256) f kz 256).1)))] H := hP
      have hD : va_D A [(h0, .inr (7, [.ref kq, .ref sq, .int (nI kz), .int sz, .int mc, .int gv, .ref cq, .ref tq, .ref rq, .int 0, .int ((md_l2 (ex_id τ.1.1 256) f kz 256).2), .int τ.2.1, .int τ.2.2])), (kq, .inl (kA, 32, .inl f)), (rq, .inl (rA, 256, .inl ((md_l2 (ex_id τ.1.1 256) f kz 256).1)))] := hD
      refine lv_aload_n hx hb dX8_beginRow_87 rfl (lv_at hl 1 rfl) ?_
      refine lv_iconst (v := 0) hx hb dX8_beginRow_88 (by decide) ?_
      refine va_put (D := D) (ci := 7) (v := .int 0) (ty := .int) (C := RX8) (T := TX8) (N := 13) hx hb hts hi_X8 tyX8 tyX8_ok nmX8 hown hK hP hD hS 0 rfl rfl 10 (by decide) hf_69 (fun _ h9 => h9) rfl (by decide +kernel) rfl rfl (Nat.le_of_ble_eq_true rfl) dX8_beginRow_89 (fun H locs hP hD hS => ?_)
      have hP : va_P D vwCl [(h0, .inr (7, [.ref kq, .ref sq, .int (nI kz), .int sz, .int mc, .int gv, .ref cq, .ref tq, .ref rq, .int 0, .int 0, .int τ.2.1, .int τ.2.2])), (kq, .inl (kA, 32, .inl f)), (rq, .inl (rA, 256, .inl ((md_l2 (ex_id τ.1.1 256) f kz 256).1)))] H := hP
      have hD : va_D A [(h0, .inr (7, [.ref kq, .ref sq, .int (nI kz), .int sz, .int mc, .int gv, .ref cq, .ref tq, .ref rq, .int 0, .int 0, .int τ.2.1, .int τ.2.2])), (kq, .inl (kA, 32, .inl f)), (rq, .inl (rA, 256, .inl ((md_l2 (ex_id τ.1.1 256) f kz 256).1)))] := hD
      refine lv_aload_n hx hb dX8_beginRow_92 rfl (lv_at hl 1 rfl) ?_
      refine lv_iconst (v := 0) hx hb dX8_beginRow_93 (by decide) ?_
      refine va_put (D := D) (ci := 7) (v := .int 0) (ty := .int) (C := RX8) (T := TX8) (N := 13) hx hb hts hi_X8 tyX8 tyX8_ok nmX8 hown hK hP hD hS 0 rfl rfl 12 (by decide) hf_117 (fun _ h9 => h9) rfl (by decide +kernel) rfl rfl (Nat.le_of_ble_eq_true rfl) dX8_beginRow_94 (fun H locs hP hD hS => ?_)
      have hP : va_P D vwCl [(h0, .inr (7, [.ref kq, .ref sq, .int (nI kz), .int sz, .int mc, .int gv, .ref cq, .ref tq, .ref rq, .int 0, .int 0, .int τ.2.1, .int 0])), (kq, .inl (kA, 32, .inl f)), (rq, .inl (rA, 256, .inl ((md_l2 (ex_id τ.1.1 256) f kz 256).1)))] H := hP
      have hD : va_D A [(h0, .inr (7, [.ref kq, .ref sq, .int (nI kz), .int sz, .int mc, .int gv, .ref cq, .ref tq, .ref rq, .int 0, .int 0, .int τ.2.1, .int 0])), (kq, .inl (kA, 32, .inl f)), (rq, .inl (rA, 256, .inl ((md_l2 (ex_id τ.1.1 256) f kz 256).1)))] := hD
      exact ct_vret hx hb hr hlk hP hK hD hS dX8_beginRow_97
