/-- the reference's rings: its cells and tops -/
abbrev MR : Type := (Nat → Int32) × (Nat → Int32)
def md_ix (t k : Int32) : Nat := ((t + k) &&& 127).toNatClampNeg
def md_cell (μ : MR) (r : Nat) (k : Int32) : Int32 := μ.1 (128 * r + md_ix (μ.2 r) k)
def md_put (μ : MR) (r : Nat) (k v : Int32) : MR := (upd μ.1 (128 * r + md_ix (μ.2 r) k) v, μ.2)
def md_up (μ : MR) (r : Nat) (v : Int32) : MR := md_put (μ.1, upd μ.2 r ((μ.2 r - 1) &&& 127)) r 0 v
def md_dn (μ : MR) (r : Nat) (v : Int32) : MR := md_put (μ.1, upd μ.2 r ((μ.2 r + 1) &&& 127)) r 127 v
theorem md_e (r : Nat) (t k : Int32) : 128 * nI r + ((t + k) &&& 127) = nI (128 * r + md_ix t k) ∧ md_ix t k < 128 := by
  obtain ⟨j, hj, e⟩ := pk_andE (t + k) (m := 127) 7 (by decide)
  have h : md_ix t k = j := by rw [md_ix, e]; exact nI_clamp (by omega)
  rw [e, h]
  exact ⟨by rw [show (128 : Int32) = nI 128 from rfl, pk_mul, nI_add], hj⟩
theorem md_in {r : Nat} (hr : r < 3) (t k : Int32) : vp_in (128 * nI r + ((t + k) &&& 127)) 384 := by
  rw [(md_e r t k).1]
  have := (md_e r t k).2
  exact vp_in_nI (by omega) (by decide)
theorem md_cl {r : Nat} (hr : r < 3) (t k : Int32) : (128 * nI r + ((t + k) &&& 127)).toNatClampNeg = 128 * r + md_ix t k := by
  rw [(md_e r t k).1]
  have := (md_e r t k).2
  exact nI_clamp (by omega)
def md_z (f : Nat → Int32) : Nat → Nat → Int32
  | 0 => f
  | k + 1 => upd (md_z f k) k 0
def md_s (μ : MR) (n : Int32) : Int32 := if 93 < n then (if 177 < n then md_cell μ 2 (n - 178) else md_cell μ 1 (n - 94)) else md_cell μ 0 (n - 1)
set_option maxHeartbeats 4000000 in
set_option maxRecDepth 100000 in
/-- Model.cell -/
theorem c_md_cell (l : Launch) (D : va_G) (h0 kq sq cq tq rq : Nat) (kz sz mc gv ri rj bn lf : Int32) (cA tA : ClassId) (μ : MR) (r : Nat) (hr3 : r < 3) (k : Int32) : Cti l D yX8_cell wsX8_cell ({ frames := 0, cells := 0, slots := 0, locals := 0 } : Room) [.ref h0, .int (nI r), .int k] [(cA, .int), (tA, .int)] [(h0, .inr (7, [.ref kq, .ref sq, .int kz, .int sz, .int mc, .int gv, .ref cq, .ref tq, .ref rq, .int ri, .int rj, .int bn, .int lf])), (cq, .inl (cA, 384, .inl μ.1)), (tq, .inl (tA, 3, .inl μ.2))] [(h0, .inr (7, [.ref kq, .ref sq, .int kz, .int sz, .int mc, .int gv, .ref cq, .ref tq, .ref rq, .int ri, .int rj, .int bn, .int lf])), (cq, .inl (cA, 384, .inl μ.1)), (tq, .inl (tA, 3, .inl μ.2))] (md_cell μ r k) := by
  refine ct_of (cc := cX8_cell) (maxL := 3) (ret := (some .int)) (by decide) rfl (Nat.le_of_ble_eq_true rfl) ?_
  intro p e s m below meth c A H locs ls hx hb hr hml hts hown hlk hnm hF hP hK hD hA hS hl
  have hown : s.vm.findClass RX8 = some m.cls := hown
  have hl : lv_has ls 3 [(0, .ref h0), (1, .int (nI r)), (2, .int k)] := hl
  have hf_20 := hts (.fieldLink RX8 20 "BitStreamsModel" "cells" "[I") (by decide +kernel)
  have hi_X8 : ∀ w ∈ u_ws RX8 TX8 13, w ∈ wsX8_cell := by decide +kernel
  have hf_23 := hts (.fieldLink RX8 23 "BitStreamsModel" "tops" "[I") (by decide +kernel)
  refine lv_aload_n hx hb dX8_cell_0 rfl (lv_at hl 0 rfl) ?_
  refine va_get (D := D) (ci := 7) (v := .ref cq) (C := RX8) (T := TX8) (N := 13) hx hb hts hi_X8 hown hK hP 0 rfl rfl 6 (by decide) hf_20 (fun _ h9 => h9) rfl dX8_cell_1 ?_
  refine lv_sipush (v := 128) hx hb dX8_cell_4 (by decide) ?_
  refine lv_iload_n hx hb dX8_cell_7 rfl (lv_at hl 1 rfl) ?_
  refine lv_imul hx hb dX8_cell_8 ?_
  refine lv_aload_n hx hb dX8_cell_9 rfl (lv_at hl 0 rfl) ?_
  refine va_get (D := D) (ci := 7) (v := .ref tq) (C := RX8) (T := TX8) (N := 13) hx hb hts hi_X8 hown hK hP 0 rfl rfl 7 (by decide) hf_23 (fun _ h9 => h9) rfl dX8_cell_10 ?_
  refine lv_iload_n hx hb dX8_cell_13 rfl (lv_at hl 1 rfl) ?_
  refine va_iald hx hb hK hP 2 1 rfl rfl (vp_in_nI hr3 (by decide)) dX8_cell_14 ?_
  refine ct_topi (y := μ.2 r) (by rw [nI_clamp (by omega)]) ?_
  refine lv_iload_n hx hb dX8_cell_15 rfl (lv_at hl 2 rfl) ?_
  refine lv_iadd hx hb dX8_cell_16 ?_
  refine lv_bipush (v := 127) hx hb dX8_cell_17 (by decide) ?_
  refine lv_iand hx hb dX8_cell_19 ?_
  refine lv_iadd hx hb dX8_cell_20 ?_
  refine va_iald hx hb hK hP 1 0 rfl rfl (md_in hr3 _ _) dX8_cell_21 ?_
  refine ct_topi (y := md_cell μ r k) (by rw [md_cell, md_cl hr3]) ?_
  exact ct_zret hx hb hr hlk hP hK hD hS rfl rfl dX8_cell_22
set_option maxHeartbeats 4000000 in
set_option maxRecDepth 100000 in
/-- Model.put -/
theorem c_md_put (l : Launch) (D : va_G) (h0 kq sq cq tq rq : Nat) (kz sz mc gv ri rj bn lf : Int32) (cA tA : ClassId) (μ : MR) (r : Nat) (hr3 : r < 3) (k v : Int32) : Ctv l D yX8_put wsX8_put ({ frames := 0, cells := 0, slots := 0, locals := 0 } : Room) [.ref h0, .int (nI r), .int k, .int v] [(cA, .int), (tA, .int)] [(h0, .inr (7, [.ref kq, .ref sq, .int kz, .int sz, .int mc, .int gv, .ref cq, .ref tq, .ref rq, .int ri, .int rj, .int bn, .int lf])), (cq, .inl (cA, 384, .inl μ.1)), (tq, .inl (tA, 3, .inl μ.2))] [(h0, .inr (7, [.ref kq, .ref sq, .int kz, .int sz, .int mc, .int gv, .ref cq, .ref tq, .ref rq, .int ri, .int rj, .int bn, .int lf])), (cq, .inl (cA, 384, .inl ((md_put μ r k v).1))), (tq, .inl (tA, 3, .inl ((md_put μ r k v).2)))] := by
  refine ct_of (cc := cX8_put) (maxL := 4) (ret := none) (by decide) rfl (Nat.le_of_ble_eq_true rfl) ?_
  intro p e s m below meth c A H locs ls hx hb hr hml hts hown hlk hnm hF hP hK hD hA hS hl
  have hown : s.vm.findClass RX8 = some m.cls := hown
  have hl : lv_has ls 4 [(0, .ref h0), (1, .int (nI r)), (2, .int k), (3, .int v)] := hl
  have hf_20 := hts (.fieldLink RX8 20 "BitStreamsModel" "cells" "[I") (by decide +kernel)
  have hi_X8 : ∀ w ∈ u_ws RX8 TX8 13, w ∈ wsX8_put := by decide +kernel
  have hf_23 := hts (.fieldLink RX8 23 "BitStreamsModel" "tops" "[I") (by decide +kernel)
  refine lv_aload_n hx hb dX8_put_0 rfl (lv_at hl 0 rfl) ?_
  refine va_get (D := D) (ci := 7) (v := .ref cq) (C := RX8) (T := TX8) (N := 13) hx hb hts hi_X8 hown hK hP 0 rfl rfl 6 (by decide) hf_20 (fun _ h9 => h9) rfl dX8_put_1 ?_
  refine lv_sipush (v := 128) hx hb dX8_put_4 (by decide) ?_
  refine lv_iload_n hx hb dX8_put_7 rfl (lv_at hl 1 rfl) ?_
  refine lv_imul hx hb dX8_put_8 ?_
  refine lv_aload_n hx hb dX8_put_9 rfl (lv_at hl 0 rfl) ?_
  refine va_get (D := D) (ci := 7) (v := .ref tq) (C := RX8) (T := TX8) (N := 13) hx hb hts hi_X8 hown hK hP 0 rfl rfl 7 (by decide) hf_23 (fun _ h9 => h9) rfl dX8_put_10 ?_
  refine lv_iload_n hx hb dX8_put_13 rfl (lv_at hl 1 rfl) ?_
  refine va_iald hx hb hK hP 2 1 rfl rfl (vp_in_nI hr3 (by decide)) dX8_put_14 ?_
  refine ct_topi (y := μ.2 r) (by rw [nI_clamp (by omega)]) ?_
  refine lv_iload_n hx hb dX8_put_15 rfl (lv_at hl 2 rfl) ?_
  refine lv_iadd hx hb dX8_put_16 ?_
  refine lv_bipush (v := 127) hx hb dX8_put_17 (by decide) ?_
  refine lv_iand hx hb dX8_put_19 ?_
  refine lv_iadd hx hb dX8_put_20 ?_
  refine lv_iload_n hx hb dX8_put_21 rfl (lv_at hl 3 rfl) ?_
  refine va_iast hx hb hK hP hD hS 1 0 rfl rfl (md_in hr3 _ _) dX8_put_22 (fun H locs hP hD hS => ?_)
  have hP : va_P D vwCl [(h0, .inr (7, [.ref kq, .ref sq, .int kz, .int sz, .int mc, .int gv, .ref cq, .ref tq, .ref rq, .int ri, .int rj, .int bn, .int lf])), (cq, .inl (cA, 384, .inl (upd μ.1 ((128 * (nI r)) + (((μ.2 r) + k) &&& 127)).toNatClampNeg v))), (tq, .inl (tA, 3, .inl μ.2))] H := hP
  have hD : va_D A [(h0, .inr (7, [.ref kq, .ref sq, .int kz, .int sz, .int mc, .int gv, .ref cq, .ref tq, .ref rq, .int ri, .int rj, .int bn, .int lf])), (cq, .inl (cA, 384, .inl (upd μ.1 ((128 * (nI r)) + (((μ.2 r) + k) &&& 127)).toNatClampNeg v))), (tq, .inl (tA, 3, .inl μ.2))] := hD
  rw [show upd μ.1 ((128 * (nI r)) + (((μ.2 r) + k) &&& 127)).toNatClampNeg v = (md_put μ r k v).1 from by rw [md_cl hr3]; rfl] at hP hD
  exact ct_vret hx hb hr hlk hP hK hD hS dX8_put_23
set_option maxHeartbeats 4000000 in
set_option maxRecDepth 100000 in
/-- Model.up -/
theorem c_md_up (l : Launch) (D : va_G) (h0 kq sq cq tq rq : Nat) (kz sz mc gv ri rj bn lf : Int32) (cA tA : ClassId) (μ : MR) (r : Nat) (hr3 : r < 3) (v : Int32) : Ctv l D yX8_up wsX8_up ({ frames := 1, cells := 0, slots := 0, locals := 23 } : Room) [.ref h0, .int (nI r), .int v] [(cA, .int), (tA, .int)] [(h0, .inr (7, [.ref kq, .ref sq, .int kz, .int sz, .int mc, .int gv, .ref cq, .ref tq, .ref rq, .int ri, .int rj, .int bn, .int lf])), (cq, .inl (cA, 384, .inl μ.1)), (tq, .inl (tA, 3, .inl μ.2))] [(h0, .inr (7, [.ref kq, .ref sq, .int kz, .int sz, .int mc, .int gv, .ref cq, .ref tq, .ref rq, .int ri, .int rj, .int bn, .int lf])), (cq, .inl (cA, 384, .inl ((md_up μ r v).1))), (tq, .inl (tA, 3, .inl ((md_up μ r v).2)))] := by
  refine ct_of (cc := cX8_up) (maxL := 3) (ret := none) (by decide) rfl (Nat.le_of_ble_eq_true rfl) ?_
  intro p e s m below meth c A H locs ls hx hb hr hml hts hown hlk hnm hF hP hK hD hA hS hl
  have hown : s.vm.findClass RX8 = some m.cls := hown
  have hl : lv_has ls 3 [(0, .ref h0), (1, .int (nI r)), (2, .int v)] := hl
  have hf_23 := hts (.fieldLink RX8 23 "BitStreamsModel" "tops" "[I") (by decide +kernel)
  have hi_X8 : ∀ w ∈ u_ws RX8 TX8 13, w ∈ wsX8_up := by decide +kernel
  have cw_X8_put := cwV (R := ({ frames := 1, cells := 0, slots := 0, locals := 23 } : Room)) (rm := ({ frames := 0, cells := 0, slots := 0, locals := 0 } : Room)) 3 hts gX8_up_X8_put rfl rfl rfl (by decide +kernel) ⟨Nat.le_of_ble_eq_true rfl, Nat.le_of_ble_eq_true rfl⟩
  refine lv_aload_n hx hb dX8_up_0 rfl (lv_at hl 0 rfl) ?_
  refine va_get (D := D) (ci := 7) (v := .ref tq) (C := RX8) (T := TX8) (N := 13) hx hb hts hi_X8 hown hK hP 0 rfl rfl 7 (by decide) hf_23 (fun _ h9 => h9) rfl dX8_up_1 ?_
  refine lv_iload_n hx hb dX8_up_4 rfl (lv_at hl 1 rfl) ?_
  refine lv_aload_n hx hb dX8_up_5 rfl (lv_at hl 0 rfl) ?_
  refine va_get (D := D) (ci := 7) (v := .ref tq) (C := RX8) (T := TX8) (N := 13) hx hb hts hi_X8 hown hK hP 0 rfl rfl 7 (by decide) hf_23 (fun _ h9 => h9) rfl dX8_up_6 ?_
  refine lv_iload_n hx hb dX8_up_9 rfl (lv_at hl 1 rfl) ?_
  refine va_iald hx hb hK hP 2 1 rfl rfl (vp_in_nI hr3 (by decide)) dX8_up_10 ?_
  refine ct_topi (y := μ.2 r) (by rw [nI_clamp (by omega)]) ?_
  refine lv_iconst (v := 1) hx hb dX8_up_11 (by decide) ?_
  refine lv_isub hx hb dX8_up_12 ?_
  refine lv_bipush (v := 127) hx hb dX8_up_13 (by decide) ?_
  refine lv_iand hx hb dX8_up_15 ?_
  refine va_iast hx hb hK hP hD hS 2 1 rfl rfl (vp_in_nI hr3 (by decide)) dX8_up_16 (fun H locs hP hD hS => ?_)
  have hP : va_P D vwCl [(h0, .inr (7, [.ref kq, .ref sq, .int kz, .int sz, .int mc, .int gv, .ref cq, .ref tq, .ref rq, .int ri, .int rj, .int bn, .int lf])), (cq, .inl (cA, 384, .inl μ.1)), (tq, .inl (tA, 3, .inl (upd μ.2 (nI r).toNatClampNeg (((μ.2 r) - 1) &&& 127))))] H := hP
  have hD : va_D A [(h0, .inr (7, [.ref kq, .ref sq, .int kz, .int sz, .int mc, .int gv, .ref cq, .ref tq, .ref rq, .int ri, .int rj, .int bn, .int lf])), (cq, .inl (cA, 384, .inl μ.1)), (tq, .inl (tA, 3, .inl (upd μ.2 (nI r).toNatClampNeg (((μ.2 r) - 1) &&& 127))))] := hD
  rw [show upd μ.2 (nI r).toNatClampNeg (((μ.2 r) - 1) &&& 127) = upd μ.2 r ((μ.2 r - 1) &&& 127) from by rw [nI_clamp (by omega)]] at hP hD
  refine lv_aload_n hx hb dX8_up_17 rfl (lv_at hl 0 rfl) ?_
  refine lv_iload_n hx hb dX8_up_18 rfl (lv_at hl 1 rfl) ?_
  refine lv_iconst (v := 0) hx hb dX8_up_19 (by decide) ?_
  refine lv_iload_n hx hb dX8_up_20 rfl (lv_at hl 2 rfl) ?_
  refine ct_callVv (As := [.int (nI r), .int 0, .int v]) (rest := []) (wr := []) (ws2 := [(h0, .inr (7, [.ref kq, .ref sq, .int kz, .int sz, .int mc, .int gv, .ref cq, .ref tq, .ref rq, .int ri, .int rj, .int bn, .int lf])), (cq, .inl (cA, 384, .inl ((md_put (μ.1, upd μ.2 r ((μ.2 r - 1) &&& 127)) r 0 v).1))), (tq, .inl (tA, 3, .inl ((md_put (μ.1, upd μ.2 r ((μ.2 r - 1) &&& 127)) r 0 v).2)))]) ⟨hx, hb, hml, hown, hts⟩ (c_md_put l D h0 kq sq cq tq rq kz sz mc gv ri rj bn lf cA tA (μ.1, upd μ.2 r ((μ.2 r - 1) &&& 127)) r hr3 0 v) cw_X8_put [0, 1] rfl [0, 1, 2] [] [0, 1, 2] hF hK hP hD hS hA 0 7 rfl rfl rfl rfl (by decide) rfl (by decide) (by decide) rfl (by decide) rfl hl.1 rfl (Nat.le_of_ble_eq_true rfl) dX8_up_21 ⟨Nat.zero_le _, Nat.zero_le _⟩ (fun H locs hP hD hS => ?_)
  exact ct_vret hx hb hr hlk hP hK hD hS dX8_up_24
set_option maxHeartbeats 4000000 in
set_option maxRecDepth 100000 in
/-- Model.down -/
theorem c_md_dn (l : Launch) (D : va_G) (h0 kq sq cq tq rq : Nat) (kz sz mc gv ri rj bn lf : Int32) (cA tA : ClassId) (μ : MR) (r : Nat) (hr3 : r < 3) (v : Int32) : Ctv l D yX8_down wsX8_down ({ frames := 1, cells := 0, slots := 0, locals := 23 } : Room) [.ref h0, .int (nI r), .int v] [(cA, .int), (tA, .int)] [(h0, .inr (7, [.ref kq, .ref sq, .int kz, .int sz, .int mc, .int gv, .ref cq, .ref tq, .ref rq, .int ri, .int rj, .int bn, .int lf])), (cq, .inl (cA, 384, .inl μ.1)), (tq, .inl (tA, 3, .inl μ.2))] [(h0, .inr (7, [.ref kq, .ref sq, .int kz, .int sz, .int mc, .int gv, .ref cq, .ref tq, .ref rq, .int ri, .int rj, .int bn, .int lf])), (cq, .inl (cA, 384, .inl ((md_dn μ r v).1))), (tq, .inl (tA, 3, .inl ((md_dn μ r v).2)))] := by
  refine ct_of (cc := cX8_down) (maxL := 3) (ret := none) (by decide) rfl (Nat.le_of_ble_eq_true rfl) ?_
  intro p e s m below meth c A H locs ls hx hb hr hml hts hown hlk hnm hF hP hK hD hA hS hl
  have hown : s.vm.findClass RX8 = some m.cls := hown
  have hl : lv_has ls 3 [(0, .ref h0), (1, .int (nI r)), (2, .int v)] := hl
  have hf_23 := hts (.fieldLink RX8 23 "BitStreamsModel" "tops" "[I") (by decide +kernel)
  have hi_X8 : ∀ w ∈ u_ws RX8 TX8 13, w ∈ wsX8_down := by decide +kernel
  have cw_X8_put := cwV (R := ({ frames := 1, cells := 0, slots := 0, locals := 23 } : Room)) (rm := ({ frames := 0, cells := 0, slots := 0, locals := 0 } : Room)) 3 hts gX8_down_X8_put rfl rfl rfl (by decide +kernel) ⟨Nat.le_of_ble_eq_true rfl, Nat.le_of_ble_eq_true rfl⟩
  refine lv_aload_n hx hb dX8_down_0 rfl (lv_at hl 0 rfl) ?_
  refine va_get (D := D) (ci := 7) (v := .ref tq) (C := RX8) (T := TX8) (N := 13) hx hb hts hi_X8 hown hK hP 0 rfl rfl 7 (by decide) hf_23 (fun _ h9 => h9) rfl dX8_down_1 ?_
  refine lv_iload_n hx hb dX8_down_4 rfl (lv_at hl 1 rfl) ?_
  refine lv_aload_n hx hb dX8_down_5 rfl (lv_at hl 0 rfl) ?_
  refine va_get (D := D) (ci := 7) (v := .ref tq) (C := RX8) (T := TX8) (N := 13) hx hb hts hi_X8 hown hK hP 0 rfl rfl 7 (by decide) hf_23 (fun _ h9 => h9) rfl dX8_down_6 ?_
  refine lv_iload_n hx hb dX8_down_9 rfl (lv_at hl 1 rfl) ?_
  refine va_iald hx hb hK hP 2 1 rfl rfl (vp_in_nI hr3 (by decide)) dX8_down_10 ?_
  refine ct_topi (y := μ.2 r) (by rw [nI_clamp (by omega)]) ?_
  refine lv_iconst (v := 1) hx hb dX8_down_11 (by decide) ?_
  refine lv_iadd hx hb dX8_down_12 ?_
  refine lv_bipush (v := 127) hx hb dX8_down_13 (by decide) ?_
  refine lv_iand hx hb dX8_down_15 ?_
  refine va_iast hx hb hK hP hD hS 2 1 rfl rfl (vp_in_nI hr3 (by decide)) dX8_down_16 (fun H locs hP hD hS => ?_)
  have hP : va_P D vwCl [(h0, .inr (7, [.ref kq, .ref sq, .int kz, .int sz, .int mc, .int gv, .ref cq, .ref tq, .ref rq, .int ri, .int rj, .int bn, .int lf])), (cq, .inl (cA, 384, .inl μ.1)), (tq, .inl (tA, 3, .inl (upd μ.2 (nI r).toNatClampNeg (((μ.2 r) + 1) &&& 127))))] H := hP
  have hD : va_D A [(h0, .inr (7, [.ref kq, .ref sq, .int kz, .int sz, .int mc, .int gv, .ref cq, .ref tq, .ref rq, .int ri, .int rj, .int bn, .int lf])), (cq, .inl (cA, 384, .inl μ.1)), (tq, .inl (tA, 3, .inl (upd μ.2 (nI r).toNatClampNeg (((μ.2 r) + 1) &&& 127))))] := hD
  rw [show upd μ.2 (nI r).toNatClampNeg (((μ.2 r) + 1) &&& 127) = upd μ.2 r ((μ.2 r + 1) &&& 127) from by rw [nI_clamp (by omega)]] at hP hD
  refine lv_aload_n hx hb dX8_down_17 rfl (lv_at hl 0 rfl) ?_
  refine lv_iload_n hx hb dX8_down_18 rfl (lv_at hl 1 rfl) ?_
  refine lv_bipush (v := 127) hx hb dX8_down_19 (by decide) ?_
  refine lv_iload_n hx hb dX8_down_21 rfl (lv_at hl 2 rfl) ?_
  refine ct_callVv (As := [.int (nI r), .int 127, .int v]) (rest := []) (wr := []) (ws2 := [(h0, .inr (7, [.ref kq, .ref sq, .int kz, .int sz, .int mc, .int gv, .ref cq, .ref tq, .ref rq, .int ri, .int rj, .int bn, .int lf])), (cq, .inl (cA, 384, .inl ((md_put (μ.1, upd μ.2 r ((μ.2 r + 1) &&& 127)) r 127 v).1))), (tq, .inl (tA, 3, .inl ((md_put (μ.1, upd μ.2 r ((μ.2 r + 1) &&& 127)) r 127 v).2)))]) ⟨hx, hb, hml, hown, hts⟩ (c_md_put l D h0 kq sq cq tq rq kz sz mc gv ri rj bn lf cA tA (μ.1, upd μ.2 r ((μ.2 r + 1) &&& 127)) r hr3 127 v) cw_X8_put [0, 1] rfl [0, 1, 2] [] [0, 1, 2] hF hK hP hD hS hA 0 7 rfl rfl rfl rfl (by decide) rfl (by decide) (by decide) rfl (by decide) rfl hl.1 rfl (Nat.le_of_ble_eq_true rfl) dX8_down_22 ⟨Nat.zero_le _, Nat.zero_le _⟩ (fun H locs hP hD hS => ?_)
  exact ct_vret hx hb hr hlk hP hK hD hS dX8_down_25
set_option maxHeartbeats 4000000 in
set_option maxRecDepth 100000 in
/-- Model.clean -/
theorem c_md_clean (l : Launch) (D : va_G) (h0 kq sq cq tq rq : Nat) (kz sz mc gv ri rj bn lf : Int32) (cA tA : ClassId) (μ : MR) : Ctv l D yX8_clean wsX8_clean ({ frames := 0, cells := 0, slots := 0, locals := 0 } : Room) [.ref h0] [(cA, .int), (tA, .int)] [(h0, .inr (7, [.ref kq, .ref sq, .int kz, .int sz, .int mc, .int gv, .ref cq, .ref tq, .ref rq, .int ri, .int rj, .int bn, .int lf])), (cq, .inl (cA, 384, .inl μ.1)), (tq, .inl (tA, 3, .inl μ.2))] [(h0, .inr (7, [.ref kq, .ref sq, .int kz, .int sz, .int mc, .int gv, .ref cq, .ref tq, .ref rq, .int ri, .int rj, .int bn, .int lf])), (cq, .inl (cA, 384, .inl ((md_z μ.1 384, md_z μ.2 3).1))), (tq, .inl (tA, 3, .inl ((md_z μ.1 384, md_z μ.2 3).2)))] := by
  refine ct_of (cc := cX8_clean) (maxL := 2) (ret := none) (by decide) rfl (Nat.le_of_ble_eq_true rfl) ?_
  intro p e s m below meth c A H locs ls hx hb hr hml hts hown hlk hnm hF hP hK hD hA hS hl
  have hown : s.vm.findClass RX8 = some m.cls := hown
  have hl : lv_has ls 2 [(0, .ref h0)] := hl
  have hf_20 := hts (.fieldLink RX8 20 "BitStreamsModel" "cells" "[I") (by decide +kernel)
  have hi_X8 : ∀ w ∈ u_ws RX8 TX8 13, w ∈ wsX8_clean := by decide +kernel
  have hf_23 := hts (.fieldLink RX8 23 "BitStreamsModel" "tops" "[I") (by decide +kernel)
  refine lv_iconst (v := 0) hx hb dX8_clean_0 (by decide) ?_
  refine lv_istore_n (lv' := [(1, .int 0), (0, .ref h0)]) hx hb dX8_clean_1 rfl hl (by decide) rfl (fun ls hl => ?_)
  refine ct_count 384 (fun k : Nat => [(h0, .inr (7, [.ref kq, .ref sq, .int kz, .int sz, .int mc, .int gv, .ref cq, .ref tq, .ref rq, .int ri, .int rj, .int bn, .int lf])), (cq, .inl (cA, 384, .inl (md_z μ.1 k))), (tq, .inl (tA, 3, .inl μ.2))]) (fun k : Nat => [(1, .int (nI k)), (0, .ref h0)]) ?_ ?_ 0 (by decide) hP hD hS (lv_sub hl [0, 1] rfl)
  · intro k hk ih2 H locs ls hP hD hS hl
    have hP : va_P D vwCl [(h0, .inr (7, [.ref kq, .ref sq, .int kz, .int sz, .int mc, .int gv, .ref cq, .ref tq, .ref rq, .int ri, .int rj, .int bn, .int lf])), (cq, .inl (cA, 384, .inl (md_z μ.1 k))), (tq, .inl (tA, 3, .inl μ.2))] H := hP
    have hD : va_D A [(h0, .inr (7, [.ref kq, .ref sq, .int kz, .int sz, .int mc, .int gv, .ref cq, .ref tq, .ref rq, .int ri, .int rj, .int bn, .int lf])), (cq, .inl (cA, 384, .inl (md_z μ.1 k))), (tq, .inl (tA, 3, .inl μ.2))] := hD
    have hl : lv_has ls 2 [(1, .int (nI k)), (0, .ref h0)] := hl
    refine lv_iload_n hx hb dX8_clean_2 rfl (lv_at hl 0 rfl) ?_
    refine lv_sipush (v := 384) hx hb dX8_clean_3 (by decide) ?_
    refine lv_icmp_ge (tgt := 22) hx hb dX8_clean_6 (by decide) (fun hh => absurd hh (nI_ge (b := 384) hk (by decide))) (fun _ => ?_)
    refine lv_aload_n hx hb dX8_clean_9 rfl (lv_at hl 1 rfl) ?_
    refine va_get (D := D) (ci := 7) (v := .ref cq) (C := RX8) (T := TX8) (N := 13) hx hb hts hi_X8 hown hK hP 0 rfl rfl 6 (by decide) hf_20 (fun _ h9 => h9) rfl dX8_clean_10 ?_
    refine lv_iload_n hx hb dX8_clean_13 rfl (lv_at hl 0 rfl) ?_
    refine lv_iconst (v := 0) hx hb dX8_clean_14 (by decide) ?_
    refine va_iast hx hb hK hP hD hS 1 0 rfl rfl (vp_in_nI hk (by decide)) dX8_clean_15 (fun H locs hP hD hS => ?_)
    have hP : va_P D vwCl [(h0, .inr (7, [.ref kq, .ref sq, .int kz, .int sz, .int mc, .int gv, .ref cq, .ref tq, .ref rq, .int ri, .int rj, .int bn, .int lf])), (cq, .inl (cA, 384, .inl (upd (md_z μ.1 k) (nI k).toNatClampNeg 0))), (tq, .inl (tA, 3, .inl μ.2))] H := hP
    have hD : va_D A [(h0, .inr (7, [.ref kq, .ref sq, .int kz, .int sz, .int mc, .int gv, .ref cq, .ref tq, .ref rq, .int ri, .int rj, .int bn, .int lf])), (cq, .inl (cA, 384, .inl (upd (md_z μ.1 k) (nI k).toNatClampNeg 0))), (tq, .inl (tA, 3, .inl μ.2))] := hD
    rw [show upd (md_z μ.1 k) (nI k).toNatClampNeg 0 = upd (md_z μ.1 k) k 0 from by rw [nI_clamp (by omega)]] at hP hD
    refine lv_iinc (v := nI (k + 1)) (lv' := [(1, .int (nI (k + 1))), (0, .ref h0)]) hx hb dX8_clean_16 hl (k := 0) rfl (ct_inc k) (by decide) rfl (fun ls hl => ?_)
    refine lv_goto (tgt := 2) hx hb dX8_clean_19 (by decide) ?_
    exact ih2 H locs ls hP hD hS (lv_sub hl [0, 1] rfl)
  · intro H locs ls hP hD hS hl
    have hP : va_P D vwCl [(h0, .inr (7, [.ref kq, .ref sq, .int kz, .int sz, .int mc, .int gv, .ref cq, .ref tq, .ref rq, .int ri, .int rj, .int bn, .int lf])), (cq, .inl (cA, 384, .inl (md_z μ.1 384))), (tq, .inl (tA, 3, .inl μ.2))] H := hP
    have hD : va_D A [(h0, .inr (7, [.ref kq, .ref sq, .int kz, .int sz, .int mc, .int gv, .ref cq, .ref tq, .ref rq, .int ri, .int rj, .int bn, .int lf])), (cq, .inl (cA, 384, .inl (md_z μ.1 384))), (tq, .inl (tA, 3, .inl μ.2))] := hD
    have hl : lv_has ls 2 [(1, .int (nI 384)), (0, .ref h0)] := hl
    refine lv_iload_n hx hb dX8_clean_2 rfl (lv_at hl 0 rfl) ?_
    refine lv_sipush (v := 384) hx hb dX8_clean_3 (by decide) ?_
    refine lv_icmp_ge (tgt := 22) hx hb dX8_clean_6 (by decide) (fun _ => ?_) (fun hh => absurd (Int32.le_refl _) hh)
    refine lv_iconst (v := 0) hx hb dX8_clean_22 (by decide) ?_
    refine lv_istore_n (lv' := [(1, .int 0), (0, .ref h0)]) hx hb dX8_clean_23 rfl hl (by decide) rfl (fun ls hl => ?_)
    refine ct_count 3 (fun k : Nat => [(h0, .inr (7, [.ref kq, .ref sq, .int kz, .int sz, .int mc, .int gv, .ref cq, .ref tq, .ref rq, .int ri, .int rj, .int bn, .int lf])), (cq, .inl (cA, 384, .inl (md_z μ.1 384))), (tq, .inl (tA, 3, .inl (md_z μ.2 k)))]) (fun k : Nat => [(1, .int (nI k)), (0, .ref h0)]) ?_ ?_ 0 (by decide) hP hD hS (lv_sub hl [0, 1] rfl)
    · intro k hk ih24 H locs ls hP hD hS hl
      have hP : va_P D vwCl [(h0, .inr (7, [.ref kq, .ref sq, .int kz, .int sz, .int mc, .int gv, .ref cq, .ref tq, .ref rq, .int ri, .int rj, .int bn, .int lf])), (cq, .inl (cA, 384, .inl (md_z μ.1 384))), (tq, .inl (tA, 3, .inl (md_z μ.2 k)))] H := hP
      have hD : va_D A [(h0, .inr (7, [.ref kq, .ref sq, .int kz, .int sz, .int mc, .int gv, .ref cq, .ref tq, .ref rq, .int ri, .int rj, .int bn, .int lf])), (cq, .inl (cA, 384, .inl (md_z μ.1 384))), (tq, .inl (tA, 3, .inl (md_z μ.2 k)))] := hD
      have hl : lv_has ls 2 [(1, .int (nI k)), (0, .ref h0)] := hl
      refine lv_iload_n hx hb dX8_clean_24 rfl (lv_at hl 0 rfl) ?_
      refine lv_iconst (v := 3) hx hb dX8_clean_25 (by decide) ?_
      refine lv_icmp_ge (tgt := 42) hx hb dX8_clean_26 (by decide) (fun hh => absurd hh (nI_ge (b := 3) hk (by decide))) (fun _ => ?_)
      refine lv_aload_n hx hb dX8_clean_29 rfl (lv_at hl 1 rfl) ?_
      refine va_get (D := D) (ci := 7) (v := .ref tq) (C := RX8) (T := TX8) (N := 13) hx hb hts hi_X8 hown hK hP 0 rfl rfl 7 (by decide) hf_23 (fun _ h9 => h9) rfl dX8_clean_30 ?_
      refine lv_iload_n hx hb dX8_clean_33 rfl (lv_at hl 0 rfl) ?_
      refine lv_iconst (v := 0) hx hb dX8_clean_34 (by decide) ?_
      refine va_iast hx hb hK hP hD hS 2 1 rfl rfl (vp_in_nI hk (by decide)) dX8_clean_35 (fun H locs hP hD hS => ?_)
      have hP : va_P D vwCl [(h0, .inr (7, [.ref kq, .ref sq, .int kz, .int sz, .int mc, .int gv, .ref cq, .ref tq, .ref rq, .int ri, .int rj, .int bn, .int lf])), (cq, .inl (cA, 384, .inl (md_z μ.1 384))), (tq, .inl (tA, 3, .inl (upd (md_z μ.2 k) (nI k).toNatClampNeg 0)))] H := hP
      have hD : va_D A [(h0, .inr (7, [.ref kq, .ref sq, .int kz, .int sz, .int mc, .int gv, .ref cq, .ref tq, .ref rq, .int ri, .int rj, .int bn, .int lf])), (cq, .inl (cA, 384, .inl (md_z μ.1 384))), (tq, .inl (tA, 3, .inl (upd (md_z μ.2 k) (nI k).toNatClampNeg 0)))] := hD
      rw [show upd (md_z μ.2 k) (nI k).toNatClampNeg 0 = upd (md_z μ.2 k) k 0 from by rw [nI_clamp (by omega)]] at hP hD
      refine lv_iinc (v := nI (k + 1)) (lv' := [(1, .int (nI (k + 1))), (0, .ref h0)]) hx hb dX8_clean_36 hl (k := 0) rfl (ct_inc k) (by decide) rfl (fun ls hl => ?_)
      refine lv_goto (tgt := 24) hx hb dX8_clean_39 (by decide) ?_
      exact ih24 H locs ls hP hD hS (lv_sub hl [0, 1] rfl)
    · intro H locs ls hP hD hS hl
      have hP : va_P D vwCl [(h0, .inr (7, [.ref kq, .ref sq, .int kz, .int sz, .int mc, .int gv, .ref cq, .ref tq, .ref rq, .int ri, .int rj, .int bn, .int lf])), (cq, .inl (cA, 384, .inl (md_z μ.1 384))), (tq, .inl (tA, 3, .inl (md_z μ.2 3)))] H := hP
      have hD : va_D A [(h0, .inr (7, [.ref kq, .ref sq, .int kz, .int sz, .int mc, .int gv, .ref cq, .ref tq, .ref rq, .int ri, .int rj, .int bn, .int lf])), (cq, .inl (cA, 384, .inl (md_z μ.1 384))), (tq, .inl (tA, 3, .inl (md_z μ.2 3)))] := hD
      have hl : lv_has ls 2 [(1, .int (nI 3)), (0, .ref h0)] := hl
      refine lv_iload_n hx hb dX8_clean_24 rfl (lv_at hl 0 rfl) ?_
      refine lv_iconst (v := 3) hx hb dX8_clean_25 (by decide) ?_
      refine lv_icmp_ge (tgt := 42) hx hb dX8_clean_26 (by decide) (fun _ => ?_) (fun hh => absurd (Int32.le_refl _) hh)
      exact ct_vret hx hb hr hlk hP hK hD hS dX8_clean_42
set_option maxHeartbeats 4000000 in
set_option maxRecDepth 100000 in
/-- Model.s -/
theorem c_md_s (l : Launch) (D : va_G) (h0 kq sq cq tq rq : Nat) (kz sz mc gv ri rj bn lf : Int32) (cA tA : ClassId) (μ : MR) (n : Int32) : Cti l D yX8_s wsX8_s ({ frames := 1, cells := 0, slots := 0, locals := 22 } : Room) [.ref h0, .int n] [(cA, .int), (tA, .int)] [(h0, .inr (7, [.ref kq, .ref sq, .int kz, .int sz, .int mc, .int gv, .ref cq, .ref tq, .ref rq, .int ri, .int rj, .int bn, .int lf])), (cq, .inl (cA, 384, .inl μ.1)), (tq, .inl (tA, 3, .inl μ.2))] [(h0, .inr (7, [.ref kq, .ref sq, .int kz, .int sz, .int mc, .int gv, .ref cq, .ref tq, .ref rq, .int ri, .int rj, .int bn, .int lf])), (cq, .inl (cA, 384, .inl μ.1)), (tq, .inl (tA, 3, .inl μ.2))] (md_s μ n) := by
  refine ct_of (cc := cX8_s) (maxL := 2) (ret := (some .int)) (by decide) rfl (Nat.le_of_ble_eq_true rfl) ?_
  intro p e s m below meth c A H locs ls hx hb hr hml hts hown hlk hnm hF hP hK hD hA hS hl
  have hown : s.vm.findClass RX8 = some m.cls := hown
  have hl : lv_has ls 2 [(0, .ref h0), (1, .int n)] := hl
  have cw_X8_cell := cwV (R := ({ frames := 1, cells := 0, slots := 0, locals := 22 } : Room)) (rm := ({ frames := 0, cells := 0, slots := 0, locals := 0 } : Room)) 2 hts gX8_s_X8_cell rfl rfl rfl (by decide +kernel) ⟨Nat.le_of_ble_eq_true rfl, Nat.le_of_ble_eq_true rfl⟩
  refine lv_iload_n hx hb dX8_s_0 rfl (lv_at hl 1 rfl) ?_
  refine lv_bipush (v := 93) hx hb dX8_s_1 (by decide) ?_
  refine lv_icmp_gt (tgt := 17) hx hb dX8_s_3 (by decide) (fun c_3_1 => ?_) (fun c_3_1 => ?_)
  · refine lv_iload_n hx hb dX8_s_17 rfl (lv_at hl 1 rfl) ?_
    refine lv_sipush (v := 177) hx hb dX8_s_18 (by decide) ?_
    refine lv_icmp_gt (tgt := 36) hx hb dX8_s_21 (by decide) (fun c_21_2 => ?_) (fun c_21_2 => ?_)
    · refine lv_aload_n hx hb dX8_s_36 rfl (lv_at hl 0 rfl) ?_
      refine lv_iconst (v := 2) hx hb dX8_s_37 (by decide) ?_
      refine lv_iload_n hx hb dX8_s_38 rfl (lv_at hl 1 rfl) ?_
      refine lv_sipush (v := 178) hx hb dX8_s_39 (by decide) ?_
      refine lv_isub hx hb dX8_s_42 ?_
      refine ct_callVi (As := [.int 2, .int (n - 178)]) (rest := []) (wr := []) (ws2 := [(h0, .inr (7, [.ref kq, .ref sq, .int kz, .int sz, .int mc, .int gv, .ref cq, .ref tq, .ref rq, .int ri, .int rj, .int bn, .int lf])), (cq, .inl (cA, 384, .inl μ.1)), (tq, .inl (tA, 3, .inl μ.2))]) ⟨hx, hb, hml, hown, hts⟩ (c_md_cell l D h0 kq sq cq tq rq kz sz mc gv ri rj bn lf cA tA μ 2 (by decide) (n - 178)) cw_X8_cell [0, 1] rfl [0, 1, 2] [] [0, 1, 2] hF hK hP hD hS hA 0 7 rfl rfl rfl rfl (by decide) rfl (by decide) (by decide) rfl (by decide) rfl hl.1 rfl (Nat.le_of_ble_eq_true rfl) dX8_s_43 ⟨Nat.zero_le _, Nat.zero_le _⟩ (fun H locs hP hD hS => ?_)
      exact ct_zret hx hb hr hlk hP hK hD hS rfl (by rw [md_s, if_pos c_3_1, if_pos c_21_2]) dX8_s_46
    · refine lv_aload_n hx hb dX8_s_24 rfl (lv_at hl 0 rfl) ?_
      refine lv_iconst (v := 1) hx hb dX8_s_25 (by decide) ?_
      refine lv_iload_n hx hb dX8_s_26 rfl (lv_at hl 1 rfl) ?_
      refine lv_bipush (v := 94) hx hb dX8_s_27 (by decide) ?_
      refine lv_isub hx hb dX8_s_29 ?_
      refine ct_callVi (As := [.int 1, .int (n - 94)]) (rest := []) (wr := []) (ws2 := [(h0, .inr (7, [.ref kq, .ref sq, .int kz, .int sz, .int mc, .int gv, .ref cq, .ref tq, .ref rq, .int ri, .int rj, .int bn, .int lf])), (cq, .inl (cA, 384, .inl μ.1)), (tq, .inl (tA, 3, .inl μ.2))]) ⟨hx, hb, hml, hown, hts⟩ (c_md_cell l D h0 kq sq cq tq rq kz sz mc gv ri rj bn lf cA tA μ 1 (by decide) (n - 94)) cw_X8_cell [0, 1] rfl [0, 1, 2] [] [0, 1, 2] hF hK hP hD hS hA 0 7 rfl rfl rfl rfl (by decide) rfl (by decide) (by decide) rfl (by decide) rfl hl.1 rfl (Nat.le_of_ble_eq_true rfl) dX8_s_30 ⟨Nat.zero_le _, Nat.zero_le _⟩ (fun H locs hP hD hS => ?_)
      refine lv_goto (tgt := 46) hx hb dX8_s_33 (by decide) ?_
      exact ct_zret hx hb hr hlk hP hK hD hS rfl (by rw [md_s, if_pos c_3_1, if_neg c_21_2]) dX8_s_46
  · refine lv_aload_n hx hb dX8_s_6 rfl (lv_at hl 0 rfl) ?_
    refine lv_iconst (v := 0) hx hb dX8_s_7 (by decide) ?_
    refine lv_iload_n hx hb dX8_s_8 rfl (lv_at hl 1 rfl) ?_
    refine lv_iconst (v := 1) hx hb dX8_s_9 (by decide) ?_
    refine lv_isub hx hb dX8_s_10 ?_
    refine ct_callVi (As := [.int 0, .int (n - 1)]) (rest := []) (wr := []) (ws2 := [(h0, .inr (7, [.ref kq, .ref sq, .int kz, .int sz, .int mc, .int gv, .ref cq, .ref tq, .ref rq, .int ri, .int rj, .int bn, .int lf])), (cq, .inl (cA, 384, .inl μ.1)), (tq, .inl (tA, 3, .inl μ.2))]) ⟨hx, hb, hml, hown, hts⟩ (c_md_cell l D h0 kq sq cq tq rq kz sz mc gv ri rj bn lf cA tA μ 0 (by decide) (n - 1)) cw_X8_cell [0, 1] rfl [0, 1, 2] [] [0, 1, 2] hF hK hP hD hS hA 0 7 rfl rfl rfl rfl (by decide) rfl (by decide) (by decide) rfl (by decide) rfl hl.1 rfl (Nat.le_of_ble_eq_true rfl) dX8_s_11 ⟨Nat.zero_le _, Nat.zero_le _⟩ (fun H locs hP hD hS => ?_)
    refine lv_goto (tgt := 46) hx hb dX8_s_14 (by decide) ?_
    exact ct_zret hx hb hr hlk hP hK hD hS rfl (by rw [md_s, if_neg c_3_1]) dX8_s_46
