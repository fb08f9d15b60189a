set_option maxHeartbeats 4000000 in
set_option maxRecDepth 100000 in
/-- Model.key, refused -/
theorem c_md_keyF (l : Launch) (D : va_G) (h0 kq sq cq tq rq : Nat) (sz mc gv ri rj bn lf : Int32) (kA : ClassId) (kz : Nat) (hz : kz ≤ 32) (f : Nat → Int32) (v : Int64) (n : Int32) (hn : ¬ (¬ n < 1 ∧ ¬ 8 < n ∧ nI kz + n ≤ nI 32)) : Cti l D yX8_key wsX8_key ({ frames := 0, cells := 0, slots := 0, locals := 0 } : Room) [.ref h0, .long v, .int n] [(kA, .int)] [(h0, .inr (7, [.ref kq, .ref sq, .int (nI kz), .int sz, .int mc, .int gv, .ref cq, .ref tq, .ref rq, .int ri, .int rj, .int bn, .int lf])), (kq, .inl (kA, 32, .inl f))] [(h0, .inr (7, [.ref kq, .ref sq, .int (nI kz), .int sz, .int mc, .int gv, .ref cq, .ref tq, .ref rq, .int ri, .int rj, .int bn, .int lf])), (kq, .inl (kA, 32, .inl f))] 0 := by
  refine ct_of (cc := cX8_key) (maxL := 5) (ret := (some .boolean)) (by decide) rfl (Nat.le_of_ble_eq_true rfl) ?_
  intro p e s m below meth c A H locs ls hx hb hr hml hts hown hlk hnm hF hP hK hD hA hS hl
  have hown : s.vm.findClass RX8 = some m.cls := hown
  have hl : lv_has ls 5 [(0, .ref h0), (1, .long v), (3, .int n)] := hl
  have hf_29 := hts (.fieldLink RX8 29 "BitStreamsModel" "keySize" "I") (by decide +kernel)
  have hi_X8 : ∀ w ∈ u_ws RX8 TX8 13, w ∈ wsX8_key := by decide +kernel
  refine lv_iload_n hx hb dX8_key_0 rfl (lv_at hl 2 rfl) ?_
  refine lv_iconst (v := 1) hx hb dX8_key_1 (by decide) ?_
  refine lv_icmp_lt (tgt := 22) hx hb dX8_key_2 (by decide) (fun c_2_1 => ?_) (fun c_2_1 => ?_)
  · refine lv_iconst (v := 0) hx hb dX8_key_22 (by decide) ?_
    exact ct_zret hx hb hr hlk hP hK hD hS rfl rfl dX8_key_23
  · refine lv_iload_n hx hb dX8_key_5 rfl (lv_at hl 2 rfl) ?_
    refine lv_bipush (v := 8) hx hb dX8_key_6 (by decide) ?_
    refine lv_icmp_gt (tgt := 22) hx hb dX8_key_8 (by decide) (fun c_8_2 => ?_) (fun c_8_2 => ?_)
    · refine lv_iconst (v := 0) hx hb dX8_key_22 (by decide) ?_
      exact ct_zret hx hb hr hlk hP hK hD hS rfl rfl dX8_key_23
    · refine lv_aload_n hx hb dX8_key_11 rfl (lv_at hl 0 rfl) ?_
      refine va_get (D := D) (ci := 7) (v := .int (nI kz)) (C := RX8) (T := TX8) (N := 13) hx hb hts hi_X8 hown hK hP 0 rfl rfl 2 (by decide) hf_29 (fun _ h9 => h9) rfl dX8_key_12 ?_
      refine lv_iload_n hx hb dX8_key_15 rfl (lv_at hl 2 rfl) ?_
      refine lv_iadd hx hb dX8_key_16 ?_
      refine lv_bipush (v := 32) hx hb dX8_key_17 (by decide) ?_
      refine lv_icmp_le (tgt := 24) hx hb dX8_key_19 (by decide) (fun hh => absurd hh (fun hle => hn ⟨c_2_1, c_8_2, hle⟩)) (fun _ => ?_)
      refine lv_iconst (v := 0) hx hb dX8_key_22 (by decide) ?_
      exact ct_zret hx hb hr hlk hP hK hD hS rfl rfl dX8_key_23
set_option maxHeartbeats 4000000 in
set_option maxRecDepth 100000 in
/-- Model.key, taken -/
theorem c_md_keyT (l : Launch) (D : va_G) (h0 kq sq cq tq rq : Nat) (sz mc gv ri rj bn lf : Int32) (kA : ClassId) (kz : Nat) (hz : kz ≤ 32) (f : Nat → Int32) (v : Int64) (mm : Nat) (hm1 : 1 ≤ mm) (hm8 : mm ≤ 8) (hmN : kz + mm ≤ 32) : Cti l D yX8_key wsX8_key ({ frames := 0, cells := 0, slots := 0, locals := 0 } : Room) [.ref h0, .long v, .int (nI mm)] [(kA, .int)] [(h0, .inr (7, [.ref kq, .ref sq, .int (nI kz), .int sz, .int mc, .int gv, .ref cq, .ref tq, .ref rq, .int ri, .int rj, .int bn, .int lf])), (kq, .inl (kA, 32, .inl f))] [(h0, .inr (7, [.ref kq, .ref sq, .int (nI (kz + mm)), .int sz, .int mc, .int gv, .ref cq, .ref tq, .ref rq, .int ri, .int rj, .int bn, .int lf])), (kq, .inl (kA, 32, .inl (by_app f kz v mm mm)))] 1 := by
  refine ct_of (cc := cX8_key) (maxL := 5) (ret := (some .boolean)) (by decide) rfl (Nat.le_of_ble_eq_true rfl) ?_
  intro p e s m below meth c A H locs ls hx hb hr hml hts hown hlk hnm hF hP hK hD hA hS hl
  have hown : s.vm.findClass RX8 = some m.cls := hown
  have hl : lv_has ls 5 [(0, .ref h0), (1, .long v), (3, .int (nI mm))] := hl
  have hf_29 := hts (.fieldLink RX8 29 "BitStreamsModel" "keySize" "I") (by decide +kernel)
  have hi_X8 : ∀ w ∈ u_ws RX8 TX8 13, w ∈ wsX8_key := by decide +kernel
  have hf_7 := hts (.fieldLink RX8 7 "BitStreamsModel" "key" "[I") (by decide +kernel)
  have hc_32 := hts (.constantLong RX8 32 (255)) (by decide +kernel)
  refine lv_iload_n hx hb dX8_key_0 rfl (lv_at hl 2 rfl) ?_
  refine lv_iconst (v := 1) hx hb dX8_key_1 (by decide) ?_
  refine lv_icmp_lt (tgt := 22) hx hb dX8_key_2 (by decide) (fun hh => absurd hh (nI_nlt (a := mm) (b := 1) hm1 (by omega))) (fun _ => ?_)
  refine lv_iload_n hx hb dX8_key_5 rfl (lv_at hl 2 rfl) ?_
  refine lv_bipush (v := 8) hx hb dX8_key_6 (by decide) ?_
  refine lv_icmp_gt (tgt := 22) hx hb dX8_key_8 (by decide) (fun hh => absurd hh (nI_nlt (a := 8) (b := mm) hm8 (by decide))) (fun _ => ?_)
  refine lv_aload_n hx hb dX8_key_11 rfl (lv_at hl 0 rfl) ?_
  refine va_get (D := D) (ci := 7) (v := .int (nI kz)) (C := RX8) (T := TX8) (N := 13) hx hb hts hi_X8 hown hK hP 0 rfl rfl 2 (by decide) hf_29 (fun _ h9 => h9) rfl dX8_key_12 ?_
  refine lv_iload_n hx hb dX8_key_15 rfl (lv_at hl 2 rfl) ?_
  refine lv_iadd hx hb dX8_key_16 ?_
  refine lv_bipush (v := 32) hx hb dX8_key_17 (by decide) ?_
  refine lv_icmp_le (tgt := 24) hx hb dX8_key_19 (by decide) (fun _ => ?_) (fun hh => absurd (by_le (N := 32) hmN (by decide)) hh)
  refine lv_iload_n hx hb dX8_key_24 rfl (lv_at hl 2 rfl) ?_
  refine lv_iconst (v := 1) hx hb dX8_key_25 (by decide) ?_
  refine lv_isub hx hb dX8_key_26 ?_
  refine lv_istore (lv' := [(4, .int ((nI mm) - 1)), (0, .ref h0), (1, .long v), (3, .int (nI mm))]) hx hb dX8_key_27 hl (by decide) rfl (fun ls hl => ?_)
  have hP : va_P D vwCl [(h0, .inr (7, [.ref kq, .ref sq, .int (nI (kz + (mm - mm))), .int sz, .int mc, .int gv, .ref cq, .ref tq, .ref rq, .int ri, .int rj, .int bn, .int lf])), (kq, .inl (kA, 32, .inl (by_app f kz v mm (mm - mm))))] H := by rw [Nat.sub_self]; exact hP
  have hD : va_D A [(h0, .inr (7, [.ref kq, .ref sq, .int (nI (kz + (mm - mm))), .int sz, .int mc, .int gv, .ref cq, .ref tq, .ref rq, .int ri, .int rj, .int bn, .int lf])), (kq, .inl (kA, 32, .inl (by_app f kz v mm (mm - mm))))] := by rw [Nat.sub_self]; exact hD
  refine ct_down (fun k : Nat => [(h0, .inr (7, [.ref kq, .ref sq, .int (nI (kz + (mm - k))), .int sz, .int mc, .int gv, .ref cq, .ref tq, .ref rq, .int ri, .int rj, .int bn, .int lf])), (kq, .inl (kA, 32, .inl (by_app f kz v mm (mm - k))))]) (fun k : Nat => [(4, .int (nI k - 1)), (0, .ref h0), (1, .long v)]) mm ?_ ?_ hP hD hS (lv_sub hl [0, 1, 2] rfl)
  · intro k hk ih29 H locs ls hP hD hS hl
    have hP : va_P D vwCl [(h0, .inr (7, [.ref kq, .ref sq, .int (nI (kz + (mm - (k + 1)))), .int sz, .int mc, .int gv, .ref cq, .ref tq, .ref rq, .int ri, .int rj, .int bn, .int lf])), (kq, .inl (kA, 32, .inl (by_app f kz v mm (mm - (k + 1)))))] H := hP
    have hD : va_D A [(h0, .inr (7, [.ref kq, .ref sq, .int (nI (kz + (mm - (k + 1)))), .int sz, .int mc, .int gv, .ref cq, .ref tq, .ref rq, .int ri, .int rj, .int bn, .int lf])), (kq, .inl (kA, 32, .inl (by_app f kz v mm (mm - (k + 1)))))] := hD
    have hl : lv_has ls 5 [(4, .int (nI (k + 1) - 1)), (0, .ref h0), (1, .long v)] := hl
    rw [nI_pred] at hl
    have ez : kz + (mm - k) = kz + (mm - (k + 1)) + 1 := by omega
    have em : mm - k = mm - (k + 1) + 1 := by omega
    have ek : k = mm - 1 - (mm - (k + 1)) := by omega
    refine lv_iload hx hb dX8_key_29 (lv_at hl 0 rfl) ?_
    refine lv_if_lt (tgt := 71) hx hb dX8_key_31 (by decide) (fun hh => absurd hh (nI_pos (by omega))) (fun _ => ?_)
    refine lv_aload_n hx hb dX8_key_34 rfl (lv_at hl 1 rfl) ?_
    refine va_get (D := D) (ci := 7) (v := .ref kq) (C := RX8) (T := TX8) (N := 13) hx hb hts hi_X8 hown hK hP 0 rfl rfl 0 (by decide) hf_7 (fun _ h9 => h9) rfl dX8_key_35 ?_
    refine lv_aload_n hx hb dX8_key_38 rfl (lv_at hl 1 rfl) ?_
    refine va_get (D := D) (ci := 7) (v := .int (nI (kz + (mm - (k + 1))))) (C := RX8) (T := TX8) (N := 13) hx hb hts hi_X8 hown hK hP 0 rfl rfl 2 (by decide) hf_29 (fun _ h9 => h9) rfl dX8_key_39 ?_
    refine lv_lload_n hx hb dX8_key_42 rfl (lv_at hl 2 rfl) ?_
    refine lv_bipush (v := 8) hx hb dX8_key_43 (by decide) ?_
    refine lv_iload hx hb dX8_key_45 (lv_at hl 0 rfl) ?_
    refine lv_imul hx hb dX8_key_47 ?_
    refine lv_lshr (v := lR v (8 * (nI k))) hx hb dX8_key_48 rfl ?_
    refine lv_ldc2 (v := (255)) hx hb hown hc_32 dX8_key_49 ?_
    refine lv_land hx hb dX8_key_52 ?_
    refine lv_l2i hx hb dX8_key_53 rfl ?_
    refine ct_topi (y := by_b v k) (md_bt v (by omega)) ?_
    refine va_iast hx hb hK hP hD hS 1 0 rfl rfl (vp_in_nI (by omega) (by decide)) dX8_key_54 (fun H locs hP hD hS => ?_)
    have hP : va_P D vwCl [(h0, .inr (7, [.ref kq, .ref sq, .int (nI (kz + (mm - (k + 1)))), .int sz, .int mc, .int gv, .ref cq, .ref tq, .ref rq, .int ri, .int rj, .int bn, .int lf])), (kq, .inl (kA, 32, .inl (upd (by_app f kz v mm (mm - (k + 1))) (nI (kz + (mm - (k + 1)))).toNatClampNeg (by_b v k))))] H := hP
    have hD : va_D A [(h0, .inr (7, [.ref kq, .ref sq, .int (nI (kz + (mm - (k + 1)))), .int sz, .int mc, .int gv, .ref cq, .ref tq, .ref rq, .int ri, .int rj, .int bn, .int lf])), (kq, .inl (kA, 32, .inl (upd (by_app f kz v mm (mm - (k + 1))) (nI (kz + (mm - (k + 1)))).toNatClampNeg (by_b v k))))] := hD
    rw [show upd (by_app f kz v mm (mm - (k + 1))) (nI (kz + (mm - (k + 1)))).toNatClampNeg (by_b v k) = by_app f kz v mm (mm - k) from by rw [em, by_app, nI_clamp (by omega), ← ek]] at hP hD
    refine lv_aload_n hx hb dX8_key_55 rfl (lv_at hl 1 rfl) ?_
    refine lv_dup hx hb dX8_key_56 rfl ?_
    refine va_get (D := D) (ci := 7) (v := .int (nI (kz + (mm - (k + 1))))) (C := RX8) (T := TX8) (N := 13) hx hb hts hi_X8 hown hK hP 0 rfl rfl 2 (by decide) hf_29 (fun _ h9 => h9) rfl dX8_key_57 ?_
    refine lv_iconst (v := 1) hx hb dX8_key_60 (by decide) ?_
    refine lv_iadd hx hb dX8_key_61 ?_
    refine ct_topi (y := nI (kz + (mm - k))) (by rw [ez]; exact (nI_succ _).symm) ?_
    refine va_put (D := D) (ci := 7) (v := .int (nI (kz + (mm - k)))) (ty := .int) (C := RX8) (T := TX8) (N := 13) hx hb hts hi_X8 tyX8 tyX8_ok nmX8 hown hK hP hD hS 0 rfl rfl 2 (by decide) hf_29 (fun _ h9 => h9) rfl (by decide +kernel) rfl rfl (Nat.le_of_ble_eq_true rfl) dX8_key_62 (fun H locs hP hD hS => ?_)
    have hP : va_P D vwCl [(h0, .inr (7, [.ref kq, .ref sq, .int (nI (kz + (mm - k))), .int sz, .int mc, .int gv, .ref cq, .ref tq, .ref rq, .int ri, .int rj, .int bn, .int lf])), (kq, .inl (kA, 32, .inl (by_app f kz v mm (mm - k))))] H := hP
    have hD : va_D A [(h0, .inr (7, [.ref kq, .ref sq, .int (nI (kz + (mm - k))), .int sz, .int mc, .int gv, .ref cq, .ref tq, .ref rq, .int ri, .int rj, .int bn, .int lf])), (kq, .inl (kA, 32, .inl (by_app f kz v mm (mm - k))))] := hD
    refine lv_iinc (v := nI k - 1) (lv' := [(4, .int (nI k - 1)), (0, .ref h0), (1, .long v)]) hx hb dX8_key_65 hl (k := 0) rfl (ct_dec k) (by decide) rfl (fun ls hl => ?_)
    refine lv_goto (tgt := 29) hx hb dX8_key_68 (by decide) ?_
    exact ih29 H locs ls hP hD hS (lv_sub hl [0, 1, 2] rfl)
  · intro H locs ls hP hD hS hl
    have hP : va_P D vwCl [(h0, .inr (7, [.ref kq, .ref sq, .int (nI (kz + (mm - 0))), .int sz, .int mc, .int gv, .ref cq, .ref tq, .ref rq, .int ri, .int rj, .int bn, .int lf])), (kq, .inl (kA, 32, .inl (by_app f kz v mm (mm - 0))))] H := hP
    have hD : va_D A [(h0, .inr (7, [.ref kq, .ref sq, .int (nI (kz + (mm - 0))), .int sz, .int mc, .int gv, .ref cq, .ref tq, .ref rq, .int ri, .int rj, .int bn, .int lf])), (kq, .inl (kA, 32, .inl (by_app f kz v mm (mm - 0))))] := hD
    have hl : lv_has ls 5 [(4, .int (nI 0 - 1)), (0, .ref h0), (1, .long v)] := hl
    refine lv_iload hx hb dX8_key_29 (lv_at hl 0 rfl) ?_
    refine lv_if_lt (tgt := 71) hx hb dX8_key_31 (by decide) (fun _ => ?_) (fun hh => absurd (by decide) hh)
    refine lv_iconst (v := 1) hx hb dX8_key_71 (by decide) ?_
    exact ct_zret hx hb hr hlk hP hK hD hS rfl rfl dX8_key_72
set_option maxHeartbeats 4000000 in
set_option maxRecDepth 100000 in
/-- Model.start, refused -/
theorem c_md_startF (l : Launch) (D : va_G) (h0 kq sq cq tq rq : Nat) (kz mc gv ri rj bn lf : Int32) (sA : ClassId) (sz : Nat) (hz : sz ≤ 12) (g : Nat → Int32) (v : Int64) (n : Int32) (hn : ¬ (¬ n < 1 ∧ ¬ 8 < n ∧ nI sz + n ≤ nI 12)) : Cti l D yX8_start wsX8_start ({ frames := 0, cells := 0, slots := 0, locals := 0 } : Room) [.ref h0, .long v, .int n] [(sA, .int)] [(h0, .inr (7, [.ref kq, .ref sq, .int kz, .int (nI sz), .int mc, .int gv, .ref cq, .ref tq, .ref rq, .int ri, .int rj, .int bn, .int lf])), (sq, .inl (sA, 12, .inl g))] [(h0, .inr (7, [.ref kq, .ref sq, .int kz, .int (nI sz), .int mc, .int gv, .ref cq, .ref tq, .ref rq, .int ri, .int rj, .int bn, .int lf])), (sq, .inl (sA, 12, .inl g))] 0 := by
  refine ct_of (cc := cX8_start) (maxL := 5) (ret := (some .boolean)) (by decide) rfl (Nat.le_of_ble_eq_true rfl) ?_
  intro p e s m below meth c A H locs ls hx hb hr hml hts hown hlk hnm hF hP hK hD hA hS hl
  have hown : s.vm.findClass RX8 = some m.cls := hown
  have hl : lv_has ls 5 [(0, .ref h0), (1, .long v), (3, .int n)] := hl
  have hf_34 := hts (.fieldLink RX8 34 "BitStreamsModel" "startSize" "I") (by decide +kernel)
  have hi_X8 : ∀ w ∈ u_ws RX8 TX8 13, w ∈ wsX8_start := by decide +kernel
  refine lv_iload_n hx hb dX8_start_0 rfl (lv_at hl 2 rfl) ?_
  refine lv_iconst (v := 1) hx hb dX8_start_1 (by decide) ?_
  refine lv_icmp_lt (tgt := 22) hx hb dX8_start_2 (by decide) (fun c_2_1 => ?_) (fun c_2_1 => ?_)
  · refine lv_iconst (v := 0) hx hb dX8_start_22 (by decide) ?_
    exact ct_zret hx hb hr hlk hP hK hD hS rfl rfl dX8_start_23
  · refine lv_iload_n hx hb dX8_start_5 rfl (lv_at hl 2 rfl) ?_
    refine lv_bipush (v := 8) hx hb dX8_start_6 (by decide) ?_
    refine lv_icmp_gt (tgt := 22) hx hb dX8_start_8 (by decide) (fun c_8_2 => ?_) (fun c_8_2 => ?_)
    · refine lv_iconst (v := 0) hx hb dX8_start_22 (by decide) ?_
      exact ct_zret hx hb hr hlk hP hK hD hS rfl rfl dX8_start_23
    · refine lv_aload_n hx hb dX8_start_11 rfl (lv_at hl 0 rfl) ?_
      refine va_get (D := D) (ci := 7) (v := .int (nI sz)) (C := RX8) (T := TX8) (N := 13) hx hb hts hi_X8 hown hK hP 0 rfl rfl 3 (by decide) hf_34 (fun _ h9 => h9) rfl dX8_start_12 ?_
      refine lv_iload_n hx hb dX8_start_15 rfl (lv_at hl 2 rfl) ?_
      refine lv_iadd hx hb dX8_start_16 ?_
      refine lv_bipush (v := 12) hx hb dX8_start_17 (by decide) ?_
      refine lv_icmp_le (tgt := 24) hx hb dX8_start_19 (by decide) (fun hh => absurd hh (fun hle => hn ⟨c_2_1, c_8_2, hle⟩)) (fun _ => ?_)
      refine lv_iconst (v := 0) hx hb dX8_start_22 (by decide) ?_
      exact ct_zret hx hb hr hlk hP hK hD hS rfl rfl dX8_start_23
set_option maxHeartbeats 4000000 in
set_option maxRecDepth 100000 in
/-- Model.start, taken -/
theorem c_md_startT (l : Launch) (D : va_G) (h0 kq sq cq tq rq : Nat) (kz mc gv ri rj bn lf : Int32) (sA : ClassId) (sz : Nat) (hz : sz ≤ 12) (g : Nat → Int32) (v : Int64) (mm : Nat) (hm1 : 1 ≤ mm) (hm8 : mm ≤ 8) (hmN : sz + mm ≤ 12) : Cti l D yX8_start wsX8_start ({ frames := 0, cells := 0, slots := 0, locals := 0 } : Room) [.ref h0, .long v, .int (nI mm)] [(sA, .int)] [(h0, .inr (7, [.ref kq, .ref sq, .int kz, .int (nI sz), .int mc, .int gv, .ref cq, .ref tq, .ref rq, .int ri, .int rj, .int bn, .int lf])), (sq, .inl (sA, 12, .inl g))] [(h0, .inr (7, [.ref kq, .ref sq, .int kz, .int (nI (sz + mm)), .int mc, .int gv, .ref cq, .ref tq, .ref rq, .int ri, .int rj, .int bn, .int lf])), (sq, .inl (sA, 12, .inl (by_app g sz v mm mm)))] 1 := by
  refine ct_of (cc := cX8_start) (maxL := 5) (ret := (some .boolean)) (by decide) rfl (Nat.le_of_ble_eq_true rfl) ?_
  intro p e s m below meth c A H locs ls hx hb hr hml hts hown hlk hnm hF hP hK hD hA hS hl
  have hown : s.vm.findClass RX8 = some m.cls := hown
  have hl : lv_has ls 5 [(0, .ref h0), (1, .long v), (3, .int (nI mm))] := hl
  have hf_34 := hts (.fieldLink RX8 34 "BitStreamsModel" "startSize" "I") (by decide +kernel)
  have hi_X8 : ∀ w ∈ u_ws RX8 TX8 13, w ∈ wsX8_start := by decide +kernel
  have hf_13 := hts (.fieldLink RX8 13 "BitStreamsModel" "start" "[I") (by decide +kernel)
  have hc_32 := hts (.constantLong RX8 32 (255)) (by decide +kernel)
  refine lv_iload_n hx hb dX8_start_0 rfl (lv_at hl 2 rfl) ?_
  refine lv_iconst (v := 1) hx hb dX8_start_1 (by decide) ?_
  refine lv_icmp_lt (tgt := 22) hx hb dX8_start_2 (by decide) (fun hh => absurd hh (nI_nlt (a := mm) (b := 1) hm1 (by omega))) (fun _ => ?_)
  refine lv_iload_n hx hb dX8_start_5 rfl (lv_at hl 2 rfl) ?_
  refine lv_bipush (v := 8) hx hb dX8_start_6 (by decide) ?_
  refine lv_icmp_gt (tgt := 22) hx hb dX8_start_8 (by decide) (fun hh => absurd hh (nI_nlt (a := 8) (b := mm) hm8 (by decide))) (fun _ => ?_)
  refine lv_aload_n hx hb dX8_start_11 rfl (lv_at hl 0 rfl) ?_
  refine va_get (D := D) (ci := 7) (v := .int (nI sz)) (C := RX8) (T := TX8) (N := 13) hx hb hts hi_X8 hown hK hP 0 rfl rfl 3 (by decide) hf_34 (fun _ h9 => h9) rfl dX8_start_12 ?_
  refine lv_iload_n hx hb dX8_start_15 rfl (lv_at hl 2 rfl) ?_
  refine lv_iadd hx hb dX8_start_16 ?_
  refine lv_bipush (v := 12) hx hb dX8_start_17 (by decide) ?_
  refine lv_icmp_le (tgt := 24) hx hb dX8_start_19 (by decide) (fun _ => ?_) (fun hh => absurd (by_le (N := 12) hmN (by decide)) hh)
  refine lv_iload_n hx hb dX8_start_24 rfl (lv_at hl 2 rfl) ?_
  refine lv_iconst (v := 1) hx hb dX8_start_25 (by decide) ?_
  refine lv_isub hx hb dX8_start_26 ?_
  refine lv_istore (lv' := [(4, .int ((nI mm) - 1)), (0, .ref h0), (1, .long v), (3, .int (nI mm))]) hx hb dX8_start_27 hl (by decide) rfl (fun ls hl => ?_)
  have hP : va_P D vwCl [(h0, .inr (7, [.ref kq, .ref sq, .int kz, .int (nI (sz + (mm - mm))), .int mc, .int gv, .ref cq, .ref tq, .ref rq, .int ri, .int rj, .int bn, .int lf])), (sq, .inl (sA, 12, .inl (by_app g sz v mm (mm - mm))))] H := by rw [Nat.sub_self]; exact hP
  have hD : va_D A [(h0, .inr (7, [.ref kq, .ref sq, .int kz, .int (nI (sz + (mm - mm))), .int mc, .int gv, .ref cq, .ref tq, .ref rq, .int ri, .int rj, .int bn, .int lf])), (sq, .inl (sA, 12, .inl (by_app g sz v mm (mm - mm))))] := by rw [Nat.sub_self]; exact hD
  refine ct_down (fun k : Nat => [(h0, .inr (7, [.ref kq, .ref sq, .int kz, .int (nI (sz + (mm - k))), .int mc, .int gv, .ref cq, .ref tq, .ref rq, .int ri, .int rj, .int bn, .int lf])), (sq, .inl (sA, 12, .inl (by_app g sz v mm (mm - k))))]) (fun k : Nat => [(4, .int (nI k - 1)), (0, .ref h0), (1, .long v)]) mm ?_ ?_ hP hD hS (lv_sub hl [0, 1, 2] rfl)
  · intro k hk ih29 H locs ls hP hD hS hl
    have hP : va_P D vwCl [(h0, .inr (7, [.ref kq, .ref sq, .int kz, .int (nI (sz + (mm - (k + 1)))), .int mc, .int gv, .ref cq, .ref tq, .ref rq, .int ri, .int rj, .int bn, .int lf])), (sq, .inl (sA, 12, .inl (by_app g sz v mm (mm - (k + 1)))))] H := hP
    have hD : va_D A [(h0, .inr (7, [.ref kq, .ref sq, .int kz, .int (nI (sz + (mm - (k + 1)))), .int mc, .int gv, .ref cq, .ref tq, .ref rq, .int ri, .int rj, .int bn, .int lf])), (sq, .inl (sA, 12, .inl (by_app g sz v mm (mm - (k + 1)))))] := hD
    have hl : lv_has ls 5 [(4, .int (nI (k + 1) - 1)), (0, .ref h0), (1, .long v)] := hl
    rw [nI_pred] at hl
    have ez : sz + (mm - k) = sz + (mm - (k + 1)) + 1 := by omega
    have em : mm - k = mm - (k + 1) + 1 := by omega
    have ek : k = mm - 1 - (mm - (k + 1)) := by omega
    refine lv_iload hx hb dX8_start_29 (lv_at hl 0 rfl) ?_
    refine lv_if_lt (tgt := 71) hx hb dX8_start_31 (by decide) (fun hh => absurd hh (nI_pos (by omega))) (fun _ => ?_)
    refine lv_aload_n hx hb dX8_start_34 rfl (lv_at hl 1 rfl) ?_
    refine va_get (D := D) (ci := 7) (v := .ref sq) (C := RX8) (T := TX8) (N := 13) hx hb hts hi_X8 hown hK hP 0 rfl rfl 1 (by decide) hf_13 (fun _ h9 => h9) rfl dX8_start_35 ?_
    refine lv_aload_n hx hb dX8_start_38 rfl (lv_at hl 1 rfl) ?_
    refine va_get (D := D) (ci := 7) (v := .int (nI (sz + (mm - (k + 1))))) (C := RX8) (T := TX8) (N := 13) hx hb hts hi_X8 hown hK hP 0 rfl rfl 3 (by decide) hf_34 (fun _ h9 => h9) rfl dX8_start_39 ?_
    refine lv_lload_n hx hb dX8_start_42 rfl (lv_at hl 2 rfl) ?_
    refine lv_bipush (v := 8) hx hb dX8_start_43 (by decide) ?_
    refine lv_iload hx hb dX8_start_45 (lv_at hl 0 rfl) ?_
    refine lv_imul hx hb dX8_start_47 ?_
    refine lv_lshr (v := lR v (8 * (nI k))) hx hb dX8_start_48 rfl ?_
    refine lv_ldc2 (v := (255)) hx hb hown hc_32 dX8_start_49 ?_
    refine lv_land hx hb dX8_start_52 ?_
    refine lv_l2i hx hb dX8_start_53 rfl ?_
    refine ct_topi (y := by_b v k) (md_bt v (by omega)) ?_
    refine va_iast hx hb hK hP hD hS 1 0 rfl rfl (vp_in_nI (by omega) (by decide)) dX8_start_54 (fun H locs hP hD hS => ?_)
    have hP : va_P D vwCl [(h0, .inr (7, [.ref kq, .ref sq, .int kz, .int (nI (sz + (mm - (k + 1)))), .int mc, .int gv, .ref cq, .ref tq, .ref rq, .int ri, .int rj, .int bn, .int lf])), (sq, .inl (sA, 12, .inl (upd (by_app g sz v mm (mm - (k + 1))) (nI (sz + (mm - (k + 1)))).toNatClampNeg (by_b v k))))] H := hP
    have hD : va_D A [(h0, .inr (7, [.ref kq, .ref sq, .int kz, .int (nI (sz + (mm - (k + 1)))), .int mc, .int gv, .ref cq, .ref tq, .ref rq, .int ri, .int rj, .int bn, .int lf])), (sq, .inl (sA, 12, .inl (upd (by_app g sz v mm (mm - (k + 1))) (nI (sz + (mm - (k + 1)))).toNatClampNeg (by_b v k))))] := hD
    rw [show upd (by_app g sz v mm (mm - (k + 1))) (nI (sz + (mm - (k + 1)))).toNatClampNeg (by_b v k) = by_app g sz v mm (mm - k) from by rw [em, by_app, nI_clamp (by omega), ← ek]] at hP hD
    refine lv_aload_n hx hb dX8_start_55 rfl (lv_at hl 1 rfl) ?_
    refine lv_dup hx hb dX8_start_56 rfl ?_
    refine va_get (D := D) (ci := 7) (v := .int (nI (sz + (mm - (k + 1))))) (C := RX8) (T := TX8) (N := 13) hx hb hts hi_X8 hown hK hP 0 rfl rfl 3 (by decide) hf_34 (fun _ h9 => h9) rfl dX8_start_57 ?_
    refine lv_iconst (v := 1) hx hb dX8_start_60 (by decide) ?_
    refine lv_iadd hx hb dX8_start_61 ?_
    refine ct_topi (y := nI (sz + (mm - k))) (by rw [ez]; exact (nI_succ _).symm) ?_
    refine va_put (D := D) (ci := 7) (v := .int (nI (sz + (mm - k)))) (ty := .int) (C := RX8) (T := TX8) (N := 13) hx hb hts hi_X8 tyX8 tyX8_ok nmX8 hown hK hP hD hS 0 rfl rfl 3 (by decide) hf_34 (fun _ h9 => h9) rfl (by decide +kernel) rfl rfl (Nat.le_of_ble_eq_true rfl) dX8_start_62 (fun H locs hP hD hS => ?_)
    have hP : va_P D vwCl [(h0, .inr (7, [.ref kq, .ref sq, .int kz, .int (nI (sz + (mm - k))), .int mc, .int gv, .ref cq, .ref tq, .ref rq, .int ri, .int rj, .int bn, .int lf])), (sq, .inl (sA, 12, .inl (by_app g sz v mm (mm - k))))] H := hP
    have hD : va_D A [(h0, .inr (7, [.ref kq, .ref sq, .int kz, .int (nI (sz + (mm - k))), .int mc, .int gv, .ref cq, .ref tq, .ref rq, .int ri, .int rj, .int bn, .int lf])), (sq, .inl (sA, 12, .inl (by_app g sz v mm (mm - k))))] := hD
    refine lv_iinc (v := nI k - 1) (lv' := [(4, .int (nI k - 1)), (0, .ref h0), (1, .long v)]) hx hb dX8_start_65 hl (k := 0) rfl (ct_dec k) (by decide) rfl (fun ls hl => ?_)
    refine lv_goto (tgt := 29) hx hb dX8_start_68 (by decide) ?_
    exact ih29 H locs ls hP hD hS (lv_sub hl [0, 1, 2] rfl)
  · intro H locs ls hP hD hS hl
    have hP : va_P D vwCl [(h0, .inr (7, [.ref kq, .ref sq, .int kz, .int (nI (sz + (mm - 0))), .int mc, .int gv, .ref cq, .ref tq, .ref rq, .int ri, .int rj, .int bn, .int lf])), (sq, .inl (sA, 12, .inl (by_app g sz v mm (mm - 0))))] H := hP
    have hD : va_D A [(h0, .inr (7, [.ref kq, .ref sq, .int kz, .int (nI (sz + (mm - 0))), .int mc, .int gv, .ref cq, .ref tq, .ref rq, .int ri, .int rj, .int bn, .int lf])), (sq, .inl (sA, 12, .inl (by_app g sz v mm (mm - 0))))] := hD
    have hl : lv_has ls 5 [(4, .int (nI 0 - 1)), (0, .ref h0), (1, .long v)] := hl
    refine lv_iload hx hb dX8_start_29 (lv_at hl 0 rfl) ?_
    refine lv_if_lt (tgt := 71) hx hb dX8_start_31 (by decide) (fun _ => ?_) (fun hh => absurd (by decide) hh)
    refine lv_iconst (v := 1) hx hb dX8_start_71 (by decide) ?_
    exact ct_zret hx hb hr hlk hP hK hD hS rfl rfl dX8_start_72
set_option maxHeartbeats 4000000 in
set_option maxRecDepth 100000 in
/-- Model.count -/
theorem c_md_count (l : Launch) (D : va_G) (h0 kq sq cq tq rq : Nat) (kz sz mc gv ri rj bn lf : Int32) (w : Int32) : Cti l D yX8_count wsX8_count ({ frames := 0, cells := 0, slots := 0, locals := 0 } : Room) [.ref h0, .int w] [] [(h0, .inr (7, [.ref kq, .ref sq, .int kz, .int sz, .int mc, .int gv, .ref cq, .ref tq, .ref rq, .int ri, .int rj, .int bn, .int lf]))] [(h0, .inr (7, [.ref kq, .ref sq, .int kz, .int sz, .int mc, .int gv, .ref cq, .ref tq, .ref rq, .int ri, .int rj, .int bn, .int lf]))] (bs_count kz sz mc gv w) := by
  refine ct_of (cc := cX8_count) (maxL := 2) (ret := (some .int)) (by decide) rfl (Nat.le_of_ble_eq_true rfl) ?_
  intro p e s m below meth c A H locs ls hx hb hr hml hts hown hlk hnm hF hP hK hD hA hS hl
  have hown : s.vm.findClass RX8 = some m.cls := hown
  have hl : lv_has ls 2 [(0, .ref h0), (1, .int w)] := hl
  have hf_79 := hts (.fieldLink RX8 79 "BitStreamsModel" "given" "I") (by decide +kernel)
  have hi_X8 : ∀ w ∈ u_ws RX8 TX8 13, w ∈ wsX8_count := by decide +kernel
  have hf_16 := hts (.fieldLink RX8 16 "BitStreamsModel" "machine" "I") (by decide +kernel)
  have hf_34 := hts (.fieldLink RX8 34 "BitStreamsModel" "startSize" "I") (by decide +kernel)
  have hf_29 := hts (.fieldLink RX8 29 "BitStreamsModel" "keySize" "I") (by decide +kernel)
  refine lv_iload_n hx hb dX8_count_0 rfl (lv_at hl 1 rfl) ?_
  refine lv_if_ne (tgt := 11) hx hb dX8_count_1 (by decide) (fun c_1_1 => ?_) (fun c_1_1 => ?_)
  · refine lv_iload_n hx hb dX8_count_11 rfl (lv_at hl 1 rfl) ?_
    refine lv_iconst (v := 1) hx hb dX8_count_12 (by decide) ?_
    refine lv_icmp_ne (tgt := 23) hx hb dX8_count_13 (by decide) (fun c_13_2 => ?_) (fun c_13_2 => ?_)
    · refine lv_iload_n hx hb dX8_count_23 rfl (lv_at hl 1 rfl) ?_
      refine lv_iconst (v := 2) hx hb dX8_count_24 (by decide) ?_
      refine lv_icmp_ne (tgt := 35) hx hb dX8_count_25 (by decide) (fun c_25_3 => ?_) (fun c_25_3 => ?_)
      · refine lv_iload_n hx hb dX8_count_35 rfl (lv_at hl 1 rfl) ?_
        refine lv_iconst (v := 3) hx hb dX8_count_36 (by decide) ?_
        refine lv_icmp_ne (tgt := 47) hx hb dX8_count_37 (by decide) (fun c_37_4 => ?_) (fun c_37_4 => ?_)
        · refine lv_iconst (v := (-1)) hx hb dX8_count_47 (by decide) ?_
          exact ct_zret hx hb hr hlk hP hK hD hS rfl (by rw [bs_count, if_neg c_1_1, if_neg c_13_2, if_neg c_25_3, if_neg c_37_4]) dX8_count_48
        · refine lv_aload_n hx hb dX8_count_40 rfl (lv_at hl 0 rfl) ?_
          refine va_get (D := D) (ci := 7) (v := .int gv) (C := RX8) (T := TX8) (N := 13) hx hb hts hi_X8 hown hK hP 0 rfl rfl 5 (by decide) hf_79 (fun _ h9 => h9) rfl dX8_count_41 ?_
          refine lv_goto (tgt := 48) hx hb dX8_count_44 (by decide) ?_
          exact ct_zret hx hb hr hlk hP hK hD hS rfl (by rw [bs_count, if_neg c_1_1, if_neg c_13_2, if_neg c_25_3, if_pos c_37_4]) dX8_count_48
      · refine lv_aload_n hx hb dX8_count_28 rfl (lv_at hl 0 rfl) ?_
        refine va_get (D := D) (ci := 7) (v := .int mc) (C := RX8) (T := TX8) (N := 13) hx hb hts hi_X8 hown hK hP 0 rfl rfl 4 (by decide) hf_16 (fun _ h9 => h9) rfl dX8_count_29 ?_
        refine lv_goto (tgt := 48) hx hb dX8_count_32 (by decide) ?_
        exact ct_zret hx hb hr hlk hP hK hD hS rfl (by rw [bs_count, if_neg c_1_1, if_neg c_13_2, if_pos c_25_3]) dX8_count_48
    · refine lv_aload_n hx hb dX8_count_16 rfl (lv_at hl 0 rfl) ?_
      refine va_get (D := D) (ci := 7) (v := .int sz) (C := RX8) (T := TX8) (N := 13) hx hb hts hi_X8 hown hK hP 0 rfl rfl 3 (by decide) hf_34 (fun _ h9 => h9) rfl dX8_count_17 ?_
      refine lv_goto (tgt := 48) hx hb dX8_count_20 (by decide) ?_
      exact ct_zret hx hb hr hlk hP hK hD hS rfl (by rw [bs_count, if_neg c_1_1, if_pos c_13_2]) dX8_count_48
  · refine lv_aload_n hx hb dX8_count_4 rfl (lv_at hl 0 rfl) ?_
    refine va_get (D := D) (ci := 7) (v := .int kz) (C := RX8) (T := TX8) (N := 13) hx hb hts hi_X8 hown hK hP 0 rfl rfl 2 (by decide) hf_29 (fun _ h9 => h9) rfl dX8_count_5 ?_
    refine lv_goto (tgt := 48) hx hb dX8_count_8 (by decide) ?_
    exact ct_zret hx hb hr hlk hP hK hD hS rfl (by rw [bs_count, if_pos c_1_1]) dX8_count_48
set_option maxHeartbeats 4000000 in
set_option maxRecDepth 100000 in
/-- Model.fits -/
theorem c_md_fits0 (l : Launch) (D : va_G) (h0 kq sq cq tq rq : Nat) (kz sz mc gv ri rj bn lf : Int32) : Cti l D yX8_fits wsX8_fits ({ frames := 0, cells := 0, slots := 0, locals := 0 } : Room) [.ref h0, .int 0] [] [(h0, .inr (7, [.ref kq, .ref sq, .int kz, .int sz, .int mc, .int gv, .ref cq, .ref tq, .ref rq, .int ri, .int rj, .int bn, .int lf]))] [(h0, .inr (7, [.ref kq, .ref sq, .int kz, .int sz, .int mc, .int gv, .ref cq, .ref tq, .ref rq, .int ri, .int rj, .int bn, .int lf]))] (tk 10 10 kz sz) := by
  refine ct_of (cc := cX8_fits) (maxL := 2) (ret := (some .boolean)) (by decide) rfl (Nat.le_of_ble_eq_true rfl) ?_
  intro p e s m below meth c A H locs ls hx hb hr hml hts hown hlk hnm hF hP hK hD hA hS hl
  have hown : s.vm.findClass RX8 = some m.cls := hown
  have hl : lv_has ls 2 [(0, .ref h0), (1, .int 0)] := hl
  have hf_29 := hts (.fieldLink RX8 29 "BitStreamsModel" "keySize" "I") (by decide +kernel)
  have hi_X8 : ∀ w ∈ u_ws RX8 TX8 13, w ∈ wsX8_fits := by decide +kernel
  have hf_34 := hts (.fieldLink RX8 34 "BitStreamsModel" "startSize" "I") (by decide +kernel)
  refine lv_iload_n hx hb dX8_fits_0 rfl (lv_at hl 1 rfl) ?_
  refine lv_if_ne (tgt := 30) hx hb dX8_fits_1 (by decide) (fun hh => absurd (by decide) hh) (fun _ => ?_)
  refine lv_aload_n hx hb dX8_fits_4 rfl (lv_at hl 0 rfl) ?_
  refine va_get (D := D) (ci := 7) (v := .int kz) (C := RX8) (T := TX8) (N := 13) hx hb hts hi_X8 hown hK hP 0 rfl rfl 2 (by decide) hf_29 (fun _ h9 => h9) rfl dX8_fits_5 ?_
  refine lv_bipush (v := 10) hx hb dX8_fits_8 (by decide) ?_
  refine lv_icmp_ne (tgt := 26) hx hb dX8_fits_10 (by decide) (fun c_10_1 => ?_) (fun c_10_1 => ?_)
  · refine lv_iconst (v := 0) hx hb dX8_fits_26 (by decide) ?_
    refine lv_goto (tgt := 116) hx hb dX8_fits_27 (by decide) ?_
    exact ct_zret hx hb hr hlk hP hK hD hS rfl (by rw [tk, if_pos c_10_1]) dX8_fits_116
  · refine lv_aload_n hx hb dX8_fits_13 rfl (lv_at hl 0 rfl) ?_
    refine va_get (D := D) (ci := 7) (v := .int sz) (C := RX8) (T := TX8) (N := 13) hx hb hts hi_X8 hown hK hP 0 rfl rfl 3 (by decide) hf_34 (fun _ h9 => h9) rfl dX8_fits_14 ?_
    refine lv_bipush (v := 10) hx hb dX8_fits_17 (by decide) ?_
    refine lv_icmp_ne (tgt := 26) hx hb dX8_fits_19 (by decide) (fun c_19_2 => ?_) (fun c_19_2 => ?_)
    · refine lv_iconst (v := 0) hx hb dX8_fits_26 (by decide) ?_
      refine lv_goto (tgt := 116) hx hb dX8_fits_27 (by decide) ?_
      exact ct_zret hx hb hr hlk hP hK hD hS rfl (by rw [tk, if_neg (not_not_intro c_10_1), if_pos c_19_2]) dX8_fits_116
    · refine lv_iconst (v := 1) hx hb dX8_fits_22 (by decide) ?_
      refine lv_goto (tgt := 116) hx hb dX8_fits_23 (by decide) ?_
      exact ct_zret hx hb hr hlk hP hK hD hS rfl (by rw [tk, if_neg (not_not_intro c_10_1), if_neg (not_not_intro c_19_2)]) dX8_fits_116
set_option maxHeartbeats 4000000 in
set_option maxRecDepth 100000 in
/-- Model.fits -/
theorem c_md_fits1 (l : Launch) (D : va_G) (h0 kq sq cq tq rq : Nat) (kz sz mc gv ri rj bn lf : Int32) : Cti l D yX8_fits wsX8_fits ({ frames := 0, cells := 0, slots := 0, locals := 0 } : Room) [.ref h0, .int 1] [] [(h0, .inr (7, [.ref kq, .ref sq, .int kz, .int sz, .int mc, .int gv, .ref cq, .ref tq, .ref rq, .int ri, .int rj, .int bn, .int lf]))] [(h0, .inr (7, [.ref kq, .ref sq, .int kz, .int sz, .int mc, .int gv, .ref cq, .ref tq, .ref rq, .int ri, .int rj, .int bn, .int lf]))] (tk 16 12 kz sz) := by
  refine ct_of (cc := cX8_fits) (maxL := 2) (ret := (some .boolean)) (by decide) rfl (Nat.le_of_ble_eq_true rfl) ?_
  intro p e s m below meth c A H locs ls hx hb hr hml hts hown hlk hnm hF hP hK hD hA hS hl
  have hown : s.vm.findClass RX8 = some m.cls := hown
  have hl : lv_has ls 2 [(0, .ref h0), (1, .int 1)] := hl
  have hf_29 := hts (.fieldLink RX8 29 "BitStreamsModel" "keySize" "I") (by decide +kernel)
  have hi_X8 : ∀ w ∈ u_ws RX8 TX8 13, w ∈ wsX8_fits := by decide +kernel
  have hf_34 := hts (.fieldLink RX8 34 "BitStreamsModel" "startSize" "I") (by decide +kernel)
  refine lv_iload_n hx hb dX8_fits_0 rfl (lv_at hl 1 rfl) ?_
  refine lv_if_ne (tgt := 30) hx hb dX8_fits_1 (by decide) (fun _ => ?_) (fun hh => absurd hh (by decide))
  refine lv_iload_n hx hb dX8_fits_30 rfl (lv_at hl 1 rfl) ?_
  refine lv_iconst (v := 1) hx hb dX8_fits_31 (by decide) ?_
  refine lv_icmp_ne (tgt := 61) hx hb dX8_fits_32 (by decide) (fun hh => absurd (by decide) hh) (fun _ => ?_)
  refine lv_aload_n hx hb dX8_fits_35 rfl (lv_at hl 0 rfl) ?_
  refine va_get (D := D) (ci := 7) (v := .int kz) (C := RX8) (T := TX8) (N := 13) hx hb hts hi_X8 hown hK hP 0 rfl rfl 2 (by decide) hf_29 (fun _ h9 => h9) rfl dX8_fits_36 ?_
  refine lv_bipush (v := 16) hx hb dX8_fits_39 (by decide) ?_
  refine lv_icmp_ne (tgt := 57) hx hb dX8_fits_41 (by decide) (fun c_41_1 => ?_) (fun c_41_1 => ?_)
  · refine lv_iconst (v := 0) hx hb dX8_fits_57 (by decide) ?_
    refine lv_goto (tgt := 116) hx hb dX8_fits_58 (by decide) ?_
    exact ct_zret hx hb hr hlk hP hK hD hS rfl (by rw [tk, if_pos c_41_1]) dX8_fits_116
  · refine lv_aload_n hx hb dX8_fits_44 rfl (lv_at hl 0 rfl) ?_
    refine va_get (D := D) (ci := 7) (v := .int sz) (C := RX8) (T := TX8) (N := 13) hx hb hts hi_X8 hown hK hP 0 rfl rfl 3 (by decide) hf_34 (fun _ h9 => h9) rfl dX8_fits_45 ?_
    refine lv_bipush (v := 12) hx hb dX8_fits_48 (by decide) ?_
    refine lv_icmp_ne (tgt := 57) hx hb dX8_fits_50 (by decide) (fun c_50_2 => ?_) (fun c_50_2 => ?_)
    · refine lv_iconst (v := 0) hx hb dX8_fits_57 (by decide) ?_
      refine lv_goto (tgt := 116) hx hb dX8_fits_58 (by decide) ?_
      exact ct_zret hx hb hr hlk hP hK hD hS rfl (by rw [tk, if_neg (not_not_intro c_41_1), if_pos c_50_2]) dX8_fits_116
    · refine lv_iconst (v := 1) hx hb dX8_fits_53 (by decide) ?_
      refine lv_goto (tgt := 116) hx hb dX8_fits_54 (by decide) ?_
      exact ct_zret hx hb hr hlk hP hK hD hS rfl (by rw [tk, if_neg (not_not_intro c_41_1), if_neg (not_not_intro c_50_2)]) dX8_fits_116
set_option maxHeartbeats 4000000 in
set_option maxRecDepth 100000 in
/-- Model.fits -/
theorem c_md_fits2 (l : Launch) (D : va_G) (h0 kq sq cq tq rq : Nat) (kz sz mc gv ri rj bn lf : Int32) : Cti l D yX8_fits wsX8_fits ({ frames := 0, cells := 0, slots := 0, locals := 0 } : Room) [.ref h0, .int 2] [] [(h0, .inr (7, [.ref kq, .ref sq, .int kz, .int sz, .int mc, .int gv, .ref cq, .ref tq, .ref rq, .int ri, .int rj, .int bn, .int lf]))] [(h0, .inr (7, [.ref kq, .ref sq, .int kz, .int sz, .int mc, .int gv, .ref cq, .ref tq, .ref rq, .int ri, .int rj, .int bn, .int lf]))] (tk 8 3 kz sz) := by
  refine ct_of (cc := cX8_fits) (maxL := 2) (ret := (some .boolean)) (by decide) rfl (Nat.le_of_ble_eq_true rfl) ?_
  intro p e s m below meth c A H locs ls hx hb hr hml hts hown hlk hnm hF hP hK hD hA hS hl
  have hown : s.vm.findClass RX8 = some m.cls := hown
  have hl : lv_has ls 2 [(0, .ref h0), (1, .int 2)] := hl
  have hf_29 := hts (.fieldLink RX8 29 "BitStreamsModel" "keySize" "I") (by decide +kernel)
  have hi_X8 : ∀ w ∈ u_ws RX8 TX8 13, w ∈ wsX8_fits := by decide +kernel
  have hf_34 := hts (.fieldLink RX8 34 "BitStreamsModel" "startSize" "I") (by decide +kernel)
  refine lv_iload_n hx hb dX8_fits_0 rfl (lv_at hl 1 rfl) ?_
  refine lv_if_ne (tgt := 30) hx hb dX8_fits_1 (by decide) (fun _ => ?_) (fun hh => absurd hh (by decide))
  refine lv_iload_n hx hb dX8_fits_30 rfl (lv_at hl 1 rfl) ?_
  refine lv_iconst (v := 1) hx hb dX8_fits_31 (by decide) ?_
  refine lv_icmp_ne (tgt := 61) hx hb dX8_fits_32 (by decide) (fun _ => ?_) (fun hh => absurd hh (by decide))
  refine lv_iload_n hx hb dX8_fits_61 rfl (lv_at hl 1 rfl) ?_
  refine lv_iconst (v := 2) hx hb dX8_fits_62 (by decide) ?_
  refine lv_icmp_ne (tgt := 91) hx hb dX8_fits_63 (by decide) (fun hh => absurd (by decide) hh) (fun _ => ?_)
  refine lv_aload_n hx hb dX8_fits_66 rfl (lv_at hl 0 rfl) ?_
  refine va_get (D := D) (ci := 7) (v := .int kz) (C := RX8) (T := TX8) (N := 13) hx hb hts hi_X8 hown hK hP 0 rfl rfl 2 (by decide) hf_29 (fun _ h9 => h9) rfl dX8_fits_67 ?_
  refine lv_bipush (v := 8) hx hb dX8_fits_70 (by decide) ?_
  refine lv_icmp_ne (tgt := 87) hx hb dX8_fits_72 (by decide) (fun c_72_1 => ?_) (fun c_72_1 => ?_)
  · refine lv_iconst (v := 0) hx hb dX8_fits_87 (by decide) ?_
    refine lv_goto (tgt := 116) hx hb dX8_fits_88 (by decide) ?_
    exact ct_zret hx hb hr hlk hP hK hD hS rfl (by rw [tk, if_pos c_72_1]) dX8_fits_116
  · refine lv_aload_n hx hb dX8_fits_75 rfl (lv_at hl 0 rfl) ?_
    refine va_get (D := D) (ci := 7) (v := .int sz) (C := RX8) (T := TX8) (N := 13) hx hb hts hi_X8 hown hK hP 0 rfl rfl 3 (by decide) hf_34 (fun _ h9 => h9) rfl dX8_fits_76 ?_
    refine lv_iconst (v := 3) hx hb dX8_fits_79 (by decide) ?_
    refine lv_icmp_ne (tgt := 87) hx hb dX8_fits_80 (by decide) (fun c_80_2 => ?_) (fun c_80_2 => ?_)
    · refine lv_iconst (v := 0) hx hb dX8_fits_87 (by decide) ?_
      refine lv_goto (tgt := 116) hx hb dX8_fits_88 (by decide) ?_
      exact ct_zret hx hb hr hlk hP hK hD hS rfl (by rw [tk, if_neg (not_not_intro c_72_1), if_pos c_80_2]) dX8_fits_116
    · refine lv_iconst (v := 1) hx hb dX8_fits_83 (by decide) ?_
      refine lv_goto (tgt := 116) hx hb dX8_fits_84 (by decide) ?_
      exact ct_zret hx hb hr hlk hP hK hD hS rfl (by rw [tk, if_neg (not_not_intro c_72_1), if_neg (not_not_intro c_80_2)]) dX8_fits_116
set_option maxHeartbeats 4000000 in
set_option maxRecDepth 100000 in
/-- Model.fits -/
theorem c_md_fits3 (l : Launch) (D : va_G) (h0 kq sq cq tq rq : Nat) (kz sz mc gv ri rj bn lf : Int32) : Cti l D yX8_fits wsX8_fits ({ frames := 0, cells := 0, slots := 0, locals := 0 } : Room) [.ref h0, .int 3] [] [(h0, .inr (7, [.ref kq, .ref sq, .int kz, .int sz, .int mc, .int gv, .ref cq, .ref tq, .ref rq, .int ri, .int rj, .int bn, .int lf]))] [(h0, .inr (7, [.ref kq, .ref sq, .int kz, .int sz, .int mc, .int gv, .ref cq, .ref tq, .ref rq, .int ri, .int rj, .int bn, .int lf]))] (md_3 kz sz) := by
  refine ct_of (cc := cX8_fits) (maxL := 2) (ret := (some .boolean)) (by decide) rfl (Nat.le_of_ble_eq_true rfl) ?_
  intro p e s m below meth c A H locs ls hx hb hr hml hts hown hlk hnm hF hP hK hD hA hS hl
  have hown : s.vm.findClass RX8 = some m.cls := hown
  have hl : lv_has ls 2 [(0, .ref h0), (1, .int 3)] := hl
  have hf_29 := hts (.fieldLink RX8 29 "BitStreamsModel" "keySize" "I") (by decide +kernel)
  have hi_X8 : ∀ w ∈ u_ws RX8 TX8 13, w ∈ wsX8_fits := by decide +kernel
  have hf_34 := hts (.fieldLink RX8 34 "BitStreamsModel" "startSize" "I") (by decide +kernel)
  refine lv_iload_n hx hb dX8_fits_0 rfl (lv_at hl 1 rfl) ?_
  refine lv_if_ne (tgt := 30) hx hb dX8_fits_1 (by decide) (fun _ => ?_) (fun hh => absurd hh (by decide))
  refine lv_iload_n hx hb dX8_fits_30 rfl (lv_at hl 1 rfl) ?_
  refine lv_iconst (v := 1) hx hb dX8_fits_31 (by decide) ?_
  refine lv_icmp_ne (tgt := 61) hx hb dX8_fits_32 (by decide) (fun _ => ?_) (fun hh => absurd hh (by decide))
  refine lv_iload_n hx hb dX8_fits_61 rfl (lv_at hl 1 rfl) ?_
  refine lv_iconst (v := 2) hx hb dX8_fits_62 (by decide) ?_
  refine lv_icmp_ne (tgt := 91) hx hb dX8_fits_63 (by decide) (fun _ => ?_) (fun hh => absurd hh (by decide))
  refine lv_iload_n hx hb dX8_fits_91 rfl (lv_at hl 1 rfl) ?_
  refine lv_iconst (v := 3) hx hb dX8_fits_92 (by decide) ?_
  refine lv_icmp_ne (tgt := 115) hx hb dX8_fits_93 (by decide) (fun hh => absurd (by decide) hh) (fun _ => ?_)
  refine lv_aload_n hx hb dX8_fits_96 rfl (lv_at hl 0 rfl) ?_
  refine va_get (D := D) (ci := 7) (v := .int kz) (C := RX8) (T := TX8) (N := 13) hx hb hts hi_X8 hown hK hP 0 rfl rfl 2 (by decide) hf_29 (fun _ h9 => h9) rfl dX8_fits_97 ?_
  refine lv_iconst (v := 5) hx hb dX8_fits_100 (by decide) ?_
  refine lv_icmp_lt (tgt := 115) hx hb dX8_fits_101 (by decide) (fun c_101_1 => ?_) (fun c_101_1 => ?_)
  · refine lv_iconst (v := 0) hx hb dX8_fits_115 (by decide) ?_
    exact ct_zret hx hb hr hlk hP hK hD hS rfl (by rw [md_3, if_pos c_101_1]) dX8_fits_116
  · refine lv_aload_n hx hb dX8_fits_104 rfl (lv_at hl 0 rfl) ?_
    refine va_get (D := D) (ci := 7) (v := .int sz) (C := RX8) (T := TX8) (N := 13) hx hb hts hi_X8 hown hK hP 0 rfl rfl 3 (by decide) hf_34 (fun _ h9 => h9) rfl dX8_fits_105 ?_
    refine lv_if_ne (tgt := 115) hx hb dX8_fits_108 (by decide) (fun c_108_2 => ?_) (fun c_108_2 => ?_)
    · refine lv_iconst (v := 0) hx hb dX8_fits_115 (by decide) ?_
      exact ct_zret hx hb hr hlk hP hK hD hS rfl (by rw [md_3, if_neg c_101_1, if_pos c_108_2]) dX8_fits_116
    · refine lv_iconst (v := 1) hx hb dX8_fits_111 (by decide) ?_
      refine lv_goto (tgt := 116) hx hb dX8_fits_112 (by decide) ?_
      exact ct_zret hx hb hr hlk hP hK hD hS rfl (by rw [md_3, if_neg c_101_1, if_neg (not_not_intro c_108_2)]) dX8_fits_116
set_option maxHeartbeats 4000000 in
set_option maxRecDepth 100000 in
/-- Model.fits -/
theorem c_md_fitsN (l : Launch) (D : va_G) (h0 kq sq cq tq rq : Nat) (kz sz mc gv ri rj bn lf : Int32) (k : Int32) (h0k : ¬ k = 0) (h1k : ¬ k = 1) (h2k : ¬ k = 2) (h3k : ¬ k = 3) : Cti l D yX8_fits wsX8_fits ({ frames := 0, cells := 0, slots := 0, locals := 0 } : Room) [.ref h0, .int k] [] [(h0, .inr (7, [.ref kq, .ref sq, .int kz, .int sz, .int mc, .int gv, .ref cq, .ref tq, .ref rq, .int ri, .int rj, .int bn, .int lf]))] [(h0, .inr (7, [.ref kq, .ref sq, .int kz, .int sz, .int mc, .int gv, .ref cq, .ref tq, .ref rq, .int ri, .int rj, .int bn, .int lf]))] 0 := by
  refine ct_of (cc := cX8_fits) (maxL := 2) (ret := (some .boolean)) (by decide) rfl (Nat.le_of_ble_eq_true rfl) ?_
  intro p e s m below meth c A H locs ls hx hb hr hml hts hown hlk hnm hF hP hK hD hA hS hl
  have hown : s.vm.findClass RX8 = some m.cls := hown
  have hl : lv_has ls 2 [(0, .ref h0), (1, .int k)] := hl
  refine lv_iload_n hx hb dX8_fits_0 rfl (lv_at hl 1 rfl) ?_
  refine lv_if_ne (tgt := 30) hx hb dX8_fits_1 (by decide) (fun _ => ?_) (fun hh => absurd hh h0k)
  refine lv_iload_n hx hb dX8_fits_30 rfl (lv_at hl 1 rfl) ?_
  refine lv_iconst (v := 1) hx hb dX8_fits_31 (by decide) ?_
  refine lv_icmp_ne (tgt := 61) hx hb dX8_fits_32 (by decide) (fun _ => ?_) (fun hh => absurd hh h1k)
  refine lv_iload_n hx hb dX8_fits_61 rfl (lv_at hl 1 rfl) ?_
  refine lv_iconst (v := 2) hx hb dX8_fits_62 (by decide) ?_
  refine lv_icmp_ne (tgt := 91) hx hb dX8_fits_63 (by decide) (fun _ => ?_) (fun hh => absurd hh h2k)
  refine lv_iload_n hx hb dX8_fits_91 rfl (lv_at hl 1 rfl) ?_
  refine lv_iconst (v := 3) hx hb dX8_fits_92 (by decide) ?_
  refine lv_icmp_ne (tgt := 115) hx hb dX8_fits_93 (by decide) (fun _ => ?_) (fun hh => absurd hh h3k)
  refine lv_iconst (v := 0) hx hb dX8_fits_115 (by decide) ?_
  exact ct_zret hx hb hr hlk hP hK hD hS rfl rfl dX8_fits_116
set_option maxHeartbeats 4000000 in
set_option maxRecDepth 100000 in
/-- Model.begin(0) -/
theorem c_md_begin0F (l : Launch) (D : va_G) (h0 kq sq cq tq rq : Nat) (mc gv : Int32) (kA sA cA tA rA : ClassId) (kz sz : Nat) (hkz : kz ≤ 32) (hsz : sz ≤ 12) (f g : Nat → Int32) (μ : MR) (τ : X5) (ht : tk 10 10 (nI kz) (nI sz) = 0) : Cti l D yX8_begin wsX8_begin ({ frames := 6, cells := 0, slots := 0, locals := 190 } : Room) [.ref h0, .int 0] [(kA, .int), (sA, .int), (cA, .int), (tA, .int), (rA, .int)] [(h0, .inr (7, [.ref kq, .ref sq, .int (nI kz), .int (nI sz), .int mc, .int gv, .ref cq, .ref tq, .ref rq, .int τ.1.2.1, .int τ.1.2.2, .int τ.2.1, .int τ.2.2])), (kq, .inl (kA, 32, .inl f)), (sq, .inl (sA, 12, .inl g)), (cq, .inl (cA, 384, .inl μ.1)), (tq, .inl (tA, 3, .inl μ.2)), (rq, .inl (rA, 256, .inl τ.1.1))] [(h0, .inr (7, [.ref kq, .ref sq, .int (nI kz), .int (nI sz), .int mc, .int gv, .ref cq, .ref tq, .ref rq, .int τ.1.2.1, .int τ.1.2.2, .int τ.2.1, .int τ.2.2])), (kq, .inl (kA, 32, .inl f)), (sq, .inl (sA, 12, .inl g)), (cq, .inl (cA, 384, .inl μ.1)), (tq, .inl (tA, 3, .inl μ.2)), (rq, .inl (rA, 256, .inl τ.1.1))] 0 := by
  refine ct_of (cc := cX8_begin) (maxL := 2) (ret := (some .boolean)) (by decide) rfl (Nat.le_of_ble_eq_true rfl) ?_
  intro p e s m below meth c A H locs ls hx hb hr hml hts hown hlk hnm hF hP hK hD hA hS hl
  have hown : s.vm.findClass RX8 = some m.cls := hown
  have hl : lv_has ls 2 [(0, .ref h0), (1, .int 0)] := hl
  have cw_X8_fits := cwV (R := ({ frames := 6, cells := 0, slots := 0, locals := 190 } : Room)) (rm := ({ frames := 0, cells := 0, slots := 0, locals := 0 } : Room)) 1 hts gX8_begin_X8_fits rfl rfl rfl (by decide +kernel) ⟨Nat.le_of_ble_eq_true rfl, Nat.le_of_ble_eq_true rfl⟩
  refine lv_aload_n hx hb dX8_begin_0 rfl (lv_at hl 0 rfl) ?_
  refine lv_iload_n hx hb dX8_begin_1 rfl (lv_at hl 1 rfl) ?_
  refine ct_callVi (As := [.int 0]) (rest := []) (wr := [(kq, .inl (kA, 32, .inl f)), (sq, .inl (sA, 12, .inl g)), (cq, .inl (cA, 384, .inl μ.1)), (tq, .inl (tA, 3, .inl μ.2)), (rq, .inl (rA, 256, .inl τ.1.1))]) (ws2 := [(h0, .inr (7, [.ref kq, .ref sq, .int (nI kz), .int (nI sz), .int mc, .int gv, .ref cq, .ref tq, .ref rq, .int τ.1.2.1, .int τ.1.2.2, .int τ.2.1, .int τ.2.2])), (kq, .inl (kA, 32, .inl f)), (sq, .inl (sA, 12, .inl g)), (cq, .inl (cA, 384, .inl μ.1)), (tq, .inl (tA, 3, .inl μ.2)), (rq, .inl (rA, 256, .inl τ.1.1))]) ⟨hx, hb, hml, hown, hts⟩ (c_md_fits0 l D h0 kq sq cq tq rq (nI kz) (nI sz) mc gv τ.1.2.1 τ.1.2.2 τ.2.1 τ.2.2) cw_X8_fits [] rfl [0] [1, 2, 3, 4, 5] [5, 0, 1, 2, 3, 4] hF hK hP hD hS hA 0 7 rfl rfl rfl rfl (by decide) rfl (by decide) (by decide) rfl (by decide) rfl hl.1 rfl (Nat.le_of_ble_eq_true rfl) dX8_begin_2 ⟨Nat.zero_le _, Nat.zero_le _⟩ (fun H locs hP hD hS => ?_)
  refine lv_if_ne (tgt := 10) hx hb dX8_begin_5 (by decide) (fun hh => absurd ht hh) (fun _ => ?_)
  refine lv_iconst (v := 0) hx hb dX8_begin_8 (by decide) ?_
  exact ct_zret hx hb hr hlk hP hK hD hS rfl rfl dX8_begin_9
set_option maxHeartbeats 4000000 in
set_option maxRecDepth 100000 in
/-- Model.begin(0) -/
theorem c_md_begin0T (l : Launch) (D : va_G) (h0 kq sq cq tq rq : Nat) (mc gv : Int32) (kA sA cA tA rA : ClassId) (kz sz : Nat) (hkz : kz ≤ 32) (hsz : sz ≤ 12) (f g : Nat → Int32) (μ : MR) (τ : X5) (ht : tk 10 10 (nI kz) (nI sz) = 1) : Cti l D yX8_begin wsX8_begin ({ frames := 6, cells := 0, slots := 0, locals := 190 } : Room) [.ref h0, .int 0] [(kA, .int), (sA, .int), (cA, .int), (tA, .int), (rA, .int)] [(h0, .inr (7, [.ref kq, .ref sq, .int (nI kz), .int (nI sz), .int mc, .int gv, .ref cq, .ref tq, .ref rq, .int τ.1.2.1, .int τ.1.2.2, .int τ.2.1, .int τ.2.2])), (kq, .inl (kA, 32, .inl f)), (sq, .inl (sA, 12, .inl g)), (cq, .inl (cA, 384, .inl μ.1)), (tq, .inl (tA, 3, .inl μ.2)), (rq, .inl (rA, 256, .inl τ.1.1))] [(h0, .inr (7, [.ref kq, .ref sq, .int (nI 0), .int (nI 0), .int 0, .int 0, .ref cq, .ref tq, .ref rq, .int τ.1.2.1, .int τ.1.2.2, .int τ.2.1, .int τ.2.2])), (kq, .inl (kA, 32, .inl f)), (sq, .inl (sA, 12, .inl g)), (cq, .inl (cA, 384, .inl ((md_B0 (md_z μ.1 384, md_z μ.2 3) f g).1))), (tq, .inl (tA, 3, .inl ((md_B0 (md_z μ.1 384, md_z μ.2 3) f g).2))), (rq, .inl (rA, 256, .inl τ.1.1))] 1 := by
  refine ct_of (cc := cX8_begin) (maxL := 2) (ret := (some .boolean)) (by decide) rfl (Nat.le_of_ble_eq_true rfl) ?_
  intro p e s m below meth c A H locs ls hx hb hr hml hts hown hlk hnm hF hP hK hD hA hS hl
  have hown : s.vm.findClass RX8 = some m.cls := hown
  have hl : lv_has ls 2 [(0, .ref h0), (1, .int 0)] := hl
  have cw_X8_fits := cwV (R := ({ frames := 6, cells := 0, slots := 0, locals := 190 } : Room)) (rm := ({ frames := 0, cells := 0, slots := 0, locals := 0 } : Room)) 1 hts gX8_begin_X8_fits rfl rfl rfl (by decide +kernel) ⟨Nat.le_of_ble_eq_true rfl, Nat.le_of_ble_eq_true rfl⟩
  have hf_16 := hts (.fieldLink RX8 16 "BitStreamsModel" "machine" "I") (by decide +kernel)
  have hi_X8 : ∀ w ∈ u_ws RX8 TX8 13, w ∈ wsX8_begin := by decide +kernel
  have hf_79 := hts (.fieldLink RX8 79 "BitStreamsModel" "given" "I") (by decide +kernel)
  have cw_X8_clean := cwV (R := ({ frames := 6, cells := 0, slots := 0, locals := 190 } : Room)) (rm := ({ frames := 0, cells := 0, slots := 0, locals := 0 } : Room)) 0 hts gX8_begin_X8_clean rfl rfl rfl (by decide +kernel) ⟨Nat.le_of_ble_eq_true rfl, Nat.le_of_ble_eq_true rfl⟩
  have cw_X8_beginRings := cwV (R := ({ frames := 6, cells := 0, slots := 0, locals := 190 } : Room)) (rm := ({ frames := 3, cells := 0, slots := 0, locals := 69 } : Room)) 0 hts gX8_begin_X8_beginRings rfl rfl rfl (by decide +kernel) ⟨Nat.le_of_ble_eq_true rfl, Nat.le_of_ble_eq_true rfl⟩
  have hf_29 := hts (.fieldLink RX8 29 "BitStreamsModel" "keySize" "I") (by decide +kernel)
  have hf_34 := hts (.fieldLink RX8 34 "BitStreamsModel" "startSize" "I") (by decide +kernel)
  refine lv_aload_n hx hb dX8_begin_0 rfl (lv_at hl 0 rfl) ?_
  refine lv_iload_n hx hb dX8_begin_1 rfl (lv_at hl 1 rfl) ?_
  refine ct_callVi (As := [.int 0]) (rest := []) (wr := [(kq, .inl (kA, 32, .inl f)), (sq, .inl (sA, 12, .inl g)), (cq, .inl (cA, 384, .inl μ.1)), (tq, .inl (tA, 3, .inl μ.2)), (rq, .inl (rA, 256, .inl τ.1.1))]) (ws2 := [(h0, .inr (7, [.ref kq, .ref sq, .int (nI kz), .int (nI sz), .int mc, .int gv, .ref cq, .ref tq, .ref rq, .int τ.1.2.1, .int τ.1.2.2, .int τ.2.1, .int τ.2.2])), (kq, .inl (kA, 32, .inl f)), (sq, .inl (sA, 12, .inl g)), (cq, .inl (cA, 384, .inl μ.1)), (tq, .inl (tA, 3, .inl μ.2)), (rq, .inl (rA, 256, .inl τ.1.1))]) ⟨hx, hb, hml, hown, hts⟩ (c_md_fits0 l D h0 kq sq cq tq rq (nI kz) (nI sz) mc gv τ.1.2.1 τ.1.2.2 τ.2.1 τ.2.2) cw_X8_fits [] rfl [0] [1, 2, 3, 4, 5] [5, 0, 1, 2, 3, 4] hF hK hP hD hS hA 0 7 rfl rfl rfl rfl (by decide) rfl (by decide) (by decide) rfl (by decide) rfl hl.1 rfl (Nat.le_of_ble_eq_true rfl) dX8_begin_2 ⟨Nat.zero_le _, Nat.zero_le _⟩ (fun H locs hP hD hS => ?_)
  refine lv_if_ne (tgt := 10) hx hb dX8_begin_5 (by decide) (fun _ => ?_) (fun hh => absurd hh (by rw [ht]; decide))
  refine lv_aload_n hx hb dX8_begin_10 rfl (lv_at hl 0 rfl) ?_
  refine lv_iload_n hx hb dX8_begin_11 rfl (lv_at hl 1 rfl) ?_
  refine va_put (D := D) (ci := 7) (v := .int 0) (ty := .int) (C := RX8) (T := TX8) (N := 13) hx hb hts hi_X8 tyX8 tyX8_ok nmX8 hown hK hP hD hS 0 rfl rfl 4 (by decide) hf_16 (fun _ h9 => h9) rfl (by decide +kernel) rfl rfl (Nat.le_of_ble_eq_true rfl) dX8_begin_12 (fun H locs hP hD hS => ?_)
  have hP : va_P D vwCl [(h0, .inr (7, [.ref kq, .ref sq, .int (nI kz), .int (nI sz), .int 0, .int gv, .ref cq, .ref tq, .ref rq, .int τ.1.2.1, .int τ.1.2.2, .int τ.2.1, .int τ.2.2])), (kq, .inl (kA, 32, .inl f)), (sq, .inl (sA, 12, .inl g)), (cq, .inl (cA, 384, .inl μ.1)), (tq, .inl (tA, 3, .inl μ.2)), (rq, .inl (rA, 256, .inl τ.1.1))] H := hP
  have hD : va_D A [(h0, .inr (7, [.ref kq, .ref sq, .int (nI kz), .int (nI sz), .int 0, .int gv, .ref cq, .ref tq, .ref rq, .int τ.1.2.1, .int τ.1.2.2, .int τ.2.1, .int τ.2.2])), (kq, .inl (kA, 32, .inl f)), (sq, .inl (sA, 12, .inl g)), (cq, .inl (cA, 384, .inl μ.1)), (tq, .inl (tA, 3, .inl μ.2)), (rq, .inl (rA, 256, .inl τ.1.1))] := hD
  refine lv_aload_n hx hb dX8_begin_15 rfl (lv_at hl 0 rfl) ?_
  refine lv_iconst (v := 0) hx hb dX8_begin_16 (by decide) ?_
  refine va_put (D := D) (ci := 7) (v := .int 0) (ty := .int) (C := RX8) (T := TX8) (N := 13) hx hb hts hi_X8 tyX8 tyX8_ok nmX8 hown hK hP hD hS 0 rfl rfl 5 (by decide) hf_79 (fun _ h9 => h9) rfl (by decide +kernel) rfl rfl (Nat.le_of_ble_eq_true rfl) dX8_begin_17 (fun H locs hP hD hS => ?_)
  have hP : va_P D vwCl [(h0, .inr (7, [.ref kq, .ref sq, .int (nI kz), .int (nI sz), .int 0, .int 0, .ref cq, .ref tq, .ref rq, .int τ.1.2.1, .int τ.1.2.2, .int τ.2.1, .int τ.2.2])), (kq, .inl (kA, 32, .inl f)), (sq, .inl (sA, 12, .inl g)), (cq, .inl (cA, 384, .inl μ.1)), (tq, .inl (tA, 3, .inl μ.2)), (rq, .inl (rA, 256, .inl τ.1.1))] H := hP
  have hD : va_D A [(h0, .inr (7, [.ref kq, .ref sq, .int (nI kz), .int (nI sz), .int 0, .int 0, .ref cq, .ref tq, .ref rq, .int τ.1.2.1, .int τ.1.2.2, .int τ.2.1, .int τ.2.2])), (kq, .inl (kA, 32, .inl f)), (sq, .inl (sA, 12, .inl g)), (cq, .inl (cA, 384, .inl μ.1)), (tq, .inl (tA, 3, .inl μ.2)), (rq, .inl (rA, 256, .inl τ.1.1))] := hD
  refine lv_aload_n hx hb dX8_begin_20 rfl (lv_at hl 0 rfl) ?_
  refine ct_callVv (As := []) (rest := []) (wr := [(kq, .inl (kA, 32, .inl f)), (sq, .inl (sA, 12, .inl g)), (rq, .inl (rA, 256, .inl τ.1.1))]) (ws2 := [(h0, .inr (7, [.ref kq, .ref sq, .int (nI kz), .int (nI sz), .int 0, .int 0, .ref cq, .ref tq, .ref rq, .int τ.1.2.1, .int τ.1.2.2, .int τ.2.1, .int τ.2.2])), (kq, .inl (kA, 32, .inl f)), (sq, .inl (sA, 12, .inl g)), (cq, .inl (cA, 384, .inl ((md_z μ.1 384, md_z μ.2 3).1))), (tq, .inl (tA, 3, .inl ((md_z μ.1 384, md_z μ.2 3).2))), (rq, .inl (rA, 256, .inl τ.1.1))]) ⟨hx, hb, hml, hown, hts⟩ (c_md_clean l D h0 kq sq cq tq rq (nI kz) (nI sz) 0 0 τ.1.2.1 τ.1.2.2 τ.2.1 τ.2.2 cA tA μ) cw_X8_clean [2, 3] rfl [0, 3, 4] [1, 2, 5] [3, 0, 1, 4, 5, 2] hF hK hP hD hS hA 0 7 rfl rfl rfl rfl (by decide) rfl (by decide) (by decide) rfl (by decide) rfl hl.1 rfl (Nat.le_of_ble_eq_true rfl) dX8_begin_21 ⟨Nat.zero_le _, Nat.zero_le _⟩ (fun H locs hP hD hS => ?_)
  refine lv_iload_n hx hb dX8_begin_24 rfl (lv_at hl 1 rfl) ?_
  refine lv_if_ne (tgt := 35) hx hb dX8_begin_25 (by decide) (fun hh => absurd (by decide) hh) (fun _ => ?_)
  refine lv_aload_n hx hb dX8_begin_28 rfl (lv_at hl 0 rfl) ?_
  refine ct_callVv (As := []) (rest := []) (wr := [(rq, .inl (rA, 256, .inl τ.1.1))]) (ws2 := [(h0, .inr (7, [.ref kq, .ref sq, .int (nI kz), .int (nI sz), .int 0, .int 0, .ref cq, .ref tq, .ref rq, .int τ.1.2.1, .int τ.1.2.2, .int τ.2.1, .int τ.2.2])), (kq, .inl (kA, 32, .inl f)), (sq, .inl (sA, 12, .inl g)), (cq, .inl (cA, 384, .inl ((md_B0 (md_z μ.1 384, md_z μ.2 3) f g).1))), (tq, .inl (tA, 3, .inl ((md_B0 (md_z μ.1 384, md_z μ.2 3) f g).2))), (rq, .inl (rA, 256, .inl τ.1.1))]) ⟨hx, hb, hml, hown, hts⟩ (c_md_B0 l D h0 kq sq cq tq rq (nI kz) (nI sz) 0 0 τ.1.2.1 τ.1.2.2 τ.2.1 τ.2.2 kA sA cA tA f g (md_z μ.1 384, md_z μ.2 3)) cw_X8_beginRings [0, 1, 2, 3] rfl [0, 1, 2, 3, 4] [5] [1, 2, 3, 4, 5, 0] hF hK hP hD hS hA 0 7 rfl rfl rfl rfl (by decide) rfl (by decide) (by decide) rfl (by decide) rfl hl.1 rfl (Nat.le_of_ble_eq_true rfl) dX8_begin_29 ⟨Nat.zero_le _, Nat.zero_le _⟩ (fun H locs hP hD hS => ?_)
  refine lv_goto (tgt := 63) hx hb dX8_begin_32 (by decide) ?_
  refine lv_aload_n hx hb dX8_begin_63 rfl (lv_at hl 0 rfl) ?_
  refine lv_iconst (v := 0) hx hb dX8_begin_64 (by decide) ?_
  refine va_put (D := D) (ci := 7) (v := .int 0) (ty := .int) (C := RX8) (T := TX8) (N := 13) hx hb hts hi_X8 tyX8 tyX8_ok nmX8 hown hK hP hD hS 0 rfl rfl 2 (by decide) hf_29 (fun _ h9 => h9) rfl (by decide +kernel) rfl rfl (Nat.le_of_ble_eq_true rfl) dX8_begin_65 (fun H locs hP hD hS => ?_)
  have hP : va_P D vwCl [(h0, .inr (7, [.ref kq, .ref sq, .int 0, .int (nI sz), .int 0, .int 0, .ref cq, .ref tq, .ref rq, .int τ.1.2.1, .int τ.1.2.2, .int τ.2.1, .int τ.2.2])), (kq, .inl (kA, 32, .inl f)), (sq, .inl (sA, 12, .inl g)), (cq, .inl (cA, 384, .inl ((md_B0 (md_z μ.1 384, md_z μ.2 3) f g).1))), (tq, .inl (tA, 3, .inl ((md_B0 (md_z μ.1 384, md_z μ.2 3) f g).2))), (rq, .inl (rA, 256, .inl τ.1.1))] H := hP
  have hD : va_D A [(h0, .inr (7, [.ref kq, .ref sq, .int 0, .int (nI sz), .int 0, .int 0, .ref cq, .ref tq, .ref rq, .int τ.1.2.1, .int τ.1.2.2, .int τ.2.1, .int τ.2.2])), (kq, .inl (kA, 32, .inl f)), (sq, .inl (sA, 12, .inl g)), (cq, .inl (cA, 384, .inl ((md_B0 (md_z μ.1 384, md_z μ.2 3) f g).1))), (tq, .inl (tA, 3, .inl ((md_B0 (md_z μ.1 384, md_z μ.2 3) f g).2))), (rq, .inl (rA, 256, .inl τ.1.1))] := hD
  refine lv_aload_n hx hb dX8_begin_68 rfl (lv_at hl 0 rfl) ?_
  refine lv_iconst (v := 0) hx hb dX8_begin_69 (by decide) ?_
  refine va_put (D := D) (ci := 7) (v := .int 0) (ty := .int) (C := RX8) (T := TX8) (N := 13) hx hb hts hi_X8 tyX8 tyX8_ok nmX8 hown hK hP hD hS 0 rfl rfl 3 (by decide) hf_34 (fun _ h9 => h9) rfl (by decide +kernel) rfl rfl (Nat.le_of_ble_eq_true rfl) dX8_begin_70 (fun H locs hP hD hS => ?_)
  have hP : va_P D vwCl [(h0, .inr (7, [.ref kq, .ref sq, .int 0, .int 0, .int 0, .int 0, .ref cq, .ref tq, .ref rq, .int τ.1.2.1, .int τ.1.2.2, .int τ.2.1, .int τ.2.2])), (kq, .inl (kA, 32, .inl f)), (sq, .inl (sA, 12, .inl g)), (cq, .inl (cA, 384, .inl ((md_B0 (md_z μ.1 384, md_z μ.2 3) f g).1))), (tq, .inl (tA, 3, .inl ((md_B0 (md_z μ.1 384, md_z μ.2 3) f g).2))), (rq, .inl (rA, 256, .inl τ.1.1))] H := hP
  have hD : va_D A [(h0, .inr (7, [.ref kq, .ref sq, .int 0, .int 0, .int 0, .int 0, .ref cq, .ref tq, .ref rq, .int τ.1.2.1, .int τ.1.2.2, .int τ.2.1, .int τ.2.2])), (kq, .inl (kA, 32, .inl f)), (sq, .inl (sA, 12, .inl g)), (cq, .inl (cA, 384, .inl ((md_B0 (md_z μ.1 384, md_z μ.2 3) f g).1))), (tq, .inl (tA, 3, .inl ((md_B0 (md_z μ.1 384, md_z μ.2 3) f g).2))), (rq, .inl (rA, 256, .inl τ.1.1))] := hD
  refine lv_iconst (v := 1) hx hb dX8_begin_73 (by decide) ?_
  exact ct_zret hx hb hr hlk hP hK hD hS rfl rfl dX8_begin_74
set_option maxHeartbeats 4000000 in
set_option maxRecDepth 100000 in
/-- Model.begin(1) -/
theorem c_md_begin1F (l : Launch) (D : va_G) (h0 kq sq cq tq rq : Nat) (mc gv : Int32) (kA sA cA tA rA : ClassId) (kz sz : Nat) (hkz : kz ≤ 32) (hsz : sz ≤ 12) (f g : Nat → Int32) (μ : MR) (τ : X5) (ht : tk 16 12 (nI kz) (nI sz) = 0) : Cti l D yX8_begin wsX8_begin ({ frames := 6, cells := 0, slots := 0, locals := 190 } : Room) [.ref h0, .int 1] [(kA, .int), (sA, .int), (cA, .int), (tA, .int), (rA, .int)] [(h0, .inr (7, [.ref kq, .ref sq, .int (nI kz), .int (nI sz), .int mc, .int gv, .ref cq, .ref tq, .ref rq, .int τ.1.2.1, .int τ.1.2.2, .int τ.2.1, .int τ.2.2])), (kq, .inl (kA, 32, .inl f)), (sq, .inl (sA, 12, .inl g)), (cq, .inl (cA, 384, .inl μ.1)), (tq, .inl (tA, 3, .inl μ.2)), (rq, .inl (rA, 256, .inl τ.1.1))] [(h0, .inr (7, [.ref kq, .ref sq, .int (nI kz), .int (nI sz), .int mc, .int gv, .ref cq, .ref tq, .ref rq, .int τ.1.2.1, .int τ.1.2.2, .int τ.2.1, .int τ.2.2])), (kq, .inl (kA, 32, .inl f)), (sq, .inl (sA, 12, .inl g)), (cq, .inl (cA, 384, .inl μ.1)), (tq, .inl (tA, 3, .inl μ.2)), (rq, .inl (rA, 256, .inl τ.1.1))] 0 := by
  refine ct_of (cc := cX8_begin) (maxL := 2) (ret := (some .boolean)) (by decide) rfl (Nat.le_of_ble_eq_true rfl) ?_
  intro p e s m below meth c A H locs ls hx hb hr hml hts hown hlk hnm hF hP hK hD hA hS hl
  have hown : s.vm.findClass RX8 = some m.cls := hown
  have hl : lv_has ls 2 [(0, .ref h0), (1, .int 1)] := hl
  have cw_X8_fits := cwV (R := ({ frames := 6, cells := 0, slots := 0, locals := 190 } : Room)) (rm := ({ frames := 0, cells := 0, slots := 0, locals := 0 } : Room)) 1 hts gX8_begin_X8_fits rfl rfl rfl (by decide +kernel) ⟨Nat.le_of_ble_eq_true rfl, Nat.le_of_ble_eq_true rfl⟩
  refine lv_aload_n hx hb dX8_begin_0 rfl (lv_at hl 0 rfl) ?_
  refine lv_iload_n hx hb dX8_begin_1 rfl (lv_at hl 1 rfl) ?_
  refine ct_callVi (As := [.int 1]) (rest := []) (wr := [(kq, .inl (kA, 32, .inl f)), (sq, .inl (sA, 12, .inl g)), (cq, .inl (cA, 384, .inl μ.1)), (tq, .inl (tA, 3, .inl μ.2)), (rq, .inl (rA, 256, .inl τ.1.1))]) (ws2 := [(h0, .inr (7, [.ref kq, .ref sq, .int (nI kz), .int (nI sz), .int mc, .int gv, .ref cq, .ref tq, .ref rq, .int τ.1.2.1, .int τ.1.2.2, .int τ.2.1, .int τ.2.2])), (kq, .inl (kA, 32, .inl f)), (sq, .inl (sA, 12, .inl g)), (cq, .inl (cA, 384, .inl μ.1)), (tq, .inl (tA, 3, .inl μ.2)), (rq, .inl (rA, 256, .inl τ.1.1))]) ⟨hx, hb, hml, hown, hts⟩ (c_md_fits1 l D h0 kq sq cq tq rq (nI kz) (nI sz) mc gv τ.1.2.1 τ.1.2.2 τ.2.1 τ.2.2) cw_X8_fits [] rfl [0] [1, 2, 3, 4, 5] [5, 0, 1, 2, 3, 4] hF hK hP hD hS hA 0 7 rfl rfl rfl rfl (by decide) rfl (by decide) (by decide) rfl (by decide) rfl hl.1 rfl (Nat.le_of_ble_eq_true rfl) dX8_begin_2 ⟨Nat.zero_le _, Nat.zero_le _⟩ (fun H locs hP hD hS => ?_)
  refine lv_if_ne (tgt := 10) hx hb dX8_begin_5 (by decide) (fun hh => absurd ht hh) (fun _ => ?_)
  refine lv_iconst (v := 0) hx hb dX8_begin_8 (by decide) ?_
  exact ct_zret hx hb hr hlk hP hK hD hS rfl rfl dX8_begin_9
set_option maxHeartbeats 4000000 in
set_option maxRecDepth 100000 in
/-- Model.begin(1) -/
theorem c_md_begin1T (l : Launch) (D : va_G) (h0 kq sq cq tq rq : Nat) (mc gv : Int32) (kA sA cA tA rA : ClassId) (kz sz : Nat) (hkz : kz ≤ 32) (hsz : sz ≤ 12) (f g : Nat → Int32) (μ : MR) (τ : X5) (ht : tk 16 12 (nI kz) (nI sz) = 1) : Cti l D yX8_begin wsX8_begin ({ frames := 6, cells := 0, slots := 0, locals := 190 } : Room) [.ref h0, .int 1] [(kA, .int), (sA, .int), (cA, .int), (tA, .int), (rA, .int)] [(h0, .inr (7, [.ref kq, .ref sq, .int (nI kz), .int (nI sz), .int mc, .int gv, .ref cq, .ref tq, .ref rq, .int τ.1.2.1, .int τ.1.2.2, .int τ.2.1, .int τ.2.2])), (kq, .inl (kA, 32, .inl f)), (sq, .inl (sA, 12, .inl g)), (cq, .inl (cA, 384, .inl μ.1)), (tq, .inl (tA, 3, .inl μ.2)), (rq, .inl (rA, 256, .inl τ.1.1))] [(h0, .inr (7, [.ref kq, .ref sq, .int (nI 0), .int (nI 0), .int 1, .int 0, .ref cq, .ref tq, .ref rq, .int τ.1.2.1, .int τ.1.2.2, .int τ.2.1, .int τ.2.2])), (kq, .inl (kA, 32, .inl f)), (sq, .inl (sA, 12, .inl g)), (cq, .inl (cA, 384, .inl ((md_B1 (md_z μ.1 384, md_z μ.2 3) f g).1))), (tq, .inl (tA, 3, .inl ((md_B1 (md_z μ.1 384, md_z μ.2 3) f g).2))), (rq, .inl (rA, 256, .inl τ.1.1))] 1 := by
  refine ct_of (cc := cX8_begin) (maxL := 2) (ret := (some .boolean)) (by decide) rfl (Nat.le_of_ble_eq_true rfl) ?_
  intro p e s m below meth c A H locs ls hx hb hr hml hts hown hlk hnm hF hP hK hD hA hS hl
  have hown : s.vm.findClass RX8 = some m.cls := hown
  have hl : lv_has ls 2 [(0, .ref h0), (1, .int 1)] := hl
  have cw_X8_fits := cwV (R := ({ frames := 6, cells := 0, slots := 0, locals := 190 } : Room)) (rm := ({ frames := 0, cells := 0, slots := 0, locals := 0 } : Room)) 1 hts gX8_begin_X8_fits rfl rfl rfl (by decide +kernel) ⟨Nat.le_of_ble_eq_true rfl, Nat.le_of_ble_eq_true rfl⟩
  have hf_16 := hts (.fieldLink RX8 16 "BitStreamsModel" "machine" "I") (by decide +kernel)
  have hi_X8 : ∀ w ∈ u_ws RX8 TX8 13, w ∈ wsX8_begin := by decide +kernel
  have hf_79 := hts (.fieldLink RX8 79 "BitStreamsModel" "given" "I") (by decide +kernel)
  have cw_X8_clean := cwV (R := ({ frames := 6, cells := 0, slots := 0, locals := 190 } : Room)) (rm := ({ frames := 0, cells := 0, slots := 0, locals := 0 } : Room)) 0 hts gX8_begin_X8_clean rfl rfl rfl (by decide +kernel) ⟨Nat.le_of_ble_eq_true rfl, Nat.le_of_ble_eq_true rfl⟩
  have cw_X8_beginTwo := cwV (R := ({ frames := 6, cells := 0, slots := 0, locals := 190 } : Room)) (rm := ({ frames := 3, cells := 0, slots := 0, locals := 69 } : Room)) 0 hts gX8_begin_X8_beginTwo rfl rfl rfl (by decide +kernel) ⟨Nat.le_of_ble_eq_true rfl, Nat.le_of_ble_eq_true rfl⟩
  have hf_29 := hts (.fieldLink RX8 29 "BitStreamsModel" "keySize" "I") (by decide +kernel)
  have hf_34 := hts (.fieldLink RX8 34 "BitStreamsModel" "startSize" "I") (by decide +kernel)
  refine lv_aload_n hx hb dX8_begin_0 rfl (lv_at hl 0 rfl) ?_
  refine lv_iload_n hx hb dX8_begin_1 rfl (lv_at hl 1 rfl) ?_
  refine ct_callVi (As := [.int 1]) (rest := []) (wr := [(kq, .inl (kA, 32, .inl f)), (sq, .inl (sA, 12, .inl g)), (cq, .inl (cA, 384, .inl μ.1)), (tq, .inl (tA, 3, .inl μ.2)), (rq, .inl (rA, 256, .inl τ.1.1))]) (ws2 := [(h0, .inr (7, [.ref kq, .ref sq, .int (nI kz), .int (nI sz), .int mc, .int gv, .ref cq, .ref tq, .ref rq, .int τ.1.2.1, .int τ.1.2.2, .int τ.2.1, .int τ.2.2])), (kq, .inl (kA, 32, .inl f)), (sq, .inl (sA, 12, .inl g)), (cq, .inl (cA, 384, .inl μ.1)), (tq, .inl (tA, 3, .inl μ.2)), (rq, .inl (rA, 256, .inl τ.1.1))]) ⟨hx, hb, hml, hown, hts⟩ (c_md_fits1 l D h0 kq sq cq tq rq (nI kz) (nI sz) mc gv τ.1.2.1 τ.1.2.2 τ.2.1 τ.2.2) cw_X8_fits [] rfl [0] [1, 2, 3, 4, 5] [5, 0, 1, 2, 3, 4] hF hK hP hD hS hA 0 7 rfl rfl rfl rfl (by decide) rfl (by decide) (by decide) rfl (by decide) rfl hl.1 rfl (Nat.le_of_ble_eq_true rfl) dX8_begin_2 ⟨Nat.zero_le _, Nat.zero_le _⟩ (fun H locs hP hD hS => ?_)
  refine lv_if_ne (tgt := 10) hx hb dX8_begin_5 (by decide) (fun _ => ?_) (fun hh => absurd hh (by rw [ht]; decide))
  refine lv_aload_n hx hb dX8_begin_10 rfl (lv_at hl 0 rfl) ?_
  refine lv_iload_n hx hb dX8_begin_11 rfl (lv_at hl 1 rfl) ?_
  refine va_put (D := D) (ci := 7) (v := .int 1) (ty := .int) (C := RX8) (T := TX8) (N := 13) hx hb hts hi_X8 tyX8 tyX8_ok nmX8 hown hK hP hD hS 0 rfl rfl 4 (by decide) hf_16 (fun _ h9 => h9) rfl (by decide +kernel) rfl rfl (Nat.le_of_ble_eq_true rfl) dX8_begin_12 (fun H locs hP hD hS => ?_)
  have hP : va_P D vwCl [(h0, .inr (7, [.ref kq, .ref sq, .int (nI kz), .int (nI sz), .int 1, .int gv, .ref cq, .ref tq, .ref rq, .int τ.1.2.1, .int τ.1.2.2, .int τ.2.1, .int τ.2.2])), (kq, .inl (kA, 32, .inl f)), (sq, .inl (sA, 12, .inl g)), (cq, .inl (cA, 384, .inl μ.1)), (tq, .inl (tA, 3, .inl μ.2)), (rq, .inl (rA, 256, .inl τ.1.1))] H := hP
  have hD : va_D A [(h0, .inr (7, [.ref kq, .ref sq, .int (nI kz), .int (nI sz), .int 1, .int gv, .ref cq, .ref tq, .ref rq, .int τ.1.2.1, .int τ.1.2.2, .int τ.2.1, .int τ.2.2])), (kq, .inl (kA, 32, .inl f)), (sq, .inl (sA, 12, .inl g)), (cq, .inl (cA, 384, .inl μ.1)), (tq, .inl (tA, 3, .inl μ.2)), (rq, .inl (rA, 256, .inl τ.1.1))] := hD
  refine lv_aload_n hx hb dX8_begin_15 rfl (lv_at hl 0 rfl) ?_
  refine lv_iconst (v := 0) hx hb dX8_begin_16 (by decide) ?_
  refine va_put (D := D) (ci := 7) (v := .int 0) (ty := .int) (C := RX8) (T := TX8) (N := 13) hx hb hts hi_X8 tyX8 tyX8_ok nmX8 hown hK hP hD hS 0 rfl rfl 5 (by decide) hf_79 (fun _ h9 => h9) rfl (by decide +kernel) rfl rfl (Nat.le_of_ble_eq_true rfl) dX8_begin_17 (fun H locs hP hD hS => ?_)
  have hP : va_P D vwCl [(h0, .inr (7, [.ref kq, .ref sq, .int (nI kz), .int (nI sz), .int 1, .int 0, .ref cq, .ref tq, .ref rq, .int τ.1.2.1, .int τ.1.2.2, .int τ.2.1, .int τ.2.2])), (kq, .inl (kA, 32, .inl f)), (sq, .inl (sA, 12, .inl g)), (cq, .inl (cA, 384, .inl μ.1)), (tq, .inl (tA, 3, .inl μ.2)), (rq, .inl (rA, 256, .inl τ.1.1))] H := hP
  have hD : va_D A [(h0, .inr (7, [.ref kq, .ref sq, .int (nI kz), .int (nI sz), .int 1, .int 0, .ref cq, .ref tq, .ref rq, .int τ.1.2.1, .int τ.1.2.2, .int τ.2.1, .int τ.2.2])), (kq, .inl (kA, 32, .inl f)), (sq, .inl (sA, 12, .inl g)), (cq, .inl (cA, 384, .inl μ.1)), (tq, .inl (tA, 3, .inl μ.2)), (rq, .inl (rA, 256, .inl τ.1.1))] := hD
  refine lv_aload_n hx hb dX8_begin_20 rfl (lv_at hl 0 rfl) ?_
  refine ct_callVv (As := []) (rest := []) (wr := [(kq, .inl (kA, 32, .inl f)), (sq, .inl (sA, 12, .inl g)), (rq, .inl (rA, 256, .inl τ.1.1))]) (ws2 := [(h0, .inr (7, [.ref kq, .ref sq, .int (nI kz), .int (nI sz), .int 1, .int 0, .ref cq, .ref tq, .ref rq, .int τ.1.2.1, .int τ.1.2.2, .int τ.2.1, .int τ.2.2])), (kq, .inl (kA, 32, .inl f)), (sq, .inl (sA, 12, .inl g)), (cq, .inl (cA, 384, .inl ((md_z μ.1 384, md_z μ.2 3).1))), (tq, .inl (tA, 3, .inl ((md_z μ.1 384, md_z μ.2 3).2))), (rq, .inl (rA, 256, .inl τ.1.1))]) ⟨hx, hb, hml, hown, hts⟩ (c_md_clean l D h0 kq sq cq tq rq (nI kz) (nI sz) 1 0 τ.1.2.1 τ.1.2.2 τ.2.1 τ.2.2 cA tA μ) cw_X8_clean [2, 3] rfl [0, 3, 4] [1, 2, 5] [3, 0, 1, 4, 5, 2] hF hK hP hD hS hA 0 7 rfl rfl rfl rfl (by decide) rfl (by decide) (by decide) rfl (by decide) rfl hl.1 rfl (Nat.le_of_ble_eq_true rfl) dX8_begin_21 ⟨Nat.zero_le _, Nat.zero_le _⟩ (fun H locs hP hD hS => ?_)
  refine lv_iload_n hx hb dX8_begin_24 rfl (lv_at hl 1 rfl) ?_
  refine lv_if_ne (tgt := 35) hx hb dX8_begin_25 (by decide) (fun _ => ?_) (fun hh => absurd hh (by decide))
  refine lv_iload_n hx hb dX8_begin_35 rfl (lv_at hl 1 rfl) ?_
  refine lv_iconst (v := 1) hx hb dX8_begin_36 (by decide) ?_
  refine lv_icmp_ne (tgt := 47) hx hb dX8_begin_37 (by decide) (fun hh => absurd (by decide) hh) (fun _ => ?_)
  refine lv_aload_n hx hb dX8_begin_40 rfl (lv_at hl 0 rfl) ?_
  refine ct_callVv (As := []) (rest := []) (wr := [(rq, .inl (rA, 256, .inl τ.1.1))]) (ws2 := [(h0, .inr (7, [.ref kq, .ref sq, .int (nI kz), .int (nI sz), .int 1, .int 0, .ref cq, .ref tq, .ref rq, .int τ.1.2.1, .int τ.1.2.2, .int τ.2.1, .int τ.2.2])), (kq, .inl (kA, 32, .inl f)), (sq, .inl (sA, 12, .inl g)), (cq, .inl (cA, 384, .inl ((md_B1 (md_z μ.1 384, md_z μ.2 3) f g).1))), (tq, .inl (tA, 3, .inl ((md_B1 (md_z μ.1 384, md_z μ.2 3) f g).2))), (rq, .inl (rA, 256, .inl τ.1.1))]) ⟨hx, hb, hml, hown, hts⟩ (c_md_B1 l D h0 kq sq cq tq rq (nI kz) (nI sz) 1 0 τ.1.2.1 τ.1.2.2 τ.2.1 τ.2.2 kA sA cA tA f g (md_z μ.1 384, md_z μ.2 3)) cw_X8_beginTwo [0, 1, 2, 3] rfl [0, 1, 2, 3, 4] [5] [1, 2, 3, 4, 5, 0] hF hK hP hD hS hA 0 7 rfl rfl rfl rfl (by decide) rfl (by decide) (by decide) rfl (by decide) rfl hl.1 rfl (Nat.le_of_ble_eq_true rfl) dX8_begin_41 ⟨Nat.zero_le _, Nat.zero_le _⟩ (fun H locs hP hD hS => ?_)
  refine lv_goto (tgt := 63) hx hb dX8_begin_44 (by decide) ?_
  refine lv_aload_n hx hb dX8_begin_63 rfl (lv_at hl 0 rfl) ?_
  refine lv_iconst (v := 0) hx hb dX8_begin_64 (by decide) ?_
  refine va_put (D := D) (ci := 7) (v := .int 0) (ty := .int) (C := RX8) (T := TX8) (N := 13) hx hb hts hi_X8 tyX8 tyX8_ok nmX8 hown hK hP hD hS 0 rfl rfl 2 (by decide) hf_29 (fun _ h9 => h9) rfl (by decide +kernel) rfl rfl (Nat.le_of_ble_eq_true rfl) dX8_begin_65 (fun H locs hP hD hS => ?_)
  have hP : va_P D vwCl [(h0, .inr (7, [.ref kq, .ref sq, .int 0, .int (nI sz), .int 1, .int 0, .ref cq, .ref tq, .ref rq, .int τ.1.2.1, .int τ.1.2.2, .int τ.2.1, .int τ.2.2])), (kq, .inl (kA, 32, .inl f)), (sq, .inl (sA, 12, .inl g)), (cq, .inl (cA, 384, .inl ((md_B1 (md_z μ.1 384, md_z μ.2 3) f g).1))), (tq, .inl (tA, 3, .inl ((md_B1 (md_z μ.1 384, md_z μ.2 3) f g).2))), (rq, .inl (rA, 256, .inl τ.1.1))] H := hP
  have hD : va_D A [(h0, .inr (7, [.ref kq, .ref sq, .int 0, .int (nI sz), .int 1, .int 0, .ref cq, .ref tq, .ref rq, .int τ.1.2.1, .int τ.1.2.2, .int τ.2.1, .int τ.2.2])), (kq, .inl (kA, 32, .inl f)), (sq, .inl (sA, 12, .inl g)), (cq, .inl (cA, 384, .inl ((md_B1 (md_z μ.1 384, md_z μ.2 3) f g).1))), (tq, .inl (tA, 3, .inl ((md_B1 (md_z μ.1 384, md_z μ.2 3) f g).2))), (rq, .inl (rA, 256, .inl τ.1.1))] := hD
  refine lv_aload_n hx hb dX8_begin_68 rfl (lv_at hl 0 rfl) ?_
  refine lv_iconst (v := 0) hx hb dX8_begin_69 (by decide) ?_
  refine va_put (D := D) (ci := 7) (v := .int 0) (ty := .int) (C := RX8) (T := TX8) (N := 13) hx hb hts hi_X8 tyX8 tyX8_ok nmX8 hown hK hP hD hS 0 rfl rfl 3 (by decide) hf_34 (fun _ h9 => h9) rfl (by decide +kernel) rfl rfl (Nat.le_of_ble_eq_true rfl) dX8_begin_70 (fun H locs hP hD hS => ?_)
  have hP : va_P D vwCl [(h0, .inr (7, [.ref kq, .ref sq, .int 0, .int 0, .int 1, .int 0, .ref cq, .ref tq, .ref rq, .int τ.1.2.1, .int τ.1.2.2, .int τ.2.1, .int τ.2.2])), (kq, .inl (kA, 32, .inl f)), (sq, .inl (sA, 12, .inl g)), (cq, .inl (cA, 384, .inl ((md_B1 (md_z μ.1 384, md_z μ.2 3) f g).1))), (tq, .inl (tA, 3, .inl ((md_B1 (md_z μ.1 384, md_z μ.2 3) f g).2))), (rq, .inl (rA, 256, .inl τ.1.1))] H := hP
  have hD : va_D A [(h0, .inr (7, [.ref kq, .ref sq, .int 0, .int 0, .int 1, .int 0, .ref cq, .ref tq, .ref rq, .int τ.1.2.1, .int τ.1.2.2, .int τ.2.1, .int τ.2.2])), (kq, .inl (kA, 32, .inl f)), (sq, .inl (sA, 12, .inl g)), (cq, .inl (cA, 384, .inl ((md_B1 (md_z μ.1 384, md_z μ.2 3) f g).1))), (tq, .inl (tA, 3, .inl ((md_B1 (md_z μ.1 384, md_z μ.2 3) f g).2))), (rq, .inl (rA, 256, .inl τ.1.1))] := hD
  refine lv_iconst (v := 1) hx hb dX8_begin_73 (by decide) ?_
  exact ct_zret hx hb hr hlk hP hK hD hS rfl rfl dX8_begin_74
set_option maxHeartbeats 4000000 in
set_option maxRecDepth 100000 in
/-- Model.begin(2) -/
theorem c_md_begin2F (l : Launch) (D : va_G) (h0 kq sq cq tq rq : Nat) (mc gv : Int32) (kA sA cA tA rA : ClassId) (kz sz : Nat) (hkz : kz ≤ 32) (hsz : sz ≤ 12) (f g : Nat → Int32) (μ : MR) (τ : X5) (ht : tk 8 3 (nI kz) (nI sz) = 0) : Cti l D yX8_begin wsX8_begin ({ frames := 6, cells := 0, slots := 0, locals := 190 } : Room) [.ref h0, .int 2] [(kA, .int), (sA, .int), (cA, .int), (tA, .int), (rA, .int)] [(h0, .inr (7, [.ref kq, .ref sq, .int (nI kz), .int (nI sz), .int mc, .int gv, .ref cq, .ref tq, .ref rq, .int τ.1.2.1, .int τ.1.2.2, .int τ.2.1, .int τ.2.2])), (kq, .inl (kA, 32, .inl f)), (sq, .inl (sA, 12, .inl g)), (cq, .inl (cA, 384, .inl μ.1)), (tq, .inl (tA, 3, .inl μ.2)), (rq, .inl (rA, 256, .inl τ.1.1))] [(h0, .inr (7, [.ref kq, .ref sq, .int (nI kz), .int (nI sz), .int mc, .int gv, .ref cq, .ref tq, .ref rq, .int τ.1.2.1, .int τ.1.2.2, .int τ.2.1, .int τ.2.2])), (kq, .inl (kA, 32, .inl f)), (sq, .inl (sA, 12, .inl g)), (cq, .inl (cA, 384, .inl μ.1)), (tq, .inl (tA, 3, .inl μ.2)), (rq, .inl (rA, 256, .inl τ.1.1))] 0 := by
  refine ct_of (cc := cX8_begin) (maxL := 2) (ret := (some .boolean)) (by decide) rfl (Nat.le_of_ble_eq_true rfl) ?_
  intro p e s m below meth c A H locs ls hx hb hr hml hts hown hlk hnm hF hP hK hD hA hS hl
  have hown : s.vm.findClass RX8 = some m.cls := hown
  have hl : lv_has ls 2 [(0, .ref h0), (1, .int 2)] := hl
  have cw_X8_fits := cwV (R := ({ frames := 6, cells := 0, slots := 0, locals := 190 } : Room)) (rm := ({ frames := 0, cells := 0, slots := 0, locals := 0 } : Room)) 1 hts gX8_begin_X8_fits rfl rfl rfl (by decide +kernel) ⟨Nat.le_of_ble_eq_true rfl, Nat.le_of_ble_eq_true rfl⟩
  refine lv_aload_n hx hb dX8_begin_0 rfl (lv_at hl 0 rfl) ?_
  refine lv_iload_n hx hb dX8_begin_1 rfl (lv_at hl 1 rfl) ?_
  refine ct_callVi (As := [.int 2]) (rest := []) (wr := [(kq, .inl (kA, 32, .inl f)), (sq, .inl (sA, 12, .inl g)), (cq, .inl (cA, 384, .inl μ.1)), (tq, .inl (tA, 3, .inl μ.2)), (rq, .inl (rA, 256, .inl τ.1.1))]) (ws2 := [(h0, .inr (7, [.ref kq, .ref sq, .int (nI kz), .int (nI sz), .int mc, .int gv, .ref cq, .ref tq, .ref rq, .int τ.1.2.1, .int τ.1.2.2, .int τ.2.1, .int τ.2.2])), (kq, .inl (kA, 32, .inl f)), (sq, .inl (sA, 12, .inl g)), (cq, .inl (cA, 384, .inl μ.1)), (tq, .inl (tA, 3, .inl μ.2)), (rq, .inl (rA, 256, .inl τ.1.1))]) ⟨hx, hb, hml, hown, hts⟩ (c_md_fits2 l D h0 kq sq cq tq rq (nI kz) (nI sz) mc gv τ.1.2.1 τ.1.2.2 τ.2.1 τ.2.2) cw_X8_fits [] rfl [0] [1, 2, 3, 4, 5] [5, 0, 1, 2, 3, 4] hF hK hP hD hS hA 0 7 rfl rfl rfl rfl (by decide) rfl (by decide) (by decide) rfl (by decide) rfl hl.1 rfl (Nat.le_of_ble_eq_true rfl) dX8_begin_2 ⟨Nat.zero_le _, Nat.zero_le _⟩ (fun H locs hP hD hS => ?_)
  refine lv_if_ne (tgt := 10) hx hb dX8_begin_5 (by decide) (fun hh => absurd ht hh) (fun _ => ?_)
  refine lv_iconst (v := 0) hx hb dX8_begin_8 (by decide) ?_
  exact ct_zret hx hb hr hlk hP hK hD hS rfl rfl dX8_begin_9
set_option maxHeartbeats 4000000 in
set_option maxRecDepth 100000 in
/-- Model.begin(2) -/
theorem c_md_begin2T (l : Launch) (D : va_G) (h0 kq sq cq tq rq : Nat) (mc gv : Int32) (kA sA cA tA rA : ClassId) (kz sz : Nat) (hkz : kz ≤ 32) (hsz : sz ≤ 12) (f g : Nat → Int32) (μ : MR) (τ : X5) (ht : tk 8 3 (nI kz) (nI sz) = 1) : Cti l D yX8_begin wsX8_begin ({ frames := 6, cells := 0, slots := 0, locals := 190 } : Room) [.ref h0, .int 2] [(kA, .int), (sA, .int), (cA, .int), (tA, .int), (rA, .int)] [(h0, .inr (7, [.ref kq, .ref sq, .int (nI kz), .int (nI sz), .int mc, .int gv, .ref cq, .ref tq, .ref rq, .int τ.1.2.1, .int τ.1.2.2, .int τ.2.1, .int τ.2.2])), (kq, .inl (kA, 32, .inl f)), (sq, .inl (sA, 12, .inl g)), (cq, .inl (cA, 384, .inl μ.1)), (tq, .inl (tA, 3, .inl μ.2)), (rq, .inl (rA, 256, .inl τ.1.1))] [(h0, .inr (7, [.ref kq, .ref sq, .int (nI 0), .int (nI 0), .int 2, .int 0, .ref cq, .ref tq, .ref rq, .int τ.1.2.1, .int τ.1.2.2, .int τ.2.1, .int τ.2.2])), (kq, .inl (kA, 32, .inl f)), (sq, .inl (sA, 12, .inl g)), (cq, .inl (cA, 384, .inl ((md_B2 (md_z μ.1 384, md_z μ.2 3) f g).1))), (tq, .inl (tA, 3, .inl ((md_B2 (md_z μ.1 384, md_z μ.2 3) f g).2))), (rq, .inl (rA, 256, .inl τ.1.1))] 1 := by
  refine ct_of (cc := cX8_begin) (maxL := 2) (ret := (some .boolean)) (by decide) rfl (Nat.le_of_ble_eq_true rfl) ?_
  intro p e s m below meth c A H locs ls hx hb hr hml hts hown hlk hnm hF hP hK hD hA hS hl
  have hown : s.vm.findClass RX8 = some m.cls := hown
  have hl : lv_has ls 2 [(0, .ref h0), (1, .int 2)] := hl
  have cw_X8_fits := cwV (R := ({ frames := 6, cells := 0, slots := 0, locals := 190 } : Room)) (rm := ({ frames := 0, cells := 0, slots := 0, locals := 0 } : Room)) 1 hts gX8_begin_X8_fits rfl rfl rfl (by decide +kernel) ⟨Nat.le_of_ble_eq_true rfl, Nat.le_of_ble_eq_true rfl⟩
  have hf_16 := hts (.fieldLink RX8 16 "BitStreamsModel" "machine" "I") (by decide +kernel)
  have hi_X8 : ∀ w ∈ u_ws RX8 TX8 13, w ∈ wsX8_begin := by decide +kernel
  have hf_79 := hts (.fieldLink RX8 79 "BitStreamsModel" "given" "I") (by decide +kernel)
  have cw_X8_clean := cwV (R := ({ frames := 6, cells := 0, slots := 0, locals := 190 } : Room)) (rm := ({ frames := 0, cells := 0, slots := 0, locals := 0 } : Room)) 0 hts gX8_begin_X8_clean rfl rfl rfl (by decide +kernel) ⟨Nat.le_of_ble_eq_true rfl, Nat.le_of_ble_eq_true rfl⟩
  have cw_X8_beginStops := cwV (R := ({ frames := 6, cells := 0, slots := 0, locals := 190 } : Room)) (rm := ({ frames := 4, cells := 0, slots := 0, locals := 91 } : Room)) 0 hts gX8_begin_X8_beginStops rfl rfl rfl (by decide +kernel) ⟨Nat.le_of_ble_eq_true rfl, Nat.le_of_ble_eq_true rfl⟩
  have hf_29 := hts (.fieldLink RX8 29 "BitStreamsModel" "keySize" "I") (by decide +kernel)
  have hf_34 := hts (.fieldLink RX8 34 "BitStreamsModel" "startSize" "I") (by decide +kernel)
  refine lv_aload_n hx hb dX8_begin_0 rfl (lv_at hl 0 rfl) ?_
  refine lv_iload_n hx hb dX8_begin_1 rfl (lv_at hl 1 rfl) ?_
  refine ct_callVi (As := [.int 2]) (rest := []) (wr := [(kq, .inl (kA, 32, .inl f)), (sq, .inl (sA, 12, .inl g)), (cq, .inl (cA, 384, .inl μ.1)), (tq, .inl (tA, 3, .inl μ.2)), (rq, .inl (rA, 256, .inl τ.1.1))]) (ws2 := [(h0, .inr (7, [.ref kq, .ref sq, .int (nI kz), .int (nI sz), .int mc, .int gv, .ref cq, .ref tq, .ref rq, .int τ.1.2.1, .int τ.1.2.2, .int τ.2.1, .int τ.2.2])), (kq, .inl (kA, 32, .inl f)), (sq, .inl (sA, 12, .inl g)), (cq, .inl (cA, 384, .inl μ.1)), (tq, .inl (tA, 3, .inl μ.2)), (rq, .inl (rA, 256, .inl τ.1.1))]) ⟨hx, hb, hml, hown, hts⟩ (c_md_fits2 l D h0 kq sq cq tq rq (nI kz) (nI sz) mc gv τ.1.2.1 τ.1.2.2 τ.2.1 τ.2.2) cw_X8_fits [] rfl [0] [1, 2, 3, 4, 5] [5, 0, 1, 2, 3, 4] hF hK hP hD hS hA 0 7 rfl rfl rfl rfl (by decide) rfl (by decide) (by decide) rfl (by decide) rfl hl.1 rfl (Nat.le_of_ble_eq_true rfl) dX8_begin_2 ⟨Nat.zero_le _, Nat.zero_le _⟩ (fun H locs hP hD hS => ?_)
  refine lv_if_ne (tgt := 10) hx hb dX8_begin_5 (by decide) (fun _ => ?_) (fun hh => absurd hh (by rw [ht]; decide))
  refine lv_aload_n hx hb dX8_begin_10 rfl (lv_at hl 0 rfl) ?_
  refine lv_iload_n hx hb dX8_begin_11 rfl (lv_at hl 1 rfl) ?_
  refine va_put (D := D) (ci := 7) (v := .int 2) (ty := .int) (C := RX8) (T := TX8) (N := 13) hx hb hts hi_X8 tyX8 tyX8_ok nmX8 hown hK hP hD hS 0 rfl rfl 4 (by decide) hf_16 (fun _ h9 => h9) rfl (by decide +kernel) rfl rfl (Nat.le_of_ble_eq_true rfl) dX8_begin_12 (fun H locs hP hD hS => ?_)
  have hP : va_P D vwCl [(h0, .inr (7, [.ref kq, .ref sq, .int (nI kz), .int (nI sz), .int 2, .int gv, .ref cq, .ref tq, .ref rq, .int τ.1.2.1, .int τ.1.2.2, .int τ.2.1, .int τ.2.2])), (kq, .inl (kA, 32, .inl f)), (sq, .inl (sA, 12, .inl g)), (cq, .inl (cA, 384, .inl μ.1)), (tq, .inl (tA, 3, .inl μ.2)), (rq, .inl (rA, 256, .inl τ.1.1))] H := hP
  have hD : va_D A [(h0, .inr (7, [.ref kq, .ref sq, .int (nI kz), .int (nI sz), .int 2, .int gv, .ref cq, .ref tq, .ref rq, .int τ.1.2.1, .int τ.1.2.2, .int τ.2.1, .int τ.2.2])), (kq, .inl (kA, 32, .inl f)), (sq, .inl (sA, 12, .inl g)), (cq, .inl (cA, 384, .inl μ.1)), (tq, .inl (tA, 3, .inl μ.2)), (rq, .inl (rA, 256, .inl τ.1.1))] := hD
  refine lv_aload_n hx hb dX8_begin_15 rfl (lv_at hl 0 rfl) ?_
  refine lv_iconst (v := 0) hx hb dX8_begin_16 (by decide) ?_
  refine va_put (D := D) (ci := 7) (v := .int 0) (ty := .int) (C := RX8) (T := TX8) (N := 13) hx hb hts hi_X8 tyX8 tyX8_ok nmX8 hown hK hP hD hS 0 rfl rfl 5 (by decide) hf_79 (fun _ h9 => h9) rfl (by decide +kernel) rfl rfl (Nat.le_of_ble_eq_true rfl) dX8_begin_17 (fun H locs hP hD hS => ?_)
  have hP : va_P D vwCl [(h0, .inr (7, [.ref kq, .ref sq, .int (nI kz), .int (nI sz), .int 2, .int 0, .ref cq, .ref tq, .ref rq, .int τ.1.2.1, .int τ.1.2.2, .int τ.2.1, .int τ.2.2])), (kq, .inl (kA, 32, .inl f)), (sq, .inl (sA, 12, .inl g)), (cq, .inl (cA, 384, .inl μ.1)), (tq, .inl (tA, 3, .inl μ.2)), (rq, .inl (rA, 256, .inl τ.1.1))] H := hP
  have hD : va_D A [(h0, .inr (7, [.ref kq, .ref sq, .int (nI kz), .int (nI sz), .int 2, .int 0, .ref cq, .ref tq, .ref rq, .int τ.1.2.1, .int τ.1.2.2, .int τ.2.1, .int τ.2.2])), (kq, .inl (kA, 32, .inl f)), (sq, .inl (sA, 12, .inl g)), (cq, .inl (cA, 384, .inl μ.1)), (tq, .inl (tA, 3, .inl μ.2)), (rq, .inl (rA, 256, .inl τ.1.1))] := hD
  refine lv_aload_n hx hb dX8_begin_20 rfl (lv_at hl 0 rfl) ?_
  refine ct_callVv (As := []) (rest := []) (wr := [(kq, .inl (kA, 32, .inl f)), (sq, .inl (sA, 12, .inl g)), (rq, .inl (rA, 256, .inl τ.1.1))]) (ws2 := [(h0, .inr (7, [.ref kq, .ref sq, .int (nI kz), .int (nI sz), .int 2, .int 0, .ref cq, .ref tq, .ref rq, .int τ.1.2.1, .int τ.1.2.2, .int τ.2.1, .int τ.2.2])), (kq, .inl (kA, 32, .inl f)), (sq, .inl (sA, 12, .inl g)), (cq, .inl (cA, 384, .inl ((md_z μ.1 384, md_z μ.2 3).1))), (tq, .inl (tA, 3, .inl ((md_z μ.1 384, md_z μ.2 3).2))), (rq, .inl (rA, 256, .inl τ.1.1))]) ⟨hx, hb, hml, hown, hts⟩ (c_md_clean l D h0 kq sq cq tq rq (nI kz) (nI sz) 2 0 τ.1.2.1 τ.1.2.2 τ.2.1 τ.2.2 cA tA μ) cw_X8_clean [2, 3] rfl [0, 3, 4] [1, 2, 5] [3, 0, 1, 4, 5, 2] hF hK hP hD hS hA 0 7 rfl rfl rfl rfl (by decide) rfl (by decide) (by decide) rfl (by decide) rfl hl.1 rfl (Nat.le_of_ble_eq_true rfl) dX8_begin_21 ⟨Nat.zero_le _, Nat.zero_le _⟩ (fun H locs hP hD hS => ?_)
  refine lv_iload_n hx hb dX8_begin_24 rfl (lv_at hl 1 rfl) ?_
  refine lv_if_ne (tgt := 35) hx hb dX8_begin_25 (by decide) (fun _ => ?_) (fun hh => absurd hh (by decide))
  refine lv_iload_n hx hb dX8_begin_35 rfl (lv_at hl 1 rfl) ?_
  refine lv_iconst (v := 1) hx hb dX8_begin_36 (by decide) ?_
  refine lv_icmp_ne (tgt := 47) hx hb dX8_begin_37 (by decide) (fun _ => ?_) (fun hh => absurd hh (by decide))
  refine lv_iload_n hx hb dX8_begin_47 rfl (lv_at hl 1 rfl) ?_
  refine lv_iconst (v := 2) hx hb dX8_begin_48 (by decide) ?_
  refine lv_icmp_ne (tgt := 59) hx hb dX8_begin_49 (by decide) (fun hh => absurd (by decide) hh) (fun _ => ?_)
  refine lv_aload_n hx hb dX8_begin_52 rfl (lv_at hl 0 rfl) ?_
  refine ct_callVv (As := []) (rest := []) (wr := [(rq, .inl (rA, 256, .inl τ.1.1))]) (ws2 := [(h0, .inr (7, [.ref kq, .ref sq, .int (nI kz), .int (nI sz), .int 2, .int 0, .ref cq, .ref tq, .ref rq, .int τ.1.2.1, .int τ.1.2.2, .int τ.2.1, .int τ.2.2])), (kq, .inl (kA, 32, .inl f)), (sq, .inl (sA, 12, .inl g)), (cq, .inl (cA, 384, .inl ((md_B2 (md_z μ.1 384, md_z μ.2 3) f g).1))), (tq, .inl (tA, 3, .inl ((md_B2 (md_z μ.1 384, md_z μ.2 3) f g).2))), (rq, .inl (rA, 256, .inl τ.1.1))]) ⟨hx, hb, hml, hown, hts⟩ (c_md_B2 l D h0 kq sq cq tq rq (nI kz) (nI sz) 2 0 τ.1.2.1 τ.1.2.2 τ.2.1 τ.2.2 kA sA cA tA f g (md_z μ.1 384, md_z μ.2 3)) cw_X8_beginStops [0, 1, 2, 3] rfl [0, 1, 2, 3, 4] [5] [1, 2, 3, 4, 5, 0] hF hK hP hD hS hA 0 7 rfl rfl rfl rfl (by decide) rfl (by decide) (by decide) rfl (by decide) rfl hl.1 rfl (Nat.le_of_ble_eq_true rfl) dX8_begin_53 ⟨Nat.zero_le _, Nat.zero_le _⟩ (fun H locs hP hD hS => ?_)
  refine lv_goto (tgt := 63) hx hb dX8_begin_56 (by decide) ?_
  refine lv_aload_n hx hb dX8_begin_63 rfl (lv_at hl 0 rfl) ?_
  refine lv_iconst (v := 0) hx hb dX8_begin_64 (by decide) ?_
  refine va_put (D := D) (ci := 7) (v := .int 0) (ty := .int) (C := RX8) (T := TX8) (N := 13) hx hb hts hi_X8 tyX8 tyX8_ok nmX8 hown hK hP hD hS 0 rfl rfl 2 (by decide) hf_29 (fun _ h9 => h9) rfl (by decide +kernel) rfl rfl (Nat.le_of_ble_eq_true rfl) dX8_begin_65 (fun H locs hP hD hS => ?_)
  have hP : va_P D vwCl [(h0, .inr (7, [.ref kq, .ref sq, .int 0, .int (nI sz), .int 2, .int 0, .ref cq, .ref tq, .ref rq, .int τ.1.2.1, .int τ.1.2.2, .int τ.2.1, .int τ.2.2])), (kq, .inl (kA, 32, .inl f)), (sq, .inl (sA, 12, .inl g)), (cq, .inl (cA, 384, .inl ((md_B2 (md_z μ.1 384, md_z μ.2 3) f g).1))), (tq, .inl (tA, 3, .inl ((md_B2 (md_z μ.1 384, md_z μ.2 3) f g).2))), (rq, .inl (rA, 256, .inl τ.1.1))] H := hP
  have hD : va_D A [(h0, .inr (7, [.ref kq, .ref sq, .int 0, .int (nI sz), .int 2, .int 0, .ref cq, .ref tq, .ref rq, .int τ.1.2.1, .int τ.1.2.2, .int τ.2.1, .int τ.2.2])), (kq, .inl (kA, 32, .inl f)), (sq, .inl (sA, 12, .inl g)), (cq, .inl (cA, 384, .inl ((md_B2 (md_z μ.1 384, md_z μ.2 3) f g).1))), (tq, .inl (tA, 3, .inl ((md_B2 (md_z μ.1 384, md_z μ.2 3) f g).2))), (rq, .inl (rA, 256, .inl τ.1.1))] := hD
  refine lv_aload_n hx hb dX8_begin_68 rfl (lv_at hl 0 rfl) ?_
  refine lv_iconst (v := 0) hx hb dX8_begin_69 (by decide) ?_
  refine va_put (D := D) (ci := 7) (v := .int 0) (ty := .int) (C := RX8) (T := TX8) (N := 13) hx hb hts hi_X8 tyX8 tyX8_ok nmX8 hown hK hP hD hS 0 rfl rfl 3 (by decide) hf_34 (fun _ h9 => h9) rfl (by decide +kernel) rfl rfl (Nat.le_of_ble_eq_true rfl) dX8_begin_70 (fun H locs hP hD hS => ?_)
  have hP : va_P D vwCl [(h0, .inr (7, [.ref kq, .ref sq, .int 0, .int 0, .int 2, .int 0, .ref cq, .ref tq, .ref rq, .int τ.1.2.1, .int τ.1.2.2, .int τ.2.1, .int τ.2.2])), (kq, .inl (kA, 32, .inl f)), (sq, .inl (sA, 12, .inl g)), (cq, .inl (cA, 384, .inl ((md_B2 (md_z μ.1 384, md_z μ.2 3) f g).1))), (tq, .inl (tA, 3, .inl ((md_B2 (md_z μ.1 384, md_z μ.2 3) f g).2))), (rq, .inl (rA, 256, .inl τ.1.1))] H := hP
  have hD : va_D A [(h0, .inr (7, [.ref kq, .ref sq, .int 0, .int 0, .int 2, .int 0, .ref cq, .ref tq, .ref rq, .int τ.1.2.1, .int τ.1.2.2, .int τ.2.1, .int τ.2.2])), (kq, .inl (kA, 32, .inl f)), (sq, .inl (sA, 12, .inl g)), (cq, .inl (cA, 384, .inl ((md_B2 (md_z μ.1 384, md_z μ.2 3) f g).1))), (tq, .inl (tA, 3, .inl ((md_B2 (md_z μ.1 384, md_z μ.2 3) f g).2))), (rq, .inl (rA, 256, .inl τ.1.1))] := hD
  refine lv_iconst (v := 1) hx hb dX8_begin_73 (by decide) ?_
  exact ct_zret hx hb hr hlk hP hK hD hS rfl rfl dX8_begin_74
set_option maxHeartbeats 4000000 in
set_option maxRecDepth 100000 in
/-- Model.begin(3) -/
theorem c_md_begin3F (l : Launch) (D : va_G) (h0 kq sq cq tq rq : Nat) (mc gv : Int32) (kA sA cA tA rA : ClassId) (kz sz : Nat) (hkz : kz ≤ 32) (hsz : sz ≤ 12) (f g : Nat → Int32) (μ : MR) (τ : X5) (ht : md_3 (nI kz) (nI sz) = 0) : Cti l D yX8_begin wsX8_begin ({ frames := 6, cells := 0, slots := 0, locals := 190 } : Room) [.ref h0, .int 3] [(kA, .int), (sA, .int), (cA, .int), (tA, .int), (rA, .int)] [(h0, .inr (7, [.ref kq, .ref sq, .int (nI kz), .int (nI sz), .int mc, .int gv, .ref cq, .ref tq, .ref rq, .int τ.1.2.1, .int τ.1.2.2, .int τ.2.1, .int τ.2.2])), (kq, .inl (kA, 32, .inl f)), (sq, .inl (sA, 12, .inl g)), (cq, .inl (cA, 384, .inl μ.1)), (tq, .inl (tA, 3, .inl μ.2)), (rq, .inl (rA, 256, .inl τ.1.1))] [(h0, .inr (7, [.ref kq, .ref sq, .int (nI kz), .int (nI sz), .int mc, .int gv, .ref cq, .ref tq, .ref rq, .int τ.1.2.1, .int τ.1.2.2, .int τ.2.1, .int τ.2.2])), (kq, .inl (kA, 32, .inl f)), (sq, .inl (sA, 12, .inl g)), (cq, .inl (cA, 384, .inl μ.1)), (tq, .inl (tA, 3, .inl μ.2)), (rq, .inl (rA, 256, .inl τ.1.1))] 0 := by
  refine ct_of (cc := cX8_begin) (maxL := 2) (ret := (some .boolean)) (by decide) rfl (Nat.le_of_ble_eq_true rfl) ?_
  intro p e s m below meth c A H locs ls hx hb hr hml hts hown hlk hnm hF hP hK hD hA hS hl
  have hown : s.vm.findClass RX8 = some m.cls := hown
  have hl : lv_has ls 2 [(0, .ref h0), (1, .int 3)] := hl
  have cw_X8_fits := cwV (R := ({ frames := 6, cells := 0, slots := 0, locals := 190 } : Room)) (rm := ({ frames := 0, cells := 0, slots := 0, locals := 0 } : Room)) 1 hts gX8_begin_X8_fits rfl rfl rfl (by decide +kernel) ⟨Nat.le_of_ble_eq_true rfl, Nat.le_of_ble_eq_true rfl⟩
  refine lv_aload_n hx hb dX8_begin_0 rfl (lv_at hl 0 rfl) ?_
  refine lv_iload_n hx hb dX8_begin_1 rfl (lv_at hl 1 rfl) ?_
  refine ct_callVi (As := [.int 3]) (rest := []) (wr := [(kq, .inl (kA, 32, .inl f)), (sq, .inl (sA, 12, .inl g)), (cq, .inl (cA, 384, .inl μ.1)), (tq, .inl (tA, 3, .inl μ.2)), (rq, .inl (rA, 256, .inl τ.1.1))]) (ws2 := [(h0, .inr (7, [.ref kq, .ref sq, .int (nI kz), .int (nI sz), .int mc, .int gv, .ref cq, .ref tq, .ref rq, .int τ.1.2.1, .int τ.1.2.2, .int τ.2.1, .int τ.2.2])), (kq, .inl (kA, 32, .inl f)), (sq, .inl (sA, 12, .inl g)), (cq, .inl (cA, 384, .inl μ.1)), (tq, .inl (tA, 3, .inl μ.2)), (rq, .inl (rA, 256, .inl τ.1.1))]) ⟨hx, hb, hml, hown, hts⟩ (c_md_fits3 l D h0 kq sq cq tq rq (nI kz) (nI sz) mc gv τ.1.2.1 τ.1.2.2 τ.2.1 τ.2.2) cw_X8_fits [] rfl [0] [1, 2, 3, 4, 5] [5, 0, 1, 2, 3, 4] hF hK hP hD hS hA 0 7 rfl rfl rfl rfl (by decide) rfl (by decide) (by decide) rfl (by decide) rfl hl.1 rfl (Nat.le_of_ble_eq_true rfl) dX8_begin_2 ⟨Nat.zero_le _, Nat.zero_le _⟩ (fun H locs hP hD hS => ?_)
  refine lv_if_ne (tgt := 10) hx hb dX8_begin_5 (by decide) (fun hh => absurd ht hh) (fun _ => ?_)
  refine lv_iconst (v := 0) hx hb dX8_begin_8 (by decide) ?_
  exact ct_zret hx hb hr hlk hP hK hD hS rfl rfl dX8_begin_9
set_option maxHeartbeats 4000000 in
set_option maxRecDepth 100000 in
/-- Model.begin(3) -/
theorem c_md_begin3T (l : Launch) (D : va_G) (h0 kq sq cq tq rq : Nat) (mc gv : Int32) (kA sA cA tA rA : ClassId) (kz sz : Nat) (hkz : kz ≤ 32) (hsz : sz ≤ 12) (f g : Nat → Int32) (μ : MR) (τ : X5) (ht : md_3 (nI kz) (nI sz) = 1) (hz0 : 0 < kz) : Cti l D yX8_begin wsX8_begin ({ frames := 6, cells := 0, slots := 0, locals := 190 } : Room) [.ref h0, .int 3] [(kA, .int), (sA, .int), (cA, .int), (tA, .int), (rA, .int)] [(h0, .inr (7, [.ref kq, .ref sq, .int (nI kz), .int (nI sz), .int mc, .int gv, .ref cq, .ref tq, .ref rq, .int τ.1.2.1, .int τ.1.2.2, .int τ.2.1, .int τ.2.2])), (kq, .inl (kA, 32, .inl f)), (sq, .inl (sA, 12, .inl g)), (cq, .inl (cA, 384, .inl μ.1)), (tq, .inl (tA, 3, .inl μ.2)), (rq, .inl (rA, 256, .inl τ.1.1))] [(h0, .inr (7, [.ref kq, .ref sq, .int (nI 0), .int (nI 0), .int 3, .int 0, .ref cq, .ref tq, .ref rq, .int ((md_B3 τ f kz).1.2.1), .int ((md_B3 τ f kz).1.2.2), .int ((md_B3 τ f kz).2.1), .int ((md_B3 τ f kz).2.2)])), (kq, .inl (kA, 32, .inl f)), (sq, .inl (sA, 12, .inl g)), (cq, .inl (cA, 384, .inl ((md_z μ.1 384, md_z μ.2 3).1))), (tq, .inl (tA, 3, .inl ((md_z μ.1 384, md_z μ.2 3).2))), (rq, .inl (rA, 256, .inl ((md_B3 τ f kz).1.1)))] 1 := by
  refine ct_of (cc := cX8_begin) (maxL := 2) (ret := (some .boolean)) (by decide) rfl (Nat.le_of_ble_eq_true rfl) ?_
  intro p e s m below meth c A H locs ls hx hb hr hml hts hown hlk hnm hF hP hK hD hA hS hl
  have hown : s.vm.findClass RX8 = some m.cls := hown
  have hl : lv_has ls 2 [(0, .ref h0), (1, .int 3)] := hl
  have cw_X8_fits := cwV (R := ({ frames := 6, cells := 0, slots := 0, locals := 190 } : Room)) (rm := ({ frames := 0, cells := 0, slots := 0, locals := 0 } : Room)) 1 hts gX8_begin_X8_fits rfl rfl rfl (by decide +kernel) ⟨Nat.le_of_ble_eq_true rfl, Nat.le_of_ble_eq_true rfl⟩
  have hf_16 := hts (.fieldLink RX8 16 "BitStreamsModel" "machine" "I") (by decide +kernel)
  have hi_X8 : ∀ w ∈ u_ws RX8 TX8 13, w ∈ wsX8_begin := by decide +kernel
  have hf_79 := hts (.fieldLink RX8 79 "BitStreamsModel" "given" "I") (by decide +kernel)
  have cw_X8_clean := cwV (R := ({ frames := 6, cells := 0, slots := 0, locals := 190 } : Room)) (rm := ({ frames := 0, cells := 0, slots := 0, locals := 0 } : Room)) 0 hts gX8_begin_X8_clean rfl rfl rfl (by decide +kernel) ⟨Nat.le_of_ble_eq_true rfl, Nat.le_of_ble_eq_true rfl⟩
  have cw_X8_beginRow := cwV (R := ({ frames := 6, cells := 0, slots := 0, locals := 190 } : Room)) (rm := ({ frames := 1, cells := 0, slots := 0, locals := 23 } : Room)) 0 hts gX8_begin_X8_beginRow rfl rfl rfl (by decide +kernel) ⟨Nat.le_of_ble_eq_true rfl, Nat.le_of_ble_eq_true rfl⟩
  have hf_29 := hts (.fieldLink RX8 29 "BitStreamsModel" "keySize" "I") (by decide +kernel)
  have hf_34 := hts (.fieldLink RX8 34 "BitStreamsModel" "startSize" "I") (by decide +kernel)
  refine lv_aload_n hx hb dX8_begin_0 rfl (lv_at hl 0 rfl) ?_
  refine lv_iload_n hx hb dX8_begin_1 rfl (lv_at hl 1 rfl) ?_
  refine ct_callVi (As := [.int 3]) (rest := []) (wr := [(kq, .inl (kA, 32, .inl f)), (sq, .inl (sA, 12, .inl g)), (cq, .inl (cA, 384, .inl μ.1)), (tq, .inl (tA, 3, .inl μ.2)), (rq, .inl (rA, 256, .inl τ.1.1))]) (ws2 := [(h0, .inr (7, [.ref kq, .ref sq, .int (nI kz), .int (nI sz), .int mc, .int gv, .ref cq, .ref tq, .ref rq, .int τ.1.2.1, .int τ.1.2.2, .int τ.2.1, .int τ.2.2])), (kq, .inl (kA, 32, .inl f)), (sq, .inl (sA, 12, .inl g)), (cq, .inl (cA, 384, .inl μ.1)), (tq, .inl (tA, 3, .inl μ.2)), (rq, .inl (rA, 256, .inl τ.1.1))]) ⟨hx, hb, hml, hown, hts⟩ (c_md_fits3 l D h0 kq sq cq tq rq (nI kz) (nI sz) mc gv τ.1.2.1 τ.1.2.2 τ.2.1 τ.2.2) cw_X8_fits [] rfl [0] [1, 2, 3, 4, 5] [5, 0, 1, 2, 3, 4] hF hK hP hD hS hA 0 7 rfl rfl rfl rfl (by decide) rfl (by decide) (by decide) rfl (by decide) rfl hl.1 rfl (Nat.le_of_ble_eq_true rfl) dX8_begin_2 ⟨Nat.zero_le _, Nat.zero_le _⟩ (fun H locs hP hD hS => ?_)
  refine lv_if_ne (tgt := 10) hx hb dX8_begin_5 (by decide) (fun _ => ?_) (fun hh => absurd hh (by rw [ht]; decide))
  refine lv_aload_n hx hb dX8_begin_10 rfl (lv_at hl 0 rfl) ?_
  refine lv_iload_n hx hb dX8_begin_11 rfl (lv_at hl 1 rfl) ?_
  refine va_put (D := D) (ci := 7) (v := .int 3) (ty := .int) (C := RX8) (T := TX8) (N := 13) hx hb hts hi_X8 tyX8 tyX8_ok nmX8 hown hK hP hD hS 0 rfl rfl 4 (by decide) hf_16 (fun _ h9 => h9) rfl (by decide +kernel) rfl rfl (Nat.le_of_ble_eq_true rfl) dX8_begin_12 (fun H locs hP hD hS => ?_)
  have hP : va_P D vwCl [(h0, .inr (7, [.ref kq, .ref sq, .int (nI kz), .int (nI sz), .int 3, .int gv, .ref cq, .ref tq, .ref rq, .int τ.1.2.1, .int τ.1.2.2, .int τ.2.1, .int τ.2.2])), (kq, .inl (kA, 32, .inl f)), (sq, .inl (sA, 12, .inl g)), (cq, .inl (cA, 384, .inl μ.1)), (tq, .inl (tA, 3, .inl μ.2)), (rq, .inl (rA, 256, .inl τ.1.1))] H := hP
  have hD : va_D A [(h0, .inr (7, [.ref kq, .ref sq, .int (nI kz), .int (nI sz), .int 3, .int gv, .ref cq, .ref tq, .ref rq, .int τ.1.2.1, .int τ.1.2.2, .int τ.2.1, .int τ.2.2])), (kq, .inl (kA, 32, .inl f)), (sq, .inl (sA, 12, .inl g)), (cq, .inl (cA, 384, .inl μ.1)), (tq, .inl (tA, 3, .inl μ.2)), (rq, .inl (rA, 256, .inl τ.1.1))] := hD
  refine lv_aload_n hx hb dX8_begin_15 rfl (lv_at hl 0 rfl) ?_
  refine lv_iconst (v := 0) hx hb dX8_begin_16 (by decide) ?_
  refine va_put (D := D) (ci := 7) (v := .int 0) (ty := .int) (C := RX8) (T := TX8) (N := 13) hx hb hts hi_X8 tyX8 tyX8_ok nmX8 hown hK hP hD hS 0 rfl rfl 5 (by decide) hf_79 (fun _ h9 => h9) rfl (by decide +kernel) rfl rfl (Nat.le_of_ble_eq_true rfl) dX8_begin_17 (fun H locs hP hD hS => ?_)
  have hP : va_P D vwCl [(h0, .inr (7, [.ref kq, .ref sq, .int (nI kz), .int (nI sz), .int 3, .int 0, .ref cq, .ref tq, .ref rq, .int τ.1.2.1, .int τ.1.2.2, .int τ.2.1, .int τ.2.2])), (kq, .inl (kA, 32, .inl f)), (sq, .inl (sA, 12, .inl g)), (cq, .inl (cA, 384, .inl μ.1)), (tq, .inl (tA, 3, .inl μ.2)), (rq, .inl (rA, 256, .inl τ.1.1))] H := hP
  have hD : va_D A [(h0, .inr (7, [.ref kq, .ref sq, .int (nI kz), .int (nI sz), .int 3, .int 0, .ref cq, .ref tq, .ref rq, .int τ.1.2.1, .int τ.1.2.2, .int τ.2.1, .int τ.2.2])), (kq, .inl (kA, 32, .inl f)), (sq, .inl (sA, 12, .inl g)), (cq, .inl (cA, 384, .inl μ.1)), (tq, .inl (tA, 3, .inl μ.2)), (rq, .inl (rA, 256, .inl τ.1.1))] := hD
  refine lv_aload_n hx hb dX8_begin_20 rfl (lv_at hl 0 rfl) ?_
  refine ct_callVv (As := []) (rest := []) (wr := [(kq, .inl (kA, 32, .inl f)), (sq, .inl (sA, 12, .inl g)), (rq, .inl (rA, 256, .inl τ.1.1))]) (ws2 := [(h0, .inr (7, [.ref kq, .ref sq, .int (nI kz), .int (nI sz), .int 3, .int 0, .ref cq, .ref tq, .ref rq, .int τ.1.2.1, .int τ.1.2.2, .int τ.2.1, .int τ.2.2])), (kq, .inl (kA, 32, .inl f)), (sq, .inl (sA, 12, .inl g)), (cq, .inl (cA, 384, .inl ((md_z μ.1 384, md_z μ.2 3).1))), (tq, .inl (tA, 3, .inl ((md_z μ.1 384, md_z μ.2 3).2))), (rq, .inl (rA, 256, .inl τ.1.1))]) ⟨hx, hb, hml, hown, hts⟩ (c_md_clean l D h0 kq sq cq tq rq (nI kz) (nI sz) 3 0 τ.1.2.1 τ.1.2.2 τ.2.1 τ.2.2 cA tA μ) cw_X8_clean [2, 3] rfl [0, 3, 4] [1, 2, 5] [3, 0, 1, 4, 5, 2] hF hK hP hD hS hA 0 7 rfl rfl rfl rfl (by decide) rfl (by decide) (by decide) rfl (by decide) rfl hl.1 rfl (Nat.le_of_ble_eq_true rfl) dX8_begin_21 ⟨Nat.zero_le _, Nat.zero_le _⟩ (fun H locs hP hD hS => ?_)
  refine lv_iload_n hx hb dX8_begin_24 rfl (lv_at hl 1 rfl) ?_
  refine lv_if_ne (tgt := 35) hx hb dX8_begin_25 (by decide) (fun _ => ?_) (fun hh => absurd hh (by decide))
  refine lv_iload_n hx hb dX8_begin_35 rfl (lv_at hl 1 rfl) ?_
  refine lv_iconst (v := 1) hx hb dX8_begin_36 (by decide) ?_
  refine lv_icmp_ne (tgt := 47) hx hb dX8_begin_37 (by decide) (fun _ => ?_) (fun hh => absurd hh (by decide))
  refine lv_iload_n hx hb dX8_begin_47 rfl (lv_at hl 1 rfl) ?_
  refine lv_iconst (v := 2) hx hb dX8_begin_48 (by decide) ?_
  refine lv_icmp_ne (tgt := 59) hx hb dX8_begin_49 (by decide) (fun _ => ?_) (fun hh => absurd hh (by decide))
  refine lv_aload_n hx hb dX8_begin_59 rfl (lv_at hl 0 rfl) ?_
  refine ct_callVv (As := []) (rest := []) (wr := [(sq, .inl (sA, 12, .inl g)), (cq, .inl (cA, 384, .inl ((md_z μ.1 384, md_z μ.2 3).1))), (tq, .inl (tA, 3, .inl ((md_z μ.1 384, md_z μ.2 3).2)))]) (ws2 := [(h0, .inr (7, [.ref kq, .ref sq, .int (nI kz), .int (nI sz), .int 3, .int 0, .ref cq, .ref tq, .ref rq, .int ((md_B3 τ f kz).1.2.1), .int ((md_B3 τ f kz).1.2.2), .int ((md_B3 τ f kz).2.1), .int ((md_B3 τ f kz).2.2)])), (kq, .inl (kA, 32, .inl f)), (sq, .inl (sA, 12, .inl g)), (cq, .inl (cA, 384, .inl ((md_z μ.1 384, md_z μ.2 3).1))), (tq, .inl (tA, 3, .inl ((md_z μ.1 384, md_z μ.2 3).2))), (rq, .inl (rA, 256, .inl ((md_B3 τ f kz).1.1)))]) ⟨hx, hb, hml, hown, hts⟩ (c_md_B3 l D h0 kq sq cq tq rq (nI sz) 3 0 kA rA kz hz0 hkz f τ) cw_X8_beginRow [0, 4] rfl [0, 1, 5] [2, 3, 4] [3, 4, 0, 1, 2, 5] hF hK hP hD hS hA 0 7 rfl rfl rfl rfl (by decide) rfl (by decide) (by decide) rfl (by decide) rfl hl.1 rfl (Nat.le_of_ble_eq_true rfl) dX8_begin_60 ⟨Nat.zero_le _, Nat.zero_le _⟩ (fun H locs hP hD hS => ?_)
  refine lv_aload_n hx hb dX8_begin_63 rfl (lv_at hl 0 rfl) ?_
  refine lv_iconst (v := 0) hx hb dX8_begin_64 (by decide) ?_
  refine va_put (D := D) (ci := 7) (v := .int 0) (ty := .int) (C := RX8) (T := TX8) (N := 13) hx hb hts hi_X8 tyX8 tyX8_ok nmX8 hown hK hP hD hS 0 rfl rfl 2 (by decide) hf_29 (fun _ h9 => h9) rfl (by decide +kernel) rfl rfl (Nat.le_of_ble_eq_true rfl) dX8_begin_65 (fun H locs hP hD hS => ?_)
  have hP : va_P D vwCl [(h0, .inr (7, [.ref kq, .ref sq, .int 0, .int (nI sz), .int 3, .int 0, .ref cq, .ref tq, .ref rq, .int ((md_B3 τ f kz).1.2.1), .int ((md_B3 τ f kz).1.2.2), .int ((md_B3 τ f kz).2.1), .int ((md_B3 τ f kz).2.2)])), (kq, .inl (kA, 32, .inl f)), (sq, .inl (sA, 12, .inl g)), (cq, .inl (cA, 384, .inl ((md_z μ.1 384, md_z μ.2 3).1))), (tq, .inl (tA, 3, .inl ((md_z μ.1 384, md_z μ.2 3).2))), (rq, .inl (rA, 256, .inl ((md_B3 τ f kz).1.1)))] H := hP
  have hD : va_D A [(h0, .inr (7, [.ref kq, .ref sq, .int 0, .int (nI sz), .int 3, .int 0, .ref cq, .ref tq, .ref rq, .int ((md_B3 τ f kz).1.2.1), .int ((md_B3 τ f kz).1.2.2), .int ((md_B3 τ f kz).2.1), .int ((md_B3 τ f kz).2.2)])), (kq, .inl (kA, 32, .inl f)), (sq, .inl (sA, 12, .inl g)), (cq, .inl (cA, 384, .inl ((md_z μ.1 384, md_z μ.2 3).1))), (tq, .inl (tA, 3, .inl ((md_z μ.1 384, md_z μ.2 3).2))), (rq, .inl (rA, 256, .inl ((md_B3 τ f kz).1.1)))] := hD
  refine lv_aload_n hx hb dX8_begin_68 rfl (lv_at hl 0 rfl) ?_
  refine lv_iconst (v := 0) hx hb dX8_begin_69 (by decide) ?_
  refine va_put (D := D) (ci := 7) (v := .int 0) (ty := .int) (C := RX8) (T := TX8) (N := 13) hx hb hts hi_X8 tyX8 tyX8_ok nmX8 hown hK hP hD hS 0 rfl rfl 3 (by decide) hf_34 (fun _ h9 => h9) rfl (by decide +kernel) rfl rfl (Nat.le_of_ble_eq_true rfl) dX8_begin_70 (fun H locs hP hD hS => ?_)
  have hP : va_P D vwCl [(h0, .inr (7, [.ref kq, .ref sq, .int 0, .int 0, .int 3, .int 0, .ref cq, .ref tq, .ref rq, .int ((md_B3 τ f kz).1.2.1), .int ((md_B3 τ f kz).1.2.2), .int ((md_B3 τ f kz).2.1), .int ((md_B3 τ f kz).2.2)])), (kq, .inl (kA, 32, .inl f)), (sq, .inl (sA, 12, .inl g)), (cq, .inl (cA, 384, .inl ((md_z μ.1 384, md_z μ.2 3).1))), (tq, .inl (tA, 3, .inl ((md_z μ.1 384, md_z μ.2 3).2))), (rq, .inl (rA, 256, .inl ((md_B3 τ f kz).1.1)))] H := hP
  have hD : va_D A [(h0, .inr (7, [.ref kq, .ref sq, .int 0, .int 0, .int 3, .int 0, .ref cq, .ref tq, .ref rq, .int ((md_B3 τ f kz).1.2.1), .int ((md_B3 τ f kz).1.2.2), .int ((md_B3 τ f kz).2.1), .int ((md_B3 τ f kz).2.2)])), (kq, .inl (kA, 32, .inl f)), (sq, .inl (sA, 12, .inl g)), (cq, .inl (cA, 384, .inl ((md_z μ.1 384, md_z μ.2 3).1))), (tq, .inl (tA, 3, .inl ((md_z μ.1 384, md_z μ.2 3).2))), (rq, .inl (rA, 256, .inl ((md_B3 τ f kz).1.1)))] := hD
  refine lv_iconst (v := 1) hx hb dX8_begin_73 (by decide) ?_
  exact ct_zret hx hb hr hlk hP hK hD hS rfl rfl dX8_begin_74
set_option maxHeartbeats 4000000 in
set_option maxRecDepth 100000 in
/-- Model.begin, no such machine -/
theorem c_md_beginN (l : Launch) (D : va_G) (h0 kq sq cq tq rq : Nat) (kz sz mc gv ri rj bn lf : Int32) (k : Int32) (h0k : ¬ k = 0) (h1k : ¬ k = 1) (h2k : ¬ k = 2) (h3k : ¬ k = 3) : Cti l D yX8_begin wsX8_begin ({ frames := 6, cells := 0, slots := 0, locals := 190 } : Room) [.ref h0, .int k] [] [(h0, .inr (7, [.ref kq, .ref sq, .int kz, .int sz, .int mc, .int gv, .ref cq, .ref tq, .ref rq, .int ri, .int rj, .int bn, .int lf]))] [(h0, .inr (7, [.ref kq, .ref sq, .int kz, .int sz, .int mc, .int gv, .ref cq, .ref tq, .ref rq, .int ri, .int rj, .int bn, .int lf]))] 0 := by
  refine ct_of (cc := cX8_begin) (maxL := 2) (ret := (some .boolean)) (by decide) rfl (Nat.le_of_ble_eq_true rfl) ?_
  intro p e s m below meth c A H locs ls hx hb hr hml hts hown hlk hnm hF hP hK hD hA hS hl
  have hown : s.vm.findClass RX8 = some m.cls := hown
  have hl : lv_has ls 2 [(0, .ref h0), (1, .int k)] := hl
  have cw_X8_fits := cwV (R := ({ frames := 6, cells := 0, slots := 0, locals := 190 } : Room)) (rm := ({ frames := 0, cells := 0, slots := 0, locals := 0 } : Room)) 1 hts gX8_begin_X8_fits rfl rfl rfl (by decide +kernel) ⟨Nat.le_of_ble_eq_true rfl, Nat.le_of_ble_eq_true rfl⟩
  refine lv_aload_n hx hb dX8_begin_0 rfl (lv_at hl 0 rfl) ?_
  refine lv_iload_n hx hb dX8_begin_1 rfl (lv_at hl 1 rfl) ?_
  refine ct_callVi (As := [.int k]) (rest := []) (wr := []) (ws2 := [(h0, .inr (7, [.ref kq, .ref sq, .int kz, .int sz, .int mc, .int gv, .ref cq, .ref tq, .ref rq, .int ri, .int rj, .int bn, .int lf]))]) ⟨hx, hb, hml, hown, hts⟩ (c_md_fitsN l D h0 kq sq cq tq rq kz sz mc gv ri rj bn lf k h0k h1k h2k h3k) cw_X8_fits [] rfl [0] [] [0] hF hK hP hD hS hA 0 7 rfl rfl rfl rfl (by decide) rfl (by decide) (by decide) rfl (by decide) rfl hl.1 rfl (Nat.le_of_ble_eq_true rfl) dX8_begin_2 ⟨Nat.zero_le _, Nat.zero_le _⟩ (fun H locs hP hD hS => ?_)
  refine lv_if_ne (tgt := 10) hx hb dX8_begin_5 (by decide) (fun hh => absurd rfl hh) (fun _ => ?_)
  refine lv_iconst (v := 0) hx hb dX8_begin_8 (by decide) ?_
  exact ct_zret hx hb hr hlk hP hK hD hS rfl rfl dX8_begin_9
