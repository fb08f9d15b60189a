set_option maxHeartbeats 4000000 in
set_option maxRecDepth 100000 in
/-- Cells() -/
theorem c_X1_init (l : Launch) (D : va_G) (h0 : Nat) : Ctv l D yX1_init wsX1_init ({ frames := 1, cells := 0, slots := 0, locals := 12 } : Room) [.ref h0] [] [(h0, .inr (1, [.long 0, .long 0]))] [(h0, .inr (1, [.long rg_0.1, .long rg_0.2]))] := by
  refine ct_of (cc := cX1_init) (maxL := 1) (ret := none) (by decide) rfl (Nat.le_of_ble_eq_true rfl) ?_
  intro p e s m below meth c A H locs ls hx hb hr hml hts hown hlk hnm hF hP hK hD hA hS hl
  have hown : s.vm.findClass RX1 = some m.cls := hown
  have hl : lv_has ls 1 [(0, .ref h0)] := hl
  have hf_9 := hts (.fieldLink RX1 9 "BitStreams$Cells" "low" "J") (by decide +kernel)
  have hi_X1 : ∀ w ∈ u_ws RX1 TX1 2, w ∈ wsX1_init := by decide +kernel
  have hf_15 := hts (.fieldLink RX1 15 "BitStreams$Cells" "high" "J") (by decide +kernel)
  refine lv_aload_n hx hb dX1_init_0 rfl (lv_at hl 0 rfl) ?_
  refine W.objInit hx hb hown (hts (.methodLink RX1 3 objectInit) (by decide +kernel)) (hts (.instanceMethod objectInit) (by decide +kernel)) (hts _ (List.mem_of_getElem? (i := 3) rfl)) rfl (by rw [hml]; exact hl.1) rfl dX1_init_1 (Nat.le_of_ble_eq_true rfl) (Nat.le_of_ble_eq_true rfl) ?_
  refine W.eq (g2 := F0 m 4 ls []) rfl ?_
  refine lv_aload_n hx hb dX1_init_4 rfl (lv_at hl 0 rfl) ?_
  refine lv_lconst (v := 0) hx hb dX1_init_5 (by decide) ?_
  refine va_put (D := D) (ci := 1) (v := .long 0) (ty := .long) (C := RX1) (T := TX1) (N := 2) hx hb hts hi_X1 tyX1 tyX1_ok nmX1 hown hK hP hD hS 0 rfl rfl 0 (by decide) hf_9 (fun _ h9 => h9) rfl (by decide +kernel) rfl rfl (Nat.le_of_ble_eq_true rfl) dX1_init_6 (fun H locs hP hD hS => ?_)
  have hP : va_P D vwCl [(h0, .inr (1, [.long 0, .long 0]))] H := hP
  have hD : va_D A [(h0, .inr (1, [.long 0, .long 0]))] := hD
  refine lv_aload_n hx hb dX1_init_9 rfl (lv_at hl 0 rfl) ?_
  refine lv_lconst (v := 0) hx hb dX1_init_10 (by decide) ?_
  refine va_put (D := D) (ci := 1) (v := .long 0) (ty := .long) (C := RX1) (T := TX1) (N := 2) hx hb hts hi_X1 tyX1 tyX1_ok nmX1 hown hK hP hD hS 0 rfl rfl 1 (by decide) hf_15 (fun _ h9 => h9) rfl (by decide +kernel) rfl rfl (Nat.le_of_ble_eq_true rfl) dX1_init_11 (fun H locs hP hD hS => ?_)
  have hP : va_P D vwCl [(h0, .inr (1, [.long 0, .long 0]))] H := hP
  have hD : va_D A [(h0, .inr (1, [.long 0, .long 0]))] := hD
  exact ct_vret hx hb hr hlk hP hK hD hS dX1_init_14
set_option maxHeartbeats 4000000 in
set_option maxRecDepth 100000 in
/-- Machine() -/
theorem c_X3_init (l : Launch) (D : va_G) (h0 : Nat) : Ctv l D yX3_init wsX3_init ({ frames := 1, cells := 0, slots := 0, locals := 12 } : Room) [.ref h0] [] [] [] := by
  refine ct_of (cc := cX3_init) (maxL := 1) (ret := none) (by decide) rfl (Nat.le_of_ble_eq_true rfl) ?_
  intro p e s m below meth c A H locs ls hx hb hr hml hts hown hlk hnm hF hP hK hD hA hS hl
  have hown : s.vm.findClass RX3 = some m.cls := hown
  have hl : lv_has ls 1 [(0, .ref h0)] := hl
  refine lv_aload_n hx hb dX3_init_0 rfl (lv_at hl 0 rfl) ?_
  refine W.objInit hx hb hown (hts (.methodLink RX3 1 objectInit) (by decide +kernel)) (hts (.instanceMethod objectInit) (by decide +kernel)) (hts _ (List.mem_of_getElem? (i := 3) rfl)) rfl (by rw [hml]; exact hl.1) rfl dX3_init_1 (Nat.le_of_ble_eq_true rfl) (Nat.le_of_ble_eq_true rfl) ?_
  refine W.eq (g2 := F0 m 4 ls []) rfl ?_
  exact ct_vret hx hb hr hlk hP hK hD hS dX3_init_4
set_option maxHeartbeats 4000000 in
set_option maxRecDepth 100000 in
/-- Bytes(32) -/
theorem c_X0_init32 (l : Launch) (D : va_G) (h0 : Nat) : Ctn (S := Nat × ClassId) l D yX0_init wsX0_init ({ frames := 1, cells := 1, slots := 32, locals := 12 } : Room) [.ref h0, .int 32] [] [(h0, .inr (0, [.null, .int 0]))] (fun u => [(u.2, .int)]) (fun u => [(h0, .inr (0, [.ref u.1, .int 0])), (u.1, .inl (u.2, 32, .inl (fun _ => 0)))]) 1 32 := by
  refine ct_ofN (cc := cX0_init) (maxL := 2) (ret := none) (by decide) rfl (Nat.le_of_ble_eq_true rfl) ?_
  intro p e s m below meth c A H locs ls hx hb hr hml hts hown hlk hnm hF hP hK hD hA hS hl
  have hown : s.vm.findClass RX0 = some m.cls := hown
  have hl : lv_has ls 2 [(0, .ref h0), (1, .int 32)] := hl
  have hac := hts (.arrayClass .int) (by decide +kernel)
  have hf_9 := hts (.fieldLink RX0 9 "BitStreams$Bytes" "held" "[I") (by decide +kernel)
  have hi_X0 : ∀ w ∈ u_ws RX0 TX0 2, w ∈ wsX0_init := by decide +kernel
  have hf_15 := hts (.fieldLink RX0 15 "BitStreams$Bytes" "size" "I") (by decide +kernel)
  refine lv_aload_n hx hb dX0_init_0 rfl (lv_at hl 0 rfl) ?_
  refine W.objInit hx hb hown (hts (.methodLink RX0 3 objectInit) (by decide +kernel)) (hts (.instanceMethod objectInit) (by decide +kernel)) (hts _ (List.mem_of_getElem? (i := 3) rfl)) rfl (by rw [hml]; exact hl.1) rfl dX0_init_1 (Nat.le_of_ble_eq_true rfl) (Nat.le_of_ble_eq_true rfl) ?_
  refine W.eq (g2 := F0 m 4 ls []) rfl ?_
  refine lv_aload_n hx hb dX0_init_4 rfl (lv_at hl 0 rfl) ?_
  refine lv_iload_n hx hb dX0_init_5 rfl (lv_at hl 1 rfl) ?_
  refine va_newa (atype := .int) (ty := .int) (N' := 32) (a0 := (32, .inl (fun _ => 0))) hx hb hac rfl hK hP hD hS hA (fun _ => rfl) (by decide) (by decide) (by decide) (Nat.le_of_ble_eq_true rfl) (Nat.le_of_ble_eq_true rfl) dX0_init_6 (fun q1 k1 H hK hP hD hS => ?_)
  have hP : va_P D vwCl [(h0, .inr (0, [.null, .int 0])), (q1, .inl (k1, 32, .inl (fun _ => 0)))] H := hP
  have hD : va_D A [(h0, .inr (0, [.null, .int 0])), (q1, .inl (k1, 32, .inl (fun _ => 0)))] := hD
  have hK : va_K D vwCl [(k1, .int)] s := hK
  refine W.widen (k := 1) (n := 32) (Nat.le_of_ble_eq_true rfl) (Nat.le_of_ble_eq_true rfl) ?_
  refine va_putF (D := D) (ci := 0) (v := .ref q1) (ty := .array .int) (C := RX0) (T := TX0) (N := 2) hx hb hts hi_X0 tyX0 tyX0_ok nmX0 hown hK hP hD hS 0 rfl rfl 0 (by decide) hf_9 (fun _ h9 => h9) rfl hnm rfl (by decide +kernel) rfl rfl (Nat.le_of_ble_eq_true rfl) dX0_init_8 (fun H locs hP hD hS => ?_)
  have hP : va_P D vwCl [(h0, .inr (0, [.ref q1, .int 0])), (q1, .inl (k1, 32, .inl (fun _ => 0)))] H := hP
  have hD : va_D A [(h0, .inr (0, [.ref q1, .int 0])), (q1, .inl (k1, 32, .inl (fun _ => 0)))] := hD
  refine lv_aload_n hx hb dX0_init_11 rfl (lv_at hl 0 rfl) ?_
  refine lv_iconst (v := 0) hx hb dX0_init_12 (by decide) ?_
  refine va_put (D := D) (ci := 0) (v := .int 0) (ty := .int) (C := RX0) (T := TX0) (N := 2) hx hb hts hi_X0 tyX0 tyX0_ok nmX0 hown hK hP hD hS 0 rfl rfl 1 (by decide) hf_15 (fun _ h9 => h9) rfl (by decide +kernel) rfl rfl (Nat.le_of_ble_eq_true rfl) dX0_init_13 (fun H locs hP hD hS => ?_)
  have hP : va_P D vwCl [(h0, .inr (0, [.ref q1, .int 0])), (q1, .inl (k1, 32, .inl (fun _ => 0)))] H := hP
  have hD : va_D A [(h0, .inr (0, [.ref q1, .int 0])), (q1, .inl (k1, 32, .inl (fun _ => 0)))] := hD
  have hP := hP.sub (ws' := [(h0, .inr (0, [.ref q1, .int 0])), (q1, .inl (k1, 32, .inl (fun _ => 0)))]) [0, 1] rfl
  have hD := hD.sub (ws' := [(h0, .inr (0, [.ref q1, .int 0])), (q1, .inl (k1, 32, .inl (fun _ => 0)))]) [0, 1] (by decide) rfl
  have hK := hK.sub (tys' := [(k1, .int)]) [0] rfl
  refine ct_vretN (q1, k1) hx hb hr hlk ?_ ?_ ?_ hS dX0_init_16
  · try dsimp only
    exact hP
  · try dsimp only
    exact hK
  · try dsimp only
    exact hD
set_option maxHeartbeats 4000000 in
set_option maxRecDepth 100000 in
/-- Bytes(12) -/
theorem c_X0_init12 (l : Launch) (D : va_G) (h0 : Nat) : Ctn (S := Nat × ClassId) l D yX0_init wsX0_init ({ frames := 1, cells := 1, slots := 12, locals := 12 } : Room) [.ref h0, .int 12] [] [(h0, .inr (0, [.null, .int 0]))] (fun u => [(u.2, .int)]) (fun u => [(h0, .inr (0, [.ref u.1, .int 0])), (u.1, .inl (u.2, 12, .inl (fun _ => 0)))]) 1 12 := by
  refine ct_ofN (cc := cX0_init) (maxL := 2) (ret := none) (by decide) rfl (Nat.le_of_ble_eq_true rfl) ?_
  intro p e s m below meth c A H locs ls hx hb hr hml hts hown hlk hnm hF hP hK hD hA hS hl
  have hown : s.vm.findClass RX0 = some m.cls := hown
  have hl : lv_has ls 2 [(0, .ref h0), (1, .int 12)] := hl
  have hac := hts (.arrayClass .int) (by decide +kernel)
  have hf_9 := hts (.fieldLink RX0 9 "BitStreams$Bytes" "held" "[I") (by decide +kernel)
  have hi_X0 : ∀ w ∈ u_ws RX0 TX0 2, w ∈ wsX0_init := by decide +kernel
  have hf_15 := hts (.fieldLink RX0 15 "BitStreams$Bytes" "size" "I") (by decide +kernel)
  refine lv_aload_n hx hb dX0_init_0 rfl (lv_at hl 0 rfl) ?_
  refine W.objInit hx hb hown (hts (.methodLink RX0 3 objectInit) (by decide +kernel)) (hts (.instanceMethod objectInit) (by decide +kernel)) (hts _ (List.mem_of_getElem? (i := 3) rfl)) rfl (by rw [hml]; exact hl.1) rfl dX0_init_1 (Nat.le_of_ble_eq_true rfl) (Nat.le_of_ble_eq_true rfl) ?_
  refine W.eq (g2 := F0 m 4 ls []) rfl ?_
  refine lv_aload_n hx hb dX0_init_4 rfl (lv_at hl 0 rfl) ?_
  refine lv_iload_n hx hb dX0_init_5 rfl (lv_at hl 1 rfl) ?_
  refine va_newa (atype := .int) (ty := .int) (N' := 12) (a0 := (12, .inl (fun _ => 0))) hx hb hac rfl hK hP hD hS hA (fun _ => rfl) (by decide) (by decide) (by decide) (Nat.le_of_ble_eq_true rfl) (Nat.le_of_ble_eq_true rfl) dX0_init_6 (fun q1 k1 H hK hP hD hS => ?_)
  have hP : va_P D vwCl [(h0, .inr (0, [.null, .int 0])), (q1, .inl (k1, 12, .inl (fun _ => 0)))] H := hP
  have hD : va_D A [(h0, .inr (0, [.null, .int 0])), (q1, .inl (k1, 12, .inl (fun _ => 0)))] := hD
  have hK : va_K D vwCl [(k1, .int)] s := hK
  refine W.widen (k := 1) (n := 12) (Nat.le_of_ble_eq_true rfl) (Nat.le_of_ble_eq_true rfl) ?_
  refine va_putF (D := D) (ci := 0) (v := .ref q1) (ty := .array .int) (C := RX0) (T := TX0) (N := 2) hx hb hts hi_X0 tyX0 tyX0_ok nmX0 hown hK hP hD hS 0 rfl rfl 0 (by decide) hf_9 (fun _ h9 => h9) rfl hnm rfl (by decide +kernel) rfl rfl (Nat.le_of_ble_eq_true rfl) dX0_init_8 (fun H locs hP hD hS => ?_)
  have hP : va_P D vwCl [(h0, .inr (0, [.ref q1, .int 0])), (q1, .inl (k1, 12, .inl (fun _ => 0)))] H := hP
  have hD : va_D A [(h0, .inr (0, [.ref q1, .int 0])), (q1, .inl (k1, 12, .inl (fun _ => 0)))] := hD
  refine lv_aload_n hx hb dX0_init_11 rfl (lv_at hl 0 rfl) ?_
  refine lv_iconst (v := 0) hx hb dX0_init_12 (by decide) ?_
  refine va_put (D := D) (ci := 0) (v := .int 0) (ty := .int) (C := RX0) (T := TX0) (N := 2) hx hb hts hi_X0 tyX0 tyX0_ok nmX0 hown hK hP hD hS 0 rfl rfl 1 (by decide) hf_15 (fun _ h9 => h9) rfl (by decide +kernel) rfl rfl (Nat.le_of_ble_eq_true rfl) dX0_init_13 (fun H locs hP hD hS => ?_)
  have hP : va_P D vwCl [(h0, .inr (0, [.ref q1, .int 0])), (q1, .inl (k1, 12, .inl (fun _ => 0)))] H := hP
  have hD : va_D A [(h0, .inr (0, [.ref q1, .int 0])), (q1, .inl (k1, 12, .inl (fun _ => 0)))] := hD
  have hP := hP.sub (ws' := [(h0, .inr (0, [.ref q1, .int 0])), (q1, .inl (k1, 12, .inl (fun _ => 0)))]) [0, 1] rfl
  have hD := hD.sub (ws' := [(h0, .inr (0, [.ref q1, .int 0])), (q1, .inl (k1, 12, .inl (fun _ => 0)))]) [0, 1] (by decide) rfl
  have hK := hK.sub (tys' := [(k1, .int)]) [0] rfl
  refine ct_vretN (q1, k1) hx hb hr hlk ?_ ?_ ?_ hS dX0_init_16
  · try dsimp only
    exact hP
  · try dsimp only
    exact hK
  · try dsimp only
    exact hD
set_option maxHeartbeats 4000000 in
set_option maxRecDepth 100000 in
/-- Exchanges() -/
theorem c_X2_init (l : Launch) (D : va_G) (h0 : Nat) : Ctn (S := Nat × ClassId) l D yX2_init wsX2_init ({ frames := 2, cells := 1, slots := 256, locals := 32 } : Room) [.ref h0] [] [(h0, .inr (2, [.null, .int 0, .int 0, .int 0, .int 0]))] (fun u => [(u.2, .int)]) (fun u => [(h0, .inr (2, [.ref u.1, .int 0, .int 0, .int 0, .int 0])), (u.1, .inl (u.2, 256, .inl (fun _ => 0)))]) 1 256 := by
  refine ct_ofN (cc := cX2_init) (maxL := 1) (ret := none) (by decide) rfl (Nat.le_of_ble_eq_true rfl) ?_
  intro p e s m below meth c A H locs ls hx hb hr hml hts hown hlk hnm hF hP hK hD hA hS hl
  have hown : s.vm.findClass RX2 = some m.cls := hown
  have hl : lv_has ls 1 [(0, .ref h0)] := hl
  have hac := hts (.arrayClass .int) (by decide +kernel)
  have hf_11 := hts (.fieldLink RX2 11 "BitStreams$Exchanges" "row" "[I") (by decide +kernel)
  have hi_X2 : ∀ w ∈ u_ws RX2 TX2 5, w ∈ wsX2_init := by decide +kernel
  have hf_15 := hts (.fieldLink RX2 15 "BitStreams$Exchanges" "i" "I") (by decide +kernel)
  have hf_19 := hts (.fieldLink RX2 19 "BitStreams$Exchanges" "j" "I") (by decide +kernel)
  have hf_22 := hts (.fieldLink RX2 22 "BitStreams$Exchanges" "givenByte" "I") (by decide +kernel)
  have hf_25 := hts (.fieldLink RX2 25 "BitStreams$Exchanges" "bitsLeft" "I") (by decide +kernel)
  refine lv_aload_n hx hb dX2_init_0 rfl (lv_at hl 0 rfl) ?_
  refine ct_callNv (As := []) (rest := []) ⟨hx, hb, hml, hown, hts⟩ (c_X3_init l D h0) ⟨va_cnB (rm := ({ frames := 1, cells := 0, slots := 0, locals := 12 } : Room)) 0 hts gX2_init_X3_init_n5 rfl rfl rfl hF.2.1.2.2.2 (hts (.initialized RX3) (by decide +kernel)) (by decide +kernel) ⟨Nat.le_of_ble_eq_true rfl, Nat.le_of_ble_eq_true rfl⟩, rfl, hts (.instanceMethod yX3_init) (by decide +kernel)⟩ [0] hF hK hP hD hS hA rfl (by decide) rfl hl.1 rfl (Nat.le_of_ble_eq_true rfl) dX2_init_1 ⟨Nat.le_of_ble_eq_true rfl, Nat.le_of_ble_eq_true rfl⟩ (fun H locs hP hD hS => ?_)
  refine lv_aload_n hx hb dX2_init_4 rfl (lv_at hl 0 rfl) ?_
  refine lv_sipush (v := 256) hx hb dX2_init_5 (by decide) ?_
  refine va_newa (atype := .int) (ty := .int) (N' := 256) (a0 := (256, .inl (fun _ => 0))) hx hb hac rfl hK hP hD hS hA (fun _ => rfl) (by decide) (by decide) (by decide) (Nat.le_of_ble_eq_true rfl) (Nat.le_of_ble_eq_true rfl) dX2_init_8 (fun q1 k1 H hK hP hD hS => ?_)
  have hP : va_P D vwCl [(h0, .inr (2, [.null, .int 0, .int 0, .int 0, .int 0])), (q1, .inl (k1, 256, .inl (fun _ => 0)))] H := hP
  have hD : va_D A [(h0, .inr (2, [.null, .int 0, .int 0, .int 0, .int 0])), (q1, .inl (k1, 256, .inl (fun _ => 0)))] := hD
  have hK : va_K D vwCl [(k1, .int)] s := hK
  refine W.widen (k := 1) (n := 256) (Nat.le_of_ble_eq_true rfl) (Nat.le_of_ble_eq_true rfl) ?_
  refine va_putF (D := D) (ci := 2) (v := .ref q1) (ty := .array .int) (C := RX2) (T := TX2) (N := 5) hx hb hts hi_X2 tyX2 tyX2_ok nmX2 hown hK hP hD hS 0 rfl rfl 0 (by decide) hf_11 (fun _ h9 => h9) rfl hnm rfl (by decide +kernel) rfl rfl (Nat.le_of_ble_eq_true rfl) dX2_init_10 (fun H locs hP hD hS => ?_)
  have hP : va_P D vwCl [(h0, .inr (2, [.ref q1, .int 0, .int 0, .int 0, .int 0])), (q1, .inl (k1, 256, .inl (fun _ => 0)))] H := hP
  have hD : va_D A [(h0, .inr (2, [.ref q1, .int 0, .int 0, .int 0, .int 0])), (q1, .inl (k1, 256, .inl (fun _ => 0)))] := hD
  refine lv_aload_n hx hb dX2_init_13 rfl (lv_at hl 0 rfl) ?_
  refine lv_iconst (v := 0) hx hb dX2_init_14 (by decide) ?_
  refine va_put (D := D) (ci := 2) (v := .int 0) (ty := .int) (C := RX2) (T := TX2) (N := 5) hx hb hts hi_X2 tyX2 tyX2_ok nmX2 hown hK hP hD hS 0 rfl rfl 1 (by decide) hf_15 (fun _ h9 => h9) rfl (by decide +kernel) rfl rfl (Nat.le_of_ble_eq_true rfl) dX2_init_15 (fun H locs hP hD hS => ?_)
  have hP : va_P D vwCl [(h0, .inr (2, [.ref q1, .int 0, .int 0, .int 0, .int 0])), (q1, .inl (k1, 256, .inl (fun _ => 0)))] H := hP
  have hD : va_D A [(h0, .inr (2, [.ref q1, .int 0, .int 0, .int 0, .int 0])), (q1, .inl (k1, 256, .inl (fun _ => 0)))] := hD
  refine lv_aload_n hx hb dX2_init_18 rfl (lv_at hl 0 rfl) ?_
  refine lv_iconst (v := 0) hx hb dX2_init_19 (by decide) ?_
  refine va_put (D := D) (ci := 2) (v := .int 0) (ty := .int) (C := RX2) (T := TX2) (N := 5) hx hb hts hi_X2 tyX2 tyX2_ok nmX2 hown hK hP hD hS 0 rfl rfl 2 (by decide) hf_19 (fun _ h9 => h9) rfl (by decide +kernel) rfl rfl (Nat.le_of_ble_eq_true rfl) dX2_init_20 (fun H locs hP hD hS => ?_)
  have hP : va_P D vwCl [(h0, .inr (2, [.ref q1, .int 0, .int 0, .int 0, .int 0])), (q1, .inl (k1, 256, .inl (fun _ => 0)))] H := hP
  have hD : va_D A [(h0, .inr (2, [.ref q1, .int 0, .int 0, .int 0, .int 0])), (q1, .inl (k1, 256, .inl (fun _ => 0)))] := hD
  refine lv_aload_n hx hb dX2_init_23 rfl (lv_at hl 0 rfl) ?_
  refine lv_iconst (v := 0) hx hb dX2_init_24 (by decide) ?_
  refine va_put (D := D) (ci := 2) (v := .int 0) (ty := .int) (C := RX2) (T := TX2) (N := 5) hx hb hts hi_X2 tyX2 tyX2_ok nmX2 hown hK hP hD hS 0 rfl rfl 3 (by decide) hf_22 (fun _ h9 => h9) rfl (by decide +kernel) rfl rfl (Nat.le_of_ble_eq_true rfl) dX2_init_25 (fun H locs hP hD hS => ?_)
  have hP : va_P D vwCl [(h0, .inr (2, [.ref q1, .int 0, .int 0, .int 0, .int 0])), (q1, .inl (k1, 256, .inl (fun _ => 0)))] H := hP
  have hD : va_D A [(h0, .inr (2, [.ref q1, .int 0, .int 0, .int 0, .int 0])), (q1, .inl (k1, 256, .inl (fun _ => 0)))] := hD
  refine lv_aload_n hx hb dX2_init_28 rfl (lv_at hl 0 rfl) ?_
  refine lv_iconst (v := 0) hx hb dX2_init_29 (by decide) ?_
  refine va_put (D := D) (ci := 2) (v := .int 0) (ty := .int) (C := RX2) (T := TX2) (N := 5) hx hb hts hi_X2 tyX2 tyX2_ok nmX2 hown hK hP hD hS 0 rfl rfl 4 (by decide) hf_25 (fun _ h9 => h9) rfl (by decide +kernel) rfl rfl (Nat.le_of_ble_eq_true rfl) dX2_init_30 (fun H locs hP hD hS => ?_)
  have hP : va_P D vwCl [(h0, .inr (2, [.ref q1, .int 0, .int 0, .int 0, .int 0])), (q1, .inl (k1, 256, .inl (fun _ => 0)))] H := hP
  have hD : va_D A [(h0, .inr (2, [.ref q1, .int 0, .int 0, .int 0, .int 0])), (q1, .inl (k1, 256, .inl (fun _ => 0)))] := hD
  have hP := hP.sub (ws' := [(h0, .inr (2, [.ref q1, .int 0, .int 0, .int 0, .int 0])), (q1, .inl (k1, 256, .inl (fun _ => 0)))]) [0, 1] rfl
  have hD := hD.sub (ws' := [(h0, .inr (2, [.ref q1, .int 0, .int 0, .int 0, .int 0])), (q1, .inl (k1, 256, .inl (fun _ => 0)))]) [0, 1] (by decide) rfl
  have hK := hK.sub (tys' := [(k1, .int)]) [0] rfl
  refine ct_vretN (q1, k1) hx hb hr hlk ?_ ?_ ?_ hS dX2_init_33
  · try dsimp only
    exact hP
  · try dsimp only
    exact hK
  · try dsimp only
    exact hD
set_option maxHeartbeats 4000000 in
set_option maxRecDepth 100000 in
/-- X4() -/
theorem c_X4_init (l : Launch) (D : va_G) (h0 : Nat) : Ctn (S := Nat × Nat × Nat) l D yX4_init wsX4_init ({ frames := 2, cells := 3, slots := 6, locals := 32 } : Room) [.ref h0] [] [(h0, .inr (3, [.null, .null, .null]))] (fun u => []) (fun u => [(h0, .inr (3, [.ref u.1, .ref u.2.1, .ref u.2.2])), (u.1, .inr (1, [.long rg_0.1, .long rg_0.2])), (u.2.1, .inr (1, [.long rg_0.1, .long rg_0.2])), (u.2.2, .inr (1, [.long rg_0.1, .long rg_0.2]))]) 3 6 := by
  refine ct_ofN (cc := cX4_init) (maxL := 1) (ret := none) (by decide) rfl (Nat.le_of_ble_eq_true rfl) ?_
  intro p e s m below meth c A H locs ls hx hb hr hml hts hown hlk hnm hF hP hK hD hA hS hl
  have hown : s.vm.findClass RX4 = some m.cls := hown
  have hl : lv_has ls 1 [(0, .ref h0)] := hl
  have hi_X1 : ∀ w ∈ u_ws RX1 TX1 2, w ∈ wsX4_init := by decide +kernel
  have hf_10 := hts (.fieldLink RX4 10 "BitStreams$ThreeRings" "a" "LBitStreams$Cells;") (by decide +kernel)
  have hi_X4 : ∀ w ∈ u_ws RX4 TX4 3, w ∈ wsX4_init := by decide +kernel
  have hf_16 := hts (.fieldLink RX4 16 "BitStreams$ThreeRings" "b" "LBitStreams$Cells;") (by decide +kernel)
  have hf_19 := hts (.fieldLink RX4 19 "BitStreams$ThreeRings" "c" "LBitStreams$Cells;") (by decide +kernel)
  refine lv_aload_n hx hb dX4_init_0 rfl (lv_at hl 0 rfl) ?_
  refine ct_callNv (As := []) (rest := []) ⟨hx, hb, hml, hown, hts⟩ (c_X3_init l D h0) ⟨va_cnB (rm := ({ frames := 1, cells := 0, slots := 0, locals := 12 } : Room)) 0 hts gX4_init_X3_init_n1 rfl rfl rfl hF.2.1.1 (hts (.initialized RX3) (by decide +kernel)) (by decide +kernel) ⟨Nat.le_of_ble_eq_true rfl, Nat.le_of_ble_eq_true rfl⟩, rfl, hts (.instanceMethod yX3_init) (by decide +kernel)⟩ [0] hF hK hP hD hS hA rfl (by decide) rfl hl.1 rfl (Nat.le_of_ble_eq_true rfl) dX4_init_1 ⟨Nat.le_of_ble_eq_true rfl, Nat.le_of_ble_eq_true rfl⟩ (fun H locs hP hD hS => ?_)
  refine lv_aload_n hx hb dX4_init_4 rfl (lv_at hl 0 rfl) ?_
  refine va_new (ci := 1) (fs := [.long 0, .long 0]) (C := RX1) (T := TX1) (N := 2) hx hb hts hi_X1 tyX1 tyX1_ok hown (hts (.classLink RX4 7 RX1) (by decide +kernel)) (hts (.instantiable RX1 2) (by decide +kernel)) (hts (.initialized RX1) (by decide +kernel)) hK hP hD hS hA rfl (fun j hj => by rcases (show j = 0 ∨ j = 1 by omega) with rfl | rfl <;> rfl) (Nat.le_of_ble_eq_true rfl) (Nat.le_of_ble_eq_true rfl) dX4_init_5 (fun q1 H hP hD hS => ?_)
  have hP : va_P D vwCl [(h0, .inr (3, [.null, .null, .null])), (q1, .inr (1, [.long 0, .long 0]))] H := hP
  have hD : va_D A [(h0, .inr (3, [.null, .null, .null])), (q1, .inr (1, [.long 0, .long 0]))] := hD
  refine W.widen (k := 1) (n := 2) (Nat.le_of_ble_eq_true rfl) (Nat.le_of_ble_eq_true rfl) ?_
  refine lv_dup hx hb dX4_init_8 rfl ?_
  refine ct_callIv (As := []) (rest := [.ref q1, .ref h0]) (wr := [(h0, .inr (3, [.null, .null, .null]))]) (ws2 := [(h0, .inr (3, [.null, .null, .null])), (q1, .inr (1, [.long rg_0.1, .long rg_0.2]))]) ⟨hx, hb, hml, hown, hts⟩ (c_X1_init l D q1) (cwI (rm := ({ frames := 1, cells := 0, slots := 0, locals := 12 } : Room)) 0 hts gX4_init_X1_init rfl rfl rfl (hts (.initialized RX1) (by decide +kernel)) (hts (.methodLink RX4 9 yX1_init) (by decide +kernel)) (hts (.instanceMethod yX1_init) (by decide +kernel)) rfl (by decide +kernel) ⟨Nat.le_of_ble_eq_true rfl, Nat.le_of_ble_eq_true rfl⟩) [1] [0] [0, 1] hF hK hP hD hS hA rfl (by decide) rfl (by decide) (by decide) rfl (by decide) rfl hl.1 rfl (Nat.le_of_ble_eq_true rfl) dX4_init_9 ⟨Nat.le_of_ble_eq_true rfl, Nat.le_of_ble_eq_true rfl⟩ (fun H locs hP hD hS => ?_)
  refine va_putF (D := D) (ci := 3) (v := .ref q1) (ty := .object "BitStreams$Cells") (C := RX4) (T := TX4) (N := 3) hx hb hts hi_X4 tyX4 tyX4_ok nmX4 hown hK hP hD hS 0 rfl rfl 0 (by decide) hf_10 (fun _ h9 => h9) rfl hnm rfl (by decide +kernel) rfl rfl (Nat.le_of_ble_eq_true rfl) dX4_init_12 (fun H locs hP hD hS => ?_)
  have hP : va_P D vwCl [(h0, .inr (3, [.ref q1, .null, .null])), (q1, .inr (1, [.long rg_0.1, .long rg_0.2]))] H := hP
  have hD : va_D A [(h0, .inr (3, [.ref q1, .null, .null])), (q1, .inr (1, [.long rg_0.1, .long rg_0.2]))] := hD
  refine lv_aload_n hx hb dX4_init_15 rfl (lv_at hl 0 rfl) ?_
  refine va_new (ci := 1) (fs := [.long 0, .long 0]) (C := RX1) (T := TX1) (N := 2) hx hb hts hi_X1 tyX1 tyX1_ok hown (hts (.classLink RX4 7 RX1) (by decide +kernel)) (hts (.instantiable RX1 2) (by decide +kernel)) (hts (.initialized RX1) (by decide +kernel)) hK hP hD hS hA rfl (fun j hj => by rcases (show j = 0 ∨ j = 1 by omega) with rfl | rfl <;> rfl) (Nat.le_of_ble_eq_true rfl) (Nat.le_of_ble_eq_true rfl) dX4_init_16 (fun q2 H hP hD hS => ?_)
  have hP : va_P D vwCl [(h0, .inr (3, [.ref q1, .null, .null])), (q1, .inr (1, [.long rg_0.1, .long rg_0.2])), (q2, .inr (1, [.long 0, .long 0]))] H := hP
  have hD : va_D A [(h0, .inr (3, [.ref q1, .null, .null])), (q1, .inr (1, [.long rg_0.1, .long rg_0.2])), (q2, .inr (1, [.long 0, .long 0]))] := hD
  refine W.widen (k := 2) (n := 4) (Nat.le_of_ble_eq_true rfl) (Nat.le_of_ble_eq_true rfl) ?_
  refine lv_dup hx hb dX4_init_19 rfl ?_
  refine ct_callIv (As := []) (rest := [.ref q2, .ref h0]) (wr := [(h0, .inr (3, [.ref q1, .null, .null])), (q1, .inr (1, [.long rg_0.1, .long rg_0.2]))]) (ws2 := [(h0, .inr (3, [.ref q1, .null, .null])), (q1, .inr (1, [.long rg_0.1, .long rg_0.2])), (q2, .inr (1, [.long rg_0.1, .long rg_0.2]))]) ⟨hx, hb, hml, hown, hts⟩ (c_X1_init l D q2) (cwI (rm := ({ frames := 1, cells := 0, slots := 0, locals := 12 } : Room)) 0 hts gX4_init_X1_init rfl rfl rfl (hts (.initialized RX1) (by decide +kernel)) (hts (.methodLink RX4 9 yX1_init) (by decide +kernel)) (hts (.instanceMethod yX1_init) (by decide +kernel)) rfl (by decide +kernel) ⟨Nat.le_of_ble_eq_true rfl, Nat.le_of_ble_eq_true rfl⟩) [2] [0, 1] [0, 1, 2] hF hK hP hD hS hA rfl (by decide) rfl (by decide) (by decide) rfl (by decide) rfl hl.1 rfl (Nat.le_of_ble_eq_true rfl) dX4_init_20 ⟨Nat.le_of_ble_eq_true rfl, Nat.le_of_ble_eq_true rfl⟩ (fun H locs hP hD hS => ?_)
  refine va_putF (D := D) (ci := 3) (v := .ref q2) (ty := .object "BitStreams$Cells") (C := RX4) (T := TX4) (N := 3) hx hb hts hi_X4 tyX4 tyX4_ok nmX4 hown hK hP hD hS 0 rfl rfl 1 (by decide) hf_16 (fun _ h9 => h9) rfl hnm rfl (by decide +kernel) rfl rfl (Nat.le_of_ble_eq_true rfl) dX4_init_23 (fun H locs hP hD hS => ?_)
  have hP : va_P D vwCl [(h0, .inr (3, [.ref q1, .ref q2, .null])), (q1, .inr (1, [.long rg_0.1, .long rg_0.2])), (q2, .inr (1, [.long rg_0.1, .long rg_0.2]))] H := hP
  have hD : va_D A [(h0, .inr (3, [.ref q1, .ref q2, .null])), (q1, .inr (1, [.long rg_0.1, .long rg_0.2])), (q2, .inr (1, [.long rg_0.1, .long rg_0.2]))] := hD
  refine lv_aload_n hx hb dX4_init_26 rfl (lv_at hl 0 rfl) ?_
  refine va_new (ci := 1) (fs := [.long 0, .long 0]) (C := RX1) (T := TX1) (N := 2) hx hb hts hi_X1 tyX1 tyX1_ok hown (hts (.classLink RX4 7 RX1) (by decide +kernel)) (hts (.instantiable RX1 2) (by decide +kernel)) (hts (.initialized RX1) (by decide +kernel)) hK hP hD hS hA rfl (fun j hj => by rcases (show j = 0 ∨ j = 1 by omega) with rfl | rfl <;> rfl) (Nat.le_of_ble_eq_true rfl) (Nat.le_of_ble_eq_true rfl) dX4_init_27 (fun q3 H hP hD hS => ?_)
  have hP : va_P D vwCl [(h0, .inr (3, [.ref q1, .ref q2, .null])), (q1, .inr (1, [.long rg_0.1, .long rg_0.2])), (q2, .inr (1, [.long rg_0.1, .long rg_0.2])), (q3, .inr (1, [.long 0, .long 0]))] H := hP
  have hD : va_D A [(h0, .inr (3, [.ref q1, .ref q2, .null])), (q1, .inr (1, [.long rg_0.1, .long rg_0.2])), (q2, .inr (1, [.long rg_0.1, .long rg_0.2])), (q3, .inr (1, [.long 0, .long 0]))] := hD
  refine W.widen (k := 3) (n := 6) (Nat.le_of_ble_eq_true rfl) (Nat.le_of_ble_eq_true rfl) ?_
  refine lv_dup hx hb dX4_init_30 rfl ?_
  refine ct_callIv (As := []) (rest := [.ref q3, .ref h0]) (wr := [(h0, .inr (3, [.ref q1, .ref q2, .null])), (q1, .inr (1, [.long rg_0.1, .long rg_0.2])), (q2, .inr (1, [.long rg_0.1, .long rg_0.2]))]) (ws2 := [(h0, .inr (3, [.ref q1, .ref q2, .null])), (q1, .inr (1, [.long rg_0.1, .long rg_0.2])), (q2, .inr (1, [.long rg_0.1, .long rg_0.2])), (q3, .inr (1, [.long rg_0.1, .long rg_0.2]))]) ⟨hx, hb, hml, hown, hts⟩ (c_X1_init l D q3) (cwI (rm := ({ frames := 1, cells := 0, slots := 0, locals := 12 } : Room)) 0 hts gX4_init_X1_init rfl rfl rfl (hts (.initialized RX1) (by decide +kernel)) (hts (.methodLink RX4 9 yX1_init) (by decide +kernel)) (hts (.instanceMethod yX1_init) (by decide +kernel)) rfl (by decide +kernel) ⟨Nat.le_of_ble_eq_true rfl, Nat.le_of_ble_eq_true rfl⟩) [3] [0, 1, 2] [0, 1, 2, 3] hF hK hP hD hS hA rfl (by decide) rfl (by decide) (by decide) rfl (by decide) rfl hl.1 rfl (Nat.le_of_ble_eq_true rfl) dX4_init_31 ⟨Nat.le_of_ble_eq_true rfl, Nat.le_of_ble_eq_true rfl⟩ (fun H locs hP hD hS => ?_)
  refine va_putF (D := D) (ci := 3) (v := .ref q3) (ty := .object "BitStreams$Cells") (C := RX4) (T := TX4) (N := 3) hx hb hts hi_X4 tyX4 tyX4_ok nmX4 hown hK hP hD hS 0 rfl rfl 2 (by decide) hf_19 (fun _ h9 => h9) rfl hnm rfl (by decide +kernel) rfl rfl (Nat.le_of_ble_eq_true rfl) dX4_init_34 (fun H locs hP hD hS => ?_)
  have hP : va_P D vwCl [(h0, .inr (3, [.ref q1, .ref q2, .ref q3])), (q1, .inr (1, [.long rg_0.1, .long rg_0.2])), (q2, .inr (1, [.long rg_0.1, .long rg_0.2])), (q3, .inr (1, [.long rg_0.1, .long rg_0.2]))] H := hP
  have hD : va_D A [(h0, .inr (3, [.ref q1, .ref q2, .ref q3])), (q1, .inr (1, [.long rg_0.1, .long rg_0.2])), (q2, .inr (1, [.long rg_0.1, .long rg_0.2])), (q3, .inr (1, [.long rg_0.1, .long rg_0.2]))] := hD
  have hP := hP.sub (ws' := [(h0, .inr (3, [.ref q1, .ref q2, .ref q3])), (q1, .inr (1, [.long rg_0.1, .long rg_0.2])), (q2, .inr (1, [.long rg_0.1, .long rg_0.2])), (q3, .inr (1, [.long rg_0.1, .long rg_0.2]))]) [0, 1, 2, 3] rfl
  have hD := hD.sub (ws' := [(h0, .inr (3, [.ref q1, .ref q2, .ref q3])), (q1, .inr (1, [.long rg_0.1, .long rg_0.2])), (q2, .inr (1, [.long rg_0.1, .long rg_0.2])), (q3, .inr (1, [.long rg_0.1, .long rg_0.2]))]) [0, 1, 2, 3] (by decide) rfl
  have hK := hK.sub (tys' := []) [] rfl
  refine ct_vretN (q1, q2, q3) hx hb hr hlk ?_ ?_ ?_ hS dX4_init_37
  · try dsimp only
    exact hP
  · try dsimp only
    exact hK
  · try dsimp only
    exact hD
set_option maxHeartbeats 4000000 in
set_option maxRecDepth 100000 in
/-- X5() -/
theorem c_X5_init (l : Launch) (D : va_G) (h0 : Nat) : Ctn (S := Nat × Nat × Nat) l D yX5_init wsX5_init ({ frames := 2, cells := 3, slots := 6, locals := 32 } : Room) [.ref h0] [] [(h0, .inr (4, [.null, .null, .null]))] (fun u => []) (fun u => [(h0, .inr (4, [.ref u.1, .ref u.2.1, .ref u.2.2])), (u.1, .inr (1, [.long rg_0.1, .long rg_0.2])), (u.2.1, .inr (1, [.long rg_0.1, .long rg_0.2])), (u.2.2, .inr (1, [.long rg_0.1, .long rg_0.2]))]) 3 6 := by
  refine ct_ofN (cc := cX5_init) (maxL := 1) (ret := none) (by decide) rfl (Nat.le_of_ble_eq_true rfl) ?_
  intro p e s m below meth c A H locs ls hx hb hr hml hts hown hlk hnm hF hP hK hD hA hS hl
  have hown : s.vm.findClass RX5 = some m.cls := hown
  have hl : lv_has ls 1 [(0, .ref h0)] := hl
  have hi_X1 : ∀ w ∈ u_ws RX1 TX1 2, w ∈ wsX5_init := by decide +kernel
  have hf_10 := hts (.fieldLink RX5 10 "BitStreams$ThreeThatStop" "x" "LBitStreams$Cells;") (by decide +kernel)
  have hi_X5 : ∀ w ∈ u_ws RX5 TX5 3, w ∈ wsX5_init := by decide +kernel
  have hf_16 := hts (.fieldLink RX5 16 "BitStreams$ThreeThatStop" "y" "LBitStreams$Cells;") (by decide +kernel)
  have hf_19 := hts (.fieldLink RX5 19 "BitStreams$ThreeThatStop" "z" "LBitStreams$Cells;") (by decide +kernel)
  refine lv_aload_n hx hb dX5_init_0 rfl (lv_at hl 0 rfl) ?_
  refine ct_callNv (As := []) (rest := []) ⟨hx, hb, hml, hown, hts⟩ (c_X3_init l D h0) ⟨va_cnB (rm := ({ frames := 1, cells := 0, slots := 0, locals := 12 } : Room)) 0 hts gX5_init_X3_init_n1 rfl rfl rfl hF.2.1.2.2.1 (hts (.initialized RX3) (by decide +kernel)) (by decide +kernel) ⟨Nat.le_of_ble_eq_true rfl, Nat.le_of_ble_eq_true rfl⟩, rfl, hts (.instanceMethod yX3_init) (by decide +kernel)⟩ [0] hF hK hP hD hS hA rfl (by decide) rfl hl.1 rfl (Nat.le_of_ble_eq_true rfl) dX5_init_1 ⟨Nat.le_of_ble_eq_true rfl, Nat.le_of_ble_eq_true rfl⟩ (fun H locs hP hD hS => ?_)
  refine lv_aload_n hx hb dX5_init_4 rfl (lv_at hl 0 rfl) ?_
  refine va_new (ci := 1) (fs := [.long 0, .long 0]) (C := RX1) (T := TX1) (N := 2) hx hb hts hi_X1 tyX1 tyX1_ok hown (hts (.classLink RX5 7 RX1) (by decide +kernel)) (hts (.instantiable RX1 2) (by decide +kernel)) (hts (.initialized RX1) (by decide +kernel)) hK hP hD hS hA rfl (fun j hj => by rcases (show j = 0 ∨ j = 1 by omega) with rfl | rfl <;> rfl) (Nat.le_of_ble_eq_true rfl) (Nat.le_of_ble_eq_true rfl) dX5_init_5 (fun q1 H hP hD hS => ?_)
  have hP : va_P D vwCl [(h0, .inr (4, [.null, .null, .null])), (q1, .inr (1, [.long 0, .long 0]))] H := hP
  have hD : va_D A [(h0, .inr (4, [.null, .null, .null])), (q1, .inr (1, [.long 0, .long 0]))] := hD
  refine W.widen (k := 1) (n := 2) (Nat.le_of_ble_eq_true rfl) (Nat.le_of_ble_eq_true rfl) ?_
  refine lv_dup hx hb dX5_init_8 rfl ?_
  refine ct_callIv (As := []) (rest := [.ref q1, .ref h0]) (wr := [(h0, .inr (4, [.null, .null, .null]))]) (ws2 := [(h0, .inr (4, [.null, .null, .null])), (q1, .inr (1, [.long rg_0.1, .long rg_0.2]))]) ⟨hx, hb, hml, hown, hts⟩ (c_X1_init l D q1) (cwI (rm := ({ frames := 1, cells := 0, slots := 0, locals := 12 } : Room)) 0 hts gX5_init_X1_init rfl rfl rfl (hts (.initialized RX1) (by decide +kernel)) (hts (.methodLink RX5 9 yX1_init) (by decide +kernel)) (hts (.instanceMethod yX1_init) (by decide +kernel)) rfl (by decide +kernel) ⟨Nat.le_of_ble_eq_true rfl, Nat.le_of_ble_eq_true rfl⟩) [1] [0] [0, 1] hF hK hP hD hS hA rfl (by decide) rfl (by decide) (by decide) rfl (by decide) rfl hl.1 rfl (Nat.le_of_ble_eq_true rfl) dX5_init_9 ⟨Nat.le_of_ble_eq_true rfl, Nat.le_of_ble_eq_true rfl⟩ (fun H locs hP hD hS => ?_)
  refine va_putF (D := D) (ci := 4) (v := .ref q1) (ty := .object "BitStreams$Cells") (C := RX5) (T := TX5) (N := 3) hx hb hts hi_X5 tyX5 tyX5_ok nmX5 hown hK hP hD hS 0 rfl rfl 0 (by decide) hf_10 (fun _ h9 => h9) rfl hnm rfl (by decide +kernel) rfl rfl (Nat.le_of_ble_eq_true rfl) dX5_init_12 (fun H locs hP hD hS => ?_)
  have hP : va_P D vwCl [(h0, .inr (4, [.ref q1, .null, .null])), (q1, .inr (1, [.long rg_0.1, .long rg_0.2]))] H := hP
  have hD : va_D A [(h0, .inr (4, [.ref q1, .null, .null])), (q1, .inr (1, [.long rg_0.1, .long rg_0.2]))] := hD
  refine lv_aload_n hx hb dX5_init_15 rfl (lv_at hl 0 rfl) ?_
  refine va_new (ci := 1) (fs := [.long 0, .long 0]) (C := RX1) (T := TX1) (N := 2) hx hb hts hi_X1 tyX1 tyX1_ok hown (hts (.classLink RX5 7 RX1) (by decide +kernel)) (hts (.instantiable RX1 2) (by decide +kernel)) (hts (.initialized RX1) (by decide +kernel)) hK hP hD hS hA rfl (fun j hj => by rcases (show j = 0 ∨ j = 1 by omega) with rfl | rfl <;> rfl) (Nat.le_of_ble_eq_true rfl) (Nat.le_of_ble_eq_true rfl) dX5_init_16 (fun q2 H hP hD hS => ?_)
  have hP : va_P D vwCl [(h0, .inr (4, [.ref q1, .null, .null])), (q1, .inr (1, [.long rg_0.1, .long rg_0.2])), (q2, .inr (1, [.long 0, .long 0]))] H := hP
  have hD : va_D A [(h0, .inr (4, [.ref q1, .null, .null])), (q1, .inr (1, [.long rg_0.1, .long rg_0.2])), (q2, .inr (1, [.long 0, .long 0]))] := hD
  refine W.widen (k := 2) (n := 4) (Nat.le_of_ble_eq_true rfl) (Nat.le_of_ble_eq_true rfl) ?_
  refine lv_dup hx hb dX5_init_19 rfl ?_
  refine ct_callIv (As := []) (rest := [.ref q2, .ref h0]) (wr := [(h0, .inr (4, [.ref q1, .null, .null])), (q1, .inr (1, [.long rg_0.1, .long rg_0.2]))]) (ws2 := [(h0, .inr (4, [.ref q1, .null, .null])), (q1, .inr (1, [.long rg_0.1, .long rg_0.2])), (q2, .inr (1, [.long rg_0.1, .long rg_0.2]))]) ⟨hx, hb, hml, hown, hts⟩ (c_X1_init l D q2) (cwI (rm := ({ frames := 1, cells := 0, slots := 0, locals := 12 } : Room)) 0 hts gX5_init_X1_init rfl rfl rfl (hts (.initialized RX1) (by decide +kernel)) (hts (.methodLink RX5 9 yX1_init) (by decide +kernel)) (hts (.instanceMethod yX1_init) (by decide +kernel)) rfl (by decide +kernel) ⟨Nat.le_of_ble_eq_true rfl, Nat.le_of_ble_eq_true rfl⟩) [2] [0, 1] [0, 1, 2] hF hK hP hD hS hA rfl (by decide) rfl (by decide) (by decide) rfl (by decide) rfl hl.1 rfl (Nat.le_of_ble_eq_true rfl) dX5_init_20 ⟨Nat.le_of_ble_eq_true rfl, Nat.le_of_ble_eq_true rfl⟩ (fun H locs hP hD hS => ?_)
  refine va_putF (D := D) (ci := 4) (v := .ref q2) (ty := .object "BitStreams$Cells") (C := RX5) (T := TX5) (N := 3) hx hb hts hi_X5 tyX5 tyX5_ok nmX5 hown hK hP hD hS 0 rfl rfl 1 (by decide) hf_16 (fun _ h9 => h9) rfl hnm rfl (by decide +kernel) rfl rfl (Nat.le_of_ble_eq_true rfl) dX5_init_23 (fun H locs hP hD hS => ?_)
  have hP : va_P D vwCl [(h0, .inr (4, [.ref q1, .ref q2, .null])), (q1, .inr (1, [.long rg_0.1, .long rg_0.2])), (q2, .inr (1, [.long rg_0.1, .long rg_0.2]))] H := hP
  have hD : va_D A [(h0, .inr (4, [.ref q1, .ref q2, .null])), (q1, .inr (1, [.long rg_0.1, .long rg_0.2])), (q2, .inr (1, [.long rg_0.1, .long rg_0.2]))] := hD
  refine lv_aload_n hx hb dX5_init_26 rfl (lv_at hl 0 rfl) ?_
  refine va_new (ci := 1) (fs := [.long 0, .long 0]) (C := RX1) (T := TX1) (N := 2) hx hb hts hi_X1 tyX1 tyX1_ok hown (hts (.classLink RX5 7 RX1) (by decide +kernel)) (hts (.instantiable RX1 2) (by decide +kernel)) (hts (.initialized RX1) (by decide +kernel)) hK hP hD hS hA rfl (fun j hj => by rcases (show j = 0 ∨ j = 1 by omega) with rfl | rfl <;> rfl) (Nat.le_of_ble_eq_true rfl) (Nat.le_of_ble_eq_true rfl) dX5_init_27 (fun q3 H hP hD hS => ?_)
  have hP : va_P D vwCl [(h0, .inr (4, [.ref q1, .ref q2, .null])), (q1, .inr (1, [.long rg_0.1, .long rg_0.2])), (q2, .inr (1, [.long rg_0.1, .long rg_0.2])), (q3, .inr (1, [.long 0, .long 0]))] H := hP
  have hD : va_D A [(h0, .inr (4, [.ref q1, .ref q2, .null])), (q1, .inr (1, [.long rg_0.1, .long rg_0.2])), (q2, .inr (1, [.long rg_0.1, .long rg_0.2])), (q3, .inr (1, [.long 0, .long 0]))] := hD
  refine W.widen (k := 3) (n := 6) (Nat.le_of_ble_eq_true rfl) (Nat.le_of_ble_eq_true rfl) ?_
  refine lv_dup hx hb dX5_init_30 rfl ?_
  refine ct_callIv (As := []) (rest := [.ref q3, .ref h0]) (wr := [(h0, .inr (4, [.ref q1, .ref q2, .null])), (q1, .inr (1, [.long rg_0.1, .long rg_0.2])), (q2, .inr (1, [.long rg_0.1, .long rg_0.2]))]) (ws2 := [(h0, .inr (4, [.ref q1, .ref q2, .null])), (q1, .inr (1, [.long rg_0.1, .long rg_0.2])), (q2, .inr (1, [.long rg_0.1, .long rg_0.2])), (q3, .inr (1, [.long rg_0.1, .long rg_0.2]))]) ⟨hx, hb, hml, hown, hts⟩ (c_X1_init l D q3) (cwI (rm := ({ frames := 1, cells := 0, slots := 0, locals := 12 } : Room)) 0 hts gX5_init_X1_init rfl rfl rfl (hts (.initialized RX1) (by decide +kernel)) (hts (.methodLink RX5 9 yX1_init) (by decide +kernel)) (hts (.instanceMethod yX1_init) (by decide +kernel)) rfl (by decide +kernel) ⟨Nat.le_of_ble_eq_true rfl, Nat.le_of_ble_eq_true rfl⟩) [3] [0, 1, 2] [0, 1, 2, 3] hF hK hP hD hS hA rfl (by decide) rfl (by decide) (by decide) rfl (by decide) rfl hl.1 rfl (Nat.le_of_ble_eq_true rfl) dX5_init_31 ⟨Nat.le_of_ble_eq_true rfl, Nat.le_of_ble_eq_true rfl⟩ (fun H locs hP hD hS => ?_)
  refine va_putF (D := D) (ci := 4) (v := .ref q3) (ty := .object "BitStreams$Cells") (C := RX5) (T := TX5) (N := 3) hx hb hts hi_X5 tyX5 tyX5_ok nmX5 hown hK hP hD hS 0 rfl rfl 2 (by decide) hf_19 (fun _ h9 => h9) rfl hnm rfl (by decide +kernel) rfl rfl (Nat.le_of_ble_eq_true rfl) dX5_init_34 (fun H locs hP hD hS => ?_)
  have hP : va_P D vwCl [(h0, .inr (4, [.ref q1, .ref q2, .ref q3])), (q1, .inr (1, [.long rg_0.1, .long rg_0.2])), (q2, .inr (1, [.long rg_0.1, .long rg_0.2])), (q3, .inr (1, [.long rg_0.1, .long rg_0.2]))] H := hP
  have hD : va_D A [(h0, .inr (4, [.ref q1, .ref q2, .ref q3])), (q1, .inr (1, [.long rg_0.1, .long rg_0.2])), (q2, .inr (1, [.long rg_0.1, .long rg_0.2])), (q3, .inr (1, [.long rg_0.1, .long rg_0.2]))] := hD
  have hP := hP.sub (ws' := [(h0, .inr (4, [.ref q1, .ref q2, .ref q3])), (q1, .inr (1, [.long rg_0.1, .long rg_0.2])), (q2, .inr (1, [.long rg_0.1, .long rg_0.2])), (q3, .inr (1, [.long rg_0.1, .long rg_0.2]))]) [0, 1, 2, 3] rfl
  have hD := hD.sub (ws' := [(h0, .inr (4, [.ref q1, .ref q2, .ref q3])), (q1, .inr (1, [.long rg_0.1, .long rg_0.2])), (q2, .inr (1, [.long rg_0.1, .long rg_0.2])), (q3, .inr (1, [.long rg_0.1, .long rg_0.2]))]) [0, 1, 2, 3] (by decide) rfl
  have hK := hK.sub (tys' := []) [] rfl
  refine ct_vretN (q1, q2, q3) hx hb hr hlk ?_ ?_ ?_ hS dX5_init_37
  · try dsimp only
    exact hP
  · try dsimp only
    exact hK
  · try dsimp only
    exact hD
set_option maxHeartbeats 4000000 in
set_option maxRecDepth 100000 in
/-- X6() -/
theorem c_X6_init (l : Launch) (D : va_G) (h0 : Nat) : Ctn (S := Nat × Nat) l D yX6_init wsX6_init ({ frames := 2, cells := 2, slots := 4, locals := 32 } : Room) [.ref h0] [] [(h0, .inr (5, [.null, .null]))] (fun u => []) (fun u => [(h0, .inr (5, [.ref u.1, .ref u.2])), (u.1, .inr (1, [.long rg_0.1, .long rg_0.2])), (u.2, .inr (1, [.long rg_0.1, .long rg_0.2]))]) 2 4 := by
  refine ct_ofN (cc := cX6_init) (maxL := 1) (ret := none) (by decide) rfl (Nat.le_of_ble_eq_true rfl) ?_
  intro p e s m below meth c A H locs ls hx hb hr hml hts hown hlk hnm hF hP hK hD hA hS hl
  have hown : s.vm.findClass RX6 = some m.cls := hown
  have hl : lv_has ls 1 [(0, .ref h0)] := hl
  have hi_X1 : ∀ w ∈ u_ws RX1 TX1 2, w ∈ wsX6_init := by decide +kernel
  have hf_10 := hts (.fieldLink RX6 10 "BitStreams$TwoRegisters" "b" "LBitStreams$Cells;") (by decide +kernel)
  have hi_X6 : ∀ w ∈ u_ws RX6 TX6 2, w ∈ wsX6_init := by decide +kernel
  have hf_16 := hts (.fieldLink RX6 16 "BitStreams$TwoRegisters" "s" "LBitStreams$Cells;") (by decide +kernel)
  refine lv_aload_n hx hb dX6_init_0 rfl (lv_at hl 0 rfl) ?_
  refine ct_callNv (As := []) (rest := []) ⟨hx, hb, hml, hown, hts⟩ (c_X3_init l D h0) ⟨va_cnB (rm := ({ frames := 1, cells := 0, slots := 0, locals := 12 } : Room)) 0 hts gX6_init_X3_init_n1 rfl rfl rfl hF.2.1.2.1 (hts (.initialized RX3) (by decide +kernel)) (by decide +kernel) ⟨Nat.le_of_ble_eq_true rfl, Nat.le_of_ble_eq_true rfl⟩, rfl, hts (.instanceMethod yX3_init) (by decide +kernel)⟩ [0] hF hK hP hD hS hA rfl (by decide) rfl hl.1 rfl (Nat.le_of_ble_eq_true rfl) dX6_init_1 ⟨Nat.le_of_ble_eq_true rfl, Nat.le_of_ble_eq_true rfl⟩ (fun H locs hP hD hS => ?_)
  refine lv_aload_n hx hb dX6_init_4 rfl (lv_at hl 0 rfl) ?_
  refine va_new (ci := 1) (fs := [.long 0, .long 0]) (C := RX1) (T := TX1) (N := 2) hx hb hts hi_X1 tyX1 tyX1_ok hown (hts (.classLink RX6 7 RX1) (by decide +kernel)) (hts (.instantiable RX1 2) (by decide +kernel)) (hts (.initialized RX1) (by decide +kernel)) hK hP hD hS hA rfl (fun j hj => by rcases (show j = 0 ∨ j = 1 by omega) with rfl | rfl <;> rfl) (Nat.le_of_ble_eq_true rfl) (Nat.le_of_ble_eq_true rfl) dX6_init_5 (fun q1 H hP hD hS => ?_)
  have hP : va_P D vwCl [(h0, .inr (5, [.null, .null])), (q1, .inr (1, [.long 0, .long 0]))] H := hP
  have hD : va_D A [(h0, .inr (5, [.null, .null])), (q1, .inr (1, [.long 0, .long 0]))] := hD
  refine W.widen (k := 1) (n := 2) (Nat.le_of_ble_eq_true rfl) (Nat.le_of_ble_eq_true rfl) ?_
  refine lv_dup hx hb dX6_init_8 rfl ?_
  refine ct_callIv (As := []) (rest := [.ref q1, .ref h0]) (wr := [(h0, .inr (5, [.null, .null]))]) (ws2 := [(h0, .inr (5, [.null, .null])), (q1, .inr (1, [.long rg_0.1, .long rg_0.2]))]) ⟨hx, hb, hml, hown, hts⟩ (c_X1_init l D q1) (cwI (rm := ({ frames := 1, cells := 0, slots := 0, locals := 12 } : Room)) 0 hts gX6_init_X1_init rfl rfl rfl (hts (.initialized RX1) (by decide +kernel)) (hts (.methodLink RX6 9 yX1_init) (by decide +kernel)) (hts (.instanceMethod yX1_init) (by decide +kernel)) rfl (by decide +kernel) ⟨Nat.le_of_ble_eq_true rfl, Nat.le_of_ble_eq_true rfl⟩) [1] [0] [0, 1] hF hK hP hD hS hA rfl (by decide) rfl (by decide) (by decide) rfl (by decide) rfl hl.1 rfl (Nat.le_of_ble_eq_true rfl) dX6_init_9 ⟨Nat.le_of_ble_eq_true rfl, Nat.le_of_ble_eq_true rfl⟩ (fun H locs hP hD hS => ?_)
  refine va_putF (D := D) (ci := 5) (v := .ref q1) (ty := .object "BitStreams$Cells") (C := RX6) (T := TX6) (N := 2) hx hb hts hi_X6 tyX6 tyX6_ok nmX6 hown hK hP hD hS 0 rfl rfl 0 (by decide) hf_10 (fun _ h9 => h9) rfl hnm rfl (by decide +kernel) rfl rfl (Nat.le_of_ble_eq_true rfl) dX6_init_12 (fun H locs hP hD hS => ?_)
  have hP : va_P D vwCl [(h0, .inr (5, [.ref q1, .null])), (q1, .inr (1, [.long rg_0.1, .long rg_0.2]))] H := hP
  have hD : va_D A [(h0, .inr (5, [.ref q1, .null])), (q1, .inr (1, [.long rg_0.1, .long rg_0.2]))] := hD
  refine lv_aload_n hx hb dX6_init_15 rfl (lv_at hl 0 rfl) ?_
  refine va_new (ci := 1) (fs := [.long 0, .long 0]) (C := RX1) (T := TX1) (N := 2) hx hb hts hi_X1 tyX1 tyX1_ok hown (hts (.classLink RX6 7 RX1) (by decide +kernel)) (hts (.instantiable RX1 2) (by decide +kernel)) (hts (.initialized RX1) (by decide +kernel)) hK hP hD hS hA rfl (fun j hj => by rcases (show j = 0 ∨ j = 1 by omega) with rfl | rfl <;> rfl) (Nat.le_of_ble_eq_true rfl) (Nat.le_of_ble_eq_true rfl) dX6_init_16 (fun q2 H hP hD hS => ?_)
  have hP : va_P D vwCl [(h0, .inr (5, [.ref q1, .null])), (q1, .inr (1, [.long rg_0.1, .long rg_0.2])), (q2, .inr (1, [.long 0, .long 0]))] H := hP
  have hD : va_D A [(h0, .inr (5, [.ref q1, .null])), (q1, .inr (1, [.long rg_0.1, .long rg_0.2])), (q2, .inr (1, [.long 0, .long 0]))] := hD
  refine W.widen (k := 2) (n := 4) (Nat.le_of_ble_eq_true rfl) (Nat.le_of_ble_eq_true rfl) ?_
  refine lv_dup hx hb dX6_init_19 rfl ?_
  refine ct_callIv (As := []) (rest := [.ref q2, .ref h0]) (wr := [(h0, .inr (5, [.ref q1, .null])), (q1, .inr (1, [.long rg_0.1, .long rg_0.2]))]) (ws2 := [(h0, .inr (5, [.ref q1, .null])), (q1, .inr (1, [.long rg_0.1, .long rg_0.2])), (q2, .inr (1, [.long rg_0.1, .long rg_0.2]))]) ⟨hx, hb, hml, hown, hts⟩ (c_X1_init l D q2) (cwI (rm := ({ frames := 1, cells := 0, slots := 0, locals := 12 } : Room)) 0 hts gX6_init_X1_init rfl rfl rfl (hts (.initialized RX1) (by decide +kernel)) (hts (.methodLink RX6 9 yX1_init) (by decide +kernel)) (hts (.instanceMethod yX1_init) (by decide +kernel)) rfl (by decide +kernel) ⟨Nat.le_of_ble_eq_true rfl, Nat.le_of_ble_eq_true rfl⟩) [2] [0, 1] [0, 1, 2] hF hK hP hD hS hA rfl (by decide) rfl (by decide) (by decide) rfl (by decide) rfl hl.1 rfl (Nat.le_of_ble_eq_true rfl) dX6_init_20 ⟨Nat.le_of_ble_eq_true rfl, Nat.le_of_ble_eq_true rfl⟩ (fun H locs hP hD hS => ?_)
  refine va_putF (D := D) (ci := 5) (v := .ref q2) (ty := .object "BitStreams$Cells") (C := RX6) (T := TX6) (N := 2) hx hb hts hi_X6 tyX6 tyX6_ok nmX6 hown hK hP hD hS 0 rfl rfl 1 (by decide) hf_16 (fun _ h9 => h9) rfl hnm rfl (by decide +kernel) rfl rfl (Nat.le_of_ble_eq_true rfl) dX6_init_23 (fun H locs hP hD hS => ?_)
  have hP : va_P D vwCl [(h0, .inr (5, [.ref q1, .ref q2])), (q1, .inr (1, [.long rg_0.1, .long rg_0.2])), (q2, .inr (1, [.long rg_0.1, .long rg_0.2]))] H := hP
  have hD : va_D A [(h0, .inr (5, [.ref q1, .ref q2])), (q1, .inr (1, [.long rg_0.1, .long rg_0.2])), (q2, .inr (1, [.long rg_0.1, .long rg_0.2]))] := hD
  have hP := hP.sub (ws' := [(h0, .inr (5, [.ref q1, .ref q2])), (q1, .inr (1, [.long rg_0.1, .long rg_0.2])), (q2, .inr (1, [.long rg_0.1, .long rg_0.2]))]) [0, 1, 2] rfl
  have hD := hD.sub (ws' := [(h0, .inr (5, [.ref q1, .ref q2])), (q1, .inr (1, [.long rg_0.1, .long rg_0.2])), (q2, .inr (1, [.long rg_0.1, .long rg_0.2]))]) [0, 1, 2] (by decide) rfl
  have hK := hK.sub (tys' := []) [] rfl
  refine ct_vretN (q1, q2) hx hb hr hlk ?_ ?_ ?_ hS dX6_init_26
  · try dsimp only
    exact hP
  · try dsimp only
    exact hK
  · try dsimp only
    exact hD
